set_option maxRecDepth 20000 in
set_option maxHeartbeats 4000000 in
theorem h_Pa_makeLayer_u4_x11 {a : Bool} {b : Bool} {P : Nat → Nat → Nat} {x2 : Int32} {F : cF} {L : cL} {K : cs → Prop} (b_x2 : B 0 2 x2) (hI : IMc F) (hK : ∀ {Z : cF} {LZ : cL}, IMc Z → agc [] [21, 999] F Z → K (Z, LZ, PC a b P)) : p_Pa_makeLayer UL 4 1 x2 (F, L, PC a b P) K := by
  unfold p_Pa_makeLayer
  refine ⟨(show ¬ ((12 : Nat) = NU) from by decide +kernel), ?_⟩
  refine ⟨(show c_cl UL 12 = 7 from cl_12), ?_⟩
  refine ⟨(show ¬ ((13 : Nat) = NU) from by decide +kernel), ?_⟩
  refine ⟨(show c_cl UL 13 = 902 from cl_13), ?_⟩
  refine ⟨(show vp_in (x2) 3 from vp_B b_x2 (by decide +kernel) (by decide +kernel)), ?_⟩
  refine ⟨(show ¬ ((12 : Nat) = NU) from by decide +kernel), ?_⟩
  refine ⟨fun hc => ?_, fun hc => ?_⟩
  · have hq1 := hc
    have q2 : (1) ≤ (F 12 5).toInt ∧ (F 12 5).toInt ≤ (2) := (show B 1 2 (F 12 5) from hI 12 5)
    have q3 : (1) ≤ (F 13 x2.toNatClampNeg).toInt ∧ (F 13 x2.toNatClampNeg).toInt ≤ (2) := (show B 1 2 (F 13 x2.toNatClampNeg) from sB_13 hI b_x2 (by decide +kernel) (by decide +kernel))
    have i4 : (F 12 5).toInt ≤ (F 13 x2.toNatClampNeg).toInt := i_le hq1
    unfold b_Pa_makeLayer_24
    refine ⟨(show ¬ ((12 : Nat) = NU) from by decide +kernel), ?_⟩
    refine ⟨(show c_cl UL 12 = 7 from cl_12), ?_⟩
    refine ⟨(show ¬ ((14 : Nat) = NU) from by decide +kernel), ?_⟩
    refine ⟨(show c_cl UL 14 = 902 from cl_14), ?_⟩
    refine ⟨(show vp_in (x2) 3 from vp_B b_x2 (by decide +kernel) (by decide +kernel)), ?_⟩
    refine ⟨(show ¬ ((12 : Nat) = NU) from by decide +kernel), ?_⟩
    refine ⟨fun hc => ?_, fun hc => ?_⟩
    · have hq5 := hc
      have q6 : (1) ≤ (F 12 6).toInt ∧ (F 12 6).toInt ≤ (2) := (show B 1 2 (F 12 6) from hI 12 6)
      have q7 : (1) ≤ (F 14 x2.toNatClampNeg).toInt ∧ (F 14 x2.toNatClampNeg).toInt ≤ (2) := (show B 1 2 (F 14 x2.toNatClampNeg) from sB_14 hI b_x2 (by decide +kernel) (by decide +kernel))
      have i8 : (F 12 6).toInt ≤ (F 14 x2.toNatClampNeg).toInt := i_le hq5
      unfold b_Pa_makeLayer_49
      refine ⟨fun yx1 yx2 yx3 yx4 yx5 yS => (1 : Nat) = yx1 ∧ x2 = yx2 ∧ (1 : Int32) = yx3 ∧ (1 : Int32) = yx4 ∧ B 0 64 yx5 ∧ ∃ (T14 : cF) (LT14 : cL), yS = (T14, LT14, PC a b P) ∧ IMc T14 ∧ agc [] [21, 999] F T14, fun yx1 yx2 yx3 yx4 yx5 yS => (64 - yx5.toInt).toNat, ⟨rfl, rfl, rfl, rfl, (B_w cqb_0_0_0 (by decide +kernel) (by decide +kernel)), _, _, rfl, hI, (agc_refl (fs := []) (rs := [21, 999]) (F := F))⟩, fun x1_9 x2_10 x3_11 x4_12 x5_13 ST14 hIv => ?_⟩
      obtain ⟨rfl, rfl, rfl, rfl, b15, T14, LT14, rfl, hI16, g17⟩ := hIv
      suffices hs : ∀ (R54 : Nat → Int32 → Int32 → Int32 → Int32 → cs → Prop), (∀ zx1 zx2 zx3 zx4 zx5 zS, ((1 : Nat) = zx1 ∧ x2 = zx2 ∧ (1 : Int32) = zx3 ∧ (1 : Int32) = zx4 ∧ B 0 64 zx5 ∧ ∃ (T14 : cF) (LT14 : cL), zS = (T14, LT14, PC a b P) ∧ IMc T14 ∧ agc [] [21, 999] F T14) → (64 - zx5.toInt).toNat < (64 - x5_13.toInt).toNat → R54 zx1 zx2 zx3 zx4 zx5 zS) → b_Pa_makeLayer_54 UL 4 1 x2 1 1 x5_13 (T14, LT14, PC a b P) R54 K from hs _ (fun _ _ _ _ _ _ h1 h2 => ⟨h1, h2⟩)
      intro R54 hR540
      have hR54 := fun {zx1} {zx2} {zx3} {zx4} {zx5} {zS} => hR540 zx1 zx2 zx3 zx4 zx5 zS
      unfold b_Pa_makeLayer_54
      refine ⟨(show ¬ ((12 : Nat) = NU) from by decide +kernel), ?_⟩
      refine ⟨(show c_cl UL 12 = 7 from cl_12), ?_⟩
      refine ⟨(show ¬ ((16 : Nat) = NU) from by decide +kernel), ?_⟩
      refine ⟨(show c_cl UL 16 = 902 from cl_16), ?_⟩
      refine ⟨(show vp_in (x2) 3 from vp_B b_x2 (by decide +kernel) (by decide +kernel)), ?_⟩
      refine ⟨fun hc => ?_, fun hc => ?_⟩
      · have hq18 := hc
        have q19 : (0) ≤ (F 16 x2.toNatClampNeg).toInt ∧ (F 16 x2.toNatClampNeg).toInt ≤ (64) := (show B 0 64 (F 16 x2.toNatClampNeg) from hI 16 x2.toNatClampNeg)
        have e20 : (T14 16 x2.toNatClampNeg).toInt = (F 16 x2.toNatClampNeg).toInt := (congrArg Int32.toInt (congrFun (g17.2 16 rfl rfl) x2.toNatClampNeg)).trans rfl
        have q21 : (0) ≤ (x5_13).toInt ∧ (x5_13).toInt ≤ (64) := (show B 0 64 (x5_13) from B_w b15 (by decide +kernel) (by decide +kernel))
        have i22 : (T14 16 x2.toNatClampNeg).toInt ≤ (x5_13).toInt := i_le hq18
        have g23 := agc_tr (agc_refl (fs := []) (rs := [21, 999]) (F := F)) g17 (by decide +kernel) (by decide +kernel)
        exact hK hI16 g23
      · have hq24 := (nle_lt hc)
        have b25 : B 0 63 (x5_13) := B_w (B_ltL b15 (B_eq (congrFun (g17.2 16 rfl rfl) x2.toNatClampNeg) (show B 0 64 (F 16 x2.toNatClampNeg) from hI 16 x2.toNatClampNeg)) hq24) (by decide +kernel) (by decide +kernel)
        have b26 : B 1 64 (F 16 x2.toNatClampNeg) := B_w (B_eq (Eq.symm (congrFun (g17.2 16 rfl rfl) x2.toNatClampNeg)) (B_ltR b15 (B_eq (congrFun (g17.2 16 rfl rfl) x2.toNatClampNeg) (show B 0 64 (F 16 x2.toNatClampNeg) from hI 16 x2.toNatClampNeg)) hq24)) (by decide +kernel) (by decide +kernel)
        have q27 : (0) ≤ (x5_13).toInt ∧ (x5_13).toInt ≤ (63) := (show B 0 63 (x5_13) from B_w b25 (by decide +kernel) (by decide +kernel))
        have q28 : (1) ≤ (F 16 x2.toNatClampNeg).toInt ∧ (F 16 x2.toNatClampNeg).toInt ≤ (64) := (show B 1 64 (F 16 x2.toNatClampNeg) from B_w b26 (by decide +kernel) (by decide +kernel))
        have e29 : (T14 16 x2.toNatClampNeg).toInt = (F 16 x2.toNatClampNeg).toInt := (congrArg Int32.toInt (congrFun (g17.2 16 rfl rfl) x2.toNatClampNeg)).trans rfl
        have i30 : (x5_13).toInt < (T14 16 x2.toNatClampNeg).toInt := i_lt hq24
        refine ⟨fun yx1 yx2 yx3 yx4 yx5 yx6 yS => (1 : Nat) = yx1 ∧ x2 = yx2 ∧ (1 : Int32) = yx3 ∧ (1 : Int32) = yx4 ∧ x5_13 = yx5 ∧ B 0 64 yx6 ∧ ∃ (T37 : cF) (LT37 : cL), yS = (T37, LT37, PC a b P) ∧ IMc T37 ∧ agc [] [21] T14 T37, fun yx1 yx2 yx3 yx4 yx5 yx6 yS => (64 - yx6.toInt).toNat, ⟨rfl, rfl, rfl, rfl, rfl, (B_w cqb_0_0_0 (by decide +kernel) (by decide +kernel)), _, _, rfl, hI16, (agc_refl (fs := []) (rs := [21]) (F := T14))⟩, fun x1_31 x2_32 x3_33 x4_34 x5_35 x6_36 ST37 hIv => ?_⟩
        obtain ⟨rfl, rfl, rfl, rfl, rfl, b38, T37, LT37, rfl, hI39, g40⟩ := hIv
        suffices hs : ∀ (R71 : Nat → Int32 → Int32 → Int32 → Int32 → Int32 → cs → Prop), (∀ zx1 zx2 zx3 zx4 zx5 zx6 zS, ((1 : Nat) = zx1 ∧ x2 = zx2 ∧ (1 : Int32) = zx3 ∧ (1 : Int32) = zx4 ∧ x5_13 = zx5 ∧ B 0 64 zx6 ∧ ∃ (T37 : cF) (LT37 : cL), zS = (T37, LT37, PC a b P) ∧ IMc T37 ∧ agc [] [21] T14 T37) → (64 - zx6.toInt).toNat < (64 - x6_36.toInt).toNat → R71 zx1 zx2 zx3 zx4 zx5 zx6 zS) → b_Pa_makeLayer_71 UL 4 1 x2 1 1 x5_13 x6_36 (T37, LT37, PC a b P) R54 R71 K from hs _ (fun _ _ _ _ _ _ _ h1 h2 => ⟨h1, h2⟩)
        intro R71 hR710
        have hR71 := fun {zx1} {zx2} {zx3} {zx4} {zx5} {zx6} {zS} => hR710 zx1 zx2 zx3 zx4 zx5 zx6 zS
        unfold b_Pa_makeLayer_71
        refine ⟨(show ¬ ((12 : Nat) = NU) from by decide +kernel), ?_⟩
        refine ⟨(show c_cl UL 12 = 7 from cl_12), ?_⟩
        refine ⟨(show ¬ ((15 : Nat) = NU) from by decide +kernel), ?_⟩
        refine ⟨(show c_cl UL 15 = 902 from cl_15), ?_⟩
        refine ⟨(show vp_in (x2) 3 from vp_B b_x2 (by decide +kernel) (by decide +kernel)), ?_⟩
        refine ⟨fun hc => ?_, fun hc => ?_⟩
        · have hq41 := hc
          have q42 : (0) ≤ (F 15 x2.toNatClampNeg).toInt ∧ (F 15 x2.toNatClampNeg).toInt ≤ (64) := (show B 0 64 (F 15 x2.toNatClampNeg) from hI 15 x2.toNatClampNeg)
          have e43 : (T37 15 x2.toNatClampNeg).toInt = (F 15 x2.toNatClampNeg).toInt := (congrArg Int32.toInt ((congrFun (g40.2 15 rfl rfl) x2.toNatClampNeg).trans (congrFun (g17.2 15 rfl rfl) x2.toNatClampNeg))).trans rfl
          have q44 : (0) ≤ (x6_36).toInt ∧ (x6_36).toInt ≤ (64) := (show B 0 64 (x6_36) from B_w b38 (by decide +kernel) (by decide +kernel))
          have i45 : (T37 15 x2.toNatClampNeg).toInt ≤ (x6_36).toInt := i_le hq41
          have g47 := agc_tr (agc_refl (fs := []) (rs := [21, 999]) (F := F)) g17 (by decide +kernel) (by decide +kernel)
          have g46 := agc_tr g47 g40 (by decide +kernel) (by decide +kernel)
          have e48 : (x5_13 + 1).toInt = ((x5_13).toInt + 1) := (t_add b25 cqb_1_1_1 (by decide +kernel) (by decide +kernel)).trans (by rw [cqn_1])
          have q49 : (1) ≤ (x5_13 + 1).toInt ∧ (x5_13 + 1).toInt ≤ (64) := (show B 1 64 (x5_13 + 1) from B_w (B_add b25 cqb_1_1_1 (by decide +kernel) (by decide +kernel)) (by decide +kernel) (by decide +kernel))
          exact hR54 ⟨rfl, rfl, rfl, rfl, (B_w (B_add b25 cqb_1_1_1 (by decide +kernel) (by decide +kernel)) (by decide +kernel) (by decide +kernel)), _, _, rfl, hI39, g46⟩ (by show (64 - (x5_13 + 1).toInt).toNat < (64 - x5_13.toInt).toNat; omega)
        · have hq50 := (nle_lt hc)
          have b51 : B 0 63 (x6_36) := B_w (B_ltL b38 (B_eq ((congrFun (g40.2 15 rfl rfl) x2.toNatClampNeg).trans (congrFun (g17.2 15 rfl rfl) x2.toNatClampNeg)) (show B 0 64 (F 15 x2.toNatClampNeg) from hI 15 x2.toNatClampNeg)) hq50) (by decide +kernel) (by decide +kernel)
          have b52 : B 1 64 (F 15 x2.toNatClampNeg) := B_w (B_eq (Eq.symm ((congrFun (g40.2 15 rfl rfl) x2.toNatClampNeg).trans (congrFun (g17.2 15 rfl rfl) x2.toNatClampNeg))) (B_ltR b38 (B_eq ((congrFun (g40.2 15 rfl rfl) x2.toNatClampNeg).trans (congrFun (g17.2 15 rfl rfl) x2.toNatClampNeg)) (show B 0 64 (F 15 x2.toNatClampNeg) from hI 15 x2.toNatClampNeg)) hq50)) (by decide +kernel) (by decide +kernel)
          have q53 : (0) ≤ (x6_36).toInt ∧ (x6_36).toInt ≤ (63) := (show B 0 63 (x6_36) from B_w b51 (by decide +kernel) (by decide +kernel))
          have q54 : (1) ≤ (F 15 x2.toNatClampNeg).toInt ∧ (F 15 x2.toNatClampNeg).toInt ≤ (64) := (show B 1 64 (F 15 x2.toNatClampNeg) from B_w b52 (by decide +kernel) (by decide +kernel))
          have e55 : (T37 15 x2.toNatClampNeg).toInt = (F 15 x2.toNatClampNeg).toInt := (congrArg Int32.toInt ((congrFun (g40.2 15 rfl rfl) x2.toNatClampNeg).trans (congrFun (g17.2 15 rfl rfl) x2.toNatClampNeg))).trans rfl
          have i56 : (x6_36).toInt < (T37 15 x2.toNatClampNeg).toInt := i_lt hq50
          refine ⟨fun yx1 yx2 yx3 yx4 yx5 yx6 yx7 yx8 yS => (1 : Nat) = yx1 ∧ x2 = yx2 ∧ (1 : Int32) = yx3 ∧ (1 : Int32) = yx4 ∧ x5_13 = yx5 ∧ x6_36 = yx6 ∧ B (-2147483648) 2147483647 yx7 ∧ B 0 4 yx8 ∧ (T37, LT37, PC a b P) = yS, fun yx1 yx2 yx3 yx4 yx5 yx6 yx7 yx8 yS => (4 - yx8.toInt).toNat, ⟨rfl, rfl, rfl, rfl, rfl, rfl, (B_w (show B 0 0 ((1 * 1) / 2) from B_div2 (B_mul cqb_1_1_1 cqb_1_1_1 (by decide +kernel) (by decide +kernel) (by decide +kernel)) cqb_2_2_2 (by decide +kernel) (by decide +kernel) (by decide +kernel) (by decide +kernel)) (by decide +kernel) (by decide +kernel)), (B_w cqb_0_0_0 (by decide +kernel) (by decide +kernel)), rfl⟩, fun x1_57 x2_58 x3_59 x4_60 x5_61 x6_62 x7_63 x8_64 ST65 hIv => ?_⟩
          obtain ⟨rfl, rfl, rfl, rfl, rfl, rfl, b66, b67, rfl⟩ := hIv
          suffices hs : ∀ (R96 : Nat → Int32 → Int32 → Int32 → Int32 → Int32 → Int32 → Int32 → cs → Prop), (∀ zx1 zx2 zx3 zx4 zx5 zx6 zx7 zx8 zS, ((1 : Nat) = zx1 ∧ x2 = zx2 ∧ (1 : Int32) = zx3 ∧ (1 : Int32) = zx4 ∧ x5_13 = zx5 ∧ x6_36 = zx6 ∧ B (-2147483648) 2147483647 zx7 ∧ B 0 4 zx8 ∧ (T37, LT37, PC a b P) = zS) → (4 - zx8.toInt).toNat < (4 - x8_64.toInt).toNat → R96 zx1 zx2 zx3 zx4 zx5 zx6 zx7 zx8 zS) → b_Pa_makeLayer_96 UL 4 1 x2 1 1 x5_13 x6_36 x7_63 x8_64 (T37, LT37, PC a b P) R54 R71 R96 K from hs _ (fun _ _ _ _ _ _ _ _ _ h1 h2 => ⟨h1, h2⟩)
          intro R96 hR960
          have hR96 := fun {zx1} {zx2} {zx3} {zx4} {zx5} {zx6} {zx7} {zx8} {zS} => hR960 zx1 zx2 zx3 zx4 zx5 zx6 zx7 zx8 zS
          unfold b_Pa_makeLayer_96
          refine ⟨fun hc => ?_, fun hc => ?_⟩
          · have hq68 := hc
            have b69 : B 1 4 (x8_64) := B_w (B_leR (B_mul cqb_1_1_1 cqb_1_1_1 (by decide +kernel) (by decide +kernel) (by decide +kernel)) b67 hq68) (by decide +kernel) (by decide +kernel)
            have e70 : (((1 : Int32) * 1)).toInt = 1 := by decide +kernel
            have q71 : (1) ≤ (x8_64).toInt ∧ (x8_64).toInt ≤ (4) := (show B 1 4 (x8_64) from B_w b69 (by decide +kernel) (by decide +kernel))
            have i72 : (((1 : Int32) * 1)).toInt ≤ (x8_64).toInt := i_le hq68
            refine ⟨(show ¬ ((12 : Nat) = NU) from by decide +kernel), ?_⟩
            refine ⟨(show c_cl UL 12 = 7 from cl_12), ?_⟩
            refine ⟨(show ¬ ((21 : Nat) = NU) from by decide +kernel), ?_⟩
            try unfold p_B_spot
            refine ⟨B_nz (B_mul cqb_1_1_1 cqb_1_1_1 (by decide +kernel) (by decide +kernel) (by decide +kernel)) (by decide +kernel), ?_⟩
            refine ⟨(show c_cl UL 21 = 902 from cl_21), ?_⟩
            refine ⟨(show vp_in (((4096 * x2) + (64 * x5_13)) + x6_36) 12288 from vp_B (B_add (B_add (B_mul cqb_4096_4096_4096 b_x2 (by decide +kernel) (by decide +kernel) (by decide +kernel)) (B_mul cqb_64_64_64 b25 (by decide +kernel) (by decide +kernel) (by decide +kernel)) (by decide +kernel) (by decide +kernel)) b51 (by decide +kernel) (by decide +kernel)) (by decide +kernel) (by decide +kernel)), ?_⟩
            have hI73 := IMc_u (u := 21) (i := (((4096 * x2) + (64 * x5_13)) + x6_36).toNatClampNeg) (v := x7_63 / (1 * 1)) hI39 (show B (-2147483648) 2147483647 (x7_63 / (1 * 1)) from (B_w (B_any _) (by decide +kernel) (by decide +kernel)))
            have g75 := agc_tr (agc_refl (fs := []) (rs := [21]) (F := T14)) g40 (by decide +kernel) (by decide +kernel)
            have g74 := agc_r (u := 21) (w := upd (T37 21) (((4096 * x2) + (64 * x5_13)) + x6_36).toNatClampNeg (x7_63 / (1 * 1))) g75 rfl (by decide +kernel)
            have e76 : (x6_36 + 1).toInt = ((x6_36).toInt + 1) := (t_add b51 cqb_1_1_1 (by decide +kernel) (by decide +kernel)).trans (by rw [cqn_1])
            have q77 : (1) ≤ (x6_36 + 1).toInt ∧ (x6_36 + 1).toInt ≤ (64) := (show B 1 64 (x6_36 + 1) from B_w (B_add b51 cqb_1_1_1 (by decide +kernel) (by decide +kernel)) (by decide +kernel) (by decide +kernel))
            exact hR71 ⟨rfl, rfl, rfl, rfl, rfl, (B_w (B_add b51 cqb_1_1_1 (by decide +kernel) (by decide +kernel)) (by decide +kernel) (by decide +kernel)), _, _, rfl, hI73, g74⟩ (by show (64 - (x6_36 + 1).toInt).toNat < (64 - x6_36.toInt).toNat; omega)
          · have hq78 := (nle_lt hc)
            have b79 : B 0 0 (x8_64) := B_w (B_ltL b67 (B_mul cqb_1_1_1 cqb_1_1_1 (by decide +kernel) (by decide +kernel) (by decide +kernel)) hq78) (by decide +kernel) (by decide +kernel)
            have pr80 : (x8_64).toInt < (((1 : Int32) * 1)).toInt := i_lt hq78
            have q81 : (0) ≤ (x8_64).toInt ∧ (x8_64).toInt ≤ (0) := (show B 0 0 (x8_64) from B_w b79 (by decide +kernel) (by decide +kernel))
            have e82 : (((1 : Int32) * 1)).toInt = 1 := by decide +kernel
            have i83 : (x8_64).toInt < (((1 : Int32) * 1)).toInt := i_lt hq78
            refine ⟨(show c_cl UL 1 = 2 from cl_1), ?_⟩
            refine ⟨B_nz cqb_1_1_1 (by decide +kernel), ?_⟩
            refine ⟨B_nz cqb_1_1_1 (by decide +kernel), ?_⟩
            refine h_Ca_kind_u1 b_x2 (B_w (show B 0 63 (i_min ((T37 1 0) - 1) ((1 * x6_36) + (x8_64 - ((x8_64 / 1) * 1)))) from B_i_min (B_sub (B_eq ((g40.1 1 0 rfl rfl).trans (g17.1 1 0 rfl rfl)) (show B 1 64 (F 1 0) from hI 1 0)) cqb_1_1_1 (by decide +kernel) (by decide +kernel)) (B_add (B_mul cqb_1_1_1 b51 (by decide +kernel) (by decide +kernel) (by decide +kernel)) (B_rem b79 cqb_1_1_1 (by decide +kernel) (by decide +kernel)) (by decide +kernel) (by decide +kernel)) (by decide +kernel) (by decide +kernel)) (by decide +kernel) (by decide +kernel)) (B_w (show B 0 63 (i_min ((T37 1 1) - 1) ((1 * x5_13) + (x8_64 / 1))) from B_i_min (B_sub (B_eq ((g40.1 1 1 rfl rfl).trans (g17.1 1 1 rfl rfl)) (show B 1 64 (F 1 1) from hI 1 1)) cqb_1_1_1 (by decide +kernel) (by decide +kernel)) (B_add (B_mul cqb_1_1_1 b25 (by decide +kernel) (by decide +kernel) (by decide +kernel)) (show B 0 0 (x8_64 / 1) from B_w (dv_lt (x := x8_64) (w := 1) (h := 1) b79 cqb_1_1_1 cqb_1_1_1 pr80 (by decide +kernel) (by decide +kernel) (by decide +kernel)) (by decide +kernel) (by decide +kernel)) (by decide +kernel) (by decide +kernel)) (by decide +kernel) (by decide +kernel)) (by decide +kernel) (by decide +kernel)) hI39 (fun {v146_84} b86 => ?_)
            have e87 : (x8_64 + 1).toInt = ((x8_64).toInt + 1) := (t_add b79 cqb_1_1_1 (by decide +kernel) (by decide +kernel)).trans (by rw [cqn_1])
            have q88 : (1) ≤ (x8_64 + 1).toInt ∧ (x8_64 + 1).toInt ≤ (1) := (show B 1 1 (x8_64 + 1) from B_w (B_add b79 cqb_1_1_1 (by decide +kernel) (by decide +kernel)) (by decide +kernel) (by decide +kernel))
            exact hR96 ⟨rfl, rfl, rfl, rfl, rfl, rfl, (B_w (B_any _) (by decide +kernel) (by decide +kernel)), (B_w (B_add b79 cqb_1_1_1 (by decide +kernel) (by decide +kernel)) (by decide +kernel) (by decide +kernel)), rfl⟩ (by show (4 - (x8_64 + 1).toInt).toNat < (4 - x8_64.toInt).toNat; omega)
    · have hq89 := (nle_lt hc)
      have b90 : B 1 1 (F 14 x2.toNatClampNeg) := B_w (B_ltL (show B 1 2 (F 14 x2.toNatClampNeg) from sB_14 hI b_x2 (by decide +kernel) (by decide +kernel)) (show B 1 2 (F 12 6) from hI 12 6) hq89) (by decide +kernel) (by decide +kernel)
      have b91 : B 2 2 (F 12 6) := B_w (B_ltR (show B 1 2 (F 14 x2.toNatClampNeg) from sB_14 hI b_x2 (by decide +kernel) (by decide +kernel)) (show B 1 2 (F 12 6) from hI 12 6) hq89) (by decide +kernel) (by decide +kernel)
      have q92 : (1) ≤ (F 14 x2.toNatClampNeg).toInt ∧ (F 14 x2.toNatClampNeg).toInt ≤ (1) := (show B 1 1 (F 14 x2.toNatClampNeg) from B_w b90 (by decide +kernel) (by decide +kernel))
      have q93 : (2) ≤ (F 12 6).toInt ∧ (F 12 6).toInt ≤ (2) := (show B 2 2 (F 12 6) from B_w b91 (by decide +kernel) (by decide +kernel))
      have i94 : (F 14 x2.toNatClampNeg).toInt < (F 12 6).toInt := i_lt hq89
      unfold b_Pa_makeLayer_49
      refine ⟨fun yx1 yx2 yx3 yx4 yx5 yS => (1 : Nat) = yx1 ∧ x2 = yx2 ∧ (1 : Int32) = yx3 ∧ (2 : Int32) = yx4 ∧ B 0 64 yx5 ∧ ∃ (T100 : cF) (LT100 : cL), yS = (T100, LT100, PC a b P) ∧ IMc T100 ∧ agc [] [21, 999] F T100, fun yx1 yx2 yx3 yx4 yx5 yS => (64 - yx5.toInt).toNat, ⟨rfl, rfl, rfl, rfl, (B_w cqb_0_0_0 (by decide +kernel) (by decide +kernel)), _, _, rfl, hI, (agc_refl (fs := []) (rs := [21, 999]) (F := F))⟩, fun x1_95 x2_96 x3_97 x4_98 x5_99 ST100 hIv => ?_⟩
      obtain ⟨rfl, rfl, rfl, rfl, b101, T100, LT100, rfl, hI102, g103⟩ := hIv
      suffices hs : ∀ (R54 : Nat → Int32 → Int32 → Int32 → Int32 → cs → Prop), (∀ zx1 zx2 zx3 zx4 zx5 zS, ((1 : Nat) = zx1 ∧ x2 = zx2 ∧ (1 : Int32) = zx3 ∧ (2 : Int32) = zx4 ∧ B 0 64 zx5 ∧ ∃ (T100 : cF) (LT100 : cL), zS = (T100, LT100, PC a b P) ∧ IMc T100 ∧ agc [] [21, 999] F T100) → (64 - zx5.toInt).toNat < (64 - x5_99.toInt).toNat → R54 zx1 zx2 zx3 zx4 zx5 zS) → b_Pa_makeLayer_54 UL 4 1 x2 1 2 x5_99 (T100, LT100, PC a b P) R54 K from hs _ (fun _ _ _ _ _ _ h1 h2 => ⟨h1, h2⟩)
      intro R54 hR540
      have hR54 := fun {zx1} {zx2} {zx3} {zx4} {zx5} {zS} => hR540 zx1 zx2 zx3 zx4 zx5 zS
      unfold b_Pa_makeLayer_54
      refine ⟨(show ¬ ((12 : Nat) = NU) from by decide +kernel), ?_⟩
      refine ⟨(show c_cl UL 12 = 7 from cl_12), ?_⟩
      refine ⟨(show ¬ ((16 : Nat) = NU) from by decide +kernel), ?_⟩
      refine ⟨(show c_cl UL 16 = 902 from cl_16), ?_⟩
      refine ⟨(show vp_in (x2) 3 from vp_B b_x2 (by decide +kernel) (by decide +kernel)), ?_⟩
      refine ⟨fun hc => ?_, fun hc => ?_⟩
      · have hq104 := hc
        have q105 : (0) ≤ (F 16 x2.toNatClampNeg).toInt ∧ (F 16 x2.toNatClampNeg).toInt ≤ (64) := (show B 0 64 (F 16 x2.toNatClampNeg) from hI 16 x2.toNatClampNeg)
        have e106 : (T100 16 x2.toNatClampNeg).toInt = (F 16 x2.toNatClampNeg).toInt := (congrArg Int32.toInt (congrFun (g103.2 16 rfl rfl) x2.toNatClampNeg)).trans rfl
        have q107 : (0) ≤ (x5_99).toInt ∧ (x5_99).toInt ≤ (64) := (show B 0 64 (x5_99) from B_w b101 (by decide +kernel) (by decide +kernel))
        have i108 : (T100 16 x2.toNatClampNeg).toInt ≤ (x5_99).toInt := i_le hq104
        have g109 := agc_tr (agc_refl (fs := []) (rs := [21, 999]) (F := F)) g103 (by decide +kernel) (by decide +kernel)
        exact hK hI102 g109
      · have hq110 := (nle_lt hc)
        have b111 : B 0 63 (x5_99) := B_w (B_ltL b101 (B_eq (congrFun (g103.2 16 rfl rfl) x2.toNatClampNeg) (show B 0 64 (F 16 x2.toNatClampNeg) from hI 16 x2.toNatClampNeg)) hq110) (by decide +kernel) (by decide +kernel)
        have b112 : B 1 64 (F 16 x2.toNatClampNeg) := B_w (B_eq (Eq.symm (congrFun (g103.2 16 rfl rfl) x2.toNatClampNeg)) (B_ltR b101 (B_eq (congrFun (g103.2 16 rfl rfl) x2.toNatClampNeg) (show B 0 64 (F 16 x2.toNatClampNeg) from hI 16 x2.toNatClampNeg)) hq110)) (by decide +kernel) (by decide +kernel)
        have q113 : (0) ≤ (x5_99).toInt ∧ (x5_99).toInt ≤ (63) := (show B 0 63 (x5_99) from B_w b111 (by decide +kernel) (by decide +kernel))
        have q114 : (1) ≤ (F 16 x2.toNatClampNeg).toInt ∧ (F 16 x2.toNatClampNeg).toInt ≤ (64) := (show B 1 64 (F 16 x2.toNatClampNeg) from B_w b112 (by decide +kernel) (by decide +kernel))
        have e115 : (T100 16 x2.toNatClampNeg).toInt = (F 16 x2.toNatClampNeg).toInt := (congrArg Int32.toInt (congrFun (g103.2 16 rfl rfl) x2.toNatClampNeg)).trans rfl
        have i116 : (x5_99).toInt < (T100 16 x2.toNatClampNeg).toInt := i_lt hq110
        refine ⟨fun yx1 yx2 yx3 yx4 yx5 yx6 yS => (1 : Nat) = yx1 ∧ x2 = yx2 ∧ (1 : Int32) = yx3 ∧ (2 : Int32) = yx4 ∧ x5_99 = yx5 ∧ B 0 64 yx6 ∧ ∃ (T123 : cF) (LT123 : cL), yS = (T123, LT123, PC a b P) ∧ IMc T123 ∧ agc [] [21] T100 T123, fun yx1 yx2 yx3 yx4 yx5 yx6 yS => (64 - yx6.toInt).toNat, ⟨rfl, rfl, rfl, rfl, rfl, (B_w cqb_0_0_0 (by decide +kernel) (by decide +kernel)), _, _, rfl, hI102, (agc_refl (fs := []) (rs := [21]) (F := T100))⟩, fun x1_117 x2_118 x3_119 x4_120 x5_121 x6_122 ST123 hIv => ?_⟩
        obtain ⟨rfl, rfl, rfl, rfl, rfl, b124, T123, LT123, rfl, hI125, g126⟩ := hIv
        suffices hs : ∀ (R71 : Nat → Int32 → Int32 → Int32 → Int32 → Int32 → cs → Prop), (∀ zx1 zx2 zx3 zx4 zx5 zx6 zS, ((1 : Nat) = zx1 ∧ x2 = zx2 ∧ (1 : Int32) = zx3 ∧ (2 : Int32) = zx4 ∧ x5_99 = zx5 ∧ B 0 64 zx6 ∧ ∃ (T123 : cF) (LT123 : cL), zS = (T123, LT123, PC a b P) ∧ IMc T123 ∧ agc [] [21] T100 T123) → (64 - zx6.toInt).toNat < (64 - x6_122.toInt).toNat → R71 zx1 zx2 zx3 zx4 zx5 zx6 zS) → b_Pa_makeLayer_71 UL 4 1 x2 1 2 x5_99 x6_122 (T123, LT123, PC a b P) R54 R71 K from hs _ (fun _ _ _ _ _ _ _ h1 h2 => ⟨h1, h2⟩)
        intro R71 hR710
        have hR71 := fun {zx1} {zx2} {zx3} {zx4} {zx5} {zx6} {zS} => hR710 zx1 zx2 zx3 zx4 zx5 zx6 zS
        unfold b_Pa_makeLayer_71
        refine ⟨(show ¬ ((12 : Nat) = NU) from by decide +kernel), ?_⟩
        refine ⟨(show c_cl UL 12 = 7 from cl_12), ?_⟩
        refine ⟨(show ¬ ((15 : Nat) = NU) from by decide +kernel), ?_⟩
        refine ⟨(show c_cl UL 15 = 902 from cl_15), ?_⟩
        refine ⟨(show vp_in (x2) 3 from vp_B b_x2 (by decide +kernel) (by decide +kernel)), ?_⟩
        refine ⟨fun hc => ?_, fun hc => ?_⟩
        · have hq127 := hc
          have q128 : (0) ≤ (F 15 x2.toNatClampNeg).toInt ∧ (F 15 x2.toNatClampNeg).toInt ≤ (64) := (show B 0 64 (F 15 x2.toNatClampNeg) from hI 15 x2.toNatClampNeg)
          have e129 : (T123 15 x2.toNatClampNeg).toInt = (F 15 x2.toNatClampNeg).toInt := (congrArg Int32.toInt ((congrFun (g126.2 15 rfl rfl) x2.toNatClampNeg).trans (congrFun (g103.2 15 rfl rfl) x2.toNatClampNeg))).trans rfl
          have q130 : (0) ≤ (x6_122).toInt ∧ (x6_122).toInt ≤ (64) := (show B 0 64 (x6_122) from B_w b124 (by decide +kernel) (by decide +kernel))
          have i131 : (T123 15 x2.toNatClampNeg).toInt ≤ (x6_122).toInt := i_le hq127
          have g133 := agc_tr (agc_refl (fs := []) (rs := [21, 999]) (F := F)) g103 (by decide +kernel) (by decide +kernel)
          have g132 := agc_tr g133 g126 (by decide +kernel) (by decide +kernel)
          have e134 : (x5_99 + 1).toInt = ((x5_99).toInt + 1) := (t_add b111 cqb_1_1_1 (by decide +kernel) (by decide +kernel)).trans (by rw [cqn_1])
          have q135 : (1) ≤ (x5_99 + 1).toInt ∧ (x5_99 + 1).toInt ≤ (64) := (show B 1 64 (x5_99 + 1) from B_w (B_add b111 cqb_1_1_1 (by decide +kernel) (by decide +kernel)) (by decide +kernel) (by decide +kernel))
          exact hR54 ⟨rfl, rfl, rfl, rfl, (B_w (B_add b111 cqb_1_1_1 (by decide +kernel) (by decide +kernel)) (by decide +kernel) (by decide +kernel)), _, _, rfl, hI125, g132⟩ (by show (64 - (x5_99 + 1).toInt).toNat < (64 - x5_99.toInt).toNat; omega)
        · have hq136 := (nle_lt hc)
          have b137 : B 0 63 (x6_122) := B_w (B_ltL b124 (B_eq ((congrFun (g126.2 15 rfl rfl) x2.toNatClampNeg).trans (congrFun (g103.2 15 rfl rfl) x2.toNatClampNeg)) (show B 0 64 (F 15 x2.toNatClampNeg) from hI 15 x2.toNatClampNeg)) hq136) (by decide +kernel) (by decide +kernel)
          have b138 : B 1 64 (F 15 x2.toNatClampNeg) := B_w (B_eq (Eq.symm ((congrFun (g126.2 15 rfl rfl) x2.toNatClampNeg).trans (congrFun (g103.2 15 rfl rfl) x2.toNatClampNeg))) (B_ltR b124 (B_eq ((congrFun (g126.2 15 rfl rfl) x2.toNatClampNeg).trans (congrFun (g103.2 15 rfl rfl) x2.toNatClampNeg)) (show B 0 64 (F 15 x2.toNatClampNeg) from hI 15 x2.toNatClampNeg)) hq136)) (by decide +kernel) (by decide +kernel)
          have q139 : (0) ≤ (x6_122).toInt ∧ (x6_122).toInt ≤ (63) := (show B 0 63 (x6_122) from B_w b137 (by decide +kernel) (by decide +kernel))
          have q140 : (1) ≤ (F 15 x2.toNatClampNeg).toInt ∧ (F 15 x2.toNatClampNeg).toInt ≤ (64) := (show B 1 64 (F 15 x2.toNatClampNeg) from B_w b138 (by decide +kernel) (by decide +kernel))
          have e141 : (T123 15 x2.toNatClampNeg).toInt = (F 15 x2.toNatClampNeg).toInt := (congrArg Int32.toInt ((congrFun (g126.2 15 rfl rfl) x2.toNatClampNeg).trans (congrFun (g103.2 15 rfl rfl) x2.toNatClampNeg))).trans rfl
          have i142 : (x6_122).toInt < (T123 15 x2.toNatClampNeg).toInt := i_lt hq136
          refine ⟨fun yx1 yx2 yx3 yx4 yx5 yx6 yx7 yx8 yS => (1 : Nat) = yx1 ∧ x2 = yx2 ∧ (1 : Int32) = yx3 ∧ (2 : Int32) = yx4 ∧ x5_99 = yx5 ∧ x6_122 = yx6 ∧ B (-2147483648) 2147483647 yx7 ∧ B 0 4 yx8 ∧ (T123, LT123, PC a b P) = yS, fun yx1 yx2 yx3 yx4 yx5 yx6 yx7 yx8 yS => (4 - yx8.toInt).toNat, ⟨rfl, rfl, rfl, rfl, rfl, rfl, (B_w (show B 1 1 ((1 * 2) / 2) from B_div2 (B_mul cqb_1_1_1 cqb_2_2_2 (by decide +kernel) (by decide +kernel) (by decide +kernel)) cqb_2_2_2 (by decide +kernel) (by decide +kernel) (by decide +kernel) (by decide +kernel)) (by decide +kernel) (by decide +kernel)), (B_w cqb_0_0_0 (by decide +kernel) (by decide +kernel)), rfl⟩, fun x1_143 x2_144 x3_145 x4_146 x5_147 x6_148 x7_149 x8_150 ST151 hIv => ?_⟩
          obtain ⟨rfl, rfl, rfl, rfl, rfl, rfl, b152, b153, rfl⟩ := hIv
          suffices hs : ∀ (R96 : Nat → Int32 → Int32 → Int32 → Int32 → Int32 → Int32 → Int32 → cs → Prop), (∀ zx1 zx2 zx3 zx4 zx5 zx6 zx7 zx8 zS, ((1 : Nat) = zx1 ∧ x2 = zx2 ∧ (1 : Int32) = zx3 ∧ (2 : Int32) = zx4 ∧ x5_99 = zx5 ∧ x6_122 = zx6 ∧ B (-2147483648) 2147483647 zx7 ∧ B 0 4 zx8 ∧ (T123, LT123, PC a b P) = zS) → (4 - zx8.toInt).toNat < (4 - x8_150.toInt).toNat → R96 zx1 zx2 zx3 zx4 zx5 zx6 zx7 zx8 zS) → b_Pa_makeLayer_96 UL 4 1 x2 1 2 x5_99 x6_122 x7_149 x8_150 (T123, LT123, PC a b P) R54 R71 R96 K from hs _ (fun _ _ _ _ _ _ _ _ _ h1 h2 => ⟨h1, h2⟩)
          intro R96 hR960
          have hR96 := fun {zx1} {zx2} {zx3} {zx4} {zx5} {zx6} {zx7} {zx8} {zS} => hR960 zx1 zx2 zx3 zx4 zx5 zx6 zx7 zx8 zS
          unfold b_Pa_makeLayer_96
          refine ⟨fun hc => ?_, fun hc => ?_⟩
          · have hq154 := hc
            have b155 : B 2 4 (x8_150) := B_w (B_leR (B_mul cqb_1_1_1 cqb_2_2_2 (by decide +kernel) (by decide +kernel) (by decide +kernel)) b153 hq154) (by decide +kernel) (by decide +kernel)
            have e156 : (((1 : Int32) * 2)).toInt = 2 := by decide +kernel
            have q157 : (2) ≤ (x8_150).toInt ∧ (x8_150).toInt ≤ (4) := (show B 2 4 (x8_150) from B_w b155 (by decide +kernel) (by decide +kernel))
            have i158 : (((1 : Int32) * 2)).toInt ≤ (x8_150).toInt := i_le hq154
            refine ⟨(show ¬ ((12 : Nat) = NU) from by decide +kernel), ?_⟩
            refine ⟨(show c_cl UL 12 = 7 from cl_12), ?_⟩
            refine ⟨(show ¬ ((21 : Nat) = NU) from by decide +kernel), ?_⟩
            try unfold p_B_spot
            refine ⟨B_nz (B_mul cqb_1_1_1 cqb_2_2_2 (by decide +kernel) (by decide +kernel) (by decide +kernel)) (by decide +kernel), ?_⟩
            refine ⟨(show c_cl UL 21 = 902 from cl_21), ?_⟩
            refine ⟨(show vp_in (((4096 * x2) + (64 * x5_99)) + x6_122) 12288 from vp_B (B_add (B_add (B_mul cqb_4096_4096_4096 b_x2 (by decide +kernel) (by decide +kernel) (by decide +kernel)) (B_mul cqb_64_64_64 b111 (by decide +kernel) (by decide +kernel) (by decide +kernel)) (by decide +kernel) (by decide +kernel)) b137 (by decide +kernel) (by decide +kernel)) (by decide +kernel) (by decide +kernel)), ?_⟩
            have hI159 := IMc_u (u := 21) (i := (((4096 * x2) + (64 * x5_99)) + x6_122).toNatClampNeg) (v := x7_149 / (1 * 2)) hI125 (show B (-2147483648) 2147483647 (x7_149 / (1 * 2)) from (B_w (B_any _) (by decide +kernel) (by decide +kernel)))
            have g161 := agc_tr (agc_refl (fs := []) (rs := [21]) (F := T100)) g126 (by decide +kernel) (by decide +kernel)
            have g160 := agc_r (u := 21) (w := upd (T123 21) (((4096 * x2) + (64 * x5_99)) + x6_122).toNatClampNeg (x7_149 / (1 * 2))) g161 rfl (by decide +kernel)
            have e162 : (x6_122 + 1).toInt = ((x6_122).toInt + 1) := (t_add b137 cqb_1_1_1 (by decide +kernel) (by decide +kernel)).trans (by rw [cqn_1])
            have q163 : (1) ≤ (x6_122 + 1).toInt ∧ (x6_122 + 1).toInt ≤ (64) := (show B 1 64 (x6_122 + 1) from B_w (B_add b137 cqb_1_1_1 (by decide +kernel) (by decide +kernel)) (by decide +kernel) (by decide +kernel))
            exact hR71 ⟨rfl, rfl, rfl, rfl, rfl, (B_w (B_add b137 cqb_1_1_1 (by decide +kernel) (by decide +kernel)) (by decide +kernel) (by decide +kernel)), _, _, rfl, hI159, g160⟩ (by show (64 - (x6_122 + 1).toInt).toNat < (64 - x6_122.toInt).toNat; omega)
          · have hq164 := (nle_lt hc)
            have b165 : B 0 1 (x8_150) := B_w (B_ltL b153 (B_mul cqb_1_1_1 cqb_2_2_2 (by decide +kernel) (by decide +kernel) (by decide +kernel)) hq164) (by decide +kernel) (by decide +kernel)
            have pr166 : (x8_150).toInt < (((1 : Int32) * 2)).toInt := i_lt hq164
            have q167 : (0) ≤ (x8_150).toInt ∧ (x8_150).toInt ≤ (1) := (show B 0 1 (x8_150) from B_w b165 (by decide +kernel) (by decide +kernel))
            have e168 : (((1 : Int32) * 2)).toInt = 2 := by decide +kernel
            have i169 : (x8_150).toInt < (((1 : Int32) * 2)).toInt := i_lt hq164
            refine ⟨(show c_cl UL 1 = 2 from cl_1), ?_⟩
            refine ⟨B_nz cqb_1_1_1 (by decide +kernel), ?_⟩
            refine ⟨B_nz cqb_1_1_1 (by decide +kernel), ?_⟩
            refine h_Ca_kind_u1 b_x2 (B_w (show B 0 63 (i_min ((T123 1 0) - 1) ((1 * x6_122) + (x8_150 - ((x8_150 / 1) * 1)))) from B_i_min (B_sub (B_eq ((g126.1 1 0 rfl rfl).trans (g103.1 1 0 rfl rfl)) (show B 1 64 (F 1 0) from hI 1 0)) cqb_1_1_1 (by decide +kernel) (by decide +kernel)) (B_add (B_mul cqb_1_1_1 b137 (by decide +kernel) (by decide +kernel) (by decide +kernel)) (B_rem b165 cqb_1_1_1 (by decide +kernel) (by decide +kernel)) (by decide +kernel) (by decide +kernel)) (by decide +kernel) (by decide +kernel)) (by decide +kernel) (by decide +kernel)) (B_w (show B 0 63 (i_min ((T123 1 1) - 1) ((2 * x5_99) + (x8_150 / 1))) from B_i_min (B_sub (B_eq ((g126.1 1 1 rfl rfl).trans (g103.1 1 1 rfl rfl)) (show B 1 64 (F 1 1) from hI 1 1)) cqb_1_1_1 (by decide +kernel) (by decide +kernel)) (B_add (B_mul cqb_2_2_2 b111 (by decide +kernel) (by decide +kernel) (by decide +kernel)) (show B 0 1 (x8_150 / 1) from B_w (dv_lt (x := x8_150) (w := 1) (h := 2) b165 cqb_1_1_1 cqb_2_2_2 pr166 (by decide +kernel) (by decide +kernel) (by decide +kernel)) (by decide +kernel) (by decide +kernel)) (by decide +kernel) (by decide +kernel)) (by decide +kernel) (by decide +kernel)) (by decide +kernel) (by decide +kernel)) hI125 (fun {v146_170} b172 => ?_)
            have e173 : (x8_150 + 1).toInt = ((x8_150).toInt + 1) := (t_add b165 cqb_1_1_1 (by decide +kernel) (by decide +kernel)).trans (by rw [cqn_1])
            have q174 : (1) ≤ (x8_150 + 1).toInt ∧ (x8_150 + 1).toInt ≤ (2) := (show B 1 2 (x8_150 + 1) from B_w (B_add b165 cqb_1_1_1 (by decide +kernel) (by decide +kernel)) (by decide +kernel) (by decide +kernel))
            exact hR96 ⟨rfl, rfl, rfl, rfl, rfl, rfl, (B_w (B_any _) (by decide +kernel) (by decide +kernel)), (B_w (B_add b165 cqb_1_1_1 (by decide +kernel) (by decide +kernel)) (by decide +kernel) (by decide +kernel)), rfl⟩ (by show (4 - (x8_150 + 1).toInt).toNat < (4 - x8_150.toInt).toNat; omega)
  · have hq175 := (nle_lt hc)
    have b176 : B 1 1 (F 13 x2.toNatClampNeg) := B_w (B_ltL (show B 1 2 (F 13 x2.toNatClampNeg) from sB_13 hI b_x2 (by decide +kernel) (by decide +kernel)) (show B 1 2 (F 12 5) from hI 12 5) hq175) (by decide +kernel) (by decide +kernel)
    have b177 : B 2 2 (F 12 5) := B_w (B_ltR (show B 1 2 (F 13 x2.toNatClampNeg) from sB_13 hI b_x2 (by decide +kernel) (by decide +kernel)) (show B 1 2 (F 12 5) from hI 12 5) hq175) (by decide +kernel) (by decide +kernel)
    have q178 : (1) ≤ (F 13 x2.toNatClampNeg).toInt ∧ (F 13 x2.toNatClampNeg).toInt ≤ (1) := (show B 1 1 (F 13 x2.toNatClampNeg) from B_w b176 (by decide +kernel) (by decide +kernel))
    have q179 : (2) ≤ (F 12 5).toInt ∧ (F 12 5).toInt ≤ (2) := (show B 2 2 (F 12 5) from B_w b177 (by decide +kernel) (by decide +kernel))
    have i180 : (F 13 x2.toNatClampNeg).toInt < (F 12 5).toInt := i_lt hq175
    unfold b_Pa_makeLayer_24
    refine ⟨(show ¬ ((12 : Nat) = NU) from by decide +kernel), ?_⟩
    refine ⟨(show c_cl UL 12 = 7 from cl_12), ?_⟩
    refine ⟨(show ¬ ((14 : Nat) = NU) from by decide +kernel), ?_⟩
    refine ⟨(show c_cl UL 14 = 902 from cl_14), ?_⟩
    refine ⟨(show vp_in (x2) 3 from vp_B b_x2 (by decide +kernel) (by decide +kernel)), ?_⟩
    refine ⟨(show ¬ ((12 : Nat) = NU) from by decide +kernel), ?_⟩
    refine ⟨fun hc => ?_, fun hc => ?_⟩
    · have hq181 := hc
      have q182 : (1) ≤ (F 12 6).toInt ∧ (F 12 6).toInt ≤ (2) := (show B 1 2 (F 12 6) from hI 12 6)
      have q183 : (1) ≤ (F 14 x2.toNatClampNeg).toInt ∧ (F 14 x2.toNatClampNeg).toInt ≤ (2) := (show B 1 2 (F 14 x2.toNatClampNeg) from sB_14 hI b_x2 (by decide +kernel) (by decide +kernel))
      have i184 : (F 12 6).toInt ≤ (F 14 x2.toNatClampNeg).toInt := i_le hq181
      unfold b_Pa_makeLayer_49
      refine ⟨fun yx1 yx2 yx3 yx4 yx5 yS => (1 : Nat) = yx1 ∧ x2 = yx2 ∧ (2 : Int32) = yx3 ∧ (1 : Int32) = yx4 ∧ B 0 64 yx5 ∧ ∃ (T190 : cF) (LT190 : cL), yS = (T190, LT190, PC a b P) ∧ IMc T190 ∧ agc [] [21, 999] F T190, fun yx1 yx2 yx3 yx4 yx5 yS => (64 - yx5.toInt).toNat, ⟨rfl, rfl, rfl, rfl, (B_w cqb_0_0_0 (by decide +kernel) (by decide +kernel)), _, _, rfl, hI, (agc_refl (fs := []) (rs := [21, 999]) (F := F))⟩, fun x1_185 x2_186 x3_187 x4_188 x5_189 ST190 hIv => ?_⟩
      obtain ⟨rfl, rfl, rfl, rfl, b191, T190, LT190, rfl, hI192, g193⟩ := hIv
      suffices hs : ∀ (R54 : Nat → Int32 → Int32 → Int32 → Int32 → cs → Prop), (∀ zx1 zx2 zx3 zx4 zx5 zS, ((1 : Nat) = zx1 ∧ x2 = zx2 ∧ (2 : Int32) = zx3 ∧ (1 : Int32) = zx4 ∧ B 0 64 zx5 ∧ ∃ (T190 : cF) (LT190 : cL), zS = (T190, LT190, PC a b P) ∧ IMc T190 ∧ agc [] [21, 999] F T190) → (64 - zx5.toInt).toNat < (64 - x5_189.toInt).toNat → R54 zx1 zx2 zx3 zx4 zx5 zS) → b_Pa_makeLayer_54 UL 4 1 x2 2 1 x5_189 (T190, LT190, PC a b P) R54 K from hs _ (fun _ _ _ _ _ _ h1 h2 => ⟨h1, h2⟩)
      intro R54 hR540
      have hR54 := fun {zx1} {zx2} {zx3} {zx4} {zx5} {zS} => hR540 zx1 zx2 zx3 zx4 zx5 zS
      unfold b_Pa_makeLayer_54
      refine ⟨(show ¬ ((12 : Nat) = NU) from by decide +kernel), ?_⟩
      refine ⟨(show c_cl UL 12 = 7 from cl_12), ?_⟩
      refine ⟨(show ¬ ((16 : Nat) = NU) from by decide +kernel), ?_⟩
      refine ⟨(show c_cl UL 16 = 902 from cl_16), ?_⟩
      refine ⟨(show vp_in (x2) 3 from vp_B b_x2 (by decide +kernel) (by decide +kernel)), ?_⟩
      refine ⟨fun hc => ?_, fun hc => ?_⟩
      · have hq194 := hc
        have q195 : (0) ≤ (F 16 x2.toNatClampNeg).toInt ∧ (F 16 x2.toNatClampNeg).toInt ≤ (64) := (show B 0 64 (F 16 x2.toNatClampNeg) from hI 16 x2.toNatClampNeg)
        have e196 : (T190 16 x2.toNatClampNeg).toInt = (F 16 x2.toNatClampNeg).toInt := (congrArg Int32.toInt (congrFun (g193.2 16 rfl rfl) x2.toNatClampNeg)).trans rfl
        have q197 : (0) ≤ (x5_189).toInt ∧ (x5_189).toInt ≤ (64) := (show B 0 64 (x5_189) from B_w b191 (by decide +kernel) (by decide +kernel))
        have i198 : (T190 16 x2.toNatClampNeg).toInt ≤ (x5_189).toInt := i_le hq194
        have g199 := agc_tr (agc_refl (fs := []) (rs := [21, 999]) (F := F)) g193 (by decide +kernel) (by decide +kernel)
        exact hK hI192 g199
      · have hq200 := (nle_lt hc)
        have b201 : B 0 63 (x5_189) := B_w (B_ltL b191 (B_eq (congrFun (g193.2 16 rfl rfl) x2.toNatClampNeg) (show B 0 64 (F 16 x2.toNatClampNeg) from hI 16 x2.toNatClampNeg)) hq200) (by decide +kernel) (by decide +kernel)
        have b202 : B 1 64 (F 16 x2.toNatClampNeg) := B_w (B_eq (Eq.symm (congrFun (g193.2 16 rfl rfl) x2.toNatClampNeg)) (B_ltR b191 (B_eq (congrFun (g193.2 16 rfl rfl) x2.toNatClampNeg) (show B 0 64 (F 16 x2.toNatClampNeg) from hI 16 x2.toNatClampNeg)) hq200)) (by decide +kernel) (by decide +kernel)
        have q203 : (0) ≤ (x5_189).toInt ∧ (x5_189).toInt ≤ (63) := (show B 0 63 (x5_189) from B_w b201 (by decide +kernel) (by decide +kernel))
        have q204 : (1) ≤ (F 16 x2.toNatClampNeg).toInt ∧ (F 16 x2.toNatClampNeg).toInt ≤ (64) := (show B 1 64 (F 16 x2.toNatClampNeg) from B_w b202 (by decide +kernel) (by decide +kernel))
        have e205 : (T190 16 x2.toNatClampNeg).toInt = (F 16 x2.toNatClampNeg).toInt := (congrArg Int32.toInt (congrFun (g193.2 16 rfl rfl) x2.toNatClampNeg)).trans rfl
        have i206 : (x5_189).toInt < (T190 16 x2.toNatClampNeg).toInt := i_lt hq200
        refine ⟨fun yx1 yx2 yx3 yx4 yx5 yx6 yS => (1 : Nat) = yx1 ∧ x2 = yx2 ∧ (2 : Int32) = yx3 ∧ (1 : Int32) = yx4 ∧ x5_189 = yx5 ∧ B 0 64 yx6 ∧ ∃ (T213 : cF) (LT213 : cL), yS = (T213, LT213, PC a b P) ∧ IMc T213 ∧ agc [] [21] T190 T213, fun yx1 yx2 yx3 yx4 yx5 yx6 yS => (64 - yx6.toInt).toNat, ⟨rfl, rfl, rfl, rfl, rfl, (B_w cqb_0_0_0 (by decide +kernel) (by decide +kernel)), _, _, rfl, hI192, (agc_refl (fs := []) (rs := [21]) (F := T190))⟩, fun x1_207 x2_208 x3_209 x4_210 x5_211 x6_212 ST213 hIv => ?_⟩
        obtain ⟨rfl, rfl, rfl, rfl, rfl, b214, T213, LT213, rfl, hI215, g216⟩ := hIv
        suffices hs : ∀ (R71 : Nat → Int32 → Int32 → Int32 → Int32 → Int32 → cs → Prop), (∀ zx1 zx2 zx3 zx4 zx5 zx6 zS, ((1 : Nat) = zx1 ∧ x2 = zx2 ∧ (2 : Int32) = zx3 ∧ (1 : Int32) = zx4 ∧ x5_189 = zx5 ∧ B 0 64 zx6 ∧ ∃ (T213 : cF) (LT213 : cL), zS = (T213, LT213, PC a b P) ∧ IMc T213 ∧ agc [] [21] T190 T213) → (64 - zx6.toInt).toNat < (64 - x6_212.toInt).toNat → R71 zx1 zx2 zx3 zx4 zx5 zx6 zS) → b_Pa_makeLayer_71 UL 4 1 x2 2 1 x5_189 x6_212 (T213, LT213, PC a b P) R54 R71 K from hs _ (fun _ _ _ _ _ _ _ h1 h2 => ⟨h1, h2⟩)
        intro R71 hR710
        have hR71 := fun {zx1} {zx2} {zx3} {zx4} {zx5} {zx6} {zS} => hR710 zx1 zx2 zx3 zx4 zx5 zx6 zS
        unfold b_Pa_makeLayer_71
        refine ⟨(show ¬ ((12 : Nat) = NU) from by decide +kernel), ?_⟩
        refine ⟨(show c_cl UL 12 = 7 from cl_12), ?_⟩
        refine ⟨(show ¬ ((15 : Nat) = NU) from by decide +kernel), ?_⟩
        refine ⟨(show c_cl UL 15 = 902 from cl_15), ?_⟩
        refine ⟨(show vp_in (x2) 3 from vp_B b_x2 (by decide +kernel) (by decide +kernel)), ?_⟩
        refine ⟨fun hc => ?_, fun hc => ?_⟩
        · have hq217 := hc
          have q218 : (0) ≤ (F 15 x2.toNatClampNeg).toInt ∧ (F 15 x2.toNatClampNeg).toInt ≤ (64) := (show B 0 64 (F 15 x2.toNatClampNeg) from hI 15 x2.toNatClampNeg)
          have e219 : (T213 15 x2.toNatClampNeg).toInt = (F 15 x2.toNatClampNeg).toInt := (congrArg Int32.toInt ((congrFun (g216.2 15 rfl rfl) x2.toNatClampNeg).trans (congrFun (g193.2 15 rfl rfl) x2.toNatClampNeg))).trans rfl
          have q220 : (0) ≤ (x6_212).toInt ∧ (x6_212).toInt ≤ (64) := (show B 0 64 (x6_212) from B_w b214 (by decide +kernel) (by decide +kernel))
          have i221 : (T213 15 x2.toNatClampNeg).toInt ≤ (x6_212).toInt := i_le hq217
          have g223 := agc_tr (agc_refl (fs := []) (rs := [21, 999]) (F := F)) g193 (by decide +kernel) (by decide +kernel)
          have g222 := agc_tr g223 g216 (by decide +kernel) (by decide +kernel)
          have e224 : (x5_189 + 1).toInt = ((x5_189).toInt + 1) := (t_add b201 cqb_1_1_1 (by decide +kernel) (by decide +kernel)).trans (by rw [cqn_1])
          have q225 : (1) ≤ (x5_189 + 1).toInt ∧ (x5_189 + 1).toInt ≤ (64) := (show B 1 64 (x5_189 + 1) from B_w (B_add b201 cqb_1_1_1 (by decide +kernel) (by decide +kernel)) (by decide +kernel) (by decide +kernel))
          exact hR54 ⟨rfl, rfl, rfl, rfl, (B_w (B_add b201 cqb_1_1_1 (by decide +kernel) (by decide +kernel)) (by decide +kernel) (by decide +kernel)), _, _, rfl, hI215, g222⟩ (by show (64 - (x5_189 + 1).toInt).toNat < (64 - x5_189.toInt).toNat; omega)
        · have hq226 := (nle_lt hc)
          have b227 : B 0 63 (x6_212) := B_w (B_ltL b214 (B_eq ((congrFun (g216.2 15 rfl rfl) x2.toNatClampNeg).trans (congrFun (g193.2 15 rfl rfl) x2.toNatClampNeg)) (show B 0 64 (F 15 x2.toNatClampNeg) from hI 15 x2.toNatClampNeg)) hq226) (by decide +kernel) (by decide +kernel)
          have b228 : B 1 64 (F 15 x2.toNatClampNeg) := B_w (B_eq (Eq.symm ((congrFun (g216.2 15 rfl rfl) x2.toNatClampNeg).trans (congrFun (g193.2 15 rfl rfl) x2.toNatClampNeg))) (B_ltR b214 (B_eq ((congrFun (g216.2 15 rfl rfl) x2.toNatClampNeg).trans (congrFun (g193.2 15 rfl rfl) x2.toNatClampNeg)) (show B 0 64 (F 15 x2.toNatClampNeg) from hI 15 x2.toNatClampNeg)) hq226)) (by decide +kernel) (by decide +kernel)
          have q229 : (0) ≤ (x6_212).toInt ∧ (x6_212).toInt ≤ (63) := (show B 0 63 (x6_212) from B_w b227 (by decide +kernel) (by decide +kernel))
          have q230 : (1) ≤ (F 15 x2.toNatClampNeg).toInt ∧ (F 15 x2.toNatClampNeg).toInt ≤ (64) := (show B 1 64 (F 15 x2.toNatClampNeg) from B_w b228 (by decide +kernel) (by decide +kernel))
          have e231 : (T213 15 x2.toNatClampNeg).toInt = (F 15 x2.toNatClampNeg).toInt := (congrArg Int32.toInt ((congrFun (g216.2 15 rfl rfl) x2.toNatClampNeg).trans (congrFun (g193.2 15 rfl rfl) x2.toNatClampNeg))).trans rfl
          have i232 : (x6_212).toInt < (T213 15 x2.toNatClampNeg).toInt := i_lt hq226
          refine ⟨fun yx1 yx2 yx3 yx4 yx5 yx6 yx7 yx8 yS => (1 : Nat) = yx1 ∧ x2 = yx2 ∧ (2 : Int32) = yx3 ∧ (1 : Int32) = yx4 ∧ x5_189 = yx5 ∧ x6_212 = yx6 ∧ B (-2147483648) 2147483647 yx7 ∧ B 0 4 yx8 ∧ (T213, LT213, PC a b P) = yS, fun yx1 yx2 yx3 yx4 yx5 yx6 yx7 yx8 yS => (4 - yx8.toInt).toNat, ⟨rfl, rfl, rfl, rfl, rfl, rfl, (B_w (show B 1 1 ((2 * 1) / 2) from B_div2 (B_mul cqb_2_2_2 cqb_1_1_1 (by decide +kernel) (by decide +kernel) (by decide +kernel)) cqb_2_2_2 (by decide +kernel) (by decide +kernel) (by decide +kernel) (by decide +kernel)) (by decide +kernel) (by decide +kernel)), (B_w cqb_0_0_0 (by decide +kernel) (by decide +kernel)), rfl⟩, fun x1_233 x2_234 x3_235 x4_236 x5_237 x6_238 x7_239 x8_240 ST241 hIv => ?_⟩
          obtain ⟨rfl, rfl, rfl, rfl, rfl, rfl, b242, b243, rfl⟩ := hIv
          suffices hs : ∀ (R96 : Nat → Int32 → Int32 → Int32 → Int32 → Int32 → Int32 → Int32 → cs → Prop), (∀ zx1 zx2 zx3 zx4 zx5 zx6 zx7 zx8 zS, ((1 : Nat) = zx1 ∧ x2 = zx2 ∧ (2 : Int32) = zx3 ∧ (1 : Int32) = zx4 ∧ x5_189 = zx5 ∧ x6_212 = zx6 ∧ B (-2147483648) 2147483647 zx7 ∧ B 0 4 zx8 ∧ (T213, LT213, PC a b P) = zS) → (4 - zx8.toInt).toNat < (4 - x8_240.toInt).toNat → R96 zx1 zx2 zx3 zx4 zx5 zx6 zx7 zx8 zS) → b_Pa_makeLayer_96 UL 4 1 x2 2 1 x5_189 x6_212 x7_239 x8_240 (T213, LT213, PC a b P) R54 R71 R96 K from hs _ (fun _ _ _ _ _ _ _ _ _ h1 h2 => ⟨h1, h2⟩)
          intro R96 hR960
          have hR96 := fun {zx1} {zx2} {zx3} {zx4} {zx5} {zx6} {zx7} {zx8} {zS} => hR960 zx1 zx2 zx3 zx4 zx5 zx6 zx7 zx8 zS
          unfold b_Pa_makeLayer_96
          refine ⟨fun hc => ?_, fun hc => ?_⟩
          · have hq244 := hc
            have b245 : B 2 4 (x8_240) := B_w (B_leR (B_mul cqb_2_2_2 cqb_1_1_1 (by decide +kernel) (by decide +kernel) (by decide +kernel)) b243 hq244) (by decide +kernel) (by decide +kernel)
            have e246 : (((2 : Int32) * 1)).toInt = 2 := by decide +kernel
            have q247 : (2) ≤ (x8_240).toInt ∧ (x8_240).toInt ≤ (4) := (show B 2 4 (x8_240) from B_w b245 (by decide +kernel) (by decide +kernel))
            have i248 : (((2 : Int32) * 1)).toInt ≤ (x8_240).toInt := i_le hq244
            refine ⟨(show ¬ ((12 : Nat) = NU) from by decide +kernel), ?_⟩
            refine ⟨(show c_cl UL 12 = 7 from cl_12), ?_⟩
            refine ⟨(show ¬ ((21 : Nat) = NU) from by decide +kernel), ?_⟩
            try unfold p_B_spot
            refine ⟨B_nz (B_mul cqb_2_2_2 cqb_1_1_1 (by decide +kernel) (by decide +kernel) (by decide +kernel)) (by decide +kernel), ?_⟩
            refine ⟨(show c_cl UL 21 = 902 from cl_21), ?_⟩
            refine ⟨(show vp_in (((4096 * x2) + (64 * x5_189)) + x6_212) 12288 from vp_B (B_add (B_add (B_mul cqb_4096_4096_4096 b_x2 (by decide +kernel) (by decide +kernel) (by decide +kernel)) (B_mul cqb_64_64_64 b201 (by decide +kernel) (by decide +kernel) (by decide +kernel)) (by decide +kernel) (by decide +kernel)) b227 (by decide +kernel) (by decide +kernel)) (by decide +kernel) (by decide +kernel)), ?_⟩
            have hI249 := IMc_u (u := 21) (i := (((4096 * x2) + (64 * x5_189)) + x6_212).toNatClampNeg) (v := x7_239 / (2 * 1)) hI215 (show B (-2147483648) 2147483647 (x7_239 / (2 * 1)) from (B_w (B_any _) (by decide +kernel) (by decide +kernel)))
            have g251 := agc_tr (agc_refl (fs := []) (rs := [21]) (F := T190)) g216 (by decide +kernel) (by decide +kernel)
            have g250 := agc_r (u := 21) (w := upd (T213 21) (((4096 * x2) + (64 * x5_189)) + x6_212).toNatClampNeg (x7_239 / (2 * 1))) g251 rfl (by decide +kernel)
            have e252 : (x6_212 + 1).toInt = ((x6_212).toInt + 1) := (t_add b227 cqb_1_1_1 (by decide +kernel) (by decide +kernel)).trans (by rw [cqn_1])
            have q253 : (1) ≤ (x6_212 + 1).toInt ∧ (x6_212 + 1).toInt ≤ (64) := (show B 1 64 (x6_212 + 1) from B_w (B_add b227 cqb_1_1_1 (by decide +kernel) (by decide +kernel)) (by decide +kernel) (by decide +kernel))
            exact hR71 ⟨rfl, rfl, rfl, rfl, rfl, (B_w (B_add b227 cqb_1_1_1 (by decide +kernel) (by decide +kernel)) (by decide +kernel) (by decide +kernel)), _, _, rfl, hI249, g250⟩ (by show (64 - (x6_212 + 1).toInt).toNat < (64 - x6_212.toInt).toNat; omega)
          · have hq254 := (nle_lt hc)
            have b255 : B 0 1 (x8_240) := B_w (B_ltL b243 (B_mul cqb_2_2_2 cqb_1_1_1 (by decide +kernel) (by decide +kernel) (by decide +kernel)) hq254) (by decide +kernel) (by decide +kernel)
            have pr256 : (x8_240).toInt < (((2 : Int32) * 1)).toInt := i_lt hq254
            have q257 : (0) ≤ (x8_240).toInt ∧ (x8_240).toInt ≤ (1) := (show B 0 1 (x8_240) from B_w b255 (by decide +kernel) (by decide +kernel))
            have e258 : (((2 : Int32) * 1)).toInt = 2 := by decide +kernel
            have i259 : (x8_240).toInt < (((2 : Int32) * 1)).toInt := i_lt hq254
            refine ⟨(show c_cl UL 1 = 2 from cl_1), ?_⟩
            refine ⟨B_nz cqb_2_2_2 (by decide +kernel), ?_⟩
            refine ⟨B_nz cqb_2_2_2 (by decide +kernel), ?_⟩
            refine h_Ca_kind_u1 b_x2 (B_w (show B 0 63 (i_min ((T213 1 0) - 1) ((2 * x6_212) + (x8_240 - ((x8_240 / 2) * 2)))) from B_i_min (B_sub (B_eq ((g216.1 1 0 rfl rfl).trans (g193.1 1 0 rfl rfl)) (show B 1 64 (F 1 0) from hI 1 0)) cqb_1_1_1 (by decide +kernel) (by decide +kernel)) (B_add (B_mul cqb_2_2_2 b227 (by decide +kernel) (by decide +kernel) (by decide +kernel)) (B_rem b255 cqb_2_2_2 (by decide +kernel) (by decide +kernel)) (by decide +kernel) (by decide +kernel)) (by decide +kernel) (by decide +kernel)) (by decide +kernel) (by decide +kernel)) (B_w (show B 0 63 (i_min ((T213 1 1) - 1) ((1 * x5_189) + (x8_240 / 2))) from B_i_min (B_sub (B_eq ((g216.1 1 1 rfl rfl).trans (g193.1 1 1 rfl rfl)) (show B 1 64 (F 1 1) from hI 1 1)) cqb_1_1_1 (by decide +kernel) (by decide +kernel)) (B_add (B_mul cqb_1_1_1 b201 (by decide +kernel) (by decide +kernel) (by decide +kernel)) (show B 0 0 (x8_240 / 2) from B_w (dv_lt (x := x8_240) (w := 2) (h := 1) b255 cqb_2_2_2 cqb_1_1_1 pr256 (by decide +kernel) (by decide +kernel) (by decide +kernel)) (by decide +kernel) (by decide +kernel)) (by decide +kernel) (by decide +kernel)) (by decide +kernel) (by decide +kernel)) (by decide +kernel) (by decide +kernel)) hI215 (fun {v146_260} b262 => ?_)
            have e263 : (x8_240 + 1).toInt = ((x8_240).toInt + 1) := (t_add b255 cqb_1_1_1 (by decide +kernel) (by decide +kernel)).trans (by rw [cqn_1])
            have q264 : (1) ≤ (x8_240 + 1).toInt ∧ (x8_240 + 1).toInt ≤ (2) := (show B 1 2 (x8_240 + 1) from B_w (B_add b255 cqb_1_1_1 (by decide +kernel) (by decide +kernel)) (by decide +kernel) (by decide +kernel))
            exact hR96 ⟨rfl, rfl, rfl, rfl, rfl, rfl, (B_w (B_any _) (by decide +kernel) (by decide +kernel)), (B_w (B_add b255 cqb_1_1_1 (by decide +kernel) (by decide +kernel)) (by decide +kernel) (by decide +kernel)), rfl⟩ (by show (4 - (x8_240 + 1).toInt).toNat < (4 - x8_240.toInt).toNat; omega)
    · have hq265 := (nle_lt hc)
      have b266 : B 1 1 (F 14 x2.toNatClampNeg) := B_w (B_ltL (show B 1 2 (F 14 x2.toNatClampNeg) from sB_14 hI b_x2 (by decide +kernel) (by decide +kernel)) (show B 1 2 (F 12 6) from hI 12 6) hq265) (by decide +kernel) (by decide +kernel)
      have b267 : B 2 2 (F 12 6) := B_w (B_ltR (show B 1 2 (F 14 x2.toNatClampNeg) from sB_14 hI b_x2 (by decide +kernel) (by decide +kernel)) (show B 1 2 (F 12 6) from hI 12 6) hq265) (by decide +kernel) (by decide +kernel)
      have q268 : (1) ≤ (F 14 x2.toNatClampNeg).toInt ∧ (F 14 x2.toNatClampNeg).toInt ≤ (1) := (show B 1 1 (F 14 x2.toNatClampNeg) from B_w b266 (by decide +kernel) (by decide +kernel))
      have q269 : (2) ≤ (F 12 6).toInt ∧ (F 12 6).toInt ≤ (2) := (show B 2 2 (F 12 6) from B_w b267 (by decide +kernel) (by decide +kernel))
      have i270 : (F 14 x2.toNatClampNeg).toInt < (F 12 6).toInt := i_lt hq265
      unfold b_Pa_makeLayer_49
      refine ⟨fun yx1 yx2 yx3 yx4 yx5 yS => (1 : Nat) = yx1 ∧ x2 = yx2 ∧ (2 : Int32) = yx3 ∧ (2 : Int32) = yx4 ∧ B 0 64 yx5 ∧ ∃ (T276 : cF) (LT276 : cL), yS = (T276, LT276, PC a b P) ∧ IMc T276 ∧ agc [] [21, 999] F T276, fun yx1 yx2 yx3 yx4 yx5 yS => (64 - yx5.toInt).toNat, ⟨rfl, rfl, rfl, rfl, (B_w cqb_0_0_0 (by decide +kernel) (by decide +kernel)), _, _, rfl, hI, (agc_refl (fs := []) (rs := [21, 999]) (F := F))⟩, fun x1_271 x2_272 x3_273 x4_274 x5_275 ST276 hIv => ?_⟩
      obtain ⟨rfl, rfl, rfl, rfl, b277, T276, LT276, rfl, hI278, g279⟩ := hIv
      suffices hs : ∀ (R54 : Nat → Int32 → Int32 → Int32 → Int32 → cs → Prop), (∀ zx1 zx2 zx3 zx4 zx5 zS, ((1 : Nat) = zx1 ∧ x2 = zx2 ∧ (2 : Int32) = zx3 ∧ (2 : Int32) = zx4 ∧ B 0 64 zx5 ∧ ∃ (T276 : cF) (LT276 : cL), zS = (T276, LT276, PC a b P) ∧ IMc T276 ∧ agc [] [21, 999] F T276) → (64 - zx5.toInt).toNat < (64 - x5_275.toInt).toNat → R54 zx1 zx2 zx3 zx4 zx5 zS) → b_Pa_makeLayer_54 UL 4 1 x2 2 2 x5_275 (T276, LT276, PC a b P) R54 K from hs _ (fun _ _ _ _ _ _ h1 h2 => ⟨h1, h2⟩)
      intro R54 hR540
      have hR54 := fun {zx1} {zx2} {zx3} {zx4} {zx5} {zS} => hR540 zx1 zx2 zx3 zx4 zx5 zS
      unfold b_Pa_makeLayer_54
      refine ⟨(show ¬ ((12 : Nat) = NU) from by decide +kernel), ?_⟩
      refine ⟨(show c_cl UL 12 = 7 from cl_12), ?_⟩
      refine ⟨(show ¬ ((16 : Nat) = NU) from by decide +kernel), ?_⟩
      refine ⟨(show c_cl UL 16 = 902 from cl_16), ?_⟩
      refine ⟨(show vp_in (x2) 3 from vp_B b_x2 (by decide +kernel) (by decide +kernel)), ?_⟩
      refine ⟨fun hc => ?_, fun hc => ?_⟩
      · have hq280 := hc
        have q281 : (0) ≤ (F 16 x2.toNatClampNeg).toInt ∧ (F 16 x2.toNatClampNeg).toInt ≤ (64) := (show B 0 64 (F 16 x2.toNatClampNeg) from hI 16 x2.toNatClampNeg)
        have e282 : (T276 16 x2.toNatClampNeg).toInt = (F 16 x2.toNatClampNeg).toInt := (congrArg Int32.toInt (congrFun (g279.2 16 rfl rfl) x2.toNatClampNeg)).trans rfl
        have q283 : (0) ≤ (x5_275).toInt ∧ (x5_275).toInt ≤ (64) := (show B 0 64 (x5_275) from B_w b277 (by decide +kernel) (by decide +kernel))
        have i284 : (T276 16 x2.toNatClampNeg).toInt ≤ (x5_275).toInt := i_le hq280
        have g285 := agc_tr (agc_refl (fs := []) (rs := [21, 999]) (F := F)) g279 (by decide +kernel) (by decide +kernel)
        exact hK hI278 g285
      · have hq286 := (nle_lt hc)
        have b287 : B 0 63 (x5_275) := B_w (B_ltL b277 (B_eq (congrFun (g279.2 16 rfl rfl) x2.toNatClampNeg) (show B 0 64 (F 16 x2.toNatClampNeg) from hI 16 x2.toNatClampNeg)) hq286) (by decide +kernel) (by decide +kernel)
        have b288 : B 1 64 (F 16 x2.toNatClampNeg) := B_w (B_eq (Eq.symm (congrFun (g279.2 16 rfl rfl) x2.toNatClampNeg)) (B_ltR b277 (B_eq (congrFun (g279.2 16 rfl rfl) x2.toNatClampNeg) (show B 0 64 (F 16 x2.toNatClampNeg) from hI 16 x2.toNatClampNeg)) hq286)) (by decide +kernel) (by decide +kernel)
        have q289 : (0) ≤ (x5_275).toInt ∧ (x5_275).toInt ≤ (63) := (show B 0 63 (x5_275) from B_w b287 (by decide +kernel) (by decide +kernel))
        have q290 : (1) ≤ (F 16 x2.toNatClampNeg).toInt ∧ (F 16 x2.toNatClampNeg).toInt ≤ (64) := (show B 1 64 (F 16 x2.toNatClampNeg) from B_w b288 (by decide +kernel) (by decide +kernel))
        have e291 : (T276 16 x2.toNatClampNeg).toInt = (F 16 x2.toNatClampNeg).toInt := (congrArg Int32.toInt (congrFun (g279.2 16 rfl rfl) x2.toNatClampNeg)).trans rfl
        have i292 : (x5_275).toInt < (T276 16 x2.toNatClampNeg).toInt := i_lt hq286
        refine ⟨fun yx1 yx2 yx3 yx4 yx5 yx6 yS => (1 : Nat) = yx1 ∧ x2 = yx2 ∧ (2 : Int32) = yx3 ∧ (2 : Int32) = yx4 ∧ x5_275 = yx5 ∧ B 0 64 yx6 ∧ ∃ (T299 : cF) (LT299 : cL), yS = (T299, LT299, PC a b P) ∧ IMc T299 ∧ agc [] [21] T276 T299, fun yx1 yx2 yx3 yx4 yx5 yx6 yS => (64 - yx6.toInt).toNat, ⟨rfl, rfl, rfl, rfl, rfl, (B_w cqb_0_0_0 (by decide +kernel) (by decide +kernel)), _, _, rfl, hI278, (agc_refl (fs := []) (rs := [21]) (F := T276))⟩, fun x1_293 x2_294 x3_295 x4_296 x5_297 x6_298 ST299 hIv => ?_⟩
        obtain ⟨rfl, rfl, rfl, rfl, rfl, b300, T299, LT299, rfl, hI301, g302⟩ := hIv
        suffices hs : ∀ (R71 : Nat → Int32 → Int32 → Int32 → Int32 → Int32 → cs → Prop), (∀ zx1 zx2 zx3 zx4 zx5 zx6 zS, ((1 : Nat) = zx1 ∧ x2 = zx2 ∧ (2 : Int32) = zx3 ∧ (2 : Int32) = zx4 ∧ x5_275 = zx5 ∧ B 0 64 zx6 ∧ ∃ (T299 : cF) (LT299 : cL), zS = (T299, LT299, PC a b P) ∧ IMc T299 ∧ agc [] [21] T276 T299) → (64 - zx6.toInt).toNat < (64 - x6_298.toInt).toNat → R71 zx1 zx2 zx3 zx4 zx5 zx6 zS) → b_Pa_makeLayer_71 UL 4 1 x2 2 2 x5_275 x6_298 (T299, LT299, PC a b P) R54 R71 K from hs _ (fun _ _ _ _ _ _ _ h1 h2 => ⟨h1, h2⟩)
        intro R71 hR710
        have hR71 := fun {zx1} {zx2} {zx3} {zx4} {zx5} {zx6} {zS} => hR710 zx1 zx2 zx3 zx4 zx5 zx6 zS
        unfold b_Pa_makeLayer_71
        refine ⟨(show ¬ ((12 : Nat) = NU) from by decide +kernel), ?_⟩
        refine ⟨(show c_cl UL 12 = 7 from cl_12), ?_⟩
        refine ⟨(show ¬ ((15 : Nat) = NU) from by decide +kernel), ?_⟩
        refine ⟨(show c_cl UL 15 = 902 from cl_15), ?_⟩
        refine ⟨(show vp_in (x2) 3 from vp_B b_x2 (by decide +kernel) (by decide +kernel)), ?_⟩
        refine ⟨fun hc => ?_, fun hc => ?_⟩
        · have hq303 := hc
          have q304 : (0) ≤ (F 15 x2.toNatClampNeg).toInt ∧ (F 15 x2.toNatClampNeg).toInt ≤ (64) := (show B 0 64 (F 15 x2.toNatClampNeg) from hI 15 x2.toNatClampNeg)
          have e305 : (T299 15 x2.toNatClampNeg).toInt = (F 15 x2.toNatClampNeg).toInt := (congrArg Int32.toInt ((congrFun (g302.2 15 rfl rfl) x2.toNatClampNeg).trans (congrFun (g279.2 15 rfl rfl) x2.toNatClampNeg))).trans rfl
          have q306 : (0) ≤ (x6_298).toInt ∧ (x6_298).toInt ≤ (64) := (show B 0 64 (x6_298) from B_w b300 (by decide +kernel) (by decide +kernel))
          have i307 : (T299 15 x2.toNatClampNeg).toInt ≤ (x6_298).toInt := i_le hq303
          have g309 := agc_tr (agc_refl (fs := []) (rs := [21, 999]) (F := F)) g279 (by decide +kernel) (by decide +kernel)
          have g308 := agc_tr g309 g302 (by decide +kernel) (by decide +kernel)
          have e310 : (x5_275 + 1).toInt = ((x5_275).toInt + 1) := (t_add b287 cqb_1_1_1 (by decide +kernel) (by decide +kernel)).trans (by rw [cqn_1])
          have q311 : (1) ≤ (x5_275 + 1).toInt ∧ (x5_275 + 1).toInt ≤ (64) := (show B 1 64 (x5_275 + 1) from B_w (B_add b287 cqb_1_1_1 (by decide +kernel) (by decide +kernel)) (by decide +kernel) (by decide +kernel))
          exact hR54 ⟨rfl, rfl, rfl, rfl, (B_w (B_add b287 cqb_1_1_1 (by decide +kernel) (by decide +kernel)) (by decide +kernel) (by decide +kernel)), _, _, rfl, hI301, g308⟩ (by show (64 - (x5_275 + 1).toInt).toNat < (64 - x5_275.toInt).toNat; omega)
        · have hq312 := (nle_lt hc)
          have b313 : B 0 63 (x6_298) := B_w (B_ltL b300 (B_eq ((congrFun (g302.2 15 rfl rfl) x2.toNatClampNeg).trans (congrFun (g279.2 15 rfl rfl) x2.toNatClampNeg)) (show B 0 64 (F 15 x2.toNatClampNeg) from hI 15 x2.toNatClampNeg)) hq312) (by decide +kernel) (by decide +kernel)
          have b314 : B 1 64 (F 15 x2.toNatClampNeg) := B_w (B_eq (Eq.symm ((congrFun (g302.2 15 rfl rfl) x2.toNatClampNeg).trans (congrFun (g279.2 15 rfl rfl) x2.toNatClampNeg))) (B_ltR b300 (B_eq ((congrFun (g302.2 15 rfl rfl) x2.toNatClampNeg).trans (congrFun (g279.2 15 rfl rfl) x2.toNatClampNeg)) (show B 0 64 (F 15 x2.toNatClampNeg) from hI 15 x2.toNatClampNeg)) hq312)) (by decide +kernel) (by decide +kernel)
          have q315 : (0) ≤ (x6_298).toInt ∧ (x6_298).toInt ≤ (63) := (show B 0 63 (x6_298) from B_w b313 (by decide +kernel) (by decide +kernel))
          have q316 : (1) ≤ (F 15 x2.toNatClampNeg).toInt ∧ (F 15 x2.toNatClampNeg).toInt ≤ (64) := (show B 1 64 (F 15 x2.toNatClampNeg) from B_w b314 (by decide +kernel) (by decide +kernel))
          have e317 : (T299 15 x2.toNatClampNeg).toInt = (F 15 x2.toNatClampNeg).toInt := (congrArg Int32.toInt ((congrFun (g302.2 15 rfl rfl) x2.toNatClampNeg).trans (congrFun (g279.2 15 rfl rfl) x2.toNatClampNeg))).trans rfl
          have i318 : (x6_298).toInt < (T299 15 x2.toNatClampNeg).toInt := i_lt hq312
          refine ⟨fun yx1 yx2 yx3 yx4 yx5 yx6 yx7 yx8 yS => (1 : Nat) = yx1 ∧ x2 = yx2 ∧ (2 : Int32) = yx3 ∧ (2 : Int32) = yx4 ∧ x5_275 = yx5 ∧ x6_298 = yx6 ∧ B (-2147483648) 2147483647 yx7 ∧ B 0 4 yx8 ∧ (T299, LT299, PC a b P) = yS, fun yx1 yx2 yx3 yx4 yx5 yx6 yx7 yx8 yS => (4 - yx8.toInt).toNat, ⟨rfl, rfl, rfl, rfl, rfl, rfl, (B_w (show B 2 2 ((2 * 2) / 2) from B_div2 (B_mul cqb_2_2_2 cqb_2_2_2 (by decide +kernel) (by decide +kernel) (by decide +kernel)) cqb_2_2_2 (by decide +kernel) (by decide +kernel) (by decide +kernel) (by decide +kernel)) (by decide +kernel) (by decide +kernel)), (B_w cqb_0_0_0 (by decide +kernel) (by decide +kernel)), rfl⟩, fun x1_319 x2_320 x3_321 x4_322 x5_323 x6_324 x7_325 x8_326 ST327 hIv => ?_⟩
          obtain ⟨rfl, rfl, rfl, rfl, rfl, rfl, b328, b329, rfl⟩ := hIv
          suffices hs : ∀ (R96 : Nat → Int32 → Int32 → Int32 → Int32 → Int32 → Int32 → Int32 → cs → Prop), (∀ zx1 zx2 zx3 zx4 zx5 zx6 zx7 zx8 zS, ((1 : Nat) = zx1 ∧ x2 = zx2 ∧ (2 : Int32) = zx3 ∧ (2 : Int32) = zx4 ∧ x5_275 = zx5 ∧ x6_298 = zx6 ∧ B (-2147483648) 2147483647 zx7 ∧ B 0 4 zx8 ∧ (T299, LT299, PC a b P) = zS) → (4 - zx8.toInt).toNat < (4 - x8_326.toInt).toNat → R96 zx1 zx2 zx3 zx4 zx5 zx6 zx7 zx8 zS) → b_Pa_makeLayer_96 UL 4 1 x2 2 2 x5_275 x6_298 x7_325 x8_326 (T299, LT299, PC a b P) R54 R71 R96 K from hs _ (fun _ _ _ _ _ _ _ _ _ h1 h2 => ⟨h1, h2⟩)
          intro R96 hR960
          have hR96 := fun {zx1} {zx2} {zx3} {zx4} {zx5} {zx6} {zx7} {zx8} {zS} => hR960 zx1 zx2 zx3 zx4 zx5 zx6 zx7 zx8 zS
          unfold b_Pa_makeLayer_96
          refine ⟨fun hc => ?_, fun hc => ?_⟩
          · have hq330 := hc
            have b331 : B 4 4 (x8_326) := B_w (B_leR (B_mul cqb_2_2_2 cqb_2_2_2 (by decide +kernel) (by decide +kernel) (by decide +kernel)) b329 hq330) (by decide +kernel) (by decide +kernel)
            have e332 : (((2 : Int32) * 2)).toInt = 4 := by decide +kernel
            have q333 : (4) ≤ (x8_326).toInt ∧ (x8_326).toInt ≤ (4) := (show B 4 4 (x8_326) from B_w b331 (by decide +kernel) (by decide +kernel))
            have i334 : (((2 : Int32) * 2)).toInt ≤ (x8_326).toInt := i_le hq330
            refine ⟨(show ¬ ((12 : Nat) = NU) from by decide +kernel), ?_⟩
            refine ⟨(show c_cl UL 12 = 7 from cl_12), ?_⟩
            refine ⟨(show ¬ ((21 : Nat) = NU) from by decide +kernel), ?_⟩
            try unfold p_B_spot
            refine ⟨B_nz (B_mul cqb_2_2_2 cqb_2_2_2 (by decide +kernel) (by decide +kernel) (by decide +kernel)) (by decide +kernel), ?_⟩
            refine ⟨(show c_cl UL 21 = 902 from cl_21), ?_⟩
            refine ⟨(show vp_in (((4096 * x2) + (64 * x5_275)) + x6_298) 12288 from vp_B (B_add (B_add (B_mul cqb_4096_4096_4096 b_x2 (by decide +kernel) (by decide +kernel) (by decide +kernel)) (B_mul cqb_64_64_64 b287 (by decide +kernel) (by decide +kernel) (by decide +kernel)) (by decide +kernel) (by decide +kernel)) b313 (by decide +kernel) (by decide +kernel)) (by decide +kernel) (by decide +kernel)), ?_⟩
            have hI335 := IMc_u (u := 21) (i := (((4096 * x2) + (64 * x5_275)) + x6_298).toNatClampNeg) (v := x7_325 / (2 * 2)) hI301 (show B (-2147483648) 2147483647 (x7_325 / (2 * 2)) from (B_w (B_any _) (by decide +kernel) (by decide +kernel)))
            have g337 := agc_tr (agc_refl (fs := []) (rs := [21]) (F := T276)) g302 (by decide +kernel) (by decide +kernel)
            have g336 := agc_r (u := 21) (w := upd (T299 21) (((4096 * x2) + (64 * x5_275)) + x6_298).toNatClampNeg (x7_325 / (2 * 2))) g337 rfl (by decide +kernel)
            have e338 : (x6_298 + 1).toInt = ((x6_298).toInt + 1) := (t_add b313 cqb_1_1_1 (by decide +kernel) (by decide +kernel)).trans (by rw [cqn_1])
            have q339 : (1) ≤ (x6_298 + 1).toInt ∧ (x6_298 + 1).toInt ≤ (64) := (show B 1 64 (x6_298 + 1) from B_w (B_add b313 cqb_1_1_1 (by decide +kernel) (by decide +kernel)) (by decide +kernel) (by decide +kernel))
            exact hR71 ⟨rfl, rfl, rfl, rfl, rfl, (B_w (B_add b313 cqb_1_1_1 (by decide +kernel) (by decide +kernel)) (by decide +kernel) (by decide +kernel)), _, _, rfl, hI335, g336⟩ (by show (64 - (x6_298 + 1).toInt).toNat < (64 - x6_298.toInt).toNat; omega)
          · have hq340 := (nle_lt hc)
            have b341 : B 0 3 (x8_326) := B_w (B_ltL b329 (B_mul cqb_2_2_2 cqb_2_2_2 (by decide +kernel) (by decide +kernel) (by decide +kernel)) hq340) (by decide +kernel) (by decide +kernel)
            have pr342 : (x8_326).toInt < (((2 : Int32) * 2)).toInt := i_lt hq340
            have q343 : (0) ≤ (x8_326).toInt ∧ (x8_326).toInt ≤ (3) := (show B 0 3 (x8_326) from B_w b341 (by decide +kernel) (by decide +kernel))
            have e344 : (((2 : Int32) * 2)).toInt = 4 := by decide +kernel
            have i345 : (x8_326).toInt < (((2 : Int32) * 2)).toInt := i_lt hq340
            refine ⟨(show c_cl UL 1 = 2 from cl_1), ?_⟩
            refine ⟨B_nz cqb_2_2_2 (by decide +kernel), ?_⟩
            refine ⟨B_nz cqb_2_2_2 (by decide +kernel), ?_⟩
            refine h_Ca_kind_u1 b_x2 (B_w (show B 0 63 (i_min ((T299 1 0) - 1) ((2 * x6_298) + (x8_326 - ((x8_326 / 2) * 2)))) from B_i_min (B_sub (B_eq ((g302.1 1 0 rfl rfl).trans (g279.1 1 0 rfl rfl)) (show B 1 64 (F 1 0) from hI 1 0)) cqb_1_1_1 (by decide +kernel) (by decide +kernel)) (B_add (B_mul cqb_2_2_2 b313 (by decide +kernel) (by decide +kernel) (by decide +kernel)) (B_rem b341 cqb_2_2_2 (by decide +kernel) (by decide +kernel)) (by decide +kernel) (by decide +kernel)) (by decide +kernel) (by decide +kernel)) (by decide +kernel) (by decide +kernel)) (B_w (show B 0 63 (i_min ((T299 1 1) - 1) ((2 * x5_275) + (x8_326 / 2))) from B_i_min (B_sub (B_eq ((g302.1 1 1 rfl rfl).trans (g279.1 1 1 rfl rfl)) (show B 1 64 (F 1 1) from hI 1 1)) cqb_1_1_1 (by decide +kernel) (by decide +kernel)) (B_add (B_mul cqb_2_2_2 b287 (by decide +kernel) (by decide +kernel) (by decide +kernel)) (show B 0 1 (x8_326 / 2) from B_w (dv_lt (x := x8_326) (w := 2) (h := 2) b341 cqb_2_2_2 cqb_2_2_2 pr342 (by decide +kernel) (by decide +kernel) (by decide +kernel)) (by decide +kernel) (by decide +kernel)) (by decide +kernel) (by decide +kernel)) (by decide +kernel) (by decide +kernel)) (by decide +kernel) (by decide +kernel)) hI301 (fun {v146_346} b348 => ?_)
            have e349 : (x8_326 + 1).toInt = ((x8_326).toInt + 1) := (t_add b341 cqb_1_1_1 (by decide +kernel) (by decide +kernel)).trans (by rw [cqn_1])
            have q350 : (1) ≤ (x8_326 + 1).toInt ∧ (x8_326 + 1).toInt ≤ (4) := (show B 1 4 (x8_326 + 1) from B_w (B_add b341 cqb_1_1_1 (by decide +kernel) (by decide +kernel)) (by decide +kernel) (by decide +kernel))
            exact hR96 ⟨rfl, rfl, rfl, rfl, rfl, rfl, (B_w (B_any _) (by decide +kernel) (by decide +kernel)), (B_w (B_add b341 cqb_1_1_1 (by decide +kernel) (by decide +kernel)) (by decide +kernel) (by decide +kernel)), rfl⟩ (by show (4 - (x8_326 + 1).toInt).toNat < (4 - x8_326.toInt).toNat; omega)
set_option maxRecDepth 20000 in
set_option maxHeartbeats 4000000 in
theorem h_Pa_kindOf {x0 : Int32} {K : Int32 → Prop} (hK : ∀ {v : Int32}, B 0 1 v → K v) : p_Pa_kindOf x0 K := by
  unfold p_Pa_kindOf
  refine ⟨fun hc => ?_, fun hc => ?_⟩
  · have i1 : (x0).toInt ≠ (0 : Int32).toInt := i_ne hc
    have n2 : (0 : Int32).toInt = 0 := cqn_0
    unfold b_Pa_kindOf_9
    exact hK (B_w cqb_1_1_1 (by decide +kernel) (by decide +kernel))
  · have b3 : B 0 0 (x0) := B_w (B_eq hc cqb_0_0_0) (by decide +kernel) (by decide +kernel)
    have q4 : (0) ≤ (x0).toInt ∧ (x0).toInt ≤ (0) := (show B 0 0 (x0) from B_w b3 (by decide +kernel) (by decide +kernel))
    have i5 : (x0).toInt = (0 : Int32).toInt := congrArg Int32.toInt hc
    have n6 : (0 : Int32).toInt = 0 := cqn_0
    unfold b_Pa_kindOf_9
    exact hK (B_w cqb_0_0_0 (by decide +kernel) (by decide +kernel))
set_option maxRecDepth 20000 in
set_option maxHeartbeats 4000000 in
theorem h_Pa_makeBlock_u4_x23 {a : Bool} {b : Bool} {P : Nat → Nat → Nat} {x1 : Int32} {F : cF} {L : cL} {K : cs → Prop} (b_x1 : B 0 191 x1) (hI : IMc F) (pre0 : x1.toInt < (64 * (F 12 2).toInt)) (pre1 : qf (F 15) 0 (F 12 2).toInt 1 64) (pre2 : qf (F 16) 0 (F 12 2).toInt 1 64) (pre3 : qf (F 17) 0 (F 12 2).toInt 1 8) (hK : ∀ {Z : cF} {LZ : cL}, IMc Z → agc [] [9, 10, 19, 999] F Z → K (Z, LZ, PC a b P)) : p_Pa_makeBlock UL 4 x1 3 (F, L, PC a b P) K := by
  have q1 : (0) ≤ (x1).toInt ∧ (x1).toInt ≤ (191) := (show B 0 191 (x1) from B_w b_x1 (by decide +kernel) (by decide +kernel))
  have q2 : (1) ≤ (F 12 2).toInt ∧ (F 12 2).toInt ≤ (3) := (show B 1 3 (F 12 2) from hI 12 2)
  unfold p_Pa_makeBlock
  refine ⟨(show ¬ ((12 : Nat) = NU) from by decide +kernel), ?_⟩
  refine ⟨(show c_cl UL 12 = 7 from cl_12), ?_⟩
  refine ⟨(show ¬ ((17 : Nat) = NU) from by decide +kernel), ?_⟩
  refine ⟨(show c_cl UL 17 = 902 from cl_17), ?_⟩
  refine ⟨(show vp_in (x1 / 64) 3 from vp_B (show B 0 2 (x1 / 64) from B_div2 b_x1 cqb_64_64_64 (by decide +kernel) (by decide +kernel) (by decide +kernel) (by decide +kernel)) (by decide +kernel) (by decide +kernel)), ?_⟩
  have e3 : (x1 / 64).toInt = ((x1).toInt / 64) := (t_div b_x1 cqb_64_64_64 (by decide +kernel) (by decide +kernel)).trans (by rw [cqn_64])
  have q4 : (0) ≤ (x1 / 64).toInt ∧ (x1 / 64).toInt ≤ (2) := (show B 0 2 (x1 / 64) from B_div2 b_x1 cqb_64_64_64 (by decide +kernel) (by decide +kernel) (by decide +kernel) (by decide +kernel))
  have b5 : B 1 8 (F 17 (x1 / 64).toNatClampNeg) := qf_at pre3 (x := x1 / 64) (by omega) (by omega)
  refine ⟨B_nz (show B 1 8 (i_max 1 (F 17 (x1 / 64).toNatClampNeg)) from B_i_max cqb_1_1_1 b5 (by decide +kernel) (by decide +kernel)) (by decide +kernel), ?_⟩
  refine ⟨B_nz (show B 1 8 (i_max 1 (F 17 (x1 / 64).toNatClampNeg)) from B_i_max cqb_1_1_1 b5 (by decide +kernel) (by decide +kernel)) (by decide +kernel), ?_⟩
  refine ⟨(show ¬ ((12 : Nat) = NU) from by decide +kernel), ?_⟩
  refine ⟨(show ¬ ((15 : Nat) = NU) from by decide +kernel), ?_⟩
  refine ⟨(show c_cl UL 15 = 902 from cl_15), ?_⟩
  refine ⟨(show vp_in (x1 / 64) 3 from vp_B (show B 0 2 (x1 / 64) from B_div2 b_x1 cqb_64_64_64 (by decide +kernel) (by decide +kernel) (by decide +kernel) (by decide +kernel)) (by decide +kernel) (by decide +kernel)), ?_⟩
  refine ⟨(show ¬ ((12 : Nat) = NU) from by decide +kernel), ?_⟩
  refine ⟨(show ¬ ((16 : Nat) = NU) from by decide +kernel), ?_⟩
  refine ⟨(show c_cl UL 16 = 902 from cl_16), ?_⟩
  refine ⟨(show vp_in (x1 / 64) 3 from vp_B (show B 0 2 (x1 / 64) from B_div2 b_x1 cqb_64_64_64 (by decide +kernel) (by decide +kernel) (by decide +kernel) (by decide +kernel)) (by decide +kernel) (by decide +kernel)), ?_⟩
  refine ⟨fun yx1 yx2 yx3 yx5 yx6 yx7 yx8 yx9 yS => x1 = yx1 ∧ (3 : Nat) = yx2 ∧ (x1 / 64) = yx3 ∧ (((x1 - ((x1 / 64) * 64)) - (((x1 - ((x1 / 64) * 64)) / (i_max 1 (F 17 (x1 / 64).toNatClampNeg))) * (i_max 1 (F 17 (x1 / 64).toNatClampNeg)))) * 8) = yx5 ∧ (((x1 - ((x1 / 64) * 64)) / (i_max 1 (F 17 (x1 / 64).toNatClampNeg))) * 8) = yx6 ∧ ((F 15 (x1 / 64).toNatClampNeg) - 1) = yx7 ∧ ((F 16 (x1 / 64).toNatClampNeg) - 1) = yx8 ∧ B 0 64 yx9 ∧ ∃ (T14 : cF) (LT14 : cL), yS = (T14, LT14, PC a b P) ∧ IMc T14 ∧ agc [] [9] F T14, fun yx1 yx2 yx3 yx5 yx6 yx7 yx8 yx9 yS => (64 - yx9.toInt).toNat, ⟨rfl, rfl, rfl, rfl, rfl, rfl, rfl, (B_w cqb_0_0_0 (by decide +kernel) (by decide +kernel)), _, _, rfl, hI, (agc_refl (fs := []) (rs := [9]) (F := F))⟩, fun x1_6 x2_7 x3_8 x5_9 x6_10 x7_11 x8_12 x9_13 ST14 hIv => ?_⟩
  obtain ⟨rfl, rfl, rfl, rfl, rfl, rfl, rfl, b15, T14, LT14, rfl, hI16, g17⟩ := hIv
  suffices hs : ∀ (R73 : Int32 → Nat → Int32 → Int32 → Int32 → Int32 → Int32 → Int32 → cs → Prop), (∀ zx1 zx2 zx3 zx5 zx6 zx7 zx8 zx9 zS, (x1 = zx1 ∧ (3 : Nat) = zx2 ∧ (x1 / 64) = zx3 ∧ (((x1 - ((x1 / 64) * 64)) - (((x1 - ((x1 / 64) * 64)) / (i_max 1 (F 17 (x1 / 64).toNatClampNeg))) * (i_max 1 (F 17 (x1 / 64).toNatClampNeg)))) * 8) = zx5 ∧ (((x1 - ((x1 / 64) * 64)) / (i_max 1 (F 17 (x1 / 64).toNatClampNeg))) * 8) = zx6 ∧ ((F 15 (x1 / 64).toNatClampNeg) - 1) = zx7 ∧ ((F 16 (x1 / 64).toNatClampNeg) - 1) = zx8 ∧ B 0 64 zx9 ∧ ∃ (T14 : cF) (LT14 : cL), zS = (T14, LT14, PC a b P) ∧ IMc T14 ∧ agc [] [9] F T14) → (64 - zx9.toInt).toNat < (64 - x9_13.toInt).toNat → R73 zx1 zx2 zx3 zx5 zx6 zx7 zx8 zx9 zS) → b_Pa_makeBlock_73 UL 4 x1 3 (x1 / 64) (((x1 - ((x1 / 64) * 64)) - (((x1 - ((x1 / 64) * 64)) / (i_max 1 (F 17 (x1 / 64).toNatClampNeg))) * (i_max 1 (F 17 (x1 / 64).toNatClampNeg)))) * 8) (((x1 - ((x1 / 64) * 64)) / (i_max 1 (F 17 (x1 / 64).toNatClampNeg))) * 8) ((F 15 (x1 / 64).toNatClampNeg) - 1) ((F 16 (x1 / 64).toNatClampNeg) - 1) x9_13 (T14, LT14, PC a b P) R73 K from hs _ (fun _ _ _ _ _ _ _ _ _ h1 h2 => ⟨h1, h2⟩)
  intro R73 hR730
  have hR73 := fun {zx1} {zx2} {zx3} {zx5} {zx6} {zx7} {zx8} {zx9} {zS} => hR730 zx1 zx2 zx3 zx5 zx6 zx7 zx8 zx9 zS
  unfold b_Pa_makeBlock_73
  refine ⟨fun hc => ?_, fun hc => ?_⟩
  · have hq18 := hc
    have b19 : B 64 64 (x9_13) := B_w (B_leR cqb_64_64_64 b15 hq18) (by decide +kernel) (by decide +kernel)
    refine ⟨(show ¬ ((7 : Nat) = NU) from by decide +kernel), ?_⟩
    refine ⟨(show c_cl UL 7 = 12 from cl_7), ?_⟩
    refine h_Wa_makeWeights_u7 hI16 (fun {FS146_20} {LFS146_20} hI21 g22 => ?_)
    refine ⟨fun yx1 yx2 yx3 yx9 yS => x1 = yx1 ∧ (3 : Nat) = yx2 ∧ (x1 / 64) = yx3 ∧ B 0 64 yx9 ∧ ∃ (T27 : cF) (LT27 : cL), yS = (T27, LT27, PC a b P) ∧ IMc T27 ∧ agc [] [19] FS146_20 T27, fun yx1 yx2 yx3 yx9 yS => (64 - yx9.toInt).toNat, ⟨rfl, rfl, rfl, (B_w cqb_0_0_0 (by decide +kernel) (by decide +kernel)), _, _, rfl, hI21, (agc_refl (fs := []) (rs := [19]) (F := FS146_20))⟩, fun x1_23 x2_24 x3_25 x9_26 ST27 hIv => ?_⟩
    obtain ⟨rfl, rfl, rfl, b28, T27, LT27, rfl, hI29, g30⟩ := hIv
    suffices hs : ∀ (R152 : Int32 → Nat → Int32 → Int32 → cs → Prop), (∀ zx1 zx2 zx3 zx9 zS, (x1 = zx1 ∧ (3 : Nat) = zx2 ∧ (x1 / 64) = zx3 ∧ B 0 64 zx9 ∧ ∃ (T27 : cF) (LT27 : cL), zS = (T27, LT27, PC a b P) ∧ IMc T27 ∧ agc [] [19] FS146_20 T27) → (64 - zx9.toInt).toNat < (64 - x9_26.toInt).toNat → R152 zx1 zx2 zx3 zx9 zS) → b_Pa_makeBlock_152 UL 4 x1 3 (x1 / 64) x9_26 (T27, LT27, PC a b P) R152 K from hs _ (fun _ _ _ _ _ h1 h2 => ⟨h1, h2⟩)
    intro R152 hR1520
    have hR152 := fun {zx1} {zx2} {zx3} {zx9} {zS} => hR1520 zx1 zx2 zx3 zx9 zS
    unfold b_Pa_makeBlock_152
    refine ⟨fun hc => ?_, fun hc => ?_⟩
    · have hq31 := hc
      have b32 : B 64 64 (x9_26) := B_w (B_leR cqb_64_64_64 b28 hq31) (by decide +kernel) (by decide +kernel)
      have g35 := agc_tr (agc_refl (fs := []) (rs := [9, 10, 19, 999]) (F := F)) g17 (by decide +kernel) (by decide +kernel)
      have g34 := agc_tr g35 g22 (by decide +kernel) (by decide +kernel)
      have g33 := agc_tr g34 g30 (by decide +kernel) (by decide +kernel)
      exact hK hI29 g33
    · have hq36 := (nle_lt hc)
      have b37 : B 0 63 (x9_26) := B_w (B_ltL b28 cqb_64_64_64 hq36) (by decide +kernel) (by decide +kernel)
      refine ⟨(show ¬ ((7 : Nat) = NU) from by decide +kernel), ?_⟩
      refine ⟨(show c_cl UL 7 = 12 from cl_7), ?_⟩
      refine ⟨(show ¬ ((10 : Nat) = NU) from by decide +kernel), ?_⟩
      refine ⟨(show vp_in (x9_26) 64 from vp_B b37 (by decide +kernel) (by decide +kernel)), ?_⟩
      refine ⟨(show c_cl UL 10 = 902 from cl_10), ?_⟩
      refine ⟨(show vp_in (rw_at row_sl x9_26.toNatClampNeg) 64 from vp_B (B_sl _) (by decide +kernel) (by decide +kernel)), ?_⟩
      refine h_Pa_kindOf  (fun {v180_38} b39 => ?_)
      refine ⟨(show vp_in (x9_26) 64 from vp_B b37 (by decide +kernel) (by decide +kernel)), ?_⟩
      refine ⟨(show c_cl UL 3 = 902 from cl_3), ?_⟩
      refine ⟨(show vp_in ((64 * v180_38) + (rw_at row_sl x9_26.toNatClampNeg)) 128 from vp_B (B_add (B_mul cqb_64_64_64 b39 (by decide +kernel) (by decide +kernel) (by decide +kernel)) (B_sl _) (by decide +kernel) (by decide +kernel)) (by decide +kernel) (by decide +kernel)), ?_⟩
      refine ⟨B_nz (show B 1 255 (i_max 1 (T27 3 ((64 * v180_38) + (rw_at row_sl x9_26.toNatClampNeg)).toNatClampNeg)) from B_i_max cqb_1_1_1 (B_eq (((congrFun (g30.2 3 rfl rfl) ((64 * v180_38) + (rw_at row_sl x9_26.toNatClampNeg)).toNatClampNeg).trans (congrFun (g22.2 3 rfl rfl) ((64 * v180_38) + (rw_at row_sl x9_26.toNatClampNeg)).toNatClampNeg)).trans (congrFun (g17.2 3 rfl rfl) ((64 * v180_38) + (rw_at row_sl x9_26.toNatClampNeg)).toNatClampNeg)) (show B 1 255 (F 3 ((64 * v180_38) + (rw_at row_sl x9_26.toNatClampNeg)).toNatClampNeg) from sB_3 hI (B_add (B_mul cqb_64_64_64 b39 (by decide +kernel) (by decide +kernel) (by decide +kernel)) (B_sl _) (by decide +kernel) (by decide +kernel)) (by decide +kernel) (by decide +kernel))) (by decide +kernel) (by decide +kernel)) (by decide +kernel), ?_⟩
      refine ⟨(show ¬ ((12 : Nat) = NU) from by decide +kernel), ?_⟩
      refine ⟨(show c_cl UL 12 = 7 from cl_12), ?_⟩
      refine ⟨(show ¬ ((19 : Nat) = NU) from by decide +kernel), ?_⟩
      refine ⟨fun hc => ?_, fun hc => ?_⟩
      · have hq40 := hc
        have b41 : B 0 2147483647 (FS146_20 10 (rw_at row_sl x9_26.toNatClampNeg).toNatClampNeg) := B_w (B_eq (Eq.symm (congrFun (g30.2 10 rfl rfl) (rw_at row_sl x9_26.toNatClampNeg).toNatClampNeg)) (B_leR cqb_0_0_0 (B_eq (congrFun (g30.2 10 rfl rfl) (rw_at row_sl x9_26.toNatClampNeg).toNatClampNeg) (B_any _)) hq40)) (by decide +kernel) (by decide +kernel)
        unfold b_Pa_makeBlock_239
        refine ⟨(show c_cl UL 19 = 902 from cl_19), ?_⟩
        refine ⟨(show vp_in ((64 * x1) + x9_26) 12288 from vp_B (B_add (B_mul cqb_64_64_64 b_x1 (by decide +kernel) (by decide +kernel) (by decide +kernel)) b37 (by decide +kernel) (by decide +kernel)) (by decide +kernel) (by decide +kernel)), ?_⟩
        have hI42 := IMc_u (u := 19) (i := ((64 * x1) + x9_26).toNatClampNeg) (v := ((i_abs (T27 10 (rw_at row_sl x9_26.toNatClampNeg).toNatClampNeg)) + ((i_max 1 (T27 3 ((64 * v180_38) + (rw_at row_sl x9_26.toNatClampNeg)).toNatClampNeg)) / 2)) / (i_max 1 (T27 3 ((64 * v180_38) + (rw_at row_sl x9_26.toNatClampNeg)).toNatClampNeg))) hI29 (show B (-2147483648) 2147483647 (((i_abs (T27 10 (rw_at row_sl x9_26.toNatClampNeg).toNatClampNeg)) + ((i_max 1 (T27 3 ((64 * v180_38) + (rw_at row_sl x9_26.toNatClampNeg)).toNatClampNeg)) / 2)) / (i_max 1 (T27 3 ((64 * v180_38) + (rw_at row_sl x9_26.toNatClampNeg)).toNatClampNeg))) from (B_w (B_any _) (by decide +kernel) (by decide +kernel)))
        have g44 := agc_tr (agc_refl (fs := []) (rs := [19]) (F := FS146_20)) g30 (by decide +kernel) (by decide +kernel)
        have g43 := agc_r (u := 19) (w := upd (T27 19) ((64 * x1) + x9_26).toNatClampNeg (((i_abs (T27 10 (rw_at row_sl x9_26.toNatClampNeg).toNatClampNeg)) + ((i_max 1 (T27 3 ((64 * v180_38) + (rw_at row_sl x9_26.toNatClampNeg)).toNatClampNeg)) / 2)) / (i_max 1 (T27 3 ((64 * v180_38) + (rw_at row_sl x9_26.toNatClampNeg)).toNatClampNeg)))) g44 rfl (by decide +kernel)
        have q45 : (0) ≤ (x9_26).toInt ∧ (x9_26).toInt ≤ (63) := (show B 0 63 (x9_26) from B_w b37 (by decide +kernel) (by decide +kernel))
        have e46 : (x9_26 + 1).toInt = ((x9_26).toInt + 1) := (t_add b37 cqb_1_1_1 (by decide +kernel) (by decide +kernel)).trans (by rw [cqn_1])
        have q47 : (1) ≤ (x9_26 + 1).toInt ∧ (x9_26 + 1).toInt ≤ (64) := (show B 1 64 (x9_26 + 1) from B_w (B_add b37 cqb_1_1_1 (by decide +kernel) (by decide +kernel)) (by decide +kernel) (by decide +kernel))
        exact hR152 ⟨rfl, rfl, rfl, (B_w (B_add b37 cqb_1_1_1 (by decide +kernel) (by decide +kernel)) (by decide +kernel) (by decide +kernel)), _, _, rfl, hI42, g43⟩ (by show (64 - (x9_26 + 1).toInt).toNat < (64 - x9_26.toInt).toNat; omega)
      · have hq48 := (nle_lt hc)
        have b49 : B (-2147483648) (-1) (FS146_20 10 (rw_at row_sl x9_26.toNatClampNeg).toNatClampNeg) := B_w (B_eq (Eq.symm (congrFun (g30.2 10 rfl rfl) (rw_at row_sl x9_26.toNatClampNeg).toNatClampNeg)) (B_ltL (B_eq (congrFun (g30.2 10 rfl rfl) (rw_at row_sl x9_26.toNatClampNeg).toNatClampNeg) (B_any _)) cqb_0_0_0 hq48)) (by decide +kernel) (by decide +kernel)
        unfold b_Pa_makeBlock_239
        refine ⟨(show c_cl UL 19 = 902 from cl_19), ?_⟩
        refine ⟨(show vp_in ((64 * x1) + x9_26) 12288 from vp_B (B_add (B_mul cqb_64_64_64 b_x1 (by decide +kernel) (by decide +kernel) (by decide +kernel)) b37 (by decide +kernel) (by decide +kernel)) (by decide +kernel) (by decide +kernel)), ?_⟩
        have hI50 := IMc_u (u := 19) (i := ((64 * x1) + x9_26).toNatClampNeg) (v := -(((i_abs (T27 10 (rw_at row_sl x9_26.toNatClampNeg).toNatClampNeg)) + ((i_max 1 (T27 3 ((64 * v180_38) + (rw_at row_sl x9_26.toNatClampNeg)).toNatClampNeg)) / 2)) / (i_max 1 (T27 3 ((64 * v180_38) + (rw_at row_sl x9_26.toNatClampNeg)).toNatClampNeg)))) hI29 (show B (-2147483648) 2147483647 (-(((i_abs (T27 10 (rw_at row_sl x9_26.toNatClampNeg).toNatClampNeg)) + ((i_max 1 (T27 3 ((64 * v180_38) + (rw_at row_sl x9_26.toNatClampNeg)).toNatClampNeg)) / 2)) / (i_max 1 (T27 3 ((64 * v180_38) + (rw_at row_sl x9_26.toNatClampNeg)).toNatClampNeg)))) from (B_w (B_any _) (by decide +kernel) (by decide +kernel)))
        have g52 := agc_tr (agc_refl (fs := []) (rs := [19]) (F := FS146_20)) g30 (by decide +kernel) (by decide +kernel)
        have g51 := agc_r (u := 19) (w := upd (T27 19) ((64 * x1) + x9_26).toNatClampNeg (-(((i_abs (T27 10 (rw_at row_sl x9_26.toNatClampNeg).toNatClampNeg)) + ((i_max 1 (T27 3 ((64 * v180_38) + (rw_at row_sl x9_26.toNatClampNeg)).toNatClampNeg)) / 2)) / (i_max 1 (T27 3 ((64 * v180_38) + (rw_at row_sl x9_26.toNatClampNeg)).toNatClampNeg))))) g52 rfl (by decide +kernel)
        have q53 : (0) ≤ (x9_26).toInt ∧ (x9_26).toInt ≤ (63) := (show B 0 63 (x9_26) from B_w b37 (by decide +kernel) (by decide +kernel))
        have e54 : (x9_26 + 1).toInt = ((x9_26).toInt + 1) := (t_add b37 cqb_1_1_1 (by decide +kernel) (by decide +kernel)).trans (by rw [cqn_1])
        have q55 : (1) ≤ (x9_26 + 1).toInt ∧ (x9_26 + 1).toInt ≤ (64) := (show B 1 64 (x9_26 + 1) from B_w (B_add b37 cqb_1_1_1 (by decide +kernel) (by decide +kernel)) (by decide +kernel) (by decide +kernel))
        exact hR152 ⟨rfl, rfl, rfl, (B_w (B_add b37 cqb_1_1_1 (by decide +kernel) (by decide +kernel)) (by decide +kernel) (by decide +kernel)), _, _, rfl, hI50, g51⟩ (by show (64 - (x9_26 + 1).toInt).toNat < (64 - x9_26.toInt).toNat; omega)
  · have hq56 := (nle_lt hc)
    have b57 : B 0 63 (x9_13) := B_w (B_ltL b15 cqb_64_64_64 hq56) (by decide +kernel) (by decide +kernel)
    refine ⟨(show ¬ ((7 : Nat) = NU) from by decide +kernel), ?_⟩
    refine ⟨(show c_cl UL 7 = 12 from cl_7), ?_⟩
    refine ⟨(show ¬ ((9 : Nat) = NU) from by decide +kernel), ?_⟩
    refine ⟨(show ¬ ((12 : Nat) = NU) from by decide +kernel), ?_⟩
    refine ⟨(show c_cl UL 12 = 7 from cl_12), ?_⟩
    refine ⟨(show ¬ ((21 : Nat) = NU) from by decide +kernel), ?_⟩
    try unfold p_B_spot
    refine ⟨(show c_cl UL 21 = 902 from cl_21), ?_⟩
    have b58 : B 1 64 (F 16 (x1 / 64).toNatClampNeg) := qf_at pre2 (x := x1 / 64) (by omega) (by omega)
    have b59 : B 1 64 (F 15 (x1 / 64).toNatClampNeg) := qf_at pre1 (x := x1 / 64) (by omega) (by omega)
    refine ⟨(show vp_in (((4096 * (x1 / 64)) + (64 * (i_min ((F 16 (x1 / 64).toNatClampNeg) - 1) ((((x1 - ((x1 / 64) * 64)) / (i_max 1 (F 17 (x1 / 64).toNatClampNeg))) * 8) + (x9_13 / 8))))) + (i_min ((F 15 (x1 / 64).toNatClampNeg) - 1) ((((x1 - ((x1 / 64) * 64)) - (((x1 - ((x1 / 64) * 64)) / (i_max 1 (F 17 (x1 / 64).toNatClampNeg))) * (i_max 1 (F 17 (x1 / 64).toNatClampNeg)))) * 8) + (x9_13 - ((x9_13 / 8) * 8))))) 12288 from vp_B (B_add (B_add (B_mul cqb_4096_4096_4096 (show B 0 2 (x1 / 64) from B_div2 b_x1 cqb_64_64_64 (by decide +kernel) (by decide +kernel) (by decide +kernel) (by decide +kernel)) (by decide +kernel) (by decide +kernel) (by decide +kernel)) (B_mul cqb_64_64_64 (show B 0 63 (i_min ((F 16 (x1 / 64).toNatClampNeg) - 1) ((((x1 - ((x1 / 64) * 64)) / (i_max 1 (F 17 (x1 / 64).toNatClampNeg))) * 8) + (x9_13 / 8))) from B_i_min (B_sub b58 cqb_1_1_1 (by decide +kernel) (by decide +kernel)) (B_add (B_mul (show B 0 63 ((x1 - ((x1 / 64) * 64)) / (i_max 1 (F 17 (x1 / 64).toNatClampNeg))) from B_div2 (B_rem b_x1 cqb_64_64_64 (by decide +kernel) (by decide +kernel)) (show B 1 8 (i_max 1 (F 17 (x1 / 64).toNatClampNeg)) from B_i_max cqb_1_1_1 b5 (by decide +kernel) (by decide +kernel)) (by decide +kernel) (by decide +kernel) (by decide +kernel) (by decide +kernel)) cqb_8_8_8 (by decide +kernel) (by decide +kernel) (by decide +kernel)) (show B 0 7 (x9_13 / 8) from B_div2 b57 cqb_8_8_8 (by decide +kernel) (by decide +kernel) (by decide +kernel) (by decide +kernel)) (by decide +kernel) (by decide +kernel)) (by decide +kernel) (by decide +kernel)) (by decide +kernel) (by decide +kernel) (by decide +kernel)) (by decide +kernel) (by decide +kernel)) (show B 0 63 (i_min ((F 15 (x1 / 64).toNatClampNeg) - 1) ((((x1 - ((x1 / 64) * 64)) - (((x1 - ((x1 / 64) * 64)) / (i_max 1 (F 17 (x1 / 64).toNatClampNeg))) * (i_max 1 (F 17 (x1 / 64).toNatClampNeg)))) * 8) + (x9_13 - ((x9_13 / 8) * 8)))) from B_i_min (B_sub b59 cqb_1_1_1 (by decide +kernel) (by decide +kernel)) (B_add (B_mul (B_rem (B_rem b_x1 cqb_64_64_64 (by decide +kernel) (by decide +kernel)) (show B 1 8 (i_max 1 (F 17 (x1 / 64).toNatClampNeg)) from B_i_max cqb_1_1_1 b5 (by decide +kernel) (by decide +kernel)) (by decide +kernel) (by decide +kernel)) cqb_8_8_8 (by decide +kernel) (by decide +kernel) (by decide +kernel)) (B_rem b57 cqb_8_8_8 (by decide +kernel) (by decide +kernel)) (by decide +kernel) (by decide +kernel)) (by decide +kernel) (by decide +kernel)) (by decide +kernel) (by decide +kernel)) (by decide +kernel) (by decide +kernel)), ?_⟩
    refine ⟨(show c_cl UL 9 = 902 from cl_9), ?_⟩
    refine ⟨(show vp_in (x9_13) 64 from vp_B b57 (by decide +kernel) (by decide +kernel)), ?_⟩
    have hI60 := IMc_u (u := 9) (i := x9_13.toNatClampNeg) (v := T14 21 (((4096 * (x1 / 64)) + (64 * (i_min ((F 16 (x1 / 64).toNatClampNeg) - 1) ((((x1 - ((x1 / 64) * 64)) / (i_max 1 (F 17 (x1 / 64).toNatClampNeg))) * 8) + (x9_13 / 8))))) + (i_min ((F 15 (x1 / 64).toNatClampNeg) - 1) ((((x1 - ((x1 / 64) * 64)) - (((x1 - ((x1 / 64) * 64)) / (i_max 1 (F 17 (x1 / 64).toNatClampNeg))) * (i_max 1 (F 17 (x1 / 64).toNatClampNeg)))) * 8) + (x9_13 - ((x9_13 / 8) * 8))))).toNatClampNeg) hI16 (show B (-2147483648) 2147483647 (T14 21 (((4096 * (x1 / 64)) + (64 * (i_min ((F 16 (x1 / 64).toNatClampNeg) - 1) ((((x1 - ((x1 / 64) * 64)) / (i_max 1 (F 17 (x1 / 64).toNatClampNeg))) * 8) + (x9_13 / 8))))) + (i_min ((F 15 (x1 / 64).toNatClampNeg) - 1) ((((x1 - ((x1 / 64) * 64)) - (((x1 - ((x1 / 64) * 64)) / (i_max 1 (F 17 (x1 / 64).toNatClampNeg))) * (i_max 1 (F 17 (x1 / 64).toNatClampNeg)))) * 8) + (x9_13 - ((x9_13 / 8) * 8))))).toNatClampNeg) from (B_w (B_eq (congrFun (g17.2 21 rfl rfl) (((4096 * (x1 / 64)) + (64 * (i_min ((F 16 (x1 / 64).toNatClampNeg) - 1) ((((x1 - ((x1 / 64) * 64)) / (i_max 1 (F 17 (x1 / 64).toNatClampNeg))) * 8) + (x9_13 / 8))))) + (i_min ((F 15 (x1 / 64).toNatClampNeg) - 1) ((((x1 - ((x1 / 64) * 64)) - (((x1 - ((x1 / 64) * 64)) / (i_max 1 (F 17 (x1 / 64).toNatClampNeg))) * (i_max 1 (F 17 (x1 / 64).toNatClampNeg)))) * 8) + (x9_13 - ((x9_13 / 8) * 8))))).toNatClampNeg) (B_any _)) (by decide +kernel) (by decide +kernel)))
    have g62 := agc_tr (agc_refl (fs := []) (rs := [9]) (F := F)) g17 (by decide +kernel) (by decide +kernel)
    have g61 := agc_r (u := 9) (w := upd (T14 9) x9_13.toNatClampNeg (T14 21 (((4096 * (x1 / 64)) + (64 * (i_min ((F 16 (x1 / 64).toNatClampNeg) - 1) ((((x1 - ((x1 / 64) * 64)) / (i_max 1 (F 17 (x1 / 64).toNatClampNeg))) * 8) + (x9_13 / 8))))) + (i_min ((F 15 (x1 / 64).toNatClampNeg) - 1) ((((x1 - ((x1 / 64) * 64)) - (((x1 - ((x1 / 64) * 64)) / (i_max 1 (F 17 (x1 / 64).toNatClampNeg))) * (i_max 1 (F 17 (x1 / 64).toNatClampNeg)))) * 8) + (x9_13 - ((x9_13 / 8) * 8))))).toNatClampNeg)) g62 rfl (by decide +kernel)
    have q63 : (0) ≤ (x9_13).toInt ∧ (x9_13).toInt ≤ (63) := (show B 0 63 (x9_13) from B_w b57 (by decide +kernel) (by decide +kernel))
    have e64 : (x9_13 + 1).toInt = ((x9_13).toInt + 1) := (t_add b57 cqb_1_1_1 (by decide +kernel) (by decide +kernel)).trans (by rw [cqn_1])
    have q65 : (1) ≤ (x9_13 + 1).toInt ∧ (x9_13 + 1).toInt ≤ (64) := (show B 1 64 (x9_13 + 1) from B_w (B_add b57 cqb_1_1_1 (by decide +kernel) (by decide +kernel)) (by decide +kernel) (by decide +kernel))
    exact hR73 ⟨rfl, rfl, rfl, rfl, rfl, rfl, rfl, (B_w (B_add b57 cqb_1_1_1 (by decide +kernel) (by decide +kernel)) (by decide +kernel) (by decide +kernel)), _, _, rfl, hI60, g61⟩ (by show (64 - (x9_13 + 1).toInt).toNat < (64 - x9_13.toInt).toNat; omega)
set_option maxRecDepth 20000 in
set_option maxHeartbeats 4000000 in
theorem h_Ar_fillI_x019_x10 {a : Bool} {b : Bool} {P : Nat → Nat → Nat} {F : cF} {L : cL} {K : cs → Prop} (hI : IMc F) (hK : ∀ {Z : cF} {LZ : cL}, IMc Z → agc [] [19] F Z → K (Z, LZ, PC a b P)) : p_Ar_fillI UL 19 0 (F, L, PC a b P) K := by
  unfold p_Ar_fillI
  refine ⟨(show c_cl UL 19 = 902 from cl_19), ?_⟩
  refine ⟨fun yx0 yx1 yx2 yx3 yS => (19 : Nat) = yx0 ∧ (0 : Int32) = yx1 ∧ (12288 : Int32) = yx3 ∧ B 0 65536 yx2 ∧ ∃ (T5 : cF) (LT5 : cL), yS = (T5, LT5, PC a b P) ∧ IMc T5 ∧ agc [] [19] F T5, fun yx0 yx1 yx2 yx3 yS => (65536 - yx2.toInt).toNat, ⟨rfl, rfl, rfl, (B_w cqb_0_0_0 (by decide +kernel) (by decide +kernel)), _, _, rfl, hI, (agc_refl (fs := []) (rs := [19]) (F := F))⟩, fun x0_1 x1_2 x2_3 x3_4 ST5 hIv => ?_⟩
  obtain ⟨rfl, rfl, rfl, b6, T5, LT5, rfl, hI7, g8⟩ := hIv
  suffices hs : ∀ (R5 : Nat → Int32 → Int32 → Int32 → cs → Prop), (∀ zx0 zx1 zx2 zx3 zS, ((19 : Nat) = zx0 ∧ (0 : Int32) = zx1 ∧ (12288 : Int32) = zx3 ∧ B 0 65536 zx2 ∧ ∃ (T5 : cF) (LT5 : cL), zS = (T5, LT5, PC a b P) ∧ IMc T5 ∧ agc [] [19] F T5) → (65536 - zx2.toInt).toNat < (65536 - x2_3.toInt).toNat → R5 zx0 zx1 zx2 zx3 zS) → b_Ar_fillI_5 UL 19 0 x2_3 12288 (T5, LT5, PC a b P) R5 K from hs _ (fun _ _ _ _ _ h1 h2 => ⟨h1, h2⟩)
  intro R5 hR50
  have hR5 := fun {zx0} {zx1} {zx2} {zx3} {zS} => hR50 zx0 zx1 zx2 zx3 zS
  unfold b_Ar_fillI_5
  refine ⟨fun hc => ?_, fun hc => ?_⟩
  · have hq9 := hc
    have b10 : B 12288 65536 (x2_3) := B_w (B_leR cqb_12288_12288_12288 b6 hq9) (by decide +kernel) (by decide +kernel)
    have g11 := agc_tr (agc_refl (fs := []) (rs := [19]) (F := F)) g8 (by decide +kernel) (by decide +kernel)
    exact hK hI7 g11
  · have hq12 := (nle_lt hc)
    have b13 : B 0 12287 (x2_3) := B_w (B_ltL b6 cqb_12288_12288_12288 hq12) (by decide +kernel) (by decide +kernel)
    refine ⟨(show c_cl UL 19 = 902 from cl_19), ?_⟩
    refine ⟨(show vp_in (x2_3) 12288 from vp_B b13 (by decide +kernel) (by decide +kernel)), ?_⟩
    have hI14 := IMc_u (u := 19) (i := x2_3.toNatClampNeg) (v := 0) hI7 (show B (-2147483648) 2147483647 (0) from (B_w cqb_0_0_0 (by decide +kernel) (by decide +kernel)))
    have g16 := agc_tr (agc_refl (fs := []) (rs := [19]) (F := F)) g8 (by decide +kernel) (by decide +kernel)
    have g15 := agc_r (u := 19) (w := upd (T5 19) x2_3.toNatClampNeg 0) g16 rfl (by decide +kernel)
    have q17 : (0) ≤ (x2_3).toInt ∧ (x2_3).toInt ≤ (12287) := (show B 0 12287 (x2_3) from B_w b13 (by decide +kernel) (by decide +kernel))
    have e18 : (x2_3 + 1).toInt = ((x2_3).toInt + 1) := (t_add b13 cqb_1_1_1 (by decide +kernel) (by decide +kernel)).trans (by rw [cqn_1])
    have q19 : (1) ≤ (x2_3 + 1).toInt ∧ (x2_3 + 1).toInt ≤ (12288) := (show B 1 12288 (x2_3 + 1) from B_w (B_add b13 cqb_1_1_1 (by decide +kernel) (by decide +kernel)) (by decide +kernel) (by decide +kernel))
    exact hR5 ⟨rfl, rfl, rfl, (B_w (B_add b13 cqb_1_1_1 (by decide +kernel) (by decide +kernel)) (by decide +kernel) (by decide +kernel)), _, _, rfl, hI14, g15⟩ (by show (65536 - (x2_3 + 1).toInt).toNat < (65536 - x2_3.toInt).toNat; omega)
set_option maxRecDepth 20000 in
set_option maxHeartbeats 4000000 in
theorem h_Pi_begin_u12 {a : Bool} {b : Bool} {P : Nat → Nat → Nat} {x1 : Int32} {x2 : Int32} {x3 : Int32} {F : cF} {L : cL} {K : cs → Prop} (b_x1 : B 1 64 x1) (b_x2 : B 1 64 x2) (b_x3 : B 1 3 x3) (hI : IMc F) (hK : ∀ {Z : cF} {LZ : cL}, IMc Z → agc [1200, 1201, 1202, 1205, 1206, 1216] [19] F Z → ((Z 12 2).toInt = x3.toInt) → ((Z 12 0).toInt = x1.toInt) → ((Z 12 1).toInt = x2.toInt) → K (Z, LZ, PC a b P)) : p_Pi_begin UL 12 x1 x2 x3 (F, L, PC a b P) K := by
  unfold p_Pi_begin
  refine ⟨(show ¬ ((19 : Nat) = NU) from by decide +kernel), ?_⟩
  have hI1 := IMc_u (u := 12) (i := 0) (v := x1) hI (show B 1 64 (x1) from (B_w b_x1 (by decide +kernel) (by decide +kernel)))
  have hI2 := IMc_u (u := 12) (i := 1) (v := x2) hI1 (show B 1 64 (x2) from (B_w b_x2 (by decide +kernel) (by decide +kernel)))
  have hI3 := IMc_u (u := 12) (i := 2) (v := x3) hI2 (show B 1 3 (x3) from (B_w b_x3 (by decide +kernel) (by decide +kernel)))
  have hI4 := IMc_u (u := 12) (i := 5) (v := 1) hI3 (show B 1 2 (1) from (B_w cqb_1_1_1 (by decide +kernel) (by decide +kernel)))
  have hI5 := IMc_u (u := 12) (i := 6) (v := 1) hI4 (show B 1 2 (1) from (B_w cqb_1_1_1 (by decide +kernel) (by decide +kernel)))
  have hI6 := IMc_u (u := 12) (i := 16) (v := 0) hI5 (show B 0 1 (0) from (B_w cqb_0_0_0 (by decide +kernel) (by decide +kernel)))
  refine h_Ar_fillI_x019_x10 hI6 (fun {FS35_7} {LFS35_7} hI8 g9 => ?_)
  have g16 := agc_f (u := 12) (k := 0) (v := x1) (agc_refl (fs := [1200, 1201, 1202, 1205, 1206, 1216]) (rs := [19]) (F := F)) rfl (by decide +kernel)
  have g15 := agc_f (u := 12) (k := 1) (v := x2) g16 rfl (by decide +kernel)
  have g14 := agc_f (u := 12) (k := 2) (v := x3) g15 rfl (by decide +kernel)
  have g13 := agc_f (u := 12) (k := 5) (v := 1) g14 rfl (by decide +kernel)
  have g12 := agc_f (u := 12) (k := 6) (v := 1) g13 rfl (by decide +kernel)
  have g11 := agc_f (u := 12) (k := 16) (v := 0) g12 rfl (by decide +kernel)
  have g10 := agc_tr g11 g9 (by decide +kernel) (by decide +kernel)
  have q17 : (1) ≤ (x3).toInt ∧ (x3).toInt ≤ (3) := (show B 1 3 (x3) from B_w b_x3 (by decide +kernel) (by decide +kernel))
  have e18 : (FS35_7 12 2).toInt = (x3).toInt := (congrArg Int32.toInt (g9.1 12 2 rfl rfl)).trans rfl
  have q19 : (1) ≤ (x1).toInt ∧ (x1).toInt ≤ (64) := (show B 1 64 (x1) from B_w b_x1 (by decide +kernel) (by decide +kernel))
  have e20 : (FS35_7 12 0).toInt = (x1).toInt := (congrArg Int32.toInt (g9.1 12 0 rfl rfl)).trans rfl
  have q21 : (1) ≤ (x2).toInt ∧ (x2).toInt ≤ (64) := (show B 1 64 (x2) from B_w b_x2 (by decide +kernel) (by decide +kernel))
  have e22 : (FS35_7 12 1).toInt = (x2).toInt := (congrArg Int32.toInt (g9.1 12 1 rfl rfl)).trans rfl
  exact hK hI8 g10 (by show (FS35_7 12 2).toInt = x3.toInt; first | with_reducible assumption | omega) (by show (FS35_7 12 0).toInt = x1.toInt; first | with_reducible assumption | omega) (by show (FS35_7 12 1).toInt = x2.toInt; first | with_reducible assumption | omega)
set_option maxRecDepth 20000 in
set_option maxHeartbeats 4000000 in
theorem h_Pi_setFactors_u12 {a : Bool} {b : Bool} {P : Nat → Nat → Nat} {x1 : Int32} {x2 : Int32} {x3 : Int32} {F : cF} {L : cL} {K : cs → Prop} (b_x1 : B 0 2 x1) (b_x2 : B 1 2 x2) (b_x3 : B 1 2 x3) (hI : IMc F) (pre0 : qf (F 13) 0 x1.toInt 1 (F 12 5).toInt) (pre1 : qf (F 14) 0 x1.toInt 1 (F 12 6).toInt) (hK : ∀ {Z : cF} {LZ : cL}, IMc Z → agc [1205, 1206] [13, 14] F Z → (qf (Z 13) 0 (x1.toInt + 1) 1 (Z 12 5).toInt) → (qf (Z 14) 0 (x1.toInt + 1) 1 (Z 12 6).toInt) → K (Z, LZ, PC a b P)) : p_Pi_setFactors UL 12 x1 x2 x3 (F, L, PC a b P) K := by
  have q1 : (0) ≤ (x1).toInt ∧ (x1).toInt ≤ (2) := (show B 0 2 (x1) from B_w b_x1 (by decide +kernel) (by decide +kernel))
  unfold p_Pi_setFactors
  refine ⟨(show ¬ ((13 : Nat) = NU) from by decide +kernel), ?_⟩
  refine ⟨(show c_cl UL 13 = 902 from cl_13), ?_⟩
  refine ⟨(show vp_in (x1) 3 from vp_B b_x1 (by decide +kernel) (by decide +kernel)), ?_⟩
  refine ⟨(show ¬ ((14 : Nat) = NU) from by decide +kernel), ?_⟩
  refine ⟨(show c_cl UL 14 = 902 from cl_14), ?_⟩
  refine ⟨(show vp_in (x1) 3 from vp_B b_x1 (by decide +kernel) (by decide +kernel)), ?_⟩
  have hI2 := IMc_u (u := 13) (i := x1.toNatClampNeg) (v := x2) hI (sW_13 (i := x1.toNatClampNeg) (show B 1 2 (x2) from (B_w b_x2 (by decide +kernel) (by decide +kernel))))
  have hI3 := IMc_u (u := 14) (i := x1.toNatClampNeg) (v := x3) hI2 (sW_14 (i := x1.toNatClampNeg) (show B 1 2 (x3) from (B_w b_x3 (by decide +kernel) (by decide +kernel))))
  have hI4 := IMc_u (u := 12) (i := 5) (v := i_max (F 12 5) x2) hI3 (show B 1 2 (i_max (F 12 5) x2) from (B_w (show B 1 2 (i_max (F 12 5) x2) from B_i_max (show B 1 2 (F 12 5) from hI 12 5) b_x2 (by decide +kernel) (by decide +kernel)) (by decide +kernel) (by decide +kernel)))
  have hI5 := IMc_u (u := 12) (i := 6) (v := i_max (F 12 6) x3) hI4 (show B 1 2 (i_max (F 12 6) x3) from (B_w (show B 1 2 (i_max (F 12 6) x3) from B_i_max (show B 1 2 (F 12 6) from hI 12 6) b_x3 (by decide +kernel) (by decide +kernel)) (by decide +kernel) (by decide +kernel)))
  have g9 := agc_r (u := 13) (w := upd (F 13) x1.toNatClampNeg x2) (agc_refl (fs := [1205, 1206]) (rs := [13, 14]) (F := F)) rfl (by decide +kernel)
  have g8 := agc_r (u := 14) (w := upd (F 14) x1.toNatClampNeg x3) g9 rfl (by decide +kernel)
  have g7 := agc_f (u := 12) (k := 5) (v := i_max (F 12 5) x2) g8 rfl (by decide +kernel)
  have g6 := agc_f (u := 12) (k := 6) (v := i_max (F 12 6) x3) g7 rfl (by decide +kernel)
  have q10 : (1) ≤ (F 12 5).toInt ∧ (F 12 5).toInt ≤ (2) := (show B 1 2 (F 12 5) from hI 12 5)
  have q11 : (1) ≤ (x2).toInt ∧ (x2).toInt ≤ (2) := (show B 1 2 (x2) from B_w b_x2 (by decide +kernel) (by decide +kernel))
  have k12 := imx (F 12 5) x2
  have q13 : (1) ≤ (i_max (F 12 5) x2).toInt ∧ (i_max (F 12 5) x2).toInt ≤ (2) := (show B 1 2 (i_max (F 12 5) x2) from B_i_max (show B 1 2 (F 12 5) from hI 12 5) b_x2 (by decide +kernel) (by decide +kernel))
  have q14 : (1) ≤ (F 12 6).toInt ∧ (F 12 6).toInt ≤ (2) := (show B 1 2 (F 12 6) from hI 12 6)
  have q15 : (1) ≤ (x3).toInt ∧ (x3).toInt ≤ (2) := (show B 1 2 (x3) from B_w b_x3 (by decide +kernel) (by decide +kernel))
  have k16 := imx (F 12 6) x3
  have q17 : (1) ≤ (i_max (F 12 6) x3).toInt ∧ (i_max (F 12 6) x3).toInt ≤ (2) := (show B 1 2 (i_max (F 12 6) x3) from B_i_max (show B 1 2 (F 12 6) from hI 12 6) b_x3 (by decide +kernel) (by decide +kernel))
  exact hK hI5 g6 (qf_le (b' := x1.toInt + 1) (lo' := 1) (hi' := (i_max (F 12 5) x2).toInt) (qf_ext (x := x1) (b' := x1.toInt + 1) (qf_le (b' := x1.toInt) (lo' := 1) (hi' := (i_max (F 12 5) x2).toInt) pre0 (by omega) (by omega) (by omega)) (fun _ => ⟨by omega, by omega⟩) (by omega) (by omega) (by omega)) (by omega) (by omega) (by omega)) (qf_le (b' := x1.toInt + 1) (lo' := 1) (hi' := (i_max (F 12 6) x3).toInt) (qf_ext (x := x1) (b' := x1.toInt + 1) (qf_le (b' := x1.toInt) (lo' := 1) (hi' := (i_max (F 12 6) x3).toInt) pre1 (by omega) (by omega) (by omega)) (fun _ => ⟨by omega, by omega⟩) (by omega) (by omega) (by omega)) (by omega) (by omega) (by omega))
set_option maxRecDepth 20000 in
set_option maxHeartbeats 4000000 in
theorem h_Pa_makeLevels_u4_x11_x23 {a : Bool} {b : Bool} {P : Nat → Nat → Nat} {x3 : Int32} {x4 : Int32} {F : cF} {L : cL} {K : cs → Prop} (b_x3 : B 1 2 x3) (b_x4 : B 1 2 x4) (hI : IMc F) (hK : ∀ {Z : cF} {LZ : cL}, IMc Z → agc [408, 1200, 1201, 1202, 1205, 1206, 1207, 1208, 1216, 1217, 2200, 2204, 2205, 2206] [9, 10, 13, 14, 15, 16, 17, 18, 19, 21, 23, 24, 25, 26, 999] F Z → (UPs 22 Z) → K (Z, LZ, PC a b P)) : p_Pa_makeLevels UL 4 1 3 x3 x4 (F, L, PC a b P) K := by
  unfold p_Pa_makeLevels
  refine ⟨(show c_cl UL 1 = 2 from cl_1), ?_⟩
  refine ⟨fun hc => ?_, fun hc => ?_⟩
  · have q1 : (1) ≤ (F 1 2).toInt ∧ (F 1 2).toInt ≤ (3) := (show B 1 3 (F 1 2) from hI 1 2)
    have i2 : (F 1 2).toInt ≠ (1 : Int32).toInt := i_ne hc
    have n3 : (1 : Int32).toInt = 1 := cqn_1
    unfold b_Pa_makeLevels_14
    refine ⟨(show ¬ ((12 : Nat) = NU) from by decide +kernel), ?_⟩
    refine ⟨(show c_cl UL 1 = 2 from cl_1), ?_⟩
    refine ⟨(show c_cl UL 12 = 7 from cl_12), ?_⟩
    have hI4 := IMc_u (u := 4) (i := 8) (v := 2) hI (show B 0 2 (2) from (B_w cqb_2_2_2 (by decide +kernel) (by decide +kernel)))
    refine h_Pi_begin_u12 (B_w (show B 1 64 (F 1 0) from hI 1 0) (by decide +kernel) (by decide +kernel)) (B_w (show B 1 64 (F 1 1) from hI 1 1) (by decide +kernel) (by decide +kernel)) (B_w (show B 1 3 (F 1 2) from hI 1 2) (by decide +kernel) (by decide +kernel)) hI4 (fun {FS33_5} {LFS33_5} hI6 g7 r8 r9 r10 => ?_)
    have r11 : (FS33_5 12 2).toInt = (F 1 2).toInt := r8
    clear r8
    have q12 : (1) ≤ (FS33_5 12 2).toInt ∧ (FS33_5 12 2).toInt ≤ (3) := (show B 1 3 (FS33_5 12 2) from hI6 12 2)
    have r13 : (FS33_5 12 0).toInt = (F 1 0).toInt := r9
    clear r9
    have q14 : (1) ≤ (FS33_5 12 0).toInt ∧ (FS33_5 12 0).toInt ≤ (64) := (show B 1 64 (FS33_5 12 0) from hI6 12 0)
    have q15 : (1) ≤ (F 1 0).toInt ∧ (F 1 0).toInt ≤ (64) := (show B 1 64 (F 1 0) from hI 1 0)
    have r16 : (FS33_5 12 1).toInt = (F 1 1).toInt := r10
    clear r10
    have q17 : (1) ≤ (FS33_5 12 1).toInt ∧ (FS33_5 12 1).toInt ≤ (64) := (show B 1 64 (FS33_5 12 1) from hI6 12 1)
    have q18 : (1) ≤ (F 1 1).toInt ∧ (F 1 1).toInt ≤ (64) := (show B 1 64 (F 1 1) from hI 1 1)
    refine ⟨(show ¬ ((22 : Nat) = NU) from by decide +kernel), ?_⟩
    refine ⟨(show c_cl UL 22 = 10 from cl_22), ?_⟩
    have hI28 := IMc_u (u := 22) (i := 0) (v := 0) hI6 (show B 0 3 (0) from (B_w cqb_0_0_0 (by decide +kernel) (by decide +kernel)))
    refine ⟨fun yx1 yx2 yx3 yx4 yx5 yS => (1 : Nat) = yx1 ∧ (3 : Nat) = yx2 ∧ x3 = yx3 ∧ x4 = yx4 ∧ B 0 3 yx5 ∧ ∃ (T24 : cF) (LT24 : cL), yS = (T24, LT24, PC a b P) ∧ IMc T24 ∧ agc [1205, 1206, 2200] [13, 14, 23, 24, 25, 999] (va_up FS33_5 22 (upd (FS33_5 22) 0 0)) T24 ∧ (qf (T24 13) 0 yx5.toInt 1 (T24 12 5).toInt) ∧ (qf (T24 14) 0 yx5.toInt 1 (T24 12 6).toInt) ∧ (qf (T24 23) 0 (T24 22 0).toInt 0 ((T24 12 2).toInt - 1)), fun yx1 yx2 yx3 yx4 yx5 yS => (3 - yx5.toInt).toNat, ⟨rfl, rfl, rfl, rfl, (B_w cqb_0_0_0 (by decide +kernel) (by decide +kernel)), _, _, rfl, hI28, (agc_refl (fs := [1205, 1206, 2200]) (rs := [13, 14, 23, 24, 25, 999]) (F := va_up FS33_5 22 (upd (FS33_5 22) 0 0))), (qf_0 (b := 0) (by omega)), (qf_0 (b := 0) (by omega)), (qf_0 (b := 0) (by omega))⟩, fun x1_19 x2_20 x3_21 x4_22 x5_23 ST24 hIv => ?_⟩
    obtain ⟨rfl, rfl, rfl, rfl, b25, T24, LT24, rfl, hI26, g27, r29, r30, r31⟩ := hIv
    suffices hs : ∀ (R47 : Nat → Nat → Int32 → Int32 → Int32 → cs → Prop), (∀ zx1 zx2 zx3 zx4 zx5 zS, ((1 : Nat) = zx1 ∧ (3 : Nat) = zx2 ∧ x3 = zx3 ∧ x4 = zx4 ∧ B 0 3 zx5 ∧ ∃ (T24 : cF) (LT24 : cL), zS = (T24, LT24, PC a b P) ∧ IMc T24 ∧ agc [1205, 1206, 2200] [13, 14, 23, 24, 25, 999] (va_up FS33_5 22 (upd (FS33_5 22) 0 0)) T24 ∧ (qf (T24 13) 0 zx5.toInt 1 (T24 12 5).toInt) ∧ (qf (T24 14) 0 zx5.toInt 1 (T24 12 6).toInt) ∧ (qf (T24 23) 0 (T24 22 0).toInt 0 ((T24 12 2).toInt - 1))) → (3 - zx5.toInt).toNat < (3 - x5_23.toInt).toNat → R47 zx1 zx2 zx3 zx4 zx5 zS) → b_Pa_makeLevels_47 UL 4 1 3 x3 x4 x5_23 (T24, LT24, PC a b P) R47 K from hs _ (fun _ _ _ _ _ _ h1 h2 => ⟨h1, h2⟩)
    intro R47 hR470
    have hR47 := fun {zx1} {zx2} {zx3} {zx4} {zx5} {zS} => hR470 zx1 zx2 zx3 zx4 zx5 zS
    have q32 : (0) ≤ (x5_23).toInt ∧ (x5_23).toInt ≤ (3) := (show B 0 3 (x5_23) from B_w b25 (by decide +kernel) (by decide +kernel))
    have q33 : (0) ≤ (T24 22 0).toInt ∧ (T24 22 0).toInt ≤ (3) := (show B 0 3 (T24 22 0) from hI26 22 0)
    unfold b_Pa_makeLevels_47
    refine ⟨(show ¬ ((12 : Nat) = NU) from by decide +kernel), ?_⟩
    refine ⟨(show c_cl UL 12 = 7 from cl_12), ?_⟩
    refine ⟨fun hc => ?_, fun hc => ?_⟩
    · have hq34 := hc
      have b35 : B 1 3 (x5_23) := B_w (B_leR (B_eq (g27.1 12 2 rfl rfl) (show B 1 3 (FS33_5 12 2) from hI6 12 2)) b25 hq34) (by decide +kernel) (by decide +kernel)
      have q36 : (1) ≤ (x5_23).toInt ∧ (x5_23).toInt ≤ (3) := (show B 1 3 (x5_23) from B_w b35 (by decide +kernel) (by decide +kernel))
      have e37 : (T24 12 2).toInt = (FS33_5 12 2).toInt := (congrArg Int32.toInt (g27.1 12 2 rfl rfl)).trans rfl
      have i38 : (T24 12 2).toInt ≤ (x5_23).toInt := i_le hq34
      refine ⟨(show ¬ ((12 : Nat) = NU) from by decide +kernel), ?_⟩
      have q39 : (1) ≤ (T24 12 5).toInt ∧ (T24 12 5).toInt ≤ (2) := (show B 1 2 (T24 12 5) from hI26 12 5)
      have q40 : (1) ≤ (T24 12 6).toInt ∧ (T24 12 6).toInt ≤ (2) := (show B 1 2 (T24 12 6) from hI26 12 6)
      refine h_Pi_measure_u12 hI26 (qf_le (b' := (T24 12 2).toInt) (lo' := 1) (hi' := (T24 12 5).toInt) r29 (by omega) (by omega) (by omega)) (qf_le (b' := (T24 12 2).toInt) (lo' := 1) (hi' := (T24 12 6).toInt) r30 (by omega) (by omega) (by omega)) (fun {FS119_41} {LFS119_41} hI42 g43 r44 r45 r46 r47 r48 => ?_)
      have r49 : qf (FS119_41 15) 0 (FS119_41 12 2).toInt 1 64 := r44
      clear r44
      have e50 : (FS119_41 12 2).toInt = (FS33_5 12 2).toInt := (congrArg Int32.toInt ((g43.1 12 2 rfl rfl).trans (g27.1 12 2 rfl rfl))).trans rfl
      have r51 : qf (FS119_41 16) 0 (FS119_41 12 2).toInt 1 64 := r45
      clear r45
      have r52 : qf (FS119_41 17) 0 (FS119_41 12 2).toInt 1 8 := r46
      clear r46
      have r53 : ((FS119_41 12 5).toInt = 1) ∨ ((FS119_41 12 7).toInt ≤ 4) := r47
      clear r47
      have e54 : (FS119_41 12 5).toInt = (T24 12 5).toInt := (congrArg Int32.toInt (g43.1 12 5 rfl rfl)).trans rfl
      have q55 : (1) ≤ (FS119_41 12 7).toInt ∧ (FS119_41 12 7).toInt ≤ (8) := (show B 1 8 (FS119_41 12 7) from hI42 12 7)
      have r56 : ((FS119_41 12 6).toInt = 1) ∨ ((FS119_41 12 8).toInt ≤ 4) := r48
      clear r48
      have e57 : (FS119_41 12 6).toInt = (T24 12 6).toInt := (congrArg Int32.toInt (g43.1 12 6 rfl rfl)).trans rfl
      have q58 : (1) ≤ (FS119_41 12 8).toInt ∧ (FS119_41 12 8).toInt ≤ (8) := (show B 1 8 (FS119_41 12 8) from hI42 12 8)
      refine ⟨(show ¬ ((12 : Nat) = NU) from by decide +kernel), ?_⟩
      refine ⟨(show c_cl UL 12 = 7 from cl_12), ?_⟩
      refine ⟨(show ¬ ((22 : Nat) = NU) from by decide +kernel), ?_⟩
      refine ⟨(show ¬ ((12 : Nat) = NU) from by decide +kernel), ?_⟩
      refine ⟨(show c_cl UL 22 = 10 from cl_22), ?_⟩
      have hI59 := IMc_u (u := 12) (i := 17) (v := 1) hI42 (show B 0 1 (1) from (B_w cqb_1_1_1 (by decide +kernel) (by decide +kernel)))
      have e60 : (FS119_41 22 0).toInt = (T24 22 0).toInt := (congrArg Int32.toInt (g43.1 22 0 rfl rfl)).trans rfl
      refine h_Sc_arrange_u22_x112 hI59 (qf_eq (g43.2 23 rfl rfl) (qf_le (b' := (FS119_41 22 0).toInt) (lo' := 0) (hi' := (FS119_41 12 2).toInt - 1) r31 (by omega) (by omega) (by omega))) (qf_eq (g43.2 13 rfl rfl) (qf_le (b' := (FS119_41 12 2).toInt) (lo' := 1) (hi' := (FS119_41 12 5).toInt) r29 (by omega) (by omega) (by omega))) (qf_eq (g43.2 14 rfl rfl) (qf_le (b' := (FS119_41 12 2).toInt) (lo' := 1) (hi' := (FS119_41 12 6).toInt) r30 (by omega) (by omega) (by omega))) (by show ((FS119_41 12 5).toInt = 1) ∨ ((FS119_41 12 7).toInt ≤ 4); first | with_reducible assumption | omega) (by show ((FS119_41 12 6).toInt = 1) ∨ ((FS119_41 12 8).toInt ≤ 4); first | with_reducible assumption | omega) (fun {FS138_61} {LFS138_61} hI62 g63 r64 r65 => ?_)
      have r66 : qf (FS138_61 26) 0 (FS138_61 22 6).toInt 0 ((64 * (FS138_61 12 2).toInt) - 1) := r64
      clear r64
      have q67 : (0) ≤ (FS138_61 22 6).toInt ∧ (FS138_61 22 6).toInt ≤ (192) := (show B 0 192 (FS138_61 22 6) from hI62 22 6)
      have r68 : UPs 22 FS138_61 := r65
      clear r65
      have e76 : (FS138_61 12 2).toInt = (FS33_5 12 2).toInt := (congrArg Int32.toInt (((g63.1 12 2 rfl rfl).trans (g43.1 12 2 rfl rfl)).trans (g27.1 12 2 rfl rfl))).trans rfl
      refine ⟨fun yx1 yx2 yx5 yS => (1 : Nat) = yx1 ∧ (3 : Nat) = yx2 ∧ B 0 3 yx5 ∧ ∃ (T72 : cF) (LT72 : cL), yS = (T72, LT72, PC a b P) ∧ IMc T72 ∧ agc [] [21, 999] FS138_61 T72 ∧ (qf (T72 26) 0 (T72 22 6).toInt 0 ((64 * (T72 12 2).toInt) - 1)) ∧ (UPs 22 T72) ∧ (qf (T72 15) 0 (T72 12 2).toInt 1 64) ∧ (qf (T72 16) 0 (T72 12 2).toInt 1 64) ∧ (qf (T72 17) 0 (T72 12 2).toInt 1 8), fun yx1 yx2 yx5 yS => (3 - yx5.toInt).toNat, ⟨rfl, rfl, (B_w cqb_0_0_0 (by decide +kernel) (by decide +kernel)), _, _, rfl, hI62, (agc_refl (fs := []) (rs := [21, 999]) (F := FS138_61)), (qf_le (b' := (FS138_61 22 6).toInt) (lo' := 0) (hi' := (64 * (FS138_61 12 2).toInt) - 1) r66 (by omega) (by omega) (by omega)), (UPs_tr (F := FS138_61) (G := FS138_61) r68 rfl rfl rfl), (qf_eq (g63.2 15 rfl rfl) (qf_le (b' := (FS138_61 12 2).toInt) r49 (by omega) (by decide +kernel) (by decide +kernel))), (qf_eq (g63.2 16 rfl rfl) (qf_le (b' := (FS138_61 12 2).toInt) r51 (by omega) (by decide +kernel) (by decide +kernel))), (qf_eq (g63.2 17 rfl rfl) (qf_le (b' := (FS138_61 12 2).toInt) r52 (by omega) (by decide +kernel) (by decide +kernel)))⟩, fun x1_69 x2_70 x5_71 ST72 hIv => ?_⟩
      obtain ⟨rfl, rfl, b73, T72, LT72, rfl, hI74, g75, r77, r78, r79, r80, r81⟩ := hIv
      suffices hs : ∀ (R144 : Nat → Nat → Int32 → cs → Prop), (∀ zx1 zx2 zx5 zS, ((1 : Nat) = zx1 ∧ (3 : Nat) = zx2 ∧ B 0 3 zx5 ∧ ∃ (T72 : cF) (LT72 : cL), zS = (T72, LT72, PC a b P) ∧ IMc T72 ∧ agc [] [21, 999] FS138_61 T72 ∧ (qf (T72 26) 0 (T72 22 6).toInt 0 ((64 * (T72 12 2).toInt) - 1)) ∧ (UPs 22 T72) ∧ (qf (T72 15) 0 (T72 12 2).toInt 1 64) ∧ (qf (T72 16) 0 (T72 12 2).toInt 1 64) ∧ (qf (T72 17) 0 (T72 12 2).toInt 1 8)) → (3 - zx5.toInt).toNat < (3 - x5_71.toInt).toNat → R144 zx1 zx2 zx5 zS) → b_Pa_makeLevels_144 UL 4 1 3 x5_71 (T72, LT72, PC a b P) R144 K from hs _ (fun _ _ _ _ h1 h2 => ⟨h1, h2⟩)
      intro R144 hR1440
      have hR144 := fun {zx1} {zx2} {zx5} {zS} => hR1440 zx1 zx2 zx5 zS
      have e83 : (T72 22 6).toInt = (FS138_61 22 6).toInt := (congrArg Int32.toInt (g75.1 22 6 rfl rfl)).trans rfl
      have w82 : qf (FS138_61 26) 0 (T72 22 6).toInt 0 ((64 * (T72 12 2).toInt) - 1) := qf_eq (Eq.symm (g75.2 26 rfl rfl)) r77
      have e85 : (T72 12 2).toInt = (FS33_5 12 2).toInt := (congrArg Int32.toInt ((((g75.1 12 2 rfl rfl).trans (g63.1 12 2 rfl rfl)).trans (g43.1 12 2 rfl rfl)).trans (g27.1 12 2 rfl rfl))).trans rfl
      have w84 : qf (FS119_41 15) 0 (T72 12 2).toInt 1 64 := qf_eq (Eq.symm ((g75.2 15 rfl rfl).trans (g63.2 15 rfl rfl))) r79
      have w86 : qf (FS119_41 16) 0 (T72 12 2).toInt 1 64 := qf_eq (Eq.symm ((g75.2 16 rfl rfl).trans (g63.2 16 rfl rfl))) r80
      have w87 : qf (FS119_41 17) 0 (T72 12 2).toInt 1 8 := qf_eq (Eq.symm ((g75.2 17 rfl rfl).trans (g63.2 17 rfl rfl))) r81
      unfold b_Pa_makeLevels_144
      refine ⟨(show ¬ ((12 : Nat) = NU) from by decide +kernel), ?_⟩
      refine ⟨(show c_cl UL 12 = 7 from cl_12), ?_⟩
      refine ⟨fun hc => ?_, fun hc => ?_⟩
      · have hq88 := hc
        have b89 : B 1 3 (x5_71) := B_w (B_leR (B_eq ((((g75.1 12 2 rfl rfl).trans (g63.1 12 2 rfl rfl)).trans (g43.1 12 2 rfl rfl)).trans (g27.1 12 2 rfl rfl)) (show B 1 3 (FS33_5 12 2) from hI6 12 2)) b73 hq88) (by decide +kernel) (by decide +kernel)
        have q90 : (1) ≤ (x5_71).toInt ∧ (x5_71).toInt ≤ (3) := (show B 1 3 (x5_71) from B_w b89 (by decide +kernel) (by decide +kernel))
        have i91 : (T72 12 2).toInt ≤ (x5_71).toInt := i_le hq88
        refine ⟨fun yx2 yx5 yS => (3 : Nat) = yx2 ∧ B 0 192 yx5 ∧ ∃ (T94 : cF) (LT94 : cL), yS = (T94, LT94, PC a b P) ∧ IMc T94 ∧ agc [] [9, 10, 19, 999] T72 T94 ∧ (qf (T94 26) 0 (T94 22 6).toInt 0 ((64 * (T94 12 2).toInt) - 1)) ∧ (UPs 22 T94) ∧ (qf (T94 15) 0 (T94 12 2).toInt 1 64) ∧ (qf (T94 16) 0 (T94 12 2).toInt 1 64) ∧ (qf (T94 17) 0 (T94 12 2).toInt 1 8), fun yx2 yx5 yS => (192 - yx5.toInt).toNat, ⟨rfl, (B_w cqb_0_0_0 (by decide +kernel) (by decide +kernel)), _, _, rfl, hI74, (agc_refl (fs := []) (rs := [9, 10, 19, 999]) (F := T72)), (qf_eq (g75.2 26 rfl rfl) (qf_le (b' := (T72 22 6).toInt) (lo' := 0) (hi' := (64 * (T72 12 2).toInt) - 1) w82 (by omega) (by omega) (by omega))), (UPs_tr (F := T72) (G := T72) r78 (Eq.trans (g75.1 22 5 rfl rfl) (Eq.symm (g75.1 22 5 rfl rfl))) (Eq.trans (g75.1 22 4 rfl rfl) (Eq.symm (g75.1 22 4 rfl rfl))) (Eq.trans (g75.1 22 6 rfl rfl) (Eq.symm (g75.1 22 6 rfl rfl)))), (qf_eq ((g75.2 15 rfl rfl).trans (g63.2 15 rfl rfl)) (qf_le (b' := (T72 12 2).toInt) w84 (by omega) (by decide +kernel) (by decide +kernel))), (qf_eq ((g75.2 16 rfl rfl).trans (g63.2 16 rfl rfl)) (qf_le (b' := (T72 12 2).toInt) w86 (by omega) (by decide +kernel) (by decide +kernel))), (qf_eq ((g75.2 17 rfl rfl).trans (g63.2 17 rfl rfl)) (qf_le (b' := (T72 12 2).toInt) w87 (by omega) (by decide +kernel) (by decide +kernel)))⟩, fun x2_92 x5_93 ST94 hIv => ?_⟩
        obtain ⟨rfl, b95, T94, LT94, rfl, hI96, g97, r98, r99, r100, r101, r102⟩ := hIv
        suffices hs : ∀ (R172 : Nat → Int32 → cs → Prop), (∀ zx2 zx5 zS, ((3 : Nat) = zx2 ∧ B 0 192 zx5 ∧ ∃ (T94 : cF) (LT94 : cL), zS = (T94, LT94, PC a b P) ∧ IMc T94 ∧ agc [] [9, 10, 19, 999] T72 T94 ∧ (qf (T94 26) 0 (T94 22 6).toInt 0 ((64 * (T94 12 2).toInt) - 1)) ∧ (UPs 22 T94) ∧ (qf (T94 15) 0 (T94 12 2).toInt 1 64) ∧ (qf (T94 16) 0 (T94 12 2).toInt 1 64) ∧ (qf (T94 17) 0 (T94 12 2).toInt 1 8)) → (192 - zx5.toInt).toNat < (192 - x5_93.toInt).toNat → R172 zx2 zx5 zS) → b_Pa_makeLevels_172 UL 4 3 x5_93 (T94, LT94, PC a b P) R172 K from hs _ (fun _ _ _ h1 h2 => ⟨h1, h2⟩)
        intro R172 hR1720
        have hR172 := fun {zx2} {zx5} {zS} => hR1720 zx2 zx5 zS
        have e104 : (T94 22 6).toInt = (FS138_61 22 6).toInt := (congrArg Int32.toInt ((g97.1 22 6 rfl rfl).trans (g75.1 22 6 rfl rfl))).trans rfl
        have w103 : qf (FS138_61 26) 0 (T94 22 6).toInt 0 ((64 * (T94 12 2).toInt) - 1) := qf_eq (Eq.symm ((g97.2 26 rfl rfl).trans (g75.2 26 rfl rfl))) r98
        have e106 : (T94 12 2).toInt = (FS33_5 12 2).toInt := (congrArg Int32.toInt (((((g97.1 12 2 rfl rfl).trans (g75.1 12 2 rfl rfl)).trans (g63.1 12 2 rfl rfl)).trans (g43.1 12 2 rfl rfl)).trans (g27.1 12 2 rfl rfl))).trans rfl
        have w105 : qf (FS119_41 15) 0 (T94 12 2).toInt 1 64 := qf_eq (Eq.symm (((g97.2 15 rfl rfl).trans (g75.2 15 rfl rfl)).trans (g63.2 15 rfl rfl))) r100
        have w107 : qf (FS119_41 16) 0 (T94 12 2).toInt 1 64 := qf_eq (Eq.symm (((g97.2 16 rfl rfl).trans (g75.2 16 rfl rfl)).trans (g63.2 16 rfl rfl))) r101
        have w108 : qf (FS119_41 17) 0 (T94 12 2).toInt 1 8 := qf_eq (Eq.symm (((g97.2 17 rfl rfl).trans (g75.2 17 rfl rfl)).trans (g63.2 17 rfl rfl))) r102
        unfold b_Pa_makeLevels_172
        refine ⟨(show ¬ ((22 : Nat) = NU) from by decide +kernel), ?_⟩
        refine ⟨(show c_cl UL 22 = 10 from cl_22), ?_⟩
        refine ⟨fun hc => ?_, fun hc => ?_⟩
        · have hq109 := hc
          have q110 : (0) ≤ (x5_93).toInt ∧ (x5_93).toInt ≤ (192) := (show B 0 192 (x5_93) from B_w b95 (by decide +kernel) (by decide +kernel))
          have i111 : (T94 22 6).toInt ≤ (x5_93).toInt := i_le hq109
          have g120 := agc_f (u := 4) (k := 8) (v := 2) (agc_refl (fs := [408, 1200, 1201, 1202, 1205, 1206, 1207, 1208, 1216, 1217, 2200, 2204, 2205, 2206]) (rs := [9, 10, 13, 14, 15, 16, 17, 18, 19, 21, 23, 24, 25, 26, 999]) (F := F)) rfl (by decide +kernel)
          have g119 := agc_tr g120 g7 (by decide +kernel) (by decide +kernel)
          have g118 := agc_f (u := 22) (k := 0) (v := 0) g119 rfl (by decide +kernel)
          have g117 := agc_tr g118 g27 (by decide +kernel) (by decide +kernel)
          have g116 := agc_tr g117 g43 (by decide +kernel) (by decide +kernel)
          have g115 := agc_f (u := 12) (k := 17) (v := 1) g116 rfl (by decide +kernel)
          have g114 := agc_tr g115 g63 (by decide +kernel) (by decide +kernel)
          have g113 := agc_tr g114 g75 (by decide +kernel) (by decide +kernel)
          have g112 := agc_tr g113 g97 (by decide +kernel) (by decide +kernel)
          exact hK hI96 g112 (UPs_tr (F := T94) (G := T94) r99 (Eq.trans ((g97.1 22 5 rfl rfl).trans (g75.1 22 5 rfl rfl)) (Eq.symm ((g97.1 22 5 rfl rfl).trans (g75.1 22 5 rfl rfl)))) (Eq.trans ((g97.1 22 4 rfl rfl).trans (g75.1 22 4 rfl rfl)) (Eq.symm ((g97.1 22 4 rfl rfl).trans (g75.1 22 4 rfl rfl)))) (Eq.trans ((g97.1 22 6 rfl rfl).trans (g75.1 22 6 rfl rfl)) (Eq.symm ((g97.1 22 6 rfl rfl).trans (g75.1 22 6 rfl rfl)))))
        · have hq121 := (nle_lt hc)
          have b122 : B 0 191 (x5_93) := B_w (B_ltL b95 (B_eq ((g97.1 22 6 rfl rfl).trans (g75.1 22 6 rfl rfl)) (show B 0 192 (FS138_61 22 6) from hI62 22 6)) hq121) (by decide +kernel) (by decide +kernel)
          have b123 : B 1 192 (FS138_61 22 6) := B_w (B_eq (Eq.symm ((g97.1 22 6 rfl rfl).trans (g75.1 22 6 rfl rfl))) (B_ltR b95 (B_eq ((g97.1 22 6 rfl rfl).trans (g75.1 22 6 rfl rfl)) (show B 0 192 (FS138_61 22 6) from hI62 22 6)) hq121)) (by decide +kernel) (by decide +kernel)
          have q124 : (1) ≤ (FS138_61 22 6).toInt ∧ (FS138_61 22 6).toInt ≤ (192) := (show B 1 192 (FS138_61 22 6) from B_w b123 (by decide +kernel) (by decide +kernel))
          have q125 : (0) ≤ (x5_93).toInt ∧ (x5_93).toInt ≤ (191) := (show B 0 191 (x5_93) from B_w b122 (by decide +kernel) (by decide +kernel))
          have i126 : (x5_93).toInt < (T94 22 6).toInt := i_lt hq121
          refine ⟨(show ¬ ((22 : Nat) = NU) from by decide +kernel), ?_⟩
          refine ⟨(show ¬ ((26 : Nat) = NU) from by decide +kernel), ?_⟩
          refine ⟨(show c_cl UL 26 = 902 from cl_26), ?_⟩
          refine ⟨(show vp_in (x5_93) 192 from vp_B b122 (by decide +kernel) (by decide +kernel)), ?_⟩
          have r127 : 0 ≤ (FS138_61 26 x5_93.toNatClampNeg).toInt ∧ (FS138_61 26 x5_93.toNatClampNeg).toInt ≤ ((64 * (T94 12 2).toInt) - 1) := qf_at w103 (x := x5_93) (by omega) (by omega)
          have r128 : 0 ≤ (FS138_61 26 x5_93.toNatClampNeg).toInt ∧ (FS138_61 26 x5_93.toNatClampNeg).toInt ≤ ((64 * (T72 12 2).toInt) - 1) := qf_at w82 (x := x5_93) (by omega) (by omega)
          have e129 : (FS138_61 12 2).toInt = (FS33_5 12 2).toInt := (congrArg Int32.toInt (((g63.1 12 2 rfl rfl).trans (g43.1 12 2 rfl rfl)).trans (g27.1 12 2 rfl rfl))).trans rfl
          have r130 : 0 ≤ (FS138_61 26 x5_93.toNatClampNeg).toInt ∧ (FS138_61 26 x5_93.toNatClampNeg).toInt ≤ ((64 * (FS138_61 12 2).toInt) - 1) := qf_at r66 (x := x5_93) (by omega) (by omega)
          have q131 : (0) ≤ (FS138_61 26 x5_93.toNatClampNeg).toInt ∧ (FS138_61 26 x5_93.toNatClampNeg).toInt ≤ (191) := (show B 0 191 (FS138_61 26 x5_93.toNatClampNeg) from hI62 26 x5_93.toNatClampNeg)
          have e132 : (T94 26 x5_93.toNatClampNeg).toInt = (FS138_61 26 x5_93.toNatClampNeg).toInt := (congrArg Int32.toInt ((congrFun (g97.2 26 rfl rfl) x5_93.toNatClampNeg).trans (congrFun (g75.2 26 rfl rfl) x5_93.toNatClampNeg))).trans rfl
          refine h_Pa_makeBlock_u4_x23 (B_w (B_eq ((congrFun (g97.2 26 rfl rfl) x5_93.toNatClampNeg).trans (congrFun (g75.2 26 rfl rfl) x5_93.toNatClampNeg)) (show B 0 191 (FS138_61 26 x5_93.toNatClampNeg) from hI62 26 x5_93.toNatClampNeg)) (by decide +kernel) (by decide +kernel)) hI96 (by show (T94 26 x5_93.toNatClampNeg).toInt < (64 * (T94 12 2).toInt); first | with_reducible assumption | omega) (qf_eq (((g97.2 15 rfl rfl).trans (g75.2 15 rfl rfl)).trans (g63.2 15 rfl rfl)) (qf_le (b' := (T94 12 2).toInt) w105 (by omega) (by decide +kernel) (by decide +kernel))) (qf_eq (((g97.2 16 rfl rfl).trans (g75.2 16 rfl rfl)).trans (g63.2 16 rfl rfl)) (qf_le (b' := (T94 12 2).toInt) w107 (by omega) (by decide +kernel) (by decide +kernel))) (qf_eq (((g97.2 17 rfl rfl).trans (g75.2 17 rfl rfl)).trans (g63.2 17 rfl rfl)) (qf_le (b' := (T94 12 2).toInt) w108 (by omega) (by decide +kernel) (by decide +kernel))) (fun {FS196_133} {LFS196_133} hI134 g135 => ?_)
          have g137 := agc_tr (agc_refl (fs := []) (rs := [9, 10, 19, 999]) (F := T72)) g97 (by decide +kernel) (by decide +kernel)
          have g136 := agc_tr g137 g135 (by decide +kernel) (by decide +kernel)
          have e138 : (FS196_133 22 6).toInt = (FS138_61 22 6).toInt := (congrArg Int32.toInt (((g135.1 22 6 rfl rfl).trans (g97.1 22 6 rfl rfl)).trans (g75.1 22 6 rfl rfl))).trans rfl
          have e139 : (FS196_133 12 2).toInt = (FS33_5 12 2).toInt := (congrArg Int32.toInt ((((((g135.1 12 2 rfl rfl).trans (g97.1 12 2 rfl rfl)).trans (g75.1 12 2 rfl rfl)).trans (g63.1 12 2 rfl rfl)).trans (g43.1 12 2 rfl rfl)).trans (g27.1 12 2 rfl rfl))).trans rfl
          have e140 : (x5_93 + 1).toInt = ((x5_93).toInt + 1) := (t_add b122 cqb_1_1_1 (by decide +kernel) (by decide +kernel)).trans (by rw [cqn_1])
          have q141 : (1) ≤ (x5_93 + 1).toInt ∧ (x5_93 + 1).toInt ≤ (192) := (show B 1 192 (x5_93 + 1) from B_w (B_add b122 cqb_1_1_1 (by decide +kernel) (by decide +kernel)) (by decide +kernel) (by decide +kernel))
          exact hR172 ⟨rfl, (B_w (B_add b122 cqb_1_1_1 (by decide +kernel) (by decide +kernel)) (by decide +kernel) (by decide +kernel)), _, _, rfl, hI134, g136, (qf_eq (((g135.2 26 rfl rfl).trans (g97.2 26 rfl rfl)).trans (g75.2 26 rfl rfl)) (qf_le (b' := (FS196_133 22 6).toInt) (lo' := 0) (hi' := (64 * (FS196_133 12 2).toInt) - 1) w103 (by omega) (by omega) (by omega))), (UPs_tr (F := T94) (G := FS196_133) r99 (Eq.trans (((g135.1 22 5 rfl rfl).trans (g97.1 22 5 rfl rfl)).trans (g75.1 22 5 rfl rfl)) (Eq.symm ((g97.1 22 5 rfl rfl).trans (g75.1 22 5 rfl rfl)))) (Eq.trans (((g135.1 22 4 rfl rfl).trans (g97.1 22 4 rfl rfl)).trans (g75.1 22 4 rfl rfl)) (Eq.symm ((g97.1 22 4 rfl rfl).trans (g75.1 22 4 rfl rfl)))) (Eq.trans (((g135.1 22 6 rfl rfl).trans (g97.1 22 6 rfl rfl)).trans (g75.1 22 6 rfl rfl)) (Eq.symm ((g97.1 22 6 rfl rfl).trans (g75.1 22 6 rfl rfl))))), (qf_eq ((((g135.2 15 rfl rfl).trans (g97.2 15 rfl rfl)).trans (g75.2 15 rfl rfl)).trans (g63.2 15 rfl rfl)) (qf_le (b' := (FS196_133 12 2).toInt) w105 (by omega) (by decide +kernel) (by decide +kernel))), (qf_eq ((((g135.2 16 rfl rfl).trans (g97.2 16 rfl rfl)).trans (g75.2 16 rfl rfl)).trans (g63.2 16 rfl rfl)) (qf_le (b' := (FS196_133 12 2).toInt) w107 (by omega) (by decide +kernel) (by decide +kernel))), (qf_eq ((((g135.2 17 rfl rfl).trans (g97.2 17 rfl rfl)).trans (g75.2 17 rfl rfl)).trans (g63.2 17 rfl rfl)) (qf_le (b' := (FS196_133 12 2).toInt) w108 (by omega) (by decide +kernel) (by decide +kernel)))⟩ (by show (192 - (x5_93 + 1).toInt).toNat < (192 - x5_93.toInt).toNat; omega)
      · have hq142 := (nle_lt hc)
        have b143 : B 0 2 (x5_71) := B_w (B_ltL b73 (B_eq ((((g75.1 12 2 rfl rfl).trans (g63.1 12 2 rfl rfl)).trans (g43.1 12 2 rfl rfl)).trans (g27.1 12 2 rfl rfl)) (show B 1 3 (FS33_5 12 2) from hI6 12 2)) hq142) (by decide +kernel) (by decide +kernel)
        have q144 : (0) ≤ (x5_71).toInt ∧ (x5_71).toInt ≤ (2) := (show B 0 2 (x5_71) from B_w b143 (by decide +kernel) (by decide +kernel))
        have i145 : (x5_71).toInt < (T72 12 2).toInt := i_lt hq142
        refine h_Pa_makeLayer_u4_x11 b143 hI74 (fun {FS160_146} {LFS160_146} hI147 g148 => ?_)
        have g150 := agc_tr (agc_refl (fs := []) (rs := [21, 999]) (F := FS138_61)) g75 (by decide +kernel) (by decide +kernel)
        have g149 := agc_tr g150 g148 (by decide +kernel) (by decide +kernel)
        have e151 : (FS160_146 22 6).toInt = (FS138_61 22 6).toInt := (congrArg Int32.toInt ((g148.1 22 6 rfl rfl).trans (g75.1 22 6 rfl rfl))).trans rfl
        have e152 : (FS160_146 12 2).toInt = (FS33_5 12 2).toInt := (congrArg Int32.toInt (((((g148.1 12 2 rfl rfl).trans (g75.1 12 2 rfl rfl)).trans (g63.1 12 2 rfl rfl)).trans (g43.1 12 2 rfl rfl)).trans (g27.1 12 2 rfl rfl))).trans rfl
        have e153 : (x5_71 + 1).toInt = ((x5_71).toInt + 1) := (t_add b143 cqb_1_1_1 (by decide +kernel) (by decide +kernel)).trans (by rw [cqn_1])
        have q154 : (1) ≤ (x5_71 + 1).toInt ∧ (x5_71 + 1).toInt ≤ (3) := (show B 1 3 (x5_71 + 1) from B_w (B_add b143 cqb_1_1_1 (by decide +kernel) (by decide +kernel)) (by decide +kernel) (by decide +kernel))
        exact hR144 ⟨rfl, rfl, (B_w (B_add b143 cqb_1_1_1 (by decide +kernel) (by decide +kernel)) (by decide +kernel) (by decide +kernel)), _, _, rfl, hI147, g149, (qf_eq ((g148.2 26 rfl rfl).trans (g75.2 26 rfl rfl)) (qf_le (b' := (FS160_146 22 6).toInt) (lo' := 0) (hi' := (64 * (FS160_146 12 2).toInt) - 1) w82 (by omega) (by omega) (by omega))), (UPs_tr (F := T72) (G := FS160_146) r78 (Eq.trans ((g148.1 22 5 rfl rfl).trans (g75.1 22 5 rfl rfl)) (Eq.symm (g75.1 22 5 rfl rfl))) (Eq.trans ((g148.1 22 4 rfl rfl).trans (g75.1 22 4 rfl rfl)) (Eq.symm (g75.1 22 4 rfl rfl))) (Eq.trans ((g148.1 22 6 rfl rfl).trans (g75.1 22 6 rfl rfl)) (Eq.symm (g75.1 22 6 rfl rfl)))), (qf_eq (((g148.2 15 rfl rfl).trans (g75.2 15 rfl rfl)).trans (g63.2 15 rfl rfl)) (qf_le (b' := (FS160_146 12 2).toInt) w84 (by omega) (by decide +kernel) (by decide +kernel))), (qf_eq (((g148.2 16 rfl rfl).trans (g75.2 16 rfl rfl)).trans (g63.2 16 rfl rfl)) (qf_le (b' := (FS160_146 12 2).toInt) w86 (by omega) (by decide +kernel) (by decide +kernel))), (qf_eq (((g148.2 17 rfl rfl).trans (g75.2 17 rfl rfl)).trans (g63.2 17 rfl rfl)) (qf_le (b' := (FS160_146 12 2).toInt) w87 (by omega) (by decide +kernel) (by decide +kernel)))⟩ (by show (3 - (x5_71 + 1).toInt).toNat < (3 - x5_71.toInt).toNat; omega)
    · have hq155 := (nle_lt hc)
      have b156 : B 0 2 (x5_23) := B_w (B_ltL b25 (B_eq (g27.1 12 2 rfl rfl) (show B 1 3 (FS33_5 12 2) from hI6 12 2)) hq155) (by decide +kernel) (by decide +kernel)
      have q157 : (0) ≤ (x5_23).toInt ∧ (x5_23).toInt ≤ (2) := (show B 0 2 (x5_23) from B_w b156 (by decide +kernel) (by decide +kernel))
      have e158 : (T24 12 2).toInt = (FS33_5 12 2).toInt := (congrArg Int32.toInt (g27.1 12 2 rfl rfl)).trans rfl
      have i159 : (x5_23).toInt < (T24 12 2).toInt := i_lt hq155
      refine ⟨(show ¬ ((12 : Nat) = NU) from by decide +kernel), ?_⟩
      refine ⟨fun hc => ?_, fun hc => ?_⟩
      · have b160 : B 1 2 (x5_23) := B_w (B_n0 b156 hc) (by decide +kernel) (by decide +kernel)
        have q161 : (1) ≤ (x5_23).toInt ∧ (x5_23).toInt ≤ (2) := (show B 1 2 (x5_23) from B_w b160 (by decide +kernel) (by decide +kernel))
        unfold b_Pa_makeLevels_75
        refine ⟨fun hc => ?_, fun hc => ?_⟩
        · have i162 : (x5_23).toInt ≠ (0 : Int32).toInt := i_ne hc
          have n163 : (0 : Int32).toInt = 0 := cqn_0
          unfold b_Pa_makeLevels_86
          refine ⟨(show c_cl UL 12 = 7 from cl_12), ?_⟩
          have q164 : (1) ≤ (T24 12 5).toInt ∧ (T24 12 5).toInt ≤ (2) := (show B 1 2 (T24 12 5) from hI26 12 5)
          have q165 : (1) ≤ (T24 12 6).toInt ∧ (T24 12 6).toInt ≤ (2) := (show B 1 2 (T24 12 6) from hI26 12 6)
          refine h_Pi_setFactors_u12 (B_w b160 (by decide +kernel) (by decide +kernel)) (B_w cqb_1_1_1 (by decide +kernel) (by decide +kernel)) (B_w cqb_1_1_1 (by decide +kernel) (by decide +kernel)) hI26 (qf_le (b' := x5_23.toInt) (lo' := 1) (hi' := (T24 12 5).toInt) r29 (by omega) (by omega) (by omega)) (qf_le (b' := x5_23.toInt) (lo' := 1) (hi' := (T24 12 6).toInt) r30 (by omega) (by omega) (by omega)) (fun {FS86_166} {LFS86_166} hI167 g168 r169 r170 => ?_)
          have r171 : qf (FS86_166 13) 0 (x5_23.toInt + 1) 1 (FS86_166 12 5).toInt := r169
          clear r169
          have r172 : qf (FS86_166 14) 0 (x5_23.toInt + 1) 1 (FS86_166 12 6).toInt := r170
          clear r170
          refine h_Pa_kindOf  (fun {v91_173} b174 => ?_)
          refine ⟨(show ¬ ((22 : Nat) = NU) from by decide +kernel), ?_⟩
          refine ⟨(show c_cl UL 22 = 10 from cl_22), ?_⟩
          have e175 : (FS86_166 22 0).toInt = (T24 22 0).toInt := (congrArg Int32.toInt (g168.1 22 0 rfl rfl)).trans rfl
          have e176 : (FS86_166 12 2).toInt = (FS33_5 12 2).toInt := (congrArg Int32.toInt ((g168.1 12 2 rfl rfl).trans (g27.1 12 2 rfl rfl))).trans rfl
          refine h_Sc_addLayer_u22 (B_w b160 (by decide +kernel) (by decide +kernel)) (B_w b174 (by decide +kernel) (by decide +kernel)) (B_w b174 (by decide +kernel) (by decide +kernel)) hI167 (qf_eq (g168.2 23 rfl rfl) (qf_le (b' := (FS86_166 22 0).toInt) (lo' := 0) (hi' := (FS86_166 12 2).toInt - 1) r31 (by omega) (by omega) (by omega))) (by show x5_23.toInt < (FS86_166 12 2).toInt; first | with_reducible assumption | omega) (fun {FS106_177} {LFS106_177} hI178 g179 r180 => ?_)
          have r181 : qf (FS106_177 23) 0 (FS106_177 22 0).toInt 0 ((FS106_177 12 2).toInt - 1) := r180
          clear r180
          have q182 : (0) ≤ (FS106_177 22 0).toInt ∧ (FS106_177 22 0).toInt ≤ (3) := (show B 0 3 (FS106_177 22 0) from hI178 22 0)
          have g185 := agc_tr (agc_refl (fs := [1205, 1206, 2200]) (rs := [13, 14, 23, 24, 25, 999]) (F := va_up FS33_5 22 (upd (FS33_5 22) 0 0))) g27 (by decide +kernel) (by decide +kernel)
          have g184 := agc_tr g185 g168 (by decide +kernel) (by decide +kernel)
          have g183 := agc_tr g184 g179 (by decide +kernel) (by decide +kernel)
          have e186 : (x5_23 + 1).toInt = ((x5_23).toInt + 1) := (t_add b160 cqb_1_1_1 (by decide +kernel) (by decide +kernel)).trans (by rw [cqn_1])
          have q187 : (2) ≤ (x5_23 + 1).toInt ∧ (x5_23 + 1).toInt ≤ (3) := (show B 2 3 (x5_23 + 1) from B_w (B_add b160 cqb_1_1_1 (by decide +kernel) (by decide +kernel)) (by decide +kernel) (by decide +kernel))
          have q188 : (1) ≤ (FS86_166 12 5).toInt ∧ (FS86_166 12 5).toInt ≤ (2) := (show B 1 2 (FS86_166 12 5) from hI167 12 5)
          have e189 : (FS106_177 12 5).toInt = (FS86_166 12 5).toInt := (congrArg Int32.toInt (g179.1 12 5 rfl rfl)).trans rfl
          have q190 : (1) ≤ (FS86_166 12 6).toInt ∧ (FS86_166 12 6).toInt ≤ (2) := (show B 1 2 (FS86_166 12 6) from hI167 12 6)
          have e191 : (FS106_177 12 6).toInt = (FS86_166 12 6).toInt := (congrArg Int32.toInt (g179.1 12 6 rfl rfl)).trans rfl
          have e192 : (FS106_177 12 2).toInt = (FS33_5 12 2).toInt := (congrArg Int32.toInt (((g179.1 12 2 rfl rfl).trans (g168.1 12 2 rfl rfl)).trans (g27.1 12 2 rfl rfl))).trans rfl
          exact hR47 ⟨rfl, rfl, rfl, rfl, (B_w (B_add b160 cqb_1_1_1 (by decide +kernel) (by decide +kernel)) (by decide +kernel) (by decide +kernel)), _, _, rfl, hI178, g183, (qf_eq (g179.2 13 rfl rfl) (qf_le (b' := (x5_23 + 1).toInt) (lo' := 1) (hi' := (FS106_177 12 5).toInt) r171 (by omega) (by omega) (by omega))), (qf_eq (g179.2 14 rfl rfl) (qf_le (b' := (x5_23 + 1).toInt) (lo' := 1) (hi' := (FS106_177 12 6).toInt) r172 (by omega) (by omega) (by omega))), (qf_le (b' := (FS106_177 22 0).toInt) (lo' := 0) (hi' := (FS106_177 12 2).toInt - 1) r181 (by omega) (by omega) (by omega))⟩ (by show (3 - (x5_23 + 1).toInt).toNat < (3 - x5_23.toInt).toNat; omega)
        · exact (B_dis b160 cqb_0_0_0 hc (by decide +kernel)).elim
      · have b193 : B 0 0 (x5_23) := B_w (B_eq hc cqb_0_0_0) (by decide +kernel) (by decide +kernel)
        have q194 : (0) ≤ (x5_23).toInt ∧ (x5_23).toInt ≤ (0) := (show B 0 0 (x5_23) from B_w b193 (by decide +kernel) (by decide +kernel))
        have i195 : (x5_23).toInt = (0 : Int32).toInt := congrArg Int32.toInt hc
        have n196 : (0 : Int32).toInt = 0 := cqn_0
        unfold b_Pa_makeLevels_75
        refine ⟨fun hc => ?_, fun hc => ?_⟩
        · exact (hc (B_z b193)).elim
        · have i197 : (x5_23).toInt = (0 : Int32).toInt := congrArg Int32.toInt hc
          have n198 : (0 : Int32).toInt = 0 := cqn_0
          unfold b_Pa_makeLevels_86
          refine ⟨(show c_cl UL 12 = 7 from cl_12), ?_⟩
          have q199 : (1) ≤ (T24 12 5).toInt ∧ (T24 12 5).toInt ≤ (2) := (show B 1 2 (T24 12 5) from hI26 12 5)
          have q200 : (1) ≤ (T24 12 6).toInt ∧ (T24 12 6).toInt ≤ (2) := (show B 1 2 (T24 12 6) from hI26 12 6)
          refine h_Pi_setFactors_u12 (B_w b193 (by decide +kernel) (by decide +kernel)) b_x3 b_x4 hI26 (qf_le (b' := x5_23.toInt) (lo' := 1) (hi' := (T24 12 5).toInt) r29 (by omega) (by omega) (by omega)) (qf_le (b' := x5_23.toInt) (lo' := 1) (hi' := (T24 12 6).toInt) r30 (by omega) (by omega) (by omega)) (fun {FS86_201} {LFS86_201} hI202 g203 r204 r205 => ?_)
          have r206 : qf (FS86_201 13) 0 (x5_23.toInt + 1) 1 (FS86_201 12 5).toInt := r204
          clear r204
          have r207 : qf (FS86_201 14) 0 (x5_23.toInt + 1) 1 (FS86_201 12 6).toInt := r205
          clear r205
          refine h_Pa_kindOf  (fun {v91_208} b209 => ?_)
          refine ⟨(show ¬ ((22 : Nat) = NU) from by decide +kernel), ?_⟩
          refine ⟨(show c_cl UL 22 = 10 from cl_22), ?_⟩
          have e210 : (FS86_201 22 0).toInt = (T24 22 0).toInt := (congrArg Int32.toInt (g203.1 22 0 rfl rfl)).trans rfl
          have e211 : (FS86_201 12 2).toInt = (FS33_5 12 2).toInt := (congrArg Int32.toInt ((g203.1 12 2 rfl rfl).trans (g27.1 12 2 rfl rfl))).trans rfl
          refine h_Sc_addLayer_u22 (B_w b193 (by decide +kernel) (by decide +kernel)) (B_w b209 (by decide +kernel) (by decide +kernel)) (B_w b209 (by decide +kernel) (by decide +kernel)) hI202 (qf_eq (g203.2 23 rfl rfl) (qf_le (b' := (FS86_201 22 0).toInt) (lo' := 0) (hi' := (FS86_201 12 2).toInt - 1) r31 (by omega) (by omega) (by omega))) (by show x5_23.toInt < (FS86_201 12 2).toInt; first | with_reducible assumption | omega) (fun {FS106_212} {LFS106_212} hI213 g214 r215 => ?_)
          have r216 : qf (FS106_212 23) 0 (FS106_212 22 0).toInt 0 ((FS106_212 12 2).toInt - 1) := r215
          clear r215
          have q217 : (0) ≤ (FS106_212 22 0).toInt ∧ (FS106_212 22 0).toInt ≤ (3) := (show B 0 3 (FS106_212 22 0) from hI213 22 0)
          have g220 := agc_tr (agc_refl (fs := [1205, 1206, 2200]) (rs := [13, 14, 23, 24, 25, 999]) (F := va_up FS33_5 22 (upd (FS33_5 22) 0 0))) g27 (by decide +kernel) (by decide +kernel)
          have g219 := agc_tr g220 g203 (by decide +kernel) (by decide +kernel)
          have g218 := agc_tr g219 g214 (by decide +kernel) (by decide +kernel)
          have e221 : (x5_23 + 1).toInt = ((x5_23).toInt + 1) := (t_add b193 cqb_1_1_1 (by decide +kernel) (by decide +kernel)).trans (by rw [cqn_1])
          have q222 : (1) ≤ (x5_23 + 1).toInt ∧ (x5_23 + 1).toInt ≤ (1) := (show B 1 1 (x5_23 + 1) from B_w (B_add b193 cqb_1_1_1 (by decide +kernel) (by decide +kernel)) (by decide +kernel) (by decide +kernel))
          have q223 : (1) ≤ (FS86_201 12 5).toInt ∧ (FS86_201 12 5).toInt ≤ (2) := (show B 1 2 (FS86_201 12 5) from hI202 12 5)
          have e224 : (FS106_212 12 5).toInt = (FS86_201 12 5).toInt := (congrArg Int32.toInt (g214.1 12 5 rfl rfl)).trans rfl
          have q225 : (1) ≤ (FS86_201 12 6).toInt ∧ (FS86_201 12 6).toInt ≤ (2) := (show B 1 2 (FS86_201 12 6) from hI202 12 6)
          have e226 : (FS106_212 12 6).toInt = (FS86_201 12 6).toInt := (congrArg Int32.toInt (g214.1 12 6 rfl rfl)).trans rfl
          have e227 : (FS106_212 12 2).toInt = (FS33_5 12 2).toInt := (congrArg Int32.toInt (((g214.1 12 2 rfl rfl).trans (g203.1 12 2 rfl rfl)).trans (g27.1 12 2 rfl rfl))).trans rfl
          exact hR47 ⟨rfl, rfl, rfl, rfl, (B_w (B_add b193 cqb_1_1_1 (by decide +kernel) (by decide +kernel)) (by decide +kernel) (by decide +kernel)), _, _, rfl, hI213, g218, (qf_eq (g214.2 13 rfl rfl) (qf_le (b' := (x5_23 + 1).toInt) (lo' := 1) (hi' := (FS106_212 12 5).toInt) r206 (by omega) (by omega) (by omega))), (qf_eq (g214.2 14 rfl rfl) (qf_le (b' := (x5_23 + 1).toInt) (lo' := 1) (hi' := (FS106_212 12 6).toInt) r207 (by omega) (by omega) (by omega))), (qf_le (b' := (FS106_212 22 0).toInt) (lo' := 0) (hi' := (FS106_212 12 2).toInt - 1) r216 (by omega) (by omega) (by omega))⟩ (by show (3 - (x5_23 + 1).toInt).toNat < (3 - x5_23.toInt).toNat; omega)
  · have b228 : B 1 1 (F 1 2) := B_w (B_eq hc cqb_1_1_1) (by decide +kernel) (by decide +kernel)
    have q229 : (1) ≤ (F 1 2).toInt ∧ (F 1 2).toInt ≤ (1) := (show B 1 1 (F 1 2) from B_w b228 (by decide +kernel) (by decide +kernel))
    have i230 : (F 1 2).toInt = (1 : Int32).toInt := congrArg Int32.toInt hc
    have n231 : (1 : Int32).toInt = 1 := cqn_1
    unfold b_Pa_makeLevels_14
    refine ⟨(show ¬ ((12 : Nat) = NU) from by decide +kernel), ?_⟩
    refine ⟨(show c_cl UL 1 = 2 from cl_1), ?_⟩
    refine ⟨(show c_cl UL 12 = 7 from cl_12), ?_⟩
    have hI232 := IMc_u (u := 4) (i := 8) (v := 1) hI (show B 0 2 (1) from (B_w cqb_1_1_1 (by decide +kernel) (by decide +kernel)))
    refine h_Pi_begin_u12 (B_w (show B 1 64 (F 1 0) from hI 1 0) (by decide +kernel) (by decide +kernel)) (B_w (show B 1 64 (F 1 1) from hI 1 1) (by decide +kernel) (by decide +kernel)) (B_w b228 (by decide +kernel) (by decide +kernel)) hI232 (fun {FS33_233} {LFS33_233} hI234 g235 r236 r237 r238 => ?_)
    have r239 : (FS33_233 12 2).toInt = (F 1 2).toInt := r236
    clear r236
    have q240 : (1) ≤ (FS33_233 12 2).toInt ∧ (FS33_233 12 2).toInt ≤ (3) := (show B 1 3 (FS33_233 12 2) from hI234 12 2)
    have r241 : (FS33_233 12 0).toInt = (F 1 0).toInt := r237
    clear r237
    have q242 : (1) ≤ (FS33_233 12 0).toInt ∧ (FS33_233 12 0).toInt ≤ (64) := (show B 1 64 (FS33_233 12 0) from hI234 12 0)
    have q243 : (1) ≤ (F 1 0).toInt ∧ (F 1 0).toInt ≤ (64) := (show B 1 64 (F 1 0) from hI 1 0)
    have r244 : (FS33_233 12 1).toInt = (F 1 1).toInt := r238
    clear r238
    have q245 : (1) ≤ (FS33_233 12 1).toInt ∧ (FS33_233 12 1).toInt ≤ (64) := (show B 1 64 (FS33_233 12 1) from hI234 12 1)
    have q246 : (1) ≤ (F 1 1).toInt ∧ (F 1 1).toInt ≤ (64) := (show B 1 64 (F 1 1) from hI 1 1)
    refine ⟨(show ¬ ((22 : Nat) = NU) from by decide +kernel), ?_⟩
    refine ⟨(show c_cl UL 22 = 10 from cl_22), ?_⟩
    have hI256 := IMc_u (u := 22) (i := 0) (v := 0) hI234 (show B 0 3 (0) from (B_w cqb_0_0_0 (by decide +kernel) (by decide +kernel)))
    refine ⟨fun yx1 yx2 yx3 yx4 yx5 yS => (1 : Nat) = yx1 ∧ (3 : Nat) = yx2 ∧ x3 = yx3 ∧ x4 = yx4 ∧ B 0 3 yx5 ∧ ∃ (T252 : cF) (LT252 : cL), yS = (T252, LT252, PC a b P) ∧ IMc T252 ∧ agc [1205, 1206, 2200] [13, 14, 23, 24, 25, 999] (va_up FS33_233 22 (upd (FS33_233 22) 0 0)) T252 ∧ (qf (T252 13) 0 yx5.toInt 1 (T252 12 5).toInt) ∧ (qf (T252 14) 0 yx5.toInt 1 (T252 12 6).toInt) ∧ (qf (T252 23) 0 (T252 22 0).toInt 0 ((T252 12 2).toInt - 1)), fun yx1 yx2 yx3 yx4 yx5 yS => (3 - yx5.toInt).toNat, ⟨rfl, rfl, rfl, rfl, (B_w cqb_0_0_0 (by decide +kernel) (by decide +kernel)), _, _, rfl, hI256, (agc_refl (fs := [1205, 1206, 2200]) (rs := [13, 14, 23, 24, 25, 999]) (F := va_up FS33_233 22 (upd (FS33_233 22) 0 0))), (qf_0 (b := 0) (by omega)), (qf_0 (b := 0) (by omega)), (qf_0 (b := 0) (by omega))⟩, fun x1_247 x2_248 x3_249 x4_250 x5_251 ST252 hIv => ?_⟩
    obtain ⟨rfl, rfl, rfl, rfl, b253, T252, LT252, rfl, hI254, g255, r257, r258, r259⟩ := hIv
    suffices hs : ∀ (R47 : Nat → Nat → Int32 → Int32 → Int32 → cs → Prop), (∀ zx1 zx2 zx3 zx4 zx5 zS, ((1 : Nat) = zx1 ∧ (3 : Nat) = zx2 ∧ x3 = zx3 ∧ x4 = zx4 ∧ B 0 3 zx5 ∧ ∃ (T252 : cF) (LT252 : cL), zS = (T252, LT252, PC a b P) ∧ IMc T252 ∧ agc [1205, 1206, 2200] [13, 14, 23, 24, 25, 999] (va_up FS33_233 22 (upd (FS33_233 22) 0 0)) T252 ∧ (qf (T252 13) 0 zx5.toInt 1 (T252 12 5).toInt) ∧ (qf (T252 14) 0 zx5.toInt 1 (T252 12 6).toInt) ∧ (qf (T252 23) 0 (T252 22 0).toInt 0 ((T252 12 2).toInt - 1))) → (3 - zx5.toInt).toNat < (3 - x5_251.toInt).toNat → R47 zx1 zx2 zx3 zx4 zx5 zS) → b_Pa_makeLevels_47 UL 4 1 3 x3 x4 x5_251 (T252, LT252, PC a b P) R47 K from hs _ (fun _ _ _ _ _ _ h1 h2 => ⟨h1, h2⟩)
    intro R47 hR470
    have hR47 := fun {zx1} {zx2} {zx3} {zx4} {zx5} {zS} => hR470 zx1 zx2 zx3 zx4 zx5 zS
    have q260 : (0) ≤ (x5_251).toInt ∧ (x5_251).toInt ≤ (3) := (show B 0 3 (x5_251) from B_w b253 (by decide +kernel) (by decide +kernel))
    have q261 : (0) ≤ (T252 22 0).toInt ∧ (T252 22 0).toInt ≤ (3) := (show B 0 3 (T252 22 0) from hI254 22 0)
    unfold b_Pa_makeLevels_47
    refine ⟨(show ¬ ((12 : Nat) = NU) from by decide +kernel), ?_⟩
    refine ⟨(show c_cl UL 12 = 7 from cl_12), ?_⟩
    refine ⟨fun hc => ?_, fun hc => ?_⟩
    · have hq262 := hc
      have b263 : B 1 3 (x5_251) := B_w (B_leR (B_eq (g255.1 12 2 rfl rfl) (show B 1 3 (FS33_233 12 2) from hI234 12 2)) b253 hq262) (by decide +kernel) (by decide +kernel)
      have q264 : (1) ≤ (x5_251).toInt ∧ (x5_251).toInt ≤ (3) := (show B 1 3 (x5_251) from B_w b263 (by decide +kernel) (by decide +kernel))
      have e265 : (T252 12 2).toInt = (FS33_233 12 2).toInt := (congrArg Int32.toInt (g255.1 12 2 rfl rfl)).trans rfl
      have i266 : (T252 12 2).toInt ≤ (x5_251).toInt := i_le hq262
      refine ⟨(show ¬ ((12 : Nat) = NU) from by decide +kernel), ?_⟩
      have q267 : (1) ≤ (T252 12 5).toInt ∧ (T252 12 5).toInt ≤ (2) := (show B 1 2 (T252 12 5) from hI254 12 5)
      have q268 : (1) ≤ (T252 12 6).toInt ∧ (T252 12 6).toInt ≤ (2) := (show B 1 2 (T252 12 6) from hI254 12 6)
      refine h_Pi_measure_u12 hI254 (qf_le (b' := (T252 12 2).toInt) (lo' := 1) (hi' := (T252 12 5).toInt) r257 (by omega) (by omega) (by omega)) (qf_le (b' := (T252 12 2).toInt) (lo' := 1) (hi' := (T252 12 6).toInt) r258 (by omega) (by omega) (by omega)) (fun {FS119_269} {LFS119_269} hI270 g271 r272 r273 r274 r275 r276 => ?_)
      have r277 : qf (FS119_269 15) 0 (FS119_269 12 2).toInt 1 64 := r272
      clear r272
      have e278 : (FS119_269 12 2).toInt = (FS33_233 12 2).toInt := (congrArg Int32.toInt ((g271.1 12 2 rfl rfl).trans (g255.1 12 2 rfl rfl))).trans rfl
      have r279 : qf (FS119_269 16) 0 (FS119_269 12 2).toInt 1 64 := r273
      clear r273
      have r280 : qf (FS119_269 17) 0 (FS119_269 12 2).toInt 1 8 := r274
      clear r274
      have r281 : ((FS119_269 12 5).toInt = 1) ∨ ((FS119_269 12 7).toInt ≤ 4) := r275
      clear r275
      have e282 : (FS119_269 12 5).toInt = (T252 12 5).toInt := (congrArg Int32.toInt (g271.1 12 5 rfl rfl)).trans rfl
      have q283 : (1) ≤ (FS119_269 12 7).toInt ∧ (FS119_269 12 7).toInt ≤ (8) := (show B 1 8 (FS119_269 12 7) from hI270 12 7)
      have r284 : ((FS119_269 12 6).toInt = 1) ∨ ((FS119_269 12 8).toInt ≤ 4) := r276
      clear r276
      have e285 : (FS119_269 12 6).toInt = (T252 12 6).toInt := (congrArg Int32.toInt (g271.1 12 6 rfl rfl)).trans rfl
      have q286 : (1) ≤ (FS119_269 12 8).toInt ∧ (FS119_269 12 8).toInt ≤ (8) := (show B 1 8 (FS119_269 12 8) from hI270 12 8)
      refine ⟨(show ¬ ((12 : Nat) = NU) from by decide +kernel), ?_⟩
      refine ⟨(show c_cl UL 12 = 7 from cl_12), ?_⟩
      refine ⟨(show ¬ ((22 : Nat) = NU) from by decide +kernel), ?_⟩
      refine ⟨(show ¬ ((12 : Nat) = NU) from by decide +kernel), ?_⟩
      refine ⟨(show c_cl UL 22 = 10 from cl_22), ?_⟩
      have hI287 := IMc_u (u := 12) (i := 17) (v := 1) hI270 (show B 0 1 (1) from (B_w cqb_1_1_1 (by decide +kernel) (by decide +kernel)))
      have e288 : (FS119_269 22 0).toInt = (T252 22 0).toInt := (congrArg Int32.toInt (g271.1 22 0 rfl rfl)).trans rfl
      refine h_Sc_arrange_u22_x112 hI287 (qf_eq (g271.2 23 rfl rfl) (qf_le (b' := (FS119_269 22 0).toInt) (lo' := 0) (hi' := (FS119_269 12 2).toInt - 1) r259 (by omega) (by omega) (by omega))) (qf_eq (g271.2 13 rfl rfl) (qf_le (b' := (FS119_269 12 2).toInt) (lo' := 1) (hi' := (FS119_269 12 5).toInt) r257 (by omega) (by omega) (by omega))) (qf_eq (g271.2 14 rfl rfl) (qf_le (b' := (FS119_269 12 2).toInt) (lo' := 1) (hi' := (FS119_269 12 6).toInt) r258 (by omega) (by omega) (by omega))) (by show ((FS119_269 12 5).toInt = 1) ∨ ((FS119_269 12 7).toInt ≤ 4); first | with_reducible assumption | omega) (by show ((FS119_269 12 6).toInt = 1) ∨ ((FS119_269 12 8).toInt ≤ 4); first | with_reducible assumption | omega) (fun {FS138_289} {LFS138_289} hI290 g291 r292 r293 => ?_)
      have r294 : qf (FS138_289 26) 0 (FS138_289 22 6).toInt 0 ((64 * (FS138_289 12 2).toInt) - 1) := r292
      clear r292
      have q295 : (0) ≤ (FS138_289 22 6).toInt ∧ (FS138_289 22 6).toInt ≤ (192) := (show B 0 192 (FS138_289 22 6) from hI290 22 6)
      have r296 : UPs 22 FS138_289 := r293
      clear r293
      have e304 : (FS138_289 12 2).toInt = (FS33_233 12 2).toInt := (congrArg Int32.toInt (((g291.1 12 2 rfl rfl).trans (g271.1 12 2 rfl rfl)).trans (g255.1 12 2 rfl rfl))).trans rfl
      refine ⟨fun yx1 yx2 yx5 yS => (1 : Nat) = yx1 ∧ (3 : Nat) = yx2 ∧ B 0 3 yx5 ∧ ∃ (T300 : cF) (LT300 : cL), yS = (T300, LT300, PC a b P) ∧ IMc T300 ∧ agc [] [21, 999] FS138_289 T300 ∧ (qf (T300 26) 0 (T300 22 6).toInt 0 ((64 * (T300 12 2).toInt) - 1)) ∧ (UPs 22 T300) ∧ (qf (T300 15) 0 (T300 12 2).toInt 1 64) ∧ (qf (T300 16) 0 (T300 12 2).toInt 1 64) ∧ (qf (T300 17) 0 (T300 12 2).toInt 1 8), fun yx1 yx2 yx5 yS => (3 - yx5.toInt).toNat, ⟨rfl, rfl, (B_w cqb_0_0_0 (by decide +kernel) (by decide +kernel)), _, _, rfl, hI290, (agc_refl (fs := []) (rs := [21, 999]) (F := FS138_289)), (qf_le (b' := (FS138_289 22 6).toInt) (lo' := 0) (hi' := (64 * (FS138_289 12 2).toInt) - 1) r294 (by omega) (by omega) (by omega)), (UPs_tr (F := FS138_289) (G := FS138_289) r296 rfl rfl rfl), (qf_eq (g291.2 15 rfl rfl) (qf_le (b' := (FS138_289 12 2).toInt) r277 (by omega) (by decide +kernel) (by decide +kernel))), (qf_eq (g291.2 16 rfl rfl) (qf_le (b' := (FS138_289 12 2).toInt) r279 (by omega) (by decide +kernel) (by decide +kernel))), (qf_eq (g291.2 17 rfl rfl) (qf_le (b' := (FS138_289 12 2).toInt) r280 (by omega) (by decide +kernel) (by decide +kernel)))⟩, fun x1_297 x2_298 x5_299 ST300 hIv => ?_⟩
      obtain ⟨rfl, rfl, b301, T300, LT300, rfl, hI302, g303, r305, r306, r307, r308, r309⟩ := hIv
      suffices hs : ∀ (R144 : Nat → Nat → Int32 → cs → Prop), (∀ zx1 zx2 zx5 zS, ((1 : Nat) = zx1 ∧ (3 : Nat) = zx2 ∧ B 0 3 zx5 ∧ ∃ (T300 : cF) (LT300 : cL), zS = (T300, LT300, PC a b P) ∧ IMc T300 ∧ agc [] [21, 999] FS138_289 T300 ∧ (qf (T300 26) 0 (T300 22 6).toInt 0 ((64 * (T300 12 2).toInt) - 1)) ∧ (UPs 22 T300) ∧ (qf (T300 15) 0 (T300 12 2).toInt 1 64) ∧ (qf (T300 16) 0 (T300 12 2).toInt 1 64) ∧ (qf (T300 17) 0 (T300 12 2).toInt 1 8)) → (3 - zx5.toInt).toNat < (3 - x5_299.toInt).toNat → R144 zx1 zx2 zx5 zS) → b_Pa_makeLevels_144 UL 4 1 3 x5_299 (T300, LT300, PC a b P) R144 K from hs _ (fun _ _ _ _ h1 h2 => ⟨h1, h2⟩)
      intro R144 hR1440
      have hR144 := fun {zx1} {zx2} {zx5} {zS} => hR1440 zx1 zx2 zx5 zS
      have e311 : (T300 22 6).toInt = (FS138_289 22 6).toInt := (congrArg Int32.toInt (g303.1 22 6 rfl rfl)).trans rfl
      have w310 : qf (FS138_289 26) 0 (T300 22 6).toInt 0 ((64 * (T300 12 2).toInt) - 1) := qf_eq (Eq.symm (g303.2 26 rfl rfl)) r305
      have e313 : (T300 12 2).toInt = (FS33_233 12 2).toInt := (congrArg Int32.toInt ((((g303.1 12 2 rfl rfl).trans (g291.1 12 2 rfl rfl)).trans (g271.1 12 2 rfl rfl)).trans (g255.1 12 2 rfl rfl))).trans rfl
      have w312 : qf (FS119_269 15) 0 (T300 12 2).toInt 1 64 := qf_eq (Eq.symm ((g303.2 15 rfl rfl).trans (g291.2 15 rfl rfl))) r307
      have w314 : qf (FS119_269 16) 0 (T300 12 2).toInt 1 64 := qf_eq (Eq.symm ((g303.2 16 rfl rfl).trans (g291.2 16 rfl rfl))) r308
      have w315 : qf (FS119_269 17) 0 (T300 12 2).toInt 1 8 := qf_eq (Eq.symm ((g303.2 17 rfl rfl).trans (g291.2 17 rfl rfl))) r309
      unfold b_Pa_makeLevels_144
      refine ⟨(show ¬ ((12 : Nat) = NU) from by decide +kernel), ?_⟩
      refine ⟨(show c_cl UL 12 = 7 from cl_12), ?_⟩
      refine ⟨fun hc => ?_, fun hc => ?_⟩
      · have hq316 := hc
        have b317 : B 1 3 (x5_299) := B_w (B_leR (B_eq ((((g303.1 12 2 rfl rfl).trans (g291.1 12 2 rfl rfl)).trans (g271.1 12 2 rfl rfl)).trans (g255.1 12 2 rfl rfl)) (show B 1 3 (FS33_233 12 2) from hI234 12 2)) b301 hq316) (by decide +kernel) (by decide +kernel)
        have q318 : (1) ≤ (x5_299).toInt ∧ (x5_299).toInt ≤ (3) := (show B 1 3 (x5_299) from B_w b317 (by decide +kernel) (by decide +kernel))
        have i319 : (T300 12 2).toInt ≤ (x5_299).toInt := i_le hq316
        refine ⟨fun yx2 yx5 yS => (3 : Nat) = yx2 ∧ B 0 192 yx5 ∧ ∃ (T322 : cF) (LT322 : cL), yS = (T322, LT322, PC a b P) ∧ IMc T322 ∧ agc [] [9, 10, 19, 999] T300 T322 ∧ (qf (T322 26) 0 (T322 22 6).toInt 0 ((64 * (T322 12 2).toInt) - 1)) ∧ (UPs 22 T322) ∧ (qf (T322 15) 0 (T322 12 2).toInt 1 64) ∧ (qf (T322 16) 0 (T322 12 2).toInt 1 64) ∧ (qf (T322 17) 0 (T322 12 2).toInt 1 8), fun yx2 yx5 yS => (192 - yx5.toInt).toNat, ⟨rfl, (B_w cqb_0_0_0 (by decide +kernel) (by decide +kernel)), _, _, rfl, hI302, (agc_refl (fs := []) (rs := [9, 10, 19, 999]) (F := T300)), (qf_eq (g303.2 26 rfl rfl) (qf_le (b' := (T300 22 6).toInt) (lo' := 0) (hi' := (64 * (T300 12 2).toInt) - 1) w310 (by omega) (by omega) (by omega))), (UPs_tr (F := T300) (G := T300) r306 (Eq.trans (g303.1 22 5 rfl rfl) (Eq.symm (g303.1 22 5 rfl rfl))) (Eq.trans (g303.1 22 4 rfl rfl) (Eq.symm (g303.1 22 4 rfl rfl))) (Eq.trans (g303.1 22 6 rfl rfl) (Eq.symm (g303.1 22 6 rfl rfl)))), (qf_eq ((g303.2 15 rfl rfl).trans (g291.2 15 rfl rfl)) (qf_le (b' := (T300 12 2).toInt) w312 (by omega) (by decide +kernel) (by decide +kernel))), (qf_eq ((g303.2 16 rfl rfl).trans (g291.2 16 rfl rfl)) (qf_le (b' := (T300 12 2).toInt) w314 (by omega) (by decide +kernel) (by decide +kernel))), (qf_eq ((g303.2 17 rfl rfl).trans (g291.2 17 rfl rfl)) (qf_le (b' := (T300 12 2).toInt) w315 (by omega) (by decide +kernel) (by decide +kernel)))⟩, fun x2_320 x5_321 ST322 hIv => ?_⟩
        obtain ⟨rfl, b323, T322, LT322, rfl, hI324, g325, r326, r327, r328, r329, r330⟩ := hIv
        suffices hs : ∀ (R172 : Nat → Int32 → cs → Prop), (∀ zx2 zx5 zS, ((3 : Nat) = zx2 ∧ B 0 192 zx5 ∧ ∃ (T322 : cF) (LT322 : cL), zS = (T322, LT322, PC a b P) ∧ IMc T322 ∧ agc [] [9, 10, 19, 999] T300 T322 ∧ (qf (T322 26) 0 (T322 22 6).toInt 0 ((64 * (T322 12 2).toInt) - 1)) ∧ (UPs 22 T322) ∧ (qf (T322 15) 0 (T322 12 2).toInt 1 64) ∧ (qf (T322 16) 0 (T322 12 2).toInt 1 64) ∧ (qf (T322 17) 0 (T322 12 2).toInt 1 8)) → (192 - zx5.toInt).toNat < (192 - x5_321.toInt).toNat → R172 zx2 zx5 zS) → b_Pa_makeLevels_172 UL 4 3 x5_321 (T322, LT322, PC a b P) R172 K from hs _ (fun _ _ _ h1 h2 => ⟨h1, h2⟩)
        intro R172 hR1720
        have hR172 := fun {zx2} {zx5} {zS} => hR1720 zx2 zx5 zS
        have e332 : (T322 22 6).toInt = (FS138_289 22 6).toInt := (congrArg Int32.toInt ((g325.1 22 6 rfl rfl).trans (g303.1 22 6 rfl rfl))).trans rfl
        have w331 : qf (FS138_289 26) 0 (T322 22 6).toInt 0 ((64 * (T322 12 2).toInt) - 1) := qf_eq (Eq.symm ((g325.2 26 rfl rfl).trans (g303.2 26 rfl rfl))) r326
        have e334 : (T322 12 2).toInt = (FS33_233 12 2).toInt := (congrArg Int32.toInt (((((g325.1 12 2 rfl rfl).trans (g303.1 12 2 rfl rfl)).trans (g291.1 12 2 rfl rfl)).trans (g271.1 12 2 rfl rfl)).trans (g255.1 12 2 rfl rfl))).trans rfl
        have w333 : qf (FS119_269 15) 0 (T322 12 2).toInt 1 64 := qf_eq (Eq.symm (((g325.2 15 rfl rfl).trans (g303.2 15 rfl rfl)).trans (g291.2 15 rfl rfl))) r328
        have w335 : qf (FS119_269 16) 0 (T322 12 2).toInt 1 64 := qf_eq (Eq.symm (((g325.2 16 rfl rfl).trans (g303.2 16 rfl rfl)).trans (g291.2 16 rfl rfl))) r329
        have w336 : qf (FS119_269 17) 0 (T322 12 2).toInt 1 8 := qf_eq (Eq.symm (((g325.2 17 rfl rfl).trans (g303.2 17 rfl rfl)).trans (g291.2 17 rfl rfl))) r330
        unfold b_Pa_makeLevels_172
        refine ⟨(show ¬ ((22 : Nat) = NU) from by decide +kernel), ?_⟩
        refine ⟨(show c_cl UL 22 = 10 from cl_22), ?_⟩
        refine ⟨fun hc => ?_, fun hc => ?_⟩
        · have hq337 := hc
          have q338 : (0) ≤ (x5_321).toInt ∧ (x5_321).toInt ≤ (192) := (show B 0 192 (x5_321) from B_w b323 (by decide +kernel) (by decide +kernel))
          have i339 : (T322 22 6).toInt ≤ (x5_321).toInt := i_le hq337
          have g348 := agc_f (u := 4) (k := 8) (v := 1) (agc_refl (fs := [408, 1200, 1201, 1202, 1205, 1206, 1207, 1208, 1216, 1217, 2200, 2204, 2205, 2206]) (rs := [9, 10, 13, 14, 15, 16, 17, 18, 19, 21, 23, 24, 25, 26, 999]) (F := F)) rfl (by decide +kernel)
          have g347 := agc_tr g348 g235 (by decide +kernel) (by decide +kernel)
          have g346 := agc_f (u := 22) (k := 0) (v := 0) g347 rfl (by decide +kernel)
          have g345 := agc_tr g346 g255 (by decide +kernel) (by decide +kernel)
          have g344 := agc_tr g345 g271 (by decide +kernel) (by decide +kernel)
          have g343 := agc_f (u := 12) (k := 17) (v := 1) g344 rfl (by decide +kernel)
          have g342 := agc_tr g343 g291 (by decide +kernel) (by decide +kernel)
          have g341 := agc_tr g342 g303 (by decide +kernel) (by decide +kernel)
          have g340 := agc_tr g341 g325 (by decide +kernel) (by decide +kernel)
          exact hK hI324 g340 (UPs_tr (F := T322) (G := T322) r327 (Eq.trans ((g325.1 22 5 rfl rfl).trans (g303.1 22 5 rfl rfl)) (Eq.symm ((g325.1 22 5 rfl rfl).trans (g303.1 22 5 rfl rfl)))) (Eq.trans ((g325.1 22 4 rfl rfl).trans (g303.1 22 4 rfl rfl)) (Eq.symm ((g325.1 22 4 rfl rfl).trans (g303.1 22 4 rfl rfl)))) (Eq.trans ((g325.1 22 6 rfl rfl).trans (g303.1 22 6 rfl rfl)) (Eq.symm ((g325.1 22 6 rfl rfl).trans (g303.1 22 6 rfl rfl)))))
        · have hq349 := (nle_lt hc)
          have b350 : B 0 191 (x5_321) := B_w (B_ltL b323 (B_eq ((g325.1 22 6 rfl rfl).trans (g303.1 22 6 rfl rfl)) (show B 0 192 (FS138_289 22 6) from hI290 22 6)) hq349) (by decide +kernel) (by decide +kernel)
          have b351 : B 1 192 (FS138_289 22 6) := B_w (B_eq (Eq.symm ((g325.1 22 6 rfl rfl).trans (g303.1 22 6 rfl rfl))) (B_ltR b323 (B_eq ((g325.1 22 6 rfl rfl).trans (g303.1 22 6 rfl rfl)) (show B 0 192 (FS138_289 22 6) from hI290 22 6)) hq349)) (by decide +kernel) (by decide +kernel)
          have q352 : (1) ≤ (FS138_289 22 6).toInt ∧ (FS138_289 22 6).toInt ≤ (192) := (show B 1 192 (FS138_289 22 6) from B_w b351 (by decide +kernel) (by decide +kernel))
          have q353 : (0) ≤ (x5_321).toInt ∧ (x5_321).toInt ≤ (191) := (show B 0 191 (x5_321) from B_w b350 (by decide +kernel) (by decide +kernel))
          have i354 : (x5_321).toInt < (T322 22 6).toInt := i_lt hq349
          refine ⟨(show ¬ ((22 : Nat) = NU) from by decide +kernel), ?_⟩
          refine ⟨(show ¬ ((26 : Nat) = NU) from by decide +kernel), ?_⟩
          refine ⟨(show c_cl UL 26 = 902 from cl_26), ?_⟩
          refine ⟨(show vp_in (x5_321) 192 from vp_B b350 (by decide +kernel) (by decide +kernel)), ?_⟩
          have r355 : 0 ≤ (FS138_289 26 x5_321.toNatClampNeg).toInt ∧ (FS138_289 26 x5_321.toNatClampNeg).toInt ≤ ((64 * (T322 12 2).toInt) - 1) := qf_at w331 (x := x5_321) (by omega) (by omega)
          have r356 : 0 ≤ (FS138_289 26 x5_321.toNatClampNeg).toInt ∧ (FS138_289 26 x5_321.toNatClampNeg).toInt ≤ ((64 * (T300 12 2).toInt) - 1) := qf_at w310 (x := x5_321) (by omega) (by omega)
          have e357 : (FS138_289 12 2).toInt = (FS33_233 12 2).toInt := (congrArg Int32.toInt (((g291.1 12 2 rfl rfl).trans (g271.1 12 2 rfl rfl)).trans (g255.1 12 2 rfl rfl))).trans rfl
          have r358 : 0 ≤ (FS138_289 26 x5_321.toNatClampNeg).toInt ∧ (FS138_289 26 x5_321.toNatClampNeg).toInt ≤ ((64 * (FS138_289 12 2).toInt) - 1) := qf_at r294 (x := x5_321) (by omega) (by omega)
          have q359 : (0) ≤ (FS138_289 26 x5_321.toNatClampNeg).toInt ∧ (FS138_289 26 x5_321.toNatClampNeg).toInt ≤ (191) := (show B 0 191 (FS138_289 26 x5_321.toNatClampNeg) from hI290 26 x5_321.toNatClampNeg)
          have e360 : (T322 26 x5_321.toNatClampNeg).toInt = (FS138_289 26 x5_321.toNatClampNeg).toInt := (congrArg Int32.toInt ((congrFun (g325.2 26 rfl rfl) x5_321.toNatClampNeg).trans (congrFun (g303.2 26 rfl rfl) x5_321.toNatClampNeg))).trans rfl
          refine h_Pa_makeBlock_u4_x23 (B_w (B_eq ((congrFun (g325.2 26 rfl rfl) x5_321.toNatClampNeg).trans (congrFun (g303.2 26 rfl rfl) x5_321.toNatClampNeg)) (show B 0 191 (FS138_289 26 x5_321.toNatClampNeg) from hI290 26 x5_321.toNatClampNeg)) (by decide +kernel) (by decide +kernel)) hI324 (by show (T322 26 x5_321.toNatClampNeg).toInt < (64 * (T322 12 2).toInt); first | with_reducible assumption | omega) (qf_eq (((g325.2 15 rfl rfl).trans (g303.2 15 rfl rfl)).trans (g291.2 15 rfl rfl)) (qf_le (b' := (T322 12 2).toInt) w333 (by omega) (by decide +kernel) (by decide +kernel))) (qf_eq (((g325.2 16 rfl rfl).trans (g303.2 16 rfl rfl)).trans (g291.2 16 rfl rfl)) (qf_le (b' := (T322 12 2).toInt) w335 (by omega) (by decide +kernel) (by decide +kernel))) (qf_eq (((g325.2 17 rfl rfl).trans (g303.2 17 rfl rfl)).trans (g291.2 17 rfl rfl)) (qf_le (b' := (T322 12 2).toInt) w336 (by omega) (by decide +kernel) (by decide +kernel))) (fun {FS196_361} {LFS196_361} hI362 g363 => ?_)
          have g365 := agc_tr (agc_refl (fs := []) (rs := [9, 10, 19, 999]) (F := T300)) g325 (by decide +kernel) (by decide +kernel)
          have g364 := agc_tr g365 g363 (by decide +kernel) (by decide +kernel)
          have e366 : (FS196_361 22 6).toInt = (FS138_289 22 6).toInt := (congrArg Int32.toInt (((g363.1 22 6 rfl rfl).trans (g325.1 22 6 rfl rfl)).trans (g303.1 22 6 rfl rfl))).trans rfl
          have e367 : (FS196_361 12 2).toInt = (FS33_233 12 2).toInt := (congrArg Int32.toInt ((((((g363.1 12 2 rfl rfl).trans (g325.1 12 2 rfl rfl)).trans (g303.1 12 2 rfl rfl)).trans (g291.1 12 2 rfl rfl)).trans (g271.1 12 2 rfl rfl)).trans (g255.1 12 2 rfl rfl))).trans rfl
          have e368 : (x5_321 + 1).toInt = ((x5_321).toInt + 1) := (t_add b350 cqb_1_1_1 (by decide +kernel) (by decide +kernel)).trans (by rw [cqn_1])
          have q369 : (1) ≤ (x5_321 + 1).toInt ∧ (x5_321 + 1).toInt ≤ (192) := (show B 1 192 (x5_321 + 1) from B_w (B_add b350 cqb_1_1_1 (by decide +kernel) (by decide +kernel)) (by decide +kernel) (by decide +kernel))
          exact hR172 ⟨rfl, (B_w (B_add b350 cqb_1_1_1 (by decide +kernel) (by decide +kernel)) (by decide +kernel) (by decide +kernel)), _, _, rfl, hI362, g364, (qf_eq (((g363.2 26 rfl rfl).trans (g325.2 26 rfl rfl)).trans (g303.2 26 rfl rfl)) (qf_le (b' := (FS196_361 22 6).toInt) (lo' := 0) (hi' := (64 * (FS196_361 12 2).toInt) - 1) w331 (by omega) (by omega) (by omega))), (UPs_tr (F := T322) (G := FS196_361) r327 (Eq.trans (((g363.1 22 5 rfl rfl).trans (g325.1 22 5 rfl rfl)).trans (g303.1 22 5 rfl rfl)) (Eq.symm ((g325.1 22 5 rfl rfl).trans (g303.1 22 5 rfl rfl)))) (Eq.trans (((g363.1 22 4 rfl rfl).trans (g325.1 22 4 rfl rfl)).trans (g303.1 22 4 rfl rfl)) (Eq.symm ((g325.1 22 4 rfl rfl).trans (g303.1 22 4 rfl rfl)))) (Eq.trans (((g363.1 22 6 rfl rfl).trans (g325.1 22 6 rfl rfl)).trans (g303.1 22 6 rfl rfl)) (Eq.symm ((g325.1 22 6 rfl rfl).trans (g303.1 22 6 rfl rfl))))), (qf_eq ((((g363.2 15 rfl rfl).trans (g325.2 15 rfl rfl)).trans (g303.2 15 rfl rfl)).trans (g291.2 15 rfl rfl)) (qf_le (b' := (FS196_361 12 2).toInt) w333 (by omega) (by decide +kernel) (by decide +kernel))), (qf_eq ((((g363.2 16 rfl rfl).trans (g325.2 16 rfl rfl)).trans (g303.2 16 rfl rfl)).trans (g291.2 16 rfl rfl)) (qf_le (b' := (FS196_361 12 2).toInt) w335 (by omega) (by decide +kernel) (by decide +kernel))), (qf_eq ((((g363.2 17 rfl rfl).trans (g325.2 17 rfl rfl)).trans (g303.2 17 rfl rfl)).trans (g291.2 17 rfl rfl)) (qf_le (b' := (FS196_361 12 2).toInt) w336 (by omega) (by decide +kernel) (by decide +kernel)))⟩ (by show (192 - (x5_321 + 1).toInt).toNat < (192 - x5_321.toInt).toNat; omega)
      · have hq370 := (nle_lt hc)
        have b371 : B 0 2 (x5_299) := B_w (B_ltL b301 (B_eq ((((g303.1 12 2 rfl rfl).trans (g291.1 12 2 rfl rfl)).trans (g271.1 12 2 rfl rfl)).trans (g255.1 12 2 rfl rfl)) (show B 1 3 (FS33_233 12 2) from hI234 12 2)) hq370) (by decide +kernel) (by decide +kernel)
        have q372 : (0) ≤ (x5_299).toInt ∧ (x5_299).toInt ≤ (2) := (show B 0 2 (x5_299) from B_w b371 (by decide +kernel) (by decide +kernel))
        have i373 : (x5_299).toInt < (T300 12 2).toInt := i_lt hq370
        refine h_Pa_makeLayer_u4_x11 b371 hI302 (fun {FS160_374} {LFS160_374} hI375 g376 => ?_)
        have g378 := agc_tr (agc_refl (fs := []) (rs := [21, 999]) (F := FS138_289)) g303 (by decide +kernel) (by decide +kernel)
        have g377 := agc_tr g378 g376 (by decide +kernel) (by decide +kernel)
        have e379 : (FS160_374 22 6).toInt = (FS138_289 22 6).toInt := (congrArg Int32.toInt ((g376.1 22 6 rfl rfl).trans (g303.1 22 6 rfl rfl))).trans rfl
        have e380 : (FS160_374 12 2).toInt = (FS33_233 12 2).toInt := (congrArg Int32.toInt (((((g376.1 12 2 rfl rfl).trans (g303.1 12 2 rfl rfl)).trans (g291.1 12 2 rfl rfl)).trans (g271.1 12 2 rfl rfl)).trans (g255.1 12 2 rfl rfl))).trans rfl
        have e381 : (x5_299 + 1).toInt = ((x5_299).toInt + 1) := (t_add b371 cqb_1_1_1 (by decide +kernel) (by decide +kernel)).trans (by rw [cqn_1])
        have q382 : (1) ≤ (x5_299 + 1).toInt ∧ (x5_299 + 1).toInt ≤ (3) := (show B 1 3 (x5_299 + 1) from B_w (B_add b371 cqb_1_1_1 (by decide +kernel) (by decide +kernel)) (by decide +kernel) (by decide +kernel))
        exact hR144 ⟨rfl, rfl, (B_w (B_add b371 cqb_1_1_1 (by decide +kernel) (by decide +kernel)) (by decide +kernel) (by decide +kernel)), _, _, rfl, hI375, g377, (qf_eq ((g376.2 26 rfl rfl).trans (g303.2 26 rfl rfl)) (qf_le (b' := (FS160_374 22 6).toInt) (lo' := 0) (hi' := (64 * (FS160_374 12 2).toInt) - 1) w310 (by omega) (by omega) (by omega))), (UPs_tr (F := T300) (G := FS160_374) r306 (Eq.trans ((g376.1 22 5 rfl rfl).trans (g303.1 22 5 rfl rfl)) (Eq.symm (g303.1 22 5 rfl rfl))) (Eq.trans ((g376.1 22 4 rfl rfl).trans (g303.1 22 4 rfl rfl)) (Eq.symm (g303.1 22 4 rfl rfl))) (Eq.trans ((g376.1 22 6 rfl rfl).trans (g303.1 22 6 rfl rfl)) (Eq.symm (g303.1 22 6 rfl rfl)))), (qf_eq (((g376.2 15 rfl rfl).trans (g303.2 15 rfl rfl)).trans (g291.2 15 rfl rfl)) (qf_le (b' := (FS160_374 12 2).toInt) w312 (by omega) (by decide +kernel) (by decide +kernel))), (qf_eq (((g376.2 16 rfl rfl).trans (g303.2 16 rfl rfl)).trans (g291.2 16 rfl rfl)) (qf_le (b' := (FS160_374 12 2).toInt) w314 (by omega) (by decide +kernel) (by decide +kernel))), (qf_eq (((g376.2 17 rfl rfl).trans (g303.2 17 rfl rfl)).trans (g291.2 17 rfl rfl)) (qf_le (b' := (FS160_374 12 2).toInt) w315 (by omega) (by decide +kernel) (by decide +kernel)))⟩ (by show (3 - (x5_299 + 1).toInt).toNat < (3 - x5_299.toInt).toNat; omega)
    · have hq383 := (nle_lt hc)
      have b384 : B 0 2 (x5_251) := B_w (B_ltL b253 (B_eq (g255.1 12 2 rfl rfl) (show B 1 3 (FS33_233 12 2) from hI234 12 2)) hq383) (by decide +kernel) (by decide +kernel)
      have q385 : (0) ≤ (x5_251).toInt ∧ (x5_251).toInt ≤ (2) := (show B 0 2 (x5_251) from B_w b384 (by decide +kernel) (by decide +kernel))
      have e386 : (T252 12 2).toInt = (FS33_233 12 2).toInt := (congrArg Int32.toInt (g255.1 12 2 rfl rfl)).trans rfl
      have i387 : (x5_251).toInt < (T252 12 2).toInt := i_lt hq383
      refine ⟨(show ¬ ((12 : Nat) = NU) from by decide +kernel), ?_⟩
      refine ⟨fun hc => ?_, fun hc => ?_⟩
      · have b388 : B 1 2 (x5_251) := B_w (B_n0 b384 hc) (by decide +kernel) (by decide +kernel)
        have q389 : (1) ≤ (x5_251).toInt ∧ (x5_251).toInt ≤ (2) := (show B 1 2 (x5_251) from B_w b388 (by decide +kernel) (by decide +kernel))
        unfold b_Pa_makeLevels_75
        refine ⟨fun hc => ?_, fun hc => ?_⟩
        · have i390 : (x5_251).toInt ≠ (0 : Int32).toInt := i_ne hc
          have n391 : (0 : Int32).toInt = 0 := cqn_0
          unfold b_Pa_makeLevels_86
          refine ⟨(show c_cl UL 12 = 7 from cl_12), ?_⟩
          have q392 : (1) ≤ (T252 12 5).toInt ∧ (T252 12 5).toInt ≤ (2) := (show B 1 2 (T252 12 5) from hI254 12 5)
          have q393 : (1) ≤ (T252 12 6).toInt ∧ (T252 12 6).toInt ≤ (2) := (show B 1 2 (T252 12 6) from hI254 12 6)
          refine h_Pi_setFactors_u12 (B_w b388 (by decide +kernel) (by decide +kernel)) (B_w cqb_1_1_1 (by decide +kernel) (by decide +kernel)) (B_w cqb_1_1_1 (by decide +kernel) (by decide +kernel)) hI254 (qf_le (b' := x5_251.toInt) (lo' := 1) (hi' := (T252 12 5).toInt) r257 (by omega) (by omega) (by omega)) (qf_le (b' := x5_251.toInt) (lo' := 1) (hi' := (T252 12 6).toInt) r258 (by omega) (by omega) (by omega)) (fun {FS86_394} {LFS86_394} hI395 g396 r397 r398 => ?_)
          have r399 : qf (FS86_394 13) 0 (x5_251.toInt + 1) 1 (FS86_394 12 5).toInt := r397
          clear r397
          have r400 : qf (FS86_394 14) 0 (x5_251.toInt + 1) 1 (FS86_394 12 6).toInt := r398
          clear r398
          refine h_Pa_kindOf  (fun {v91_401} b402 => ?_)
          refine ⟨(show ¬ ((22 : Nat) = NU) from by decide +kernel), ?_⟩
          refine ⟨(show c_cl UL 22 = 10 from cl_22), ?_⟩
          have e403 : (FS86_394 22 0).toInt = (T252 22 0).toInt := (congrArg Int32.toInt (g396.1 22 0 rfl rfl)).trans rfl
          have e404 : (FS86_394 12 2).toInt = (FS33_233 12 2).toInt := (congrArg Int32.toInt ((g396.1 12 2 rfl rfl).trans (g255.1 12 2 rfl rfl))).trans rfl
          refine h_Sc_addLayer_u22 (B_w b388 (by decide +kernel) (by decide +kernel)) (B_w b402 (by decide +kernel) (by decide +kernel)) (B_w b402 (by decide +kernel) (by decide +kernel)) hI395 (qf_eq (g396.2 23 rfl rfl) (qf_le (b' := (FS86_394 22 0).toInt) (lo' := 0) (hi' := (FS86_394 12 2).toInt - 1) r259 (by omega) (by omega) (by omega))) (by show x5_251.toInt < (FS86_394 12 2).toInt; first | with_reducible assumption | omega) (fun {FS106_405} {LFS106_405} hI406 g407 r408 => ?_)
          have r409 : qf (FS106_405 23) 0 (FS106_405 22 0).toInt 0 ((FS106_405 12 2).toInt - 1) := r408
          clear r408
          have q410 : (0) ≤ (FS106_405 22 0).toInt ∧ (FS106_405 22 0).toInt ≤ (3) := (show B 0 3 (FS106_405 22 0) from hI406 22 0)
          have g413 := agc_tr (agc_refl (fs := [1205, 1206, 2200]) (rs := [13, 14, 23, 24, 25, 999]) (F := va_up FS33_233 22 (upd (FS33_233 22) 0 0))) g255 (by decide +kernel) (by decide +kernel)
          have g412 := agc_tr g413 g396 (by decide +kernel) (by decide +kernel)
          have g411 := agc_tr g412 g407 (by decide +kernel) (by decide +kernel)
          have e414 : (x5_251 + 1).toInt = ((x5_251).toInt + 1) := (t_add b388 cqb_1_1_1 (by decide +kernel) (by decide +kernel)).trans (by rw [cqn_1])
          have q415 : (2) ≤ (x5_251 + 1).toInt ∧ (x5_251 + 1).toInt ≤ (3) := (show B 2 3 (x5_251 + 1) from B_w (B_add b388 cqb_1_1_1 (by decide +kernel) (by decide +kernel)) (by decide +kernel) (by decide +kernel))
          have q416 : (1) ≤ (FS86_394 12 5).toInt ∧ (FS86_394 12 5).toInt ≤ (2) := (show B 1 2 (FS86_394 12 5) from hI395 12 5)
          have e417 : (FS106_405 12 5).toInt = (FS86_394 12 5).toInt := (congrArg Int32.toInt (g407.1 12 5 rfl rfl)).trans rfl
          have q418 : (1) ≤ (FS86_394 12 6).toInt ∧ (FS86_394 12 6).toInt ≤ (2) := (show B 1 2 (FS86_394 12 6) from hI395 12 6)
          have e419 : (FS106_405 12 6).toInt = (FS86_394 12 6).toInt := (congrArg Int32.toInt (g407.1 12 6 rfl rfl)).trans rfl
          have e420 : (FS106_405 12 2).toInt = (FS33_233 12 2).toInt := (congrArg Int32.toInt (((g407.1 12 2 rfl rfl).trans (g396.1 12 2 rfl rfl)).trans (g255.1 12 2 rfl rfl))).trans rfl
          exact hR47 ⟨rfl, rfl, rfl, rfl, (B_w (B_add b388 cqb_1_1_1 (by decide +kernel) (by decide +kernel)) (by decide +kernel) (by decide +kernel)), _, _, rfl, hI406, g411, (qf_eq (g407.2 13 rfl rfl) (qf_le (b' := (x5_251 + 1).toInt) (lo' := 1) (hi' := (FS106_405 12 5).toInt) r399 (by omega) (by omega) (by omega))), (qf_eq (g407.2 14 rfl rfl) (qf_le (b' := (x5_251 + 1).toInt) (lo' := 1) (hi' := (FS106_405 12 6).toInt) r400 (by omega) (by omega) (by omega))), (qf_le (b' := (FS106_405 22 0).toInt) (lo' := 0) (hi' := (FS106_405 12 2).toInt - 1) r409 (by omega) (by omega) (by omega))⟩ (by show (3 - (x5_251 + 1).toInt).toNat < (3 - x5_251.toInt).toNat; omega)
        · exact (B_dis b388 cqb_0_0_0 hc (by decide +kernel)).elim
      · have b421 : B 0 0 (x5_251) := B_w (B_eq hc cqb_0_0_0) (by decide +kernel) (by decide +kernel)
        have q422 : (0) ≤ (x5_251).toInt ∧ (x5_251).toInt ≤ (0) := (show B 0 0 (x5_251) from B_w b421 (by decide +kernel) (by decide +kernel))
        have i423 : (x5_251).toInt = (0 : Int32).toInt := congrArg Int32.toInt hc
        have n424 : (0 : Int32).toInt = 0 := cqn_0
        unfold b_Pa_makeLevels_75
        refine ⟨fun hc => ?_, fun hc => ?_⟩
        · exact (hc (B_z b421)).elim
        · have i425 : (x5_251).toInt = (0 : Int32).toInt := congrArg Int32.toInt hc
          have n426 : (0 : Int32).toInt = 0 := cqn_0
          unfold b_Pa_makeLevels_86
          refine ⟨(show c_cl UL 12 = 7 from cl_12), ?_⟩
          have q427 : (1) ≤ (T252 12 5).toInt ∧ (T252 12 5).toInt ≤ (2) := (show B 1 2 (T252 12 5) from hI254 12 5)
          have q428 : (1) ≤ (T252 12 6).toInt ∧ (T252 12 6).toInt ≤ (2) := (show B 1 2 (T252 12 6) from hI254 12 6)
          refine h_Pi_setFactors_u12 (B_w b421 (by decide +kernel) (by decide +kernel)) b_x3 b_x4 hI254 (qf_le (b' := x5_251.toInt) (lo' := 1) (hi' := (T252 12 5).toInt) r257 (by omega) (by omega) (by omega)) (qf_le (b' := x5_251.toInt) (lo' := 1) (hi' := (T252 12 6).toInt) r258 (by omega) (by omega) (by omega)) (fun {FS86_429} {LFS86_429} hI430 g431 r432 r433 => ?_)
          have r434 : qf (FS86_429 13) 0 (x5_251.toInt + 1) 1 (FS86_429 12 5).toInt := r432
          clear r432
          have r435 : qf (FS86_429 14) 0 (x5_251.toInt + 1) 1 (FS86_429 12 6).toInt := r433
          clear r433
          refine h_Pa_kindOf  (fun {v91_436} b437 => ?_)
          refine ⟨(show ¬ ((22 : Nat) = NU) from by decide +kernel), ?_⟩
          refine ⟨(show c_cl UL 22 = 10 from cl_22), ?_⟩
          have e438 : (FS86_429 22 0).toInt = (T252 22 0).toInt := (congrArg Int32.toInt (g431.1 22 0 rfl rfl)).trans rfl
          have e439 : (FS86_429 12 2).toInt = (FS33_233 12 2).toInt := (congrArg Int32.toInt ((g431.1 12 2 rfl rfl).trans (g255.1 12 2 rfl rfl))).trans rfl
          refine h_Sc_addLayer_u22 (B_w b421 (by decide +kernel) (by decide +kernel)) (B_w b437 (by decide +kernel) (by decide +kernel)) (B_w b437 (by decide +kernel) (by decide +kernel)) hI430 (qf_eq (g431.2 23 rfl rfl) (qf_le (b' := (FS86_429 22 0).toInt) (lo' := 0) (hi' := (FS86_429 12 2).toInt - 1) r259 (by omega) (by omega) (by omega))) (by show x5_251.toInt < (FS86_429 12 2).toInt; first | with_reducible assumption | omega) (fun {FS106_440} {LFS106_440} hI441 g442 r443 => ?_)
          have r444 : qf (FS106_440 23) 0 (FS106_440 22 0).toInt 0 ((FS106_440 12 2).toInt - 1) := r443
          clear r443
          have q445 : (0) ≤ (FS106_440 22 0).toInt ∧ (FS106_440 22 0).toInt ≤ (3) := (show B 0 3 (FS106_440 22 0) from hI441 22 0)
          have g448 := agc_tr (agc_refl (fs := [1205, 1206, 2200]) (rs := [13, 14, 23, 24, 25, 999]) (F := va_up FS33_233 22 (upd (FS33_233 22) 0 0))) g255 (by decide +kernel) (by decide +kernel)
          have g447 := agc_tr g448 g431 (by decide +kernel) (by decide +kernel)
          have g446 := agc_tr g447 g442 (by decide +kernel) (by decide +kernel)
          have e449 : (x5_251 + 1).toInt = ((x5_251).toInt + 1) := (t_add b421 cqb_1_1_1 (by decide +kernel) (by decide +kernel)).trans (by rw [cqn_1])
          have q450 : (1) ≤ (x5_251 + 1).toInt ∧ (x5_251 + 1).toInt ≤ (1) := (show B 1 1 (x5_251 + 1) from B_w (B_add b421 cqb_1_1_1 (by decide +kernel) (by decide +kernel)) (by decide +kernel) (by decide +kernel))
          have q451 : (1) ≤ (FS86_429 12 5).toInt ∧ (FS86_429 12 5).toInt ≤ (2) := (show B 1 2 (FS86_429 12 5) from hI430 12 5)
          have e452 : (FS106_440 12 5).toInt = (FS86_429 12 5).toInt := (congrArg Int32.toInt (g442.1 12 5 rfl rfl)).trans rfl
          have q453 : (1) ≤ (FS86_429 12 6).toInt ∧ (FS86_429 12 6).toInt ≤ (2) := (show B 1 2 (FS86_429 12 6) from hI430 12 6)
          have e454 : (FS106_440 12 6).toInt = (FS86_429 12 6).toInt := (congrArg Int32.toInt (g442.1 12 6 rfl rfl)).trans rfl
          have e455 : (FS106_440 12 2).toInt = (FS33_233 12 2).toInt := (congrArg Int32.toInt (((g442.1 12 2 rfl rfl).trans (g431.1 12 2 rfl rfl)).trans (g255.1 12 2 rfl rfl))).trans rfl
          exact hR47 ⟨rfl, rfl, rfl, rfl, (B_w (B_add b421 cqb_1_1_1 (by decide +kernel) (by decide +kernel)) (by decide +kernel) (by decide +kernel)), _, _, rfl, hI441, g446, (qf_eq (g442.2 13 rfl rfl) (qf_le (b' := (x5_251 + 1).toInt) (lo' := 1) (hi' := (FS106_440 12 5).toInt) r434 (by omega) (by omega) (by omega))), (qf_eq (g442.2 14 rfl rfl) (qf_le (b' := (x5_251 + 1).toInt) (lo' := 1) (hi' := (FS106_440 12 6).toInt) r435 (by omega) (by omega) (by omega))), (qf_le (b' := (FS106_440 22 0).toInt) (lo' := 0) (hi' := (FS106_440 12 2).toInt - 1) r444 (by omega) (by omega) (by omega))⟩ (by show (3 - (x5_251 + 1).toInt).toNat < (3 - x5_251.toInt).toNat; omega)
set_option maxRecDepth 20000 in
set_option maxHeartbeats 4000000 in
theorem h_Pa_bitsOf {x0 : Int32} {K : Int32 → Prop} (hK : ∀ {v : Int32}, B (-2147483648) 2147483647 v → K v) : p_Pa_bitsOf x0 K := by
  unfold p_Pa_bitsOf
  refine ⟨fun yx1 yx2 => B (-2147483648) 2147483647 yx1 ∧ B (-2147483648) 2147483647 yx2, fun yx1 yx2 => yx2.toInt.toNat, ⟨(B_w cqb_0_0_0 (by decide +kernel) (by decide +kernel)), (B_w (B_any _) (by decide +kernel) (by decide +kernel))⟩, fun x1_1 x2_2 hIv => ?_⟩
  obtain ⟨b3, b4⟩ := hIv
  suffices hs : ∀ (R7 : Int32 → Int32 → Prop), (∀ zx1 zx2, (B (-2147483648) 2147483647 zx1 ∧ B (-2147483648) 2147483647 zx2) → zx2.toInt.toNat < x2_2.toInt.toNat → R7 zx1 zx2) → b_Pa_bitsOf_7 x1_1 x2_2 R7 K from hs _ (fun _ _ h1 h2 => ⟨h1, h2⟩)
  intro R7 hR70
  have hR7 := fun {zx1} {zx2} => hR70 zx1 zx2
  unfold b_Pa_bitsOf_7
  refine ⟨fun hc => ?_, fun hc => ?_⟩
  · have hq5 := hc
    have b6 : B (-2147483648) 0 (x2_2) := B_w (B_leL b4 cqb_0_0_0 hq5) (by decide +kernel) (by decide +kernel)
    exact hK b3
  · have hq7 := (nle_lt hc)
    have b8 : B 1 2147483647 (x2_2) := B_w (B_ltR cqb_0_0_0 b4 hq7) (by decide +kernel) (by decide +kernel)
    have q9 : (1) ≤ (x2_2).toInt ∧ (x2_2).toInt ≤ (2147483647) := (show B 1 2147483647 (x2_2) from B_w b8 (by decide +kernel) (by decide +kernel))
    have e10 : (x2_2 / 2).toInt = ((x2_2).toInt / 2) := (t_div b8 cqb_2_2_2 (by decide +kernel) (by decide +kernel)).trans (by rw [cqn_2])
    have q11 : (0) ≤ (x2_2 / 2).toInt ∧ (x2_2 / 2).toInt ≤ (1073741823) := (show B 0 1073741823 (x2_2 / 2) from B_div2 b8 cqb_2_2_2 (by decide +kernel) (by decide +kernel) (by decide +kernel) (by decide +kernel))
    exact hR7 ⟨(B_w (B_any _) (by decide +kernel) (by decide +kernel)), (B_w (show B 0 1073741823 (x2_2 / 2) from B_div2 b8 cqb_2_2_2 (by decide +kernel) (by decide +kernel) (by decide +kernel) (by decide +kernel)) (by decide +kernel) (by decide +kernel))⟩ (by show (x2_2 / 2).toInt.toNat < x2_2.toInt.toNat; omega)
set_option maxRecDepth 20000 in
set_option maxHeartbeats 4000000 in
theorem h_Pa_writeSymbol_u4_x133 {a : Bool} {b : Bool} {P : Nat → Nat → Nat} {x2 : Int32} {x3 : Int32} {F : cF} {L : cL} {K : cs → Prop} (hI : IMc F) (hK : ∀ {Z : cF} {LZ : cL}, IMc Z → agc [410, 411, 501] [6, 34, 999] F Z → K (Z, LZ, PC a b P)) : p_Pa_writeSymbol UL 4 33 x2 x3 (F, L, PC a b P) K := by
  unfold p_Pa_writeSymbol
  refine h_B_isWithin  (fun {v5_1} b2 r3 r4 => ?_)
  rcases sp_01 b2 with rfl | rfl
  · have r5 : ((0 : Int) = 0) ∨ ((0 ≤ x2.toInt) ∧ (x2.toInt ≤ 255)) := r3
    clear r3
    have r6 : ((0 : Int) = 1) ∨ ((x2.toInt < 0) ∨ (255 < x2.toInt)) := r4
    clear r4
    refine ⟨fun hc => ?_, fun hc => ?_⟩
    · exact (hc (B_z cqb_0_0_0)).elim
    · have i7 : (0 : Int32).toInt = (0 : Int32).toInt := congrArg Int32.toInt hc
      have n8 : (0 : Int32).toInt = 0 := cqn_0
      have n9 : (0 : Int32).toInt = 0 := cqn_0
      exact hK hI (agc_refl (fs := [410, 411, 501]) (rs := [6, 34, 999]) (F := F))
  · have r10 : ((1 : Int) = 0) ∨ ((0 ≤ x2.toInt) ∧ (x2.toInt ≤ 255)) := r3
    clear r3
    have r11 : ((1 : Int) = 1) ∨ ((x2.toInt < 0) ∨ (255 < x2.toInt)) := r4
    clear r4
    have b12 : B 0 255 (x2) := ⟨by omega, by omega⟩
    refine ⟨fun hc => ?_, fun hc => ?_⟩
    · have i13 : (1 : Int32).toInt ≠ (0 : Int32).toInt := i_ne hc
      have n14 : (1 : Int32).toInt = 1 := cqn_1
      have n15 : (0 : Int32).toInt = 0 := cqn_0
      refine ⟨fun hc => ?_, fun hc => ?_⟩
      · have b16 : B 0 0 (F 4 9) := B_w (B_eq hc cqb_0_0_0) (by decide +kernel) (by decide +kernel)
        have q17 : (0) ≤ (F 4 9).toInt ∧ (F 4 9).toInt ≤ (0) := (show B 0 0 (F 4 9) from B_w b16 (by decide +kernel) (by decide +kernel))
        have i18 : (F 4 9).toInt = (0 : Int32).toInt := congrArg Int32.toInt hc
        have n19 : (0 : Int32).toInt = 0 := cqn_0
        refine ⟨(show c_cl UL 33 = 5 from cl_33), ?_⟩
        refine ⟨(show ¬ ((36 : Nat) = NU) from by decide +kernel), ?_⟩
        refine ⟨(show c_cl UL 36 = 902 from cl_36), ?_⟩
        refine ⟨(show vp_in (x2) 256 from vp_B b12 (by decide +kernel) (by decide +kernel)), ?_⟩
        refine ⟨(show ¬ ((35 : Nat) = NU) from by decide +kernel), ?_⟩
        refine ⟨(show c_cl UL 35 = 902 from cl_35), ?_⟩
        refine ⟨(show vp_in (x2) 257 from vp_B b12 (by decide +kernel) (by decide +kernel)), ?_⟩
        refine h_Pa_writeBits_u4 hI (fun {FS49_20} {LFS49_20} hI21 g22 => ?_)
        refine ⟨fun hc => ?_, fun hc => ?_⟩
        · have hq23 := hc
          have b24 : B 0 2147483647 (x3) := B_w (B_leR cqb_0_0_0 (B_any _) hq23) (by decide +kernel) (by decide +kernel)
          unfold b_Pa_writeSymbol_69
          refine h_Pa_writeBits_u4 hI21 (fun {FS71_25} {LFS71_25} hI26 g27 => ?_)
          have g29 := agc_tr (agc_refl (fs := [410, 411, 501]) (rs := [6, 34, 999]) (F := F)) g22 (by decide +kernel) (by decide +kernel)
          have g28 := agc_tr g29 g27 (by decide +kernel) (by decide +kernel)
          exact hK hI26 g28
        · have hq30 := (nle_lt hc)
          have b31 : B (-2147483648) (-1) (x3) := B_w (B_ltL (B_any _) cqb_0_0_0 hq30) (by decide +kernel) (by decide +kernel)
          unfold b_Pa_writeSymbol_69
          refine h_Pa_writeBits_u4 hI21 (fun {FS71_32} {LFS71_32} hI33 g34 => ?_)
          have g36 := agc_tr (agc_refl (fs := [410, 411, 501]) (rs := [6, 34, 999]) (F := F)) g22 (by decide +kernel) (by decide +kernel)
          have g35 := agc_tr g36 g34 (by decide +kernel) (by decide +kernel)
          exact hK hI33 g35
      · have b37 : B 1 1 (F 4 9) := B_w (B_n0 (show B 0 1 (F 4 9) from hI 4 9) hc) (by decide +kernel) (by decide +kernel)
        refine ⟨(show c_cl UL 33 = 5 from cl_33), ?_⟩
        refine ⟨(show ¬ ((34 : Nat) = NU) from by decide +kernel), ?_⟩
        refine ⟨(show c_cl UL 34 = 902 from cl_34), ?_⟩
        refine ⟨(show vp_in (x2) 257 from vp_B b12 (by decide +kernel) (by decide +kernel)), ?_⟩
        refine ⟨(show vp_in (x2) 257 from vp_B b12 (by decide +kernel) (by decide +kernel)), ?_⟩
        have hI38 := IMc_u (u := 34) (i := x2.toNatClampNeg) (v := (F 34 x2.toNatClampNeg) + 1) hI (show B (-2147483648) 2147483647 ((F 34 x2.toNatClampNeg) + 1) from (B_w (B_any _) (by decide +kernel) (by decide +kernel)))
        have g39 := agc_r (u := 34) (w := upd (F 34) x2.toNatClampNeg ((F 34 x2.toNatClampNeg) + 1)) (agc_refl (fs := [410, 411, 501]) (rs := [6, 34, 999]) (F := F)) rfl (by decide +kernel)
        exact hK hI38 g39
    · exact (B_dis cqb_1_1_1 cqb_0_0_0 hc (by decide +kernel)).elim
set_option maxRecDepth 20000 in
set_option maxHeartbeats 4000000 in
theorem h_Pa_writeSymbol_u4_x139 {a : Bool} {b : Bool} {P : Nat → Nat → Nat} {x2 : Int32} {x3 : Int32} {F : cF} {L : cL} {K : cs → Prop} (hI : IMc F) (hK : ∀ {Z : cF} {LZ : cL}, IMc Z → agc [410, 411, 501] [6, 40, 999] F Z → K (Z, LZ, PC a b P)) : p_Pa_writeSymbol UL 4 39 x2 x3 (F, L, PC a b P) K := by
  unfold p_Pa_writeSymbol
  refine h_B_isWithin  (fun {v5_1} b2 r3 r4 => ?_)
  rcases sp_01 b2 with rfl | rfl
  · have r5 : ((0 : Int) = 0) ∨ ((0 ≤ x2.toInt) ∧ (x2.toInt ≤ 255)) := r3
    clear r3
    have r6 : ((0 : Int) = 1) ∨ ((x2.toInt < 0) ∨ (255 < x2.toInt)) := r4
    clear r4
    refine ⟨fun hc => ?_, fun hc => ?_⟩
    · exact (hc (B_z cqb_0_0_0)).elim
    · have i7 : (0 : Int32).toInt = (0 : Int32).toInt := congrArg Int32.toInt hc
      have n8 : (0 : Int32).toInt = 0 := cqn_0
      have n9 : (0 : Int32).toInt = 0 := cqn_0
      exact hK hI (agc_refl (fs := [410, 411, 501]) (rs := [6, 40, 999]) (F := F))
  · have r10 : ((1 : Int) = 0) ∨ ((0 ≤ x2.toInt) ∧ (x2.toInt ≤ 255)) := r3
    clear r3
    have r11 : ((1 : Int) = 1) ∨ ((x2.toInt < 0) ∨ (255 < x2.toInt)) := r4
    clear r4
    have b12 : B 0 255 (x2) := ⟨by omega, by omega⟩
    refine ⟨fun hc => ?_, fun hc => ?_⟩
    · have i13 : (1 : Int32).toInt ≠ (0 : Int32).toInt := i_ne hc
      have n14 : (1 : Int32).toInt = 1 := cqn_1
      have n15 : (0 : Int32).toInt = 0 := cqn_0
      refine ⟨fun hc => ?_, fun hc => ?_⟩
      · have b16 : B 0 0 (F 4 9) := B_w (B_eq hc cqb_0_0_0) (by decide +kernel) (by decide +kernel)
        have q17 : (0) ≤ (F 4 9).toInt ∧ (F 4 9).toInt ≤ (0) := (show B 0 0 (F 4 9) from B_w b16 (by decide +kernel) (by decide +kernel))
        have i18 : (F 4 9).toInt = (0 : Int32).toInt := congrArg Int32.toInt hc
        have n19 : (0 : Int32).toInt = 0 := cqn_0
        refine ⟨(show c_cl UL 39 = 5 from cl_39), ?_⟩
        refine ⟨(show ¬ ((42 : Nat) = NU) from by decide +kernel), ?_⟩
        refine ⟨(show c_cl UL 42 = 902 from cl_42), ?_⟩
        refine ⟨(show vp_in (x2) 256 from vp_B b12 (by decide +kernel) (by decide +kernel)), ?_⟩
        refine ⟨(show ¬ ((41 : Nat) = NU) from by decide +kernel), ?_⟩
        refine ⟨(show c_cl UL 41 = 902 from cl_41), ?_⟩
        refine ⟨(show vp_in (x2) 257 from vp_B b12 (by decide +kernel) (by decide +kernel)), ?_⟩
        refine h_Pa_writeBits_u4 hI (fun {FS49_20} {LFS49_20} hI21 g22 => ?_)
        refine ⟨fun hc => ?_, fun hc => ?_⟩
        · have hq23 := hc
          have b24 : B 0 2147483647 (x3) := B_w (B_leR cqb_0_0_0 (B_any _) hq23) (by decide +kernel) (by decide +kernel)
          unfold b_Pa_writeSymbol_69
          refine h_Pa_writeBits_u4 hI21 (fun {FS71_25} {LFS71_25} hI26 g27 => ?_)
          have g29 := agc_tr (agc_refl (fs := [410, 411, 501]) (rs := [6, 40, 999]) (F := F)) g22 (by decide +kernel) (by decide +kernel)
          have g28 := agc_tr g29 g27 (by decide +kernel) (by decide +kernel)
          exact hK hI26 g28
        · have hq30 := (nle_lt hc)
          have b31 : B (-2147483648) (-1) (x3) := B_w (B_ltL (B_any _) cqb_0_0_0 hq30) (by decide +kernel) (by decide +kernel)
          unfold b_Pa_writeSymbol_69
          refine h_Pa_writeBits_u4 hI21 (fun {FS71_32} {LFS71_32} hI33 g34 => ?_)
          have g36 := agc_tr (agc_refl (fs := [410, 411, 501]) (rs := [6, 40, 999]) (F := F)) g22 (by decide +kernel) (by decide +kernel)
          have g35 := agc_tr g36 g34 (by decide +kernel) (by decide +kernel)
          exact hK hI33 g35
      · have b37 : B 1 1 (F 4 9) := B_w (B_n0 (show B 0 1 (F 4 9) from hI 4 9) hc) (by decide +kernel) (by decide +kernel)
        refine ⟨(show c_cl UL 39 = 5 from cl_39), ?_⟩
        refine ⟨(show ¬ ((40 : Nat) = NU) from by decide +kernel), ?_⟩
        refine ⟨(show c_cl UL 40 = 902 from cl_40), ?_⟩
        refine ⟨(show vp_in (x2) 257 from vp_B b12 (by decide +kernel) (by decide +kernel)), ?_⟩
        refine ⟨(show vp_in (x2) 257 from vp_B b12 (by decide +kernel) (by decide +kernel)), ?_⟩
        have hI38 := IMc_u (u := 40) (i := x2.toNatClampNeg) (v := (F 40 x2.toNatClampNeg) + 1) hI (show B (-2147483648) 2147483647 ((F 40 x2.toNatClampNeg) + 1) from (B_w (B_any _) (by decide +kernel) (by decide +kernel)))
        have g39 := agc_r (u := 40) (w := upd (F 40) x2.toNatClampNeg ((F 40 x2.toNatClampNeg) + 1)) (agc_refl (fs := [410, 411, 501]) (rs := [6, 40, 999]) (F := F)) rfl (by decide +kernel)
        exact hK hI38 g39
    · exact (B_dis cqb_1_1_1 cqb_0_0_0 hc (by decide +kernel)).elim
theorem h_Pa_writeSymbol_u4_x1i32 {a : Bool} {b : Bool} {P : Nat → Nat → Nat} {x1 : Int32} {x2 : Int32} {x3 : Int32} {F : cF} {L : cL} {K : cs → Prop} (hx : B 0 1 x1) (hI : IMc F) (hK : ∀ {Z : cF} {LZ : cL}, IMc Z → agc [410, 411, 501] [6, 34, 40, 999] F Z → K (Z, LZ, PC a b P)) : p_Pa_writeSymbol UL 4 (PC a b P 32 x1.toNatClampNeg) x2 x3 (F, L, PC a b P) K := by
  rcases sp_01 hx with rfl | rfl
  · exact h_Pa_writeSymbol_u4_x133 hI (fun hI g => hK hI (agc_tr agc_refl g (by decide +kernel) (by decide +kernel)))
  · exact h_Pa_writeSymbol_u4_x139 hI (fun hI g => hK hI (agc_tr agc_refl g (by decide +kernel) (by decide +kernel)))
set_option maxRecDepth 20000 in
set_option maxHeartbeats 4000000 in
theorem h_Pa_writeSymbol_u4_x146 {a : Bool} {b : Bool} {P : Nat → Nat → Nat} {x2 : Int32} {x3 : Int32} {F : cF} {L : cL} {K : cs → Prop} (hI : IMc F) (hK : ∀ {Z : cF} {LZ : cL}, IMc Z → agc [410, 411, 501] [6, 47, 999] F Z → K (Z, LZ, PC a b P)) : p_Pa_writeSymbol UL 4 46 x2 x3 (F, L, PC a b P) K := by
  unfold p_Pa_writeSymbol
  refine h_B_isWithin  (fun {v5_1} b2 r3 r4 => ?_)
  rcases sp_01 b2 with rfl | rfl
  · have r5 : ((0 : Int) = 0) ∨ ((0 ≤ x2.toInt) ∧ (x2.toInt ≤ 255)) := r3
    clear r3
    have r6 : ((0 : Int) = 1) ∨ ((x2.toInt < 0) ∨ (255 < x2.toInt)) := r4
    clear r4
    refine ⟨fun hc => ?_, fun hc => ?_⟩
    · exact (hc (B_z cqb_0_0_0)).elim
    · have i7 : (0 : Int32).toInt = (0 : Int32).toInt := congrArg Int32.toInt hc
      have n8 : (0 : Int32).toInt = 0 := cqn_0
      have n9 : (0 : Int32).toInt = 0 := cqn_0
      exact hK hI (agc_refl (fs := [410, 411, 501]) (rs := [6, 47, 999]) (F := F))
  · have r10 : ((1 : Int) = 0) ∨ ((0 ≤ x2.toInt) ∧ (x2.toInt ≤ 255)) := r3
    clear r3
    have r11 : ((1 : Int) = 1) ∨ ((x2.toInt < 0) ∨ (255 < x2.toInt)) := r4
    clear r4
    have b12 : B 0 255 (x2) := ⟨by omega, by omega⟩
    refine ⟨fun hc => ?_, fun hc => ?_⟩
    · have i13 : (1 : Int32).toInt ≠ (0 : Int32).toInt := i_ne hc
      have n14 : (1 : Int32).toInt = 1 := cqn_1
      have n15 : (0 : Int32).toInt = 0 := cqn_0
      refine ⟨fun hc => ?_, fun hc => ?_⟩
      · have b16 : B 0 0 (F 4 9) := B_w (B_eq hc cqb_0_0_0) (by decide +kernel) (by decide +kernel)
        have q17 : (0) ≤ (F 4 9).toInt ∧ (F 4 9).toInt ≤ (0) := (show B 0 0 (F 4 9) from B_w b16 (by decide +kernel) (by decide +kernel))
        have i18 : (F 4 9).toInt = (0 : Int32).toInt := congrArg Int32.toInt hc
        have n19 : (0 : Int32).toInt = 0 := cqn_0
        refine ⟨(show c_cl UL 46 = 5 from cl_46), ?_⟩
        refine ⟨(show ¬ ((49 : Nat) = NU) from by decide +kernel), ?_⟩
        refine ⟨(show c_cl UL 49 = 902 from cl_49), ?_⟩
        refine ⟨(show vp_in (x2) 256 from vp_B b12 (by decide +kernel) (by decide +kernel)), ?_⟩
        refine ⟨(show ¬ ((48 : Nat) = NU) from by decide +kernel), ?_⟩
        refine ⟨(show c_cl UL 48 = 902 from cl_48), ?_⟩
        refine ⟨(show vp_in (x2) 257 from vp_B b12 (by decide +kernel) (by decide +kernel)), ?_⟩
        refine h_Pa_writeBits_u4 hI (fun {FS49_20} {LFS49_20} hI21 g22 => ?_)
        refine ⟨fun hc => ?_, fun hc => ?_⟩
        · have hq23 := hc
          have b24 : B 0 2147483647 (x3) := B_w (B_leR cqb_0_0_0 (B_any _) hq23) (by decide +kernel) (by decide +kernel)
          unfold b_Pa_writeSymbol_69
          refine h_Pa_writeBits_u4 hI21 (fun {FS71_25} {LFS71_25} hI26 g27 => ?_)
          have g29 := agc_tr (agc_refl (fs := [410, 411, 501]) (rs := [6, 47, 999]) (F := F)) g22 (by decide +kernel) (by decide +kernel)
          have g28 := agc_tr g29 g27 (by decide +kernel) (by decide +kernel)
          exact hK hI26 g28
        · have hq30 := (nle_lt hc)
          have b31 : B (-2147483648) (-1) (x3) := B_w (B_ltL (B_any _) cqb_0_0_0 hq30) (by decide +kernel) (by decide +kernel)
          unfold b_Pa_writeSymbol_69
          refine h_Pa_writeBits_u4 hI21 (fun {FS71_32} {LFS71_32} hI33 g34 => ?_)
          have g36 := agc_tr (agc_refl (fs := [410, 411, 501]) (rs := [6, 47, 999]) (F := F)) g22 (by decide +kernel) (by decide +kernel)
          have g35 := agc_tr g36 g34 (by decide +kernel) (by decide +kernel)
          exact hK hI33 g35
      · have b37 : B 1 1 (F 4 9) := B_w (B_n0 (show B 0 1 (F 4 9) from hI 4 9) hc) (by decide +kernel) (by decide +kernel)
        refine ⟨(show c_cl UL 46 = 5 from cl_46), ?_⟩
        refine ⟨(show ¬ ((47 : Nat) = NU) from by decide +kernel), ?_⟩
        refine ⟨(show c_cl UL 47 = 902 from cl_47), ?_⟩
        refine ⟨(show vp_in (x2) 257 from vp_B b12 (by decide +kernel) (by decide +kernel)), ?_⟩
        refine ⟨(show vp_in (x2) 257 from vp_B b12 (by decide +kernel) (by decide +kernel)), ?_⟩
        have hI38 := IMc_u (u := 47) (i := x2.toNatClampNeg) (v := (F 47 x2.toNatClampNeg) + 1) hI (show B (-2147483648) 2147483647 ((F 47 x2.toNatClampNeg) + 1) from (B_w (B_any _) (by decide +kernel) (by decide +kernel)))
        have g39 := agc_r (u := 47) (w := upd (F 47) x2.toNatClampNeg ((F 47 x2.toNatClampNeg) + 1)) (agc_refl (fs := [410, 411, 501]) (rs := [6, 47, 999]) (F := F)) rfl (by decide +kernel)
        exact hK hI38 g39
    · exact (B_dis cqb_1_1_1 cqb_0_0_0 hc (by decide +kernel)).elim
set_option maxRecDepth 20000 in
set_option maxHeartbeats 4000000 in
theorem h_Pa_writeSymbol_u4_x152 {a : Bool} {b : Bool} {P : Nat → Nat → Nat} {x2 : Int32} {x3 : Int32} {F : cF} {L : cL} {K : cs → Prop} (hI : IMc F) (hK : ∀ {Z : cF} {LZ : cL}, IMc Z → agc [410, 411, 501] [6, 53, 999] F Z → K (Z, LZ, PC a b P)) : p_Pa_writeSymbol UL 4 52 x2 x3 (F, L, PC a b P) K := by
  unfold p_Pa_writeSymbol
  refine h_B_isWithin  (fun {v5_1} b2 r3 r4 => ?_)
  rcases sp_01 b2 with rfl | rfl
  · have r5 : ((0 : Int) = 0) ∨ ((0 ≤ x2.toInt) ∧ (x2.toInt ≤ 255)) := r3
    clear r3
    have r6 : ((0 : Int) = 1) ∨ ((x2.toInt < 0) ∨ (255 < x2.toInt)) := r4
    clear r4
    refine ⟨fun hc => ?_, fun hc => ?_⟩
    · exact (hc (B_z cqb_0_0_0)).elim
    · have i7 : (0 : Int32).toInt = (0 : Int32).toInt := congrArg Int32.toInt hc
      have n8 : (0 : Int32).toInt = 0 := cqn_0
      have n9 : (0 : Int32).toInt = 0 := cqn_0
      exact hK hI (agc_refl (fs := [410, 411, 501]) (rs := [6, 53, 999]) (F := F))
  · have r10 : ((1 : Int) = 0) ∨ ((0 ≤ x2.toInt) ∧ (x2.toInt ≤ 255)) := r3
    clear r3
    have r11 : ((1 : Int) = 1) ∨ ((x2.toInt < 0) ∨ (255 < x2.toInt)) := r4
    clear r4
    have b12 : B 0 255 (x2) := ⟨by omega, by omega⟩
    refine ⟨fun hc => ?_, fun hc => ?_⟩
    · have i13 : (1 : Int32).toInt ≠ (0 : Int32).toInt := i_ne hc
      have n14 : (1 : Int32).toInt = 1 := cqn_1
      have n15 : (0 : Int32).toInt = 0 := cqn_0
      refine ⟨fun hc => ?_, fun hc => ?_⟩
      · have b16 : B 0 0 (F 4 9) := B_w (B_eq hc cqb_0_0_0) (by decide +kernel) (by decide +kernel)
        have q17 : (0) ≤ (F 4 9).toInt ∧ (F 4 9).toInt ≤ (0) := (show B 0 0 (F 4 9) from B_w b16 (by decide +kernel) (by decide +kernel))
        have i18 : (F 4 9).toInt = (0 : Int32).toInt := congrArg Int32.toInt hc
        have n19 : (0 : Int32).toInt = 0 := cqn_0
        refine ⟨(show c_cl UL 52 = 5 from cl_52), ?_⟩
        refine ⟨(show ¬ ((55 : Nat) = NU) from by decide +kernel), ?_⟩
        refine ⟨(show c_cl UL 55 = 902 from cl_55), ?_⟩
        refine ⟨(show vp_in (x2) 256 from vp_B b12 (by decide +kernel) (by decide +kernel)), ?_⟩
        refine ⟨(show ¬ ((54 : Nat) = NU) from by decide +kernel), ?_⟩
        refine ⟨(show c_cl UL 54 = 902 from cl_54), ?_⟩
        refine ⟨(show vp_in (x2) 257 from vp_B b12 (by decide +kernel) (by decide +kernel)), ?_⟩
        refine h_Pa_writeBits_u4 hI (fun {FS49_20} {LFS49_20} hI21 g22 => ?_)
        refine ⟨fun hc => ?_, fun hc => ?_⟩
        · have hq23 := hc
          have b24 : B 0 2147483647 (x3) := B_w (B_leR cqb_0_0_0 (B_any _) hq23) (by decide +kernel) (by decide +kernel)
          unfold b_Pa_writeSymbol_69
          refine h_Pa_writeBits_u4 hI21 (fun {FS71_25} {LFS71_25} hI26 g27 => ?_)
          have g29 := agc_tr (agc_refl (fs := [410, 411, 501]) (rs := [6, 53, 999]) (F := F)) g22 (by decide +kernel) (by decide +kernel)
          have g28 := agc_tr g29 g27 (by decide +kernel) (by decide +kernel)
          exact hK hI26 g28
        · have hq30 := (nle_lt hc)
          have b31 : B (-2147483648) (-1) (x3) := B_w (B_ltL (B_any _) cqb_0_0_0 hq30) (by decide +kernel) (by decide +kernel)
          unfold b_Pa_writeSymbol_69
          refine h_Pa_writeBits_u4 hI21 (fun {FS71_32} {LFS71_32} hI33 g34 => ?_)
          have g36 := agc_tr (agc_refl (fs := [410, 411, 501]) (rs := [6, 53, 999]) (F := F)) g22 (by decide +kernel) (by decide +kernel)
          have g35 := agc_tr g36 g34 (by decide +kernel) (by decide +kernel)
          exact hK hI33 g35
      · have b37 : B 1 1 (F 4 9) := B_w (B_n0 (show B 0 1 (F 4 9) from hI 4 9) hc) (by decide +kernel) (by decide +kernel)
        refine ⟨(show c_cl UL 52 = 5 from cl_52), ?_⟩
        refine ⟨(show ¬ ((53 : Nat) = NU) from by decide +kernel), ?_⟩
        refine ⟨(show c_cl UL 53 = 902 from cl_53), ?_⟩
        refine ⟨(show vp_in (x2) 257 from vp_B b12 (by decide +kernel) (by decide +kernel)), ?_⟩
        refine ⟨(show vp_in (x2) 257 from vp_B b12 (by decide +kernel) (by decide +kernel)), ?_⟩
        have hI38 := IMc_u (u := 53) (i := x2.toNatClampNeg) (v := (F 53 x2.toNatClampNeg) + 1) hI (show B (-2147483648) 2147483647 ((F 53 x2.toNatClampNeg) + 1) from (B_w (B_any _) (by decide +kernel) (by decide +kernel)))
        have g39 := agc_r (u := 53) (w := upd (F 53) x2.toNatClampNeg ((F 53 x2.toNatClampNeg) + 1)) (agc_refl (fs := [410, 411, 501]) (rs := [6, 53, 999]) (F := F)) rfl (by decide +kernel)
        exact hK hI38 g39
    · exact (B_dis cqb_1_1_1 cqb_0_0_0 hc (by decide +kernel)).elim
theorem h_Pa_writeSymbol_u4_x1i45 {a : Bool} {b : Bool} {P : Nat → Nat → Nat} {x1 : Int32} {x2 : Int32} {x3 : Int32} {F : cF} {L : cL} {K : cs → Prop} (hx : B 0 1 x1) (hI : IMc F) (hK : ∀ {Z : cF} {LZ : cL}, IMc Z → agc [410, 411, 501] [6, 47, 53, 999] F Z → K (Z, LZ, PC a b P)) : p_Pa_writeSymbol UL 4 (PC a b P 45 x1.toNatClampNeg) x2 x3 (F, L, PC a b P) K := by
  rcases sp_01 hx with rfl | rfl
  · exact h_Pa_writeSymbol_u4_x146 hI (fun hI g => hK hI (agc_tr agc_refl g (by decide +kernel) (by decide +kernel)))
  · exact h_Pa_writeSymbol_u4_x152 hI (fun hI g => hK hI (agc_tr agc_refl g (by decide +kernel) (by decide +kernel)))
set_option maxRecDepth 20000 in
set_option maxHeartbeats 4000000 in
theorem h_Pa_writeBlock_u4 {a : Bool} {b : Bool} {P : Nat → Nat → Nat} {x1 : Int32} {F : cF} {L : cL} {K : cs → Prop} (b_x1 : B 0 191 x1) (hI : IMc F) (hK : ∀ {Z : cF} {LZ : cL}, IMc Z → agc [410, 411, 501] [6, 34, 40, 47, 53, 58, 999] F Z → K (Z, LZ, PC a b P)) : p_Pa_writeBlock UL 4 x1 (F, L, PC a b P) K := by
  unfold p_Pa_writeBlock
  refine ⟨(show ¬ ((12 : Nat) = NU) from by decide +kernel), ?_⟩
  refine ⟨(show c_cl UL 12 = 7 from cl_12), ?_⟩
  refine ⟨(show ¬ ((19 : Nat) = NU) from by decide +kernel), ?_⟩
  refine ⟨(show c_cl UL 19 = 902 from cl_19), ?_⟩
  refine ⟨(show vp_in (64 * x1) 12288 from vp_B (B_mul cqb_64_64_64 b_x1 (by decide +kernel) (by decide +kernel) (by decide +kernel)) (by decide +kernel) (by decide +kernel)), ?_⟩
  refine ⟨(show ¬ ((58 : Nat) = NU) from by decide +kernel), ?_⟩
  refine ⟨(show c_cl UL 58 = 902 from cl_58), ?_⟩
  refine ⟨(show vp_in (x1 / 64) 3 from vp_B (show B 0 2 (x1 / 64) from B_div2 b_x1 cqb_64_64_64 (by decide +kernel) (by decide +kernel) (by decide +kernel) (by decide +kernel)) (by decide +kernel) (by decide +kernel)), ?_⟩
  refine ⟨(show ¬ ((58 : Nat) = NU) from by decide +kernel), ?_⟩
  refine ⟨(show ¬ ((12 : Nat) = NU) from by decide +kernel), ?_⟩
  refine ⟨(show ¬ ((19 : Nat) = NU) from by decide +kernel), ?_⟩
  refine ⟨(show vp_in (64 * x1) 12288 from vp_B (B_mul cqb_64_64_64 b_x1 (by decide +kernel) (by decide +kernel) (by decide +kernel)) (by decide +kernel) (by decide +kernel)), ?_⟩
  refine ⟨(show vp_in (x1 / 64) 3 from vp_B (show B 0 2 (x1 / 64) from B_div2 b_x1 cqb_64_64_64 (by decide +kernel) (by decide +kernel) (by decide +kernel) (by decide +kernel)) (by decide +kernel) (by decide +kernel)), ?_⟩
  refine ⟨(show ¬ ((32 : Nat) = NU) from by decide +kernel), ?_⟩
  refine h_Pa_kindOf  (fun {v49_1} b2 => ?_)
  refine ⟨(show c_cl UL 32 = 950 from cl_32), ?_⟩
  refine ⟨(show vp_in (v49_1) 2 from vp_B b2 (by decide +kernel) (by decide +kernel)), ?_⟩
  refine ⟨(show ¬ ((PC a b P) 32 v49_1.toNatClampNeg = NU) from nu_32 b2), ?_⟩
  refine h_Pa_bitsOf  (fun {v55_3} b4 => ?_)
  have hI5 := IMc_u (u := 58) (i := (x1 / 64).toNatClampNeg) (v := F 19 (64 * x1).toNatClampNeg) hI (show B (-2147483648) 2147483647 (F 19 (64 * x1).toNatClampNeg) from (B_w (B_any _) (by decide +kernel) (by decide +kernel)))
  refine h_Pa_writeSymbol_u4_x1i32 b2 hI5 (fun {FS60_6} {LFS60_6} hI7 g8 => ?_)
  refine ⟨(show ¬ ((45 : Nat) = NU) from by decide +kernel), ?_⟩
  refine h_Pa_kindOf  (fun {v68_9} b10 => ?_)
  refine ⟨(show c_cl UL 45 = 950 from cl_45), ?_⟩
  refine ⟨(show vp_in (v68_9) 2 from vp_B b10 (by decide +kernel) (by decide +kernel)), ?_⟩
  refine ⟨(show ¬ ((PC a b P) 45 v68_9.toNatClampNeg = NU) from nu_45 b10), ?_⟩
  refine ⟨fun yx3 yx5 yx6 yx7 yS => (64 * x1) = yx3 ∧ ((PC a b P) 45 v68_9.toNatClampNeg) = yx5 ∧ B 0 64 yx6 ∧ B 1 64 yx7 ∧ ∃ (T15 : cF) (LT15 : cL), yS = (T15, LT15, PC a b P) ∧ IMc T15 ∧ agc [410, 411, 501] [6, 47, 53, 999] FS60_6 T15 ∧ (yx6.toInt < yx7.toInt), fun yx3 yx5 yx6 yx7 yS => (64 - yx7.toInt).toNat, ⟨rfl, rfl, (B_w cqb_0_0_0 (by decide +kernel) (by decide +kernel)), (B_w cqb_1_1_1 (by decide +kernel) (by decide +kernel)), _, _, rfl, hI7, (agc_refl (fs := [410, 411, 501]) (rs := [6, 47, 53, 999]) (F := FS60_6)), (by show (0 : Int) < 1; first | with_reducible assumption | omega)⟩, fun x3_11 x5_12 x6_13 x7_14 ST15 hIv => ?_⟩
  obtain ⟨rfl, rfl, b16, b17, T15, LT15, rfl, hI18, g19, r20⟩ := hIv
  suffices hs : ∀ (R80 : Int32 → Nat → Int32 → Int32 → cs → Prop), (∀ zx3 zx5 zx6 zx7 zS, ((64 * x1) = zx3 ∧ ((PC a b P) 45 v68_9.toNatClampNeg) = zx5 ∧ B 0 64 zx6 ∧ B 1 64 zx7 ∧ ∃ (T15 : cF) (LT15 : cL), zS = (T15, LT15, PC a b P) ∧ IMc T15 ∧ agc [410, 411, 501] [6, 47, 53, 999] FS60_6 T15 ∧ (zx6.toInt < zx7.toInt)) → (64 - zx7.toInt).toNat < (64 - x7_14.toInt).toNat → R80 zx3 zx5 zx6 zx7 zS) → b_Pa_writeBlock_80 UL 4 (64 * x1) ((PC a b P) 45 v68_9.toNatClampNeg) x6_13 x7_14 (T15, LT15, PC a b P) R80 K from hs _ (fun _ _ _ _ _ h1 h2 => ⟨h1, h2⟩)
  intro R80 hR800
  have hR80 := fun {zx3} {zx5} {zx6} {zx7} {zS} => hR800 zx3 zx5 zx6 zx7 zS
  have q21 : (0) ≤ (x6_13).toInt ∧ (x6_13).toInt ≤ (64) := (show B 0 64 (x6_13) from B_w b16 (by decide +kernel) (by decide +kernel))
  have q22 : (1) ≤ (x7_14).toInt ∧ (x7_14).toInt ≤ (64) := (show B 1 64 (x7_14) from B_w b17 (by decide +kernel) (by decide +kernel))
  unfold b_Pa_writeBlock_80
  refine ⟨fun hc => ?_, fun hc => ?_⟩
  · have hq23 := hc
    have b24 : B 64 64 (x7_14) := B_w (B_leR cqb_64_64_64 b17 hq23) (by decide +kernel) (by decide +kernel)
    have q25 : (64) ≤ (x7_14).toInt ∧ (x7_14).toInt ≤ (64) := (show B 64 64 (x7_14) from B_w b24 (by decide +kernel) (by decide +kernel))
    refine ⟨fun hc => ?_, fun hc => ?_⟩
    · have hq26 := hc
      have b27 : B 0 0 (x6_13) := B_w (B_leL b16 cqb_0_0_0 hq26) (by decide +kernel) (by decide +kernel)
      have q28 : (0) ≤ (x6_13).toInt ∧ (x6_13).toInt ≤ (0) := (show B 0 0 (x6_13) from B_w b27 (by decide +kernel) (by decide +kernel))
      unfold b_Pa_writeBlock_176
      have g31 := agc_r (u := 58) (w := upd (F 58) (x1 / 64).toNatClampNeg (F 19 (64 * x1).toNatClampNeg)) (agc_refl (fs := [410, 411, 501]) (rs := [6, 34, 40, 47, 53, 58, 999]) (F := F)) rfl (by decide +kernel)
      have g30 := agc_tr g31 g8 (by decide +kernel) (by decide +kernel)
      have g29 := agc_tr g30 g19 (by decide +kernel) (by decide +kernel)
      exact hK hI18 g29
    · have hq32 := (nle_lt hc)
      have b33 : B 1 64 (x6_13) := B_w (B_ltR cqb_0_0_0 b16 hq32) (by decide +kernel) (by decide +kernel)
      have q34 : (1) ≤ (x6_13).toInt ∧ (x6_13).toInt ≤ (64) := (show B 1 64 (x6_13) from B_w b33 (by decide +kernel) (by decide +kernel))
      refine h_Pa_writeSymbol_u4_x1i45 b10 hI18 (fun {FS173_35} {LFS173_35} hI36 g37 => ?_)
      unfold b_Pa_writeBlock_176
      have g41 := agc_r (u := 58) (w := upd (F 58) (x1 / 64).toNatClampNeg (F 19 (64 * x1).toNatClampNeg)) (agc_refl (fs := [410, 411, 501]) (rs := [6, 34, 40, 47, 53, 58, 999]) (F := F)) rfl (by decide +kernel)
      have g40 := agc_tr g41 g8 (by decide +kernel) (by decide +kernel)
      have g39 := agc_tr g40 g19 (by decide +kernel) (by decide +kernel)
      have g38 := agc_tr g39 g37 (by decide +kernel) (by decide +kernel)
      exact hK hI36 g38
  · have hq42 := (nle_lt hc)
    have b43 : B 1 63 (x7_14) := B_w (B_ltL b17 cqb_64_64_64 hq42) (by decide +kernel) (by decide +kernel)
    have q44 : (1) ≤ (x7_14).toInt ∧ (x7_14).toInt ≤ (63) := (show B 1 63 (x7_14) from B_w b43 (by decide +kernel) (by decide +kernel))
    refine ⟨(show ¬ ((12 : Nat) = NU) from by decide +kernel), ?_⟩
    refine ⟨(show c_cl UL 12 = 7 from cl_12), ?_⟩
    refine ⟨(show ¬ ((19 : Nat) = NU) from by decide +kernel), ?_⟩
    refine ⟨(show c_cl UL 19 = 902 from cl_19), ?_⟩
    refine ⟨(show vp_in ((64 * x1) + x7_14) 12288 from vp_B (B_add (B_mul cqb_64_64_64 b_x1 (by decide +kernel) (by decide +kernel) (by decide +kernel)) b43 (by decide +kernel) (by decide +kernel)) (by decide +kernel) (by decide +kernel)), ?_⟩
    refine ⟨fun hc => ?_, fun hc => ?_⟩
    · have e45 : (T15 19 ((64 * x1) + x7_14).toNatClampNeg).toInt = (F 19 ((64 * x1) + x7_14).toNatClampNeg).toInt := (congrArg Int32.toInt ((congrFun (g19.2 19 rfl rfl) ((64 * x1) + x7_14).toNatClampNeg).trans (congrFun (g8.2 19 rfl rfl) ((64 * x1) + x7_14).toNatClampNeg))).trans rfl
      have i46 : (T15 19 ((64 * x1) + x7_14).toNatClampNeg).toInt ≠ (0 : Int32).toInt := i_ne hc
      have n47 : (0 : Int32).toInt = 0 := cqn_0
      refine ⟨fun yx3 yx5 yx6 yx7 yx8 yS => (64 * x1) = yx3 ∧ ((PC a b P) 45 v68_9.toNatClampNeg) = yx5 ∧ x7_14 = yx7 ∧ (T15 19 ((64 * x1) + x7_14).toNatClampNeg) = yx8 ∧ B 0 63 yx6 ∧ ∃ (T53 : cF) (LT53 : cL), yS = (T53, LT53, PC a b P) ∧ IMc T53 ∧ agc [410, 411, 501] [6, 47, 53, 999] T15 T53, fun yx3 yx5 yx6 yx7 yx8 yS => yx6.toInt.toNat, ⟨rfl, rfl, rfl, rfl, (show B 0 63 (x6_13) from ⟨by omega, by omega⟩), _, _, rfl, hI18, (agc_refl (fs := [410, 411, 501]) (rs := [6, 47, 53, 999]) (F := T15))⟩, fun x3_48 x5_49 x6_50 x7_51 x8_52 ST53 hIv => ?_⟩
      obtain ⟨rfl, rfl, rfl, rfl, b54, T53, LT53, rfl, hI55, g56⟩ := hIv
      suffices hs : ∀ (R112 : Int32 → Nat → Int32 → Int32 → Int32 → cs → Prop), (∀ zx3 zx5 zx6 zx7 zx8 zS, ((64 * x1) = zx3 ∧ ((PC a b P) 45 v68_9.toNatClampNeg) = zx5 ∧ x7_14 = zx7 ∧ (T15 19 ((64 * x1) + x7_14).toNatClampNeg) = zx8 ∧ B 0 63 zx6 ∧ ∃ (T53 : cF) (LT53 : cL), zS = (T53, LT53, PC a b P) ∧ IMc T53 ∧ agc [410, 411, 501] [6, 47, 53, 999] T15 T53) → zx6.toInt.toNat < x6_50.toInt.toNat → R112 zx3 zx5 zx6 zx7 zx8 zS) → b_Pa_writeBlock_112 UL 4 (64 * x1) ((PC a b P) 45 v68_9.toNatClampNeg) x6_50 x7_14 (T15 19 ((64 * x1) + x7_14).toNatClampNeg) (T53, LT53, PC a b P) R80 R112 K from hs _ (fun _ _ _ _ _ _ h1 h2 => ⟨h1, h2⟩)
      intro R112 hR1120
      have hR112 := fun {zx3} {zx5} {zx6} {zx7} {zx8} {zS} => hR1120 zx3 zx5 zx6 zx7 zx8 zS
      unfold b_Pa_writeBlock_112
      refine ⟨fun hc => ?_, fun hc => ?_⟩
      · have hq57 := hc
        have b58 : B 0 15 (x6_50) := B_w (B_ltL b54 cqb_16_16_16 hq57) (by decide +kernel) (by decide +kernel)
        refine h_Pa_bitsOf  (fun {v145_59} b60 => ?_)
        refine h_Pa_writeSymbol_u4_x1i45 b10 hI55 (fun {FS151_61} {LFS151_61} hI62 g63 => ?_)
        unfold b_Pa_writeBlock_157
        have g66 := agc_tr (agc_refl (fs := [410, 411, 501]) (rs := [6, 47, 53, 999]) (F := FS60_6)) g19 (by decide +kernel) (by decide +kernel)
        have g65 := agc_tr g66 g56 (by decide +kernel) (by decide +kernel)
        have g64 := agc_tr g65 g63 (by decide +kernel) (by decide +kernel)
        have e67 : (x7_14 + 1).toInt = ((x7_14).toInt + 1) := (t_add b43 cqb_1_1_1 (by decide +kernel) (by decide +kernel)).trans (by rw [cqn_1])
        have q68 : (2) ≤ (x7_14 + 1).toInt ∧ (x7_14 + 1).toInt ≤ (64) := (show B 2 64 (x7_14 + 1) from B_w (B_add b43 cqb_1_1_1 (by decide +kernel) (by decide +kernel)) (by decide +kernel) (by decide +kernel))
        exact hR80 ⟨rfl, rfl, (B_w cqb_0_0_0 (by decide +kernel) (by decide +kernel)), (B_w (B_add b43 cqb_1_1_1 (by decide +kernel) (by decide +kernel)) (by decide +kernel) (by decide +kernel)), _, _, rfl, hI62, g64, (by show 0 < (x7_14 + 1).toInt; first | with_reducible assumption | omega)⟩ (by show (64 - (x7_14 + 1).toInt).toNat < (64 - x7_14.toInt).toNat; omega)
      · have hq69 := (nlt_le hc)
        have b70 : B 16 63 (x6_50) := B_w (B_leR cqb_16_16_16 b54 hq69) (by decide +kernel) (by decide +kernel)
        refine h_Pa_writeSymbol_u4_x1i45 b10 hI55 (fun {FS126_71} {LFS126_71} hI72 g73 => ?_)
        have g75 := agc_tr (agc_refl (fs := [410, 411, 501]) (rs := [6, 47, 53, 999]) (F := T15)) g56 (by decide +kernel) (by decide +kernel)
        have g74 := agc_tr g75 g73 (by decide +kernel) (by decide +kernel)
        have q76 : (16) ≤ (x6_50).toInt ∧ (x6_50).toInt ≤ (63) := (show B 16 63 (x6_50) from B_w b70 (by decide +kernel) (by decide +kernel))
        have e77 : (x6_50 + (-16)).toInt = ((x6_50).toInt + (-16)) := (t_add b70 cqb_m16_m16_m16 (by decide +kernel) (by decide +kernel)).trans (by rw [cqn_m16])
        have q78 : (0) ≤ (x6_50 + (-16)).toInt ∧ (x6_50 + (-16)).toInt ≤ (47) := (show B 0 47 (x6_50 + (-16)) from B_w (B_add b70 cqb_m16_m16_m16 (by decide +kernel) (by decide +kernel)) (by decide +kernel) (by decide +kernel))
        exact hR112 ⟨rfl, rfl, rfl, rfl, (B_w (B_add b70 cqb_m16_m16_m16 (by decide +kernel) (by decide +kernel)) (by decide +kernel) (by decide +kernel)), _, _, rfl, hI72, g74⟩ (by show (x6_50 + (-16)).toInt.toNat < x6_50.toInt.toNat; revert e77 q78; generalize (x6_50 + (-16)).toInt = dd0; intros; omega)
    · have b79 : B 0 0 (F 19 ((64 * x1) + x7_14).toNatClampNeg) := B_w (B_eq (Eq.symm ((congrFun (g19.2 19 rfl rfl) ((64 * x1) + x7_14).toNatClampNeg).trans (congrFun (g8.2 19 rfl rfl) ((64 * x1) + x7_14).toNatClampNeg))) (B_eq hc cqb_0_0_0)) (by decide +kernel) (by decide +kernel)
      have q80 : (0) ≤ (F 19 ((64 * x1) + x7_14).toNatClampNeg).toInt ∧ (F 19 ((64 * x1) + x7_14).toNatClampNeg).toInt ≤ (0) := (show B 0 0 (F 19 ((64 * x1) + x7_14).toNatClampNeg) from B_w b79 (by decide +kernel) (by decide +kernel))
      have e81 : (T15 19 ((64 * x1) + x7_14).toNatClampNeg).toInt = (F 19 ((64 * x1) + x7_14).toNatClampNeg).toInt := (congrArg Int32.toInt ((congrFun (g19.2 19 rfl rfl) ((64 * x1) + x7_14).toNatClampNeg).trans (congrFun (g8.2 19 rfl rfl) ((64 * x1) + x7_14).toNatClampNeg))).trans rfl
      have i82 : (T15 19 ((64 * x1) + x7_14).toNatClampNeg).toInt = (0 : Int32).toInt := congrArg Int32.toInt hc
      have n83 : (0 : Int32).toInt = 0 := cqn_0
      unfold b_Pa_writeBlock_157
      have e84 : (x6_13 + 1).toInt = ((x6_13).toInt + 1) := (t_add b16 cqb_1_1_1 (by decide +kernel) (by decide +kernel)).trans (by rw [cqn_1])
      have q85 : (1) ≤ (x6_13 + 1).toInt ∧ (x6_13 + 1).toInt ≤ (65) := (show B 1 65 (x6_13 + 1) from B_w (B_add b16 cqb_1_1_1 (by decide +kernel) (by decide +kernel)) (by decide +kernel) (by decide +kernel))
      have g86 := agc_tr (agc_refl (fs := [410, 411, 501]) (rs := [6, 47, 53, 999]) (F := FS60_6)) g19 (by decide +kernel) (by decide +kernel)
      have e87 : (x7_14 + 1).toInt = ((x7_14).toInt + 1) := (t_add b43 cqb_1_1_1 (by decide +kernel) (by decide +kernel)).trans (by rw [cqn_1])
      have q88 : (2) ≤ (x7_14 + 1).toInt ∧ (x7_14 + 1).toInt ≤ (64) := (show B 2 64 (x7_14 + 1) from B_w (B_add b43 cqb_1_1_1 (by decide +kernel) (by decide +kernel)) (by decide +kernel) (by decide +kernel))
      exact hR80 ⟨rfl, rfl, (show B 0 64 (x6_13 + 1) from ⟨by omega, by omega⟩), (B_w (B_add b43 cqb_1_1_1 (by decide +kernel) (by decide +kernel)) (by decide +kernel) (by decide +kernel)), _, _, rfl, hI18, g86, (by show (x6_13 + 1).toInt < (x7_14 + 1).toInt; first | with_reducible assumption | omega)⟩ (by show (64 - (x7_14 + 1).toInt).toNat < (64 - x7_14.toInt).toNat; omega)
set_option maxRecDepth 20000 in
set_option maxHeartbeats 4000000 in
theorem h_Pa_writeData_u4 {a : Bool} {b : Bool} {P : Nat → Nat → Nat} {x1 : Int32} {F : cF} {L : cL} {K : cs → Prop} (b_x1 : B 0 65535 x1) (hI : IMc F) (pre0 : UPs 22 F) (hK : ∀ {Z : cF} {LZ : cL}, IMc Z → agc [410, 411, 501] [6, 34, 40, 47, 53, 58, 999] F Z → K (Z, LZ, PC a b P)) : p_Pa_writeData UL 4 x1 (F, L, PC a b P) K := by
  unfold p_Pa_writeData
  refine ⟨(show ¬ ((58 : Nat) = NU) from by decide +kernel), ?_⟩
  refine h_Ar_fillI_x058_x10 hI (fun {FS5_1} {LFS5_1} hI2 g3 => ?_)
  refine ⟨fun yx1 yx2 yx3 yS => x1 = yx1 ∧ B 0 193 yx2 ∧ B 0 192 yx3 ∧ ∃ (T7 : cF) (LT7 : cL), yS = (T7, LT7, PC a b P) ∧ IMc T7 ∧ agc [410, 411, 501] [6, 34, 40, 47, 53, 58, 999] FS5_1 T7 ∧ (UPs 22 T7) ∧ (yx2.toInt ≤ yx3.toInt), fun yx1 yx2 yx3 yS => (192 - yx3.toInt).toNat, ⟨rfl, (B_w cqb_0_0_0 (by decide +kernel) (by decide +kernel)), (B_w cqb_0_0_0 (by decide +kernel) (by decide +kernel)), _, _, rfl, hI2, (agc_refl (fs := [410, 411, 501]) (rs := [6, 34, 40, 47, 53, 58, 999]) (F := FS5_1)), (UPs_tr (F := F) (G := FS5_1) pre0 (g3.1 22 5 rfl rfl) (g3.1 22 4 rfl rfl) (g3.1 22 6 rfl rfl)), (by show (0 : Int) ≤ 0; first | with_reducible assumption | omega)⟩, fun x1_4 x2_5 x3_6 ST7 hIv => ?_⟩
  obtain ⟨rfl, b8, b9, T7, LT7, rfl, hI10, g11, r12, r13⟩ := hIv
  suffices hs : ∀ (R12 : Int32 → Int32 → Int32 → cs → Prop), (∀ zx1 zx2 zx3 zS, (x1 = zx1 ∧ B 0 193 zx2 ∧ B 0 192 zx3 ∧ ∃ (T7 : cF) (LT7 : cL), zS = (T7, LT7, PC a b P) ∧ IMc T7 ∧ agc [410, 411, 501] [6, 34, 40, 47, 53, 58, 999] FS5_1 T7 ∧ (UPs 22 T7) ∧ (zx2.toInt ≤ zx3.toInt)) → (192 - zx3.toInt).toNat < (192 - x3_6.toInt).toNat → R12 zx1 zx2 zx3 zS) → b_Pa_writeData_12 UL 4 x1 x2_5 x3_6 (T7, LT7, PC a b P) R12 K from hs _ (fun _ _ _ _ h1 h2 => ⟨h1, h2⟩)
  intro R12 hR120
  have hR12 := fun {zx1} {zx2} {zx3} {zS} => hR120 zx1 zx2 zx3 zS
  have q14 : (0) ≤ (x2_5).toInt ∧ (x2_5).toInt ≤ (193) := (show B 0 193 (x2_5) from B_w b8 (by decide +kernel) (by decide +kernel))
  have q15 : (0) ≤ (x3_6).toInt ∧ (x3_6).toInt ≤ (192) := (show B 0 192 (x3_6) from B_w b9 (by decide +kernel) (by decide +kernel))
  unfold b_Pa_writeData_12
  refine ⟨(show ¬ ((22 : Nat) = NU) from by decide +kernel), ?_⟩
  refine ⟨(show c_cl UL 22 = 10 from cl_22), ?_⟩
  refine ⟨fun hc => ?_, fun hc => ?_⟩
  · have hq16 := hc
    have q17 : (0) ≤ (F 22 4).toInt ∧ (F 22 4).toInt ≤ (192) := (show B 0 192 (F 22 4) from hI 22 4)
    have e18 : (T7 22 4).toInt = (F 22 4).toInt := (congrArg Int32.toInt ((g11.1 22 4 rfl rfl).trans (g3.1 22 4 rfl rfl))).trans rfl
    have i19 : (T7 22 4).toInt ≤ (x3_6).toInt := i_le hq16
    refine h_Pa_fillByte_u4 hI10 (fun {FS104_20} {LFS104_20} hI21 g22 => ?_)
    have g25 := agc_tr (agc_refl (fs := [410, 411, 501]) (rs := [6, 34, 40, 47, 53, 58, 999]) (F := F)) g3 (by decide +kernel) (by decide +kernel)
    have g24 := agc_tr g25 g11 (by decide +kernel) (by decide +kernel)
    have g23 := agc_tr g24 g22 (by decide +kernel) (by decide +kernel)
    exact hK hI21 g23
  · have hq26 := (nle_lt hc)
    have b27 : B 0 191 (x3_6) := B_w (B_ltL b9 (B_eq ((g11.1 22 4 rfl rfl).trans (g3.1 22 4 rfl rfl)) (show B 0 192 (F 22 4) from hI 22 4)) hq26) (by decide +kernel) (by decide +kernel)
    have q28 : (0) ≤ (x3_6).toInt ∧ (x3_6).toInt ≤ (191) := (show B 0 191 (x3_6) from B_w b27 (by decide +kernel) (by decide +kernel))
    have b29 : B 1 192 (F 22 4) := B_w (B_eq (Eq.symm ((g11.1 22 4 rfl rfl).trans (g3.1 22 4 rfl rfl))) (B_ltR b9 (B_eq ((g11.1 22 4 rfl rfl).trans (g3.1 22 4 rfl rfl)) (show B 0 192 (F 22 4) from hI 22 4)) hq26)) (by decide +kernel) (by decide +kernel)
    have q30 : (1) ≤ (F 22 4).toInt ∧ (F 22 4).toInt ≤ (192) := (show B 1 192 (F 22 4) from B_w b29 (by decide +kernel) (by decide +kernel))
    have e31 : (T7 22 4).toInt = (F 22 4).toInt := (congrArg Int32.toInt ((g11.1 22 4 rfl rfl).trans (g3.1 22 4 rfl rfl))).trans rfl
    have i32 : (x3_6).toInt < (T7 22 4).toInt := i_lt hq26
    have hj33 : ∀ {x2_34 : Int32} {T35 : cF} {LT35 : cL}, B 0 194 x2_34 → IMc T35 → agc [410, 411, 501] [6, 58, 999] T7 T35 → (UPs 22 T35) → (x3_6.toInt < (T35 22 4).toInt) → (x2_34.toInt ≤ (x3_6.toInt + 1)) → b_Pa_writeData_52 UL 4 x1 x2_34 x3_6 (T35, LT35, PC a b P) R12 K := by
      intro x2_34 T35 LT35 b36 hI37 g38 r39 r40 r41
      have e42 : (T35 22 4).toInt = (F 22 4).toInt := (congrArg Int32.toInt (((g38.1 22 4 rfl rfl).trans (g11.1 22 4 rfl rfl)).trans (g3.1 22 4 rfl rfl))).trans rfl
      have q43 : (0) ≤ (x2_34).toInt ∧ (x2_34).toInt ≤ (194) := (show B 0 194 (x2_34) from B_w b36 (by decide +kernel) (by decide +kernel))
      unfold b_Pa_writeData_52
      refine ⟨fun yx1 yx2 yx3 yx4 yS => x1 = yx1 ∧ x2_34 = yx2 ∧ x3_6 = yx3 ∧ B 0 12 yx4 ∧ ∃ (T48 : cF) (LT48 : cL), yS = (T48, LT48, PC a b P) ∧ IMc T48 ∧ agc [410, 411, 501] [6, 34, 40, 47, 53, 58, 999] T35 T48 ∧ (UPs 22 T48) ∧ (yx3.toInt < (T48 22 4).toInt), fun yx1 yx2 yx3 yx4 yS => (12 - yx4.toInt).toNat, ⟨rfl, rfl, rfl, (B_w cqb_0_0_0 (by decide +kernel) (by decide +kernel)), _, _, rfl, hI37, (agc_refl (fs := [410, 411, 501]) (rs := [6, 34, 40, 47, 53, 58, 999]) (F := T35)), (UPs_tr (F := T35) (G := T35) r39 (Eq.trans (((g38.1 22 5 rfl rfl).trans (g11.1 22 5 rfl rfl)).trans (g3.1 22 5 rfl rfl)) (Eq.symm (((g38.1 22 5 rfl rfl).trans (g11.1 22 5 rfl rfl)).trans (g3.1 22 5 rfl rfl)))) (Eq.trans (((g38.1 22 4 rfl rfl).trans (g11.1 22 4 rfl rfl)).trans (g3.1 22 4 rfl rfl)) (Eq.symm (((g38.1 22 4 rfl rfl).trans (g11.1 22 4 rfl rfl)).trans (g3.1 22 4 rfl rfl)))) (Eq.trans (((g38.1 22 6 rfl rfl).trans (g11.1 22 6 rfl rfl)).trans (g3.1 22 6 rfl rfl)) (Eq.symm (((g38.1 22 6 rfl rfl).trans (g11.1 22 6 rfl rfl)).trans (g3.1 22 6 rfl rfl))))), (by show x3_6.toInt < (T35 22 4).toInt; first | with_reducible assumption | omega)⟩, fun x1_44 x2_45 x3_46 x4_47 ST48 hIv => ?_⟩
      obtain ⟨rfl, rfl, rfl, b49, T48, LT48, rfl, hI50, g51, r52, r53⟩ := hIv
      suffices hs : ∀ (R55 : Int32 → Int32 → Int32 → Int32 → cs → Prop), (∀ zx1 zx2 zx3 zx4 zS, (x1 = zx1 ∧ x2_34 = zx2 ∧ x3_6 = zx3 ∧ B 0 12 zx4 ∧ ∃ (T48 : cF) (LT48 : cL), zS = (T48, LT48, PC a b P) ∧ IMc T48 ∧ agc [410, 411, 501] [6, 34, 40, 47, 53, 58, 999] T35 T48 ∧ (UPs 22 T48) ∧ (zx3.toInt < (T48 22 4).toInt)) → (12 - zx4.toInt).toNat < (12 - x4_47.toInt).toNat → R55 zx1 zx2 zx3 zx4 zS) → b_Pa_writeData_55 UL 4 x1 x2_34 x3_6 x4_47 (T48, LT48, PC a b P) R12 R55 K from hs _ (fun _ _ _ _ _ h1 h2 => ⟨h1, h2⟩)
      intro R55 hR550
      have hR55 := fun {zx1} {zx2} {zx3} {zx4} {zS} => hR550 zx1 zx2 zx3 zx4 zS
      have e54 : (T48 22 4).toInt = (F 22 4).toInt := (congrArg Int32.toInt ((((g51.1 22 4 rfl rfl).trans (g38.1 22 4 rfl rfl)).trans (g11.1 22 4 rfl rfl)).trans (g3.1 22 4 rfl rfl))).trans rfl
      unfold b_Pa_writeData_55
      refine ⟨(show ¬ ((22 : Nat) = NU) from by decide +kernel), ?_⟩
      refine ⟨(show c_cl UL 22 = 10 from cl_22), ?_⟩
      refine ⟨fun hc => ?_, fun hc => ?_⟩
      · have hq55 := hc
        have q56 : (0) ≤ (F 22 5).toInt ∧ (F 22 5).toInt ≤ (12) := (show B 0 12 (F 22 5) from hI 22 5)
        have e57 : (T48 22 5).toInt = (F 22 5).toInt := (congrArg Int32.toInt ((((g51.1 22 5 rfl rfl).trans (g38.1 22 5 rfl rfl)).trans (g11.1 22 5 rfl rfl)).trans (g3.1 22 5 rfl rfl))).trans rfl
        have q58 : (0) ≤ (x4_47).toInt ∧ (x4_47).toInt ≤ (12) := (show B 0 12 (x4_47) from B_w b49 (by decide +kernel) (by decide +kernel))
        have i59 : (T48 22 5).toInt ≤ (x4_47).toInt := i_le hq55
        have g62 := agc_tr (agc_refl (fs := [410, 411, 501]) (rs := [6, 34, 40, 47, 53, 58, 999]) (F := FS5_1)) g11 (by decide +kernel) (by decide +kernel)
        have g61 := agc_tr g62 g38 (by decide +kernel) (by decide +kernel)
        have g60 := agc_tr g61 g51 (by decide +kernel) (by decide +kernel)
        have e63 : (x3_6 + 1).toInt = ((x3_6).toInt + 1) := (t_add b27 cqb_1_1_1 (by decide +kernel) (by decide +kernel)).trans (by rw [cqn_1])
        have q64 : (1) ≤ (x3_6 + 1).toInt ∧ (x3_6 + 1).toInt ≤ (192) := (show B 1 192 (x3_6 + 1) from B_w (B_add b27 cqb_1_1_1 (by decide +kernel) (by decide +kernel)) (by decide +kernel) (by decide +kernel))
        exact hR12 ⟨rfl, (show B 0 193 (x2_34) from ⟨by omega, by omega⟩), (B_w (B_add b27 cqb_1_1_1 (by decide +kernel) (by decide +kernel)) (by decide +kernel) (by decide +kernel)), _, _, rfl, hI50, g60, (UPs_tr (F := T48) (G := T48) r52 (Eq.trans ((((g51.1 22 5 rfl rfl).trans (g38.1 22 5 rfl rfl)).trans (g11.1 22 5 rfl rfl)).trans (g3.1 22 5 rfl rfl)) (Eq.symm ((((g51.1 22 5 rfl rfl).trans (g38.1 22 5 rfl rfl)).trans (g11.1 22 5 rfl rfl)).trans (g3.1 22 5 rfl rfl)))) (Eq.trans ((((g51.1 22 4 rfl rfl).trans (g38.1 22 4 rfl rfl)).trans (g11.1 22 4 rfl rfl)).trans (g3.1 22 4 rfl rfl)) (Eq.symm ((((g51.1 22 4 rfl rfl).trans (g38.1 22 4 rfl rfl)).trans (g11.1 22 4 rfl rfl)).trans (g3.1 22 4 rfl rfl)))) (Eq.trans ((((g51.1 22 6 rfl rfl).trans (g38.1 22 6 rfl rfl)).trans (g11.1 22 6 rfl rfl)).trans (g3.1 22 6 rfl rfl)) (Eq.symm ((((g51.1 22 6 rfl rfl).trans (g38.1 22 6 rfl rfl)).trans (g11.1 22 6 rfl rfl)).trans (g3.1 22 6 rfl rfl))))), (by show x2_34.toInt ≤ (x3_6 + 1).toInt; first | with_reducible assumption | omega)⟩ (by show (192 - (x3_6 + 1).toInt).toNat < (192 - x3_6.toInt).toNat; omega)
      · have hq65 := (nle_lt hc)
        have b66 : B 0 11 (x4_47) := B_w (B_ltL b49 (B_eq ((((g51.1 22 5 rfl rfl).trans (g38.1 22 5 rfl rfl)).trans (g11.1 22 5 rfl rfl)).trans (g3.1 22 5 rfl rfl)) (show B 0 12 (F 22 5) from hI 22 5)) hq65) (by decide +kernel) (by decide +kernel)
        have b67 : B 1 12 (F 22 5) := B_w (B_eq (Eq.symm ((((g51.1 22 5 rfl rfl).trans (g38.1 22 5 rfl rfl)).trans (g11.1 22 5 rfl rfl)).trans (g3.1 22 5 rfl rfl))) (B_ltR b49 (B_eq ((((g51.1 22 5 rfl rfl).trans (g38.1 22 5 rfl rfl)).trans (g11.1 22 5 rfl rfl)).trans (g3.1 22 5 rfl rfl)) (show B 0 12 (F 22 5) from hI 22 5)) hq65)) (by decide +kernel) (by decide +kernel)
        have q68 : (0) ≤ (x4_47).toInt ∧ (x4_47).toInt ≤ (11) := (show B 0 11 (x4_47) from B_w b66 (by decide +kernel) (by decide +kernel))
        have q69 : (1) ≤ (F 22 5).toInt ∧ (F 22 5).toInt ≤ (12) := (show B 1 12 (F 22 5) from B_w b67 (by decide +kernel) (by decide +kernel))
        have e70 : (T48 22 5).toInt = (F 22 5).toInt := (congrArg Int32.toInt ((((g51.1 22 5 rfl rfl).trans (g38.1 22 5 rfl rfl)).trans (g11.1 22 5 rfl rfl)).trans (g3.1 22 5 rfl rfl))).trans rfl
        have i71 : (x4_47).toInt < (T48 22 5).toInt := i_lt hq65
        refine ⟨(show ¬ ((22 : Nat) = NU) from by decide +kernel), ?_⟩
        refine ⟨(show ¬ ((26 : Nat) = NU) from by decide +kernel), ?_⟩
        refine ⟨(show ¬ ((22 : Nat) = NU) from by decide +kernel), ?_⟩
        refine ⟨(show c_cl UL 26 = 902 from cl_26), ?_⟩
        have kx73 : 0 ≤ (((T48 22 5) * x3_6) + x4_47).toInt ∧ (((T48 22 5) * x3_6) + x4_47).toInt < (T48 22 6).toInt := ix_L (u := 22) (F := T48) (UPs_tr (F := T48) (G := T48) r52 (Eq.trans ((((g51.1 22 5 rfl rfl).trans (g38.1 22 5 rfl rfl)).trans (g11.1 22 5 rfl rfl)).trans (g3.1 22 5 rfl rfl)) (Eq.symm ((((g51.1 22 5 rfl rfl).trans (g38.1 22 5 rfl rfl)).trans (g11.1 22 5 rfl rfl)).trans (g3.1 22 5 rfl rfl)))) (Eq.trans ((((g51.1 22 4 rfl rfl).trans (g38.1 22 4 rfl rfl)).trans (g11.1 22 4 rfl rfl)).trans (g3.1 22 4 rfl rfl)) (Eq.symm ((((g51.1 22 4 rfl rfl).trans (g38.1 22 4 rfl rfl)).trans (g11.1 22 4 rfl rfl)).trans (g3.1 22 4 rfl rfl)))) (Eq.trans ((((g51.1 22 6 rfl rfl).trans (g38.1 22 6 rfl rfl)).trans (g11.1 22 6 rfl rfl)).trans (g3.1 22 6 rfl rfl)) (Eq.symm ((((g51.1 22 6 rfl rfl).trans (g38.1 22 6 rfl rfl)).trans (g11.1 22 6 rfl rfl)).trans (g3.1 22 6 rfl rfl))))) (B_w (B_eq ((((g51.1 22 5 rfl rfl).trans (g38.1 22 5 rfl rfl)).trans (g11.1 22 5 rfl rfl)).trans (g3.1 22 5 rfl rfl)) b67) (by decide +kernel) (by decide +kernel)) (B_w b27 (by decide +kernel) (by decide +kernel)) (B_w b66 (by decide +kernel) (by decide +kernel)) (by omega) (by omega)
        have b72 : B 0 191 (((T48 22 5) * x3_6) + x4_47) := ix_B (u := 22) (F := T48) (UPs_tr (F := T48) (G := T48) r52 (Eq.trans ((((g51.1 22 5 rfl rfl).trans (g38.1 22 5 rfl rfl)).trans (g11.1 22 5 rfl rfl)).trans (g3.1 22 5 rfl rfl)) (Eq.symm ((((g51.1 22 5 rfl rfl).trans (g38.1 22 5 rfl rfl)).trans (g11.1 22 5 rfl rfl)).trans (g3.1 22 5 rfl rfl)))) (Eq.trans ((((g51.1 22 4 rfl rfl).trans (g38.1 22 4 rfl rfl)).trans (g11.1 22 4 rfl rfl)).trans (g3.1 22 4 rfl rfl)) (Eq.symm ((((g51.1 22 4 rfl rfl).trans (g38.1 22 4 rfl rfl)).trans (g11.1 22 4 rfl rfl)).trans (g3.1 22 4 rfl rfl)))) (Eq.trans ((((g51.1 22 6 rfl rfl).trans (g38.1 22 6 rfl rfl)).trans (g11.1 22 6 rfl rfl)).trans (g3.1 22 6 rfl rfl)) (Eq.symm ((((g51.1 22 6 rfl rfl).trans (g38.1 22 6 rfl rfl)).trans (g11.1 22 6 rfl rfl)).trans (g3.1 22 6 rfl rfl))))) (B_w (B_eq ((((g51.1 22 5 rfl rfl).trans (g38.1 22 5 rfl rfl)).trans (g11.1 22 5 rfl rfl)).trans (g3.1 22 5 rfl rfl)) b67) (by decide +kernel) (by decide +kernel)) (B_w (B_eq ((((g51.1 22 6 rfl rfl).trans (g38.1 22 6 rfl rfl)).trans (g11.1 22 6 rfl rfl)).trans (g3.1 22 6 rfl rfl)) (show B 0 192 (F 22 6) from hI 22 6)) (by decide +kernel) (by decide +kernel)) (B_w b27 (by decide +kernel) (by decide +kernel)) (B_w b66 (by decide +kernel) (by decide +kernel)) (by omega) (by omega)
        have q74 : (0) ≤ (F 22 6).toInt ∧ (F 22 6).toInt ≤ (192) := (show B 0 192 (F 22 6) from hI 22 6)
        have e75 : (T48 22 6).toInt = (F 22 6).toInt := (congrArg Int32.toInt ((((g51.1 22 6 rfl rfl).trans (g38.1 22 6 rfl rfl)).trans (g11.1 22 6 rfl rfl)).trans (g3.1 22 6 rfl rfl))).trans rfl
        refine ⟨(show vp_in (((T48 22 5) * x3_6) + x4_47) 192 from vp_B b72 (by decide +kernel) (by decide +kernel)), ?_⟩
        refine h_Pa_writeBlock_u4 (B_w (B_eq ((((congrFun (g51.2 26 rfl rfl) (((T48 22 5) * x3_6) + x4_47).toNatClampNeg).trans (congrFun (g38.2 26 rfl rfl) (((T48 22 5) * x3_6) + x4_47).toNatClampNeg)).trans (congrFun (g11.2 26 rfl rfl) (((T48 22 5) * x3_6) + x4_47).toNatClampNeg)).trans (congrFun (g3.2 26 rfl rfl) (((T48 22 5) * x3_6) + x4_47).toNatClampNeg)) (show B 0 191 (F 26 (((T48 22 5) * x3_6) + x4_47).toNatClampNeg) from hI 26 (((T48 22 5) * x3_6) + x4_47).toNatClampNeg)) (by decide +kernel) (by decide +kernel)) hI50 (fun {FS88_76} {LFS88_76} hI77 g78 => ?_)
        have g80 := agc_tr (agc_refl (fs := [410, 411, 501]) (rs := [6, 34, 40, 47, 53, 58, 999]) (F := T35)) g51 (by decide +kernel) (by decide +kernel)
        have g79 := agc_tr g80 g78 (by decide +kernel) (by decide +kernel)
        have e81 : (FS88_76 22 4).toInt = (F 22 4).toInt := (congrArg Int32.toInt (((((g78.1 22 4 rfl rfl).trans (g51.1 22 4 rfl rfl)).trans (g38.1 22 4 rfl rfl)).trans (g11.1 22 4 rfl rfl)).trans (g3.1 22 4 rfl rfl))).trans rfl
        have e82 : (x4_47 + 1).toInt = ((x4_47).toInt + 1) := (t_add b66 cqb_1_1_1 (by decide +kernel) (by decide +kernel)).trans (by rw [cqn_1])
        have q83 : (1) ≤ (x4_47 + 1).toInt ∧ (x4_47 + 1).toInt ≤ (12) := (show B 1 12 (x4_47 + 1) from B_w (B_add b66 cqb_1_1_1 (by decide +kernel) (by decide +kernel)) (by decide +kernel) (by decide +kernel))
        exact hR55 ⟨rfl, rfl, rfl, (B_w (B_add b66 cqb_1_1_1 (by decide +kernel) (by decide +kernel)) (by decide +kernel) (by decide +kernel)), _, _, rfl, hI77, g79, (UPs_tr (F := T48) (G := FS88_76) r52 (Eq.trans (((((g78.1 22 5 rfl rfl).trans (g51.1 22 5 rfl rfl)).trans (g38.1 22 5 rfl rfl)).trans (g11.1 22 5 rfl rfl)).trans (g3.1 22 5 rfl rfl)) (Eq.symm ((((g51.1 22 5 rfl rfl).trans (g38.1 22 5 rfl rfl)).trans (g11.1 22 5 rfl rfl)).trans (g3.1 22 5 rfl rfl)))) (Eq.trans (((((g78.1 22 4 rfl rfl).trans (g51.1 22 4 rfl rfl)).trans (g38.1 22 4 rfl rfl)).trans (g11.1 22 4 rfl rfl)).trans (g3.1 22 4 rfl rfl)) (Eq.symm ((((g51.1 22 4 rfl rfl).trans (g38.1 22 4 rfl rfl)).trans (g11.1 22 4 rfl rfl)).trans (g3.1 22 4 rfl rfl)))) (Eq.trans (((((g78.1 22 6 rfl rfl).trans (g51.1 22 6 rfl rfl)).trans (g38.1 22 6 rfl rfl)).trans (g11.1 22 6 rfl rfl)).trans (g3.1 22 6 rfl rfl)) (Eq.symm ((((g51.1 22 6 rfl rfl).trans (g38.1 22 6 rfl rfl)).trans (g11.1 22 6 rfl rfl)).trans (g3.1 22 6 rfl rfl))))), (by show x3_6.toInt < (FS88_76 22 4).toInt; first | with_reducible assumption | omega)⟩ (by show (12 - (x4_47 + 1).toInt).toNat < (12 - x4_47.toInt).toNat; omega)
    refine ⟨fun hc => ?_, fun hc => ?_⟩
    · have hq84 := hc
      have b85 : B 0 0 (x1) := B_w (B_leL b_x1 cqb_0_0_0 hq84) (by decide +kernel) (by decide +kernel)
      exact hj33 (B_w b8 (by decide +kernel) (by decide +kernel)) hI10 (agc_refl (fs := [410, 411, 501]) (rs := [6, 58, 999]) (F := T7)) (UPs_tr (F := T7) (G := T7) r12 (Eq.trans ((g11.1 22 5 rfl rfl).trans (g3.1 22 5 rfl rfl)) (Eq.symm ((g11.1 22 5 rfl rfl).trans (g3.1 22 5 rfl rfl)))) (Eq.trans ((g11.1 22 4 rfl rfl).trans (g3.1 22 4 rfl rfl)) (Eq.symm ((g11.1 22 4 rfl rfl).trans (g3.1 22 4 rfl rfl)))) (Eq.trans ((g11.1 22 6 rfl rfl).trans (g3.1 22 6 rfl rfl)) (Eq.symm ((g11.1 22 6 rfl rfl).trans (g3.1 22 6 rfl rfl))))) (by show x3_6.toInt < (T7 22 4).toInt; first | with_reducible assumption | omega) (by show x2_5.toInt ≤ (x3_6.toInt + 1); first | with_reducible assumption | omega)
    · have hq86 := (nle_lt hc)
      have b87 : B 1 65535 (x1) := B_w (B_ltR cqb_0_0_0 b_x1 hq86) (by decide +kernel) (by decide +kernel)
      refine ⟨fun hc => ?_, fun hc => ?_⟩
      · have hq88 := hc
        have b89 : B 0 0 (x3_6) := B_w (B_leL b27 cqb_0_0_0 hq88) (by decide +kernel) (by decide +kernel)
        have q90 : (0) ≤ (x3_6).toInt ∧ (x3_6).toInt ≤ (0) := (show B 0 0 (x3_6) from B_w b89 (by decide +kernel) (by decide +kernel))
        exact hj33 (B_w b8 (by decide +kernel) (by decide +kernel)) hI10 (agc_refl (fs := [410, 411, 501]) (rs := [6, 58, 999]) (F := T7)) (UPs_tr (F := T7) (G := T7) r12 (Eq.trans ((g11.1 22 5 rfl rfl).trans (g3.1 22 5 rfl rfl)) (Eq.symm ((g11.1 22 5 rfl rfl).trans (g3.1 22 5 rfl rfl)))) (Eq.trans ((g11.1 22 4 rfl rfl).trans (g3.1 22 4 rfl rfl)) (Eq.symm ((g11.1 22 4 rfl rfl).trans (g3.1 22 4 rfl rfl)))) (Eq.trans ((g11.1 22 6 rfl rfl).trans (g3.1 22 6 rfl rfl)) (Eq.symm ((g11.1 22 6 rfl rfl).trans (g3.1 22 6 rfl rfl))))) (by show x3_6.toInt < (T7 22 4).toInt; first | with_reducible assumption | omega) (by show x2_5.toInt ≤ (x3_6.toInt + 1); first | with_reducible assumption | omega)
      · have hq91 := (nle_lt hc)
        have b92 : B 1 191 (x3_6) := B_w (B_ltR cqb_0_0_0 b27 hq91) (by decide +kernel) (by decide +kernel)
        have q93 : (1) ≤ (x3_6).toInt ∧ (x3_6).toInt ≤ (191) := (show B 1 191 (x3_6) from B_w b92 (by decide +kernel) (by decide +kernel))
        refine ⟨B_nz b87 (by decide +kernel), ?_⟩
        refine ⟨fun hc => ?_, fun hc => ?_⟩
        · have b94 : B 1 65534 (x3_6 - ((x3_6 / x1) * x1)) := B_w (B_n0 (B_rem b92 b87 (by decide +kernel) (by decide +kernel)) hc) (by decide +kernel) (by decide +kernel)
          exact hj33 (B_w b8 (by decide +kernel) (by decide +kernel)) hI10 (agc_refl (fs := [410, 411, 501]) (rs := [6, 58, 999]) (F := T7)) (UPs_tr (F := T7) (G := T7) r12 (Eq.trans ((g11.1 22 5 rfl rfl).trans (g3.1 22 5 rfl rfl)) (Eq.symm ((g11.1 22 5 rfl rfl).trans (g3.1 22 5 rfl rfl)))) (Eq.trans ((g11.1 22 4 rfl rfl).trans (g3.1 22 4 rfl rfl)) (Eq.symm ((g11.1 22 4 rfl rfl).trans (g3.1 22 4 rfl rfl)))) (Eq.trans ((g11.1 22 6 rfl rfl).trans (g3.1 22 6 rfl rfl)) (Eq.symm ((g11.1 22 6 rfl rfl).trans (g3.1 22 6 rfl rfl))))) (by show x3_6.toInt < (T7 22 4).toInt; first | with_reducible assumption | omega) (by show x2_5.toInt ≤ (x3_6.toInt + 1); first | with_reducible assumption | omega)
        · have b95 : B 0 0 (x3_6 - ((x3_6 / x1) * x1)) := B_w (B_eq hc cqb_0_0_0) (by decide +kernel) (by decide +kernel)
          have q96 : (1) ≤ (x1).toInt ∧ (x1).toInt ≤ (65535) := (show B 1 65535 (x1) from B_w b87 (by decide +kernel) (by decide +kernel))
          have e97 : (x3_6 - ((x3_6 / x1) * x1)).toInt = ((x3_6).toInt % (x1).toInt) := (t_rem b92 b87 (by decide +kernel) (by decide +kernel)).trans (by rfl)
          have q98 : (0) ≤ (x3_6 - ((x3_6 / x1) * x1)).toInt ∧ (x3_6 - ((x3_6 / x1) * x1)).toInt ≤ (0) := (show B 0 0 (x3_6 - ((x3_6 / x1) * x1)) from B_w b95 (by decide +kernel) (by decide +kernel))
          have i99 : (x3_6 - ((x3_6 / x1) * x1)).toInt = (0 : Int32).toInt := congrArg Int32.toInt hc
          have n100 : (0 : Int32).toInt = 0 := cqn_0
          refine h_Pa_writeAgain_u4 hI10 (fun {FS46_101} {LFS46_101} hI102 g103 => ?_)
          have g104 := agc_tr (agc_refl (fs := [410, 411, 501]) (rs := [6, 58, 999]) (F := T7)) g103 (by decide +kernel) (by decide +kernel)
          have e105 : (FS46_101 22 4).toInt = (F 22 4).toInt := (congrArg Int32.toInt (((g103.1 22 4 rfl rfl).trans (g11.1 22 4 rfl rfl)).trans (g3.1 22 4 rfl rfl))).trans rfl
          have e106 : (x2_5 + 1).toInt = ((x2_5).toInt + 1) := (t_add b8 cqb_1_1_1 (by decide +kernel) (by decide +kernel)).trans (by rw [cqn_1])
          have q107 : (1) ≤ (x2_5 + 1).toInt ∧ (x2_5 + 1).toInt ≤ (194) := (show B 1 194 (x2_5 + 1) from B_w (B_add b8 cqb_1_1_1 (by decide +kernel) (by decide +kernel)) (by decide +kernel) (by decide +kernel))
          exact hj33 (B_w (B_add b8 cqb_1_1_1 (by decide +kernel) (by decide +kernel)) (by decide +kernel) (by decide +kernel)) hI102 g104 (UPs_tr (F := T7) (G := FS46_101) r12 (Eq.trans (((g103.1 22 5 rfl rfl).trans (g11.1 22 5 rfl rfl)).trans (g3.1 22 5 rfl rfl)) (Eq.symm ((g11.1 22 5 rfl rfl).trans (g3.1 22 5 rfl rfl)))) (Eq.trans (((g103.1 22 4 rfl rfl).trans (g11.1 22 4 rfl rfl)).trans (g3.1 22 4 rfl rfl)) (Eq.symm ((g11.1 22 4 rfl rfl).trans (g3.1 22 4 rfl rfl)))) (Eq.trans (((g103.1 22 6 rfl rfl).trans (g11.1 22 6 rfl rfl)).trans (g3.1 22 6 rfl rfl)) (Eq.symm ((g11.1 22 6 rfl rfl).trans (g3.1 22 6 rfl rfl))))) (by show x3_6.toInt < (FS46_101 22 4).toInt; first | with_reducible assumption | omega) (by show (x2_5 + 1).toInt ≤ (x3_6.toInt + 1); first | with_reducible assumption | omega)
