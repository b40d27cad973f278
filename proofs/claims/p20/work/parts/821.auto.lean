set_option maxRecDepth 20000 in
set_option maxHeartbeats 4000000 in
theorem h_readCodes {S : ms} {K : ms → Prop} (hI : IM S) (pre0 : cA S) (hK : ∀ {Z : ms}, IM Z → ag [10, 34, 35] [40, 41, 42] S Z → ((S.1 34).toInt ≤ (Z.1 34).toInt) → (((Z.1 35).toInt = 0) → ((S.1 35).toInt = 0)) → (cA Z) → K Z) : p_readCodes S K := by
  unfold p_readCodes
  have q6 : (0) ≤ (S.1 34).toInt ∧ (S.1 34).toInt ≤ (32768) := (show B 0 32768 (S.1 34) from bf_34 hI)
  have q8 : (0) ≤ (S.1 35).toInt ∧ (S.1 35).toInt ≤ (8) := (show B 0 8 (S.1 35) from bf_35 hI)
  refine ⟨fun yx1 yS => B 0 1 yx1 ∧ IM yS ∧ ag [10, 34, 35] [40, 41, 42] S yS ∧ ((S.1 34).toInt ≤ (yS.1 34).toInt) ∧ (((yS.1 35).toInt = 0) → ((S.1 35).toInt = 0)) ∧ (cA yS), fun yx1 yS => (((9 * (32768 - (yS.1 34).toInt)) + 8) - (yS.1 35).toInt).toNat, ⟨(B_w cqb_1_1_1 (by decide +kernel) (by decide +kernel)), hI, (ag_refl (fs := [10, 34, 35]) (rs := [40, 41, 42]) (S := S)), (by show (S.1 34).toInt ≤ (S.1 34).toInt; first | with_reducible assumption | omega), (by show ((S.1 35).toInt = 0) → ((S.1 35).toInt = 0); first | with_reducible assumption | exact (fun _ => by with_reducible assumption) | omega), (cA_tr (S := S) (T := S) pre0 rfl rfl (by show (S.1 35).toInt = 0 → ((S.1 35).toInt = 0); first | with_reducible assumption | exact (fun _ => by with_reducible assumption) | omega))⟩, fun x1_1 T2 hIv => ?_⟩
  obtain ⟨b3, hI4, g5, r7, r9, r10⟩ := hIv
  suffices hs : ∀ (R2 : Int32 → ms → Prop), (∀ zx1 zS, (B 0 1 zx1 ∧ IM zS ∧ ag [10, 34, 35] [40, 41, 42] S zS ∧ ((S.1 34).toInt ≤ (zS.1 34).toInt) ∧ (((zS.1 35).toInt = 0) → ((S.1 35).toInt = 0)) ∧ (cA zS)) → (((9 * (32768 - (zS.1 34).toInt)) + 8) - (zS.1 35).toInt).toNat < (((9 * (32768 - (T2.1 34).toInt)) + 8) - (T2.1 35).toInt).toNat → R2 zx1 zS) → b_readCodes_2 x1_1 T2 R2 K from hs _ (fun _ _ h1 h2 => ⟨h1, h2⟩)
  intro R2 hR20
  have hR2 := fun {zx1} {zS} => hR20 zx1 zS
  have q11 : (0) ≤ (S.1 34).toInt ∧ (S.1 34).toInt ≤ (32768) := (show B 0 32768 (S.1 34) from bf_34 hI)
  have q12 : (0) ≤ (T2.1 34).toInt ∧ (T2.1 34).toInt ≤ (32768) := (show B 0 32768 (T2.1 34) from bf_34 hI4)
  have q13 : (0) ≤ (T2.1 35).toInt ∧ (T2.1 35).toInt ≤ (8) := (show B 0 8 (T2.1 35) from bf_35 hI4)
  have q14 : (0) ≤ (S.1 35).toInt ∧ (S.1 35).toInt ≤ (8) := (show B 0 8 (S.1 35) from bf_35 hI)
  unfold b_readCodes_2
  refine ⟨fun hc => ?_, fun hc => ?_⟩
  · have b15 : B 0 0 (x1_1) := B_w (B_eq hc cqb_0_0_0) (by decide +kernel) (by decide +kernel)
    have q16 : (0) ≤ (x1_1).toInt ∧ (x1_1).toInt ≤ (0) := (show B 0 0 (x1_1) from B_w b15 (by decide +kernel) (by decide +kernel))
    have i17 : (x1_1).toInt = (0 : Int32).toInt := congrArg Int32.toInt hc
    have n18 : (0 : Int32).toInt = 0 := cqn_0
    unfold b_readCodes_362
    have g19 := ag_tr (ag_refl (fs := [10, 34, 35]) (rs := [40, 41, 42]) (S := S)) g5 (by decide +kernel) (by decide +kernel)
    exact hK hI4 g19 (by show (S.1 34).toInt ≤ (T2.1 34).toInt; first | with_reducible assumption | omega) (by show ((T2.1 35).toInt = 0) → ((S.1 35).toInt = 0); first | with_reducible assumption | exact (fun _ => by with_reducible assumption) | omega) (cA_tr (S := T2) (T := T2) r10 rfl rfl (by show (T2.1 35).toInt = 0 → ((T2.1 35).toInt = 0); first | with_reducible assumption | exact (fun _ => by with_reducible assumption) | omega))
  · have b20 : B 1 1 (x1_1) := B_w (B_n0 b3 hc) (by decide +kernel) (by decide +kernel)
    refine ⟨fun hc => ?_, fun hc => ?_⟩
    · have b21 : B 1 8 (T2.1 35) := B_w (B_n0 (show B 0 8 (T2.1 35) from bf_35 hI4) hc) (by decide +kernel) (by decide +kernel)
      have q22 : (1) ≤ (T2.1 35).toInt ∧ (T2.1 35).toInt ≤ (8) := (show B 1 8 (T2.1 35) from B_w b21 (by decide +kernel) (by decide +kernel))
      unfold b_readCodes_362
      have g23 := ag_tr (ag_refl (fs := [10, 34, 35]) (rs := [40, 41, 42]) (S := S)) g5 (by decide +kernel) (by decide +kernel)
      exact hK hI4 g23 (by show (S.1 34).toInt ≤ (T2.1 34).toInt; first | with_reducible assumption | omega) (by show ((T2.1 35).toInt = 0) → ((S.1 35).toInt = 0); first | with_reducible assumption | exact (fun _ => by with_reducible assumption) | omega) (fun h => absurd (show (T2.1 35).toInt = 0 from h) (by omega))
    · have b24 : B 0 0 (T2.1 35) := B_w (B_eq hc cqb_0_0_0) (by decide +kernel) (by decide +kernel)
      have q25 : (0) ≤ (T2.1 35).toInt ∧ (T2.1 35).toInt ≤ (0) := (show B 0 0 (T2.1 35) from B_w b24 (by decide +kernel) (by decide +kernel))
      have i26 : (T2.1 35).toInt = (0 : Int32).toInt := congrArg Int32.toInt hc
      have n27 : (0 : Int32).toInt = 0 := cqn_0
      refine h_nextWithin hI4 (fun {v14_28} {S14_29} b30 hI31 g32 r33 r34 => ?_)
      have r35 : (T2.1 34).toInt ≤ (S14_29.1 34).toInt := r33
      clear r33
      have q36 : (0) ≤ (S14_29.1 34).toInt ∧ (S14_29.1 34).toInt ≤ (32768) := (show B 0 32768 (S14_29.1 34) from bf_34 hI31)
      have r37 : ((S14_29.1 35).toInt = 0) → (((T2.1 35).toInt = 0) ∧ (((T2.1 34).toInt + 1) ≤ (S14_29.1 34).toInt)) := r34
      clear r34
      have q38 : (0) ≤ (S14_29.1 35).toInt ∧ (S14_29.1 35).toInt ≤ (8) := (show B 0 8 (S14_29.1 35) from bf_35 hI31)
      have hj39 : ∀ {T40 : ms}, IM T40 → ag [10, 34, 35] [40, 41, 42] S14_29 T40 → ((T2.1 34).toInt ≤ (T40.1 34).toInt) → (((T40.1 35).toInt = 0) → (((T2.1 35).toInt = 0) ∧ (((T2.1 34).toInt + 1) ≤ (T40.1 34).toInt))) → (cA T40) → b_readCodes_342 T40 R2 K := by
        intro T40 hI41 g42 r43 r44 r45
        have q46 : (0) ≤ (T40.1 34).toInt ∧ (T40.1 34).toInt ≤ (32768) := (show B 0 32768 (T40.1 34) from bf_34 hI41)
        have q47 : (0) ≤ (T40.1 35).toInt ∧ (T40.1 35).toInt ≤ (8) := (show B 0 8 (T40.1 35) from bf_35 hI41)
        unfold b_readCodes_342
        refine ⟨fun hc => ?_, fun hc => ?_⟩
        · have hq48 := hc
          have b49 : B 0 32768 (S.1 36) := B_w (B_eq (Eq.symm (((g42.1 36 rfl).trans (g32.1 36 rfl)).trans (g5.1 36 rfl))) (B_leL (B_eq (((g42.1 36 rfl).trans (g32.1 36 rfl)).trans (g5.1 36 rfl)) (show B 0 98304 (S.1 36) from bf_36 hI)) (show B 0 32768 (T40.1 34) from bf_34 hI41) hq48)) (by decide +kernel) (by decide +kernel)
          have q50 : (0) ≤ (S.1 36).toInt ∧ (S.1 36).toInt ≤ (32768) := (show B 0 32768 (S.1 36) from B_w b49 (by decide +kernel) (by decide +kernel))
          have e51 : (T40.1 36).toInt = (S.1 36).toInt := (congrArg Int32.toInt (((g42.1 36 rfl).trans (g32.1 36 rfl)).trans (g5.1 36 rfl))).trans rfl
          have i52 : (T40.1 36).toInt ≤ (T40.1 34).toInt := i_le hq48
          unfold b_readCodes_358
          have g55 := ag_tr (ag_refl (fs := [10, 34, 35]) (rs := [40, 41, 42]) (S := S)) g5 (by decide +kernel) (by decide +kernel)
          have g54 := ag_tr g55 g32 (by decide +kernel) (by decide +kernel)
          have g53 := ag_tr g54 g42 (by decide +kernel) (by decide +kernel)
          exact hR2 ⟨(B_w cqb_0_0_0 (by decide +kernel) (by decide +kernel)), hI41, g53, (by show (S.1 34).toInt ≤ (T40.1 34).toInt; first | with_reducible assumption | omega), (by show ((T40.1 35).toInt = 0) → ((S.1 35).toInt = 0); first | with_reducible assumption | exact (fun _ => by with_reducible assumption) | omega), (cA_tr (S := T40) (T := T40) r45 rfl rfl (by show (T40.1 35).toInt = 0 → ((T40.1 35).toInt = 0); first | with_reducible assumption | exact (fun _ => by with_reducible assumption) | omega))⟩ (by show (((9 * (32768 - (T40.1 34).toInt)) + 8) - (T40.1 35).toInt).toNat < (((9 * (32768 - (T2.1 34).toInt)) + 8) - (T2.1 35).toInt).toNat; omega)
        · have hq56 := (nle_lt hc)
          have b57 : B 1 98304 (S.1 36) := B_w (B_eq (Eq.symm (((g42.1 36 rfl).trans (g32.1 36 rfl)).trans (g5.1 36 rfl))) (B_ltR (show B 0 32768 (T40.1 34) from bf_34 hI41) (B_eq (((g42.1 36 rfl).trans (g32.1 36 rfl)).trans (g5.1 36 rfl)) (show B 0 98304 (S.1 36) from bf_36 hI)) hq56)) (by decide +kernel) (by decide +kernel)
          have q58 : (1) ≤ (S.1 36).toInt ∧ (S.1 36).toInt ≤ (98304) := (show B 1 98304 (S.1 36) from B_w b57 (by decide +kernel) (by decide +kernel))
          have e59 : (T40.1 36).toInt = (S.1 36).toInt := (congrArg Int32.toInt (((g42.1 36 rfl).trans (g32.1 36 rfl)).trans (g5.1 36 rfl))).trans rfl
          have i60 : (T40.1 34).toInt < (T40.1 36).toInt := i_lt hq56
          unfold b_readCodes_358
          have g63 := ag_tr (ag_refl (fs := [10, 34, 35]) (rs := [40, 41, 42]) (S := S)) g5 (by decide +kernel) (by decide +kernel)
          have g62 := ag_tr g63 g32 (by decide +kernel) (by decide +kernel)
          have g61 := ag_tr g62 g42 (by decide +kernel) (by decide +kernel)
          exact hR2 ⟨(B_w cqb_1_1_1 (by decide +kernel) (by decide +kernel)), hI41, g61, (by show (S.1 34).toInt ≤ (T40.1 34).toInt; first | with_reducible assumption | omega), (by show ((T40.1 35).toInt = 0) → ((S.1 35).toInt = 0); first | with_reducible assumption | exact (fun _ => by with_reducible assumption) | omega), (cA_tr (S := T40) (T := T40) r45 rfl rfl (by show (T40.1 35).toInt = 0 → ((T40.1 35).toInt = 0); first | with_reducible assumption | exact (fun _ => by with_reducible assumption) | omega))⟩ (by show (((9 * (32768 - (T40.1 34).toInt)) + 8) - (T40.1 35).toInt).toNat < (((9 * (32768 - (T2.1 34).toInt)) + 8) - (T2.1 35).toInt).toNat; omega)
      have hj64 : ∀ {x3_65 : Int32} {T66 : ms}, B (-12) 241 x3_65 → IM T66 → ag [10, 34, 35] [40, 41] S14_29 T66 → ((T2.1 34).toInt ≤ (T66.1 34).toInt) → (((T66.1 35).toInt = 0) → (((T2.1 35).toInt = 0) ∧ (((T2.1 34).toInt + 1) ≤ (T66.1 34).toInt))) → (cB x3_65 T66) → (((T66.1 35).toInt = 0) → ((0 ≤ x3_65.toInt) ∧ (x3_65.toInt ≤ 3))) → (((T66.1 35).toInt = 0) → ((csum (T66.2.1 40) (16 * x3_65.toInt).toNat 16) ≤ 256)) → b_readCodes_328 x3_65 T66 R2 K := by
        intro x3_65 T66 b67 hI68 g69 r70 r71 r72 r73 r74
        have q75 : (0) ≤ (T66.1 34).toInt ∧ (T66.1 34).toInt ≤ (32768) := (show B 0 32768 (T66.1 34) from bf_34 hI68)
        have q76 : (0) ≤ (T66.1 35).toInt ∧ (T66.1 35).toInt ≤ (8) := (show B 0 8 (T66.1 35) from bf_35 hI68)
        have q77 : (-12) ≤ (x3_65).toInt ∧ (x3_65).toInt ≤ (241) := (show B (-12) 241 (x3_65) from B_w b67 (by decide +kernel) (by decide +kernel))
        unfold b_readCodes_328
        refine ⟨fun hc => ?_, fun hc => ?_⟩
        · have b78 : B 1 8 (T66.1 35) := B_w (B_n0 (show B 0 8 (T66.1 35) from bf_35 hI68) hc) (by decide +kernel) (by decide +kernel)
          have q79 : (1) ≤ (T66.1 35).toInt ∧ (T66.1 35).toInt ≤ (8) := (show B 1 8 (T66.1 35) from B_w b78 (by decide +kernel) (by decide +kernel))
          have g80 := ag_tr (ag_refl (fs := [10, 34, 35]) (rs := [40, 41, 42]) (S := S14_29)) g69 (by decide +kernel) (by decide +kernel)
          exact hj39 hI68 g80 (by show (T2.1 34).toInt ≤ (T66.1 34).toInt; first | with_reducible assumption | omega) (by show ((T66.1 35).toInt = 0) → (((T2.1 35).toInt = 0) ∧ (((T2.1 34).toInt + 1) ≤ (T66.1 34).toInt)); first | with_reducible assumption | exact (fun _ => by with_reducible assumption) | omega) (fun h => absurd (show (T66.1 35).toInt = 0 from h) (by omega))
        · have b81 : B 0 0 (T66.1 35) := B_w (B_eq hc cqb_0_0_0) (by decide +kernel) (by decide +kernel)
          have q82 : (0) ≤ (T66.1 35).toInt ∧ (T66.1 35).toInt ≤ (0) := (show B 0 0 (T66.1 35) from B_w b81 (by decide +kernel) (by decide +kernel))
          have i83 : (T66.1 35).toInt = (0 : Int32).toInt := congrArg Int32.toInt hc
          have n84 : (0 : Int32).toInt = 0 := cqn_0
          refine ⟨vp_om (x := x3_65) (by omega) (by omega), ?_⟩
          have b85 : B 0 3 (x3_65) := ⟨by omega, by omega⟩
          have hI86 := IM_r (r := 42) (i := x3_65.toNatClampNeg) (v := vp_nar .boolean 1) hI68 (show B 1 1 (vp_nar .boolean 1) from ⟨by decide +kernel, by decide +kernel⟩) (by decide +kernel) (by decide +kernel)
          have g88 := ag_tr (ag_refl (fs := [10, 34, 35]) (rs := [40, 41, 42]) (S := S14_29)) g69 (by decide +kernel) (by decide +kernel)
          have g87 := ag_r (r := 42) (w := upd (T66.2.1 42) x3_65.toNatClampNeg (vp_nar .boolean 1)) g88 (by decide +kernel)
          exact hj39 hI86 g87 (by show (T2.1 34).toInt ≤ (T66.1 34).toInt; first | with_reducible assumption | omega) (by show ((T66.1 35).toInt = 0) → (((T2.1 35).toInt = 0) ∧ (((T2.1 34).toInt + 1) ≤ (T66.1 34).toInt)); first | with_reducible assumption | exact (fun _ => by with_reducible assumption) | omega) (cA_fin (S := T66) (T := (T66.1, va_up T66.2.1 42 (upd (T66.2.1 42) x3_65.toNatClampNeg (vp_nar .boolean 1)), T66.2.2)) (c := x3_65) (v := vp_nar .boolean 1) r72 rfl (congrArg (fun g => upd g x3_65.toNatClampNeg (vp_nar .boolean 1)) (Eq.trans ((g69.2 42 rfl).trans (g32.2 42 rfl)) (Eq.symm ((g69.2 42 rfl).trans (g32.2 42 rfl))))) (by show (T66.1 35).toInt = 0 → ((T66.1 35).toInt = 0 ∧ 0 ≤ x3_65.toInt ∧ (csum (T66.2.1 40) (16 * x3_65.toInt).toNat 16) ≤ 256); first | with_reducible assumption | exact (fun _ => by with_reducible assumption) | omega))
      have hj89 : ∀ {x3_90 : Int32} {x4_91 : Int32} {x5_92 : Int32} {s1_93 : Int32} {T94 : ms}, B (-12) 241 x3_90 → B 0 32768 x4_91 → B 0 4080 x5_92 → B 0 1 s1_93 → IM T94 → ag [10, 34, 35] [40] S14_29 T94 → ((T2.1 34).toInt ≤ (T94.1 34).toInt) → (((T94.1 35).toInt = 0) → (((T2.1 35).toInt = 0) ∧ (((T2.1 34).toInt + 1) ≤ (T94.1 34).toInt))) → (cB x3_90 T94) → (((T94.1 35).toInt = 0) → (x5_92.toInt = (csum (T94.2.1 40) (16 * x3_90.toInt).toNat 16))) → (((T94.1 35).toInt = 0) → ((0 ≤ x3_90.toInt) ∧ (x3_90.toInt ≤ 3))) → ((s1_93.toInt = 1) → (x5_92.toInt ≤ 256)) → b_readCodes_205 x3_90 x4_91 x5_92 s1_93 T94 R2 K := by
        intro x3_90 x4_91 x5_92 s1_93 T94 b95 b96 b97 b98 hI99 g100 r101 r102 r103 r104 r105 r106
        have q107 : (0) ≤ (T94.1 34).toInt ∧ (T94.1 34).toInt ≤ (32768) := (show B 0 32768 (T94.1 34) from bf_34 hI99)
        have q108 : (0) ≤ (T94.1 35).toInt ∧ (T94.1 35).toInt ≤ (8) := (show B 0 8 (T94.1 35) from bf_35 hI99)
        have q109 : (0) ≤ (x5_92).toInt ∧ (x5_92).toInt ≤ (4080) := (show B 0 4080 (x5_92) from B_w b97 (by decide +kernel) (by decide +kernel))
        have q110 : (-12) ≤ (x3_90).toInt ∧ (x3_90).toInt ≤ (241) := (show B (-12) 241 (x3_90) from B_w b95 (by decide +kernel) (by decide +kernel))
        have q111 : (0) ≤ (s1_93).toInt ∧ (s1_93).toInt ≤ (1) := (show B 0 1 (s1_93) from B_w b98 (by decide +kernel) (by decide +kernel))
        unfold b_readCodes_205
        refine h_must b98 (B_w b96 (by decide +kernel) (by decide +kernel)) hI99 (fun {S207_112} hI113 g114 r115 r116 => ?_)
        have r117 : ((S207_112.1 35).toInt = 0) → ((T94.1 35).toInt = 0) := r115
        clear r115
        have q118 : (0) ≤ (S207_112.1 35).toInt ∧ (S207_112.1 35).toInt ≤ (8) := (show B 0 8 (S207_112.1 35) from bf_35 hI113)
        have r119 : (s1_93.toInt = 0) → (1 ≤ (S207_112.1 35).toInt) := r116
        clear r116
        have e127 : (S207_112.1 34).toInt = (T94.1 34).toInt := (congrArg Int32.toInt (g114.1 34 rfl)).trans rfl
        have e132 : csum (S207_112.2.1 40) (16 * x3_90.toInt).toNat 16 = csum (T94.2.1 40) (16 * x3_90.toInt).toNat 16 := congrArg (fun g => csum g (16 * x3_90.toInt).toNat 16) (g114.2 40 rfl)
        refine ⟨fun yx3 yx5 yx8 yS => x3_90 = yx3 ∧ x5_92 = yx5 ∧ B 0 4080 yx8 ∧ IM yS ∧ ag [10, 34, 35] [41] S207_112 yS ∧ ((T2.1 34).toInt ≤ (yS.1 34).toInt) ∧ (((yS.1 35).toInt = 0) → (((T2.1 35).toInt = 0) ∧ (((T2.1 34).toInt + 1) ≤ (yS.1 34).toInt))) ∧ (cB yx3 yS) ∧ (((yS.1 35).toInt = 0) → ((0 ≤ yx3.toInt) ∧ (yx3.toInt ≤ 3))) ∧ (((yS.1 35).toInt = 0) → ((yx5.toInt ≤ 256) ∧ ((csum (yS.2.1 40) (16 * yx3.toInt).toNat 16) ≤ 256))), fun yx3 yx5 yx8 yS => (4080 - yx8.toInt).toNat, ⟨rfl, rfl, (B_w cqb_0_0_0 (by decide +kernel) (by decide +kernel)), hI113, (ag_refl (fs := [10, 34, 35]) (rs := [41]) (S := S207_112)), (by show (T2.1 34).toInt ≤ (S207_112.1 34).toInt; first | with_reducible assumption | omega), (by show ((S207_112.1 35).toInt = 0) → (((T2.1 35).toInt = 0) ∧ (((T2.1 34).toInt + 1) ≤ (S207_112.1 34).toInt)); first | with_reducible assumption | exact (fun _ => by with_reducible assumption) | omega), (cB_tr (S := T94) (T := S207_112) r103 (g114.2 40 rfl) (Eq.trans (((g114.2 42 rfl).trans (g100.2 42 rfl)).trans (g32.2 42 rfl)) (Eq.symm ((g100.2 42 rfl).trans (g32.2 42 rfl)))) (by show (S207_112.1 35).toInt = 0 → ((T94.1 35).toInt = 0); first | with_reducible assumption | exact (fun _ => by with_reducible assumption) | omega)), (by show ((S207_112.1 35).toInt = 0) → ((0 ≤ x3_90.toInt) ∧ (x3_90.toInt ≤ 3)); first | with_reducible assumption | exact (fun _ => by with_reducible assumption) | omega), (by show ((S207_112.1 35).toInt = 0) → ((x5_92.toInt ≤ 256) ∧ ((csum (S207_112.2.1 40) (16 * x3_90.toInt).toNat 16) ≤ 256)); first | with_reducible assumption | exact (fun _ => by with_reducible assumption) | omega)⟩, fun x3_120 x5_121 x8_122 T123 hIv => ?_⟩
        obtain ⟨rfl, rfl, b124, hI125, g126, r128, r129, r130, r131, r133⟩ := hIv
        suffices hs : ∀ (R213 : Int32 → Int32 → Int32 → ms → Prop), (∀ zx3 zx5 zx8 zS, (x3_90 = zx3 ∧ x5_92 = zx5 ∧ B 0 4080 zx8 ∧ IM zS ∧ ag [10, 34, 35] [41] S207_112 zS ∧ ((T2.1 34).toInt ≤ (zS.1 34).toInt) ∧ (((zS.1 35).toInt = 0) → (((T2.1 35).toInt = 0) ∧ (((T2.1 34).toInt + 1) ≤ (zS.1 34).toInt))) ∧ (cB zx3 zS) ∧ (((zS.1 35).toInt = 0) → ((0 ≤ zx3.toInt) ∧ (zx3.toInt ≤ 3))) ∧ (((zS.1 35).toInt = 0) → ((zx5.toInt ≤ 256) ∧ ((csum (zS.2.1 40) (16 * zx3.toInt).toNat 16) ≤ 256)))) → (4080 - zx8.toInt).toNat < (4080 - x8_122.toInt).toNat → R213 zx3 zx5 zx8 zS) → b_readCodes_213 x3_90 x5_92 x8_122 T123 R2 R213 K from hs _ (fun _ _ _ _ h1 h2 => ⟨h1, h2⟩)
        intro R213 hR2130
        have hR213 := fun {zx3} {zx5} {zx8} {zS} => hR2130 zx3 zx5 zx8 zS
        have q134 : (0) ≤ (T123.1 34).toInt ∧ (T123.1 34).toInt ≤ (32768) := (show B 0 32768 (T123.1 34) from bf_34 hI125)
        have q135 : (0) ≤ (T123.1 35).toInt ∧ (T123.1 35).toInt ≤ (8) := (show B 0 8 (T123.1 35) from bf_35 hI125)
        have e136 : csum (T123.2.1 40) (16 * x3_90.toInt).toNat 16 = csum (T94.2.1 40) (16 * x3_90.toInt).toNat 16 := congrArg (fun g => csum g (16 * x3_90.toInt).toNat 16) ((g126.2 40 rfl).trans (g114.2 40 rfl))
        unfold b_readCodes_213
        refine ⟨fun hc => ?_, fun hc => ?_⟩
        · have hq137 := hc
          have q138 : (0) ≤ (x8_122).toInt ∧ (x8_122).toInt ≤ (4080) := (show B 0 4080 (x8_122) from B_w b124 (by decide +kernel) (by decide +kernel))
          have i139 : (x5_92).toInt ≤ (x8_122).toInt := i_le hq137
          have g142 := ag_tr (ag_refl (fs := [10, 34, 35]) (rs := [40, 41]) (S := S14_29)) g100 (by decide +kernel) (by decide +kernel)
          have g141 := ag_tr g142 g114 (by decide +kernel) (by decide +kernel)
          have g140 := ag_tr g141 g126 (by decide +kernel) (by decide +kernel)
          exact hj64 b95 hI125 g140 (by show (T2.1 34).toInt ≤ (T123.1 34).toInt; first | with_reducible assumption | omega) (by show ((T123.1 35).toInt = 0) → (((T2.1 35).toInt = 0) ∧ (((T2.1 34).toInt + 1) ≤ (T123.1 34).toInt)); first | with_reducible assumption | exact (fun _ => by with_reducible assumption) | omega) (cB_tr (S := T123) (T := T123) r130 (Eq.trans ((g126.2 40 rfl).trans (g114.2 40 rfl)) (Eq.symm ((g126.2 40 rfl).trans (g114.2 40 rfl)))) (Eq.trans ((((g126.2 42 rfl).trans (g114.2 42 rfl)).trans (g100.2 42 rfl)).trans (g32.2 42 rfl)) (Eq.symm ((((g126.2 42 rfl).trans (g114.2 42 rfl)).trans (g100.2 42 rfl)).trans (g32.2 42 rfl)))) (by show (T123.1 35).toInt = 0 → ((T123.1 35).toInt = 0); first | with_reducible assumption | exact (fun _ => by with_reducible assumption) | omega)) (by show ((T123.1 35).toInt = 0) → ((0 ≤ x3_90.toInt) ∧ (x3_90.toInt ≤ 3)); first | with_reducible assumption | exact (fun _ => by with_reducible assumption) | omega) (by show ((T123.1 35).toInt = 0) → ((csum (T123.2.1 40) (16 * x3_90.toInt).toNat 16) ≤ 256); first | with_reducible assumption | exact (fun _ => by with_reducible assumption) | omega)
        · have hq143 := (nle_lt hc)
          have b144 : B 0 4079 (x8_122) := B_w (B_ltL b124 b97 hq143) (by decide +kernel) (by decide +kernel)
          have b145 : B 1 4080 (x5_92) := B_w (B_ltR b124 b97 hq143) (by decide +kernel) (by decide +kernel)
          have q146 : (1) ≤ (x5_92).toInt ∧ (x5_92).toInt ≤ (4080) := (show B 1 4080 (x5_92) from B_w b145 (by decide +kernel) (by decide +kernel))
          have q147 : (0) ≤ (x8_122).toInt ∧ (x8_122).toInt ≤ (4079) := (show B 0 4079 (x8_122) from B_w b144 (by decide +kernel) (by decide +kernel))
          have i148 : (x8_122).toInt < (x5_92).toInt := i_lt hq143
          refine ⟨fun hc => ?_, fun hc => ?_⟩
          · have b149 : B 1 8 (T123.1 35) := B_w (B_n0 (show B 0 8 (T123.1 35) from bf_35 hI125) hc) (by decide +kernel) (by decide +kernel)
            have q150 : (1) ≤ (T123.1 35).toInt ∧ (T123.1 35).toInt ≤ (8) := (show B 1 8 (T123.1 35) from B_w b149 (by decide +kernel) (by decide +kernel))
            have g153 := ag_tr (ag_refl (fs := [10, 34, 35]) (rs := [40, 41]) (S := S14_29)) g100 (by decide +kernel) (by decide +kernel)
            have g152 := ag_tr g153 g114 (by decide +kernel) (by decide +kernel)
            have g151 := ag_tr g152 g126 (by decide +kernel) (by decide +kernel)
            exact hj64 b95 hI125 g151 (by show (T2.1 34).toInt ≤ (T123.1 34).toInt; first | with_reducible assumption | omega) (by show ((T123.1 35).toInt = 0) → (((T2.1 35).toInt = 0) ∧ (((T2.1 34).toInt + 1) ≤ (T123.1 34).toInt)); first | with_reducible assumption | exact (fun _ => by with_reducible assumption) | omega) (fun h => absurd (show (T123.1 35).toInt = 0 from h) (by omega)) (by show ((T123.1 35).toInt = 0) → ((0 ≤ x3_90.toInt) ∧ (x3_90.toInt ≤ 3)); first | with_reducible assumption | exact (fun _ => by with_reducible assumption) | omega) (by show ((T123.1 35).toInt = 0) → ((csum (T123.2.1 40) (16 * x3_90.toInt).toNat 16) ≤ 256); first | with_reducible assumption | exact (fun _ => by with_reducible assumption) | omega)
          · have b154 : B 0 0 (T123.1 35) := B_w (B_eq hc cqb_0_0_0) (by decide +kernel) (by decide +kernel)
            have q155 : (0) ≤ (T123.1 35).toInt ∧ (T123.1 35).toInt ≤ (0) := (show B 0 0 (T123.1 35) from B_w b154 (by decide +kernel) (by decide +kernel))
            have i156 : (T123.1 35).toInt = (0 : Int32).toInt := congrArg Int32.toInt hc
            have n157 : (0 : Int32).toInt = 0 := cqn_0
            refine h_nextWithin hI125 (fun {v228_158} {S228_159} b160 hI161 g162 r163 r164 => ?_)
            have r165 : (T123.1 34).toInt ≤ (S228_159.1 34).toInt := r163
            clear r163
            have q166 : (0) ≤ (S228_159.1 34).toInt ∧ (S228_159.1 34).toInt ≤ (32768) := (show B 0 32768 (S228_159.1 34) from bf_34 hI161)
            have r167 : ((S228_159.1 35).toInt = 0) → (((T123.1 35).toInt = 0) ∧ (((T123.1 34).toInt + 1) ≤ (S228_159.1 34).toInt)) := r164
            clear r164
            have q168 : (0) ≤ (S228_159.1 35).toInt ∧ (S228_159.1 35).toInt ≤ (8) := (show B 0 8 (S228_159.1 35) from bf_35 hI161)
            have hj169 : ∀ {s1_170 : Int32}, B 0 1 s1_170 → ((T123.1 34).toInt ≤ (S228_159.1 34).toInt) → (((S228_159.1 35).toInt = 0) → ((T123.1 35).toInt = 0)) → b_readCodes_291 x3_90 x5_92 x8_122 v228_158 s1_170 S228_159 R2 R213 K := by
              intro s1_170 b171 r172 r173
              unfold b_readCodes_291
              refine h_must b171 (B_w (B_sub (show B 0 32768 (S228_159.1 34) from bf_34 hI161) cqb_1_1_1 (by decide +kernel) (by decide +kernel)) (by decide +kernel) (by decide +kernel)) hI161 (fun {S297_174} hI175 g176 r177 r178 => ?_)
              have r179 : ((S297_174.1 35).toInt = 0) → ((S228_159.1 35).toInt = 0) := r177
              clear r177
              have q180 : (0) ≤ (S297_174.1 35).toInt ∧ (S297_174.1 35).toInt ≤ (8) := (show B 0 8 (S297_174.1 35) from bf_35 hI175)
              have r181 : (s1_170.toInt = 0) → (1 ≤ (S297_174.1 35).toInt) := r178
              clear r178
              have q182 : (0) ≤ (s1_170).toInt ∧ (s1_170).toInt ≤ (1) := (show B 0 1 (s1_170) from B_w b171 (by decide +kernel) (by decide +kernel))
              refine ⟨fun hc => ?_, fun hc => ?_⟩
              · have b183 : B 1 8 (S297_174.1 35) := B_w (B_n0 (show B 0 8 (S297_174.1 35) from bf_35 hI175) hc) (by decide +kernel) (by decide +kernel)
                have q184 : (1) ≤ (S297_174.1 35).toInt ∧ (S297_174.1 35).toInt ≤ (8) := (show B 1 8 (S297_174.1 35) from B_w b183 (by decide +kernel) (by decide +kernel))
                unfold b_readCodes_322
                have g187 := ag_tr (ag_refl (fs := [10, 34, 35]) (rs := [41]) (S := S207_112)) g126 (by decide +kernel) (by decide +kernel)
                have g186 := ag_tr g187 g162 (by decide +kernel) (by decide +kernel)
                have g185 := ag_tr g186 g176 (by decide +kernel) (by decide +kernel)
                have e188 : (S297_174.1 34).toInt = (S228_159.1 34).toInt := (congrArg Int32.toInt (g176.1 34 rfl)).trans rfl
                have e189 : csum (S297_174.2.1 40) (16 * x3_90.toInt).toNat 16 = csum (T94.2.1 40) (16 * x3_90.toInt).toNat 16 := congrArg (fun g => csum g (16 * x3_90.toInt).toNat 16) ((((g176.2 40 rfl).trans (g162.2 40 rfl)).trans (g126.2 40 rfl)).trans (g114.2 40 rfl))
                have e190 : (x8_122 + 1).toInt = ((x8_122).toInt + 1) := (t_add b144 cqb_1_1_1 (by decide +kernel) (by decide +kernel)).trans (by rw [cqn_1])
                have q191 : (1) ≤ (x8_122 + 1).toInt ∧ (x8_122 + 1).toInt ≤ (4080) := (show B 1 4080 (x8_122 + 1) from B_w (B_add b144 cqb_1_1_1 (by decide +kernel) (by decide +kernel)) (by decide +kernel) (by decide +kernel))
                exact hR213 ⟨rfl, rfl, (B_w (B_add b144 cqb_1_1_1 (by decide +kernel) (by decide +kernel)) (by decide +kernel) (by decide +kernel)), hI175, g185, (by show (T2.1 34).toInt ≤ (S297_174.1 34).toInt; first | with_reducible assumption | omega), (by show ((S297_174.1 35).toInt = 0) → (((T2.1 35).toInt = 0) ∧ (((T2.1 34).toInt + 1) ≤ (S297_174.1 34).toInt)); first | with_reducible assumption | exact (fun _ => by with_reducible assumption) | omega), (fun h => absurd (show (S297_174.1 35).toInt = 0 from h) (by omega)), (by show ((S297_174.1 35).toInt = 0) → ((0 ≤ x3_90.toInt) ∧ (x3_90.toInt ≤ 3)); first | with_reducible assumption | exact (fun _ => by with_reducible assumption) | omega), (by show ((S297_174.1 35).toInt = 0) → ((x5_92.toInt ≤ 256) ∧ ((csum (S297_174.2.1 40) (16 * x3_90.toInt).toNat 16) ≤ 256)); first | with_reducible assumption | exact (fun _ => by with_reducible assumption) | omega)⟩ (by show (4080 - (x8_122 + 1).toInt).toNat < (4080 - x8_122.toInt).toNat; omega)
              · have b192 : B 0 0 (S297_174.1 35) := B_w (B_eq hc cqb_0_0_0) (by decide +kernel) (by decide +kernel)
                have q193 : (0) ≤ (S297_174.1 35).toInt ∧ (S297_174.1 35).toInt ≤ (0) := (show B 0 0 (S297_174.1 35) from B_w b192 (by decide +kernel) (by decide +kernel))
                have i194 : (S297_174.1 35).toInt = (0 : Int32).toInt := congrArg Int32.toInt hc
                have n195 : (0 : Int32).toInt = 0 := cqn_0
                have e196 : (256 * x3_90).toInt = (256 * (x3_90).toInt) := (t_mulS (m := 256) (n := 241) (B_w cqb_256_256_256 (by decide +kernel) (by decide +kernel)) (B_w b95 (by decide +kernel) (by decide +kernel)) (by decide +kernel)).trans (by rw [cqn_256])
                have q197 : (-61696) ≤ (256 * x3_90).toInt ∧ (256 * x3_90).toInt ≤ (61696) := (show B (-61696) 61696 (256 * x3_90) from B_mulS (m := 256) (n := 241) (B_w cqb_256_256_256 (by decide +kernel) (by decide +kernel)) (B_w b95 (by decide +kernel) (by decide +kernel)) (by decide +kernel))
                have e198 : ((256 * x3_90) + x8_122).toInt = ((256 * (x3_90).toInt) + (x8_122).toInt) := (t_add (show B (-61696) 61696 (256 * x3_90) from B_mulS (m := 256) (n := 241) (B_w cqb_256_256_256 (by decide +kernel) (by decide +kernel)) (B_w b95 (by decide +kernel) (by decide +kernel)) (by decide +kernel)) b144 (by decide +kernel) (by decide +kernel)).trans (by rw [e196])
                have q199 : (-61696) ≤ ((256 * x3_90) + x8_122).toInt ∧ ((256 * x3_90) + x8_122).toInt ≤ (65775) := (show B (-61696) 65775 ((256 * x3_90) + x8_122) from B_w (B_add (show B (-61696) 61696 (256 * x3_90) from B_mulS (m := 256) (n := 241) (B_w cqb_256_256_256 (by decide +kernel) (by decide +kernel)) (B_w b95 (by decide +kernel) (by decide +kernel)) (by decide +kernel)) b144 (by decide +kernel) (by decide +kernel)) (by decide +kernel) (by decide +kernel))
                refine ⟨vp_om (x := (256 * x3_90) + x8_122) (by omega) (by omega), ?_⟩
                have b200 : B 0 1023 ((256 * x3_90) + x8_122) := ⟨by omega, by omega⟩
                unfold b_readCodes_322
                have hI201 := IM_r (r := 41) (i := ((256 * x3_90) + x8_122).toNatClampNeg) (v := v228_158) hI175 b160 (by decide +kernel) (by decide +kernel)
                have g205 := ag_tr (ag_refl (fs := [10, 34, 35]) (rs := [41]) (S := S207_112)) g126 (by decide +kernel) (by decide +kernel)
                have g204 := ag_tr g205 g162 (by decide +kernel) (by decide +kernel)
                have g203 := ag_tr g204 g176 (by decide +kernel) (by decide +kernel)
                have g202 := ag_r (r := 41) (w := upd (S297_174.2.1 41) ((256 * x3_90) + x8_122).toNatClampNeg v228_158) g203 (by decide +kernel)
                have e206 : (S297_174.1 34).toInt = (S228_159.1 34).toInt := (congrArg Int32.toInt (g176.1 34 rfl)).trans rfl
                have e207 : csum (S297_174.2.1 40) (16 * x3_90.toInt).toNat 16 = csum (T94.2.1 40) (16 * x3_90.toInt).toNat 16 := congrArg (fun g => csum g (16 * x3_90.toInt).toNat 16) ((((g176.2 40 rfl).trans (g162.2 40 rfl)).trans (g126.2 40 rfl)).trans (g114.2 40 rfl))
                have e208 : (x8_122 + 1).toInt = ((x8_122).toInt + 1) := (t_add b144 cqb_1_1_1 (by decide +kernel) (by decide +kernel)).trans (by rw [cqn_1])
                have q209 : (1) ≤ (x8_122 + 1).toInt ∧ (x8_122 + 1).toInt ≤ (4080) := (show B 1 4080 (x8_122 + 1) from B_w (B_add b144 cqb_1_1_1 (by decide +kernel) (by decide +kernel)) (by decide +kernel) (by decide +kernel))
                exact hR213 ⟨rfl, rfl, (B_w (B_add b144 cqb_1_1_1 (by decide +kernel) (by decide +kernel)) (by decide +kernel) (by decide +kernel)), hI201, g202, (by show (T2.1 34).toInt ≤ (S297_174.1 34).toInt; first | with_reducible assumption | omega), (by show ((S297_174.1 35).toInt = 0) → (((T2.1 35).toInt = 0) ∧ (((T2.1 34).toInt + 1) ≤ (S297_174.1 34).toInt)); first | with_reducible assumption | exact (fun _ => by with_reducible assumption) | omega), (cB_tr (S := T123) (T := (S297_174.1, va_up S297_174.2.1 41 (upd (S297_174.2.1 41) ((256 * x3_90) + x8_122).toNatClampNeg v228_158), S297_174.2.2)) r130 (Eq.trans ((((g176.2 40 rfl).trans (g162.2 40 rfl)).trans (g126.2 40 rfl)).trans (g114.2 40 rfl)) (Eq.symm ((g126.2 40 rfl).trans (g114.2 40 rfl)))) (Eq.trans ((((((g176.2 42 rfl).trans (g162.2 42 rfl)).trans (g126.2 42 rfl)).trans (g114.2 42 rfl)).trans (g100.2 42 rfl)).trans (g32.2 42 rfl)) (Eq.symm ((((g126.2 42 rfl).trans (g114.2 42 rfl)).trans (g100.2 42 rfl)).trans (g32.2 42 rfl)))) (by show (S297_174.1 35).toInt = 0 → ((T123.1 35).toInt = 0); first | with_reducible assumption | exact (fun _ => by with_reducible assumption) | omega)), (by show ((S297_174.1 35).toInt = 0) → ((0 ≤ x3_90.toInt) ∧ (x3_90.toInt ≤ 3)); first | with_reducible assumption | exact (fun _ => by with_reducible assumption) | omega), (by show ((S297_174.1 35).toInt = 0) → ((x5_92.toInt ≤ 256) ∧ ((csum (S297_174.2.1 40) (16 * x3_90.toInt).toNat 16) ≤ 256)); first | with_reducible assumption | exact (fun _ => by with_reducible assumption) | omega)⟩ (by show (4080 - (x8_122 + 1).toInt).toNat < (4080 - x8_122.toInt).toNat; omega)
            refine ⟨fun hc => ?_, fun hc => ?_⟩
            · have hq210 := hc
              have b211 : B 2 241 (x3_90) := B_w (B_leR cqb_2_2_2 b95 hq210) (by decide +kernel) (by decide +kernel)
              have q212 : (2) ≤ (x3_90).toInt ∧ (x3_90).toInt ≤ (241) := (show B 2 241 (x3_90) from B_w b211 (by decide +kernel) (by decide +kernel))
              refine ⟨fun hc => ?_, fun hc => ?_⟩
              · have b213 : B 0 0 (v228_158) := B_w (B_eq hc cqb_0_0_0) (by decide +kernel) (by decide +kernel)
                have q214 : (0) ≤ (v228_158).toInt ∧ (v228_158).toInt ≤ (0) := (show B 0 0 (v228_158) from B_w b213 (by decide +kernel) (by decide +kernel))
                have i215 : (v228_158).toInt = (0 : Int32).toInt := congrArg Int32.toInt hc
                have n216 : (0 : Int32).toInt = 0 := cqn_0
                unfold b_readCodes_286
                exact hj169 (B_w cqb_1_1_1 (by decide +kernel) (by decide +kernel)) (by show (T123.1 34).toInt ≤ (S228_159.1 34).toInt; first | with_reducible assumption | omega) (by show ((S228_159.1 35).toInt = 0) → ((T123.1 35).toInt = 0); first | with_reducible assumption | exact (fun _ => by with_reducible assumption) | omega)
              · have b217 : B 1 255 (v228_158) := B_w (B_n0 b160 hc) (by decide +kernel) (by decide +kernel)
                refine ⟨fun hc => ?_, fun hc => ?_⟩
                · have b218 : B 240 240 (v228_158) := B_w (B_eq hc cqb_240_240_240) (by decide +kernel) (by decide +kernel)
                  have q219 : (240) ≤ (v228_158).toInt ∧ (v228_158).toInt ≤ (240) := (show B 240 240 (v228_158) from B_w b218 (by decide +kernel) (by decide +kernel))
                  have i220 : (v228_158).toInt = (240 : Int32).toInt := congrArg Int32.toInt hc
                  have n221 : (240 : Int32).toInt = 240 := cqn_240
                  unfold b_readCodes_286
                  exact hj169 (B_w cqb_1_1_1 (by decide +kernel) (by decide +kernel)) (by show (T123.1 34).toInt ≤ (S228_159.1 34).toInt; first | with_reducible assumption | omega) (by show ((S228_159.1 35).toInt = 0) → ((T123.1 35).toInt = 0); first | with_reducible assumption | exact (fun _ => by with_reducible assumption) | omega)
                · have q222 : (1) ≤ (v228_158).toInt ∧ (v228_158).toInt ≤ (255) := (show B 1 255 (v228_158) from B_w b217 (by decide +kernel) (by decide +kernel))
                  have i223 : (v228_158).toInt ≠ (240 : Int32).toInt := i_ne hc
                  have n224 : (240 : Int32).toInt = 240 := cqn_240
                  refine ⟨fun hc => ?_, fun hc => ?_⟩
                  · have hq225 := hc
                    have b226 : B 0 0 (v228_158 &&& 15) := B_w (B_leL (show B 0 15 (v228_158 &&& 15) from B_and (k := 4) (by decide +kernel) (by decide +kernel)) cqb_0_0_0 hq225) (by decide +kernel) (by decide +kernel)
                    have q227 : (0) ≤ (v228_158 &&& 15).toInt ∧ (v228_158 &&& 15).toInt ≤ (0) := (show B 0 0 (v228_158 &&& 15) from B_w b226 (by decide +kernel) (by decide +kernel))
                    have i228 : (v228_158 &&& 15).toInt ≤ (0 : Int32).toInt := i_le hq225
                    have n229 : (0 : Int32).toInt = 0 := cqn_0
                    unfold b_readCodes_290
                    exact hj169 (B_w cqb_0_0_0 (by decide +kernel) (by decide +kernel)) (by show (T123.1 34).toInt ≤ (S228_159.1 34).toInt; first | with_reducible assumption | omega) (by show ((S228_159.1 35).toInt = 0) → ((T123.1 35).toInt = 0); first | with_reducible assumption | exact (fun _ => by with_reducible assumption) | omega)
                  · have hq230 := (nle_lt hc)
                    have b231 : B 1 15 (v228_158 &&& 15) := B_w (B_ltR cqb_0_0_0 (show B 0 15 (v228_158 &&& 15) from B_and (k := 4) (by decide +kernel) (by decide +kernel)) hq230) (by decide +kernel) (by decide +kernel)
                    have q232 : (1) ≤ (v228_158 &&& 15).toInt ∧ (v228_158 &&& 15).toInt ≤ (15) := (show B 1 15 (v228_158 &&& 15) from B_w b231 (by decide +kernel) (by decide +kernel))
                    have i233 : (0 : Int32).toInt < (v228_158 &&& 15).toInt := i_lt hq230
                    have n234 : (0 : Int32).toInt = 0 := cqn_0
                    refine ⟨fun hc => ?_, fun hc => ?_⟩
                    · have hq235 := hc
                      have b236 : B 11 15 (v228_158 &&& 15) := B_w (B_leR cqb_11_11_11 b231 hq235) (by decide +kernel) (by decide +kernel)
                      have q237 : (11) ≤ (v228_158 &&& 15).toInt ∧ (v228_158 &&& 15).toInt ≤ (15) := (show B 11 15 (v228_158 &&& 15) from B_w b236 (by decide +kernel) (by decide +kernel))
                      have i238 : (11 : Int32).toInt ≤ (v228_158 &&& 15).toInt := i_le hq235
                      have n239 : (11 : Int32).toInt = 11 := cqn_11
                      unfold b_readCodes_290
                      exact hj169 (B_w cqb_0_0_0 (by decide +kernel) (by decide +kernel)) (by show (T123.1 34).toInt ≤ (S228_159.1 34).toInt; first | with_reducible assumption | omega) (by show ((S228_159.1 35).toInt = 0) → ((T123.1 35).toInt = 0); first | with_reducible assumption | exact (fun _ => by with_reducible assumption) | omega)
                    · have hq240 := (nle_lt hc)
                      have b241 : B 1 10 (v228_158 &&& 15) := B_w (B_ltL b231 cqb_11_11_11 hq240) (by decide +kernel) (by decide +kernel)
                      have q242 : (1) ≤ (v228_158 &&& 15).toInt ∧ (v228_158 &&& 15).toInt ≤ (10) := (show B 1 10 (v228_158 &&& 15) from B_w b241 (by decide +kernel) (by decide +kernel))
                      have i243 : (v228_158 &&& 15).toInt < (11 : Int32).toInt := i_lt hq240
                      have n244 : (11 : Int32).toInt = 11 := cqn_11
                      unfold b_readCodes_286
                      exact hj169 (B_w cqb_1_1_1 (by decide +kernel) (by decide +kernel)) (by show (T123.1 34).toInt ≤ (S228_159.1 34).toInt; first | with_reducible assumption | omega) (by show ((S228_159.1 35).toInt = 0) → ((T123.1 35).toInt = 0); first | with_reducible assumption | exact (fun _ => by with_reducible assumption) | omega)
            · have hq245 := (nle_lt hc)
              have b246 : B (-12) 1 (x3_90) := B_w (B_ltL b95 cqb_2_2_2 hq245) (by decide +kernel) (by decide +kernel)
              have q247 : (-12) ≤ (x3_90).toInt ∧ (x3_90).toInt ≤ (1) := (show B (-12) 1 (x3_90) from B_w b246 (by decide +kernel) (by decide +kernel))
              refine ⟨fun hc => ?_, fun hc => ?_⟩
              · have hq248 := hc
                have b249 : B 12 255 (v228_158) := B_w (B_leR cqb_12_12_12 b160 hq248) (by decide +kernel) (by decide +kernel)
                exact hj169 (B_w cqb_0_0_0 (by decide +kernel) (by decide +kernel)) (by show (T123.1 34).toInt ≤ (S228_159.1 34).toInt; first | with_reducible assumption | omega) (by show ((S228_159.1 35).toInt = 0) → ((T123.1 35).toInt = 0); first | with_reducible assumption | exact (fun _ => by with_reducible assumption) | omega)
              · have hq250 := (nle_lt hc)
                have b251 : B 0 11 (v228_158) := B_w (B_ltL b160 cqb_12_12_12 hq250) (by decide +kernel) (by decide +kernel)
                exact hj169 (B_w cqb_1_1_1 (by decide +kernel) (by decide +kernel)) (by show (T123.1 34).toInt ≤ (S228_159.1 34).toInt; first | with_reducible assumption | omega) (by show ((S228_159.1 35).toInt = 0) → ((T123.1 35).toInt = 0); first | with_reducible assumption | exact (fun _ => by with_reducible assumption) | omega)
      have hj252 : ∀ {x3_253 : Int32} {x4_254 : Int32} {x5_255 : Int32} {x7_256 : Int32} {T257 : ms}, B (-12) 241 x3_253 → B 0 32768 x4_254 → B 0 4080 x5_255 → B 0 1 x7_256 → IM T257 → ag [10, 34, 35] [40] S14_29 T257 → ((T2.1 34).toInt ≤ (T257.1 34).toInt) → (((T257.1 35).toInt = 0) → (((T2.1 35).toInt = 0) ∧ (((T2.1 34).toInt + 1) ≤ (T257.1 34).toInt))) → (cB x3_253 T257) → (((T257.1 35).toInt = 0) → (x5_255.toInt = (csum (T257.2.1 40) (16 * x3_253.toInt).toNat 16))) → (((T257.1 35).toInt = 0) → ((0 ≤ x3_253.toInt) ∧ (x3_253.toInt ≤ 3))) → b_readCodes_186 x3_253 x4_254 x5_255 x7_256 T257 R2 K := by
        intro x3_253 x4_254 x5_255 x7_256 T257 b258 b259 b260 b261 hI262 g263 r264 r265 r266 r267 r268
        have q269 : (0) ≤ (T257.1 34).toInt ∧ (T257.1 34).toInt ≤ (32768) := (show B 0 32768 (T257.1 34) from bf_34 hI262)
        have q270 : (0) ≤ (T257.1 35).toInt ∧ (T257.1 35).toInt ≤ (8) := (show B 0 8 (T257.1 35) from bf_35 hI262)
        have q271 : (0) ≤ (x5_255).toInt ∧ (x5_255).toInt ≤ (4080) := (show B 0 4080 (x5_255) from B_w b260 (by decide +kernel) (by decide +kernel))
        have q272 : (-12) ≤ (x3_253).toInt ∧ (x3_253).toInt ≤ (241) := (show B (-12) 241 (x3_253) from B_w b258 (by decide +kernel) (by decide +kernel))
        unfold b_readCodes_186
        refine ⟨fun hc => ?_, fun hc => ?_⟩
        · have b273 : B 0 0 (x7_256) := B_w (B_eq hc cqb_0_0_0) (by decide +kernel) (by decide +kernel)
          have q274 : (0) ≤ (x7_256).toInt ∧ (x7_256).toInt ≤ (0) := (show B 0 0 (x7_256) from B_w b273 (by decide +kernel) (by decide +kernel))
          have i275 : (x7_256).toInt = (0 : Int32).toInt := congrArg Int32.toInt hc
          have n276 : (0 : Int32).toInt = 0 := cqn_0
          unfold b_readCodes_204
          have g277 := ag_tr (ag_refl (fs := [10, 34, 35]) (rs := [40]) (S := S14_29)) g263 (by decide +kernel) (by decide +kernel)
          exact hj89 b258 b259 b260 (B_w cqb_0_0_0 (by decide +kernel) (by decide +kernel)) hI262 g277 (by show (T2.1 34).toInt ≤ (T257.1 34).toInt; first | with_reducible assumption | omega) (by show ((T257.1 35).toInt = 0) → (((T2.1 35).toInt = 0) ∧ (((T2.1 34).toInt + 1) ≤ (T257.1 34).toInt)); first | with_reducible assumption | exact (fun _ => by with_reducible assumption) | omega) (cB_tr (S := T257) (T := T257) r266 rfl (Eq.trans ((g263.2 42 rfl).trans (g32.2 42 rfl)) (Eq.symm ((g263.2 42 rfl).trans (g32.2 42 rfl)))) (by show (T257.1 35).toInt = 0 → ((T257.1 35).toInt = 0); first | with_reducible assumption | exact (fun _ => by with_reducible assumption) | omega)) (by show ((T257.1 35).toInt = 0) → (x5_255.toInt = (csum (T257.2.1 40) (16 * x3_253.toInt).toNat 16)); first | with_reducible assumption | exact (fun _ => by with_reducible assumption) | omega) (by show ((T257.1 35).toInt = 0) → ((0 ≤ x3_253.toInt) ∧ (x3_253.toInt ≤ 3)); first | with_reducible assumption | exact (fun _ => by with_reducible assumption) | omega) (by show (0 = 1) → (x5_255.toInt ≤ 256); first | with_reducible assumption | exact (fun _ => by with_reducible assumption) | omega)
        · have b278 : B 1 1 (x7_256) := B_w (B_n0 b261 hc) (by decide +kernel) (by decide +kernel)
          refine ⟨fun hc => ?_, fun hc => ?_⟩
          · have hq279 := hc
            have b280 : B 257 4080 (x5_255) := B_w (B_ltR cqb_256_256_256 b260 hq279) (by decide +kernel) (by decide +kernel)
            have q281 : (257) ≤ (x5_255).toInt ∧ (x5_255).toInt ≤ (4080) := (show B 257 4080 (x5_255) from B_w b280 (by decide +kernel) (by decide +kernel))
            unfold b_readCodes_204
            have g282 := ag_tr (ag_refl (fs := [10, 34, 35]) (rs := [40]) (S := S14_29)) g263 (by decide +kernel) (by decide +kernel)
            exact hj89 b258 b259 (B_w b280 (by decide +kernel) (by decide +kernel)) (B_w cqb_0_0_0 (by decide +kernel) (by decide +kernel)) hI262 g282 (by show (T2.1 34).toInt ≤ (T257.1 34).toInt; first | with_reducible assumption | omega) (by show ((T257.1 35).toInt = 0) → (((T2.1 35).toInt = 0) ∧ (((T2.1 34).toInt + 1) ≤ (T257.1 34).toInt)); first | with_reducible assumption | exact (fun _ => by with_reducible assumption) | omega) (cB_tr (S := T257) (T := T257) r266 rfl (Eq.trans ((g263.2 42 rfl).trans (g32.2 42 rfl)) (Eq.symm ((g263.2 42 rfl).trans (g32.2 42 rfl)))) (by show (T257.1 35).toInt = 0 → ((T257.1 35).toInt = 0); first | with_reducible assumption | exact (fun _ => by with_reducible assumption) | omega)) (by show ((T257.1 35).toInt = 0) → (x5_255.toInt = (csum (T257.2.1 40) (16 * x3_253.toInt).toNat 16)); first | with_reducible assumption | exact (fun _ => by with_reducible assumption) | omega) (by show ((T257.1 35).toInt = 0) → ((0 ≤ x3_253.toInt) ∧ (x3_253.toInt ≤ 3)); first | with_reducible assumption | exact (fun _ => by with_reducible assumption) | omega) (by show (0 = 1) → (x5_255.toInt ≤ 256); first | with_reducible assumption | exact (fun _ => by with_reducible assumption) | omega)
          · have hq283 := (nlt_le hc)
            have b284 : B 0 256 (x5_255) := B_w (B_leL b260 cqb_256_256_256 hq283) (by decide +kernel) (by decide +kernel)
            have q285 : (0) ≤ (x5_255).toInt ∧ (x5_255).toInt ≤ (256) := (show B 0 256 (x5_255) from B_w b284 (by decide +kernel) (by decide +kernel))
            have g286 := ag_tr (ag_refl (fs := [10, 34, 35]) (rs := [40]) (S := S14_29)) g263 (by decide +kernel) (by decide +kernel)
            exact hj89 b258 b259 (B_w b284 (by decide +kernel) (by decide +kernel)) (B_w cqb_1_1_1 (by decide +kernel) (by decide +kernel)) hI262 g286 (by show (T2.1 34).toInt ≤ (T257.1 34).toInt; first | with_reducible assumption | omega) (by show ((T257.1 35).toInt = 0) → (((T2.1 35).toInt = 0) ∧ (((T2.1 34).toInt + 1) ≤ (T257.1 34).toInt)); first | with_reducible assumption | exact (fun _ => by with_reducible assumption) | omega) (cB_tr (S := T257) (T := T257) r266 rfl (Eq.trans ((g263.2 42 rfl).trans (g32.2 42 rfl)) (Eq.symm ((g263.2 42 rfl).trans (g32.2 42 rfl)))) (by show (T257.1 35).toInt = 0 → ((T257.1 35).toInt = 0); first | with_reducible assumption | exact (fun _ => by with_reducible assumption) | omega)) (by show ((T257.1 35).toInt = 0) → (x5_255.toInt = (csum (T257.2.1 40) (16 * x3_253.toInt).toNat 16)); first | with_reducible assumption | exact (fun _ => by with_reducible assumption) | omega) (by show ((T257.1 35).toInt = 0) → ((0 ≤ x3_253.toInt) ∧ (x3_253.toInt ≤ 3)); first | with_reducible assumption | exact (fun _ => by with_reducible assumption) | omega) (by show (1 = 1) → (x5_255.toInt ≤ 256); first | with_reducible assumption | exact (fun _ => by with_reducible assumption) | omega)
      have hj287 : ∀ {s0_288 : Int32} {T289 : ms}, B (-12) 241 s0_288 → IM T289 → ag [10, 35] [] S14_29 T289 → ((T2.1 34).toInt ≤ (T289.1 34).toInt) → (((T289.1 35).toInt = 0) → (((T2.1 35).toInt = 0) ∧ (((T2.1 34).toInt + 1) ≤ (T289.1 34).toInt))) → (((T289.1 35).toInt = 0) → ((0 ≤ s0_288.toInt) ∧ (s0_288.toInt ≤ 3))) → b_readCodes_63 s0_288 T289 R2 K := by
        intro s0_288 T289 b290 hI291 g292 r293 r294 r295
        have e296 : (T289.1 34).toInt = (S14_29.1 34).toInt := (congrArg Int32.toInt (g292.1 34 rfl)).trans rfl
        have q297 : (0) ≤ (T289.1 35).toInt ∧ (T289.1 35).toInt ≤ (8) := (show B 0 8 (T289.1 35) from bf_35 hI291)
        have q298 : (-12) ≤ (s0_288).toInt ∧ (s0_288).toInt ≤ (241) := (show B (-12) 241 (s0_288) from B_w b290 (by decide +kernel) (by decide +kernel))
        unfold b_readCodes_63
        have e315 : csum (T289.2.1 40) (16 * s0_288.toInt).toNat 0 = 0 := rfl
        refine ⟨fun yx3 yx4 yx5 yx6 yx7 yx8 yS => s0_288 = yx3 ∧ (T289.1 34) = yx4 ∧ B 0 4080 yx5 ∧ B 0 100000 yx6 ∧ B 0 1 yx7 ∧ B 0 16 yx8 ∧ IM yS ∧ ag [10, 34, 35] [40] T289 yS ∧ ((T2.1 34).toInt ≤ (yS.1 34).toInt) ∧ (((yS.1 35).toInt = 0) → (((T2.1 35).toInt = 0) ∧ (((T2.1 34).toInt + 1) ≤ (yS.1 34).toInt))) ∧ (cB yx3 yS) ∧ (((yS.1 35).toInt = 0) → (yx5.toInt = (csum (yS.2.1 40) (16 * yx3.toInt).toNat yx8.toInt.toNat))) ∧ (((yS.1 35).toInt = 0) → ((0 ≤ yx3.toInt) ∧ (yx3.toInt ≤ 3))) ∧ (yx5.toInt ≤ (255 * yx8.toInt)), fun yx3 yx4 yx5 yx6 yx7 yx8 yS => (16 - yx8.toInt).toNat, ⟨rfl, rfl, (B_w cqb_0_0_0 (by decide +kernel) (by decide +kernel)), (B_w cqb_0_0_0 (by decide +kernel) (by decide +kernel)), (B_w cqb_1_1_1 (by decide +kernel) (by decide +kernel)), (B_w cqb_0_0_0 (by decide +kernel) (by decide +kernel)), hI291, (ag_refl (fs := [10, 34, 35]) (rs := [40]) (S := T289)), (by show (T2.1 34).toInt ≤ (T289.1 34).toInt; first | with_reducible assumption | omega), (by show ((T289.1 35).toInt = 0) → (((T2.1 35).toInt = 0) ∧ (((T2.1 34).toInt + 1) ≤ (T289.1 34).toInt)); first | with_reducible assumption | exact (fun _ => by with_reducible assumption) | omega), (cB_of (S := T2) (T := T289) r10 ((g292.2 40 rfl).trans (g32.2 40 rfl)) ((g292.2 42 rfl).trans (g32.2 42 rfl)) (by show (T289.1 35).toInt = 0 → ((T2.1 35).toInt = 0); first | with_reducible assumption | exact (fun _ => by with_reducible assumption) | omega)), (by show ((T289.1 35).toInt = 0) → (0 = (csum (T289.2.1 40) (16 * s0_288.toInt).toNat 0)); first | with_reducible assumption | exact (fun _ => by with_reducible assumption) | omega), (by show ((T289.1 35).toInt = 0) → ((0 ≤ s0_288.toInt) ∧ (s0_288.toInt ≤ 3)); first | with_reducible assumption | exact (fun _ => by with_reducible assumption) | omega), (by show 0 ≤ (255 * 0); first | with_reducible assumption | omega)⟩, fun x3_299 x4_300 x5_301 x6_302 x7_303 x8_304 T305 hIv => ?_⟩
        obtain ⟨rfl, rfl, b306, b307, b308, b309, hI310, g311, r312, r313, r314, r316, r317, r318⟩ := hIv
        suffices hs : ∀ (R82 : Int32 → Int32 → Int32 → Int32 → Int32 → Int32 → ms → Prop), (∀ zx3 zx4 zx5 zx6 zx7 zx8 zS, (s0_288 = zx3 ∧ (T289.1 34) = zx4 ∧ B 0 4080 zx5 ∧ B 0 100000 zx6 ∧ B 0 1 zx7 ∧ B 0 16 zx8 ∧ IM zS ∧ ag [10, 34, 35] [40] T289 zS ∧ ((T2.1 34).toInt ≤ (zS.1 34).toInt) ∧ (((zS.1 35).toInt = 0) → (((T2.1 35).toInt = 0) ∧ (((T2.1 34).toInt + 1) ≤ (zS.1 34).toInt))) ∧ (cB zx3 zS) ∧ (((zS.1 35).toInt = 0) → (zx5.toInt = (csum (zS.2.1 40) (16 * zx3.toInt).toNat zx8.toInt.toNat))) ∧ (((zS.1 35).toInt = 0) → ((0 ≤ zx3.toInt) ∧ (zx3.toInt ≤ 3))) ∧ (zx5.toInt ≤ (255 * zx8.toInt))) → (16 - zx8.toInt).toNat < (16 - x8_304.toInt).toNat → R82 zx3 zx4 zx5 zx6 zx7 zx8 zS) → b_readCodes_82 s0_288 (T289.1 34) x5_301 x6_302 x7_303 x8_304 T305 R2 R82 K from hs _ (fun _ _ _ _ _ _ _ h1 h2 => ⟨h1, h2⟩)
        intro R82 hR820
        have hR82 := fun {zx3} {zx4} {zx5} {zx6} {zx7} {zx8} {zS} => hR820 zx3 zx4 zx5 zx6 zx7 zx8 zS
        have q319 : (0) ≤ (T305.1 34).toInt ∧ (T305.1 34).toInt ≤ (32768) := (show B 0 32768 (T305.1 34) from bf_34 hI310)
        have q320 : (0) ≤ (T305.1 35).toInt ∧ (T305.1 35).toInt ≤ (8) := (show B 0 8 (T305.1 35) from bf_35 hI310)
        have q321 : (0) ≤ (x5_301).toInt ∧ (x5_301).toInt ≤ (4080) := (show B 0 4080 (x5_301) from B_w b306 (by decide +kernel) (by decide +kernel))
        have q322 : (0) ≤ (x8_304).toInt ∧ (x8_304).toInt ≤ (16) := (show B 0 16 (x8_304) from B_w b309 (by decide +kernel) (by decide +kernel))
        unfold b_readCodes_82
        refine ⟨fun hc => ?_, fun hc => ?_⟩
        · have hq323 := hc
          have b324 : B 16 16 (x8_304) := B_w (B_leR cqb_16_16_16 b309 hq323) (by decide +kernel) (by decide +kernel)
          have q325 : (16) ≤ (x8_304).toInt ∧ (x8_304).toInt ≤ (16) := (show B 16 16 (x8_304) from B_w b324 (by decide +kernel) (by decide +kernel))
          have g327 := ag_tr (ag_refl (fs := [10, 34, 35]) (rs := [40]) (S := S14_29)) g292 (by decide +kernel) (by decide +kernel)
          have g326 := ag_tr g327 g311 (by decide +kernel) (by decide +kernel)
          have k328 : 16 ≤ (x8_304).toInt → csum (T305.2.1 40) (16 * s0_288.toInt).toNat x8_304.toInt.toNat = csum (T305.2.1 40) (16 * s0_288.toInt).toNat 16 := fun h => by rw [show (x8_304).toInt.toNat = 16 by omega]
          exact hj252 b290 (B_w (B_eq (g292.1 34 rfl) (show B 0 32768 (S14_29.1 34) from bf_34 hI31)) (by decide +kernel) (by decide +kernel)) b306 b308 hI310 g326 (by show (T2.1 34).toInt ≤ (T305.1 34).toInt; first | with_reducible assumption | omega) (by show ((T305.1 35).toInt = 0) → (((T2.1 35).toInt = 0) ∧ (((T2.1 34).toInt + 1) ≤ (T305.1 34).toInt)); first | with_reducible assumption | exact (fun _ => by with_reducible assumption) | omega) (cB_tr (S := T305) (T := T305) r314 rfl (Eq.trans (((g311.2 42 rfl).trans (g292.2 42 rfl)).trans (g32.2 42 rfl)) (Eq.symm (((g311.2 42 rfl).trans (g292.2 42 rfl)).trans (g32.2 42 rfl)))) (by show (T305.1 35).toInt = 0 → ((T305.1 35).toInt = 0); first | with_reducible assumption | exact (fun _ => by with_reducible assumption) | omega)) (by show ((T305.1 35).toInt = 0) → (x5_301.toInt = (csum (T305.2.1 40) (16 * s0_288.toInt).toNat 16)); first | with_reducible assumption | exact (fun _ => by with_reducible assumption) | omega) (by show ((T305.1 35).toInt = 0) → ((0 ≤ s0_288.toInt) ∧ (s0_288.toInt ≤ 3)); first | with_reducible assumption | exact (fun _ => by with_reducible assumption) | omega)
        · have hq329 := (nle_lt hc)
          have b330 : B 0 15 (x8_304) := B_w (B_ltL b309 cqb_16_16_16 hq329) (by decide +kernel) (by decide +kernel)
          have q331 : (0) ≤ (x8_304).toInt ∧ (x8_304).toInt ≤ (15) := (show B 0 15 (x8_304) from B_w b330 (by decide +kernel) (by decide +kernel))
          refine ⟨fun hc => ?_, fun hc => ?_⟩
          · have b332 : B 1 8 (T305.1 35) := B_w (B_n0 (show B 0 8 (T305.1 35) from bf_35 hI310) hc) (by decide +kernel) (by decide +kernel)
            have q333 : (1) ≤ (T305.1 35).toInt ∧ (T305.1 35).toInt ≤ (8) := (show B 1 8 (T305.1 35) from B_w b332 (by decide +kernel) (by decide +kernel))
            have g335 := ag_tr (ag_refl (fs := [10, 34, 35]) (rs := [40]) (S := S14_29)) g292 (by decide +kernel) (by decide +kernel)
            have g334 := ag_tr g335 g311 (by decide +kernel) (by decide +kernel)
            have k336 : 16 ≤ (x8_304).toInt → csum (T305.2.1 40) (16 * s0_288.toInt).toNat x8_304.toInt.toNat = csum (T305.2.1 40) (16 * s0_288.toInt).toNat 16 := fun h => by rw [show (x8_304).toInt.toNat = 16 by omega]
            exact hj252 b290 (B_w (B_eq (g292.1 34 rfl) (show B 0 32768 (S14_29.1 34) from bf_34 hI31)) (by decide +kernel) (by decide +kernel)) b306 b308 hI310 g334 (by show (T2.1 34).toInt ≤ (T305.1 34).toInt; first | with_reducible assumption | omega) (by show ((T305.1 35).toInt = 0) → (((T2.1 35).toInt = 0) ∧ (((T2.1 34).toInt + 1) ≤ (T305.1 34).toInt)); first | with_reducible assumption | exact (fun _ => by with_reducible assumption) | omega) (fun h => absurd (show (T305.1 35).toInt = 0 from h) (by omega)) (by show ((T305.1 35).toInt = 0) → (x5_301.toInt = (csum (T305.2.1 40) (16 * s0_288.toInt).toNat 16)); first | with_reducible assumption | exact (fun _ => by with_reducible assumption) | omega) (by show ((T305.1 35).toInt = 0) → ((0 ≤ s0_288.toInt) ∧ (s0_288.toInt ≤ 3)); first | with_reducible assumption | exact (fun _ => by with_reducible assumption) | omega)
          · have b337 : B 0 0 (T305.1 35) := B_w (B_eq hc cqb_0_0_0) (by decide +kernel) (by decide +kernel)
            have q338 : (0) ≤ (T305.1 35).toInt ∧ (T305.1 35).toInt ≤ (0) := (show B 0 0 (T305.1 35) from B_w b337 (by decide +kernel) (by decide +kernel))
            have i339 : (T305.1 35).toInt = (0 : Int32).toInt := congrArg Int32.toInt hc
            have n340 : (0 : Int32).toInt = 0 := cqn_0
            refine h_nextWithin hI310 (fun {v97_341} {S97_342} b343 hI344 g345 r346 r347 => ?_)
            have r348 : (T305.1 34).toInt ≤ (S97_342.1 34).toInt := r346
            clear r346
            have q349 : (0) ≤ (S97_342.1 34).toInt ∧ (S97_342.1 34).toInt ≤ (32768) := (show B 0 32768 (S97_342.1 34) from bf_34 hI344)
            have r350 : ((S97_342.1 35).toInt = 0) → (((T305.1 35).toInt = 0) ∧ (((T305.1 34).toInt + 1) ≤ (S97_342.1 34).toInt)) := r347
            clear r347
            have q351 : (0) ≤ (S97_342.1 35).toInt ∧ (S97_342.1 35).toInt ≤ (8) := (show B 0 8 (S97_342.1 35) from bf_35 hI344)
            refine ⟨fun hc => ?_, fun hc => ?_⟩
            · have b352 : B 1 8 (S97_342.1 35) := B_w (B_n0 (show B 0 8 (S97_342.1 35) from bf_35 hI344) hc) (by decide +kernel) (by decide +kernel)
              have q353 : (1) ≤ (S97_342.1 35).toInt ∧ (S97_342.1 35).toInt ≤ (8) := (show B 1 8 (S97_342.1 35) from B_w b352 (by decide +kernel) (by decide +kernel))
              unfold b_readCodes_180
              have g355 := ag_tr (ag_refl (fs := [10, 34, 35]) (rs := [40]) (S := T289)) g311 (by decide +kernel) (by decide +kernel)
              have g354 := ag_tr g355 g345 (by decide +kernel) (by decide +kernel)
              have e356 : csum (S97_342.2.1 40) (16 * s0_288.toInt).toNat (x8_304 + 1).toInt.toNat = csum (T305.2.1 40) (16 * s0_288.toInt).toNat (x8_304 + 1).toInt.toNat := congrArg (fun g => csum g (16 * s0_288.toInt).toNat (x8_304 + 1).toInt.toNat) (g345.2 40 rfl)
              have e357 : (x8_304 + 1).toInt = ((x8_304).toInt + 1) := (t_add b330 cqb_1_1_1 (by decide +kernel) (by decide +kernel)).trans (by rw [cqn_1])
              have q358 : (1) ≤ (x8_304 + 1).toInt ∧ (x8_304 + 1).toInt ≤ (16) := (show B 1 16 (x8_304 + 1) from B_w (B_add b330 cqb_1_1_1 (by decide +kernel) (by decide +kernel)) (by decide +kernel) (by decide +kernel))
              exact hR82 ⟨rfl, rfl, b306, b307, b308, (B_w (B_add b330 cqb_1_1_1 (by decide +kernel) (by decide +kernel)) (by decide +kernel) (by decide +kernel)), hI344, g354, (by show (T2.1 34).toInt ≤ (S97_342.1 34).toInt; first | with_reducible assumption | omega), (by show ((S97_342.1 35).toInt = 0) → (((T2.1 35).toInt = 0) ∧ (((T2.1 34).toInt + 1) ≤ (S97_342.1 34).toInt)); first | with_reducible assumption | exact (fun _ => by with_reducible assumption) | omega), (fun h => absurd (show (S97_342.1 35).toInt = 0 from h) (by omega)), (by show ((S97_342.1 35).toInt = 0) → (x5_301.toInt = (csum (S97_342.2.1 40) (16 * s0_288.toInt).toNat (x8_304 + 1).toInt.toNat)); first | with_reducible assumption | exact (fun _ => by with_reducible assumption) | omega), (by show ((S97_342.1 35).toInt = 0) → ((0 ≤ s0_288.toInt) ∧ (s0_288.toInt ≤ 3)); first | with_reducible assumption | exact (fun _ => by with_reducible assumption) | omega), (by show x5_301.toInt ≤ (255 * (x8_304 + 1).toInt); first | with_reducible assumption | omega)⟩ (by show (16 - (x8_304 + 1).toInt).toNat < (16 - x8_304.toInt).toNat; omega)
            · have b359 : B 0 0 (S97_342.1 35) := B_w (B_eq hc cqb_0_0_0) (by decide +kernel) (by decide +kernel)
              have q360 : (0) ≤ (S97_342.1 35).toInt ∧ (S97_342.1 35).toInt ≤ (0) := (show B 0 0 (S97_342.1 35) from B_w b359 (by decide +kernel) (by decide +kernel))
              have i361 : (S97_342.1 35).toInt = (0 : Int32).toInt := congrArg Int32.toInt hc
              have n362 : (0 : Int32).toInt = 0 := cqn_0
              have e363 : (16 * s0_288).toInt = (16 * (s0_288).toInt) := (t_mulS (m := 16) (n := 241) (B_w cqb_16_16_16 (by decide +kernel) (by decide +kernel)) (B_w b290 (by decide +kernel) (by decide +kernel)) (by decide +kernel)).trans (by rw [cqn_16])
              have q364 : (-3856) ≤ (16 * s0_288).toInt ∧ (16 * s0_288).toInt ≤ (3856) := (show B (-3856) 3856 (16 * s0_288) from B_mulS (m := 16) (n := 241) (B_w cqb_16_16_16 (by decide +kernel) (by decide +kernel)) (B_w b290 (by decide +kernel) (by decide +kernel)) (by decide +kernel))
              have e365 : ((16 * s0_288) + x8_304).toInt = ((16 * (s0_288).toInt) + (x8_304).toInt) := (t_add (show B (-3856) 3856 (16 * s0_288) from B_mulS (m := 16) (n := 241) (B_w cqb_16_16_16 (by decide +kernel) (by decide +kernel)) (B_w b290 (by decide +kernel) (by decide +kernel)) (by decide +kernel)) b330 (by decide +kernel) (by decide +kernel)).trans (by rw [e363])
              have q366 : (-3856) ≤ ((16 * s0_288) + x8_304).toInt ∧ ((16 * s0_288) + x8_304).toInt ≤ (3871) := (show B (-3856) 3871 ((16 * s0_288) + x8_304) from B_w (B_add (show B (-3856) 3856 (16 * s0_288) from B_mulS (m := 16) (n := 241) (B_w cqb_16_16_16 (by decide +kernel) (by decide +kernel)) (B_w b290 (by decide +kernel) (by decide +kernel)) (by decide +kernel)) b330 (by decide +kernel) (by decide +kernel)) (by decide +kernel) (by decide +kernel))
              refine ⟨vp_om (x := (16 * s0_288) + x8_304) (by omega) (by omega), ?_⟩
              have b367 : B 0 63 ((16 * s0_288) + x8_304) := ⟨by omega, by omega⟩
              refine ⟨fun hc => ?_, fun hc => ?_⟩
              · have b368 : B 0 0 (x7_303) := B_w (B_eq hc cqb_0_0_0) (by decide +kernel) (by decide +kernel)
                have q369 : (0) ≤ (x7_303).toInt ∧ (x7_303).toInt ≤ (0) := (show B 0 0 (x7_303) from B_w b368 (by decide +kernel) (by decide +kernel))
                have i370 : (x7_303).toInt = (0 : Int32).toInt := congrArg Int32.toInt hc
                have n371 : (0 : Int32).toInt = 0 := cqn_0
                unfold b_readCodes_159
                unfold b_readCodes_160
                refine ⟨fun hc => ?_, fun hc => ?_⟩
                · have hq372 := hc
                  have b373 : B 0 100000 ((2 * x6_302) + v97_341) := B_w (B_leL (B_add (B_mul cqb_2_2_2 b307 (by decide +kernel) (by decide +kernel) (by decide +kernel)) b343 (by decide +kernel) (by decide +kernel)) cqb_100000_100000_100000 hq372) (by decide +kernel) (by decide +kernel)
                  have q374 : (0) ≤ (x6_302).toInt ∧ (x6_302).toInt ≤ (100000) := (show B 0 100000 (x6_302) from B_w b307 (by decide +kernel) (by decide +kernel))
                  have e375 : (2 * x6_302).toInt = (2 * (x6_302).toInt) := (t_mul cqb_2_2_2 b307 (by decide +kernel) (by decide +kernel) (by decide +kernel)).trans (by rw [cqn_2])
                  have q376 : (0) ≤ (2 * x6_302).toInt ∧ (2 * x6_302).toInt ≤ (200000) := (show B 0 200000 (2 * x6_302) from B_w (B_mul cqb_2_2_2 b307 (by decide +kernel) (by decide +kernel) (by decide +kernel)) (by decide +kernel) (by decide +kernel))
                  have q377 : (0) ≤ (v97_341).toInt ∧ (v97_341).toInt ≤ (255) := (show B 0 255 (v97_341) from B_w b343 (by decide +kernel) (by decide +kernel))
                  have e378 : ((2 * x6_302) + v97_341).toInt = ((2 * (x6_302).toInt) + (v97_341).toInt) := (t_add (B_mul cqb_2_2_2 b307 (by decide +kernel) (by decide +kernel) (by decide +kernel)) b343 (by decide +kernel) (by decide +kernel)).trans (by rw [e375])
                  have q379 : (0) ≤ ((2 * x6_302) + v97_341).toInt ∧ ((2 * x6_302) + v97_341).toInt ≤ (100000) := (show B 0 100000 ((2 * x6_302) + v97_341) from B_w b373 (by decide +kernel) (by decide +kernel))
                  have i380 : ((2 * x6_302) + v97_341).toInt ≤ (100000 : Int32).toInt := i_le hq372
                  have n381 : (100000 : Int32).toInt = 100000 := cqn_100000
                  unfold b_readCodes_178
                  unfold b_readCodes_180
                  have e382 : (x5_301 + v97_341).toInt = ((x5_301).toInt + (v97_341).toInt) := (t_add b306 b343 (by decide +kernel) (by decide +kernel)).trans (by rfl)
                  have q383 : (0) ≤ (x5_301 + v97_341).toInt ∧ (x5_301 + v97_341).toInt ≤ (4335) := (show B 0 4335 (x5_301 + v97_341) from B_w (B_add b306 b343 (by decide +kernel) (by decide +kernel)) (by decide +kernel) (by decide +kernel))
                  have hI384 := IM_r (r := 40) (i := ((16 * s0_288) + x8_304).toNatClampNeg) (v := v97_341) hI344 b343 (by decide +kernel) (by decide +kernel)
                  have g387 := ag_tr (ag_refl (fs := [10, 34, 35]) (rs := [40]) (S := T289)) g311 (by decide +kernel) (by decide +kernel)
                  have g386 := ag_tr g387 g345 (by decide +kernel) (by decide +kernel)
                  have g385 := ag_r (r := 40) (w := upd (S97_342.2.1 40) ((16 * s0_288) + x8_304).toNatClampNeg v97_341) g386 (by decide +kernel)
                  have e388 : (x8_304 + 1).toInt = ((x8_304).toInt + 1) := (t_add b330 cqb_1_1_1 (by decide +kernel) (by decide +kernel)).trans (by rw [cqn_1])
                  have q389 : (1) ≤ (x8_304 + 1).toInt ∧ (x8_304 + 1).toInt ≤ (16) := (show B 1 16 (x8_304 + 1) from B_w (B_add b330 cqb_1_1_1 (by decide +kernel) (by decide +kernel)) (by decide +kernel) (by decide +kernel))
                  have k390 := cl_i (x := (16 * s0_288) + x8_304) (by omega)
                  have e391 : csum (upd (S97_342.2.1 40) ((16 * s0_288) + x8_304).toNatClampNeg v97_341) (16 * s0_288.toInt).toNat (x8_304 + 1).toInt.toNat = csum (S97_342.2.1 40) (16 * s0_288.toInt).toNat x8_304.toInt.toNat + (v97_341).toInt := cs_app (by omega) (by omega)
                  have e392 : csum (S97_342.2.1 40) (16 * s0_288.toInt).toNat x8_304.toInt.toNat = csum (T305.2.1 40) (16 * s0_288.toInt).toNat x8_304.toInt.toNat := congrArg (fun g => csum g (16 * s0_288.toInt).toNat x8_304.toInt.toNat) (g345.2 40 rfl)
                  exact hR82 ⟨rfl, rfl, (show B 0 4080 (x5_301 + v97_341) from ⟨by omega, by omega⟩), b373, (B_w cqb_0_0_0 (by decide +kernel) (by decide +kernel)), (B_w (B_add b330 cqb_1_1_1 (by decide +kernel) (by decide +kernel)) (by decide +kernel) (by decide +kernel)), hI384, g385, (by show (T2.1 34).toInt ≤ (S97_342.1 34).toInt; first | with_reducible assumption | omega), (by show ((S97_342.1 35).toInt = 0) → (((T2.1 35).toInt = 0) ∧ (((T2.1 34).toInt + 1) ≤ (S97_342.1 34).toInt)); first | with_reducible assumption | exact (fun _ => by with_reducible assumption) | omega), (cB_up (S := T305) (T := (S97_342.1, va_up S97_342.2.1 40 (upd (S97_342.2.1 40) ((16 * s0_288) + x8_304).toNatClampNeg v97_341), S97_342.2.2)) (c := s0_288) (x := (16 * s0_288) + x8_304) (y := x8_304) (v := v97_341) r314 (congrArg (fun g => upd g ((16 * s0_288) + x8_304).toNatClampNeg v97_341) (g345.2 40 rfl)) (Eq.trans ((((g345.2 42 rfl).trans (g311.2 42 rfl)).trans (g292.2 42 rfl)).trans (g32.2 42 rfl)) (Eq.symm (((g311.2 42 rfl).trans (g292.2 42 rfl)).trans (g32.2 42 rfl)))) (by show (S97_342.1 35).toInt = 0 → ((T305.1 35).toInt = 0 ∧ 0 ≤ s0_288.toInt ∧ s0_288.toInt ≤ 3 ∧ ((16 * s0_288) + x8_304).toInt = ((16 * s0_288.toInt) + x8_304.toInt) ∧ 0 ≤ x8_304.toInt ∧ x8_304.toInt ≤ 15); first | with_reducible assumption | exact (fun _ => by with_reducible assumption) | omega)), (by show ((S97_342.1 35).toInt = 0) → ((x5_301 + v97_341).toInt = (csum (upd (S97_342.2.1 40) ((16 * s0_288) + x8_304).toNatClampNeg v97_341) (16 * s0_288.toInt).toNat (x8_304 + 1).toInt.toNat)); first | with_reducible assumption | exact (fun _ => by with_reducible assumption) | omega), (by show ((S97_342.1 35).toInt = 0) → ((0 ≤ s0_288.toInt) ∧ (s0_288.toInt ≤ 3)); first | with_reducible assumption | exact (fun _ => by with_reducible assumption) | omega), (by show (x5_301 + v97_341).toInt ≤ (255 * (x8_304 + 1).toInt); first | with_reducible assumption | omega)⟩ (by show (16 - (x8_304 + 1).toInt).toNat < (16 - x8_304.toInt).toNat; omega)
                · have hq393 := (nle_lt hc)
                  have b394 : B 100001 200255 ((2 * x6_302) + v97_341) := B_w (B_ltR cqb_100000_100000_100000 (B_add (B_mul cqb_2_2_2 b307 (by decide +kernel) (by decide +kernel) (by decide +kernel)) b343 (by decide +kernel) (by decide +kernel)) hq393) (by decide +kernel) (by decide +kernel)
                  have q395 : (0) ≤ (x6_302).toInt ∧ (x6_302).toInt ≤ (100000) := (show B 0 100000 (x6_302) from B_w b307 (by decide +kernel) (by decide +kernel))
                  have e396 : (2 * x6_302).toInt = (2 * (x6_302).toInt) := (t_mul cqb_2_2_2 b307 (by decide +kernel) (by decide +kernel) (by decide +kernel)).trans (by rw [cqn_2])
                  have q397 : (0) ≤ (2 * x6_302).toInt ∧ (2 * x6_302).toInt ≤ (200000) := (show B 0 200000 (2 * x6_302) from B_w (B_mul cqb_2_2_2 b307 (by decide +kernel) (by decide +kernel) (by decide +kernel)) (by decide +kernel) (by decide +kernel))
                  have q398 : (0) ≤ (v97_341).toInt ∧ (v97_341).toInt ≤ (255) := (show B 0 255 (v97_341) from B_w b343 (by decide +kernel) (by decide +kernel))
                  have e399 : ((2 * x6_302) + v97_341).toInt = ((2 * (x6_302).toInt) + (v97_341).toInt) := (t_add (B_mul cqb_2_2_2 b307 (by decide +kernel) (by decide +kernel) (by decide +kernel)) b343 (by decide +kernel) (by decide +kernel)).trans (by rw [e396])
                  have q400 : (100001) ≤ ((2 * x6_302) + v97_341).toInt ∧ ((2 * x6_302) + v97_341).toInt ≤ (200255) := (show B 100001 200255 ((2 * x6_302) + v97_341) from B_w b394 (by decide +kernel) (by decide +kernel))
                  have i401 : (100000 : Int32).toInt < ((2 * x6_302) + v97_341).toInt := i_lt hq393
                  have n402 : (100000 : Int32).toInt = 100000 := cqn_100000
                  unfold b_readCodes_178
                  unfold b_readCodes_180
                  have e403 : (x5_301 + v97_341).toInt = ((x5_301).toInt + (v97_341).toInt) := (t_add b306 b343 (by decide +kernel) (by decide +kernel)).trans (by rfl)
                  have q404 : (0) ≤ (x5_301 + v97_341).toInt ∧ (x5_301 + v97_341).toInt ≤ (4335) := (show B 0 4335 (x5_301 + v97_341) from B_w (B_add b306 b343 (by decide +kernel) (by decide +kernel)) (by decide +kernel) (by decide +kernel))
                  have hI405 := IM_r (r := 40) (i := ((16 * s0_288) + x8_304).toNatClampNeg) (v := v97_341) hI344 b343 (by decide +kernel) (by decide +kernel)
                  have g408 := ag_tr (ag_refl (fs := [10, 34, 35]) (rs := [40]) (S := T289)) g311 (by decide +kernel) (by decide +kernel)
                  have g407 := ag_tr g408 g345 (by decide +kernel) (by decide +kernel)
                  have g406 := ag_r (r := 40) (w := upd (S97_342.2.1 40) ((16 * s0_288) + x8_304).toNatClampNeg v97_341) g407 (by decide +kernel)
                  have e409 : (x8_304 + 1).toInt = ((x8_304).toInt + 1) := (t_add b330 cqb_1_1_1 (by decide +kernel) (by decide +kernel)).trans (by rw [cqn_1])
                  have q410 : (1) ≤ (x8_304 + 1).toInt ∧ (x8_304 + 1).toInt ≤ (16) := (show B 1 16 (x8_304 + 1) from B_w (B_add b330 cqb_1_1_1 (by decide +kernel) (by decide +kernel)) (by decide +kernel) (by decide +kernel))
                  have k411 := cl_i (x := (16 * s0_288) + x8_304) (by omega)
                  have e412 : csum (upd (S97_342.2.1 40) ((16 * s0_288) + x8_304).toNatClampNeg v97_341) (16 * s0_288.toInt).toNat (x8_304 + 1).toInt.toNat = csum (S97_342.2.1 40) (16 * s0_288.toInt).toNat x8_304.toInt.toNat + (v97_341).toInt := cs_app (by omega) (by omega)
                  have e413 : csum (S97_342.2.1 40) (16 * s0_288.toInt).toNat x8_304.toInt.toNat = csum (T305.2.1 40) (16 * s0_288.toInt).toNat x8_304.toInt.toNat := congrArg (fun g => csum g (16 * s0_288.toInt).toNat x8_304.toInt.toNat) (g345.2 40 rfl)
                  exact hR82 ⟨rfl, rfl, (show B 0 4080 (x5_301 + v97_341) from ⟨by omega, by omega⟩), (B_w cqb_100000_100000_100000 (by decide +kernel) (by decide +kernel)), (B_w cqb_0_0_0 (by decide +kernel) (by decide +kernel)), (B_w (B_add b330 cqb_1_1_1 (by decide +kernel) (by decide +kernel)) (by decide +kernel) (by decide +kernel)), hI405, g406, (by show (T2.1 34).toInt ≤ (S97_342.1 34).toInt; first | with_reducible assumption | omega), (by show ((S97_342.1 35).toInt = 0) → (((T2.1 35).toInt = 0) ∧ (((T2.1 34).toInt + 1) ≤ (S97_342.1 34).toInt)); first | with_reducible assumption | exact (fun _ => by with_reducible assumption) | omega), (cB_up (S := T305) (T := (S97_342.1, va_up S97_342.2.1 40 (upd (S97_342.2.1 40) ((16 * s0_288) + x8_304).toNatClampNeg v97_341), S97_342.2.2)) (c := s0_288) (x := (16 * s0_288) + x8_304) (y := x8_304) (v := v97_341) r314 (congrArg (fun g => upd g ((16 * s0_288) + x8_304).toNatClampNeg v97_341) (g345.2 40 rfl)) (Eq.trans ((((g345.2 42 rfl).trans (g311.2 42 rfl)).trans (g292.2 42 rfl)).trans (g32.2 42 rfl)) (Eq.symm (((g311.2 42 rfl).trans (g292.2 42 rfl)).trans (g32.2 42 rfl)))) (by show (S97_342.1 35).toInt = 0 → ((T305.1 35).toInt = 0 ∧ 0 ≤ s0_288.toInt ∧ s0_288.toInt ≤ 3 ∧ ((16 * s0_288) + x8_304).toInt = ((16 * s0_288.toInt) + x8_304.toInt) ∧ 0 ≤ x8_304.toInt ∧ x8_304.toInt ≤ 15); first | with_reducible assumption | exact (fun _ => by with_reducible assumption) | omega)), (by show ((S97_342.1 35).toInt = 0) → ((x5_301 + v97_341).toInt = (csum (upd (S97_342.2.1 40) ((16 * s0_288) + x8_304).toNatClampNeg v97_341) (16 * s0_288.toInt).toNat (x8_304 + 1).toInt.toNat)); first | with_reducible assumption | exact (fun _ => by with_reducible assumption) | omega), (by show ((S97_342.1 35).toInt = 0) → ((0 ≤ s0_288.toInt) ∧ (s0_288.toInt ≤ 3)); first | with_reducible assumption | exact (fun _ => by with_reducible assumption) | omega), (by show (x5_301 + v97_341).toInt ≤ (255 * (x8_304 + 1).toInt); first | with_reducible assumption | omega)⟩ (by show (16 - (x8_304 + 1).toInt).toNat < (16 - x8_304.toInt).toNat; omega)
              · have b414 : B 1 1 (x7_303) := B_w (B_n0 b308 hc) (by decide +kernel) (by decide +kernel)
                refine ⟨fun hc => ?_, fun hc => ?_⟩
                · have hq415 := hc
                  have b416 : B (-2147483648) 200255 (((1 : Int32) <<< ((x8_304 + 1) &&& 31 : Int32) : Int32)) := B_w (B_leL (B_any _) (B_add (B_mul cqb_2_2_2 b307 (by decide +kernel) (by decide +kernel) (by decide +kernel)) b343 (by decide +kernel) (by decide +kernel)) hq415) (by decide +kernel) (by decide +kernel)
                  have q417 : (-2147483648) ≤ (((1 : Int32) <<< ((x8_304 + 1) &&& 31 : Int32) : Int32)).toInt ∧ (((1 : Int32) <<< ((x8_304 + 1) &&& 31 : Int32) : Int32)).toInt ≤ (200255) := (show B (-2147483648) 200255 (((1 : Int32) <<< ((x8_304 + 1) &&& 31 : Int32) : Int32)) from B_w b416 (by decide +kernel) (by decide +kernel))
                  have q418 : (0) ≤ (x6_302).toInt ∧ (x6_302).toInt ≤ (100000) := (show B 0 100000 (x6_302) from B_w b307 (by decide +kernel) (by decide +kernel))
                  have e419 : (2 * x6_302).toInt = (2 * (x6_302).toInt) := (t_mul cqb_2_2_2 b307 (by decide +kernel) (by decide +kernel) (by decide +kernel)).trans (by rw [cqn_2])
                  have q420 : (0) ≤ (2 * x6_302).toInt ∧ (2 * x6_302).toInt ≤ (200000) := (show B 0 200000 (2 * x6_302) from B_w (B_mul cqb_2_2_2 b307 (by decide +kernel) (by decide +kernel) (by decide +kernel)) (by decide +kernel) (by decide +kernel))
                  have q421 : (0) ≤ (v97_341).toInt ∧ (v97_341).toInt ≤ (255) := (show B 0 255 (v97_341) from B_w b343 (by decide +kernel) (by decide +kernel))
                  have e422 : ((2 * x6_302) + v97_341).toInt = ((2 * (x6_302).toInt) + (v97_341).toInt) := (t_add (B_mul cqb_2_2_2 b307 (by decide +kernel) (by decide +kernel) (by decide +kernel)) b343 (by decide +kernel) (by decide +kernel)).trans (by rw [e419])
                  have q423 : (0) ≤ ((2 * x6_302) + v97_341).toInt ∧ ((2 * x6_302) + v97_341).toInt ≤ (200255) := (show B 0 200255 ((2 * x6_302) + v97_341) from B_w (B_add (B_mul cqb_2_2_2 b307 (by decide +kernel) (by decide +kernel) (by decide +kernel)) b343 (by decide +kernel) (by decide +kernel)) (by decide +kernel) (by decide +kernel))
                  have i424 : (((1 : Int32) <<< ((x8_304 + 1) &&& 31 : Int32) : Int32)).toInt ≤ ((2 * x6_302) + v97_341).toInt := i_le hq415
                  unfold b_readCodes_159
                  unfold b_readCodes_160
                  refine ⟨fun hc => ?_, fun hc => ?_⟩
                  · have hq425 := hc
                    have b426 : B 0 100000 ((2 * x6_302) + v97_341) := B_w (B_leL (B_add (B_mul cqb_2_2_2 b307 (by decide +kernel) (by decide +kernel) (by decide +kernel)) b343 (by decide +kernel) (by decide +kernel)) cqb_100000_100000_100000 hq425) (by decide +kernel) (by decide +kernel)
                    have q427 : (0) ≤ ((2 * x6_302) + v97_341).toInt ∧ ((2 * x6_302) + v97_341).toInt ≤ (100000) := (show B 0 100000 ((2 * x6_302) + v97_341) from B_w b426 (by decide +kernel) (by decide +kernel))
                    have i428 : ((2 * x6_302) + v97_341).toInt ≤ (100000 : Int32).toInt := i_le hq425
                    have n429 : (100000 : Int32).toInt = 100000 := cqn_100000
                    unfold b_readCodes_178
                    unfold b_readCodes_180
                    have e430 : (x5_301 + v97_341).toInt = ((x5_301).toInt + (v97_341).toInt) := (t_add b306 b343 (by decide +kernel) (by decide +kernel)).trans (by rfl)
                    have q431 : (0) ≤ (x5_301 + v97_341).toInt ∧ (x5_301 + v97_341).toInt ≤ (4335) := (show B 0 4335 (x5_301 + v97_341) from B_w (B_add b306 b343 (by decide +kernel) (by decide +kernel)) (by decide +kernel) (by decide +kernel))
                    have hI432 := IM_r (r := 40) (i := ((16 * s0_288) + x8_304).toNatClampNeg) (v := v97_341) hI344 b343 (by decide +kernel) (by decide +kernel)
                    have g435 := ag_tr (ag_refl (fs := [10, 34, 35]) (rs := [40]) (S := T289)) g311 (by decide +kernel) (by decide +kernel)
                    have g434 := ag_tr g435 g345 (by decide +kernel) (by decide +kernel)
                    have g433 := ag_r (r := 40) (w := upd (S97_342.2.1 40) ((16 * s0_288) + x8_304).toNatClampNeg v97_341) g434 (by decide +kernel)
                    have e436 : (x8_304 + 1).toInt = ((x8_304).toInt + 1) := (t_add b330 cqb_1_1_1 (by decide +kernel) (by decide +kernel)).trans (by rw [cqn_1])
                    have q437 : (1) ≤ (x8_304 + 1).toInt ∧ (x8_304 + 1).toInt ≤ (16) := (show B 1 16 (x8_304 + 1) from B_w (B_add b330 cqb_1_1_1 (by decide +kernel) (by decide +kernel)) (by decide +kernel) (by decide +kernel))
                    have k438 := cl_i (x := (16 * s0_288) + x8_304) (by omega)
                    have e439 : csum (upd (S97_342.2.1 40) ((16 * s0_288) + x8_304).toNatClampNeg v97_341) (16 * s0_288.toInt).toNat (x8_304 + 1).toInt.toNat = csum (S97_342.2.1 40) (16 * s0_288.toInt).toNat x8_304.toInt.toNat + (v97_341).toInt := cs_app (by omega) (by omega)
                    have e440 : csum (S97_342.2.1 40) (16 * s0_288.toInt).toNat x8_304.toInt.toNat = csum (T305.2.1 40) (16 * s0_288.toInt).toNat x8_304.toInt.toNat := congrArg (fun g => csum g (16 * s0_288.toInt).toNat x8_304.toInt.toNat) (g345.2 40 rfl)
                    exact hR82 ⟨rfl, rfl, (show B 0 4080 (x5_301 + v97_341) from ⟨by omega, by omega⟩), b426, (B_w cqb_0_0_0 (by decide +kernel) (by decide +kernel)), (B_w (B_add b330 cqb_1_1_1 (by decide +kernel) (by decide +kernel)) (by decide +kernel) (by decide +kernel)), hI432, g433, (by show (T2.1 34).toInt ≤ (S97_342.1 34).toInt; first | with_reducible assumption | omega), (by show ((S97_342.1 35).toInt = 0) → (((T2.1 35).toInt = 0) ∧ (((T2.1 34).toInt + 1) ≤ (S97_342.1 34).toInt)); first | with_reducible assumption | exact (fun _ => by with_reducible assumption) | omega), (cB_up (S := T305) (T := (S97_342.1, va_up S97_342.2.1 40 (upd (S97_342.2.1 40) ((16 * s0_288) + x8_304).toNatClampNeg v97_341), S97_342.2.2)) (c := s0_288) (x := (16 * s0_288) + x8_304) (y := x8_304) (v := v97_341) r314 (congrArg (fun g => upd g ((16 * s0_288) + x8_304).toNatClampNeg v97_341) (g345.2 40 rfl)) (Eq.trans ((((g345.2 42 rfl).trans (g311.2 42 rfl)).trans (g292.2 42 rfl)).trans (g32.2 42 rfl)) (Eq.symm (((g311.2 42 rfl).trans (g292.2 42 rfl)).trans (g32.2 42 rfl)))) (by show (S97_342.1 35).toInt = 0 → ((T305.1 35).toInt = 0 ∧ 0 ≤ s0_288.toInt ∧ s0_288.toInt ≤ 3 ∧ ((16 * s0_288) + x8_304).toInt = ((16 * s0_288.toInt) + x8_304.toInt) ∧ 0 ≤ x8_304.toInt ∧ x8_304.toInt ≤ 15); first | with_reducible assumption | exact (fun _ => by with_reducible assumption) | omega)), (by show ((S97_342.1 35).toInt = 0) → ((x5_301 + v97_341).toInt = (csum (upd (S97_342.2.1 40) ((16 * s0_288) + x8_304).toNatClampNeg v97_341) (16 * s0_288.toInt).toNat (x8_304 + 1).toInt.toNat)); first | with_reducible assumption | exact (fun _ => by with_reducible assumption) | omega), (by show ((S97_342.1 35).toInt = 0) → ((0 ≤ s0_288.toInt) ∧ (s0_288.toInt ≤ 3)); first | with_reducible assumption | exact (fun _ => by with_reducible assumption) | omega), (by show (x5_301 + v97_341).toInt ≤ (255 * (x8_304 + 1).toInt); first | with_reducible assumption | omega)⟩ (by show (16 - (x8_304 + 1).toInt).toNat < (16 - x8_304.toInt).toNat; omega)
                  · have hq441 := (nle_lt hc)
                    have b442 : B 100001 200255 ((2 * x6_302) + v97_341) := B_w (B_ltR cqb_100000_100000_100000 (B_add (B_mul cqb_2_2_2 b307 (by decide +kernel) (by decide +kernel) (by decide +kernel)) b343 (by decide +kernel) (by decide +kernel)) hq441) (by decide +kernel) (by decide +kernel)
                    have q443 : (100001) ≤ ((2 * x6_302) + v97_341).toInt ∧ ((2 * x6_302) + v97_341).toInt ≤ (200255) := (show B 100001 200255 ((2 * x6_302) + v97_341) from B_w b442 (by decide +kernel) (by decide +kernel))
                    have i444 : (100000 : Int32).toInt < ((2 * x6_302) + v97_341).toInt := i_lt hq441
                    have n445 : (100000 : Int32).toInt = 100000 := cqn_100000
                    unfold b_readCodes_178
                    unfold b_readCodes_180
                    have e446 : (x5_301 + v97_341).toInt = ((x5_301).toInt + (v97_341).toInt) := (t_add b306 b343 (by decide +kernel) (by decide +kernel)).trans (by rfl)
                    have q447 : (0) ≤ (x5_301 + v97_341).toInt ∧ (x5_301 + v97_341).toInt ≤ (4335) := (show B 0 4335 (x5_301 + v97_341) from B_w (B_add b306 b343 (by decide +kernel) (by decide +kernel)) (by decide +kernel) (by decide +kernel))
                    have hI448 := IM_r (r := 40) (i := ((16 * s0_288) + x8_304).toNatClampNeg) (v := v97_341) hI344 b343 (by decide +kernel) (by decide +kernel)
                    have g451 := ag_tr (ag_refl (fs := [10, 34, 35]) (rs := [40]) (S := T289)) g311 (by decide +kernel) (by decide +kernel)
                    have g450 := ag_tr g451 g345 (by decide +kernel) (by decide +kernel)
                    have g449 := ag_r (r := 40) (w := upd (S97_342.2.1 40) ((16 * s0_288) + x8_304).toNatClampNeg v97_341) g450 (by decide +kernel)
                    have e452 : (x8_304 + 1).toInt = ((x8_304).toInt + 1) := (t_add b330 cqb_1_1_1 (by decide +kernel) (by decide +kernel)).trans (by rw [cqn_1])
                    have q453 : (1) ≤ (x8_304 + 1).toInt ∧ (x8_304 + 1).toInt ≤ (16) := (show B 1 16 (x8_304 + 1) from B_w (B_add b330 cqb_1_1_1 (by decide +kernel) (by decide +kernel)) (by decide +kernel) (by decide +kernel))
                    have k454 := cl_i (x := (16 * s0_288) + x8_304) (by omega)
                    have e455 : csum (upd (S97_342.2.1 40) ((16 * s0_288) + x8_304).toNatClampNeg v97_341) (16 * s0_288.toInt).toNat (x8_304 + 1).toInt.toNat = csum (S97_342.2.1 40) (16 * s0_288.toInt).toNat x8_304.toInt.toNat + (v97_341).toInt := cs_app (by omega) (by omega)
                    have e456 : csum (S97_342.2.1 40) (16 * s0_288.toInt).toNat x8_304.toInt.toNat = csum (T305.2.1 40) (16 * s0_288.toInt).toNat x8_304.toInt.toNat := congrArg (fun g => csum g (16 * s0_288.toInt).toNat x8_304.toInt.toNat) (g345.2 40 rfl)
                    exact hR82 ⟨rfl, rfl, (show B 0 4080 (x5_301 + v97_341) from ⟨by omega, by omega⟩), (B_w cqb_100000_100000_100000 (by decide +kernel) (by decide +kernel)), (B_w cqb_0_0_0 (by decide +kernel) (by decide +kernel)), (B_w (B_add b330 cqb_1_1_1 (by decide +kernel) (by decide +kernel)) (by decide +kernel) (by decide +kernel)), hI448, g449, (by show (T2.1 34).toInt ≤ (S97_342.1 34).toInt; first | with_reducible assumption | omega), (by show ((S97_342.1 35).toInt = 0) → (((T2.1 35).toInt = 0) ∧ (((T2.1 34).toInt + 1) ≤ (S97_342.1 34).toInt)); first | with_reducible assumption | exact (fun _ => by with_reducible assumption) | omega), (cB_up (S := T305) (T := (S97_342.1, va_up S97_342.2.1 40 (upd (S97_342.2.1 40) ((16 * s0_288) + x8_304).toNatClampNeg v97_341), S97_342.2.2)) (c := s0_288) (x := (16 * s0_288) + x8_304) (y := x8_304) (v := v97_341) r314 (congrArg (fun g => upd g ((16 * s0_288) + x8_304).toNatClampNeg v97_341) (g345.2 40 rfl)) (Eq.trans ((((g345.2 42 rfl).trans (g311.2 42 rfl)).trans (g292.2 42 rfl)).trans (g32.2 42 rfl)) (Eq.symm (((g311.2 42 rfl).trans (g292.2 42 rfl)).trans (g32.2 42 rfl)))) (by show (S97_342.1 35).toInt = 0 → ((T305.1 35).toInt = 0 ∧ 0 ≤ s0_288.toInt ∧ s0_288.toInt ≤ 3 ∧ ((16 * s0_288) + x8_304).toInt = ((16 * s0_288.toInt) + x8_304.toInt) ∧ 0 ≤ x8_304.toInt ∧ x8_304.toInt ≤ 15); first | with_reducible assumption | exact (fun _ => by with_reducible assumption) | omega)), (by show ((S97_342.1 35).toInt = 0) → ((x5_301 + v97_341).toInt = (csum (upd (S97_342.2.1 40) ((16 * s0_288) + x8_304).toNatClampNeg v97_341) (16 * s0_288.toInt).toNat (x8_304 + 1).toInt.toNat)); first | with_reducible assumption | exact (fun _ => by with_reducible assumption) | omega), (by show ((S97_342.1 35).toInt = 0) → ((0 ≤ s0_288.toInt) ∧ (s0_288.toInt ≤ 3)); first | with_reducible assumption | exact (fun _ => by with_reducible assumption) | omega), (by show (x5_301 + v97_341).toInt ≤ (255 * (x8_304 + 1).toInt); first | with_reducible assumption | omega)⟩ (by show (16 - (x8_304 + 1).toInt).toNat < (16 - x8_304.toInt).toNat; omega)
                · have hq457 := (nle_lt hc)
                  have b458 : B 1 2147483647 (((1 : Int32) <<< ((x8_304 + 1) &&& 31 : Int32) : Int32)) := B_w (B_ltR (B_add (B_mul cqb_2_2_2 b307 (by decide +kernel) (by decide +kernel) (by decide +kernel)) b343 (by decide +kernel) (by decide +kernel)) (B_any _) hq457) (by decide +kernel) (by decide +kernel)
                  have q459 : (0) ≤ (x6_302).toInt ∧ (x6_302).toInt ≤ (100000) := (show B 0 100000 (x6_302) from B_w b307 (by decide +kernel) (by decide +kernel))
                  have e460 : (2 * x6_302).toInt = (2 * (x6_302).toInt) := (t_mul cqb_2_2_2 b307 (by decide +kernel) (by decide +kernel) (by decide +kernel)).trans (by rw [cqn_2])
                  have q461 : (0) ≤ (2 * x6_302).toInt ∧ (2 * x6_302).toInt ≤ (200000) := (show B 0 200000 (2 * x6_302) from B_w (B_mul cqb_2_2_2 b307 (by decide +kernel) (by decide +kernel) (by decide +kernel)) (by decide +kernel) (by decide +kernel))
                  have q462 : (0) ≤ (v97_341).toInt ∧ (v97_341).toInt ≤ (255) := (show B 0 255 (v97_341) from B_w b343 (by decide +kernel) (by decide +kernel))
                  have e463 : ((2 * x6_302) + v97_341).toInt = ((2 * (x6_302).toInt) + (v97_341).toInt) := (t_add (B_mul cqb_2_2_2 b307 (by decide +kernel) (by decide +kernel) (by decide +kernel)) b343 (by decide +kernel) (by decide +kernel)).trans (by rw [e460])
                  have q464 : (0) ≤ ((2 * x6_302) + v97_341).toInt ∧ ((2 * x6_302) + v97_341).toInt ≤ (200255) := (show B 0 200255 ((2 * x6_302) + v97_341) from B_w (B_add (B_mul cqb_2_2_2 b307 (by decide +kernel) (by decide +kernel) (by decide +kernel)) b343 (by decide +kernel) (by decide +kernel)) (by decide +kernel) (by decide +kernel))
                  have q465 : (1) ≤ (((1 : Int32) <<< ((x8_304 + 1) &&& 31 : Int32) : Int32)).toInt ∧ (((1 : Int32) <<< ((x8_304 + 1) &&& 31 : Int32) : Int32)).toInt ≤ (2147483647) := (show B 1 2147483647 (((1 : Int32) <<< ((x8_304 + 1) &&& 31 : Int32) : Int32)) from B_w b458 (by decide +kernel) (by decide +kernel))
                  have i466 : ((2 * x6_302) + v97_341).toInt < (((1 : Int32) <<< ((x8_304 + 1) &&& 31 : Int32) : Int32)).toInt := i_lt hq457
                  unfold b_readCodes_160
                  refine ⟨fun hc => ?_, fun hc => ?_⟩
                  · have hq467 := hc
                    have b468 : B 0 100000 ((2 * x6_302) + v97_341) := B_w (B_leL (B_add (B_mul cqb_2_2_2 b307 (by decide +kernel) (by decide +kernel) (by decide +kernel)) b343 (by decide +kernel) (by decide +kernel)) cqb_100000_100000_100000 hq467) (by decide +kernel) (by decide +kernel)
                    have q469 : (0) ≤ ((2 * x6_302) + v97_341).toInt ∧ ((2 * x6_302) + v97_341).toInt ≤ (100000) := (show B 0 100000 ((2 * x6_302) + v97_341) from B_w b468 (by decide +kernel) (by decide +kernel))
                    have i470 : ((2 * x6_302) + v97_341).toInt ≤ (100000 : Int32).toInt := i_le hq467
                    have n471 : (100000 : Int32).toInt = 100000 := cqn_100000
                    unfold b_readCodes_178
                    unfold b_readCodes_180
                    have e472 : (x5_301 + v97_341).toInt = ((x5_301).toInt + (v97_341).toInt) := (t_add b306 b343 (by decide +kernel) (by decide +kernel)).trans (by rfl)
                    have q473 : (0) ≤ (x5_301 + v97_341).toInt ∧ (x5_301 + v97_341).toInt ≤ (4335) := (show B 0 4335 (x5_301 + v97_341) from B_w (B_add b306 b343 (by decide +kernel) (by decide +kernel)) (by decide +kernel) (by decide +kernel))
                    have hI474 := IM_r (r := 40) (i := ((16 * s0_288) + x8_304).toNatClampNeg) (v := v97_341) hI344 b343 (by decide +kernel) (by decide +kernel)
                    have g477 := ag_tr (ag_refl (fs := [10, 34, 35]) (rs := [40]) (S := T289)) g311 (by decide +kernel) (by decide +kernel)
                    have g476 := ag_tr g477 g345 (by decide +kernel) (by decide +kernel)
                    have g475 := ag_r (r := 40) (w := upd (S97_342.2.1 40) ((16 * s0_288) + x8_304).toNatClampNeg v97_341) g476 (by decide +kernel)
                    have e478 : (x8_304 + 1).toInt = ((x8_304).toInt + 1) := (t_add b330 cqb_1_1_1 (by decide +kernel) (by decide +kernel)).trans (by rw [cqn_1])
                    have q479 : (1) ≤ (x8_304 + 1).toInt ∧ (x8_304 + 1).toInt ≤ (16) := (show B 1 16 (x8_304 + 1) from B_w (B_add b330 cqb_1_1_1 (by decide +kernel) (by decide +kernel)) (by decide +kernel) (by decide +kernel))
                    have k480 := cl_i (x := (16 * s0_288) + x8_304) (by omega)
                    have e481 : csum (upd (S97_342.2.1 40) ((16 * s0_288) + x8_304).toNatClampNeg v97_341) (16 * s0_288.toInt).toNat (x8_304 + 1).toInt.toNat = csum (S97_342.2.1 40) (16 * s0_288.toInt).toNat x8_304.toInt.toNat + (v97_341).toInt := cs_app (by omega) (by omega)
                    have e482 : csum (S97_342.2.1 40) (16 * s0_288.toInt).toNat x8_304.toInt.toNat = csum (T305.2.1 40) (16 * s0_288.toInt).toNat x8_304.toInt.toNat := congrArg (fun g => csum g (16 * s0_288.toInt).toNat x8_304.toInt.toNat) (g345.2 40 rfl)
                    exact hR82 ⟨rfl, rfl, (show B 0 4080 (x5_301 + v97_341) from ⟨by omega, by omega⟩), b468, (B_w cqb_1_1_1 (by decide +kernel) (by decide +kernel)), (B_w (B_add b330 cqb_1_1_1 (by decide +kernel) (by decide +kernel)) (by decide +kernel) (by decide +kernel)), hI474, g475, (by show (T2.1 34).toInt ≤ (S97_342.1 34).toInt; first | with_reducible assumption | omega), (by show ((S97_342.1 35).toInt = 0) → (((T2.1 35).toInt = 0) ∧ (((T2.1 34).toInt + 1) ≤ (S97_342.1 34).toInt)); first | with_reducible assumption | exact (fun _ => by with_reducible assumption) | omega), (cB_up (S := T305) (T := (S97_342.1, va_up S97_342.2.1 40 (upd (S97_342.2.1 40) ((16 * s0_288) + x8_304).toNatClampNeg v97_341), S97_342.2.2)) (c := s0_288) (x := (16 * s0_288) + x8_304) (y := x8_304) (v := v97_341) r314 (congrArg (fun g => upd g ((16 * s0_288) + x8_304).toNatClampNeg v97_341) (g345.2 40 rfl)) (Eq.trans ((((g345.2 42 rfl).trans (g311.2 42 rfl)).trans (g292.2 42 rfl)).trans (g32.2 42 rfl)) (Eq.symm (((g311.2 42 rfl).trans (g292.2 42 rfl)).trans (g32.2 42 rfl)))) (by show (S97_342.1 35).toInt = 0 → ((T305.1 35).toInt = 0 ∧ 0 ≤ s0_288.toInt ∧ s0_288.toInt ≤ 3 ∧ ((16 * s0_288) + x8_304).toInt = ((16 * s0_288.toInt) + x8_304.toInt) ∧ 0 ≤ x8_304.toInt ∧ x8_304.toInt ≤ 15); first | with_reducible assumption | exact (fun _ => by with_reducible assumption) | omega)), (by show ((S97_342.1 35).toInt = 0) → ((x5_301 + v97_341).toInt = (csum (upd (S97_342.2.1 40) ((16 * s0_288) + x8_304).toNatClampNeg v97_341) (16 * s0_288.toInt).toNat (x8_304 + 1).toInt.toNat)); first | with_reducible assumption | exact (fun _ => by with_reducible assumption) | omega), (by show ((S97_342.1 35).toInt = 0) → ((0 ≤ s0_288.toInt) ∧ (s0_288.toInt ≤ 3)); first | with_reducible assumption | exact (fun _ => by with_reducible assumption) | omega), (by show (x5_301 + v97_341).toInt ≤ (255 * (x8_304 + 1).toInt); first | with_reducible assumption | omega)⟩ (by show (16 - (x8_304 + 1).toInt).toNat < (16 - x8_304.toInt).toNat; omega)
                  · have hq483 := (nle_lt hc)
                    have b484 : B 100001 200255 ((2 * x6_302) + v97_341) := B_w (B_ltR cqb_100000_100000_100000 (B_add (B_mul cqb_2_2_2 b307 (by decide +kernel) (by decide +kernel) (by decide +kernel)) b343 (by decide +kernel) (by decide +kernel)) hq483) (by decide +kernel) (by decide +kernel)
                    have q485 : (100001) ≤ ((2 * x6_302) + v97_341).toInt ∧ ((2 * x6_302) + v97_341).toInt ≤ (200255) := (show B 100001 200255 ((2 * x6_302) + v97_341) from B_w b484 (by decide +kernel) (by decide +kernel))
                    have i486 : (100000 : Int32).toInt < ((2 * x6_302) + v97_341).toInt := i_lt hq483
                    have n487 : (100000 : Int32).toInt = 100000 := cqn_100000
                    unfold b_readCodes_178
                    unfold b_readCodes_180
                    have e488 : (x5_301 + v97_341).toInt = ((x5_301).toInt + (v97_341).toInt) := (t_add b306 b343 (by decide +kernel) (by decide +kernel)).trans (by rfl)
                    have q489 : (0) ≤ (x5_301 + v97_341).toInt ∧ (x5_301 + v97_341).toInt ≤ (4335) := (show B 0 4335 (x5_301 + v97_341) from B_w (B_add b306 b343 (by decide +kernel) (by decide +kernel)) (by decide +kernel) (by decide +kernel))
                    have hI490 := IM_r (r := 40) (i := ((16 * s0_288) + x8_304).toNatClampNeg) (v := v97_341) hI344 b343 (by decide +kernel) (by decide +kernel)
                    have g493 := ag_tr (ag_refl (fs := [10, 34, 35]) (rs := [40]) (S := T289)) g311 (by decide +kernel) (by decide +kernel)
                    have g492 := ag_tr g493 g345 (by decide +kernel) (by decide +kernel)
                    have g491 := ag_r (r := 40) (w := upd (S97_342.2.1 40) ((16 * s0_288) + x8_304).toNatClampNeg v97_341) g492 (by decide +kernel)
                    have e494 : (x8_304 + 1).toInt = ((x8_304).toInt + 1) := (t_add b330 cqb_1_1_1 (by decide +kernel) (by decide +kernel)).trans (by rw [cqn_1])
                    have q495 : (1) ≤ (x8_304 + 1).toInt ∧ (x8_304 + 1).toInt ≤ (16) := (show B 1 16 (x8_304 + 1) from B_w (B_add b330 cqb_1_1_1 (by decide +kernel) (by decide +kernel)) (by decide +kernel) (by decide +kernel))
                    have k496 := cl_i (x := (16 * s0_288) + x8_304) (by omega)
                    have e497 : csum (upd (S97_342.2.1 40) ((16 * s0_288) + x8_304).toNatClampNeg v97_341) (16 * s0_288.toInt).toNat (x8_304 + 1).toInt.toNat = csum (S97_342.2.1 40) (16 * s0_288.toInt).toNat x8_304.toInt.toNat + (v97_341).toInt := cs_app (by omega) (by omega)
                    have e498 : csum (S97_342.2.1 40) (16 * s0_288.toInt).toNat x8_304.toInt.toNat = csum (T305.2.1 40) (16 * s0_288.toInt).toNat x8_304.toInt.toNat := congrArg (fun g => csum g (16 * s0_288.toInt).toNat x8_304.toInt.toNat) (g345.2 40 rfl)
                    exact hR82 ⟨rfl, rfl, (show B 0 4080 (x5_301 + v97_341) from ⟨by omega, by omega⟩), (B_w cqb_100000_100000_100000 (by decide +kernel) (by decide +kernel)), (B_w cqb_1_1_1 (by decide +kernel) (by decide +kernel)), (B_w (B_add b330 cqb_1_1_1 (by decide +kernel) (by decide +kernel)) (by decide +kernel) (by decide +kernel)), hI490, g491, (by show (T2.1 34).toInt ≤ (S97_342.1 34).toInt; first | with_reducible assumption | omega), (by show ((S97_342.1 35).toInt = 0) → (((T2.1 35).toInt = 0) ∧ (((T2.1 34).toInt + 1) ≤ (S97_342.1 34).toInt)); first | with_reducible assumption | exact (fun _ => by with_reducible assumption) | omega), (cB_up (S := T305) (T := (S97_342.1, va_up S97_342.2.1 40 (upd (S97_342.2.1 40) ((16 * s0_288) + x8_304).toNatClampNeg v97_341), S97_342.2.2)) (c := s0_288) (x := (16 * s0_288) + x8_304) (y := x8_304) (v := v97_341) r314 (congrArg (fun g => upd g ((16 * s0_288) + x8_304).toNatClampNeg v97_341) (g345.2 40 rfl)) (Eq.trans ((((g345.2 42 rfl).trans (g311.2 42 rfl)).trans (g292.2 42 rfl)).trans (g32.2 42 rfl)) (Eq.symm (((g311.2 42 rfl).trans (g292.2 42 rfl)).trans (g32.2 42 rfl)))) (by show (S97_342.1 35).toInt = 0 → ((T305.1 35).toInt = 0 ∧ 0 ≤ s0_288.toInt ∧ s0_288.toInt ≤ 3 ∧ ((16 * s0_288) + x8_304).toInt = ((16 * s0_288.toInt) + x8_304.toInt) ∧ 0 ≤ x8_304.toInt ∧ x8_304.toInt ≤ 15); first | with_reducible assumption | exact (fun _ => by with_reducible assumption) | omega)), (by show ((S97_342.1 35).toInt = 0) → ((x5_301 + v97_341).toInt = (csum (upd (S97_342.2.1 40) ((16 * s0_288) + x8_304).toNatClampNeg v97_341) (16 * s0_288.toInt).toNat (x8_304 + 1).toInt.toNat)); first | with_reducible assumption | exact (fun _ => by with_reducible assumption) | omega), (by show ((S97_342.1 35).toInt = 0) → ((0 ≤ s0_288.toInt) ∧ (s0_288.toInt ≤ 3)); first | with_reducible assumption | exact (fun _ => by with_reducible assumption) | omega), (by show (x5_301 + v97_341).toInt ≤ (255 * (x8_304 + 1).toInt); first | with_reducible assumption | omega)⟩ (by show (16 - (x8_304 + 1).toInt).toNat < (16 - x8_304.toInt).toNat; omega)
      have hj499 : ∀ {s1_500 : Int32}, B 0 1 s1_500 → ((T2.1 34).toInt ≤ (S14_29.1 34).toInt) → (((S14_29.1 35).toInt = 0) → (((T2.1 35).toInt = 0) ∧ (((T2.1 34).toInt + 1) ≤ (S14_29.1 34).toInt))) → ((s1_500.toInt = 1) → ((v14_28.toInt ≤ 1) ∨ ((v14_28.toInt = 16) ∨ (v14_28.toInt = 17)))) → b_readCodes_41 v14_28 s1_500 S14_29 R2 K := by
        intro s1_500 b501 r502 r503 r504
        have q505 : (0) ≤ (s1_500).toInt ∧ (s1_500).toInt ≤ (1) := (show B 0 1 (s1_500) from B_w b501 (by decide +kernel) (by decide +kernel))
        have q506 : (0) ≤ (v14_28).toInt ∧ (v14_28).toInt ≤ (255) := (show B 0 255 (v14_28) from B_w b30 (by decide +kernel) (by decide +kernel))
        unfold b_readCodes_41
        refine h_must b501 (B_w (B_sub (show B 0 32768 (S14_29.1 34) from bf_34 hI31) cqb_1_1_1 (by decide +kernel) (by decide +kernel)) (by decide +kernel) (by decide +kernel)) hI31 (fun {S47_507} hI508 g509 r510 r511 => ?_)
        have r512 : ((S47_507.1 35).toInt = 0) → ((S14_29.1 35).toInt = 0) := r510
        clear r510
        have q513 : (0) ≤ (S47_507.1 35).toInt ∧ (S47_507.1 35).toInt ≤ (8) := (show B 0 8 (S47_507.1 35) from bf_35 hI508)
        have r514 : (s1_500.toInt = 0) → (1 ≤ (S47_507.1 35).toInt) := r511
        clear r511
        refine ⟨fun hc => ?_, fun hc => ?_⟩
        · have hq515 := hc
          have b516 : B 2 255 (v14_28) := B_w (B_leR cqb_2_2_2 b30 hq515) (by decide +kernel) (by decide +kernel)
          have q517 : (2) ≤ (v14_28).toInt ∧ (v14_28).toInt ≤ (255) := (show B 2 255 (v14_28) from B_w b516 (by decide +kernel) (by decide +kernel))
          have g518 := ag_tr (ag_refl (fs := [10, 35]) (rs := []) (S := S14_29)) g509 (by decide +kernel) (by decide +kernel)
          have e519 : (S47_507.1 34).toInt = (S14_29.1 34).toInt := (congrArg Int32.toInt (g509.1 34 rfl)).trans rfl
          have e520 : (v14_28 - 14).toInt = ((v14_28).toInt - 14) := (t_sub b516 cqb_14_14_14 (by decide +kernel) (by decide +kernel)).trans (by rw [cqn_14])
          have q521 : (-12) ≤ (v14_28 - 14).toInt ∧ (v14_28 - 14).toInt ≤ (241) := (show B (-12) 241 (v14_28 - 14) from B_w (B_sub b516 cqb_14_14_14 (by decide +kernel) (by decide +kernel)) (by decide +kernel) (by decide +kernel))
          exact hj287 (B_w (B_sub b516 cqb_14_14_14 (by decide +kernel) (by decide +kernel)) (by decide +kernel) (by decide +kernel)) hI508 g518 (by show (T2.1 34).toInt ≤ (S47_507.1 34).toInt; first | with_reducible assumption | omega) (by show ((S47_507.1 35).toInt = 0) → (((T2.1 35).toInt = 0) ∧ (((T2.1 34).toInt + 1) ≤ (S47_507.1 34).toInt)); first | with_reducible assumption | exact (fun _ => by with_reducible assumption) | omega) (by show ((S47_507.1 35).toInt = 0) → ((0 ≤ (v14_28 - 14).toInt) ∧ ((v14_28 - 14).toInt ≤ 3)); first | with_reducible assumption | exact (fun _ => by with_reducible assumption) | omega)
        · have hq522 := (nle_lt hc)
          have b523 : B 0 1 (v14_28) := B_w (B_ltL b30 cqb_2_2_2 hq522) (by decide +kernel) (by decide +kernel)
          have q524 : (0) ≤ (v14_28).toInt ∧ (v14_28).toInt ≤ (1) := (show B 0 1 (v14_28) from B_w b523 (by decide +kernel) (by decide +kernel))
          have g525 := ag_tr (ag_refl (fs := [10, 35]) (rs := []) (S := S14_29)) g509 (by decide +kernel) (by decide +kernel)
          have e526 : (S47_507.1 34).toInt = (S14_29.1 34).toInt := (congrArg Int32.toInt (g509.1 34 rfl)).trans rfl
          exact hj287 (B_w b523 (by decide +kernel) (by decide +kernel)) hI508 g525 (by show (T2.1 34).toInt ≤ (S47_507.1 34).toInt; first | with_reducible assumption | omega) (by show ((S47_507.1 35).toInt = 0) → (((T2.1 35).toInt = 0) ∧ (((T2.1 34).toInt + 1) ≤ (S47_507.1 34).toInt)); first | with_reducible assumption | exact (fun _ => by with_reducible assumption) | omega) (by show ((S47_507.1 35).toInt = 0) → ((0 ≤ v14_28.toInt) ∧ (v14_28.toInt ≤ 3)); first | with_reducible assumption | exact (fun _ => by with_reducible assumption) | omega)
      refine ⟨fun hc => ?_, fun hc => ?_⟩
      · have hq527 := hc
        have b528 : B 0 1 (v14_28) := B_w (B_ltL b30 cqb_2_2_2 hq527) (by decide +kernel) (by decide +kernel)
        unfold b_readCodes_36
        have q529 : (0) ≤ (v14_28).toInt ∧ (v14_28).toInt ≤ (1) := (show B 0 1 (v14_28) from B_w b528 (by decide +kernel) (by decide +kernel))
        exact hj499 (B_w cqb_1_1_1 (by decide +kernel) (by decide +kernel)) (by show (T2.1 34).toInt ≤ (S14_29.1 34).toInt; first | with_reducible assumption | omega) (by show ((S14_29.1 35).toInt = 0) → (((T2.1 35).toInt = 0) ∧ (((T2.1 34).toInt + 1) ≤ (S14_29.1 34).toInt)); first | with_reducible assumption | exact (fun _ => by with_reducible assumption) | omega) (by show (1 = 1) → ((v14_28.toInt ≤ 1) ∨ ((v14_28.toInt = 16) ∨ (v14_28.toInt = 17))); first | with_reducible assumption | exact (fun _ => by with_reducible assumption) | omega)
      · have hq530 := (nlt_le hc)
        have b531 : B 2 255 (v14_28) := B_w (B_leR cqb_2_2_2 b30 hq530) (by decide +kernel) (by decide +kernel)
        refine ⟨fun hc => ?_, fun hc => ?_⟩
        · have b532 : B 16 16 (v14_28) := B_w (B_eq hc cqb_16_16_16) (by decide +kernel) (by decide +kernel)
          have q533 : (16) ≤ (v14_28).toInt ∧ (v14_28).toInt ≤ (16) := (show B 16 16 (v14_28) from B_w b532 (by decide +kernel) (by decide +kernel))
          have i534 : (v14_28).toInt = (16 : Int32).toInt := congrArg Int32.toInt hc
          have n535 : (16 : Int32).toInt = 16 := cqn_16
          unfold b_readCodes_36
          exact hj499 (B_w cqb_1_1_1 (by decide +kernel) (by decide +kernel)) (by show (T2.1 34).toInt ≤ (S14_29.1 34).toInt; first | with_reducible assumption | omega) (by show ((S14_29.1 35).toInt = 0) → (((T2.1 35).toInt = 0) ∧ (((T2.1 34).toInt + 1) ≤ (S14_29.1 34).toInt)); first | with_reducible assumption | exact (fun _ => by with_reducible assumption) | omega) (by show (1 = 1) → ((v14_28.toInt ≤ 1) ∨ ((v14_28.toInt = 16) ∨ (v14_28.toInt = 17))); first | with_reducible assumption | exact (fun _ => by with_reducible assumption) | omega)
        · have q536 : (2) ≤ (v14_28).toInt ∧ (v14_28).toInt ≤ (255) := (show B 2 255 (v14_28) from B_w b531 (by decide +kernel) (by decide +kernel))
          have i537 : (v14_28).toInt ≠ (16 : Int32).toInt := i_ne hc
          have n538 : (16 : Int32).toInt = 16 := cqn_16
          refine ⟨fun hc => ?_, fun hc => ?_⟩
          · have i539 : (v14_28).toInt ≠ (17 : Int32).toInt := i_ne hc
            have n540 : (17 : Int32).toInt = 17 := cqn_17
            exact hj499 (B_w cqb_0_0_0 (by decide +kernel) (by decide +kernel)) (by show (T2.1 34).toInt ≤ (S14_29.1 34).toInt; first | with_reducible assumption | omega) (by show ((S14_29.1 35).toInt = 0) → (((T2.1 35).toInt = 0) ∧ (((T2.1 34).toInt + 1) ≤ (S14_29.1 34).toInt)); first | with_reducible assumption | exact (fun _ => by with_reducible assumption) | omega) (by show (0 = 1) → ((v14_28.toInt ≤ 1) ∨ ((v14_28.toInt = 16) ∨ (v14_28.toInt = 17))); first | with_reducible assumption | exact (fun _ => by with_reducible assumption) | omega)
          · have b541 : B 17 17 (v14_28) := B_w (B_eq hc cqb_17_17_17) (by decide +kernel) (by decide +kernel)
            have q542 : (17) ≤ (v14_28).toInt ∧ (v14_28).toInt ≤ (17) := (show B 17 17 (v14_28) from B_w b541 (by decide +kernel) (by decide +kernel))
            have i543 : (v14_28).toInt = (17 : Int32).toInt := congrArg Int32.toInt hc
            have n544 : (17 : Int32).toInt = 17 := cqn_17
            unfold b_readCodes_36
            exact hj499 (B_w cqb_1_1_1 (by decide +kernel) (by decide +kernel)) (by show (T2.1 34).toInt ≤ (S14_29.1 34).toInt; first | with_reducible assumption | omega) (by show ((S14_29.1 35).toInt = 0) → (((T2.1 35).toInt = 0) ∧ (((T2.1 34).toInt + 1) ≤ (S14_29.1 34).toInt)); first | with_reducible assumption | exact (fun _ => by with_reducible assumption) | omega) (by show (1 = 1) → ((v14_28.toInt ≤ 1) ∨ ((v14_28.toInt = 16) ∨ (v14_28.toInt = 17))); first | with_reducible assumption | exact (fun _ => by with_reducible assumption) | omega)
set_option maxRecDepth 20000 in
set_option maxHeartbeats 4000000 in
theorem h_layerNamed {x1 : Int32} {S : ms} {K : Int32 → ms → Prop} (b_x1 : B 0 255 x1) (hI : IM S) (hK : ∀ {v : Int32}, B (-1) 2 v → ((v.toInt < (S.2.1 14 (2 : Int32).toNatClampNeg).toInt) ∨ (v.toInt = (-1))) → K v S) : p_layerNamed x1 S K := by
  unfold p_layerNamed
  have q7 : (0) ≤ (S.2.1 14 (2 : Int32).toNatClampNeg).toInt ∧ (S.2.1 14 (2 : Int32).toNatClampNeg).toInt ≤ (3) := (show B 0 3 (S.2.1 14 (2 : Int32).toNatClampNeg) from br_14 hI _)
  refine ⟨fun yx1 yx2 yx3 yS => x1 = yx1 ∧ B (-1) 2 yx2 ∧ B 0 3 yx3 ∧ S = yS ∧ ((yx2.toInt < (yS.2.1 14 (2 : Int32).toNatClampNeg).toInt) ∨ (yx2.toInt = (-1))), fun yx1 yx2 yx3 yS => (3 - yx3.toInt).toNat, ⟨rfl, (B_w cqb_m1_m1_m1 (by decide +kernel) (by decide +kernel)), (B_w cqb_0_0_0 (by decide +kernel) (by decide +kernel)), rfl, (by show ((-1) < (S.2.1 14 (2 : Int32).toNatClampNeg).toInt) ∨ ((-1) = (-1)); first | with_reducible assumption | omega)⟩, fun x1_1 x2_2 x3_3 T4 hIv => ?_⟩
  obtain ⟨rfl, b5, b6, rfl, r8⟩ := hIv
  suffices hs : ∀ (R4 : Int32 → Int32 → Int32 → ms → Prop), (∀ zx1 zx2 zx3 zS, (x1 = zx1 ∧ B (-1) 2 zx2 ∧ B 0 3 zx3 ∧ S = zS ∧ ((zx2.toInt < (zS.2.1 14 (2 : Int32).toNatClampNeg).toInt) ∨ (zx2.toInt = (-1)))) → (3 - zx3.toInt).toNat < (3 - x3_3.toInt).toNat → R4 zx1 zx2 zx3 zS) → b_layerNamed_4 x1 x2_2 x3_3 S R4 K from hs _ (fun _ _ _ _ h1 h2 => ⟨h1, h2⟩)
  intro R4 hR40
  have hR4 := fun {zx1} {zx2} {zx3} {zS} => hR40 zx1 zx2 zx3 zS
  have q9 : (-1) ≤ (x2_2).toInt ∧ (x2_2).toInt ≤ (2) := (show B (-1) 2 (x2_2) from B_w b5 (by decide +kernel) (by decide +kernel))
  have q10 : (0) ≤ (S.2.1 14 (2 : Int32).toNatClampNeg).toInt ∧ (S.2.1 14 (2 : Int32).toNatClampNeg).toInt ≤ (3) := (show B 0 3 (S.2.1 14 (2 : Int32).toNatClampNeg) from br_14 hI _)
  unfold b_layerNamed_4
  refine ⟨vp_B cqb_2_2_2 (by decide +kernel) (by decide +kernel), ?_⟩
  refine ⟨fun hc => ?_, fun hc => ?_⟩
  · have hq11 := hc
    have q12 : (0) ≤ (x3_3).toInt ∧ (x3_3).toInt ≤ (3) := (show B 0 3 (x3_3) from B_w b6 (by decide +kernel) (by decide +kernel))
    have i13 : (S.2.1 14 (2 : Int32).toNatClampNeg).toInt ≤ (x3_3).toInt := i_le hq11
    exact hK b5 (by show (x2_2.toInt < (S.2.1 14 (2 : Int32).toNatClampNeg).toInt) ∨ (x2_2.toInt = (-1)); first | with_reducible assumption | omega)
  · have hq14 := (nle_lt hc)
    have b15 : B 0 2 (x3_3) := B_w (B_ltL b6 (show B 0 3 (S.2.1 14 (2 : Int32).toNatClampNeg) from br_14 hI _) hq14) (by decide +kernel) (by decide +kernel)
    have b16 : B 1 3 (S.2.1 14 (2 : Int32).toNatClampNeg) := B_w (B_ltR b6 (show B 0 3 (S.2.1 14 (2 : Int32).toNatClampNeg) from br_14 hI _) hq14) (by decide +kernel) (by decide +kernel)
    have q17 : (1) ≤ (S.2.1 14 (2 : Int32).toNatClampNeg).toInt ∧ (S.2.1 14 (2 : Int32).toNatClampNeg).toInt ≤ (3) := (show B 1 3 (S.2.1 14 (2 : Int32).toNatClampNeg) from B_w b16 (by decide +kernel) (by decide +kernel))
    have q18 : (0) ≤ (x3_3).toInt ∧ (x3_3).toInt ≤ (2) := (show B 0 2 (x3_3) from B_w b15 (by decide +kernel) (by decide +kernel))
    have i19 : (x3_3).toInt < (S.2.1 14 (2 : Int32).toNatClampNeg).toInt := i_lt hq14
    refine ⟨vp_B b15 (by decide +kernel) (by decide +kernel), ?_⟩
    refine ⟨fun hc => ?_, fun hc => ?_⟩
    · have q20 : (0) ≤ (S.2.1 44 x3_3.toNatClampNeg).toInt ∧ (S.2.1 44 x3_3.toNatClampNeg).toInt ≤ (255) := (show B 0 255 (S.2.1 44 x3_3.toNatClampNeg) from br_44 hI _)
      have q21 : (0) ≤ (x1).toInt ∧ (x1).toInt ≤ (255) := (show B 0 255 (x1) from B_w b_x1 (by decide +kernel) (by decide +kernel))
      have i22 : (S.2.1 44 x3_3.toNatClampNeg).toInt ≠ (x1).toInt := i_ne hc
      unfold b_layerNamed_29
      have e23 : (x3_3 + 1).toInt = ((x3_3).toInt + 1) := (t_add b15 cqb_1_1_1 (by decide +kernel) (by decide +kernel)).trans (by rw [cqn_1])
      have q24 : (1) ≤ (x3_3 + 1).toInt ∧ (x3_3 + 1).toInt ≤ (3) := (show B 1 3 (x3_3 + 1) from B_w (B_add b15 cqb_1_1_1 (by decide +kernel) (by decide +kernel)) (by decide +kernel) (by decide +kernel))
      exact hR4 ⟨rfl, b5, (B_w (B_add b15 cqb_1_1_1 (by decide +kernel) (by decide +kernel)) (by decide +kernel) (by decide +kernel)), rfl, (by show (x2_2.toInt < (S.2.1 14 (2 : Int32).toNatClampNeg).toInt) ∨ (x2_2.toInt = (-1)); first | with_reducible assumption | omega)⟩ (by show (3 - (x3_3 + 1).toInt).toNat < (3 - x3_3.toInt).toNat; omega)
    · have q25 : (0) ≤ (S.2.1 44 x3_3.toNatClampNeg).toInt ∧ (S.2.1 44 x3_3.toNatClampNeg).toInt ≤ (255) := (show B 0 255 (S.2.1 44 x3_3.toNatClampNeg) from br_44 hI _)
      have q26 : (0) ≤ (x1).toInt ∧ (x1).toInt ≤ (255) := (show B 0 255 (x1) from B_w b_x1 (by decide +kernel) (by decide +kernel))
      have i27 : (S.2.1 44 x3_3.toNatClampNeg).toInt = (x1).toInt := congrArg Int32.toInt hc
      unfold b_layerNamed_29
      have e28 : (x3_3 + 1).toInt = ((x3_3).toInt + 1) := (t_add b15 cqb_1_1_1 (by decide +kernel) (by decide +kernel)).trans (by rw [cqn_1])
      have q29 : (1) ≤ (x3_3 + 1).toInt ∧ (x3_3 + 1).toInt ≤ (3) := (show B 1 3 (x3_3 + 1) from B_w (B_add b15 cqb_1_1_1 (by decide +kernel) (by decide +kernel)) (by decide +kernel) (by decide +kernel))
      exact hR4 ⟨rfl, (B_w b15 (by decide +kernel) (by decide +kernel)), (B_w (B_add b15 cqb_1_1_1 (by decide +kernel) (by decide +kernel)) (by decide +kernel) (by decide +kernel)), rfl, (by show (x3_3.toInt < (S.2.1 14 (2 : Int32).toNatClampNeg).toInt) ∨ (x3_3.toInt = (-1)); first | with_reducible assumption | omega)⟩ (by show (3 - (x3_3 + 1).toInt).toNat < (3 - x3_3.toInt).toNat; omega)
set_option maxRecDepth 20000 in
set_option maxHeartbeats 4000000 in
theorem h_readScanHead {S : ms} {K : ms → Prop} (hI : IM S) (pre0 : qf (S.2.1 15) 6 ((6 + (S.2.1 14 (2 : Int32).toNatClampNeg).toInt) - (1000 * (S.1 35).toInt)) 1 2) (pre1 : qf (S.2.1 16) 6 ((6 + (S.2.1 14 (2 : Int32).toNatClampNeg).toInt) - (1000 * (S.1 35).toInt)) 1 2) (pre2 : qf (S.2.1 45) 0 ((S.2.1 14 (2 : Int32).toNatClampNeg).toInt - (1000 * (S.1 35).toInt)) 0 3) (pre3 : ((S.1 35).toInt = 0) → (((S.2.1 14 (2 : Int32).toNatClampNeg).toInt = 0) ∨ ((((S.2.1 14 (2 : Int32).toNatClampNeg).toInt = 1) ∨ ((S.2.1 14 (2 : Int32).toNatClampNeg).toInt = 3)) ∧ ((1 ≤ (S.2.1 12 (2 : Int32).toNatClampNeg).toInt) ∧ (1 ≤ (S.2.1 13 (2 : Int32).toNatClampNeg).toInt))))) (pre4 : cA S) (hK : ∀ {Z : ms}, IM Z → ag [10, 34, 35, 49] [46, 47, 50, 51, 52] S Z → ((S.1 34).toInt ≤ (Z.1 34).toInt) → (((Z.1 35).toInt = 0) → ((S.1 35).toInt = 0)) → (cSn (Z.1 49).toInt Z) → (qf (Z.2.1 50) 0 ((Z.1 49).toInt - (1000 * (Z.1 35).toInt)) 0 ((Z.2.1 14 (2 : Int32).toNatClampNeg).toInt - 1)) → (((Z.1 35).toInt = 0) → ((1 ≤ (Z.1 49).toInt) ∧ ((Z.1 49).toInt ≤ (Z.2.1 14 (2 : Int32).toNatClampNeg).toInt))) → K Z) : p_readScanHead S K := by
  have q1 : (0) ≤ (S.2.1 14 (2 : Int32).toNatClampNeg).toInt ∧ (S.2.1 14 (2 : Int32).toNatClampNeg).toInt ≤ (3) := (show B 0 3 (S.2.1 14 (2 : Int32).toNatClampNeg) from br_14 hI _)
  have q2 : (0) ≤ (S.1 35).toInt ∧ (S.1 35).toInt ≤ (8) := (show B 0 8 (S.1 35) from bf_35 hI)
  have q3 : (0) ≤ (S.2.1 12 (2 : Int32).toNatClampNeg).toInt ∧ (S.2.1 12 (2 : Int32).toNatClampNeg).toInt ≤ (64) := (show B 0 64 (S.2.1 12 (2 : Int32).toNatClampNeg) from br_12 hI _)
  have q4 : (0) ≤ (S.2.1 13 (2 : Int32).toNatClampNeg).toInt ∧ (S.2.1 13 (2 : Int32).toNatClampNeg).toInt ≤ (64) := (show B 0 64 (S.2.1 13 (2 : Int32).toNatClampNeg) from br_13 hI _)
  unfold p_readScanHead
  refine h_next hI (fun {v1_5} {S1_6} b7 hI8 g9 r10 r11 => ?_)
  have r12 : (S.1 34).toInt ≤ (S1_6.1 34).toInt := r10
  clear r10
  have q13 : (0) ≤ (S.1 34).toInt ∧ (S.1 34).toInt ≤ (32768) := (show B 0 32768 (S.1 34) from bf_34 hI)
  have q14 : (0) ≤ (S1_6.1 34).toInt ∧ (S1_6.1 34).toInt ≤ (32768) := (show B 0 32768 (S1_6.1 34) from bf_34 hI8)
  have r15 : ((S1_6.1 35).toInt = 0) → (((S.1 35).toInt = 0) ∧ (((S.1 34).toInt + 1) ≤ (S1_6.1 34).toInt)) := r11
  clear r11
  have q16 : (0) ≤ (S1_6.1 35).toInt ∧ (S1_6.1 35).toInt ≤ (8) := (show B 0 8 (S1_6.1 35) from bf_35 hI8)
  have hj17 : ∀ {T18 : ms}, IM T18 → ag [10, 34, 35] [50, 51, 52] S1_6 T18 → ((S.1 34).toInt ≤ (T18.1 34).toInt) → (((T18.1 35).toInt = 0) → ((S.1 35).toInt = 0)) → (((T18.1 35).toInt = 0) → ((1 ≤ v1_5.toInt) ∧ (v1_5.toInt ≤ (T18.2.1 14 (2 : Int32).toNatClampNeg).toInt))) → (qf (T18.2.1 50) 0 (v1_5.toInt - (1000 * (T18.1 35).toInt)) 0 ((T18.2.1 14 (2 : Int32).toNatClampNeg).toInt - 1)) → (cSn v1_5.toInt T18) → b_readScanHead_460 v1_5 T18 K := by
    intro T18 hI19 g20 r21 r22 r23 r24 r25
    have q26 : (0) ≤ (T18.1 34).toInt ∧ (T18.1 34).toInt ≤ (32768) := (show B 0 32768 (T18.1 34) from bf_34 hI19)
    have q27 : (0) ≤ (T18.1 35).toInt ∧ (T18.1 35).toInt ≤ (8) := (show B 0 8 (T18.1 35) from bf_35 hI19)
    have q28 : (0) ≤ (v1_5).toInt ∧ (v1_5).toInt ≤ (255) := (show B 0 255 (v1_5) from B_w b7 (by decide +kernel) (by decide +kernel))
    have e29 : (T18.2.1 14 (2 : Int32).toNatClampNeg).toInt = (S.2.1 14 (2 : Int32).toNatClampNeg).toInt := (congrArg Int32.toInt ((congrFun (g20.2 14 rfl) (2 : Int32).toNatClampNeg).trans (congrFun (g9.2 14 rfl) (2 : Int32).toNatClampNeg))).trans rfl
    unfold b_readScanHead_460
    have hI36 := IM_f (k := 49) (v := v1_5) hI19 b7 (by decide +kernel) (by decide +kernel)
    refine ⟨fun yx1 yx5 yS => v1_5 = yx1 ∧ B 0 255 yx5 ∧ IM yS ∧ ag [] [46, 47] (upd T18.1 49 v1_5, T18.2.1, T18.2.2) yS ∧ ((S.1 34).toInt ≤ (yS.1 34).toInt) ∧ (((yS.1 35).toInt = 0) → ((S.1 35).toInt = 0)) ∧ (((yS.1 35).toInt = 0) → ((1 ≤ yx1.toInt) ∧ (yx1.toInt ≤ (yS.2.1 14 (2 : Int32).toNatClampNeg).toInt))) ∧ (qf (yS.2.1 50) 0 (yx1.toInt - (1000 * (yS.1 35).toInt)) 0 ((yS.2.1 14 (2 : Int32).toNatClampNeg).toInt - 1)) ∧ (cSn yx1.toInt yS), fun yx1 yx5 yS => (255 - yx5.toInt).toNat, ⟨rfl, (B_w cqb_0_0_0 (by decide +kernel) (by decide +kernel)), hI36, (ag_refl (fs := []) (rs := [46, 47]) (S := (upd T18.1 49 v1_5, T18.2.1, T18.2.2))), (by show (S.1 34).toInt ≤ (T18.1 34).toInt; first | with_reducible assumption | omega), (by show ((T18.1 35).toInt = 0) → ((S.1 35).toInt = 0); first | with_reducible assumption | exact (fun _ => by with_reducible assumption) | omega), (by show ((T18.1 35).toInt = 0) → ((1 ≤ v1_5.toInt) ∧ (v1_5.toInt ≤ (T18.2.1 14 (2 : Int32).toNatClampNeg).toInt)); first | with_reducible assumption | exact (fun _ => by with_reducible assumption) | omega), (qf_le (b' := v1_5.toInt - (1000 * (T18.1 35).toInt)) (lo' := 0) (hi' := (T18.2.1 14 (2 : Int32).toNatClampNeg).toInt - 1) r24 (by omega) (by omega) (by omega)), (cSn_tr (S := T18) (T := (upd T18.1 49 v1_5, T18.2.1, T18.2.2)) (n := v1_5.toInt) (n' := v1_5.toInt) r25 (Eq.trans ((g20.2 40 rfl).trans (g9.2 40 rfl)) (Eq.symm ((g20.2 40 rfl).trans (g9.2 40 rfl)))) rfl rfl (by show (T18.1 35).toInt = 0 → ((T18.1 35).toInt = 0); first | with_reducible assumption | exact (fun _ => by with_reducible assumption) | omega) (by show (T18.1 35).toInt = 0 → v1_5.toInt ≤ v1_5.toInt; first | with_reducible assumption | exact (fun _ => by with_reducible assumption) | omega))⟩, fun x1_30 x5_31 T32 hIv => ?_⟩
    obtain ⟨rfl, b33, hI34, g35, r37, r38, r39, r40, r41⟩ := hIv
    suffices hs : ∀ (R468 : Int32 → Int32 → ms → Prop), (∀ zx1 zx5 zS, (v1_5 = zx1 ∧ B 0 255 zx5 ∧ IM zS ∧ ag [] [46, 47] (upd T18.1 49 v1_5, T18.2.1, T18.2.2) zS ∧ ((S.1 34).toInt ≤ (zS.1 34).toInt) ∧ (((zS.1 35).toInt = 0) → ((S.1 35).toInt = 0)) ∧ (((zS.1 35).toInt = 0) → ((1 ≤ zx1.toInt) ∧ (zx1.toInt ≤ (zS.2.1 14 (2 : Int32).toNatClampNeg).toInt))) ∧ (qf (zS.2.1 50) 0 (zx1.toInt - (1000 * (zS.1 35).toInt)) 0 ((zS.2.1 14 (2 : Int32).toNatClampNeg).toInt - 1)) ∧ (cSn zx1.toInt zS)) → (255 - zx5.toInt).toNat < (255 - x5_31.toInt).toNat → R468 zx1 zx5 zS) → b_readScanHead_468 v1_5 x5_31 T32 R468 K from hs _ (fun _ _ _ h1 h2 => ⟨h1, h2⟩)
    intro R468 hR4680
    have hR468 := fun {zx1} {zx5} {zS} => hR4680 zx1 zx5 zS
    have e42 : (T32.1 34).toInt = (T18.1 34).toInt := (congrArg Int32.toInt (g35.1 34 rfl)).trans rfl
    have e43 : (T32.1 35).toInt = (T18.1 35).toInt := (congrArg Int32.toInt (g35.1 35 rfl)).trans rfl
    have e44 : (T32.2.1 14 (2 : Int32).toNatClampNeg).toInt = (S.2.1 14 (2 : Int32).toNatClampNeg).toInt := (congrArg Int32.toInt (((congrFun (g35.2 14 rfl) (2 : Int32).toNatClampNeg).trans (congrFun (g20.2 14 rfl) (2 : Int32).toNatClampNeg)).trans (congrFun (g9.2 14 rfl) (2 : Int32).toNatClampNeg))).trans rfl
    have w45 : qf (T18.2.1 50) 0 (v1_5.toInt - (1000 * (T32.1 35).toInt)) 0 ((T32.2.1 14 (2 : Int32).toNatClampNeg).toInt - 1) := qf_eq (Eq.symm (g35.2 50 rfl)) r40
    unfold b_readScanHead_468
    refine ⟨fun hc => ?_, fun hc => ?_⟩
    · have hq46 := hc
      have q47 : (0) ≤ (x5_31).toInt ∧ (x5_31).toInt ≤ (255) := (show B 0 255 (x5_31) from B_w b33 (by decide +kernel) (by decide +kernel))
      have i48 : (v1_5).toInt ≤ (x5_31).toInt := i_le hq46
      unfold b_readScanHead_557
      have g52 := ag_tr (ag_refl (fs := [10, 34, 35, 49]) (rs := [46, 47, 50, 51, 52]) (S := S)) g9 (by decide +kernel) (by decide +kernel)
      have g51 := ag_tr g52 g20 (by decide +kernel) (by decide +kernel)
      have g50 := ag_f (k := 49) (v := v1_5) g51 (by decide +kernel)
      have g49 := ag_tr g50 g35 (by decide +kernel) (by decide +kernel)
      have e53 : (T32.1 49).toInt = (v1_5).toInt := (congrArg Int32.toInt (g35.1 49 rfl)).trans rfl
      exact hK hI34 g49 (by show (S.1 34).toInt ≤ (T32.1 34).toInt; first | with_reducible assumption | omega) (by show ((T32.1 35).toInt = 0) → ((S.1 35).toInt = 0); first | with_reducible assumption | exact (fun _ => by with_reducible assumption) | omega) (cSn_tr (S := T32) (T := T32) (n := v1_5.toInt) (n' := (T32.1 49).toInt) r41 (Eq.trans (((g35.2 40 rfl).trans (g20.2 40 rfl)).trans (g9.2 40 rfl)) (Eq.symm (((g35.2 40 rfl).trans (g20.2 40 rfl)).trans (g9.2 40 rfl)))) (Eq.trans (g35.2 51 rfl) (Eq.symm (g35.2 51 rfl))) (Eq.trans (g35.2 52 rfl) (Eq.symm (g35.2 52 rfl))) (by show (T32.1 35).toInt = 0 → ((T32.1 35).toInt = 0); first | with_reducible assumption | exact (fun _ => by with_reducible assumption) | omega) (by show (T32.1 35).toInt = 0 → (T32.1 49).toInt ≤ v1_5.toInt; first | with_reducible assumption | exact (fun _ => by with_reducible assumption) | omega)) (qf_eq (g35.2 50 rfl) (qf_le (b' := (T32.1 49).toInt - (1000 * (T32.1 35).toInt)) (lo' := 0) (hi' := (T32.2.1 14 (2 : Int32).toNatClampNeg).toInt - 1) w45 (by omega) (by omega) (by omega))) (by show ((T32.1 35).toInt = 0) → ((1 ≤ (T32.1 49).toInt) ∧ ((T32.1 49).toInt ≤ (T32.2.1 14 (2 : Int32).toNatClampNeg).toInt)); first | with_reducible assumption | exact (fun _ => by with_reducible assumption) | omega)
    · have hq54 := (nle_lt hc)
      have b55 : B 0 254 (x5_31) := B_w (B_ltL b33 b7 hq54) (by decide +kernel) (by decide +kernel)
      have b56 : B 1 255 (v1_5) := B_w (B_ltR b33 b7 hq54) (by decide +kernel) (by decide +kernel)
      have q57 : (1) ≤ (v1_5).toInt ∧ (v1_5).toInt ≤ (255) := (show B 1 255 (v1_5) from B_w b56 (by decide +kernel) (by decide +kernel))
      have q58 : (0) ≤ (x5_31).toInt ∧ (x5_31).toInt ≤ (254) := (show B 0 254 (x5_31) from B_w b55 (by decide +kernel) (by decide +kernel))
      have i59 : (x5_31).toInt < (v1_5).toInt := i_lt hq54
      refine ⟨fun hc => ?_, fun hc => ?_⟩
      · have b60 : B 1 8 (T18.1 35) := B_w (B_eq (Eq.symm (g35.1 35 rfl)) (B_n0 (B_eq (g35.1 35 rfl) (show B 0 8 (T18.1 35) from bf_35 hI19)) hc)) (by decide +kernel) (by decide +kernel)
        have q61 : (1) ≤ (T18.1 35).toInt ∧ (T18.1 35).toInt ≤ (8) := (show B 1 8 (T18.1 35) from B_w b60 (by decide +kernel) (by decide +kernel))
        unfold b_readScanHead_557
        have g65 := ag_tr (ag_refl (fs := [10, 34, 35, 49]) (rs := [46, 47, 50, 51, 52]) (S := S)) g9 (by decide +kernel) (by decide +kernel)
        have g64 := ag_tr g65 g20 (by decide +kernel) (by decide +kernel)
        have g63 := ag_f (k := 49) (v := v1_5) g64 (by decide +kernel)
        have g62 := ag_tr g63 g35 (by decide +kernel) (by decide +kernel)
        have e66 : (T32.1 49).toInt = (v1_5).toInt := (congrArg Int32.toInt (g35.1 49 rfl)).trans rfl
        exact hK hI34 g62 (by show (S.1 34).toInt ≤ (T32.1 34).toInt; first | with_reducible assumption | omega) (by show ((T32.1 35).toInt = 0) → ((S.1 35).toInt = 0); first | with_reducible assumption | exact (fun _ => by with_reducible assumption) | omega) (fun h => absurd (show (T32.1 35).toInt = 0 from h) (by omega)) (qf_eq (g35.2 50 rfl) (qf_le (b' := (T32.1 49).toInt - (1000 * (T32.1 35).toInt)) (lo' := 0) (hi' := (T32.2.1 14 (2 : Int32).toNatClampNeg).toInt - 1) w45 (by omega) (by omega) (by omega))) (by show ((T32.1 35).toInt = 0) → ((1 ≤ (T32.1 49).toInt) ∧ ((T32.1 49).toInt ≤ (T32.2.1 14 (2 : Int32).toNatClampNeg).toInt)); first | with_reducible assumption | exact (fun _ => by with_reducible assumption) | omega)
      · have b67 : B 0 0 (T18.1 35) := B_w (B_eq (Eq.symm (g35.1 35 rfl)) (B_eq hc cqb_0_0_0)) (by decide +kernel) (by decide +kernel)
        have q68 : (0) ≤ (T18.1 35).toInt ∧ (T18.1 35).toInt ≤ (0) := (show B 0 0 (T18.1 35) from B_w b67 (by decide +kernel) (by decide +kernel))
        have i69 : (T32.1 35).toInt = (0 : Int32).toInt := congrArg Int32.toInt hc
        have n70 : (0 : Int32).toInt = 0 := cqn_0
        refine ⟨vp_om (x := x5_31) (by omega) (by omega), ?_⟩
        have b71 : B 0 2 (x5_31) := ⟨by omega, by omega⟩
        have r72 : 0 ≤ (T18.2.1 50 x5_31.toNatClampNeg).toInt ∧ (T18.2.1 50 x5_31.toNatClampNeg).toInt ≤ ((T32.2.1 14 (2 : Int32).toNatClampNeg).toInt - 1) := qf_at w45 (x := x5_31) (by omega) (by omega)
        have r73 : 0 ≤ (T18.2.1 50 x5_31.toNatClampNeg).toInt ∧ (T18.2.1 50 x5_31.toNatClampNeg).toInt ≤ ((T18.2.1 14 (2 : Int32).toNatClampNeg).toInt - 1) := qf_at r24 (x := x5_31) (by omega) (by omega)
        refine ⟨vp_B (B_eq (congrFun (g35.2 50 rfl) x5_31.toNatClampNeg) (show B 0 2 (T18.2.1 50 x5_31.toNatClampNeg) from br_50 hI19 _)) (by decide +kernel) (by decide +kernel), ?_⟩
        have hI81 := IM_r (r := 47) (i := (T32.2.1 50 x5_31.toNatClampNeg).toNatClampNeg) (v := vp_nar .boolean 1) hI34 (show B 1 1 (vp_nar .boolean 1) from ⟨by decide +kernel, by decide +kernel⟩) (by decide +kernel) (by decide +kernel)
        refine ⟨fun yx1 yx5 yx6 yS => v1_5 = yx1 ∧ x5_31 = yx5 ∧ B 0 64 yx6 ∧ IM yS ∧ ag [] [46] (T32.1, va_up T32.2.1 47 (upd (T32.2.1 47) (T32.2.1 50 x5_31.toNatClampNeg).toNatClampNeg (vp_nar .boolean 1)), T32.2.2) yS, fun yx1 yx5 yx6 yS => (64 - yx6.toInt).toNat, ⟨rfl, rfl, (B_w cqb_0_0_0 (by decide +kernel) (by decide +kernel)), hI81, (ag_refl (fs := []) (rs := [46]) (S := (T32.1, va_up T32.2.1 47 (upd (T32.2.1 47) (T32.2.1 50 x5_31.toNatClampNeg).toNatClampNeg (vp_nar .boolean 1)), T32.2.2)))⟩, fun x1_74 x5_75 x6_76 T77 hIv => ?_⟩
        obtain ⟨rfl, rfl, b78, hI79, g80⟩ := hIv
        suffices hs : ∀ (R497 : Int32 → Int32 → Int32 → ms → Prop), (∀ zx1 zx5 zx6 zS, (v1_5 = zx1 ∧ x5_31 = zx5 ∧ B 0 64 zx6 ∧ IM zS ∧ ag [] [46] (T32.1, va_up T32.2.1 47 (upd (T32.2.1 47) (T32.2.1 50 x5_31.toNatClampNeg).toNatClampNeg (vp_nar .boolean 1)), T32.2.2) zS) → (64 - zx6.toInt).toNat < (64 - x6_76.toInt).toNat → R497 zx1 zx5 zx6 zS) → b_readScanHead_497 v1_5 x5_31 x6_76 T77 R468 R497 K from hs _ (fun _ _ _ _ h1 h2 => ⟨h1, h2⟩)
        intro R497 hR4970
        have hR497 := fun {zx1} {zx5} {zx6} {zS} => hR4970 zx1 zx5 zx6 zS
        unfold b_readScanHead_497
        refine ⟨fun hc => ?_, fun hc => ?_⟩
        · have hq82 := hc
          have b83 : B 64 64 (x6_76) := B_w (B_leR cqb_64_64_64 b78 hq82) (by decide +kernel) (by decide +kernel)
          have g86 := ag_tr (ag_refl (fs := []) (rs := [46, 47]) (S := (upd T18.1 49 v1_5, T18.2.1, T18.2.2))) g35 (by decide +kernel) (by decide +kernel)
          have g85 := ag_r (r := 47) (w := upd (T32.2.1 47) (T32.2.1 50 x5_31.toNatClampNeg).toNatClampNeg (vp_nar .boolean 1)) g86 (by decide +kernel)
          have g84 := ag_tr g85 g80 (by decide +kernel) (by decide +kernel)
          have e87 : (T77.1 34).toInt = (T18.1 34).toInt := (congrArg Int32.toInt ((g80.1 34 rfl).trans (g35.1 34 rfl))).trans rfl
          have e88 : (T77.1 35).toInt = (T18.1 35).toInt := (congrArg Int32.toInt ((g80.1 35 rfl).trans (g35.1 35 rfl))).trans rfl
          have e89 : (T77.2.1 14 (2 : Int32).toNatClampNeg).toInt = (S.2.1 14 (2 : Int32).toNatClampNeg).toInt := (congrArg Int32.toInt ((((congrFun (g80.2 14 rfl) (2 : Int32).toNatClampNeg).trans (congrFun (g35.2 14 rfl) (2 : Int32).toNatClampNeg)).trans (congrFun (g20.2 14 rfl) (2 : Int32).toNatClampNeg)).trans (congrFun (g9.2 14 rfl) (2 : Int32).toNatClampNeg))).trans rfl
          have e90 : (x5_31 + 1).toInt = ((x5_31).toInt + 1) := (t_add b71 cqb_1_1_1 (by decide +kernel) (by decide +kernel)).trans (by rw [cqn_1])
          have q91 : (1) ≤ (x5_31 + 1).toInt ∧ (x5_31 + 1).toInt ≤ (3) := (show B 1 3 (x5_31 + 1) from B_w (B_add b71 cqb_1_1_1 (by decide +kernel) (by decide +kernel)) (by decide +kernel) (by decide +kernel))
          exact hR468 ⟨rfl, (B_w (B_add b71 cqb_1_1_1 (by decide +kernel) (by decide +kernel)) (by decide +kernel) (by decide +kernel)), hI79, g84, (by show (S.1 34).toInt ≤ (T77.1 34).toInt; first | with_reducible assumption | omega), (by show ((T77.1 35).toInt = 0) → ((S.1 35).toInt = 0); first | with_reducible assumption | exact (fun _ => by with_reducible assumption) | omega), (by show ((T77.1 35).toInt = 0) → ((1 ≤ v1_5.toInt) ∧ (v1_5.toInt ≤ (T77.2.1 14 (2 : Int32).toNatClampNeg).toInt)); first | with_reducible assumption | exact (fun _ => by with_reducible assumption) | omega), (qf_eq ((g80.2 50 rfl).trans (g35.2 50 rfl)) (qf_le (b' := v1_5.toInt - (1000 * (T77.1 35).toInt)) (lo' := 0) (hi' := (T77.2.1 14 (2 : Int32).toNatClampNeg).toInt - 1) w45 (by omega) (by omega) (by omega))), (cSn_tr (S := T32) (T := T77) (n := v1_5.toInt) (n' := v1_5.toInt) r41 (Eq.trans ((((g80.2 40 rfl).trans (g35.2 40 rfl)).trans (g20.2 40 rfl)).trans (g9.2 40 rfl)) (Eq.symm (((g35.2 40 rfl).trans (g20.2 40 rfl)).trans (g9.2 40 rfl)))) (Eq.trans ((g80.2 51 rfl).trans (g35.2 51 rfl)) (Eq.symm (g35.2 51 rfl))) (Eq.trans ((g80.2 52 rfl).trans (g35.2 52 rfl)) (Eq.symm (g35.2 52 rfl))) (by show (T77.1 35).toInt = 0 → ((T32.1 35).toInt = 0); first | with_reducible assumption | exact (fun _ => by with_reducible assumption) | omega) (by show (T77.1 35).toInt = 0 → v1_5.toInt ≤ v1_5.toInt; first | with_reducible assumption | exact (fun _ => by with_reducible assumption) | omega))⟩ (by show (255 - (x5_31 + 1).toInt).toNat < (255 - x5_31.toInt).toNat; omega)
        · have hq92 := (nle_lt hc)
          have b93 : B 0 63 (x6_76) := B_w (B_ltL b78 cqb_64_64_64 hq92) (by decide +kernel) (by decide +kernel)
          refine ⟨vp_B b71 (by decide +kernel) (by decide +kernel), ?_⟩
          refine ⟨vp_B b71 (by decide +kernel) (by decide +kernel), ?_⟩
          refine ⟨vp_B (B_eq ((congrFun (g80.2 50 rfl) x5_31.toNatClampNeg).trans (congrFun (g35.2 50 rfl) x5_31.toNatClampNeg)) (show B 0 2 (T18.2.1 50 x5_31.toNatClampNeg) from br_50 hI19 _)) (by decide +kernel) (by decide +kernel), ?_⟩
          have q94 : (0) ≤ (T18.2.1 50 x5_31.toNatClampNeg).toInt ∧ (T18.2.1 50 x5_31.toNatClampNeg).toInt ≤ (2) := (show B 0 2 (T18.2.1 50 x5_31.toNatClampNeg) from br_50 hI19 _)
          have e95 : (T77.2.1 50 x5_31.toNatClampNeg).toInt = (T18.2.1 50 x5_31.toNatClampNeg).toInt := (congrArg Int32.toInt ((congrFun (g80.2 50 rfl) x5_31.toNatClampNeg).trans (congrFun (g35.2 50 rfl) x5_31.toNatClampNeg))).trans rfl
          have b96 : B 0 3 (S.2.1 45 (T77.2.1 50 x5_31.toNatClampNeg).toNatClampNeg) := qf_at pre2 (x := T77.2.1 50 x5_31.toNatClampNeg) (by omega) (by omega)
          refine ⟨vp_B (B_add (B_mul cqb_64_64_64 (B_eq ((((congrFun (g80.2 45 rfl) (T77.2.1 50 x5_31.toNatClampNeg).toNatClampNeg).trans (congrFun (g35.2 45 rfl) (T77.2.1 50 x5_31.toNatClampNeg).toNatClampNeg)).trans (congrFun (g20.2 45 rfl) (T77.2.1 50 x5_31.toNatClampNeg).toNatClampNeg)).trans (congrFun (g9.2 45 rfl) (T77.2.1 50 x5_31.toNatClampNeg).toNatClampNeg)) b96) (by decide +kernel) (by decide +kernel) (by decide +kernel)) b93 (by decide +kernel) (by decide +kernel)) (by decide +kernel) (by decide +kernel), ?_⟩
          refine ⟨vp_B (B_add (B_mul cqb_64_64_64 (B_eq ((congrFun (g80.2 50 rfl) x5_31.toNatClampNeg).trans (congrFun (g35.2 50 rfl) x5_31.toNatClampNeg)) (show B 0 2 (T18.2.1 50 x5_31.toNatClampNeg) from br_50 hI19 _)) (by decide +kernel) (by decide +kernel) (by decide +kernel)) b93 (by decide +kernel) (by decide +kernel)) (by decide +kernel) (by decide +kernel), ?_⟩
          have hI97 := IM_r (r := 46) (i := ((64 * (T77.2.1 50 x5_31.toNatClampNeg)) + x6_76).toNatClampNeg) (v := T77.2.1 38 ((64 * (T77.2.1 45 (T77.2.1 50 x5_31.toNatClampNeg).toNatClampNeg)) + x6_76).toNatClampNeg) hI79 (B_eq ((((congrFun (g80.2 38 rfl) ((64 * (T77.2.1 45 (T77.2.1 50 x5_31.toNatClampNeg).toNatClampNeg)) + x6_76).toNatClampNeg).trans (congrFun (g35.2 38 rfl) ((64 * (T77.2.1 45 (T77.2.1 50 x5_31.toNatClampNeg).toNatClampNeg)) + x6_76).toNatClampNeg)).trans (congrFun (g20.2 38 rfl) ((64 * (T77.2.1 45 (T77.2.1 50 x5_31.toNatClampNeg).toNatClampNeg)) + x6_76).toNatClampNeg)).trans (congrFun (g9.2 38 rfl) ((64 * (T77.2.1 45 (T77.2.1 50 x5_31.toNatClampNeg).toNatClampNeg)) + x6_76).toNatClampNeg)) (show B 0 255 (S.2.1 38 ((64 * (T77.2.1 45 (T77.2.1 50 x5_31.toNatClampNeg).toNatClampNeg)) + x6_76).toNatClampNeg) from br_38 hI _)) (by decide +kernel) (by decide +kernel)
          have g99 := ag_tr (ag_refl (fs := []) (rs := [46]) (S := (T32.1, va_up T32.2.1 47 (upd (T32.2.1 47) (T32.2.1 50 x5_31.toNatClampNeg).toNatClampNeg (vp_nar .boolean 1)), T32.2.2))) g80 (by decide +kernel) (by decide +kernel)
          have g98 := ag_r (r := 46) (w := upd (T77.2.1 46) ((64 * (T77.2.1 50 x5_31.toNatClampNeg)) + x6_76).toNatClampNeg (T77.2.1 38 ((64 * (T77.2.1 45 (T77.2.1 50 x5_31.toNatClampNeg).toNatClampNeg)) + x6_76).toNatClampNeg)) g99 (by decide +kernel)
          have q100 : (0) ≤ (x6_76).toInt ∧ (x6_76).toInt ≤ (63) := (show B 0 63 (x6_76) from B_w b93 (by decide +kernel) (by decide +kernel))
          have e101 : (x6_76 + 1).toInt = ((x6_76).toInt + 1) := (t_add b93 cqb_1_1_1 (by decide +kernel) (by decide +kernel)).trans (by rw [cqn_1])
          have q102 : (1) ≤ (x6_76 + 1).toInt ∧ (x6_76 + 1).toInt ≤ (64) := (show B 1 64 (x6_76 + 1) from B_w (B_add b93 cqb_1_1_1 (by decide +kernel) (by decide +kernel)) (by decide +kernel) (by decide +kernel))
          exact hR497 ⟨rfl, rfl, (B_w (B_add b93 cqb_1_1_1 (by decide +kernel) (by decide +kernel)) (by decide +kernel) (by decide +kernel)), hI97, g98⟩ (by show (64 - (x6_76 + 1).toInt).toNat < (64 - x6_76.toInt).toNat; omega)
  have hj103 : ∀ {x4_104 : Int32} {T105 : ms}, B (-2147483648) 2147483647 x4_104 → IM T105 → ag [10, 34, 35] [50, 51, 52] S1_6 T105 → ((S.1 34).toInt ≤ (T105.1 34).toInt) → (((T105.1 35).toInt = 0) → ((S.1 35).toInt = 0)) → (((T105.1 35).toInt = 0) → ((1 ≤ v1_5.toInt) ∧ (v1_5.toInt ≤ (T105.2.1 14 (2 : Int32).toNatClampNeg).toInt))) → (qf (T105.2.1 50) 0 (v1_5.toInt - (1000 * (T105.1 35).toInt)) 0 ((T105.2.1 14 (2 : Int32).toNatClampNeg).toInt - 1)) → (cSn v1_5.toInt T105) → b_readScanHead_432 v1_5 ((S1_6.1 34) - 1) x4_104 T105 K := by
    intro x4_104 T105 b106 hI107 g108 r109 r110 r111 r112 r113
    have q114 : (0) ≤ (T105.1 34).toInt ∧ (T105.1 34).toInt ≤ (32768) := (show B 0 32768 (T105.1 34) from bf_34 hI107)
    have q115 : (0) ≤ (T105.1 35).toInt ∧ (T105.1 35).toInt ≤ (8) := (show B 0 8 (T105.1 35) from bf_35 hI107)
    have q116 : (0) ≤ (v1_5).toInt ∧ (v1_5).toInt ≤ (255) := (show B 0 255 (v1_5) from B_w b7 (by decide +kernel) (by decide +kernel))
    have e117 : (T105.2.1 14 (2 : Int32).toNatClampNeg).toInt = (S.2.1 14 (2 : Int32).toNatClampNeg).toInt := (congrArg Int32.toInt ((congrFun (g108.2 14 rfl) (2 : Int32).toNatClampNeg).trans (congrFun (g9.2 14 rfl) (2 : Int32).toNatClampNeg))).trans rfl
    unfold b_readScanHead_432
    refine ⟨fun hc => ?_, fun hc => ?_⟩
    · have b118 : B 1 8 (T105.1 35) := B_w (B_n0 (show B 0 8 (T105.1 35) from bf_35 hI107) hc) (by decide +kernel) (by decide +kernel)
      have q119 : (1) ≤ (T105.1 35).toInt ∧ (T105.1 35).toInt ≤ (8) := (show B 1 8 (T105.1 35) from B_w b118 (by decide +kernel) (by decide +kernel))
      have g120 := ag_tr (ag_refl (fs := [10, 34, 35]) (rs := [50, 51, 52]) (S := S1_6)) g108 (by decide +kernel) (by decide +kernel)
      exact hj17 hI107 g120 (by show (S.1 34).toInt ≤ (T105.1 34).toInt; first | with_reducible assumption | omega) (by show ((T105.1 35).toInt = 0) → ((S.1 35).toInt = 0); first | with_reducible assumption | exact (fun _ => by with_reducible assumption) | omega) (by show ((T105.1 35).toInt = 0) → ((1 ≤ v1_5.toInt) ∧ (v1_5.toInt ≤ (T105.2.1 14 (2 : Int32).toNatClampNeg).toInt)); first | with_reducible assumption | exact (fun _ => by with_reducible assumption) | omega) (qf_le (b' := v1_5.toInt - (1000 * (T105.1 35).toInt)) (lo' := 0) (hi' := (T105.2.1 14 (2 : Int32).toNatClampNeg).toInt - 1) r112 (by omega) (by omega) (by omega)) (fun h => absurd (show (T105.1 35).toInt = 0 from h) (by omega))
    · have b121 : B 0 0 (T105.1 35) := B_w (B_eq hc cqb_0_0_0) (by decide +kernel) (by decide +kernel)
      have q122 : (0) ≤ (T105.1 35).toInt ∧ (T105.1 35).toInt ≤ (0) := (show B 0 0 (T105.1 35) from B_w b121 (by decide +kernel) (by decide +kernel))
      have i123 : (T105.1 35).toInt = (0 : Int32).toInt := congrArg Int32.toInt hc
      have n124 : (0 : Int32).toInt = 0 := cqn_0
      refine ⟨fun hc => ?_, fun hc => ?_⟩
      · have hq125 := hc
        have b126 : B 0 1 (v1_5) := B_w (B_leL b7 cqb_1_1_1 hq125) (by decide +kernel) (by decide +kernel)
        have q127 : (0) ≤ (v1_5).toInt ∧ (v1_5).toInt ≤ (1) := (show B 0 1 (v1_5) from B_w b126 (by decide +kernel) (by decide +kernel))
        have g128 := ag_tr (ag_refl (fs := [10, 34, 35]) (rs := [50, 51, 52]) (S := S1_6)) g108 (by decide +kernel) (by decide +kernel)
        exact hj17 hI107 g128 (by show (S.1 34).toInt ≤ (T105.1 34).toInt; first | with_reducible assumption | omega) (by show ((T105.1 35).toInt = 0) → ((S.1 35).toInt = 0); first | with_reducible assumption | exact (fun _ => by with_reducible assumption) | omega) (by show ((T105.1 35).toInt = 0) → ((1 ≤ v1_5.toInt) ∧ (v1_5.toInt ≤ (T105.2.1 14 (2 : Int32).toNatClampNeg).toInt)); first | with_reducible assumption | exact (fun _ => by with_reducible assumption) | omega) (qf_le (b' := v1_5.toInt - (1000 * (T105.1 35).toInt)) (lo' := 0) (hi' := (T105.2.1 14 (2 : Int32).toNatClampNeg).toInt - 1) r112 (by omega) (by omega) (by omega)) (cSn_tr (S := T105) (T := T105) (n := v1_5.toInt) (n' := v1_5.toInt) r113 (Eq.trans ((g108.2 40 rfl).trans (g9.2 40 rfl)) (Eq.symm ((g108.2 40 rfl).trans (g9.2 40 rfl)))) rfl rfl (by show (T105.1 35).toInt = 0 → ((T105.1 35).toInt = 0); first | with_reducible assumption | exact (fun _ => by with_reducible assumption) | omega) (by show (T105.1 35).toInt = 0 → v1_5.toInt ≤ v1_5.toInt; first | with_reducible assumption | exact (fun _ => by with_reducible assumption) | omega))
      · have hq129 := (nle_lt hc)
        have b130 : B 2 255 (v1_5) := B_w (B_ltR cqb_1_1_1 b7 hq129) (by decide +kernel) (by decide +kernel)
        have q131 : (2) ≤ (v1_5).toInt ∧ (v1_5).toInt ≤ (255) := (show B 2 255 (v1_5) from B_w b130 (by decide +kernel) (by decide +kernel))
        refine ⟨fun hc => ?_, fun hc => ?_⟩
        · have hq132 := hc
          have b133 : B (-2147483648) 10 (x4_104) := B_w (B_leL b106 cqb_10_10_10 hq132) (by decide +kernel) (by decide +kernel)
          have g134 := ag_tr (ag_refl (fs := [10, 34, 35]) (rs := [50, 51, 52]) (S := S1_6)) g108 (by decide +kernel) (by decide +kernel)
          exact hj17 hI107 g134 (by show (S.1 34).toInt ≤ (T105.1 34).toInt; first | with_reducible assumption | omega) (by show ((T105.1 35).toInt = 0) → ((S.1 35).toInt = 0); first | with_reducible assumption | exact (fun _ => by with_reducible assumption) | omega) (by show ((T105.1 35).toInt = 0) → ((1 ≤ v1_5.toInt) ∧ (v1_5.toInt ≤ (T105.2.1 14 (2 : Int32).toNatClampNeg).toInt)); first | with_reducible assumption | exact (fun _ => by with_reducible assumption) | omega) (qf_le (b' := v1_5.toInt - (1000 * (T105.1 35).toInt)) (lo' := 0) (hi' := (T105.2.1 14 (2 : Int32).toNatClampNeg).toInt - 1) r112 (by omega) (by omega) (by omega)) (cSn_tr (S := T105) (T := T105) (n := v1_5.toInt) (n' := v1_5.toInt) r113 (Eq.trans ((g108.2 40 rfl).trans (g9.2 40 rfl)) (Eq.symm ((g108.2 40 rfl).trans (g9.2 40 rfl)))) rfl rfl (by show (T105.1 35).toInt = 0 → ((T105.1 35).toInt = 0); first | with_reducible assumption | exact (fun _ => by with_reducible assumption) | omega) (by show (T105.1 35).toInt = 0 → v1_5.toInt ≤ v1_5.toInt; first | with_reducible assumption | exact (fun _ => by with_reducible assumption) | omega))
        · have hq135 := (nle_lt hc)
          have b136 : B 11 2147483647 (x4_104) := B_w (B_ltR cqb_10_10_10 b106 hq135) (by decide +kernel) (by decide +kernel)
          refine h_fail (B_w cqb_6_6_6 (by decide +kernel) (by decide +kernel)) (B_w (B_sub (show B 0 32768 (S1_6.1 34) from bf_34 hI8) cqb_1_1_1 (by decide +kernel) (by decide +kernel)) (by decide +kernel) (by decide +kernel)) hI107 (fun {v455_137} {S455_138} b139 hI140 g141 r142 => ?_)
          have r143 : 1 ≤ (S455_138.1 35).toInt := r142
          clear r142
          have q144 : (0) ≤ (S455_138.1 35).toInt ∧ (S455_138.1 35).toInt ≤ (8) := (show B 0 8 (S455_138.1 35) from bf_35 hI140)
          have g146 := ag_tr (ag_refl (fs := [10, 34, 35]) (rs := [50, 51, 52]) (S := S1_6)) g108 (by decide +kernel) (by decide +kernel)
          have g145 := ag_tr g146 g141 (by decide +kernel) (by decide +kernel)
          have e147 : (S455_138.1 34).toInt = (T105.1 34).toInt := (congrArg Int32.toInt (g141.1 34 rfl)).trans rfl
          have e148 : (S455_138.2.1 14 (2 : Int32).toNatClampNeg).toInt = (S.2.1 14 (2 : Int32).toNatClampNeg).toInt := (congrArg Int32.toInt (((congrFun (g141.2 14 rfl) (2 : Int32).toNatClampNeg).trans (congrFun (g108.2 14 rfl) (2 : Int32).toNatClampNeg)).trans (congrFun (g9.2 14 rfl) (2 : Int32).toNatClampNeg))).trans rfl
          exact hj17 hI140 g145 (by show (S.1 34).toInt ≤ (S455_138.1 34).toInt; first | with_reducible assumption | omega) (by show ((S455_138.1 35).toInt = 0) → ((S.1 35).toInt = 0); first | with_reducible assumption | exact (fun _ => by with_reducible assumption) | omega) (by show ((S455_138.1 35).toInt = 0) → ((1 ≤ v1_5.toInt) ∧ (v1_5.toInt ≤ (S455_138.2.1 14 (2 : Int32).toNatClampNeg).toInt)); first | with_reducible assumption | exact (fun _ => by with_reducible assumption) | omega) (qf_eq (g141.2 50 rfl) (qf_le (b' := v1_5.toInt - (1000 * (S455_138.1 35).toInt)) (lo' := 0) (hi' := (S455_138.2.1 14 (2 : Int32).toNatClampNeg).toInt - 1) r112 (by omega) (by omega) (by omega))) (cSn_tr (S := T105) (T := S455_138) (n := v1_5.toInt) (n' := v1_5.toInt) r113 (Eq.trans (((g141.2 40 rfl).trans (g108.2 40 rfl)).trans (g9.2 40 rfl)) (Eq.symm ((g108.2 40 rfl).trans (g9.2 40 rfl)))) (g141.2 51 rfl) (g141.2 52 rfl) (by show (S455_138.1 35).toInt = 0 → ((T105.1 35).toInt = 0); first | with_reducible assumption | exact (fun _ => by with_reducible assumption) | omega) (by show (S455_138.1 35).toInt = 0 → v1_5.toInt ≤ v1_5.toInt; first | with_reducible assumption | exact (fun _ => by with_reducible assumption) | omega))
  have hj149 : ∀ {x4_150 : Int32} {T151 : ms}, B (-2147483648) 2147483647 x4_150 → IM T151 → ag [10, 34, 35] [50, 51, 52] S1_6 T151 → ((S.1 34).toInt ≤ (T151.1 34).toInt) → (((T151.1 35).toInt = 0) → ((S.1 35).toInt = 0)) → (((T151.1 35).toInt = 0) → ((1 ≤ v1_5.toInt) ∧ (v1_5.toInt ≤ (T151.2.1 14 (2 : Int32).toNatClampNeg).toInt))) → (qf (T151.2.1 50) 0 (v1_5.toInt - (1000 * (T151.1 35).toInt)) 0 ((T151.2.1 14 (2 : Int32).toNatClampNeg).toInt - 1)) → (cSn v1_5.toInt T151) → b_readScanHead_372 v1_5 ((S1_6.1 34) - 1) x4_150 T151 K := by
    intro x4_150 T151 b152 hI153 g154 r155 r156 r157 r158 r159
    have q160 : (0) ≤ (T151.1 34).toInt ∧ (T151.1 34).toInt ≤ (32768) := (show B 0 32768 (T151.1 34) from bf_34 hI153)
    have q161 : (0) ≤ (T151.1 35).toInt ∧ (T151.1 35).toInt ≤ (8) := (show B 0 8 (T151.1 35) from bf_35 hI153)
    have q162 : (0) ≤ (v1_5).toInt ∧ (v1_5).toInt ≤ (255) := (show B 0 255 (v1_5) from B_w b7 (by decide +kernel) (by decide +kernel))
    have e163 : (T151.2.1 14 (2 : Int32).toNatClampNeg).toInt = (S.2.1 14 (2 : Int32).toNatClampNeg).toInt := (congrArg Int32.toInt ((congrFun (g154.2 14 rfl) (2 : Int32).toNatClampNeg).trans (congrFun (g9.2 14 rfl) (2 : Int32).toNatClampNeg))).trans rfl
    unfold b_readScanHead_372
    refine ⟨fun yx1 yx2 yx4 yx5 yS => v1_5 = yx1 ∧ ((S1_6.1 34) - 1) = yx2 ∧ x4_150 = yx4 ∧ B 0 3 yx5 ∧ IM yS ∧ ag [10, 34, 35] [] T151 yS ∧ ((S.1 34).toInt ≤ (yS.1 34).toInt) ∧ (((yS.1 35).toInt = 0) → ((S.1 35).toInt = 0)) ∧ (((yS.1 35).toInt = 0) → ((1 ≤ yx1.toInt) ∧ (yx1.toInt ≤ (yS.2.1 14 (2 : Int32).toNatClampNeg).toInt))) ∧ (qf (yS.2.1 50) 0 (yx1.toInt - (1000 * (yS.1 35).toInt)) 0 ((yS.2.1 14 (2 : Int32).toNatClampNeg).toInt - 1)) ∧ (cSn yx1.toInt yS), fun yx1 yx2 yx4 yx5 yS => (3 - yx5.toInt).toNat, ⟨rfl, rfl, rfl, (B_w cqb_0_0_0 (by decide +kernel) (by decide +kernel)), hI153, (ag_refl (fs := [10, 34, 35]) (rs := []) (S := T151)), (by show (S.1 34).toInt ≤ (T151.1 34).toInt; first | with_reducible assumption | omega), (by show ((T151.1 35).toInt = 0) → ((S.1 35).toInt = 0); first | with_reducible assumption | exact (fun _ => by with_reducible assumption) | omega), (by show ((T151.1 35).toInt = 0) → ((1 ≤ v1_5.toInt) ∧ (v1_5.toInt ≤ (T151.2.1 14 (2 : Int32).toNatClampNeg).toInt)); first | with_reducible assumption | exact (fun _ => by with_reducible assumption) | omega), (qf_le (b' := v1_5.toInt - (1000 * (T151.1 35).toInt)) (lo' := 0) (hi' := (T151.2.1 14 (2 : Int32).toNatClampNeg).toInt - 1) r158 (by omega) (by omega) (by omega)), (cSn_tr (S := T151) (T := T151) (n := v1_5.toInt) (n' := v1_5.toInt) r159 (Eq.trans ((g154.2 40 rfl).trans (g9.2 40 rfl)) (Eq.symm ((g154.2 40 rfl).trans (g9.2 40 rfl)))) rfl rfl (by show (T151.1 35).toInt = 0 → ((T151.1 35).toInt = 0); first | with_reducible assumption | exact (fun _ => by with_reducible assumption) | omega) (by show (T151.1 35).toInt = 0 → v1_5.toInt ≤ v1_5.toInt; first | with_reducible assumption | exact (fun _ => by with_reducible assumption) | omega))⟩, fun x1_164 x2_165 x4_166 x5_167 T168 hIv => ?_⟩
    obtain ⟨rfl, rfl, rfl, b169, hI170, g171, r172, r173, r174, r175, r176⟩ := hIv
    suffices hs : ∀ (R375 : Int32 → Int32 → Int32 → Int32 → ms → Prop), (∀ zx1 zx2 zx4 zx5 zS, (v1_5 = zx1 ∧ ((S1_6.1 34) - 1) = zx2 ∧ x4_150 = zx4 ∧ B 0 3 zx5 ∧ IM zS ∧ ag [10, 34, 35] [] T151 zS ∧ ((S.1 34).toInt ≤ (zS.1 34).toInt) ∧ (((zS.1 35).toInt = 0) → ((S.1 35).toInt = 0)) ∧ (((zS.1 35).toInt = 0) → ((1 ≤ zx1.toInt) ∧ (zx1.toInt ≤ (zS.2.1 14 (2 : Int32).toNatClampNeg).toInt))) ∧ (qf (zS.2.1 50) 0 (zx1.toInt - (1000 * (zS.1 35).toInt)) 0 ((zS.2.1 14 (2 : Int32).toNatClampNeg).toInt - 1)) ∧ (cSn zx1.toInt zS)) → (3 - zx5.toInt).toNat < (3 - x5_167.toInt).toNat → R375 zx1 zx2 zx4 zx5 zS) → b_readScanHead_375 v1_5 ((S1_6.1 34) - 1) x4_150 x5_167 T168 R375 K from hs _ (fun _ _ _ _ _ h1 h2 => ⟨h1, h2⟩)
    intro R375 hR3750
    have hR375 := fun {zx1} {zx2} {zx4} {zx5} {zS} => hR3750 zx1 zx2 zx4 zx5 zS
    have q177 : (0) ≤ (T168.1 34).toInt ∧ (T168.1 34).toInt ≤ (32768) := (show B 0 32768 (T168.1 34) from bf_34 hI170)
    have q178 : (0) ≤ (T168.1 35).toInt ∧ (T168.1 35).toInt ≤ (8) := (show B 0 8 (T168.1 35) from bf_35 hI170)
    have e179 : (T168.2.1 14 (2 : Int32).toNatClampNeg).toInt = (S.2.1 14 (2 : Int32).toNatClampNeg).toInt := (congrArg Int32.toInt (((congrFun (g171.2 14 rfl) (2 : Int32).toNatClampNeg).trans (congrFun (g154.2 14 rfl) (2 : Int32).toNatClampNeg)).trans (congrFun (g9.2 14 rfl) (2 : Int32).toNatClampNeg))).trans rfl
    have w180 : qf (T151.2.1 50) 0 (v1_5.toInt - (1000 * (T168.1 35).toInt)) 0 ((T168.2.1 14 (2 : Int32).toNatClampNeg).toInt - 1) := qf_eq (Eq.symm (g171.2 50 rfl)) r175
    unfold b_readScanHead_375
    refine ⟨fun hc => ?_, fun hc => ?_⟩
    · have hq181 := hc
      have b182 : B 3 3 (x5_167) := B_w (B_leR cqb_3_3_3 b169 hq181) (by decide +kernel) (by decide +kernel)
      have g184 := ag_tr (ag_refl (fs := [10, 34, 35]) (rs := [50, 51, 52]) (S := S1_6)) g154 (by decide +kernel) (by decide +kernel)
      have g183 := ag_tr g184 g171 (by decide +kernel) (by decide +kernel)
      exact hj103 b152 hI170 g183 (by show (S.1 34).toInt ≤ (T168.1 34).toInt; first | with_reducible assumption | omega) (by show ((T168.1 35).toInt = 0) → ((S.1 35).toInt = 0); first | with_reducible assumption | exact (fun _ => by with_reducible assumption) | omega) (by show ((T168.1 35).toInt = 0) → ((1 ≤ v1_5.toInt) ∧ (v1_5.toInt ≤ (T168.2.1 14 (2 : Int32).toNatClampNeg).toInt)); first | with_reducible assumption | exact (fun _ => by with_reducible assumption) | omega) (qf_eq (g171.2 50 rfl) (qf_le (b' := v1_5.toInt - (1000 * (T168.1 35).toInt)) (lo' := 0) (hi' := (T168.2.1 14 (2 : Int32).toNatClampNeg).toInt - 1) w180 (by omega) (by omega) (by omega))) (cSn_tr (S := T168) (T := T168) (n := v1_5.toInt) (n' := v1_5.toInt) r176 (Eq.trans (((g171.2 40 rfl).trans (g154.2 40 rfl)).trans (g9.2 40 rfl)) (Eq.symm (((g171.2 40 rfl).trans (g154.2 40 rfl)).trans (g9.2 40 rfl)))) (Eq.trans (g171.2 51 rfl) (Eq.symm (g171.2 51 rfl))) (Eq.trans (g171.2 52 rfl) (Eq.symm (g171.2 52 rfl))) (by show (T168.1 35).toInt = 0 → ((T168.1 35).toInt = 0); first | with_reducible assumption | exact (fun _ => by with_reducible assumption) | omega) (by show (T168.1 35).toInt = 0 → v1_5.toInt ≤ v1_5.toInt; first | with_reducible assumption | exact (fun _ => by with_reducible assumption) | omega))
    · have hq185 := (nle_lt hc)
      have b186 : B 0 2 (x5_167) := B_w (B_ltL b169 cqb_3_3_3 hq185) (by decide +kernel) (by decide +kernel)
      refine ⟨fun hc => ?_, fun hc => ?_⟩
      · have b187 : B 1 8 (T168.1 35) := B_w (B_n0 (show B 0 8 (T168.1 35) from bf_35 hI170) hc) (by decide +kernel) (by decide +kernel)
        have q188 : (1) ≤ (T168.1 35).toInt ∧ (T168.1 35).toInt ≤ (8) := (show B 1 8 (T168.1 35) from B_w b187 (by decide +kernel) (by decide +kernel))
        have g190 := ag_tr (ag_refl (fs := [10, 34, 35]) (rs := [50, 51, 52]) (S := S1_6)) g154 (by decide +kernel) (by decide +kernel)
        have g189 := ag_tr g190 g171 (by decide +kernel) (by decide +kernel)
        exact hj103 b152 hI170 g189 (by show (S.1 34).toInt ≤ (T168.1 34).toInt; first | with_reducible assumption | omega) (by show ((T168.1 35).toInt = 0) → ((S.1 35).toInt = 0); first | with_reducible assumption | exact (fun _ => by with_reducible assumption) | omega) (by show ((T168.1 35).toInt = 0) → ((1 ≤ v1_5.toInt) ∧ (v1_5.toInt ≤ (T168.2.1 14 (2 : Int32).toNatClampNeg).toInt)); first | with_reducible assumption | exact (fun _ => by with_reducible assumption) | omega) (qf_eq (g171.2 50 rfl) (qf_le (b' := v1_5.toInt - (1000 * (T168.1 35).toInt)) (lo' := 0) (hi' := (T168.2.1 14 (2 : Int32).toNatClampNeg).toInt - 1) w180 (by omega) (by omega) (by omega))) (fun h => absurd (show (T168.1 35).toInt = 0 from h) (by omega))
      · have b191 : B 0 0 (T168.1 35) := B_w (B_eq hc cqb_0_0_0) (by decide +kernel) (by decide +kernel)
        have q192 : (0) ≤ (T168.1 35).toInt ∧ (T168.1 35).toInt ≤ (0) := (show B 0 0 (T168.1 35) from B_w b191 (by decide +kernel) (by decide +kernel))
        have i193 : (T168.1 35).toInt = (0 : Int32).toInt := congrArg Int32.toInt hc
        have n194 : (0 : Int32).toInt = 0 := cqn_0
        refine h_next hI170 (fun {v389_195} {S389_196} b197 hI198 g199 r200 r201 => ?_)
        have r202 : (T168.1 34).toInt ≤ (S389_196.1 34).toInt := r200
        clear r200
        have q203 : (0) ≤ (S389_196.1 34).toInt ∧ (S389_196.1 34).toInt ≤ (32768) := (show B 0 32768 (S389_196.1 34) from bf_34 hI198)
        have r204 : ((S389_196.1 35).toInt = 0) → (((T168.1 35).toInt = 0) ∧ (((T168.1 34).toInt + 1) ≤ (S389_196.1 34).toInt)) := r201
        clear r201
        have q205 : (0) ≤ (S389_196.1 35).toInt ∧ (S389_196.1 35).toInt ≤ (8) := (show B 0 8 (S389_196.1 35) from bf_35 hI198)
        have hj206 : ∀ {s1_207 : Int32}, B 0 1 s1_207 → ((T168.1 34).toInt ≤ (S389_196.1 34).toInt) → (((S389_196.1 35).toInt = 0) → ((T168.1 35).toInt = 0)) → b_readScanHead_417 v1_5 ((S1_6.1 34) - 1) x4_150 x5_167 s1_207 S389_196 R375 K := by
          intro s1_207 b208 r209 r210
          unfold b_readScanHead_417
          refine h_must b208 (B_w (B_sub (show B 0 32768 (S389_196.1 34) from bf_34 hI198) cqb_1_1_1 (by decide +kernel) (by decide +kernel)) (by decide +kernel) (by decide +kernel)) hI198 (fun {S423_211} hI212 g213 r214 r215 => ?_)
          have r216 : ((S423_211.1 35).toInt = 0) → ((S389_196.1 35).toInt = 0) := r214
          clear r214
          have q217 : (0) ≤ (S423_211.1 35).toInt ∧ (S423_211.1 35).toInt ≤ (8) := (show B 0 8 (S423_211.1 35) from bf_35 hI212)
          have r218 : (s1_207.toInt = 0) → (1 ≤ (S423_211.1 35).toInt) := r215
          clear r215
          have q219 : (0) ≤ (s1_207).toInt ∧ (s1_207).toInt ≤ (1) := (show B 0 1 (s1_207) from B_w b208 (by decide +kernel) (by decide +kernel))
          have g222 := ag_tr (ag_refl (fs := [10, 34, 35]) (rs := []) (S := T151)) g171 (by decide +kernel) (by decide +kernel)
          have g221 := ag_tr g222 g199 (by decide +kernel) (by decide +kernel)
          have g220 := ag_tr g221 g213 (by decide +kernel) (by decide +kernel)
          have e223 : (S423_211.1 34).toInt = (S389_196.1 34).toInt := (congrArg Int32.toInt (g213.1 34 rfl)).trans rfl
          have e224 : (S423_211.2.1 14 (2 : Int32).toNatClampNeg).toInt = (S.2.1 14 (2 : Int32).toNatClampNeg).toInt := (congrArg Int32.toInt (((((congrFun (g213.2 14 rfl) (2 : Int32).toNatClampNeg).trans (congrFun (g199.2 14 rfl) (2 : Int32).toNatClampNeg)).trans (congrFun (g171.2 14 rfl) (2 : Int32).toNatClampNeg)).trans (congrFun (g154.2 14 rfl) (2 : Int32).toNatClampNeg)).trans (congrFun (g9.2 14 rfl) (2 : Int32).toNatClampNeg))).trans rfl
          have q225 : (0) ≤ (x5_167).toInt ∧ (x5_167).toInt ≤ (2) := (show B 0 2 (x5_167) from B_w b186 (by decide +kernel) (by decide +kernel))
          have e226 : (x5_167 + 1).toInt = ((x5_167).toInt + 1) := (t_add b186 cqb_1_1_1 (by decide +kernel) (by decide +kernel)).trans (by rw [cqn_1])
          have q227 : (1) ≤ (x5_167 + 1).toInt ∧ (x5_167 + 1).toInt ≤ (3) := (show B 1 3 (x5_167 + 1) from B_w (B_add b186 cqb_1_1_1 (by decide +kernel) (by decide +kernel)) (by decide +kernel) (by decide +kernel))
          exact hR375 ⟨rfl, rfl, rfl, (B_w (B_add b186 cqb_1_1_1 (by decide +kernel) (by decide +kernel)) (by decide +kernel) (by decide +kernel)), hI212, g220, (by show (S.1 34).toInt ≤ (S423_211.1 34).toInt; first | with_reducible assumption | omega), (by show ((S423_211.1 35).toInt = 0) → ((S.1 35).toInt = 0); first | with_reducible assumption | exact (fun _ => by with_reducible assumption) | omega), (by show ((S423_211.1 35).toInt = 0) → ((1 ≤ v1_5.toInt) ∧ (v1_5.toInt ≤ (S423_211.2.1 14 (2 : Int32).toNatClampNeg).toInt)); first | with_reducible assumption | exact (fun _ => by with_reducible assumption) | omega), (qf_eq (((g213.2 50 rfl).trans (g199.2 50 rfl)).trans (g171.2 50 rfl)) (qf_le (b' := v1_5.toInt - (1000 * (S423_211.1 35).toInt)) (lo' := 0) (hi' := (S423_211.2.1 14 (2 : Int32).toNatClampNeg).toInt - 1) w180 (by omega) (by omega) (by omega))), (cSn_tr (S := T168) (T := S423_211) (n := v1_5.toInt) (n' := v1_5.toInt) r176 (Eq.trans (((((g213.2 40 rfl).trans (g199.2 40 rfl)).trans (g171.2 40 rfl)).trans (g154.2 40 rfl)).trans (g9.2 40 rfl)) (Eq.symm (((g171.2 40 rfl).trans (g154.2 40 rfl)).trans (g9.2 40 rfl)))) (Eq.trans (((g213.2 51 rfl).trans (g199.2 51 rfl)).trans (g171.2 51 rfl)) (Eq.symm (g171.2 51 rfl))) (Eq.trans (((g213.2 52 rfl).trans (g199.2 52 rfl)).trans (g171.2 52 rfl)) (Eq.symm (g171.2 52 rfl))) (by show (S423_211.1 35).toInt = 0 → ((T168.1 35).toInt = 0); first | with_reducible assumption | exact (fun _ => by with_reducible assumption) | omega) (by show (S423_211.1 35).toInt = 0 → v1_5.toInt ≤ v1_5.toInt; first | with_reducible assumption | exact (fun _ => by with_reducible assumption) | omega))⟩ (by show (3 - (x5_167 + 1).toInt).toNat < (3 - x5_167.toInt).toNat; omega)
        refine ⟨fun hc => ?_, fun hc => ?_⟩
        · have q228 : (0) ≤ (x5_167).toInt ∧ (x5_167).toInt ≤ (2) := (show B 0 2 (x5_167) from B_w b186 (by decide +kernel) (by decide +kernel))
          have i229 : (x5_167).toInt ≠ (1 : Int32).toInt := i_ne hc
          have n230 : (1 : Int32).toInt = 1 := cqn_1
          unfold b_readScanHead_409
          refine ⟨fun hc => ?_, fun hc => ?_⟩
          · have b231 : B 1 255 (v389_195) := B_w (B_n0 b197 hc) (by decide +kernel) (by decide +kernel)
            exact hj206 (B_w cqb_0_0_0 (by decide +kernel) (by decide +kernel)) (by show (T168.1 34).toInt ≤ (S389_196.1 34).toInt; first | with_reducible assumption | omega) (by show ((S389_196.1 35).toInt = 0) → ((T168.1 35).toInt = 0); first | with_reducible assumption | exact (fun _ => by with_reducible assumption) | omega)
          · have b232 : B 0 0 (v389_195) := B_w (B_eq hc cqb_0_0_0) (by decide +kernel) (by decide +kernel)
            have q233 : (0) ≤ (v389_195).toInt ∧ (v389_195).toInt ≤ (0) := (show B 0 0 (v389_195) from B_w b232 (by decide +kernel) (by decide +kernel))
            have i234 : (v389_195).toInt = (0 : Int32).toInt := congrArg Int32.toInt hc
            have n235 : (0 : Int32).toInt = 0 := cqn_0
            exact hj206 (B_w cqb_1_1_1 (by decide +kernel) (by decide +kernel)) (by show (T168.1 34).toInt ≤ (S389_196.1 34).toInt; first | with_reducible assumption | omega) (by show ((S389_196.1 35).toInt = 0) → ((T168.1 35).toInt = 0); first | with_reducible assumption | exact (fun _ => by with_reducible assumption) | omega)
        · have b236 : B 1 1 (x5_167) := B_w (B_eq hc cqb_1_1_1) (by decide +kernel) (by decide +kernel)
          have q237 : (1) ≤ (x5_167).toInt ∧ (x5_167).toInt ≤ (1) := (show B 1 1 (x5_167) from B_w b236 (by decide +kernel) (by decide +kernel))
          have i238 : (x5_167).toInt = (1 : Int32).toInt := congrArg Int32.toInt hc
          have n239 : (1 : Int32).toInt = 1 := cqn_1
          unfold b_readScanHead_409
          refine ⟨fun hc => ?_, fun hc => ?_⟩
          · have q240 : (0) ≤ (v389_195).toInt ∧ (v389_195).toInt ≤ (255) := (show B 0 255 (v389_195) from B_w b197 (by decide +kernel) (by decide +kernel))
            have i241 : (v389_195).toInt ≠ (63 : Int32).toInt := i_ne hc
            have n242 : (63 : Int32).toInt = 63 := cqn_63
            exact hj206 (B_w cqb_0_0_0 (by decide +kernel) (by decide +kernel)) (by show (T168.1 34).toInt ≤ (S389_196.1 34).toInt; first | with_reducible assumption | omega) (by show ((S389_196.1 35).toInt = 0) → ((T168.1 35).toInt = 0); first | with_reducible assumption | exact (fun _ => by with_reducible assumption) | omega)
          · have b243 : B 63 63 (v389_195) := B_w (B_eq hc cqb_63_63_63) (by decide +kernel) (by decide +kernel)
            have q244 : (63) ≤ (v389_195).toInt ∧ (v389_195).toInt ≤ (63) := (show B 63 63 (v389_195) from B_w b243 (by decide +kernel) (by decide +kernel))
            have i245 : (v389_195).toInt = (63 : Int32).toInt := congrArg Int32.toInt hc
            have n246 : (63 : Int32).toInt = 63 := cqn_63
            exact hj206 (B_w cqb_1_1_1 (by decide +kernel) (by decide +kernel)) (by show (T168.1 34).toInt ≤ (S389_196.1 34).toInt; first | with_reducible assumption | omega) (by show ((S389_196.1 35).toInt = 0) → ((T168.1 35).toInt = 0); first | with_reducible assumption | exact (fun _ => by with_reducible assumption) | omega)
  have hj247 : ∀ {T248 : ms}, IM T248 → ag [10, 35] [] S1_6 T248 → ((S.1 34).toInt ≤ (T248.1 34).toInt) → (((T248.1 35).toInt = 0) → ((S.1 35).toInt = 0)) → (((T248.1 35).toInt = 0) → ((1 ≤ v1_5.toInt) ∧ (v1_5.toInt ≤ (T248.2.1 14 (2 : Int32).toNatClampNeg).toInt))) → b_readScanHead_71 v1_5 ((S1_6.1 34) - 1) T248 K := by
    intro T248 hI249 g250 r251 r252 r253
    have e254 : (T248.1 34).toInt = (S1_6.1 34).toInt := (congrArg Int32.toInt (g250.1 34 rfl)).trans rfl
    have q255 : (0) ≤ (T248.1 35).toInt ∧ (T248.1 35).toInt ≤ (8) := (show B 0 8 (T248.1 35) from bf_35 hI249)
    have q256 : (0) ≤ (v1_5).toInt ∧ (v1_5).toInt ≤ (255) := (show B 0 255 (v1_5) from B_w b7 (by decide +kernel) (by decide +kernel))
    have e257 : (T248.2.1 14 (2 : Int32).toNatClampNeg).toInt = (S.2.1 14 (2 : Int32).toNatClampNeg).toInt := (congrArg Int32.toInt ((congrFun (g250.2 14 rfl) (2 : Int32).toNatClampNeg).trans (congrFun (g9.2 14 rfl) (2 : Int32).toNatClampNeg))).trans rfl
    unfold b_readScanHead_71
    refine ⟨fun yx1 yx2 yx3 yx4 yx5 yS => v1_5 = yx1 ∧ ((S1_6.1 34) - 1) = yx2 ∧ B (-1) 2 yx3 ∧ B (-2147483648) 2147483647 yx4 ∧ B 0 255 yx5 ∧ IM yS ∧ ag [10, 34, 35] [50, 51, 52] T248 yS ∧ ((S.1 34).toInt ≤ (yS.1 34).toInt) ∧ (((yS.1 35).toInt = 0) → ((S.1 35).toInt = 0)) ∧ (((yS.1 35).toInt = 0) → ((1 ≤ yx1.toInt) ∧ (yx1.toInt ≤ (yS.2.1 14 (2 : Int32).toNatClampNeg).toInt))) ∧ (qf (yS.2.1 50) 0 (yx5.toInt - (1000 * (yS.1 35).toInt)) 0 ((yS.2.1 14 (2 : Int32).toNatClampNeg).toInt - 1)) ∧ (cSn yx5.toInt yS), fun yx1 yx2 yx3 yx4 yx5 yS => (255 - yx5.toInt).toNat, ⟨rfl, rfl, (B_w cqb_m1_m1_m1 (by decide +kernel) (by decide +kernel)), (B_w cqb_0_0_0 (by decide +kernel) (by decide +kernel)), (B_w cqb_0_0_0 (by decide +kernel) (by decide +kernel)), hI249, (ag_refl (fs := [10, 34, 35]) (rs := [50, 51, 52]) (S := T248)), (by show (S.1 34).toInt ≤ (T248.1 34).toInt; first | with_reducible assumption | omega), (by show ((T248.1 35).toInt = 0) → ((S.1 35).toInt = 0); first | with_reducible assumption | exact (fun _ => by with_reducible assumption) | omega), (by show ((T248.1 35).toInt = 0) → ((1 ≤ v1_5.toInt) ∧ (v1_5.toInt ≤ (T248.2.1 14 (2 : Int32).toNatClampNeg).toInt)); first | with_reducible assumption | exact (fun _ => by with_reducible assumption) | omega), (qf_0 (b := 0 - (1000 * (T248.1 35).toInt)) (by omega)), (fun _ x h1 h2 => by have h3 : x.toInt < 0 := h2; omega)⟩, fun x1_258 x2_259 x3_260 x4_261 x5_262 T263 hIv => ?_⟩
    obtain ⟨rfl, rfl, b264, b265, b266, hI267, g268, r269, r270, r271, r272, r273⟩ := hIv
    suffices hs : ∀ (R79 : Int32 → Int32 → Int32 → Int32 → Int32 → ms → Prop), (∀ zx1 zx2 zx3 zx4 zx5 zS, (v1_5 = zx1 ∧ ((S1_6.1 34) - 1) = zx2 ∧ B (-1) 2 zx3 ∧ B (-2147483648) 2147483647 zx4 ∧ B 0 255 zx5 ∧ IM zS ∧ ag [10, 34, 35] [50, 51, 52] T248 zS ∧ ((S.1 34).toInt ≤ (zS.1 34).toInt) ∧ (((zS.1 35).toInt = 0) → ((S.1 35).toInt = 0)) ∧ (((zS.1 35).toInt = 0) → ((1 ≤ zx1.toInt) ∧ (zx1.toInt ≤ (zS.2.1 14 (2 : Int32).toNatClampNeg).toInt))) ∧ (qf (zS.2.1 50) 0 (zx5.toInt - (1000 * (zS.1 35).toInt)) 0 ((zS.2.1 14 (2 : Int32).toNatClampNeg).toInt - 1)) ∧ (cSn zx5.toInt zS)) → (255 - zx5.toInt).toNat < (255 - x5_262.toInt).toNat → R79 zx1 zx2 zx3 zx4 zx5 zS) → b_readScanHead_79 v1_5 ((S1_6.1 34) - 1) x3_260 x4_261 x5_262 T263 R79 K from hs _ (fun _ _ _ _ _ _ h1 h2 => ⟨h1, h2⟩)
    intro R79 hR790
    have hR79 := fun {zx1} {zx2} {zx3} {zx4} {zx5} {zS} => hR790 zx1 zx2 zx3 zx4 zx5 zS
    have q274 : (0) ≤ (T263.1 34).toInt ∧ (T263.1 34).toInt ≤ (32768) := (show B 0 32768 (T263.1 34) from bf_34 hI267)
    have q275 : (0) ≤ (T263.1 35).toInt ∧ (T263.1 35).toInt ≤ (8) := (show B 0 8 (T263.1 35) from bf_35 hI267)
    have e276 : (T263.2.1 14 (2 : Int32).toNatClampNeg).toInt = (S.2.1 14 (2 : Int32).toNatClampNeg).toInt := (congrArg Int32.toInt (((congrFun (g268.2 14 rfl) (2 : Int32).toNatClampNeg).trans (congrFun (g250.2 14 rfl) (2 : Int32).toNatClampNeg)).trans (congrFun (g9.2 14 rfl) (2 : Int32).toNatClampNeg))).trans rfl
    have q277 : (0) ≤ (x5_262).toInt ∧ (x5_262).toInt ≤ (255) := (show B 0 255 (x5_262) from B_w b266 (by decide +kernel) (by decide +kernel))
    unfold b_readScanHead_79
    refine ⟨fun hc => ?_, fun hc => ?_⟩
    · have hq278 := hc
      have i279 : (v1_5).toInt ≤ (x5_262).toInt := i_le hq278
      have g281 := ag_tr (ag_refl (fs := [10, 34, 35]) (rs := [50, 51, 52]) (S := S1_6)) g250 (by decide +kernel) (by decide +kernel)
      have g280 := ag_tr g281 g268 (by decide +kernel) (by decide +kernel)
      exact hj149 b265 hI267 g280 (by show (S.1 34).toInt ≤ (T263.1 34).toInt; first | with_reducible assumption | omega) (by show ((T263.1 35).toInt = 0) → ((S.1 35).toInt = 0); first | with_reducible assumption | exact (fun _ => by with_reducible assumption) | omega) (by show ((T263.1 35).toInt = 0) → ((1 ≤ v1_5.toInt) ∧ (v1_5.toInt ≤ (T263.2.1 14 (2 : Int32).toNatClampNeg).toInt)); first | with_reducible assumption | exact (fun _ => by with_reducible assumption) | omega) (qf_le (b' := v1_5.toInt - (1000 * (T263.1 35).toInt)) (lo' := 0) (hi' := (T263.2.1 14 (2 : Int32).toNatClampNeg).toInt - 1) r272 (by omega) (by omega) (by omega)) (cSn_tr (S := T263) (T := T263) (n := x5_262.toInt) (n' := v1_5.toInt) r273 (Eq.trans (((g268.2 40 rfl).trans (g250.2 40 rfl)).trans (g9.2 40 rfl)) (Eq.symm (((g268.2 40 rfl).trans (g250.2 40 rfl)).trans (g9.2 40 rfl)))) rfl rfl (by show (T263.1 35).toInt = 0 → ((T263.1 35).toInt = 0); first | with_reducible assumption | exact (fun _ => by with_reducible assumption) | omega) (by show (T263.1 35).toInt = 0 → v1_5.toInt ≤ x5_262.toInt; first | with_reducible assumption | exact (fun _ => by with_reducible assumption) | omega))
    · have hq282 := (nle_lt hc)
      have b283 : B 0 254 (x5_262) := B_w (B_ltL b266 b7 hq282) (by decide +kernel) (by decide +kernel)
      have q284 : (0) ≤ (x5_262).toInt ∧ (x5_262).toInt ≤ (254) := (show B 0 254 (x5_262) from B_w b283 (by decide +kernel) (by decide +kernel))
      have b285 : B 1 255 (v1_5) := B_w (B_ltR b266 b7 hq282) (by decide +kernel) (by decide +kernel)
      have q286 : (1) ≤ (v1_5).toInt ∧ (v1_5).toInt ≤ (255) := (show B 1 255 (v1_5) from B_w b285 (by decide +kernel) (by decide +kernel))
      have i287 : (x5_262).toInt < (v1_5).toInt := i_lt hq282
      refine ⟨fun hc => ?_, fun hc => ?_⟩
      · have b288 : B 1 8 (T263.1 35) := B_w (B_n0 (show B 0 8 (T263.1 35) from bf_35 hI267) hc) (by decide +kernel) (by decide +kernel)
        have q289 : (1) ≤ (T263.1 35).toInt ∧ (T263.1 35).toInt ≤ (8) := (show B 1 8 (T263.1 35) from B_w b288 (by decide +kernel) (by decide +kernel))
        have g291 := ag_tr (ag_refl (fs := [10, 34, 35]) (rs := [50, 51, 52]) (S := S1_6)) g250 (by decide +kernel) (by decide +kernel)
        have g290 := ag_tr g291 g268 (by decide +kernel) (by decide +kernel)
        exact hj149 b265 hI267 g290 (by show (S.1 34).toInt ≤ (T263.1 34).toInt; first | with_reducible assumption | omega) (by show ((T263.1 35).toInt = 0) → ((S.1 35).toInt = 0); first | with_reducible assumption | exact (fun _ => by with_reducible assumption) | omega) (by show ((T263.1 35).toInt = 0) → ((1 ≤ v1_5.toInt) ∧ (v1_5.toInt ≤ (T263.2.1 14 (2 : Int32).toNatClampNeg).toInt)); first | with_reducible assumption | exact (fun _ => by with_reducible assumption) | omega) (qf_le (b' := v1_5.toInt - (1000 * (T263.1 35).toInt)) (lo' := 0) (hi' := (T263.2.1 14 (2 : Int32).toNatClampNeg).toInt - 1) r272 (by omega) (by omega) (by omega)) (fun h => absurd (show (T263.1 35).toInt = 0 from h) (by omega))
      · have b292 : B 0 0 (T263.1 35) := B_w (B_eq hc cqb_0_0_0) (by decide +kernel) (by decide +kernel)
        have q293 : (0) ≤ (T263.1 35).toInt ∧ (T263.1 35).toInt ≤ (0) := (show B 0 0 (T263.1 35) from B_w b292 (by decide +kernel) (by decide +kernel))
        have i294 : (T263.1 35).toInt = (0 : Int32).toInt := congrArg Int32.toInt hc
        have n295 : (0 : Int32).toInt = 0 := cqn_0
        refine h_next hI267 (fun {v93_296} {S93_297} b298 hI299 g300 r301 r302 => ?_)
        have r303 : (T263.1 34).toInt ≤ (S93_297.1 34).toInt := r301
        clear r301
        have q304 : (0) ≤ (S93_297.1 34).toInt ∧ (S93_297.1 34).toInt ≤ (32768) := (show B 0 32768 (S93_297.1 34) from bf_34 hI299)
        have r305 : ((S93_297.1 35).toInt = 0) → (((T263.1 35).toInt = 0) ∧ (((T263.1 34).toInt + 1) ≤ (S93_297.1 34).toInt)) := r302
        clear r302
        have q306 : (0) ≤ (S93_297.1 35).toInt ∧ (S93_297.1 35).toInt ≤ (8) := (show B 0 8 (S93_297.1 35) from bf_35 hI299)
        have hj307 : ∀ {x7_308 : Int32} {x8_309 : Int32} {T310 : ms}, B (-1) 2 x7_308 → B 0 255 x8_309 → IM T310 → ag [10, 34, 35] [] S93_297 T310 → ((T263.1 34).toInt ≤ (T310.1 34).toInt) → (((T310.1 35).toInt = 0) → ((T263.1 35).toInt = 0)) → (((T310.1 35).toInt = 0) → ((0 ≤ x7_308.toInt) ∧ (x7_308.toInt < (T310.2.1 14 (2 : Int32).toNatClampNeg).toInt))) → (((T310.1 35).toInt = 0) → ((x8_309.toInt = 0) ∨ ((x8_309.toInt = 1) ∨ ((x8_309.toInt = 16) ∨ (x8_309.toInt = 17))))) → (((T310.1 35).toInt = 0) → (((csum (T310.2.1 40) (16 * (x8_309 >>> (4 &&& 31 : Int32) : Int32).toInt).toNat 16) ≤ 256) ∧ ((csum (T310.2.1 40) (16 * (2 + (x8_309 &&& 1)).toInt).toNat 16) ≤ 256))) → b_readScanHead_297 v1_5 ((S1_6.1 34) - 1) x3_260 x4_261 x5_262 x7_308 x8_309 T310 R79 K := by
          intro x7_308 x8_309 T310 b311 b312 hI313 g314 r315 r316 r317 r318 r319
          have q320 : (0) ≤ (T310.1 34).toInt ∧ (T310.1 34).toInt ≤ (32768) := (show B 0 32768 (T310.1 34) from bf_34 hI313)
          have q321 : (0) ≤ (T310.1 35).toInt ∧ (T310.1 35).toInt ≤ (8) := (show B 0 8 (T310.1 35) from bf_35 hI313)
          have q322 : (-1) ≤ (x7_308).toInt ∧ (x7_308).toInt ≤ (2) := (show B (-1) 2 (x7_308) from B_w b311 (by decide +kernel) (by decide +kernel))
          have e323 : (T310.2.1 14 (2 : Int32).toNatClampNeg).toInt = (S.2.1 14 (2 : Int32).toNatClampNeg).toInt := (congrArg Int32.toInt (((((congrFun (g314.2 14 rfl) (2 : Int32).toNatClampNeg).trans (congrFun (g300.2 14 rfl) (2 : Int32).toNatClampNeg)).trans (congrFun (g268.2 14 rfl) (2 : Int32).toNatClampNeg)).trans (congrFun (g250.2 14 rfl) (2 : Int32).toNatClampNeg)).trans (congrFun (g9.2 14 rfl) (2 : Int32).toNatClampNeg))).trans rfl
          have q324 : (0) ≤ (x8_309).toInt ∧ (x8_309).toInt ≤ (255) := (show B 0 255 (x8_309) from B_w b312 (by decide +kernel) (by decide +kernel))
          have e325 : csum (T310.2.1 40) (16 * (x8_309 >>> (4 &&& 31 : Int32) : Int32).toInt).toNat 16 = csum (S.2.1 40) (16 * (x8_309 >>> (4 &&& 31 : Int32) : Int32).toInt).toNat 16 := congrArg (fun g => csum g (16 * (x8_309 >>> (4 &&& 31 : Int32) : Int32).toInt).toNat 16) (((((g314.2 40 rfl).trans (g300.2 40 rfl)).trans (g268.2 40 rfl)).trans (g250.2 40 rfl)).trans (g9.2 40 rfl))
          have e326 : csum (T310.2.1 40) (16 * (2 + (x8_309 &&& 1)).toInt).toNat 16 = csum (S.2.1 40) (16 * (2 + (x8_309 &&& 1)).toInt).toNat 16 := congrArg (fun g => csum g (16 * (2 + (x8_309 &&& 1)).toInt).toNat 16) (((((g314.2 40 rfl).trans (g300.2 40 rfl)).trans (g268.2 40 rfl)).trans (g250.2 40 rfl)).trans (g9.2 40 rfl))
          have e327 : ((x8_309 >>> (4 &&& 31 : Int32) : Int32)).toInt = ((x8_309).toInt / 16) := (t_shr (k := 4) (by decide +kernel)).trans (by rw [show (2 : Int) ^ 4 = 16 from by decide +kernel])
          have q328 : (0) ≤ ((x8_309 >>> (4 &&& 31 : Int32) : Int32)).toInt ∧ ((x8_309 >>> (4 &&& 31 : Int32) : Int32)).toInt ≤ (15) := (show B 0 15 ((x8_309 >>> (4 &&& 31 : Int32) : Int32)) from B_w (B_shr (k := 4) (by decide +kernel) b312) (by decide +kernel) (by decide +kernel))
          have q329 : (0) ≤ (x8_309 &&& 1).toInt ∧ (x8_309 &&& 1).toInt ≤ (1) := (show B 0 1 (x8_309 &&& 1) from B_and (k := 1) (by decide +kernel) (by decide +kernel))
          have e330 : (2 + (x8_309 &&& 1)).toInt = (2 + (x8_309 &&& 1).toInt) := (t_add cqb_2_2_2 (show B 0 1 (x8_309 &&& 1) from B_and (k := 1) (by decide +kernel) (by decide +kernel)) (by decide +kernel) (by decide +kernel)).trans (by rw [cqn_2])
          have q331 : (2) ≤ (2 + (x8_309 &&& 1)).toInt ∧ (2 + (x8_309 &&& 1)).toInt ≤ (3) := (show B 2 3 (2 + (x8_309 &&& 1)) from B_w (B_add cqb_2_2_2 (show B 0 1 (x8_309 &&& 1) from B_and (k := 1) (by decide +kernel) (by decide +kernel)) (by decide +kernel) (by decide +kernel)) (by decide +kernel) (by decide +kernel))
          unfold b_readScanHead_297
          refine ⟨fun hc => ?_, fun hc => ?_⟩
          · have b332 : B 1 8 (T310.1 35) := B_w (B_n0 (show B 0 8 (T310.1 35) from bf_35 hI313) hc) (by decide +kernel) (by decide +kernel)
            have q333 : (1) ≤ (T310.1 35).toInt ∧ (T310.1 35).toInt ≤ (8) := (show B 1 8 (T310.1 35) from B_w b332 (by decide +kernel) (by decide +kernel))
            unfold b_readScanHead_366
            have g336 := ag_tr (ag_refl (fs := [10, 34, 35]) (rs := [50, 51, 52]) (S := T248)) g268 (by decide +kernel) (by decide +kernel)
            have g335 := ag_tr g336 g300 (by decide +kernel) (by decide +kernel)
            have g334 := ag_tr g335 g314 (by decide +kernel) (by decide +kernel)
            have e337 : (x5_262 + 1).toInt = ((x5_262).toInt + 1) := (t_add b283 cqb_1_1_1 (by decide +kernel) (by decide +kernel)).trans (by rw [cqn_1])
            have q338 : (1) ≤ (x5_262 + 1).toInt ∧ (x5_262 + 1).toInt ≤ (255) := (show B 1 255 (x5_262 + 1) from B_w (B_add b283 cqb_1_1_1 (by decide +kernel) (by decide +kernel)) (by decide +kernel) (by decide +kernel))
            exact hR79 ⟨rfl, rfl, b264, b265, (B_w (B_add b283 cqb_1_1_1 (by decide +kernel) (by decide +kernel)) (by decide +kernel) (by decide +kernel)), hI313, g334, (by show (S.1 34).toInt ≤ (T310.1 34).toInt; first | with_reducible assumption | omega), (by show ((T310.1 35).toInt = 0) → ((S.1 35).toInt = 0); first | with_reducible assumption | exact (fun _ => by with_reducible assumption) | omega), (by show ((T310.1 35).toInt = 0) → ((1 ≤ v1_5.toInt) ∧ (v1_5.toInt ≤ (T310.2.1 14 (2 : Int32).toNatClampNeg).toInt)); first | with_reducible assumption | exact (fun _ => by with_reducible assumption) | omega), (qf_eq ((g314.2 50 rfl).trans (g300.2 50 rfl)) (qf_le (b' := (x5_262 + 1).toInt - (1000 * (T310.1 35).toInt)) (lo' := 0) (hi' := (T310.2.1 14 (2 : Int32).toNatClampNeg).toInt - 1) r272 (by omega) (by omega) (by omega))), (fun h => absurd (show (T310.1 35).toInt = 0 from h) (by omega))⟩ (by show (255 - (x5_262 + 1).toInt).toNat < (255 - x5_262.toInt).toNat; omega)
          · have b339 : B 0 0 (T310.1 35) := B_w (B_eq hc cqb_0_0_0) (by decide +kernel) (by decide +kernel)
            have q340 : (0) ≤ (T310.1 35).toInt ∧ (T310.1 35).toInt ≤ (0) := (show B 0 0 (T310.1 35) from B_w b339 (by decide +kernel) (by decide +kernel))
            have i341 : (T310.1 35).toInt = (0 : Int32).toInt := congrArg Int32.toInt hc
            have n342 : (0 : Int32).toInt = 0 := cqn_0
            refine ⟨vp_om (x := x5_262) (by omega) (by omega), ?_⟩
            have b343 : B 0 2 (x5_262) := ⟨by omega, by omega⟩
            refine ⟨vp_B b343 (by decide +kernel) (by decide +kernel), ?_⟩
            refine ⟨vp_B b343 (by decide +kernel) (by decide +kernel), ?_⟩
            refine ⟨vp_B (B_add cqb_6_6_6 b311 (by decide +kernel) (by decide +kernel)) (by decide +kernel) (by decide +kernel), ?_⟩
            refine ⟨vp_B (B_add cqb_6_6_6 b311 (by decide +kernel) (by decide +kernel)) (by decide +kernel) (by decide +kernel), ?_⟩
            unfold b_readScanHead_366
            have e344 : (6 + x7_308).toInt = (6 + (x7_308).toInt) := (t_add cqb_6_6_6 b311 (by decide +kernel) (by decide +kernel)).trans (by rw [cqn_6])
            have q345 : (5) ≤ (6 + x7_308).toInt ∧ (6 + x7_308).toInt ≤ (8) := (show B 5 8 (6 + x7_308) from B_w (B_add cqb_6_6_6 b311 (by decide +kernel) (by decide +kernel)) (by decide +kernel) (by decide +kernel))
            have b346 : B 1 2 (S.2.1 15 (6 + x7_308).toNatClampNeg) := qf_at pre0 (x := 6 + x7_308) (by omega) (by omega)
            have b347 : B 1 2 (S.2.1 16 (6 + x7_308).toNatClampNeg) := qf_at pre1 (x := 6 + x7_308) (by omega) (by omega)
            have hI348 := IM_r (r := 50) (i := x5_262.toNatClampNeg) (v := x7_308) hI313 (show B 0 2 (x7_308) from ⟨by omega, by omega⟩) (by decide +kernel) (by decide +kernel)
            have hI349 := IM_r (r := 51) (i := x5_262.toNatClampNeg) (v := (x8_309 >>> (4 &&& 31 : Int32) : Int32)) hI348 (show B 0 1 ((x8_309 >>> (4 &&& 31 : Int32) : Int32)) from ⟨by omega, by omega⟩) (by decide +kernel) (by decide +kernel)
            have hI350 := IM_r (r := 52) (i := x5_262.toNatClampNeg) (v := 2 + (x8_309 &&& 1)) hI349 (B_add cqb_2_2_2 (show B 0 1 (x8_309 &&& 1) from B_and (k := 1) (by decide +kernel) (by decide +kernel)) (by decide +kernel) (by decide +kernel)) (by decide +kernel) (by decide +kernel)
            have g356 := ag_tr (ag_refl (fs := [10, 34, 35]) (rs := [50, 51, 52]) (S := T248)) g268 (by decide +kernel) (by decide +kernel)
            have g355 := ag_tr g356 g300 (by decide +kernel) (by decide +kernel)
            have g354 := ag_tr g355 g314 (by decide +kernel) (by decide +kernel)
            have g353 := ag_r (r := 50) (w := upd (T310.2.1 50) x5_262.toNatClampNeg x7_308) g354 (by decide +kernel)
            have g352 := ag_r (r := 51) (w := upd (T310.2.1 51) x5_262.toNatClampNeg (x8_309 >>> (4 &&& 31 : Int32) : Int32)) g353 (by decide +kernel)
            have g351 := ag_r (r := 52) (w := upd (T310.2.1 52) x5_262.toNatClampNeg (2 + (x8_309 &&& 1))) g352 (by decide +kernel)
            have e357 : (x5_262 + 1).toInt = ((x5_262).toInt + 1) := (t_add b343 cqb_1_1_1 (by decide +kernel) (by decide +kernel)).trans (by rw [cqn_1])
            have q358 : (1) ≤ (x5_262 + 1).toInt ∧ (x5_262 + 1).toInt ≤ (3) := (show B 1 3 (x5_262 + 1) from B_w (B_add b343 cqb_1_1_1 (by decide +kernel) (by decide +kernel)) (by decide +kernel) (by decide +kernel))
            have e359 : csum (T263.2.1 40) (16 * (x8_309 >>> (4 &&& 31 : Int32) : Int32).toInt).toNat 16 = csum (S.2.1 40) (16 * (x8_309 >>> (4 &&& 31 : Int32) : Int32).toInt).toNat 16 := congrArg (fun g => csum g (16 * (x8_309 >>> (4 &&& 31 : Int32) : Int32).toInt).toNat 16) (((g268.2 40 rfl).trans (g250.2 40 rfl)).trans (g9.2 40 rfl))
            have e360 : csum (T263.2.1 40) (16 * (2 + (x8_309 &&& 1)).toInt).toNat 16 = csum (S.2.1 40) (16 * (2 + (x8_309 &&& 1)).toInt).toNat 16 := congrArg (fun g => csum g (16 * (2 + (x8_309 &&& 1)).toInt).toNat 16) (((g268.2 40 rfl).trans (g250.2 40 rfl)).trans (g9.2 40 rfl))
            exact hR79 ⟨rfl, rfl, b311, (B_w (B_any _) (by decide +kernel) (by decide +kernel)), (B_w (B_add b343 cqb_1_1_1 (by decide +kernel) (by decide +kernel)) (by decide +kernel) (by decide +kernel)), hI350, g351, (by show (S.1 34).toInt ≤ (T310.1 34).toInt; first | with_reducible assumption | omega), (by show ((T310.1 35).toInt = 0) → ((S.1 35).toInt = 0); first | with_reducible assumption | exact (fun _ => by with_reducible assumption) | omega), (by show ((T310.1 35).toInt = 0) → ((1 ≤ v1_5.toInt) ∧ (v1_5.toInt ≤ (T310.2.1 14 (2 : Int32).toNatClampNeg).toInt)); first | with_reducible assumption | exact (fun _ => by with_reducible assumption) | omega), (qf_le (b' := (x5_262 + 1).toInt - (1000 * (T310.1 35).toInt)) (lo' := 0) (hi' := (T310.2.1 14 (2 : Int32).toNatClampNeg).toInt - 1) (qf_ext (x := x5_262) (b' := (x5_262 + 1).toInt - (1000 * (T310.1 35).toInt)) (qf_eq ((g314.2 50 rfl).trans (g300.2 50 rfl)) r272) (fun _ => ⟨by omega, by omega⟩) (by omega) (by omega) (by omega)) (by omega) (by omega) (by omega)), (cSn_ext (S := T263) (T := (T310.1, va_up (va_up (va_up T310.2.1 50 (upd (T310.2.1 50) x5_262.toNatClampNeg x7_308)) 51 (upd (T310.2.1 51) x5_262.toNatClampNeg (x8_309 >>> (4 &&& 31 : Int32) : Int32))) 52 (upd (T310.2.1 52) x5_262.toNatClampNeg (2 + (x8_309 &&& 1))), T310.2.2)) (n := x5_262.toInt) (n' := (x5_262 + 1).toInt) (x := x5_262) (y := (x8_309 >>> (4 &&& 31 : Int32) : Int32)) (z := 2 + (x8_309 &&& 1)) r273 (Eq.trans (((((g314.2 40 rfl).trans (g300.2 40 rfl)).trans (g268.2 40 rfl)).trans (g250.2 40 rfl)).trans (g9.2 40 rfl)) (Eq.symm (((g268.2 40 rfl).trans (g250.2 40 rfl)).trans (g9.2 40 rfl)))) (congrArg (fun g => upd g x5_262.toNatClampNeg (x8_309 >>> (4 &&& 31 : Int32) : Int32)) ((g314.2 51 rfl).trans (g300.2 51 rfl))) (congrArg (fun g => upd g x5_262.toNatClampNeg (2 + (x8_309 &&& 1))) ((g314.2 52 rfl).trans (g300.2 52 rfl))) (by show (T310.1 35).toInt = 0 → ((T263.1 35).toInt = 0 ∧ 0 ≤ x5_262.toInt ∧ x5_262.toInt = x5_262.toInt ∧ (x5_262 + 1).toInt ≤ (x5_262.toInt + 1) ∧ (csum (T263.2.1 40) (16 * (x8_309 >>> (4 &&& 31 : Int32) : Int32).toInt).toNat 16) ≤ 256 ∧ (csum (T263.2.1 40) (16 * (2 + (x8_309 &&& 1)).toInt).toNat 16) ≤ 256); first | with_reducible assumption | exact (fun _ => by with_reducible assumption) | omega))⟩ (by show (255 - (x5_262 + 1).toInt).toNat < (255 - x5_262.toInt).toNat; omega)
        have hj361 : ∀ {x7_362 : Int32} {x8_363 : Int32} {s1_364 : Int32} {T365 : ms}, B (-1) 2 x7_362 → B 0 255 x8_363 → B 0 1 s1_364 → IM T365 → ag [10, 34, 35] [] S93_297 T365 → ((T263.1 34).toInt ≤ (T365.1 34).toInt) → (((T365.1 35).toInt = 0) → ((T263.1 35).toInt = 0)) → (((T365.1 35).toInt = 0) → ((0 ≤ x7_362.toInt) ∧ (x7_362.toInt < (T365.2.1 14 (2 : Int32).toNatClampNeg).toInt))) → ((s1_364.toInt = 1) → ((x8_363.toInt = 0) ∨ ((x8_363.toInt = 1) ∨ ((x8_363.toInt = 16) ∨ (x8_363.toInt = 17))))) → b_readScanHead_241 v1_5 ((S1_6.1 34) - 1) x3_260 x4_261 x5_262 x7_362 x8_363 s1_364 T365 R79 K := by
          intro x7_362 x8_363 s1_364 T365 b366 b367 b368 hI369 g370 r371 r372 r373 r374
          have q375 : (0) ≤ (T365.1 34).toInt ∧ (T365.1 34).toInt ≤ (32768) := (show B 0 32768 (T365.1 34) from bf_34 hI369)
          have q376 : (0) ≤ (T365.1 35).toInt ∧ (T365.1 35).toInt ≤ (8) := (show B 0 8 (T365.1 35) from bf_35 hI369)
          have q377 : (-1) ≤ (x7_362).toInt ∧ (x7_362).toInt ≤ (2) := (show B (-1) 2 (x7_362) from B_w b366 (by decide +kernel) (by decide +kernel))
          have e378 : (T365.2.1 14 (2 : Int32).toNatClampNeg).toInt = (S.2.1 14 (2 : Int32).toNatClampNeg).toInt := (congrArg Int32.toInt (((((congrFun (g370.2 14 rfl) (2 : Int32).toNatClampNeg).trans (congrFun (g300.2 14 rfl) (2 : Int32).toNatClampNeg)).trans (congrFun (g268.2 14 rfl) (2 : Int32).toNatClampNeg)).trans (congrFun (g250.2 14 rfl) (2 : Int32).toNatClampNeg)).trans (congrFun (g9.2 14 rfl) (2 : Int32).toNatClampNeg))).trans rfl
          have q379 : (0) ≤ (s1_364).toInt ∧ (s1_364).toInt ≤ (1) := (show B 0 1 (s1_364) from B_w b368 (by decide +kernel) (by decide +kernel))
          have q380 : (0) ≤ (x8_363).toInt ∧ (x8_363).toInt ≤ (255) := (show B 0 255 (x8_363) from B_w b367 (by decide +kernel) (by decide +kernel))
          unfold b_readScanHead_241
          refine h_must b368 (B_w (B_sub (show B 0 32768 (T365.1 34) from bf_34 hI369) cqb_1_1_1 (by decide +kernel) (by decide +kernel)) (by decide +kernel) (by decide +kernel)) hI369 (fun {S247_381} hI382 g383 r384 r385 => ?_)
          have r386 : ((S247_381.1 35).toInt = 0) → ((T365.1 35).toInt = 0) := r384
          clear r384
          have q387 : (0) ≤ (S247_381.1 35).toInt ∧ (S247_381.1 35).toInt ≤ (8) := (show B 0 8 (S247_381.1 35) from bf_35 hI382)
          have r388 : (s1_364.toInt = 0) → (1 ≤ (S247_381.1 35).toInt) := r385
          clear r385
          refine ⟨fun hc => ?_, fun hc => ?_⟩
          · have b389 : B 1 8 (S247_381.1 35) := B_w (B_n0 (show B 0 8 (S247_381.1 35) from bf_35 hI382) hc) (by decide +kernel) (by decide +kernel)
            have q390 : (1) ≤ (S247_381.1 35).toInt ∧ (S247_381.1 35).toInt ≤ (8) := (show B 1 8 (S247_381.1 35) from B_w b389 (by decide +kernel) (by decide +kernel))
            have g392 := ag_tr (ag_refl (fs := [10, 34, 35]) (rs := []) (S := S93_297)) g370 (by decide +kernel) (by decide +kernel)
            have g391 := ag_tr g392 g383 (by decide +kernel) (by decide +kernel)
            have e393 : (S247_381.1 34).toInt = (T365.1 34).toInt := (congrArg Int32.toInt (g383.1 34 rfl)).trans rfl
            have e394 : (S247_381.2.1 14 (2 : Int32).toNatClampNeg).toInt = (S.2.1 14 (2 : Int32).toNatClampNeg).toInt := (congrArg Int32.toInt ((((((congrFun (g383.2 14 rfl) (2 : Int32).toNatClampNeg).trans (congrFun (g370.2 14 rfl) (2 : Int32).toNatClampNeg)).trans (congrFun (g300.2 14 rfl) (2 : Int32).toNatClampNeg)).trans (congrFun (g268.2 14 rfl) (2 : Int32).toNatClampNeg)).trans (congrFun (g250.2 14 rfl) (2 : Int32).toNatClampNeg)).trans (congrFun (g9.2 14 rfl) (2 : Int32).toNatClampNeg))).trans rfl
            have e395 : csum (S247_381.2.1 40) (16 * (x8_363 >>> (4 &&& 31 : Int32) : Int32).toInt).toNat 16 = csum (S.2.1 40) (16 * (x8_363 >>> (4 &&& 31 : Int32) : Int32).toInt).toNat 16 := congrArg (fun g => csum g (16 * (x8_363 >>> (4 &&& 31 : Int32) : Int32).toInt).toNat 16) ((((((g383.2 40 rfl).trans (g370.2 40 rfl)).trans (g300.2 40 rfl)).trans (g268.2 40 rfl)).trans (g250.2 40 rfl)).trans (g9.2 40 rfl))
            have e396 : csum (S247_381.2.1 40) (16 * (2 + (x8_363 &&& 1)).toInt).toNat 16 = csum (S.2.1 40) (16 * (2 + (x8_363 &&& 1)).toInt).toNat 16 := congrArg (fun g => csum g (16 * (2 + (x8_363 &&& 1)).toInt).toNat 16) ((((((g383.2 40 rfl).trans (g370.2 40 rfl)).trans (g300.2 40 rfl)).trans (g268.2 40 rfl)).trans (g250.2 40 rfl)).trans (g9.2 40 rfl))
            have e397 : ((x8_363 >>> (4 &&& 31 : Int32) : Int32)).toInt = ((x8_363).toInt / 16) := (t_shr (k := 4) (by decide +kernel)).trans (by rw [show (2 : Int) ^ 4 = 16 from by decide +kernel])
            have q398 : (0) ≤ ((x8_363 >>> (4 &&& 31 : Int32) : Int32)).toInt ∧ ((x8_363 >>> (4 &&& 31 : Int32) : Int32)).toInt ≤ (15) := (show B 0 15 ((x8_363 >>> (4 &&& 31 : Int32) : Int32)) from B_w (B_shr (k := 4) (by decide +kernel) b367) (by decide +kernel) (by decide +kernel))
            have q399 : (0) ≤ (x8_363 &&& 1).toInt ∧ (x8_363 &&& 1).toInt ≤ (1) := (show B 0 1 (x8_363 &&& 1) from B_and (k := 1) (by decide +kernel) (by decide +kernel))
            have e400 : (2 + (x8_363 &&& 1)).toInt = (2 + (x8_363 &&& 1).toInt) := (t_add cqb_2_2_2 (show B 0 1 (x8_363 &&& 1) from B_and (k := 1) (by decide +kernel) (by decide +kernel)) (by decide +kernel) (by decide +kernel)).trans (by rw [cqn_2])
            have q401 : (2) ≤ (2 + (x8_363 &&& 1)).toInt ∧ (2 + (x8_363 &&& 1)).toInt ≤ (3) := (show B 2 3 (2 + (x8_363 &&& 1)) from B_w (B_add cqb_2_2_2 (show B 0 1 (x8_363 &&& 1) from B_and (k := 1) (by decide +kernel) (by decide +kernel)) (by decide +kernel) (by decide +kernel)) (by decide +kernel) (by decide +kernel))
            exact hj307 b366 b367 hI382 g391 (by show (T263.1 34).toInt ≤ (S247_381.1 34).toInt; first | with_reducible assumption | omega) (by show ((S247_381.1 35).toInt = 0) → ((T263.1 35).toInt = 0); first | with_reducible assumption | exact (fun _ => by with_reducible assumption) | omega) (by show ((S247_381.1 35).toInt = 0) → ((0 ≤ x7_362.toInt) ∧ (x7_362.toInt < (S247_381.2.1 14 (2 : Int32).toNatClampNeg).toInt)); first | with_reducible assumption | exact (fun _ => by with_reducible assumption) | omega) (by show ((S247_381.1 35).toInt = 0) → ((x8_363.toInt = 0) ∨ ((x8_363.toInt = 1) ∨ ((x8_363.toInt = 16) ∨ (x8_363.toInt = 17)))); first | with_reducible assumption | exact (fun _ => by with_reducible assumption) | omega) (by show ((S247_381.1 35).toInt = 0) → (((csum (S247_381.2.1 40) (16 * (x8_363 >>> (4 &&& 31 : Int32) : Int32).toInt).toNat 16) ≤ 256) ∧ ((csum (S247_381.2.1 40) (16 * (2 + (x8_363 &&& 1)).toInt).toNat 16) ≤ 256)); first | with_reducible assumption | exact (fun _ => by with_reducible assumption) | omega)
          · have b402 : B 0 0 (S247_381.1 35) := B_w (B_eq hc cqb_0_0_0) (by decide +kernel) (by decide +kernel)
            have q403 : (0) ≤ (S247_381.1 35).toInt ∧ (S247_381.1 35).toInt ≤ (0) := (show B 0 0 (S247_381.1 35) from B_w b402 (by decide +kernel) (by decide +kernel))
            have i404 : (S247_381.1 35).toInt = (0 : Int32).toInt := congrArg Int32.toInt hc
            have n405 : (0 : Int32).toInt = 0 := cqn_0
            have e406 : ((x8_363 >>> (4 &&& 31 : Int32) : Int32)).toInt = ((x8_363).toInt / 16) := (t_shr (k := 4) (by decide +kernel)).trans (by rw [show (2 : Int) ^ 4 = 16 from by decide +kernel])
            have q407 : (0) ≤ ((x8_363 >>> (4 &&& 31 : Int32) : Int32)).toInt ∧ ((x8_363 >>> (4 &&& 31 : Int32) : Int32)).toInt ≤ (15) := (show B 0 15 ((x8_363 >>> (4 &&& 31 : Int32) : Int32)) from B_w (B_shr (k := 4) (by decide +kernel) b367) (by decide +kernel) (by decide +kernel))
            refine ⟨vp_om (x := (x8_363 >>> (4 &&& 31 : Int32) : Int32)) (by omega) (by omega), ?_⟩
            have b408 : B 0 3 ((x8_363 >>> (4 &&& 31 : Int32) : Int32)) := ⟨by omega, by omega⟩
            refine ⟨fun hc => ?_, fun hc => ?_⟩
            · have b409 : B 0 0 (S.2.1 42 (x8_363 >>> (4 &&& 31 : Int32) : Int32).toNatClampNeg) := B_w (B_eq (Eq.symm ((((((congrFun (g383.2 42 rfl) (x8_363 >>> (4 &&& 31 : Int32) : Int32).toNatClampNeg).trans (congrFun (g370.2 42 rfl) (x8_363 >>> (4 &&& 31 : Int32) : Int32).toNatClampNeg)).trans (congrFun (g300.2 42 rfl) (x8_363 >>> (4 &&& 31 : Int32) : Int32).toNatClampNeg)).trans (congrFun (g268.2 42 rfl) (x8_363 >>> (4 &&& 31 : Int32) : Int32).toNatClampNeg)).trans (congrFun (g250.2 42 rfl) (x8_363 >>> (4 &&& 31 : Int32) : Int32).toNatClampNeg)).trans (congrFun (g9.2 42 rfl) (x8_363 >>> (4 &&& 31 : Int32) : Int32).toNatClampNeg))) (B_eq hc cqb_0_0_0)) (by decide +kernel) (by decide +kernel)
              have q410 : (0) ≤ (S.2.1 42 (x8_363 >>> (4 &&& 31 : Int32) : Int32).toNatClampNeg).toInt ∧ (S.2.1 42 (x8_363 >>> (4 &&& 31 : Int32) : Int32).toNatClampNeg).toInt ≤ (0) := (show B 0 0 (S.2.1 42 (x8_363 >>> (4 &&& 31 : Int32) : Int32).toNatClampNeg) from B_w b409 (by decide +kernel) (by decide +kernel))
              have e411 : (S247_381.2.1 42 (x8_363 >>> (4 &&& 31 : Int32) : Int32).toNatClampNeg).toInt = (S.2.1 42 (x8_363 >>> (4 &&& 31 : Int32) : Int32).toNatClampNeg).toInt := (congrArg Int32.toInt ((((((congrFun (g383.2 42 rfl) (x8_363 >>> (4 &&& 31 : Int32) : Int32).toNatClampNeg).trans (congrFun (g370.2 42 rfl) (x8_363 >>> (4 &&& 31 : Int32) : Int32).toNatClampNeg)).trans (congrFun (g300.2 42 rfl) (x8_363 >>> (4 &&& 31 : Int32) : Int32).toNatClampNeg)).trans (congrFun (g268.2 42 rfl) (x8_363 >>> (4 &&& 31 : Int32) : Int32).toNatClampNeg)).trans (congrFun (g250.2 42 rfl) (x8_363 >>> (4 &&& 31 : Int32) : Int32).toNatClampNeg)).trans (congrFun (g9.2 42 rfl) (x8_363 >>> (4 &&& 31 : Int32) : Int32).toNatClampNeg))).trans rfl
              have i412 : (S247_381.2.1 42 (x8_363 >>> (4 &&& 31 : Int32) : Int32).toNatClampNeg).toInt = (0 : Int32).toInt := congrArg Int32.toInt hc
              have n413 : (0 : Int32).toInt = 0 := cqn_0
              unfold b_readScanHead_283
              refine h_fail (B_w cqb_6_6_6 (by decide +kernel) (by decide +kernel)) (B_w (B_sub (B_eq (g383.1 34 rfl) (show B 0 32768 (T365.1 34) from bf_34 hI369)) cqb_1_1_1 (by decide +kernel) (by decide +kernel)) (by decide +kernel) (by decide +kernel)) hI382 (fun {v292_414} {S292_415} b416 hI417 g418 r419 => ?_)
              have r420 : 1 ≤ (S292_415.1 35).toInt := r419
              clear r419
              have q421 : (0) ≤ (S292_415.1 35).toInt ∧ (S292_415.1 35).toInt ≤ (8) := (show B 0 8 (S292_415.1 35) from bf_35 hI417)
              have g424 := ag_tr (ag_refl (fs := [10, 34, 35]) (rs := []) (S := S93_297)) g370 (by decide +kernel) (by decide +kernel)
              have g423 := ag_tr g424 g383 (by decide +kernel) (by decide +kernel)
              have g422 := ag_tr g423 g418 (by decide +kernel) (by decide +kernel)
              have e425 : (S292_415.1 34).toInt = (T365.1 34).toInt := (congrArg Int32.toInt ((g418.1 34 rfl).trans (g383.1 34 rfl))).trans rfl
              have e426 : (S292_415.2.1 14 (2 : Int32).toNatClampNeg).toInt = (S.2.1 14 (2 : Int32).toNatClampNeg).toInt := (congrArg Int32.toInt (((((((congrFun (g418.2 14 rfl) (2 : Int32).toNatClampNeg).trans (congrFun (g383.2 14 rfl) (2 : Int32).toNatClampNeg)).trans (congrFun (g370.2 14 rfl) (2 : Int32).toNatClampNeg)).trans (congrFun (g300.2 14 rfl) (2 : Int32).toNatClampNeg)).trans (congrFun (g268.2 14 rfl) (2 : Int32).toNatClampNeg)).trans (congrFun (g250.2 14 rfl) (2 : Int32).toNatClampNeg)).trans (congrFun (g9.2 14 rfl) (2 : Int32).toNatClampNeg))).trans rfl
              have e427 : csum (S292_415.2.1 40) (16 * (x8_363 >>> (4 &&& 31 : Int32) : Int32).toInt).toNat 16 = csum (S.2.1 40) (16 * (x8_363 >>> (4 &&& 31 : Int32) : Int32).toInt).toNat 16 := congrArg (fun g => csum g (16 * (x8_363 >>> (4 &&& 31 : Int32) : Int32).toInt).toNat 16) (((((((g418.2 40 rfl).trans (g383.2 40 rfl)).trans (g370.2 40 rfl)).trans (g300.2 40 rfl)).trans (g268.2 40 rfl)).trans (g250.2 40 rfl)).trans (g9.2 40 rfl))
              have e428 : csum (S292_415.2.1 40) (16 * (2 + (x8_363 &&& 1)).toInt).toNat 16 = csum (S.2.1 40) (16 * (2 + (x8_363 &&& 1)).toInt).toNat 16 := congrArg (fun g => csum g (16 * (2 + (x8_363 &&& 1)).toInt).toNat 16) (((((((g418.2 40 rfl).trans (g383.2 40 rfl)).trans (g370.2 40 rfl)).trans (g300.2 40 rfl)).trans (g268.2 40 rfl)).trans (g250.2 40 rfl)).trans (g9.2 40 rfl))
              have q429 : (0) ≤ (x8_363 &&& 1).toInt ∧ (x8_363 &&& 1).toInt ≤ (1) := (show B 0 1 (x8_363 &&& 1) from B_and (k := 1) (by decide +kernel) (by decide +kernel))
              have e430 : (2 + (x8_363 &&& 1)).toInt = (2 + (x8_363 &&& 1).toInt) := (t_add cqb_2_2_2 (show B 0 1 (x8_363 &&& 1) from B_and (k := 1) (by decide +kernel) (by decide +kernel)) (by decide +kernel) (by decide +kernel)).trans (by rw [cqn_2])
              have q431 : (2) ≤ (2 + (x8_363 &&& 1)).toInt ∧ (2 + (x8_363 &&& 1)).toInt ≤ (3) := (show B 2 3 (2 + (x8_363 &&& 1)) from B_w (B_add cqb_2_2_2 (show B 0 1 (x8_363 &&& 1) from B_and (k := 1) (by decide +kernel) (by decide +kernel)) (by decide +kernel) (by decide +kernel)) (by decide +kernel) (by decide +kernel))
              exact hj307 b366 b367 hI417 g422 (by show (T263.1 34).toInt ≤ (S292_415.1 34).toInt; first | with_reducible assumption | omega) (by show ((S292_415.1 35).toInt = 0) → ((T263.1 35).toInt = 0); first | with_reducible assumption | exact (fun _ => by with_reducible assumption) | omega) (by show ((S292_415.1 35).toInt = 0) → ((0 ≤ x7_362.toInt) ∧ (x7_362.toInt < (S292_415.2.1 14 (2 : Int32).toNatClampNeg).toInt)); first | with_reducible assumption | exact (fun _ => by with_reducible assumption) | omega) (by show ((S292_415.1 35).toInt = 0) → ((x8_363.toInt = 0) ∨ ((x8_363.toInt = 1) ∨ ((x8_363.toInt = 16) ∨ (x8_363.toInt = 17)))); first | with_reducible assumption | exact (fun _ => by with_reducible assumption) | omega) (by show ((S292_415.1 35).toInt = 0) → (((csum (S292_415.2.1 40) (16 * (x8_363 >>> (4 &&& 31 : Int32) : Int32).toInt).toNat 16) ≤ 256) ∧ ((csum (S292_415.2.1 40) (16 * (2 + (x8_363 &&& 1)).toInt).toNat 16) ≤ 256)); first | with_reducible assumption | exact (fun _ => by with_reducible assumption) | omega)
            · have b432 : B 1 1 (S.2.1 42 (x8_363 >>> (4 &&& 31 : Int32) : Int32).toNatClampNeg) := B_w (B_eq (Eq.symm ((((((congrFun (g383.2 42 rfl) (x8_363 >>> (4 &&& 31 : Int32) : Int32).toNatClampNeg).trans (congrFun (g370.2 42 rfl) (x8_363 >>> (4 &&& 31 : Int32) : Int32).toNatClampNeg)).trans (congrFun (g300.2 42 rfl) (x8_363 >>> (4 &&& 31 : Int32) : Int32).toNatClampNeg)).trans (congrFun (g268.2 42 rfl) (x8_363 >>> (4 &&& 31 : Int32) : Int32).toNatClampNeg)).trans (congrFun (g250.2 42 rfl) (x8_363 >>> (4 &&& 31 : Int32) : Int32).toNatClampNeg)).trans (congrFun (g9.2 42 rfl) (x8_363 >>> (4 &&& 31 : Int32) : Int32).toNatClampNeg))) (B_n0 (B_eq ((((((congrFun (g383.2 42 rfl) (x8_363 >>> (4 &&& 31 : Int32) : Int32).toNatClampNeg).trans (congrFun (g370.2 42 rfl) (x8_363 >>> (4 &&& 31 : Int32) : Int32).toNatClampNeg)).trans (congrFun (g300.2 42 rfl) (x8_363 >>> (4 &&& 31 : Int32) : Int32).toNatClampNeg)).trans (congrFun (g268.2 42 rfl) (x8_363 >>> (4 &&& 31 : Int32) : Int32).toNatClampNeg)).trans (congrFun (g250.2 42 rfl) (x8_363 >>> (4 &&& 31 : Int32) : Int32).toNatClampNeg)).trans (congrFun (g9.2 42 rfl) (x8_363 >>> (4 &&& 31 : Int32) : Int32).toNatClampNeg)) (show B 0 1 (S.2.1 42 (x8_363 >>> (4 &&& 31 : Int32) : Int32).toNatClampNeg) from br_42 hI _)) hc)) (by decide +kernel) (by decide +kernel)
              refine ⟨vp_B (B_add cqb_2_2_2 (show B 0 1 (x8_363 &&& 1) from B_and (k := 1) (by decide +kernel) (by decide +kernel)) (by decide +kernel) (by decide +kernel)) (by decide +kernel) (by decide +kernel), ?_⟩
              refine ⟨fun hc => ?_, fun hc => ?_⟩
              · have b433 : B 1 1 (S.2.1 42 (2 + (x8_363 &&& 1)).toNatClampNeg) := B_w (B_eq (Eq.symm ((((((congrFun (g383.2 42 rfl) (2 + (x8_363 &&& 1)).toNatClampNeg).trans (congrFun (g370.2 42 rfl) (2 + (x8_363 &&& 1)).toNatClampNeg)).trans (congrFun (g300.2 42 rfl) (2 + (x8_363 &&& 1)).toNatClampNeg)).trans (congrFun (g268.2 42 rfl) (2 + (x8_363 &&& 1)).toNatClampNeg)).trans (congrFun (g250.2 42 rfl) (2 + (x8_363 &&& 1)).toNatClampNeg)).trans (congrFun (g9.2 42 rfl) (2 + (x8_363 &&& 1)).toNatClampNeg))) (B_n0 (B_eq ((((((congrFun (g383.2 42 rfl) (2 + (x8_363 &&& 1)).toNatClampNeg).trans (congrFun (g370.2 42 rfl) (2 + (x8_363 &&& 1)).toNatClampNeg)).trans (congrFun (g300.2 42 rfl) (2 + (x8_363 &&& 1)).toNatClampNeg)).trans (congrFun (g268.2 42 rfl) (2 + (x8_363 &&& 1)).toNatClampNeg)).trans (congrFun (g250.2 42 rfl) (2 + (x8_363 &&& 1)).toNatClampNeg)).trans (congrFun (g9.2 42 rfl) (2 + (x8_363 &&& 1)).toNatClampNeg)) (show B 0 1 (S.2.1 42 (2 + (x8_363 &&& 1)).toNatClampNeg) from br_42 hI _)) hc)) (by decide +kernel) (by decide +kernel)
                have g435 := ag_tr (ag_refl (fs := [10, 34, 35]) (rs := []) (S := S93_297)) g370 (by decide +kernel) (by decide +kernel)
                have g434 := ag_tr g435 g383 (by decide +kernel) (by decide +kernel)
                have r436 : (S247_381.1 35).toInt = 0 → csum (S247_381.2.1 40) (16 * ((x8_363 >>> (4 &&& 31 : Int32) : Int32)).toInt).toNat 16 ≤ 256 := fun h => (show cA S247_381 from (cA_tr (S := S) (T := S247_381) pre4 ((((((g383.2 40 rfl).trans (g370.2 40 rfl)).trans (g300.2 40 rfl)).trans (g268.2 40 rfl)).trans (g250.2 40 rfl)).trans (g9.2 40 rfl)) ((((((g383.2 42 rfl).trans (g370.2 42 rfl)).trans (g300.2 42 rfl)).trans (g268.2 42 rfl)).trans (g250.2 42 rfl)).trans (g9.2 42 rfl)) (by show (S247_381.1 35).toInt = 0 → ((S.1 35).toInt = 0); first | with_reducible assumption | exact (fun _ => by with_reducible assumption) | omega))) h ((x8_363 >>> (4 &&& 31 : Int32) : Int32)) b408 (B_nz (B_eq ((((((congrFun (g383.2 42 rfl) (x8_363 >>> (4 &&& 31 : Int32) : Int32).toNatClampNeg).trans (congrFun (g370.2 42 rfl) (x8_363 >>> (4 &&& 31 : Int32) : Int32).toNatClampNeg)).trans (congrFun (g300.2 42 rfl) (x8_363 >>> (4 &&& 31 : Int32) : Int32).toNatClampNeg)).trans (congrFun (g268.2 42 rfl) (x8_363 >>> (4 &&& 31 : Int32) : Int32).toNatClampNeg)).trans (congrFun (g250.2 42 rfl) (x8_363 >>> (4 &&& 31 : Int32) : Int32).toNatClampNeg)).trans (congrFun (g9.2 42 rfl) (x8_363 >>> (4 &&& 31 : Int32) : Int32).toNatClampNeg)) b432) (by decide +kernel))
                have q437 : (0) ≤ (x8_363 &&& 1).toInt ∧ (x8_363 &&& 1).toInt ≤ (1) := (show B 0 1 (x8_363 &&& 1) from B_and (k := 1) (by decide +kernel) (by decide +kernel))
                have e438 : (2 + (x8_363 &&& 1)).toInt = (2 + (x8_363 &&& 1).toInt) := (t_add cqb_2_2_2 (show B 0 1 (x8_363 &&& 1) from B_and (k := 1) (by decide +kernel) (by decide +kernel)) (by decide +kernel) (by decide +kernel)).trans (by rw [cqn_2])
                have q439 : (2) ≤ (2 + (x8_363 &&& 1)).toInt ∧ (2 + (x8_363 &&& 1)).toInt ≤ (3) := (show B 2 3 (2 + (x8_363 &&& 1)) from B_w (B_add cqb_2_2_2 (show B 0 1 (x8_363 &&& 1) from B_and (k := 1) (by decide +kernel) (by decide +kernel)) (by decide +kernel) (by decide +kernel)) (by decide +kernel) (by decide +kernel))
                have r440 : (S247_381.1 35).toInt = 0 → csum (S247_381.2.1 40) (16 * (2 + (x8_363 &&& 1)).toInt).toNat 16 ≤ 256 := fun h => (show cA S247_381 from (cA_tr (S := S) (T := S247_381) pre4 ((((((g383.2 40 rfl).trans (g370.2 40 rfl)).trans (g300.2 40 rfl)).trans (g268.2 40 rfl)).trans (g250.2 40 rfl)).trans (g9.2 40 rfl)) ((((((g383.2 42 rfl).trans (g370.2 42 rfl)).trans (g300.2 42 rfl)).trans (g268.2 42 rfl)).trans (g250.2 42 rfl)).trans (g9.2 42 rfl)) (by show (S247_381.1 35).toInt = 0 → ((S.1 35).toInt = 0); first | with_reducible assumption | exact (fun _ => by with_reducible assumption) | omega))) h (2 + (x8_363 &&& 1)) (B_w (B_add cqb_2_2_2 (show B 0 1 (x8_363 &&& 1) from B_and (k := 1) (by decide +kernel) (by decide +kernel)) (by decide +kernel) (by decide +kernel)) (by decide +kernel) (by decide +kernel)) (B_nz (B_eq ((((((congrFun (g383.2 42 rfl) (2 + (x8_363 &&& 1)).toNatClampNeg).trans (congrFun (g370.2 42 rfl) (2 + (x8_363 &&& 1)).toNatClampNeg)).trans (congrFun (g300.2 42 rfl) (2 + (x8_363 &&& 1)).toNatClampNeg)).trans (congrFun (g268.2 42 rfl) (2 + (x8_363 &&& 1)).toNatClampNeg)).trans (congrFun (g250.2 42 rfl) (2 + (x8_363 &&& 1)).toNatClampNeg)).trans (congrFun (g9.2 42 rfl) (2 + (x8_363 &&& 1)).toNatClampNeg)) b433) (by decide +kernel))
                have e441 : (S247_381.1 34).toInt = (T365.1 34).toInt := (congrArg Int32.toInt (g383.1 34 rfl)).trans rfl
                have e442 : (S247_381.2.1 14 (2 : Int32).toNatClampNeg).toInt = (S.2.1 14 (2 : Int32).toNatClampNeg).toInt := (congrArg Int32.toInt ((((((congrFun (g383.2 14 rfl) (2 : Int32).toNatClampNeg).trans (congrFun (g370.2 14 rfl) (2 : Int32).toNatClampNeg)).trans (congrFun (g300.2 14 rfl) (2 : Int32).toNatClampNeg)).trans (congrFun (g268.2 14 rfl) (2 : Int32).toNatClampNeg)).trans (congrFun (g250.2 14 rfl) (2 : Int32).toNatClampNeg)).trans (congrFun (g9.2 14 rfl) (2 : Int32).toNatClampNeg))).trans rfl
                have e443 : csum (S247_381.2.1 40) (16 * (x8_363 >>> (4 &&& 31 : Int32) : Int32).toInt).toNat 16 = csum (S.2.1 40) (16 * (x8_363 >>> (4 &&& 31 : Int32) : Int32).toInt).toNat 16 := congrArg (fun g => csum g (16 * (x8_363 >>> (4 &&& 31 : Int32) : Int32).toInt).toNat 16) ((((((g383.2 40 rfl).trans (g370.2 40 rfl)).trans (g300.2 40 rfl)).trans (g268.2 40 rfl)).trans (g250.2 40 rfl)).trans (g9.2 40 rfl))
                have e444 : csum (S247_381.2.1 40) (16 * (2 + (x8_363 &&& 1)).toInt).toNat 16 = csum (S.2.1 40) (16 * (2 + (x8_363 &&& 1)).toInt).toNat 16 := congrArg (fun g => csum g (16 * (2 + (x8_363 &&& 1)).toInt).toNat 16) ((((((g383.2 40 rfl).trans (g370.2 40 rfl)).trans (g300.2 40 rfl)).trans (g268.2 40 rfl)).trans (g250.2 40 rfl)).trans (g9.2 40 rfl))
                exact hj307 b366 b367 hI382 g434 (by show (T263.1 34).toInt ≤ (S247_381.1 34).toInt; first | with_reducible assumption | omega) (by show ((S247_381.1 35).toInt = 0) → ((T263.1 35).toInt = 0); first | with_reducible assumption | exact (fun _ => by with_reducible assumption) | omega) (by show ((S247_381.1 35).toInt = 0) → ((0 ≤ x7_362.toInt) ∧ (x7_362.toInt < (S247_381.2.1 14 (2 : Int32).toNatClampNeg).toInt)); first | with_reducible assumption | exact (fun _ => by with_reducible assumption) | omega) (by show ((S247_381.1 35).toInt = 0) → ((x8_363.toInt = 0) ∨ ((x8_363.toInt = 1) ∨ ((x8_363.toInt = 16) ∨ (x8_363.toInt = 17)))); first | with_reducible assumption | exact (fun _ => by with_reducible assumption) | omega) (by show ((S247_381.1 35).toInt = 0) → (((csum (S247_381.2.1 40) (16 * (x8_363 >>> (4 &&& 31 : Int32) : Int32).toInt).toNat 16) ≤ 256) ∧ ((csum (S247_381.2.1 40) (16 * (2 + (x8_363 &&& 1)).toInt).toNat 16) ≤ 256)); first | with_reducible assumption | exact (fun _ => by with_reducible assumption) | omega)
              · have b445 : B 0 0 (S.2.1 42 (2 + (x8_363 &&& 1)).toNatClampNeg) := B_w (B_eq (Eq.symm ((((((congrFun (g383.2 42 rfl) (2 + (x8_363 &&& 1)).toNatClampNeg).trans (congrFun (g370.2 42 rfl) (2 + (x8_363 &&& 1)).toNatClampNeg)).trans (congrFun (g300.2 42 rfl) (2 + (x8_363 &&& 1)).toNatClampNeg)).trans (congrFun (g268.2 42 rfl) (2 + (x8_363 &&& 1)).toNatClampNeg)).trans (congrFun (g250.2 42 rfl) (2 + (x8_363 &&& 1)).toNatClampNeg)).trans (congrFun (g9.2 42 rfl) (2 + (x8_363 &&& 1)).toNatClampNeg))) (B_eq hc cqb_0_0_0)) (by decide +kernel) (by decide +kernel)
                have q446 : (0) ≤ (S.2.1 42 (2 + (x8_363 &&& 1)).toNatClampNeg).toInt ∧ (S.2.1 42 (2 + (x8_363 &&& 1)).toNatClampNeg).toInt ≤ (0) := (show B 0 0 (S.2.1 42 (2 + (x8_363 &&& 1)).toNatClampNeg) from B_w b445 (by decide +kernel) (by decide +kernel))
                have e447 : (S247_381.2.1 42 (2 + (x8_363 &&& 1)).toNatClampNeg).toInt = (S.2.1 42 (2 + (x8_363 &&& 1)).toNatClampNeg).toInt := (congrArg Int32.toInt ((((((congrFun (g383.2 42 rfl) (2 + (x8_363 &&& 1)).toNatClampNeg).trans (congrFun (g370.2 42 rfl) (2 + (x8_363 &&& 1)).toNatClampNeg)).trans (congrFun (g300.2 42 rfl) (2 + (x8_363 &&& 1)).toNatClampNeg)).trans (congrFun (g268.2 42 rfl) (2 + (x8_363 &&& 1)).toNatClampNeg)).trans (congrFun (g250.2 42 rfl) (2 + (x8_363 &&& 1)).toNatClampNeg)).trans (congrFun (g9.2 42 rfl) (2 + (x8_363 &&& 1)).toNatClampNeg))).trans rfl
                have i448 : (S247_381.2.1 42 (2 + (x8_363 &&& 1)).toNatClampNeg).toInt = (0 : Int32).toInt := congrArg Int32.toInt hc
                have n449 : (0 : Int32).toInt = 0 := cqn_0
                unfold b_readScanHead_283
                refine h_fail (B_w cqb_6_6_6 (by decide +kernel) (by decide +kernel)) (B_w (B_sub (B_eq (g383.1 34 rfl) (show B 0 32768 (T365.1 34) from bf_34 hI369)) cqb_1_1_1 (by decide +kernel) (by decide +kernel)) (by decide +kernel) (by decide +kernel)) hI382 (fun {v292_450} {S292_451} b452 hI453 g454 r455 => ?_)
                have r456 : 1 ≤ (S292_451.1 35).toInt := r455
                clear r455
                have q457 : (0) ≤ (S292_451.1 35).toInt ∧ (S292_451.1 35).toInt ≤ (8) := (show B 0 8 (S292_451.1 35) from bf_35 hI453)
                have g460 := ag_tr (ag_refl (fs := [10, 34, 35]) (rs := []) (S := S93_297)) g370 (by decide +kernel) (by decide +kernel)
                have g459 := ag_tr g460 g383 (by decide +kernel) (by decide +kernel)
                have g458 := ag_tr g459 g454 (by decide +kernel) (by decide +kernel)
                have r461 : (S292_451.1 35).toInt = 0 → csum (S292_451.2.1 40) (16 * ((x8_363 >>> (4 &&& 31 : Int32) : Int32)).toInt).toNat 16 ≤ 256 := fun h => (show cA S292_451 from (cA_tr (S := S) (T := S292_451) pre4 (((((((g454.2 40 rfl).trans (g383.2 40 rfl)).trans (g370.2 40 rfl)).trans (g300.2 40 rfl)).trans (g268.2 40 rfl)).trans (g250.2 40 rfl)).trans (g9.2 40 rfl)) (((((((g454.2 42 rfl).trans (g383.2 42 rfl)).trans (g370.2 42 rfl)).trans (g300.2 42 rfl)).trans (g268.2 42 rfl)).trans (g250.2 42 rfl)).trans (g9.2 42 rfl)) (by show (S292_451.1 35).toInt = 0 → ((S.1 35).toInt = 0); first | with_reducible assumption | exact (fun _ => by with_reducible assumption) | omega))) h ((x8_363 >>> (4 &&& 31 : Int32) : Int32)) b408 (B_nz (B_eq (((((((congrFun (g454.2 42 rfl) (x8_363 >>> (4 &&& 31 : Int32) : Int32).toNatClampNeg).trans (congrFun (g383.2 42 rfl) (x8_363 >>> (4 &&& 31 : Int32) : Int32).toNatClampNeg)).trans (congrFun (g370.2 42 rfl) (x8_363 >>> (4 &&& 31 : Int32) : Int32).toNatClampNeg)).trans (congrFun (g300.2 42 rfl) (x8_363 >>> (4 &&& 31 : Int32) : Int32).toNatClampNeg)).trans (congrFun (g268.2 42 rfl) (x8_363 >>> (4 &&& 31 : Int32) : Int32).toNatClampNeg)).trans (congrFun (g250.2 42 rfl) (x8_363 >>> (4 &&& 31 : Int32) : Int32).toNatClampNeg)).trans (congrFun (g9.2 42 rfl) (x8_363 >>> (4 &&& 31 : Int32) : Int32).toNatClampNeg)) b432) (by decide +kernel))
                have e462 : (S292_451.1 34).toInt = (T365.1 34).toInt := (congrArg Int32.toInt ((g454.1 34 rfl).trans (g383.1 34 rfl))).trans rfl
                have e463 : (S292_451.2.1 14 (2 : Int32).toNatClampNeg).toInt = (S.2.1 14 (2 : Int32).toNatClampNeg).toInt := (congrArg Int32.toInt (((((((congrFun (g454.2 14 rfl) (2 : Int32).toNatClampNeg).trans (congrFun (g383.2 14 rfl) (2 : Int32).toNatClampNeg)).trans (congrFun (g370.2 14 rfl) (2 : Int32).toNatClampNeg)).trans (congrFun (g300.2 14 rfl) (2 : Int32).toNatClampNeg)).trans (congrFun (g268.2 14 rfl) (2 : Int32).toNatClampNeg)).trans (congrFun (g250.2 14 rfl) (2 : Int32).toNatClampNeg)).trans (congrFun (g9.2 14 rfl) (2 : Int32).toNatClampNeg))).trans rfl
                have e464 : csum (S292_451.2.1 40) (16 * (x8_363 >>> (4 &&& 31 : Int32) : Int32).toInt).toNat 16 = csum (S.2.1 40) (16 * (x8_363 >>> (4 &&& 31 : Int32) : Int32).toInt).toNat 16 := congrArg (fun g => csum g (16 * (x8_363 >>> (4 &&& 31 : Int32) : Int32).toInt).toNat 16) (((((((g454.2 40 rfl).trans (g383.2 40 rfl)).trans (g370.2 40 rfl)).trans (g300.2 40 rfl)).trans (g268.2 40 rfl)).trans (g250.2 40 rfl)).trans (g9.2 40 rfl))
                have e465 : csum (S292_451.2.1 40) (16 * (2 + (x8_363 &&& 1)).toInt).toNat 16 = csum (S.2.1 40) (16 * (2 + (x8_363 &&& 1)).toInt).toNat 16 := congrArg (fun g => csum g (16 * (2 + (x8_363 &&& 1)).toInt).toNat 16) (((((((g454.2 40 rfl).trans (g383.2 40 rfl)).trans (g370.2 40 rfl)).trans (g300.2 40 rfl)).trans (g268.2 40 rfl)).trans (g250.2 40 rfl)).trans (g9.2 40 rfl))
                have q466 : (0) ≤ (x8_363 &&& 1).toInt ∧ (x8_363 &&& 1).toInt ≤ (1) := (show B 0 1 (x8_363 &&& 1) from B_and (k := 1) (by decide +kernel) (by decide +kernel))
                have e467 : (2 + (x8_363 &&& 1)).toInt = (2 + (x8_363 &&& 1).toInt) := (t_add cqb_2_2_2 (show B 0 1 (x8_363 &&& 1) from B_and (k := 1) (by decide +kernel) (by decide +kernel)) (by decide +kernel) (by decide +kernel)).trans (by rw [cqn_2])
                have q468 : (2) ≤ (2 + (x8_363 &&& 1)).toInt ∧ (2 + (x8_363 &&& 1)).toInt ≤ (3) := (show B 2 3 (2 + (x8_363 &&& 1)) from B_w (B_add cqb_2_2_2 (show B 0 1 (x8_363 &&& 1) from B_and (k := 1) (by decide +kernel) (by decide +kernel)) (by decide +kernel) (by decide +kernel)) (by decide +kernel) (by decide +kernel))
                exact hj307 b366 b367 hI453 g458 (by show (T263.1 34).toInt ≤ (S292_451.1 34).toInt; first | with_reducible assumption | omega) (by show ((S292_451.1 35).toInt = 0) → ((T263.1 35).toInt = 0); first | with_reducible assumption | exact (fun _ => by with_reducible assumption) | omega) (by show ((S292_451.1 35).toInt = 0) → ((0 ≤ x7_362.toInt) ∧ (x7_362.toInt < (S292_451.2.1 14 (2 : Int32).toNatClampNeg).toInt)); first | with_reducible assumption | exact (fun _ => by with_reducible assumption) | omega) (by show ((S292_451.1 35).toInt = 0) → ((x8_363.toInt = 0) ∨ ((x8_363.toInt = 1) ∨ ((x8_363.toInt = 16) ∨ (x8_363.toInt = 17)))); first | with_reducible assumption | exact (fun _ => by with_reducible assumption) | omega) (by show ((S292_451.1 35).toInt = 0) → (((csum (S292_451.2.1 40) (16 * (x8_363 >>> (4 &&& 31 : Int32) : Int32).toInt).toNat 16) ≤ 256) ∧ ((csum (S292_451.2.1 40) (16 * (2 + (x8_363 &&& 1)).toInt).toNat 16) ≤ 256)); first | with_reducible assumption | exact (fun _ => by with_reducible assumption) | omega)
        have hj469 : ∀ {x7_470 : Int32} {s0_471 : Int32} {T472 : ms}, B (-1) 2 x7_470 → B 0 255 s0_471 → IM T472 → ag [10, 34, 35] [] S93_297 T472 → ((T263.1 34).toInt ≤ (T472.1 34).toInt) → (((T472.1 35).toInt = 0) → ((T263.1 35).toInt = 0)) → (((T472.1 35).toInt = 0) → ((0 ≤ x7_470.toInt) ∧ (x7_470.toInt < (T472.2.1 14 (2 : Int32).toNatClampNeg).toInt))) → b_readScanHead_208 v1_5 ((S1_6.1 34) - 1) x3_260 x4_261 x5_262 x7_470 s0_471 T472 R79 K := by
          intro x7_470 s0_471 T472 b473 b474 hI475 g476 r477 r478 r479
          have q480 : (0) ≤ (T472.1 34).toInt ∧ (T472.1 34).toInt ≤ (32768) := (show B 0 32768 (T472.1 34) from bf_34 hI475)
          have q481 : (0) ≤ (T472.1 35).toInt ∧ (T472.1 35).toInt ≤ (8) := (show B 0 8 (T472.1 35) from bf_35 hI475)
          have q482 : (-1) ≤ (x7_470).toInt ∧ (x7_470).toInt ≤ (2) := (show B (-1) 2 (x7_470) from B_w b473 (by decide +kernel) (by decide +kernel))
          have e483 : (T472.2.1 14 (2 : Int32).toNatClampNeg).toInt = (S.2.1 14 (2 : Int32).toNatClampNeg).toInt := (congrArg Int32.toInt (((((congrFun (g476.2 14 rfl) (2 : Int32).toNatClampNeg).trans (congrFun (g300.2 14 rfl) (2 : Int32).toNatClampNeg)).trans (congrFun (g268.2 14 rfl) (2 : Int32).toNatClampNeg)).trans (congrFun (g250.2 14 rfl) (2 : Int32).toNatClampNeg)).trans (congrFun (g9.2 14 rfl) (2 : Int32).toNatClampNeg))).trans rfl
          unfold b_readScanHead_208
          refine ⟨fun hc => ?_, fun hc => ?_⟩
          · have b484 : B 0 0 (s0_471) := B_w (B_eq hc cqb_0_0_0) (by decide +kernel) (by decide +kernel)
            have q485 : (0) ≤ (s0_471).toInt ∧ (s0_471).toInt ≤ (0) := (show B 0 0 (s0_471) from B_w b484 (by decide +kernel) (by decide +kernel))
            have i486 : (s0_471).toInt = (0 : Int32).toInt := congrArg Int32.toInt hc
            have n487 : (0 : Int32).toInt = 0 := cqn_0
            unfold b_readScanHead_236
            have g488 := ag_tr (ag_refl (fs := [10, 34, 35]) (rs := []) (S := S93_297)) g476 (by decide +kernel) (by decide +kernel)
            exact hj361 b473 (B_w b484 (by decide +kernel) (by decide +kernel)) (B_w cqb_1_1_1 (by decide +kernel) (by decide +kernel)) hI475 g488 (by show (T263.1 34).toInt ≤ (T472.1 34).toInt; first | with_reducible assumption | omega) (by show ((T472.1 35).toInt = 0) → ((T263.1 35).toInt = 0); first | with_reducible assumption | exact (fun _ => by with_reducible assumption) | omega) (by show ((T472.1 35).toInt = 0) → ((0 ≤ x7_470.toInt) ∧ (x7_470.toInt < (T472.2.1 14 (2 : Int32).toNatClampNeg).toInt)); first | with_reducible assumption | exact (fun _ => by with_reducible assumption) | omega) (by show (1 = 1) → ((s0_471.toInt = 0) ∨ ((s0_471.toInt = 1) ∨ ((s0_471.toInt = 16) ∨ (s0_471.toInt = 17)))); first | with_reducible assumption | exact (fun _ => by with_reducible assumption) | omega)
          · have b489 : B 1 255 (s0_471) := B_w (B_n0 b474 hc) (by decide +kernel) (by decide +kernel)
            refine ⟨fun hc => ?_, fun hc => ?_⟩
            · have b490 : B 1 1 (s0_471) := B_w (B_eq hc cqb_1_1_1) (by decide +kernel) (by decide +kernel)
              have q491 : (1) ≤ (s0_471).toInt ∧ (s0_471).toInt ≤ (1) := (show B 1 1 (s0_471) from B_w b490 (by decide +kernel) (by decide +kernel))
              have i492 : (s0_471).toInt = (1 : Int32).toInt := congrArg Int32.toInt hc
              have n493 : (1 : Int32).toInt = 1 := cqn_1
              unfold b_readScanHead_236
              have g494 := ag_tr (ag_refl (fs := [10, 34, 35]) (rs := []) (S := S93_297)) g476 (by decide +kernel) (by decide +kernel)
              exact hj361 b473 (B_w b490 (by decide +kernel) (by decide +kernel)) (B_w cqb_1_1_1 (by decide +kernel) (by decide +kernel)) hI475 g494 (by show (T263.1 34).toInt ≤ (T472.1 34).toInt; first | with_reducible assumption | omega) (by show ((T472.1 35).toInt = 0) → ((T263.1 35).toInt = 0); first | with_reducible assumption | exact (fun _ => by with_reducible assumption) | omega) (by show ((T472.1 35).toInt = 0) → ((0 ≤ x7_470.toInt) ∧ (x7_470.toInt < (T472.2.1 14 (2 : Int32).toNatClampNeg).toInt)); first | with_reducible assumption | exact (fun _ => by with_reducible assumption) | omega) (by show (1 = 1) → ((s0_471.toInt = 0) ∨ ((s0_471.toInt = 1) ∨ ((s0_471.toInt = 16) ∨ (s0_471.toInt = 17)))); first | with_reducible assumption | exact (fun _ => by with_reducible assumption) | omega)
            · have q495 : (1) ≤ (s0_471).toInt ∧ (s0_471).toInt ≤ (255) := (show B 1 255 (s0_471) from B_w b489 (by decide +kernel) (by decide +kernel))
              have i496 : (s0_471).toInt ≠ (1 : Int32).toInt := i_ne hc
              have n497 : (1 : Int32).toInt = 1 := cqn_1
              refine ⟨fun hc => ?_, fun hc => ?_⟩
              · have b498 : B 16 16 (s0_471) := B_w (B_eq hc cqb_16_16_16) (by decide +kernel) (by decide +kernel)
                have q499 : (16) ≤ (s0_471).toInt ∧ (s0_471).toInt ≤ (16) := (show B 16 16 (s0_471) from B_w b498 (by decide +kernel) (by decide +kernel))
                have i500 : (s0_471).toInt = (16 : Int32).toInt := congrArg Int32.toInt hc
                have n501 : (16 : Int32).toInt = 16 := cqn_16
                unfold b_readScanHead_236
                have g502 := ag_tr (ag_refl (fs := [10, 34, 35]) (rs := []) (S := S93_297)) g476 (by decide +kernel) (by decide +kernel)
                exact hj361 b473 (B_w b498 (by decide +kernel) (by decide +kernel)) (B_w cqb_1_1_1 (by decide +kernel) (by decide +kernel)) hI475 g502 (by show (T263.1 34).toInt ≤ (T472.1 34).toInt; first | with_reducible assumption | omega) (by show ((T472.1 35).toInt = 0) → ((T263.1 35).toInt = 0); first | with_reducible assumption | exact (fun _ => by with_reducible assumption) | omega) (by show ((T472.1 35).toInt = 0) → ((0 ≤ x7_470.toInt) ∧ (x7_470.toInt < (T472.2.1 14 (2 : Int32).toNatClampNeg).toInt)); first | with_reducible assumption | exact (fun _ => by with_reducible assumption) | omega) (by show (1 = 1) → ((s0_471.toInt = 0) ∨ ((s0_471.toInt = 1) ∨ ((s0_471.toInt = 16) ∨ (s0_471.toInt = 17)))); first | with_reducible assumption | exact (fun _ => by with_reducible assumption) | omega)
              · have i503 : (s0_471).toInt ≠ (16 : Int32).toInt := i_ne hc
                have n504 : (16 : Int32).toInt = 16 := cqn_16
                refine ⟨fun hc => ?_, fun hc => ?_⟩
                · have i505 : (s0_471).toInt ≠ (17 : Int32).toInt := i_ne hc
                  have n506 : (17 : Int32).toInt = 17 := cqn_17
                  have g507 := ag_tr (ag_refl (fs := [10, 34, 35]) (rs := []) (S := S93_297)) g476 (by decide +kernel) (by decide +kernel)
                  exact hj361 b473 (B_w b489 (by decide +kernel) (by decide +kernel)) (B_w cqb_0_0_0 (by decide +kernel) (by decide +kernel)) hI475 g507 (by show (T263.1 34).toInt ≤ (T472.1 34).toInt; first | with_reducible assumption | omega) (by show ((T472.1 35).toInt = 0) → ((T263.1 35).toInt = 0); first | with_reducible assumption | exact (fun _ => by with_reducible assumption) | omega) (by show ((T472.1 35).toInt = 0) → ((0 ≤ x7_470.toInt) ∧ (x7_470.toInt < (T472.2.1 14 (2 : Int32).toNatClampNeg).toInt)); first | with_reducible assumption | exact (fun _ => by with_reducible assumption) | omega) (by show (0 = 1) → ((s0_471.toInt = 0) ∨ ((s0_471.toInt = 1) ∨ ((s0_471.toInt = 16) ∨ (s0_471.toInt = 17)))); first | with_reducible assumption | exact (fun _ => by with_reducible assumption) | omega)
                · have b508 : B 17 17 (s0_471) := B_w (B_eq hc cqb_17_17_17) (by decide +kernel) (by decide +kernel)
                  have q509 : (17) ≤ (s0_471).toInt ∧ (s0_471).toInt ≤ (17) := (show B 17 17 (s0_471) from B_w b508 (by decide +kernel) (by decide +kernel))
                  have i510 : (s0_471).toInt = (17 : Int32).toInt := congrArg Int32.toInt hc
                  have n511 : (17 : Int32).toInt = 17 := cqn_17
                  unfold b_readScanHead_236
                  have g512 := ag_tr (ag_refl (fs := [10, 34, 35]) (rs := []) (S := S93_297)) g476 (by decide +kernel) (by decide +kernel)
                  exact hj361 b473 (B_w b508 (by decide +kernel) (by decide +kernel)) (B_w cqb_1_1_1 (by decide +kernel) (by decide +kernel)) hI475 g512 (by show (T263.1 34).toInt ≤ (T472.1 34).toInt; first | with_reducible assumption | omega) (by show ((T472.1 35).toInt = 0) → ((T263.1 35).toInt = 0); first | with_reducible assumption | exact (fun _ => by with_reducible assumption) | omega) (by show ((T472.1 35).toInt = 0) → ((0 ≤ x7_470.toInt) ∧ (x7_470.toInt < (T472.2.1 14 (2 : Int32).toNatClampNeg).toInt)); first | with_reducible assumption | exact (fun _ => by with_reducible assumption) | omega) (by show (1 = 1) → ((s0_471.toInt = 0) ∨ ((s0_471.toInt = 1) ∨ ((s0_471.toInt = 16) ∨ (s0_471.toInt = 17)))); first | with_reducible assumption | exact (fun _ => by with_reducible assumption) | omega)
        have hj513 : ∀ {x7_514 : Int32} {T515 : ms}, B (-1) 2 x7_514 → IM T515 → ag [10, 35] [] S93_297 T515 → ((T263.1 34).toInt ≤ (T515.1 34).toInt) → (((T515.1 35).toInt = 0) → ((T263.1 35).toInt = 0)) → (((T515.1 35).toInt = 0) → ((0 ≤ x7_514.toInt) ∧ (x7_514.toInt < (T515.2.1 14 (2 : Int32).toNatClampNeg).toInt))) → b_readScanHead_193 v1_5 ((S1_6.1 34) - 1) x3_260 x4_261 x5_262 x7_514 T515 R79 K := by
          intro x7_514 T515 b516 hI517 g518 r519 r520 r521
          have e522 : (T515.1 34).toInt = (S93_297.1 34).toInt := (congrArg Int32.toInt (g518.1 34 rfl)).trans rfl
          have q523 : (0) ≤ (T515.1 35).toInt ∧ (T515.1 35).toInt ≤ (8) := (show B 0 8 (T515.1 35) from bf_35 hI517)
          have q524 : (-1) ≤ (x7_514).toInt ∧ (x7_514).toInt ≤ (2) := (show B (-1) 2 (x7_514) from B_w b516 (by decide +kernel) (by decide +kernel))
          have e525 : (T515.2.1 14 (2 : Int32).toNatClampNeg).toInt = (S.2.1 14 (2 : Int32).toNatClampNeg).toInt := (congrArg Int32.toInt (((((congrFun (g518.2 14 rfl) (2 : Int32).toNatClampNeg).trans (congrFun (g300.2 14 rfl) (2 : Int32).toNatClampNeg)).trans (congrFun (g268.2 14 rfl) (2 : Int32).toNatClampNeg)).trans (congrFun (g250.2 14 rfl) (2 : Int32).toNatClampNeg)).trans (congrFun (g9.2 14 rfl) (2 : Int32).toNatClampNeg))).trans rfl
          unfold b_readScanHead_193
          refine ⟨fun hc => ?_, fun hc => ?_⟩
          · have b526 : B 1 8 (T515.1 35) := B_w (B_n0 (show B 0 8 (T515.1 35) from bf_35 hI517) hc) (by decide +kernel) (by decide +kernel)
            have q527 : (1) ≤ (T515.1 35).toInt ∧ (T515.1 35).toInt ≤ (8) := (show B 1 8 (T515.1 35) from B_w b526 (by decide +kernel) (by decide +kernel))
            have g528 := ag_tr (ag_refl (fs := [10, 34, 35]) (rs := []) (S := S93_297)) g518 (by decide +kernel) (by decide +kernel)
            exact hj469 b516 (B_w cqb_0_0_0 (by decide +kernel) (by decide +kernel)) hI517 g528 (by show (T263.1 34).toInt ≤ (T515.1 34).toInt; first | with_reducible assumption | omega) (by show ((T515.1 35).toInt = 0) → ((T263.1 35).toInt = 0); first | with_reducible assumption | exact (fun _ => by with_reducible assumption) | omega) (by show ((T515.1 35).toInt = 0) → ((0 ≤ x7_514.toInt) ∧ (x7_514.toInt < (T515.2.1 14 (2 : Int32).toNatClampNeg).toInt)); first | with_reducible assumption | exact (fun _ => by with_reducible assumption) | omega)
          · have b529 : B 0 0 (T515.1 35) := B_w (B_eq hc cqb_0_0_0) (by decide +kernel) (by decide +kernel)
            have q530 : (0) ≤ (T515.1 35).toInt ∧ (T515.1 35).toInt ≤ (0) := (show B 0 0 (T515.1 35) from B_w b529 (by decide +kernel) (by decide +kernel))
            have i531 : (T515.1 35).toInt = (0 : Int32).toInt := congrArg Int32.toInt hc
            have n532 : (0 : Int32).toInt = 0 := cqn_0
            refine h_next hI517 (fun {v201_533} {S201_534} b535 hI536 g537 r538 r539 => ?_)
            have r540 : (T515.1 34).toInt ≤ (S201_534.1 34).toInt := r538
            clear r538
            have q541 : (0) ≤ (S201_534.1 34).toInt ∧ (S201_534.1 34).toInt ≤ (32768) := (show B 0 32768 (S201_534.1 34) from bf_34 hI536)
            have r542 : ((S201_534.1 35).toInt = 0) → (((T515.1 35).toInt = 0) ∧ (((T515.1 34).toInt + 1) ≤ (S201_534.1 34).toInt)) := r539
            clear r539
            have q543 : (0) ≤ (S201_534.1 35).toInt ∧ (S201_534.1 35).toInt ≤ (8) := (show B 0 8 (S201_534.1 35) from bf_35 hI536)
            have g545 := ag_tr (ag_refl (fs := [10, 34, 35]) (rs := []) (S := S93_297)) g518 (by decide +kernel) (by decide +kernel)
            have g544 := ag_tr g545 g537 (by decide +kernel) (by decide +kernel)
            have e546 : (S201_534.2.1 14 (2 : Int32).toNatClampNeg).toInt = (S.2.1 14 (2 : Int32).toNatClampNeg).toInt := (congrArg Int32.toInt ((((((congrFun (g537.2 14 rfl) (2 : Int32).toNatClampNeg).trans (congrFun (g518.2 14 rfl) (2 : Int32).toNatClampNeg)).trans (congrFun (g300.2 14 rfl) (2 : Int32).toNatClampNeg)).trans (congrFun (g268.2 14 rfl) (2 : Int32).toNatClampNeg)).trans (congrFun (g250.2 14 rfl) (2 : Int32).toNatClampNeg)).trans (congrFun (g9.2 14 rfl) (2 : Int32).toNatClampNeg))).trans rfl
            exact hj469 b516 b535 hI536 g544 (by show (T263.1 34).toInt ≤ (S201_534.1 34).toInt; first | with_reducible assumption | omega) (by show ((S201_534.1 35).toInt = 0) → ((T263.1 35).toInt = 0); first | with_reducible assumption | exact (fun _ => by with_reducible assumption) | omega) (by show ((S201_534.1 35).toInt = 0) → ((0 ≤ x7_514.toInt) ∧ (x7_514.toInt < (S201_534.2.1 14 (2 : Int32).toNatClampNeg).toInt)); first | with_reducible assumption | exact (fun _ => by with_reducible assumption) | omega)
        have hj547 : ∀ {x7_548 : Int32} {s1_549 : Int32}, B (-1) 2 x7_548 → B 0 1 s1_549 → ((T263.1 34).toInt ≤ (S93_297.1 34).toInt) → (((S93_297.1 35).toInt = 0) → ((T263.1 35).toInt = 0)) → ((x7_548.toInt < (S93_297.2.1 14 (2 : Int32).toNatClampNeg).toInt) ∨ (x7_548.toInt = (-1))) → ((s1_549.toInt = 1) → ((0 ≤ x7_548.toInt) ∧ (x7_548.toInt < (S93_297.2.1 14 (2 : Int32).toNatClampNeg).toInt))) → b_readScanHead_148 v1_5 ((S1_6.1 34) - 1) x3_260 x4_261 x5_262 x7_548 s1_549 S93_297 R79 K := by
          intro x7_548 s1_549 b550 b551 r552 r553 r554 r555
          have q556 : (-1) ≤ (x7_548).toInt ∧ (x7_548).toInt ≤ (2) := (show B (-1) 2 (x7_548) from B_w b550 (by decide +kernel) (by decide +kernel))
          have e557 : (S93_297.2.1 14 (2 : Int32).toNatClampNeg).toInt = (S.2.1 14 (2 : Int32).toNatClampNeg).toInt := (congrArg Int32.toInt ((((congrFun (g300.2 14 rfl) (2 : Int32).toNatClampNeg).trans (congrFun (g268.2 14 rfl) (2 : Int32).toNatClampNeg)).trans (congrFun (g250.2 14 rfl) (2 : Int32).toNatClampNeg)).trans (congrFun (g9.2 14 rfl) (2 : Int32).toNatClampNeg))).trans rfl
          have q558 : (0) ≤ (s1_549).toInt ∧ (s1_549).toInt ≤ (1) := (show B 0 1 (s1_549) from B_w b551 (by decide +kernel) (by decide +kernel))
          unfold b_readScanHead_148
          refine h_must b551 (B_w (B_sub (show B 0 32768 (S93_297.1 34) from bf_34 hI299) cqb_1_1_1 (by decide +kernel) (by decide +kernel)) (by decide +kernel) (by decide +kernel)) hI299 (fun {S154_559} hI560 g561 r562 r563 => ?_)
          have r564 : ((S154_559.1 35).toInt = 0) → ((S93_297.1 35).toInt = 0) := r562
          clear r562
          have q565 : (0) ≤ (S154_559.1 35).toInt ∧ (S154_559.1 35).toInt ≤ (8) := (show B 0 8 (S154_559.1 35) from bf_35 hI560)
          have r566 : (s1_549.toInt = 0) → (1 ≤ (S154_559.1 35).toInt) := r563
          clear r563
          refine ⟨fun hc => ?_, fun hc => ?_⟩
          · have b567 : B 1 8 (S154_559.1 35) := B_w (B_n0 (show B 0 8 (S154_559.1 35) from bf_35 hI560) hc) (by decide +kernel) (by decide +kernel)
            have q568 : (1) ≤ (S154_559.1 35).toInt ∧ (S154_559.1 35).toInt ≤ (8) := (show B 1 8 (S154_559.1 35) from B_w b567 (by decide +kernel) (by decide +kernel))
            have g569 := ag_tr (ag_refl (fs := [10, 35]) (rs := []) (S := S93_297)) g561 (by decide +kernel) (by decide +kernel)
            have e570 : (S154_559.1 34).toInt = (S93_297.1 34).toInt := (congrArg Int32.toInt (g561.1 34 rfl)).trans rfl
            have e571 : (S154_559.2.1 14 (2 : Int32).toNatClampNeg).toInt = (S.2.1 14 (2 : Int32).toNatClampNeg).toInt := (congrArg Int32.toInt (((((congrFun (g561.2 14 rfl) (2 : Int32).toNatClampNeg).trans (congrFun (g300.2 14 rfl) (2 : Int32).toNatClampNeg)).trans (congrFun (g268.2 14 rfl) (2 : Int32).toNatClampNeg)).trans (congrFun (g250.2 14 rfl) (2 : Int32).toNatClampNeg)).trans (congrFun (g9.2 14 rfl) (2 : Int32).toNatClampNeg))).trans rfl
            exact hj513 b550 hI560 g569 (by show (T263.1 34).toInt ≤ (S154_559.1 34).toInt; first | with_reducible assumption | omega) (by show ((S154_559.1 35).toInt = 0) → ((T263.1 35).toInt = 0); first | with_reducible assumption | exact (fun _ => by with_reducible assumption) | omega) (by show ((S154_559.1 35).toInt = 0) → ((0 ≤ x7_548.toInt) ∧ (x7_548.toInt < (S154_559.2.1 14 (2 : Int32).toNatClampNeg).toInt)); first | with_reducible assumption | exact (fun _ => by with_reducible assumption) | omega)
          · have b572 : B 0 0 (S154_559.1 35) := B_w (B_eq hc cqb_0_0_0) (by decide +kernel) (by decide +kernel)
            have q573 : (0) ≤ (S154_559.1 35).toInt ∧ (S154_559.1 35).toInt ≤ (0) := (show B 0 0 (S154_559.1 35) from B_w b572 (by decide +kernel) (by decide +kernel))
            have i574 : (S154_559.1 35).toInt = (0 : Int32).toInt := congrArg Int32.toInt hc
            have n575 : (0 : Int32).toInt = 0 := cqn_0
            refine ⟨vp_om (x := x7_548) (by omega) (by omega), ?_⟩
            have b576 : B 0 2 (x7_548) := ⟨by omega, by omega⟩
            have b577 : B 0 3 (S.2.1 45 x7_548.toNatClampNeg) := qf_at pre2 (x := x7_548) (by omega) (by omega)
            refine ⟨vp_B (B_eq (((((congrFun (g561.2 45 rfl) x7_548.toNatClampNeg).trans (congrFun (g300.2 45 rfl) x7_548.toNatClampNeg)).trans (congrFun (g268.2 45 rfl) x7_548.toNatClampNeg)).trans (congrFun (g250.2 45 rfl) x7_548.toNatClampNeg)).trans (congrFun (g9.2 45 rfl) x7_548.toNatClampNeg)) b577) (by decide +kernel) (by decide +kernel), ?_⟩
            refine ⟨fun hc => ?_, fun hc => ?_⟩
            · have b578 : B 1 1 (S.2.1 39 (S154_559.2.1 45 x7_548.toNatClampNeg).toNatClampNeg) := B_w (B_eq (Eq.symm (((((congrFun (g561.2 39 rfl) (S154_559.2.1 45 x7_548.toNatClampNeg).toNatClampNeg).trans (congrFun (g300.2 39 rfl) (S154_559.2.1 45 x7_548.toNatClampNeg).toNatClampNeg)).trans (congrFun (g268.2 39 rfl) (S154_559.2.1 45 x7_548.toNatClampNeg).toNatClampNeg)).trans (congrFun (g250.2 39 rfl) (S154_559.2.1 45 x7_548.toNatClampNeg).toNatClampNeg)).trans (congrFun (g9.2 39 rfl) (S154_559.2.1 45 x7_548.toNatClampNeg).toNatClampNeg))) (B_n0 (B_eq (((((congrFun (g561.2 39 rfl) (S154_559.2.1 45 x7_548.toNatClampNeg).toNatClampNeg).trans (congrFun (g300.2 39 rfl) (S154_559.2.1 45 x7_548.toNatClampNeg).toNatClampNeg)).trans (congrFun (g268.2 39 rfl) (S154_559.2.1 45 x7_548.toNatClampNeg).toNatClampNeg)).trans (congrFun (g250.2 39 rfl) (S154_559.2.1 45 x7_548.toNatClampNeg).toNatClampNeg)).trans (congrFun (g9.2 39 rfl) (S154_559.2.1 45 x7_548.toNatClampNeg).toNatClampNeg)) (show B 0 1 (S.2.1 39 (S154_559.2.1 45 x7_548.toNatClampNeg).toNatClampNeg) from br_39 hI _)) hc)) (by decide +kernel) (by decide +kernel)
              have g579 := ag_tr (ag_refl (fs := [10, 35]) (rs := []) (S := S93_297)) g561 (by decide +kernel) (by decide +kernel)
              have e580 : (S154_559.1 34).toInt = (S93_297.1 34).toInt := (congrArg Int32.toInt (g561.1 34 rfl)).trans rfl
              have e581 : (S154_559.2.1 14 (2 : Int32).toNatClampNeg).toInt = (S.2.1 14 (2 : Int32).toNatClampNeg).toInt := (congrArg Int32.toInt (((((congrFun (g561.2 14 rfl) (2 : Int32).toNatClampNeg).trans (congrFun (g300.2 14 rfl) (2 : Int32).toNatClampNeg)).trans (congrFun (g268.2 14 rfl) (2 : Int32).toNatClampNeg)).trans (congrFun (g250.2 14 rfl) (2 : Int32).toNatClampNeg)).trans (congrFun (g9.2 14 rfl) (2 : Int32).toNatClampNeg))).trans rfl
              exact hj513 (B_w b576 (by decide +kernel) (by decide +kernel)) hI560 g579 (by show (T263.1 34).toInt ≤ (S154_559.1 34).toInt; first | with_reducible assumption | omega) (by show ((S154_559.1 35).toInt = 0) → ((T263.1 35).toInt = 0); first | with_reducible assumption | exact (fun _ => by with_reducible assumption) | omega) (by show ((S154_559.1 35).toInt = 0) → ((0 ≤ x7_548.toInt) ∧ (x7_548.toInt < (S154_559.2.1 14 (2 : Int32).toNatClampNeg).toInt)); first | with_reducible assumption | exact (fun _ => by with_reducible assumption) | omega)
            · have b582 : B 0 0 (S.2.1 39 (S154_559.2.1 45 x7_548.toNatClampNeg).toNatClampNeg) := B_w (B_eq (Eq.symm (((((congrFun (g561.2 39 rfl) (S154_559.2.1 45 x7_548.toNatClampNeg).toNatClampNeg).trans (congrFun (g300.2 39 rfl) (S154_559.2.1 45 x7_548.toNatClampNeg).toNatClampNeg)).trans (congrFun (g268.2 39 rfl) (S154_559.2.1 45 x7_548.toNatClampNeg).toNatClampNeg)).trans (congrFun (g250.2 39 rfl) (S154_559.2.1 45 x7_548.toNatClampNeg).toNatClampNeg)).trans (congrFun (g9.2 39 rfl) (S154_559.2.1 45 x7_548.toNatClampNeg).toNatClampNeg))) (B_eq hc cqb_0_0_0)) (by decide +kernel) (by decide +kernel)
              have q583 : (0) ≤ (S.2.1 39 (S154_559.2.1 45 x7_548.toNatClampNeg).toNatClampNeg).toInt ∧ (S.2.1 39 (S154_559.2.1 45 x7_548.toNatClampNeg).toNatClampNeg).toInt ≤ (0) := (show B 0 0 (S.2.1 39 (S154_559.2.1 45 x7_548.toNatClampNeg).toNatClampNeg) from B_w b582 (by decide +kernel) (by decide +kernel))
              have e584 : (S154_559.2.1 39 (S154_559.2.1 45 x7_548.toNatClampNeg).toNatClampNeg).toInt = (S.2.1 39 (S154_559.2.1 45 x7_548.toNatClampNeg).toNatClampNeg).toInt := (congrArg Int32.toInt (((((congrFun (g561.2 39 rfl) (S154_559.2.1 45 x7_548.toNatClampNeg).toNatClampNeg).trans (congrFun (g300.2 39 rfl) (S154_559.2.1 45 x7_548.toNatClampNeg).toNatClampNeg)).trans (congrFun (g268.2 39 rfl) (S154_559.2.1 45 x7_548.toNatClampNeg).toNatClampNeg)).trans (congrFun (g250.2 39 rfl) (S154_559.2.1 45 x7_548.toNatClampNeg).toNatClampNeg)).trans (congrFun (g9.2 39 rfl) (S154_559.2.1 45 x7_548.toNatClampNeg).toNatClampNeg))).trans rfl
              have i585 : (S154_559.2.1 39 (S154_559.2.1 45 x7_548.toNatClampNeg).toNatClampNeg).toInt = (0 : Int32).toInt := congrArg Int32.toInt hc
              have n586 : (0 : Int32).toInt = 0 := cqn_0
              refine h_fail (B_w cqb_6_6_6 (by decide +kernel) (by decide +kernel)) (B_w (B_sub (B_eq (g561.1 34 rfl) (show B 0 32768 (S93_297.1 34) from bf_34 hI299)) cqb_1_1_1 (by decide +kernel) (by decide +kernel)) (by decide +kernel) (by decide +kernel)) hI560 (fun {v188_587} {S188_588} b589 hI590 g591 r592 => ?_)
              have r593 : 1 ≤ (S188_588.1 35).toInt := r592
              clear r592
              have q594 : (0) ≤ (S188_588.1 35).toInt ∧ (S188_588.1 35).toInt ≤ (8) := (show B 0 8 (S188_588.1 35) from bf_35 hI590)
              have g596 := ag_tr (ag_refl (fs := [10, 35]) (rs := []) (S := S93_297)) g561 (by decide +kernel) (by decide +kernel)
              have g595 := ag_tr g596 g591 (by decide +kernel) (by decide +kernel)
              have e597 : (S188_588.1 34).toInt = (S93_297.1 34).toInt := (congrArg Int32.toInt ((g591.1 34 rfl).trans (g561.1 34 rfl))).trans rfl
              have e598 : (S188_588.2.1 14 (2 : Int32).toNatClampNeg).toInt = (S.2.1 14 (2 : Int32).toNatClampNeg).toInt := (congrArg Int32.toInt ((((((congrFun (g591.2 14 rfl) (2 : Int32).toNatClampNeg).trans (congrFun (g561.2 14 rfl) (2 : Int32).toNatClampNeg)).trans (congrFun (g300.2 14 rfl) (2 : Int32).toNatClampNeg)).trans (congrFun (g268.2 14 rfl) (2 : Int32).toNatClampNeg)).trans (congrFun (g250.2 14 rfl) (2 : Int32).toNatClampNeg)).trans (congrFun (g9.2 14 rfl) (2 : Int32).toNatClampNeg))).trans rfl
              exact hj513 (B_w b576 (by decide +kernel) (by decide +kernel)) hI590 g595 (by show (T263.1 34).toInt ≤ (S188_588.1 34).toInt; first | with_reducible assumption | omega) (by show ((S188_588.1 35).toInt = 0) → ((T263.1 35).toInt = 0); first | with_reducible assumption | exact (fun _ => by with_reducible assumption) | omega) (by show ((S188_588.1 35).toInt = 0) → ((0 ≤ x7_548.toInt) ∧ (x7_548.toInt < (S188_588.2.1 14 (2 : Int32).toNatClampNeg).toInt)); first | with_reducible assumption | exact (fun _ => by with_reducible assumption) | omega)
        have hj599 : ∀ {s0_600 : Int32}, B (-1) 2 s0_600 → ((T263.1 34).toInt ≤ (S93_297.1 34).toInt) → (((S93_297.1 35).toInt = 0) → ((T263.1 35).toInt = 0)) → ((s0_600.toInt < (S93_297.2.1 14 (2 : Int32).toNatClampNeg).toInt) ∨ (s0_600.toInt = (-1))) → b_readScanHead_115 v1_5 ((S1_6.1 34) - 1) x3_260 x4_261 x5_262 s0_600 S93_297 R79 K := by
          intro s0_600 b601 r602 r603 r604
          have q605 : (-1) ≤ (s0_600).toInt ∧ (s0_600).toInt ≤ (2) := (show B (-1) 2 (s0_600) from B_w b601 (by decide +kernel) (by decide +kernel))
          have e606 : (S93_297.2.1 14 (2 : Int32).toNatClampNeg).toInt = (S.2.1 14 (2 : Int32).toNatClampNeg).toInt := (congrArg Int32.toInt ((((congrFun (g300.2 14 rfl) (2 : Int32).toNatClampNeg).trans (congrFun (g268.2 14 rfl) (2 : Int32).toNatClampNeg)).trans (congrFun (g250.2 14 rfl) (2 : Int32).toNatClampNeg)).trans (congrFun (g9.2 14 rfl) (2 : Int32).toNatClampNeg))).trans rfl
          unfold b_readScanHead_115
          refine ⟨fun hc => ?_, fun hc => ?_⟩
          · have hq607 := hc
            have q608 : (-1) ≤ (x3_260).toInt ∧ (x3_260).toInt ≤ (2) := (show B (-1) 2 (x3_260) from B_w b264 (by decide +kernel) (by decide +kernel))
            have i609 : (s0_600).toInt ≤ (x3_260).toInt := i_le hq607
            unfold b_readScanHead_147
            exact hj547 b601 (B_w cqb_0_0_0 (by decide +kernel) (by decide +kernel)) (by show (T263.1 34).toInt ≤ (S93_297.1 34).toInt; first | with_reducible assumption | omega) (by show ((S93_297.1 35).toInt = 0) → ((T263.1 35).toInt = 0); first | with_reducible assumption | exact (fun _ => by with_reducible assumption) | omega) (by show (s0_600.toInt < (S93_297.2.1 14 (2 : Int32).toNatClampNeg).toInt) ∨ (s0_600.toInt = (-1)); first | with_reducible assumption | omega) (by show (0 = 1) → ((0 ≤ s0_600.toInt) ∧ (s0_600.toInt < (S93_297.2.1 14 (2 : Int32).toNatClampNeg).toInt)); first | with_reducible assumption | exact (fun _ => by with_reducible assumption) | omega)
          · have hq610 := (nle_lt hc)
            have b611 : B (-1) 1 (x3_260) := B_w (B_ltL b264 b601 hq610) (by decide +kernel) (by decide +kernel)
            have b612 : B 0 2 (s0_600) := B_w (B_ltR b264 b601 hq610) (by decide +kernel) (by decide +kernel)
            have q613 : (0) ≤ (s0_600).toInt ∧ (s0_600).toInt ≤ (2) := (show B 0 2 (s0_600) from B_w b612 (by decide +kernel) (by decide +kernel))
            have q614 : (-1) ≤ (x3_260).toInt ∧ (x3_260).toInt ≤ (1) := (show B (-1) 1 (x3_260) from B_w b611 (by decide +kernel) (by decide +kernel))
            have i615 : (x3_260).toInt < (s0_600).toInt := i_lt hq610
            refine ⟨fun hc => ?_, fun hc => ?_⟩
            · have hq616 := hc
              unfold b_readScanHead_139
              refine ⟨vp_B b612 (by decide +kernel) (by decide +kernel), ?_⟩
              refine ⟨fun hc => ?_, fun hc => ?_⟩
              · have b617 : B 1 1 (S.2.1 47 s0_600.toNatClampNeg) := B_w (B_eq (Eq.symm ((((congrFun (g300.2 47 rfl) s0_600.toNatClampNeg).trans (congrFun (g268.2 47 rfl) s0_600.toNatClampNeg)).trans (congrFun (g250.2 47 rfl) s0_600.toNatClampNeg)).trans (congrFun (g9.2 47 rfl) s0_600.toNatClampNeg))) (B_n0 (B_eq ((((congrFun (g300.2 47 rfl) s0_600.toNatClampNeg).trans (congrFun (g268.2 47 rfl) s0_600.toNatClampNeg)).trans (congrFun (g250.2 47 rfl) s0_600.toNatClampNeg)).trans (congrFun (g9.2 47 rfl) s0_600.toNatClampNeg)) (show B 0 1 (S.2.1 47 s0_600.toNatClampNeg) from br_47 hI _)) hc)) (by decide +kernel) (by decide +kernel)
                unfold b_readScanHead_147
                exact hj547 (B_w b612 (by decide +kernel) (by decide +kernel)) (B_w cqb_0_0_0 (by decide +kernel) (by decide +kernel)) (by show (T263.1 34).toInt ≤ (S93_297.1 34).toInt; first | with_reducible assumption | omega) (by show ((S93_297.1 35).toInt = 0) → ((T263.1 35).toInt = 0); first | with_reducible assumption | exact (fun _ => by with_reducible assumption) | omega) (by show (s0_600.toInt < (S93_297.2.1 14 (2 : Int32).toNatClampNeg).toInt) ∨ (s0_600.toInt = (-1)); first | with_reducible assumption | omega) (by show (0 = 1) → ((0 ≤ s0_600.toInt) ∧ (s0_600.toInt < (S93_297.2.1 14 (2 : Int32).toNatClampNeg).toInt)); first | with_reducible assumption | exact (fun _ => by with_reducible assumption) | omega)
              · have b618 : B 0 0 (S.2.1 47 s0_600.toNatClampNeg) := B_w (B_eq (Eq.symm ((((congrFun (g300.2 47 rfl) s0_600.toNatClampNeg).trans (congrFun (g268.2 47 rfl) s0_600.toNatClampNeg)).trans (congrFun (g250.2 47 rfl) s0_600.toNatClampNeg)).trans (congrFun (g9.2 47 rfl) s0_600.toNatClampNeg))) (B_eq hc cqb_0_0_0)) (by decide +kernel) (by decide +kernel)
                have q619 : (0) ≤ (S.2.1 47 s0_600.toNatClampNeg).toInt ∧ (S.2.1 47 s0_600.toNatClampNeg).toInt ≤ (0) := (show B 0 0 (S.2.1 47 s0_600.toNatClampNeg) from B_w b618 (by decide +kernel) (by decide +kernel))
                have e620 : (S93_297.2.1 47 s0_600.toNatClampNeg).toInt = (S.2.1 47 s0_600.toNatClampNeg).toInt := (congrArg Int32.toInt ((((congrFun (g300.2 47 rfl) s0_600.toNatClampNeg).trans (congrFun (g268.2 47 rfl) s0_600.toNatClampNeg)).trans (congrFun (g250.2 47 rfl) s0_600.toNatClampNeg)).trans (congrFun (g9.2 47 rfl) s0_600.toNatClampNeg))).trans rfl
                have i621 : (S93_297.2.1 47 s0_600.toNatClampNeg).toInt = (0 : Int32).toInt := congrArg Int32.toInt hc
                have n622 : (0 : Int32).toInt = 0 := cqn_0
                exact hj547 (B_w b612 (by decide +kernel) (by decide +kernel)) (B_w cqb_1_1_1 (by decide +kernel) (by decide +kernel)) (by show (T263.1 34).toInt ≤ (S93_297.1 34).toInt; first | with_reducible assumption | omega) (by show ((S93_297.1 35).toInt = 0) → ((T263.1 35).toInt = 0); first | with_reducible assumption | exact (fun _ => by with_reducible assumption) | omega) (by show (s0_600.toInt < (S93_297.2.1 14 (2 : Int32).toNatClampNeg).toInt) ∨ (s0_600.toInt = (-1)); first | with_reducible assumption | omega) (by show (1 = 1) → ((0 ≤ s0_600.toInt) ∧ (s0_600.toInt < (S93_297.2.1 14 (2 : Int32).toNatClampNeg).toInt)); first | with_reducible assumption | exact (fun _ => by with_reducible assumption) | omega)
            · exact (B_dead_lt b612 cqb_0_0_0 (nle_lt hc) (by decide +kernel)).elim
        refine ⟨fun hc => ?_, fun hc => ?_⟩
        · have b623 : B 1 8 (S93_297.1 35) := B_w (B_n0 (show B 0 8 (S93_297.1 35) from bf_35 hI299) hc) (by decide +kernel) (by decide +kernel)
          have q624 : (1) ≤ (S93_297.1 35).toInt ∧ (S93_297.1 35).toInt ≤ (8) := (show B 1 8 (S93_297.1 35) from B_w b623 (by decide +kernel) (by decide +kernel))
          have e625 : (S93_297.2.1 14 (2 : Int32).toNatClampNeg).toInt = (S.2.1 14 (2 : Int32).toNatClampNeg).toInt := (congrArg Int32.toInt ((((congrFun (g300.2 14 rfl) (2 : Int32).toNatClampNeg).trans (congrFun (g268.2 14 rfl) (2 : Int32).toNatClampNeg)).trans (congrFun (g250.2 14 rfl) (2 : Int32).toNatClampNeg)).trans (congrFun (g9.2 14 rfl) (2 : Int32).toNatClampNeg))).trans rfl
          exact hj599 (B_w cqb_m1_m1_m1 (by decide +kernel) (by decide +kernel)) (by show (T263.1 34).toInt ≤ (S93_297.1 34).toInt; first | with_reducible assumption | omega) (by show ((S93_297.1 35).toInt = 0) → ((T263.1 35).toInt = 0); first | with_reducible assumption | exact (fun _ => by with_reducible assumption) | omega) (by show ((-1) < (S93_297.2.1 14 (2 : Int32).toNatClampNeg).toInt) ∨ ((-1) = (-1)); first | with_reducible assumption | omega)
        · have b626 : B 0 0 (S93_297.1 35) := B_w (B_eq hc cqb_0_0_0) (by decide +kernel) (by decide +kernel)
          have q627 : (0) ≤ (S93_297.1 35).toInt ∧ (S93_297.1 35).toInt ≤ (0) := (show B 0 0 (S93_297.1 35) from B_w b626 (by decide +kernel) (by decide +kernel))
          have i628 : (S93_297.1 35).toInt = (0 : Int32).toInt := congrArg Int32.toInt hc
          have n629 : (0 : Int32).toInt = 0 := cqn_0
          refine h_layerNamed b298 hI299 (fun {v108_630} b632 r633 => ?_)
          have r634 : (v108_630.toInt < (S93_297.2.1 14 (2 : Int32).toNatClampNeg).toInt) ∨ (v108_630.toInt = (-1)) := r633
          clear r633
          have q635 : (-1) ≤ (v108_630).toInt ∧ (v108_630).toInt ≤ (2) := (show B (-1) 2 (v108_630) from B_w b632 (by decide +kernel) (by decide +kernel))
          have e636 : (S93_297.2.1 14 (2 : Int32).toNatClampNeg).toInt = (S.2.1 14 (2 : Int32).toNatClampNeg).toInt := (congrArg Int32.toInt ((((congrFun (g300.2 14 rfl) (2 : Int32).toNatClampNeg).trans (congrFun (g268.2 14 rfl) (2 : Int32).toNatClampNeg)).trans (congrFun (g250.2 14 rfl) (2 : Int32).toNatClampNeg)).trans (congrFun (g9.2 14 rfl) (2 : Int32).toNatClampNeg))).trans rfl
          exact hj599 b632 (by show (T263.1 34).toInt ≤ (S93_297.1 34).toInt; first | with_reducible assumption | omega) (by show ((S93_297.1 35).toInt = 0) → ((T263.1 35).toInt = 0); first | with_reducible assumption | exact (fun _ => by with_reducible assumption) | omega) (by show (v108_630.toInt < (S93_297.2.1 14 (2 : Int32).toNatClampNeg).toInt) ∨ (v108_630.toInt = (-1)); first | with_reducible assumption | omega)
  have hj637 : ∀ {s1_638 : Int32}, B 0 1 s1_638 → ((S.1 34).toInt ≤ (S1_6.1 34).toInt) → (((S1_6.1 35).toInt = 0) → ((S.1 35).toInt = 0)) → ((s1_638.toInt = 1) → ((1 ≤ v1_5.toInt) ∧ (v1_5.toInt ≤ (S1_6.2.1 14 (2 : Int32).toNatClampNeg).toInt))) → b_readScanHead_32 v1_5 ((S1_6.1 34) - 1) s1_638 S1_6 K := by
    intro s1_638 b639 r640 r641 r642
    have q643 : (0) ≤ (s1_638).toInt ∧ (s1_638).toInt ≤ (1) := (show B 0 1 (s1_638) from B_w b639 (by decide +kernel) (by decide +kernel))
    have q644 : (0) ≤ (v1_5).toInt ∧ (v1_5).toInt ≤ (255) := (show B 0 255 (v1_5) from B_w b7 (by decide +kernel) (by decide +kernel))
    have e645 : (S1_6.2.1 14 (2 : Int32).toNatClampNeg).toInt = (S.2.1 14 (2 : Int32).toNatClampNeg).toInt := (congrArg Int32.toInt (congrFun (g9.2 14 rfl) (2 : Int32).toNatClampNeg)).trans rfl
    unfold b_readScanHead_32
    refine h_must b639 (B_w (B_sub (show B 0 32768 (S1_6.1 34) from bf_34 hI8) cqb_1_1_1 (by decide +kernel) (by decide +kernel)) (by decide +kernel) (by decide +kernel)) hI8 (fun {S33_646} hI647 g648 r649 r650 => ?_)
    have r651 : ((S33_646.1 35).toInt = 0) → ((S1_6.1 35).toInt = 0) := r649
    clear r649
    have q652 : (0) ≤ (S33_646.1 35).toInt ∧ (S33_646.1 35).toInt ≤ (8) := (show B 0 8 (S33_646.1 35) from bf_35 hI647)
    have r653 : (s1_638.toInt = 0) → (1 ≤ (S33_646.1 35).toInt) := r650
    clear r650
    refine ⟨fun hc => ?_, fun hc => ?_⟩
    · have b654 : B 1 8 (S33_646.1 35) := B_w (B_n0 (show B 0 8 (S33_646.1 35) from bf_35 hI647) hc) (by decide +kernel) (by decide +kernel)
      have q655 : (1) ≤ (S33_646.1 35).toInt ∧ (S33_646.1 35).toInt ≤ (8) := (show B 1 8 (S33_646.1 35) from B_w b654 (by decide +kernel) (by decide +kernel))
      have g656 := ag_tr (ag_refl (fs := [10, 35]) (rs := []) (S := S1_6)) g648 (by decide +kernel) (by decide +kernel)
      have e657 : (S33_646.1 34).toInt = (S1_6.1 34).toInt := (congrArg Int32.toInt (g648.1 34 rfl)).trans rfl
      have e658 : (S33_646.2.1 14 (2 : Int32).toNatClampNeg).toInt = (S.2.1 14 (2 : Int32).toNatClampNeg).toInt := (congrArg Int32.toInt ((congrFun (g648.2 14 rfl) (2 : Int32).toNatClampNeg).trans (congrFun (g9.2 14 rfl) (2 : Int32).toNatClampNeg))).trans rfl
      exact hj247 hI647 g656 (by show (S.1 34).toInt ≤ (S33_646.1 34).toInt; first | with_reducible assumption | omega) (by show ((S33_646.1 35).toInt = 0) → ((S.1 35).toInt = 0); first | with_reducible assumption | exact (fun _ => by with_reducible assumption) | omega) (by show ((S33_646.1 35).toInt = 0) → ((1 ≤ v1_5.toInt) ∧ (v1_5.toInt ≤ (S33_646.2.1 14 (2 : Int32).toNatClampNeg).toInt)); first | with_reducible assumption | exact (fun _ => by with_reducible assumption) | omega)
    · have b659 : B 0 0 (S33_646.1 35) := B_w (B_eq hc cqb_0_0_0) (by decide +kernel) (by decide +kernel)
      have q660 : (0) ≤ (S33_646.1 35).toInt ∧ (S33_646.1 35).toInt ≤ (0) := (show B 0 0 (S33_646.1 35) from B_w b659 (by decide +kernel) (by decide +kernel))
      have i661 : (S33_646.1 35).toInt = (0 : Int32).toInt := congrArg Int32.toInt hc
      have n662 : (0 : Int32).toInt = 0 := cqn_0
      refine ⟨fun hc => ?_, fun hc => ?_⟩
      · have b663 : B 6 516 ((S33_646.1 36) - (S33_646.1 37)) := B_w (B_eq hc (B_add cqb_6_6_6 (B_mul cqb_2_2_2 b7 (by decide +kernel) (by decide +kernel) (by decide +kernel)) (by decide +kernel) (by decide +kernel))) (by decide +kernel) (by decide +kernel)
        have q664 : (0) ≤ (S.1 36).toInt ∧ (S.1 36).toInt ≤ (98304) := (show B 0 98304 (S.1 36) from bf_36 hI)
        have e665 : (S33_646.1 36).toInt = (S.1 36).toInt := (congrArg Int32.toInt ((g648.1 36 rfl).trans (g9.1 36 rfl))).trans rfl
        have q666 : (0) ≤ (S.1 37).toInt ∧ (S.1 37).toInt ≤ (32768) := (show B 0 32768 (S.1 37) from bf_37 hI)
        have e667 : (S33_646.1 37).toInt = (S.1 37).toInt := (congrArg Int32.toInt ((g648.1 37 rfl).trans (g9.1 37 rfl))).trans rfl
        have e668 : ((S33_646.1 36) - (S33_646.1 37)).toInt = ((S.1 36).toInt - (S.1 37).toInt) := (t_sub (B_eq ((g648.1 36 rfl).trans (g9.1 36 rfl)) (show B 0 98304 (S.1 36) from bf_36 hI)) (B_eq ((g648.1 37 rfl).trans (g9.1 37 rfl)) (show B 0 32768 (S.1 37) from bf_37 hI)) (by decide +kernel) (by decide +kernel)).trans (by rw [e665, e667])
        have q669 : (6) ≤ ((S33_646.1 36) - (S33_646.1 37)).toInt ∧ ((S33_646.1 36) - (S33_646.1 37)).toInt ≤ (516) := (show B 6 516 ((S33_646.1 36) - (S33_646.1 37)) from B_w b663 (by decide +kernel) (by decide +kernel))
        have e670 : (2 * v1_5).toInt = (2 * (v1_5).toInt) := (t_mul cqb_2_2_2 b7 (by decide +kernel) (by decide +kernel) (by decide +kernel)).trans (by rw [cqn_2])
        have q671 : (0) ≤ (2 * v1_5).toInt ∧ (2 * v1_5).toInt ≤ (510) := (show B 0 510 (2 * v1_5) from B_w (B_mul cqb_2_2_2 b7 (by decide +kernel) (by decide +kernel) (by decide +kernel)) (by decide +kernel) (by decide +kernel))
        have e672 : (6 + (2 * v1_5)).toInt = (6 + (2 * (v1_5).toInt)) := (t_add cqb_6_6_6 (B_mul cqb_2_2_2 b7 (by decide +kernel) (by decide +kernel) (by decide +kernel)) (by decide +kernel) (by decide +kernel)).trans (by rw [cqn_6, e670])
        have q673 : (6) ≤ (6 + (2 * v1_5)).toInt ∧ (6 + (2 * v1_5)).toInt ≤ (516) := (show B 6 516 (6 + (2 * v1_5)) from B_w (B_add cqb_6_6_6 (B_mul cqb_2_2_2 b7 (by decide +kernel) (by decide +kernel) (by decide +kernel)) (by decide +kernel) (by decide +kernel)) (by decide +kernel) (by decide +kernel))
        have i674 : ((S33_646.1 36) - (S33_646.1 37)).toInt = (6 + (2 * v1_5)).toInt := congrArg Int32.toInt hc
        have g675 := ag_tr (ag_refl (fs := [10, 35]) (rs := []) (S := S1_6)) g648 (by decide +kernel) (by decide +kernel)
        have e676 : (S33_646.1 34).toInt = (S1_6.1 34).toInt := (congrArg Int32.toInt (g648.1 34 rfl)).trans rfl
        have e677 : (S33_646.2.1 14 (2 : Int32).toNatClampNeg).toInt = (S.2.1 14 (2 : Int32).toNatClampNeg).toInt := (congrArg Int32.toInt ((congrFun (g648.2 14 rfl) (2 : Int32).toNatClampNeg).trans (congrFun (g9.2 14 rfl) (2 : Int32).toNatClampNeg))).trans rfl
        exact hj247 hI647 g675 (by show (S.1 34).toInt ≤ (S33_646.1 34).toInt; first | with_reducible assumption | omega) (by show ((S33_646.1 35).toInt = 0) → ((S.1 35).toInt = 0); first | with_reducible assumption | exact (fun _ => by with_reducible assumption) | omega) (by show ((S33_646.1 35).toInt = 0) → ((1 ≤ v1_5.toInt) ∧ (v1_5.toInt ≤ (S33_646.2.1 14 (2 : Int32).toNatClampNeg).toInt)); first | with_reducible assumption | exact (fun _ => by with_reducible assumption) | omega)
      · have q678 : (0) ≤ (S.1 36).toInt ∧ (S.1 36).toInt ≤ (98304) := (show B 0 98304 (S.1 36) from bf_36 hI)
        have e679 : (S33_646.1 36).toInt = (S.1 36).toInt := (congrArg Int32.toInt ((g648.1 36 rfl).trans (g9.1 36 rfl))).trans rfl
        have q680 : (0) ≤ (S.1 37).toInt ∧ (S.1 37).toInt ≤ (32768) := (show B 0 32768 (S.1 37) from bf_37 hI)
        have e681 : (S33_646.1 37).toInt = (S.1 37).toInt := (congrArg Int32.toInt ((g648.1 37 rfl).trans (g9.1 37 rfl))).trans rfl
        have e682 : ((S33_646.1 36) - (S33_646.1 37)).toInt = ((S.1 36).toInt - (S.1 37).toInt) := (t_sub (B_eq ((g648.1 36 rfl).trans (g9.1 36 rfl)) (show B 0 98304 (S.1 36) from bf_36 hI)) (B_eq ((g648.1 37 rfl).trans (g9.1 37 rfl)) (show B 0 32768 (S.1 37) from bf_37 hI)) (by decide +kernel) (by decide +kernel)).trans (by rw [e679, e681])
        have q683 : (-32768) ≤ ((S33_646.1 36) - (S33_646.1 37)).toInt ∧ ((S33_646.1 36) - (S33_646.1 37)).toInt ≤ (98304) := (show B (-32768) 98304 ((S33_646.1 36) - (S33_646.1 37)) from B_w (B_sub (B_eq ((g648.1 36 rfl).trans (g9.1 36 rfl)) (show B 0 98304 (S.1 36) from bf_36 hI)) (B_eq ((g648.1 37 rfl).trans (g9.1 37 rfl)) (show B 0 32768 (S.1 37) from bf_37 hI)) (by decide +kernel) (by decide +kernel)) (by decide +kernel) (by decide +kernel))
        have e684 : (2 * v1_5).toInt = (2 * (v1_5).toInt) := (t_mul cqb_2_2_2 b7 (by decide +kernel) (by decide +kernel) (by decide +kernel)).trans (by rw [cqn_2])
        have q685 : (0) ≤ (2 * v1_5).toInt ∧ (2 * v1_5).toInt ≤ (510) := (show B 0 510 (2 * v1_5) from B_w (B_mul cqb_2_2_2 b7 (by decide +kernel) (by decide +kernel) (by decide +kernel)) (by decide +kernel) (by decide +kernel))
        have e686 : (6 + (2 * v1_5)).toInt = (6 + (2 * (v1_5).toInt)) := (t_add cqb_6_6_6 (B_mul cqb_2_2_2 b7 (by decide +kernel) (by decide +kernel) (by decide +kernel)) (by decide +kernel) (by decide +kernel)).trans (by rw [cqn_6, e684])
        have q687 : (6) ≤ (6 + (2 * v1_5)).toInt ∧ (6 + (2 * v1_5)).toInt ≤ (516) := (show B 6 516 (6 + (2 * v1_5)) from B_w (B_add cqb_6_6_6 (B_mul cqb_2_2_2 b7 (by decide +kernel) (by decide +kernel) (by decide +kernel)) (by decide +kernel) (by decide +kernel)) (by decide +kernel) (by decide +kernel))
        have i688 : ((S33_646.1 36) - (S33_646.1 37)).toInt ≠ (6 + (2 * v1_5)).toInt := i_ne hc
        refine h_fail (B_w cqb_4_4_4 (by decide +kernel) (by decide +kernel)) (B_w (B_eq ((g648.1 37 rfl).trans (g9.1 37 rfl)) (show B 0 32768 (S.1 37) from bf_37 hI)) (by decide +kernel) (by decide +kernel)) hI647 (fun {v67_689} {S67_690} b691 hI692 g693 r694 => ?_)
        have r695 : 1 ≤ (S67_690.1 35).toInt := r694
        clear r694
        have q696 : (0) ≤ (S67_690.1 35).toInt ∧ (S67_690.1 35).toInt ≤ (8) := (show B 0 8 (S67_690.1 35) from bf_35 hI692)
        have g698 := ag_tr (ag_refl (fs := [10, 35]) (rs := []) (S := S1_6)) g648 (by decide +kernel) (by decide +kernel)
        have g697 := ag_tr g698 g693 (by decide +kernel) (by decide +kernel)
        have e699 : (S67_690.1 34).toInt = (S1_6.1 34).toInt := (congrArg Int32.toInt ((g693.1 34 rfl).trans (g648.1 34 rfl))).trans rfl
        have e700 : (S67_690.2.1 14 (2 : Int32).toNatClampNeg).toInt = (S.2.1 14 (2 : Int32).toNatClampNeg).toInt := (congrArg Int32.toInt (((congrFun (g693.2 14 rfl) (2 : Int32).toNatClampNeg).trans (congrFun (g648.2 14 rfl) (2 : Int32).toNatClampNeg)).trans (congrFun (g9.2 14 rfl) (2 : Int32).toNatClampNeg))).trans rfl
        exact hj247 hI692 g697 (by show (S.1 34).toInt ≤ (S67_690.1 34).toInt; first | with_reducible assumption | omega) (by show ((S67_690.1 35).toInt = 0) → ((S.1 35).toInt = 0); first | with_reducible assumption | exact (fun _ => by with_reducible assumption) | omega) (by show ((S67_690.1 35).toInt = 0) → ((1 ≤ v1_5.toInt) ∧ (v1_5.toInt ≤ (S67_690.2.1 14 (2 : Int32).toNatClampNeg).toInt)); first | with_reducible assumption | exact (fun _ => by with_reducible assumption) | omega)
  refine ⟨fun hc => ?_, fun hc => ?_⟩
  · have hq701 := hc
    have b702 : B 0 0 (v1_5) := B_w (B_leL b7 cqb_0_0_0 hq701) (by decide +kernel) (by decide +kernel)
    unfold b_readScanHead_31
    have q703 : (0) ≤ (v1_5).toInt ∧ (v1_5).toInt ≤ (0) := (show B 0 0 (v1_5) from B_w b702 (by decide +kernel) (by decide +kernel))
    have e704 : (S1_6.2.1 14 (2 : Int32).toNatClampNeg).toInt = (S.2.1 14 (2 : Int32).toNatClampNeg).toInt := (congrArg Int32.toInt (congrFun (g9.2 14 rfl) (2 : Int32).toNatClampNeg)).trans rfl
    exact hj637 (B_w cqb_0_0_0 (by decide +kernel) (by decide +kernel)) (by show (S.1 34).toInt ≤ (S1_6.1 34).toInt; first | with_reducible assumption | omega) (by show ((S1_6.1 35).toInt = 0) → ((S.1 35).toInt = 0); first | with_reducible assumption | exact (fun _ => by with_reducible assumption) | omega) (by show (0 = 1) → ((1 ≤ v1_5.toInt) ∧ (v1_5.toInt ≤ (S1_6.2.1 14 (2 : Int32).toNatClampNeg).toInt)); first | with_reducible assumption | exact (fun _ => by with_reducible assumption) | omega)
  · have hq705 := (nle_lt hc)
    have b706 : B 1 255 (v1_5) := B_w (B_ltR cqb_0_0_0 b7 hq705) (by decide +kernel) (by decide +kernel)
    refine ⟨vp_B cqb_2_2_2 (by decide +kernel) (by decide +kernel), ?_⟩
    refine ⟨fun hc => ?_, fun hc => ?_⟩
    · have hq707 := hc
      have e708 : (S1_6.2.1 14 (2 : Int32).toNatClampNeg).toInt = (S.2.1 14 (2 : Int32).toNatClampNeg).toInt := (congrArg Int32.toInt (congrFun (g9.2 14 rfl) (2 : Int32).toNatClampNeg)).trans rfl
      have q709 : (1) ≤ (v1_5).toInt ∧ (v1_5).toInt ≤ (255) := (show B 1 255 (v1_5) from B_w b706 (by decide +kernel) (by decide +kernel))
      have i710 : (S1_6.2.1 14 (2 : Int32).toNatClampNeg).toInt < (v1_5).toInt := i_lt hq707
      unfold b_readScanHead_31
      exact hj637 (B_w cqb_0_0_0 (by decide +kernel) (by decide +kernel)) (by show (S.1 34).toInt ≤ (S1_6.1 34).toInt; first | with_reducible assumption | omega) (by show ((S1_6.1 35).toInt = 0) → ((S.1 35).toInt = 0); first | with_reducible assumption | exact (fun _ => by with_reducible assumption) | omega) (by show (0 = 1) → ((1 ≤ v1_5.toInt) ∧ (v1_5.toInt ≤ (S1_6.2.1 14 (2 : Int32).toNatClampNeg).toInt)); first | with_reducible assumption | exact (fun _ => by with_reducible assumption) | omega)
    · have hq711 := (nlt_le hc)
      have b712 : B 1 3 (v1_5) := B_w (B_leL b706 (B_eq (congrFun (g9.2 14 rfl) (2 : Int32).toNatClampNeg) (show B 0 3 (S.2.1 14 (2 : Int32).toNatClampNeg) from br_14 hI _)) hq711) (by decide +kernel) (by decide +kernel)
      have b713 : B 1 3 (S.2.1 14 (2 : Int32).toNatClampNeg) := B_w (B_eq (Eq.symm (congrFun (g9.2 14 rfl) (2 : Int32).toNatClampNeg)) (B_leR b706 (B_eq (congrFun (g9.2 14 rfl) (2 : Int32).toNatClampNeg) (show B 0 3 (S.2.1 14 (2 : Int32).toNatClampNeg) from br_14 hI _)) hq711)) (by decide +kernel) (by decide +kernel)
      have q714 : (1) ≤ (S.2.1 14 (2 : Int32).toNatClampNeg).toInt ∧ (S.2.1 14 (2 : Int32).toNatClampNeg).toInt ≤ (3) := (show B 1 3 (S.2.1 14 (2 : Int32).toNatClampNeg) from B_w b713 (by decide +kernel) (by decide +kernel))
      have q715 : (1) ≤ (v1_5).toInt ∧ (v1_5).toInt ≤ (3) := (show B 1 3 (v1_5) from B_w b712 (by decide +kernel) (by decide +kernel))
      have e716 : (S1_6.2.1 14 (2 : Int32).toNatClampNeg).toInt = (S.2.1 14 (2 : Int32).toNatClampNeg).toInt := (congrArg Int32.toInt (congrFun (g9.2 14 rfl) (2 : Int32).toNatClampNeg)).trans rfl
      have i717 : (v1_5).toInt ≤ (S1_6.2.1 14 (2 : Int32).toNatClampNeg).toInt := i_le hq711
      exact hj637 (B_w cqb_1_1_1 (by decide +kernel) (by decide +kernel)) (by show (S.1 34).toInt ≤ (S1_6.1 34).toInt; first | with_reducible assumption | omega) (by show ((S1_6.1 35).toInt = 0) → ((S.1 35).toInt = 0); first | with_reducible assumption | exact (fun _ => by with_reducible assumption) | omega) (by show (1 = 1) → ((1 ≤ v1_5.toInt) ∧ (v1_5.toInt ≤ (S1_6.2.1 14 (2 : Int32).toNatClampNeg).toInt)); first | with_reducible assumption | exact (fun _ => by with_reducible assumption) | omega)
