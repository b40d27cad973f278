set_option maxRecDepth 20000 in
set_option maxHeartbeats 4000000 in
theorem h_Un_isForRests {x0 : Int32} {K : Int32 → Prop} (hK : ∀ {v : Int32}, B 0 1 v → K v) : p_Un_isForRests x0 K := by
  unfold p_Un_isForRests
  refine ⟨fun hc => ?_, fun hc => ?_⟩
  · have b1 : B 0 0 (x0) := B_w (B_eq hc cqb_0_0_0) (by decide +kernel) (by decide +kernel)
    have q2 : (0) ≤ (x0).toInt ∧ (x0).toInt ≤ (0) := (show B 0 0 (x0) from B_w b1 (by decide +kernel) (by decide +kernel))
    have i3 : (x0).toInt = (0 : Int32).toInt := congrArg Int32.toInt hc
    have n4 : (0 : Int32).toInt = 0 := cqn_0
    unfold b_Un_isForRests_24
    unfold b_Un_isForRests_29
    refine ⟨B_nar cqb_1_1_1 (by decide +kernel) (by decide +kernel), ?_⟩
    exact hK (B_w cqb_1_1_1 (by decide +kernel) (by decide +kernel))
  · have i5 : (x0).toInt ≠ (0 : Int32).toInt := i_ne hc
    have n6 : (0 : Int32).toInt = 0 := cqn_0
    refine ⟨fun hc => ?_, fun hc => ?_⟩
    · have b7 : B 240 240 (x0) := B_w (B_eq hc cqb_240_240_240) (by decide +kernel) (by decide +kernel)
      have q8 : (240) ≤ (x0).toInt ∧ (x0).toInt ≤ (240) := (show B 240 240 (x0) from B_w b7 (by decide +kernel) (by decide +kernel))
      have i9 : (x0).toInt = (240 : Int32).toInt := congrArg Int32.toInt hc
      have n10 : (240 : Int32).toInt = 240 := cqn_240
      unfold b_Un_isForRests_24
      unfold b_Un_isForRests_29
      refine ⟨B_nar cqb_1_1_1 (by decide +kernel) (by decide +kernel), ?_⟩
      exact hK (B_w cqb_1_1_1 (by decide +kernel) (by decide +kernel))
    · have i11 : (x0).toInt ≠ (240 : Int32).toInt := i_ne hc
      have n12 : (240 : Int32).toInt = 240 := cqn_240
      refine h_B_isWithin  (fun {v18_13} b14 r15 r16 => ?_)
      rcases sp_01 b14 with rfl | rfl
      · have r17 : ((0 : Int) = 0) ∨ ((1 ≤ (x0 - ((x0 / 16) * 16)).toInt) ∧ ((x0 - ((x0 / 16) * 16)).toInt ≤ 10)) := r15
        clear r15
        have r18 : ((0 : Int) = 1) ∨ (((x0 - ((x0 / 16) * 16)).toInt < 1) ∨ (10 < (x0 - ((x0 / 16) * 16)).toInt)) := r16
        clear r16
        refine ⟨fun hc => ?_, fun hc => ?_⟩
        · have i19 : (0 : Int32).toInt = (0 : Int32).toInt := congrArg Int32.toInt hc
          have n20 : (0 : Int32).toInt = 0 := cqn_0
          have n21 : (0 : Int32).toInt = 0 := cqn_0
          unfold b_Un_isForRests_29
          refine ⟨B_nar cqb_0_0_0 (by decide +kernel) (by decide +kernel), ?_⟩
          exact hK (B_w cqb_0_0_0 (by decide +kernel) (by decide +kernel))
        · exact (hc (B_z cqb_0_0_0)).elim
      · have r22 : ((1 : Int) = 0) ∨ ((1 ≤ (x0 - ((x0 / 16) * 16)).toInt) ∧ ((x0 - ((x0 / 16) * 16)).toInt ≤ 10)) := r15
        clear r15
        have r23 : ((1 : Int) = 1) ∨ (((x0 - ((x0 / 16) * 16)).toInt < 1) ∨ (10 < (x0 - ((x0 / 16) * 16)).toInt)) := r16
        clear r16
        have b24 : B 1 10 (x0 - ((x0 / 16) * 16)) := ⟨by omega, by omega⟩
        refine ⟨fun hc => ?_, fun hc => ?_⟩
        · exact (B_dis cqb_1_1_1 cqb_0_0_0 hc (by decide +kernel)).elim
        · have i25 : (1 : Int32).toInt ≠ (0 : Int32).toInt := i_ne hc
          have n26 : (1 : Int32).toInt = 1 := cqn_1
          have n27 : (0 : Int32).toInt = 0 := cqn_0
          unfold b_Un_isForRests_24
          unfold b_Un_isForRests_29
          refine ⟨B_nar cqb_1_1_1 (by decide +kernel) (by decide +kernel), ?_⟩
          exact hK (B_w cqb_1_1_1 (by decide +kernel) (by decide +kernel))
set_option maxRecDepth 20000 in
set_option maxHeartbeats 4000000 in
theorem h_Co_giveOut_u86 {a : Bool} {b : Bool} {P : Nat → Nat → Nat} {F : cF} {L : cL} {K : Int32 → cs → Prop} (hI : IMc F) (hK : ∀ {v : Int32} {Z : cF} {LZ : cL}, B 0 1 v → IMc Z → agc [8605] [88, 89] F Z → (gQ 86 v 17 Z) → ((v.toInt = 0) ∨ ((Z 86 5).toInt ≤ 256)) → K v (Z, LZ, PC a b P)) : p_Co_giveOut UL 86 (F, L, PC a b P) K := by
  unfold p_Co_giveOut
  have hI10 := IMc_u (u := 86) (i := 5) (v := 0) hI (show B (-2147483648) 2147483647 (0) from (B_w cqb_0_0_0 (by decide +kernel) (by decide +kernel)))
  refine ⟨fun yx1 yx2 yx3 yS => B (-2147483648) 2147483647 yx1 ∧ B 0 1 yx2 ∧ B 1 17 yx3 ∧ ∃ (T4 : cF) (LT4 : cL), yS = (T4, LT4, PC a b P) ∧ IMc T4 ∧ agc [8605] [88, 89] (va_up F 86 (upd (F 86) 5 0)) T4 ∧ (gQ 86 yx2 yx3 T4) ∧ ((0 ≤ (T4 86 5).toInt) ∧ ((T4 86 5).toInt ≤ 511)) ∧ ((yx2.toInt = 0) ∨ ((T4 86 5).toInt ≤ 256)), fun yx1 yx2 yx3 yS => (17 - yx3.toInt).toNat, ⟨(B_w cqb_0_0_0 (by decide +kernel) (by decide +kernel)), (B_w cqb_1_1_1 (by decide +kernel) (by decide +kernel)), (B_w cqb_1_1_1 (by decide +kernel) (by decide +kernel)), _, _, rfl, hI10, (agc_refl (fs := [8605]) (rs := [88, 89]) (F := va_up F 86 (upd (F 86) 5 0))), (fun _ m h1 h2 => by have e : (1 : Int32).toInt = 1 := (by decide +kernel); omega), (by show ((0 : Int) ≤ 0) ∧ ((0 : Int) ≤ 511); first | with_reducible assumption | omega), (by show ((1 : Int) = 0) ∨ ((0 : Int) ≤ 256); first | with_reducible assumption | omega)⟩, fun x1_1 x2_2 x3_3 ST4 hIv => ?_⟩
  obtain ⟨b5, b6, b7, T4, LT4, rfl, hI8, g9, r11, r12, r13⟩ := hIv
  suffices hs : ∀ (R11 : Int32 → Int32 → Int32 → cs → Prop), (∀ zx1 zx2 zx3 zS, (B (-2147483648) 2147483647 zx1 ∧ B 0 1 zx2 ∧ B 1 17 zx3 ∧ ∃ (T4 : cF) (LT4 : cL), zS = (T4, LT4, PC a b P) ∧ IMc T4 ∧ agc [8605] [88, 89] (va_up F 86 (upd (F 86) 5 0)) T4 ∧ (gQ 86 zx2 zx3 T4) ∧ ((0 ≤ (T4 86 5).toInt) ∧ ((T4 86 5).toInt ≤ 511)) ∧ ((zx2.toInt = 0) ∨ ((T4 86 5).toInt ≤ 256))) → (17 - zx3.toInt).toNat < (17 - x3_3.toInt).toNat → R11 zx1 zx2 zx3 zS) → b_Co_giveOut_11 UL 86 x1_1 x2_2 x3_3 (T4, LT4, PC a b P) R11 K from hs _ (fun _ _ _ _ h1 h2 => ⟨h1, h2⟩)
  intro R11 hR110
  have hR11 := fun {zx1} {zx2} {zx3} {zS} => hR110 zx1 zx2 zx3 zS
  have q14 : (0) ≤ (x2_2).toInt ∧ (x2_2).toInt ≤ (1) := (show B 0 1 (x2_2) from B_w b6 (by decide +kernel) (by decide +kernel))
  have b15 : B 0 511 (T4 86 5) := ⟨by omega, by omega⟩
  unfold b_Co_giveOut_11
  refine ⟨fun hc => ?_, fun hc => ?_⟩
  · have hq16 := hc
    have b17 : B 17 17 (x3_3) := B_w (B_ltR cqb_16_16_16 b7 hq16) (by decide +kernel) (by decide +kernel)
    unfold b_Co_giveOut_97
    refine ⟨B_nar b6 (by decide +kernel) (by decide +kernel), ?_⟩
    have g19 := agc_f (u := 86) (k := 5) (v := 0) (agc_refl (fs := [8605]) (rs := [88, 89]) (F := F)) rfl (by decide +kernel)
    have g18 := agc_tr g19 g9 (by decide +kernel) (by decide +kernel)
    have q20 : (17) ≤ (x3_3).toInt ∧ (x3_3).toInt ≤ (17) := (show B 17 17 (x3_3) from B_w b17 (by decide +kernel) (by decide +kernel))
    exact hK b6 hI8 g18 (fun hx m h1 h2 => (r11) hx m h1 (by have e : (17 : Int32).toInt = 17 := (by decide +kernel); omega)) (by show (x2_2.toInt = 0) ∨ ((T4 86 5).toInt ≤ 256); first | with_reducible assumption | omega)
  · have hq21 := (nlt_le hc)
    have b22 : B 1 16 (x3_3) := B_w (B_leL b7 cqb_16_16_16 hq21) (by decide +kernel) (by decide +kernel)
    refine ⟨fun hc => ?_, fun hc => ?_⟩
    · have b23 : B 0 0 (x2_2) := B_w (B_eq hc cqb_0_0_0) (by decide +kernel) (by decide +kernel)
      have q24 : (0) ≤ (x2_2).toInt ∧ (x2_2).toInt ≤ (0) := (show B 0 0 (x2_2) from B_w b23 (by decide +kernel) (by decide +kernel))
      have i25 : (x2_2).toInt = (0 : Int32).toInt := congrArg Int32.toInt hc
      have n26 : (0 : Int32).toInt = 0 := cqn_0
      unfold b_Co_giveOut_97
      refine ⟨B_nar b23 (by decide +kernel) (by decide +kernel), ?_⟩
      have g28 := agc_f (u := 86) (k := 5) (v := 0) (agc_refl (fs := [8605]) (rs := [88, 89]) (F := F)) rfl (by decide +kernel)
      have g27 := agc_tr g28 g9 (by decide +kernel) (by decide +kernel)
      exact hK (B_w b23 (by decide +kernel) (by decide +kernel)) hI8 g27 (fun h => absurd (B_z b23) h) (by show (x2_2.toInt = 0) ∨ ((T4 86 5).toInt ≤ 256); first | with_reducible assumption | omega)
    · have b29 : B 1 1 (x2_2) := B_w (B_n0 b6 hc) (by decide +kernel) (by decide +kernel)
      have q30 : (1) ≤ (x2_2).toInt ∧ (x2_2).toInt ≤ (1) := (show B 1 1 (x2_2) from B_w b29 (by decide +kernel) (by decide +kernel))
      refine ⟨(show ¬ ((88 : Nat) = NU) from by decide +kernel), ?_⟩
      refine ⟨(show c_cl UL 88 = 902 from cl_88), ?_⟩
      refine ⟨(show vp_in (x3_3) 17 from vp_B b22 (by decide +kernel) (by decide +kernel)), ?_⟩
      refine ⟨(show ¬ ((89 : Nat) = NU) from by decide +kernel), ?_⟩
      refine ⟨(show c_cl UL 89 = 902 from cl_89), ?_⟩
      refine ⟨(show vp_in (x3_3) 17 from vp_B b22 (by decide +kernel) (by decide +kernel)), ?_⟩
      refine ⟨(show ¬ ((87 : Nat) = NU) from by decide +kernel), ?_⟩
      refine ⟨(show c_cl UL 87 = 902 from cl_87), ?_⟩
      refine ⟨(show vp_in (x3_3) 17 from vp_B b22 (by decide +kernel) (by decide +kernel)), ?_⟩
      refine ⟨(show ¬ ((87 : Nat) = NU) from by decide +kernel), ?_⟩
      refine ⟨(show vp_in (x3_3) 17 from vp_B b22 (by decide +kernel) (by decide +kernel)), ?_⟩
      refine ⟨(show ¬ ((90 : Nat) = NU) from by decide +kernel), ?_⟩
      refine ⟨(show c_cl UL 90 = 902 from cl_90), ?_⟩
      refine ⟨fun hc => ?_, fun hc => ?_⟩
      · have hq31 := hc
        have b32 : B 257 766 ((T4 86 5) + (T4 87 x3_3.toNatClampNeg)) := B_w (B_ltR cqb_256_256_256 (B_add b15 (B_eq (congrFun (g9.2 87 rfl rfl) x3_3.toNatClampNeg) (show B 0 255 (F 87 x3_3.toNatClampNeg) from hI 87 x3_3.toNatClampNeg)) (by decide +kernel) (by decide +kernel)) hq31) (by decide +kernel) (by decide +kernel)
        have q33 : (0) ≤ (F 87 x3_3.toNatClampNeg).toInt ∧ (F 87 x3_3.toNatClampNeg).toInt ≤ (255) := (show B 0 255 (F 87 x3_3.toNatClampNeg) from hI 87 x3_3.toNatClampNeg)
        have e34 : (T4 87 x3_3.toNatClampNeg).toInt = (F 87 x3_3.toNatClampNeg).toInt := (congrArg Int32.toInt (congrFun (g9.2 87 rfl rfl) x3_3.toNatClampNeg)).trans rfl
        have e35 : ((T4 86 5) + (T4 87 x3_3.toNatClampNeg)).toInt = ((T4 86 5).toInt + (F 87 x3_3.toNatClampNeg).toInt) := (t_add b15 (B_eq (congrFun (g9.2 87 rfl rfl) x3_3.toNatClampNeg) (show B 0 255 (F 87 x3_3.toNatClampNeg) from hI 87 x3_3.toNatClampNeg)) (by decide +kernel) (by decide +kernel)).trans (by rw [e34])
        have q36 : (257) ≤ ((T4 86 5) + (T4 87 x3_3.toNatClampNeg)).toInt ∧ ((T4 86 5) + (T4 87 x3_3.toNatClampNeg)).toInt ≤ (766) := (show B 257 766 ((T4 86 5) + (T4 87 x3_3.toNatClampNeg)) from B_w b32 (by decide +kernel) (by decide +kernel))
        have i37 : (256 : Int32).toInt < ((T4 86 5) + (T4 87 x3_3.toNatClampNeg)).toInt := i_lt hq31
        have n38 : (256 : Int32).toInt = 256 := cqn_256
        unfold b_Co_giveOut_85
        unfold b_Co_giveOut_86
        have hI39 := IMc_u (u := 88) (i := x3_3.toNatClampNeg) (v := x1_1) hI8 (show B (-2147483648) 2147483647 (x1_1) from (B_w b5 (by decide +kernel) (by decide +kernel)))
        have hI40 := IMc_u (u := 89) (i := x3_3.toNatClampNeg) (v := T4 86 5) hI39 (show B (-2147483648) 2147483647 (T4 86 5) from (B_w b15 (by decide +kernel) (by decide +kernel)))
        have hI41 := IMc_u (u := 86) (i := 5) (v := (T4 86 5) + (T4 87 x3_3.toNatClampNeg)) hI40 (show B (-2147483648) 2147483647 ((T4 86 5) + (T4 87 x3_3.toNatClampNeg)) from (B_w b32 (by decide +kernel) (by decide +kernel)))
        have g45 := agc_tr (agc_refl (fs := [8605]) (rs := [88, 89]) (F := va_up F 86 (upd (F 86) 5 0))) g9 (by decide +kernel) (by decide +kernel)
        have g44 := agc_r (u := 88) (w := upd (T4 88) x3_3.toNatClampNeg x1_1) g45 rfl (by decide +kernel)
        have g43 := agc_r (u := 89) (w := upd (T4 89) x3_3.toNatClampNeg (T4 86 5)) g44 rfl (by decide +kernel)
        have g42 := agc_f (u := 86) (k := 5) (v := (T4 86 5) + (T4 87 x3_3.toNatClampNeg)) g43 rfl (by decide +kernel)
        have q46 : (1) ≤ (x3_3).toInt ∧ (x3_3).toInt ≤ (16) := (show B 1 16 (x3_3) from B_w b22 (by decide +kernel) (by decide +kernel))
        have e47 : (x3_3 + 1).toInt = ((x3_3).toInt + 1) := (t_add b22 cqb_1_1_1 (by decide +kernel) (by decide +kernel)).trans (by rw [cqn_1])
        have q48 : (2) ≤ (x3_3 + 1).toInt ∧ (x3_3 + 1).toInt ≤ (17) := (show B 2 17 (x3_3 + 1) from B_w (B_add b22 cqb_1_1_1 (by decide +kernel) (by decide +kernel)) (by decide +kernel) (by decide +kernel))
        exact hR11 ⟨(B_w (B_any _) (by decide +kernel) (by decide +kernel)), (B_w cqb_0_0_0 (by decide +kernel) (by decide +kernel)), (B_w (B_add b22 cqb_1_1_1 (by decide +kernel) (by decide +kernel)) (by decide +kernel) (by decide +kernel)), _, _, rfl, hI41, g42, (fun h => absurd rfl h), (by show (0 ≤ ((T4 86 5) + (T4 87 x3_3.toNatClampNeg)).toInt) ∧ (((T4 86 5) + (T4 87 x3_3.toNatClampNeg)).toInt ≤ 511); first | with_reducible assumption | omega), (by show ((0 : Int) = 0) ∨ (((T4 86 5) + (T4 87 x3_3.toNatClampNeg)).toInt ≤ 256); first | with_reducible assumption | omega)⟩ (by show (17 - (x3_3 + 1).toInt).toNat < (17 - x3_3.toInt).toNat; omega)
      · have hq49 := (nlt_le hc)
        have b50 : B 0 256 ((T4 86 5) + (T4 87 x3_3.toNatClampNeg)) := B_w (B_leL (B_add b15 (B_eq (congrFun (g9.2 87 rfl rfl) x3_3.toNatClampNeg) (show B 0 255 (F 87 x3_3.toNatClampNeg) from hI 87 x3_3.toNatClampNeg)) (by decide +kernel) (by decide +kernel)) cqb_256_256_256 hq49) (by decide +kernel) (by decide +kernel)
        have q51 : (0) ≤ (F 87 x3_3.toNatClampNeg).toInt ∧ (F 87 x3_3.toNatClampNeg).toInt ≤ (255) := (show B 0 255 (F 87 x3_3.toNatClampNeg) from hI 87 x3_3.toNatClampNeg)
        have e52 : (T4 87 x3_3.toNatClampNeg).toInt = (F 87 x3_3.toNatClampNeg).toInt := (congrArg Int32.toInt (congrFun (g9.2 87 rfl rfl) x3_3.toNatClampNeg)).trans rfl
        have e53 : ((T4 86 5) + (T4 87 x3_3.toNatClampNeg)).toInt = ((T4 86 5).toInt + (F 87 x3_3.toNatClampNeg).toInt) := (t_add b15 (B_eq (congrFun (g9.2 87 rfl rfl) x3_3.toNatClampNeg) (show B 0 255 (F 87 x3_3.toNatClampNeg) from hI 87 x3_3.toNatClampNeg)) (by decide +kernel) (by decide +kernel)).trans (by rw [e52])
        have q54 : (0) ≤ ((T4 86 5) + (T4 87 x3_3.toNatClampNeg)).toInt ∧ ((T4 86 5) + (T4 87 x3_3.toNatClampNeg)).toInt ≤ (256) := (show B 0 256 ((T4 86 5) + (T4 87 x3_3.toNatClampNeg)) from B_w b50 (by decide +kernel) (by decide +kernel))
        have i55 : ((T4 86 5) + (T4 87 x3_3.toNatClampNeg)).toInt ≤ (256 : Int32).toInt := i_le hq49
        have n56 : (256 : Int32).toInt = 256 := cqn_256
        refine ⟨fun hc => ?_, fun hc => ?_⟩
        · have hq57 := hc
          have i58 : (((1 : Int32) <<< (x3_3 &&& 31 : Int32) : Int32)).toInt ≤ (x1_1 + (T4 87 x3_3.toNatClampNeg)).toInt := i_le hq57
          unfold b_Co_giveOut_85
          unfold b_Co_giveOut_86
          have hI59 := IMc_u (u := 88) (i := x3_3.toNatClampNeg) (v := x1_1) hI8 (show B (-2147483648) 2147483647 (x1_1) from (B_w b5 (by decide +kernel) (by decide +kernel)))
          have hI60 := IMc_u (u := 89) (i := x3_3.toNatClampNeg) (v := T4 86 5) hI59 (show B (-2147483648) 2147483647 (T4 86 5) from (B_w b15 (by decide +kernel) (by decide +kernel)))
          have hI61 := IMc_u (u := 86) (i := 5) (v := (T4 86 5) + (T4 87 x3_3.toNatClampNeg)) hI60 (show B (-2147483648) 2147483647 ((T4 86 5) + (T4 87 x3_3.toNatClampNeg)) from (B_w b50 (by decide +kernel) (by decide +kernel)))
          have g65 := agc_tr (agc_refl (fs := [8605]) (rs := [88, 89]) (F := va_up F 86 (upd (F 86) 5 0))) g9 (by decide +kernel) (by decide +kernel)
          have g64 := agc_r (u := 88) (w := upd (T4 88) x3_3.toNatClampNeg x1_1) g65 rfl (by decide +kernel)
          have g63 := agc_r (u := 89) (w := upd (T4 89) x3_3.toNatClampNeg (T4 86 5)) g64 rfl (by decide +kernel)
          have g62 := agc_f (u := 86) (k := 5) (v := (T4 86 5) + (T4 87 x3_3.toNatClampNeg)) g63 rfl (by decide +kernel)
          have q66 : (1) ≤ (x3_3).toInt ∧ (x3_3).toInt ≤ (16) := (show B 1 16 (x3_3) from B_w b22 (by decide +kernel) (by decide +kernel))
          have e67 : (x3_3 + 1).toInt = ((x3_3).toInt + 1) := (t_add b22 cqb_1_1_1 (by decide +kernel) (by decide +kernel)).trans (by rw [cqn_1])
          have q68 : (2) ≤ (x3_3 + 1).toInt ∧ (x3_3 + 1).toInt ≤ (17) := (show B 2 17 (x3_3 + 1) from B_w (B_add b22 cqb_1_1_1 (by decide +kernel) (by decide +kernel)) (by decide +kernel) (by decide +kernel))
          exact hR11 ⟨(B_w (B_any _) (by decide +kernel) (by decide +kernel)), (B_w cqb_0_0_0 (by decide +kernel) (by decide +kernel)), (B_w (B_add b22 cqb_1_1_1 (by decide +kernel) (by decide +kernel)) (by decide +kernel) (by decide +kernel)), _, _, rfl, hI61, g62, (fun h => absurd rfl h), (by show (0 ≤ ((T4 86 5) + (T4 87 x3_3.toNatClampNeg)).toInt) ∧ (((T4 86 5) + (T4 87 x3_3.toNatClampNeg)).toInt ≤ 511); first | with_reducible assumption | omega), (by show ((0 : Int) = 0) ∨ (((T4 86 5) + (T4 87 x3_3.toNatClampNeg)).toInt ≤ 256); first | with_reducible assumption | omega)⟩ (by show (17 - (x3_3 + 1).toInt).toNat < (17 - x3_3.toInt).toNat; omega)
        · have hq69 := (nle_lt hc)
          have b70 : B (-2147483648) 2147483646 (x1_1 + (T4 87 x3_3.toNatClampNeg)) := B_w (B_ltL (B_any _) (B_any _) hq69) (by decide +kernel) (by decide +kernel)
          have b71 : B (-2147483647) 2147483647 (((1 : Int32) <<< (x3_3 &&& 31 : Int32) : Int32)) := B_w (B_ltR (B_any _) (B_any _) hq69) (by decide +kernel) (by decide +kernel)
          have q72 : (-2147483648) ≤ (x1_1 + (T4 87 x3_3.toNatClampNeg)).toInt ∧ (x1_1 + (T4 87 x3_3.toNatClampNeg)).toInt ≤ (2147483646) := (show B (-2147483648) 2147483646 (x1_1 + (T4 87 x3_3.toNatClampNeg)) from B_w b70 (by decide +kernel) (by decide +kernel))
          have q73 : (-2147483647) ≤ (((1 : Int32) <<< (x3_3 &&& 31 : Int32) : Int32)).toInt ∧ (((1 : Int32) <<< (x3_3 &&& 31 : Int32) : Int32)).toInt ≤ (2147483647) := (show B (-2147483647) 2147483647 (((1 : Int32) <<< (x3_3 &&& 31 : Int32) : Int32)) from B_w b71 (by decide +kernel) (by decide +kernel))
          have i74 : (x1_1 + (T4 87 x3_3.toNatClampNeg)).toInt < (((1 : Int32) <<< (x3_3 &&& 31 : Int32) : Int32)).toInt := i_lt hq69
          unfold b_Co_giveOut_86
          have hI75 := IMc_u (u := 88) (i := x3_3.toNatClampNeg) (v := x1_1) hI8 (show B (-2147483648) 2147483647 (x1_1) from (B_w b5 (by decide +kernel) (by decide +kernel)))
          have hI76 := IMc_u (u := 89) (i := x3_3.toNatClampNeg) (v := T4 86 5) hI75 (show B (-2147483648) 2147483647 (T4 86 5) from (B_w b15 (by decide +kernel) (by decide +kernel)))
          have hI77 := IMc_u (u := 86) (i := 5) (v := (T4 86 5) + (T4 87 x3_3.toNatClampNeg)) hI76 (show B (-2147483648) 2147483647 ((T4 86 5) + (T4 87 x3_3.toNatClampNeg)) from (B_w b50 (by decide +kernel) (by decide +kernel)))
          have g81 := agc_tr (agc_refl (fs := [8605]) (rs := [88, 89]) (F := va_up F 86 (upd (F 86) 5 0))) g9 (by decide +kernel) (by decide +kernel)
          have g80 := agc_r (u := 88) (w := upd (T4 88) x3_3.toNatClampNeg x1_1) g81 rfl (by decide +kernel)
          have g79 := agc_r (u := 89) (w := upd (T4 89) x3_3.toNatClampNeg (T4 86 5)) g80 rfl (by decide +kernel)
          have g78 := agc_f (u := 86) (k := 5) (v := (T4 86 5) + (T4 87 x3_3.toNatClampNeg)) g79 rfl (by decide +kernel)
          have q82 : (1) ≤ (x3_3).toInt ∧ (x3_3).toInt ≤ (16) := (show B 1 16 (x3_3) from B_w b22 (by decide +kernel) (by decide +kernel))
          have e83 : (x3_3 + 1).toInt = ((x3_3).toInt + 1) := (t_add b22 cqb_1_1_1 (by decide +kernel) (by decide +kernel)).trans (by rw [cqn_1])
          have q84 : (2) ≤ (x3_3 + 1).toInt ∧ (x3_3 + 1).toInt ≤ (17) := (show B 2 17 (x3_3 + 1) from B_w (B_add b22 cqb_1_1_1 (by decide +kernel) (by decide +kernel)) (by decide +kernel) (by decide +kernel))
          exact hR11 ⟨(B_w (B_any _) (by decide +kernel) (by decide +kernel)), (B_w cqb_1_1_1 (by decide +kernel) (by decide +kernel)), (B_w (B_add b22 cqb_1_1_1 (by decide +kernel) (by decide +kernel)) (by decide +kernel) (by decide +kernel)), _, _, rfl, hI77, g78, (gQ_up (u := 86) (F := T4) (G := va_up (va_up (va_up T4 88 (upd (T4 88) x3_3.toNatClampNeg x1_1)) 89 (upd (T4 89) x3_3.toNatClampNeg (T4 86 5))) 86 (upd (T4 86) 5 ((T4 86 5) + (T4 87 x3_3.toNatClampNeg)))) (x := x2_2) (x' := 1) (n := x3_3) (n' := x3_3 + 1) r11 (fun _ => B_nz b29 (by decide +kernel)) (by omega) (by omega) rfl (T4 86 5) rfl (fun _ => ⟨by omega, by show (T4 86 5).toInt + (T4 87 x3_3.toNatClampNeg).toInt ≤ 256; first | with_reducible assumption | omega⟩)), (by show (0 ≤ ((T4 86 5) + (T4 87 x3_3.toNatClampNeg)).toInt) ∧ (((T4 86 5) + (T4 87 x3_3.toNatClampNeg)).toInt ≤ 511); first | with_reducible assumption | omega), (by show ((1 : Int) = 0) ∨ (((T4 86 5) + (T4 87 x3_3.toNatClampNeg)).toInt ≤ 256); first | with_reducible assumption | omega)⟩ (by show (17 - (x3_3 + 1).toInt).toNat < (17 - x3_3.toInt).toNat; omega)
set_option maxRecDepth 20000 in
set_option maxHeartbeats 4000000 in
theorem h_Co_giveOut_u91 {a : Bool} {b : Bool} {P : Nat → Nat → Nat} {F : cF} {L : cL} {K : Int32 → cs → Prop} (hI : IMc F) (hK : ∀ {v : Int32} {Z : cF} {LZ : cL}, B 0 1 v → IMc Z → agc [9105] [93, 94] F Z → (gQ 91 v 17 Z) → ((v.toInt = 0) ∨ ((Z 91 5).toInt ≤ 256)) → K v (Z, LZ, PC a b P)) : p_Co_giveOut UL 91 (F, L, PC a b P) K := by
  unfold p_Co_giveOut
  have hI10 := IMc_u (u := 91) (i := 5) (v := 0) hI (show B (-2147483648) 2147483647 (0) from (B_w cqb_0_0_0 (by decide +kernel) (by decide +kernel)))
  refine ⟨fun yx1 yx2 yx3 yS => B (-2147483648) 2147483647 yx1 ∧ B 0 1 yx2 ∧ B 1 17 yx3 ∧ ∃ (T4 : cF) (LT4 : cL), yS = (T4, LT4, PC a b P) ∧ IMc T4 ∧ agc [9105] [93, 94] (va_up F 91 (upd (F 91) 5 0)) T4 ∧ (gQ 91 yx2 yx3 T4) ∧ ((0 ≤ (T4 91 5).toInt) ∧ ((T4 91 5).toInt ≤ 511)) ∧ ((yx2.toInt = 0) ∨ ((T4 91 5).toInt ≤ 256)), fun yx1 yx2 yx3 yS => (17 - yx3.toInt).toNat, ⟨(B_w cqb_0_0_0 (by decide +kernel) (by decide +kernel)), (B_w cqb_1_1_1 (by decide +kernel) (by decide +kernel)), (B_w cqb_1_1_1 (by decide +kernel) (by decide +kernel)), _, _, rfl, hI10, (agc_refl (fs := [9105]) (rs := [93, 94]) (F := va_up F 91 (upd (F 91) 5 0))), (fun _ m h1 h2 => by have e : (1 : Int32).toInt = 1 := (by decide +kernel); omega), (by show ((0 : Int) ≤ 0) ∧ ((0 : Int) ≤ 511); first | with_reducible assumption | omega), (by show ((1 : Int) = 0) ∨ ((0 : Int) ≤ 256); first | with_reducible assumption | omega)⟩, fun x1_1 x2_2 x3_3 ST4 hIv => ?_⟩
  obtain ⟨b5, b6, b7, T4, LT4, rfl, hI8, g9, r11, r12, r13⟩ := hIv
  suffices hs : ∀ (R11 : Int32 → Int32 → Int32 → cs → Prop), (∀ zx1 zx2 zx3 zS, (B (-2147483648) 2147483647 zx1 ∧ B 0 1 zx2 ∧ B 1 17 zx3 ∧ ∃ (T4 : cF) (LT4 : cL), zS = (T4, LT4, PC a b P) ∧ IMc T4 ∧ agc [9105] [93, 94] (va_up F 91 (upd (F 91) 5 0)) T4 ∧ (gQ 91 zx2 zx3 T4) ∧ ((0 ≤ (T4 91 5).toInt) ∧ ((T4 91 5).toInt ≤ 511)) ∧ ((zx2.toInt = 0) ∨ ((T4 91 5).toInt ≤ 256))) → (17 - zx3.toInt).toNat < (17 - x3_3.toInt).toNat → R11 zx1 zx2 zx3 zS) → b_Co_giveOut_11 UL 91 x1_1 x2_2 x3_3 (T4, LT4, PC a b P) R11 K from hs _ (fun _ _ _ _ h1 h2 => ⟨h1, h2⟩)
  intro R11 hR110
  have hR11 := fun {zx1} {zx2} {zx3} {zS} => hR110 zx1 zx2 zx3 zS
  have q14 : (0) ≤ (x2_2).toInt ∧ (x2_2).toInt ≤ (1) := (show B 0 1 (x2_2) from B_w b6 (by decide +kernel) (by decide +kernel))
  have b15 : B 0 511 (T4 91 5) := ⟨by omega, by omega⟩
  unfold b_Co_giveOut_11
  refine ⟨fun hc => ?_, fun hc => ?_⟩
  · have hq16 := hc
    have b17 : B 17 17 (x3_3) := B_w (B_ltR cqb_16_16_16 b7 hq16) (by decide +kernel) (by decide +kernel)
    unfold b_Co_giveOut_97
    refine ⟨B_nar b6 (by decide +kernel) (by decide +kernel), ?_⟩
    have g19 := agc_f (u := 91) (k := 5) (v := 0) (agc_refl (fs := [9105]) (rs := [93, 94]) (F := F)) rfl (by decide +kernel)
    have g18 := agc_tr g19 g9 (by decide +kernel) (by decide +kernel)
    have q20 : (17) ≤ (x3_3).toInt ∧ (x3_3).toInt ≤ (17) := (show B 17 17 (x3_3) from B_w b17 (by decide +kernel) (by decide +kernel))
    exact hK b6 hI8 g18 (fun hx m h1 h2 => (r11) hx m h1 (by have e : (17 : Int32).toInt = 17 := (by decide +kernel); omega)) (by show (x2_2.toInt = 0) ∨ ((T4 91 5).toInt ≤ 256); first | with_reducible assumption | omega)
  · have hq21 := (nlt_le hc)
    have b22 : B 1 16 (x3_3) := B_w (B_leL b7 cqb_16_16_16 hq21) (by decide +kernel) (by decide +kernel)
    refine ⟨fun hc => ?_, fun hc => ?_⟩
    · have b23 : B 0 0 (x2_2) := B_w (B_eq hc cqb_0_0_0) (by decide +kernel) (by decide +kernel)
      have q24 : (0) ≤ (x2_2).toInt ∧ (x2_2).toInt ≤ (0) := (show B 0 0 (x2_2) from B_w b23 (by decide +kernel) (by decide +kernel))
      have i25 : (x2_2).toInt = (0 : Int32).toInt := congrArg Int32.toInt hc
      have n26 : (0 : Int32).toInt = 0 := cqn_0
      unfold b_Co_giveOut_97
      refine ⟨B_nar b23 (by decide +kernel) (by decide +kernel), ?_⟩
      have g28 := agc_f (u := 91) (k := 5) (v := 0) (agc_refl (fs := [9105]) (rs := [93, 94]) (F := F)) rfl (by decide +kernel)
      have g27 := agc_tr g28 g9 (by decide +kernel) (by decide +kernel)
      exact hK (B_w b23 (by decide +kernel) (by decide +kernel)) hI8 g27 (fun h => absurd (B_z b23) h) (by show (x2_2.toInt = 0) ∨ ((T4 91 5).toInt ≤ 256); first | with_reducible assumption | omega)
    · have b29 : B 1 1 (x2_2) := B_w (B_n0 b6 hc) (by decide +kernel) (by decide +kernel)
      have q30 : (1) ≤ (x2_2).toInt ∧ (x2_2).toInt ≤ (1) := (show B 1 1 (x2_2) from B_w b29 (by decide +kernel) (by decide +kernel))
      refine ⟨(show ¬ ((93 : Nat) = NU) from by decide +kernel), ?_⟩
      refine ⟨(show c_cl UL 93 = 902 from cl_93), ?_⟩
      refine ⟨(show vp_in (x3_3) 17 from vp_B b22 (by decide +kernel) (by decide +kernel)), ?_⟩
      refine ⟨(show ¬ ((94 : Nat) = NU) from by decide +kernel), ?_⟩
      refine ⟨(show c_cl UL 94 = 902 from cl_94), ?_⟩
      refine ⟨(show vp_in (x3_3) 17 from vp_B b22 (by decide +kernel) (by decide +kernel)), ?_⟩
      refine ⟨(show ¬ ((92 : Nat) = NU) from by decide +kernel), ?_⟩
      refine ⟨(show c_cl UL 92 = 902 from cl_92), ?_⟩
      refine ⟨(show vp_in (x3_3) 17 from vp_B b22 (by decide +kernel) (by decide +kernel)), ?_⟩
      refine ⟨(show ¬ ((92 : Nat) = NU) from by decide +kernel), ?_⟩
      refine ⟨(show vp_in (x3_3) 17 from vp_B b22 (by decide +kernel) (by decide +kernel)), ?_⟩
      refine ⟨(show ¬ ((95 : Nat) = NU) from by decide +kernel), ?_⟩
      refine ⟨(show c_cl UL 95 = 902 from cl_95), ?_⟩
      refine ⟨fun hc => ?_, fun hc => ?_⟩
      · have hq31 := hc
        have b32 : B 257 766 ((T4 91 5) + (T4 92 x3_3.toNatClampNeg)) := B_w (B_ltR cqb_256_256_256 (B_add b15 (B_eq (congrFun (g9.2 92 rfl rfl) x3_3.toNatClampNeg) (show B 0 255 (F 92 x3_3.toNatClampNeg) from hI 92 x3_3.toNatClampNeg)) (by decide +kernel) (by decide +kernel)) hq31) (by decide +kernel) (by decide +kernel)
        have q33 : (0) ≤ (F 92 x3_3.toNatClampNeg).toInt ∧ (F 92 x3_3.toNatClampNeg).toInt ≤ (255) := (show B 0 255 (F 92 x3_3.toNatClampNeg) from hI 92 x3_3.toNatClampNeg)
        have e34 : (T4 92 x3_3.toNatClampNeg).toInt = (F 92 x3_3.toNatClampNeg).toInt := (congrArg Int32.toInt (congrFun (g9.2 92 rfl rfl) x3_3.toNatClampNeg)).trans rfl
        have e35 : ((T4 91 5) + (T4 92 x3_3.toNatClampNeg)).toInt = ((T4 91 5).toInt + (F 92 x3_3.toNatClampNeg).toInt) := (t_add b15 (B_eq (congrFun (g9.2 92 rfl rfl) x3_3.toNatClampNeg) (show B 0 255 (F 92 x3_3.toNatClampNeg) from hI 92 x3_3.toNatClampNeg)) (by decide +kernel) (by decide +kernel)).trans (by rw [e34])
        have q36 : (257) ≤ ((T4 91 5) + (T4 92 x3_3.toNatClampNeg)).toInt ∧ ((T4 91 5) + (T4 92 x3_3.toNatClampNeg)).toInt ≤ (766) := (show B 257 766 ((T4 91 5) + (T4 92 x3_3.toNatClampNeg)) from B_w b32 (by decide +kernel) (by decide +kernel))
        have i37 : (256 : Int32).toInt < ((T4 91 5) + (T4 92 x3_3.toNatClampNeg)).toInt := i_lt hq31
        have n38 : (256 : Int32).toInt = 256 := cqn_256
        unfold b_Co_giveOut_85
        unfold b_Co_giveOut_86
        have hI39 := IMc_u (u := 93) (i := x3_3.toNatClampNeg) (v := x1_1) hI8 (show B (-2147483648) 2147483647 (x1_1) from (B_w b5 (by decide +kernel) (by decide +kernel)))
        have hI40 := IMc_u (u := 94) (i := x3_3.toNatClampNeg) (v := T4 91 5) hI39 (show B (-2147483648) 2147483647 (T4 91 5) from (B_w b15 (by decide +kernel) (by decide +kernel)))
        have hI41 := IMc_u (u := 91) (i := 5) (v := (T4 91 5) + (T4 92 x3_3.toNatClampNeg)) hI40 (show B (-2147483648) 2147483647 ((T4 91 5) + (T4 92 x3_3.toNatClampNeg)) from (B_w b32 (by decide +kernel) (by decide +kernel)))
        have g45 := agc_tr (agc_refl (fs := [9105]) (rs := [93, 94]) (F := va_up F 91 (upd (F 91) 5 0))) g9 (by decide +kernel) (by decide +kernel)
        have g44 := agc_r (u := 93) (w := upd (T4 93) x3_3.toNatClampNeg x1_1) g45 rfl (by decide +kernel)
        have g43 := agc_r (u := 94) (w := upd (T4 94) x3_3.toNatClampNeg (T4 91 5)) g44 rfl (by decide +kernel)
        have g42 := agc_f (u := 91) (k := 5) (v := (T4 91 5) + (T4 92 x3_3.toNatClampNeg)) g43 rfl (by decide +kernel)
        have q46 : (1) ≤ (x3_3).toInt ∧ (x3_3).toInt ≤ (16) := (show B 1 16 (x3_3) from B_w b22 (by decide +kernel) (by decide +kernel))
        have e47 : (x3_3 + 1).toInt = ((x3_3).toInt + 1) := (t_add b22 cqb_1_1_1 (by decide +kernel) (by decide +kernel)).trans (by rw [cqn_1])
        have q48 : (2) ≤ (x3_3 + 1).toInt ∧ (x3_3 + 1).toInt ≤ (17) := (show B 2 17 (x3_3 + 1) from B_w (B_add b22 cqb_1_1_1 (by decide +kernel) (by decide +kernel)) (by decide +kernel) (by decide +kernel))
        exact hR11 ⟨(B_w (B_any _) (by decide +kernel) (by decide +kernel)), (B_w cqb_0_0_0 (by decide +kernel) (by decide +kernel)), (B_w (B_add b22 cqb_1_1_1 (by decide +kernel) (by decide +kernel)) (by decide +kernel) (by decide +kernel)), _, _, rfl, hI41, g42, (fun h => absurd rfl h), (by show (0 ≤ ((T4 91 5) + (T4 92 x3_3.toNatClampNeg)).toInt) ∧ (((T4 91 5) + (T4 92 x3_3.toNatClampNeg)).toInt ≤ 511); first | with_reducible assumption | omega), (by show ((0 : Int) = 0) ∨ (((T4 91 5) + (T4 92 x3_3.toNatClampNeg)).toInt ≤ 256); first | with_reducible assumption | omega)⟩ (by show (17 - (x3_3 + 1).toInt).toNat < (17 - x3_3.toInt).toNat; omega)
      · have hq49 := (nlt_le hc)
        have b50 : B 0 256 ((T4 91 5) + (T4 92 x3_3.toNatClampNeg)) := B_w (B_leL (B_add b15 (B_eq (congrFun (g9.2 92 rfl rfl) x3_3.toNatClampNeg) (show B 0 255 (F 92 x3_3.toNatClampNeg) from hI 92 x3_3.toNatClampNeg)) (by decide +kernel) (by decide +kernel)) cqb_256_256_256 hq49) (by decide +kernel) (by decide +kernel)
        have q51 : (0) ≤ (F 92 x3_3.toNatClampNeg).toInt ∧ (F 92 x3_3.toNatClampNeg).toInt ≤ (255) := (show B 0 255 (F 92 x3_3.toNatClampNeg) from hI 92 x3_3.toNatClampNeg)
        have e52 : (T4 92 x3_3.toNatClampNeg).toInt = (F 92 x3_3.toNatClampNeg).toInt := (congrArg Int32.toInt (congrFun (g9.2 92 rfl rfl) x3_3.toNatClampNeg)).trans rfl
        have e53 : ((T4 91 5) + (T4 92 x3_3.toNatClampNeg)).toInt = ((T4 91 5).toInt + (F 92 x3_3.toNatClampNeg).toInt) := (t_add b15 (B_eq (congrFun (g9.2 92 rfl rfl) x3_3.toNatClampNeg) (show B 0 255 (F 92 x3_3.toNatClampNeg) from hI 92 x3_3.toNatClampNeg)) (by decide +kernel) (by decide +kernel)).trans (by rw [e52])
        have q54 : (0) ≤ ((T4 91 5) + (T4 92 x3_3.toNatClampNeg)).toInt ∧ ((T4 91 5) + (T4 92 x3_3.toNatClampNeg)).toInt ≤ (256) := (show B 0 256 ((T4 91 5) + (T4 92 x3_3.toNatClampNeg)) from B_w b50 (by decide +kernel) (by decide +kernel))
        have i55 : ((T4 91 5) + (T4 92 x3_3.toNatClampNeg)).toInt ≤ (256 : Int32).toInt := i_le hq49
        have n56 : (256 : Int32).toInt = 256 := cqn_256
        refine ⟨fun hc => ?_, fun hc => ?_⟩
        · have hq57 := hc
          have i58 : (((1 : Int32) <<< (x3_3 &&& 31 : Int32) : Int32)).toInt ≤ (x1_1 + (T4 92 x3_3.toNatClampNeg)).toInt := i_le hq57
          unfold b_Co_giveOut_85
          unfold b_Co_giveOut_86
          have hI59 := IMc_u (u := 93) (i := x3_3.toNatClampNeg) (v := x1_1) hI8 (show B (-2147483648) 2147483647 (x1_1) from (B_w b5 (by decide +kernel) (by decide +kernel)))
          have hI60 := IMc_u (u := 94) (i := x3_3.toNatClampNeg) (v := T4 91 5) hI59 (show B (-2147483648) 2147483647 (T4 91 5) from (B_w b15 (by decide +kernel) (by decide +kernel)))
          have hI61 := IMc_u (u := 91) (i := 5) (v := (T4 91 5) + (T4 92 x3_3.toNatClampNeg)) hI60 (show B (-2147483648) 2147483647 ((T4 91 5) + (T4 92 x3_3.toNatClampNeg)) from (B_w b50 (by decide +kernel) (by decide +kernel)))
          have g65 := agc_tr (agc_refl (fs := [9105]) (rs := [93, 94]) (F := va_up F 91 (upd (F 91) 5 0))) g9 (by decide +kernel) (by decide +kernel)
          have g64 := agc_r (u := 93) (w := upd (T4 93) x3_3.toNatClampNeg x1_1) g65 rfl (by decide +kernel)
          have g63 := agc_r (u := 94) (w := upd (T4 94) x3_3.toNatClampNeg (T4 91 5)) g64 rfl (by decide +kernel)
          have g62 := agc_f (u := 91) (k := 5) (v := (T4 91 5) + (T4 92 x3_3.toNatClampNeg)) g63 rfl (by decide +kernel)
          have q66 : (1) ≤ (x3_3).toInt ∧ (x3_3).toInt ≤ (16) := (show B 1 16 (x3_3) from B_w b22 (by decide +kernel) (by decide +kernel))
          have e67 : (x3_3 + 1).toInt = ((x3_3).toInt + 1) := (t_add b22 cqb_1_1_1 (by decide +kernel) (by decide +kernel)).trans (by rw [cqn_1])
          have q68 : (2) ≤ (x3_3 + 1).toInt ∧ (x3_3 + 1).toInt ≤ (17) := (show B 2 17 (x3_3 + 1) from B_w (B_add b22 cqb_1_1_1 (by decide +kernel) (by decide +kernel)) (by decide +kernel) (by decide +kernel))
          exact hR11 ⟨(B_w (B_any _) (by decide +kernel) (by decide +kernel)), (B_w cqb_0_0_0 (by decide +kernel) (by decide +kernel)), (B_w (B_add b22 cqb_1_1_1 (by decide +kernel) (by decide +kernel)) (by decide +kernel) (by decide +kernel)), _, _, rfl, hI61, g62, (fun h => absurd rfl h), (by show (0 ≤ ((T4 91 5) + (T4 92 x3_3.toNatClampNeg)).toInt) ∧ (((T4 91 5) + (T4 92 x3_3.toNatClampNeg)).toInt ≤ 511); first | with_reducible assumption | omega), (by show ((0 : Int) = 0) ∨ (((T4 91 5) + (T4 92 x3_3.toNatClampNeg)).toInt ≤ 256); first | with_reducible assumption | omega)⟩ (by show (17 - (x3_3 + 1).toInt).toNat < (17 - x3_3.toInt).toNat; omega)
        · have hq69 := (nle_lt hc)
          have b70 : B (-2147483648) 2147483646 (x1_1 + (T4 92 x3_3.toNatClampNeg)) := B_w (B_ltL (B_any _) (B_any _) hq69) (by decide +kernel) (by decide +kernel)
          have b71 : B (-2147483647) 2147483647 (((1 : Int32) <<< (x3_3 &&& 31 : Int32) : Int32)) := B_w (B_ltR (B_any _) (B_any _) hq69) (by decide +kernel) (by decide +kernel)
          have q72 : (-2147483648) ≤ (x1_1 + (T4 92 x3_3.toNatClampNeg)).toInt ∧ (x1_1 + (T4 92 x3_3.toNatClampNeg)).toInt ≤ (2147483646) := (show B (-2147483648) 2147483646 (x1_1 + (T4 92 x3_3.toNatClampNeg)) from B_w b70 (by decide +kernel) (by decide +kernel))
          have q73 : (-2147483647) ≤ (((1 : Int32) <<< (x3_3 &&& 31 : Int32) : Int32)).toInt ∧ (((1 : Int32) <<< (x3_3 &&& 31 : Int32) : Int32)).toInt ≤ (2147483647) := (show B (-2147483647) 2147483647 (((1 : Int32) <<< (x3_3 &&& 31 : Int32) : Int32)) from B_w b71 (by decide +kernel) (by decide +kernel))
          have i74 : (x1_1 + (T4 92 x3_3.toNatClampNeg)).toInt < (((1 : Int32) <<< (x3_3 &&& 31 : Int32) : Int32)).toInt := i_lt hq69
          unfold b_Co_giveOut_86
          have hI75 := IMc_u (u := 93) (i := x3_3.toNatClampNeg) (v := x1_1) hI8 (show B (-2147483648) 2147483647 (x1_1) from (B_w b5 (by decide +kernel) (by decide +kernel)))
          have hI76 := IMc_u (u := 94) (i := x3_3.toNatClampNeg) (v := T4 91 5) hI75 (show B (-2147483648) 2147483647 (T4 91 5) from (B_w b15 (by decide +kernel) (by decide +kernel)))
          have hI77 := IMc_u (u := 91) (i := 5) (v := (T4 91 5) + (T4 92 x3_3.toNatClampNeg)) hI76 (show B (-2147483648) 2147483647 ((T4 91 5) + (T4 92 x3_3.toNatClampNeg)) from (B_w b50 (by decide +kernel) (by decide +kernel)))
          have g81 := agc_tr (agc_refl (fs := [9105]) (rs := [93, 94]) (F := va_up F 91 (upd (F 91) 5 0))) g9 (by decide +kernel) (by decide +kernel)
          have g80 := agc_r (u := 93) (w := upd (T4 93) x3_3.toNatClampNeg x1_1) g81 rfl (by decide +kernel)
          have g79 := agc_r (u := 94) (w := upd (T4 94) x3_3.toNatClampNeg (T4 91 5)) g80 rfl (by decide +kernel)
          have g78 := agc_f (u := 91) (k := 5) (v := (T4 91 5) + (T4 92 x3_3.toNatClampNeg)) g79 rfl (by decide +kernel)
          have q82 : (1) ≤ (x3_3).toInt ∧ (x3_3).toInt ≤ (16) := (show B 1 16 (x3_3) from B_w b22 (by decide +kernel) (by decide +kernel))
          have e83 : (x3_3 + 1).toInt = ((x3_3).toInt + 1) := (t_add b22 cqb_1_1_1 (by decide +kernel) (by decide +kernel)).trans (by rw [cqn_1])
          have q84 : (2) ≤ (x3_3 + 1).toInt ∧ (x3_3 + 1).toInt ≤ (17) := (show B 2 17 (x3_3 + 1) from B_w (B_add b22 cqb_1_1_1 (by decide +kernel) (by decide +kernel)) (by decide +kernel) (by decide +kernel))
          exact hR11 ⟨(B_w (B_any _) (by decide +kernel) (by decide +kernel)), (B_w cqb_1_1_1 (by decide +kernel) (by decide +kernel)), (B_w (B_add b22 cqb_1_1_1 (by decide +kernel) (by decide +kernel)) (by decide +kernel) (by decide +kernel)), _, _, rfl, hI77, g78, (gQ_up (u := 91) (F := T4) (G := va_up (va_up (va_up T4 93 (upd (T4 93) x3_3.toNatClampNeg x1_1)) 94 (upd (T4 94) x3_3.toNatClampNeg (T4 91 5))) 91 (upd (T4 91) 5 ((T4 91 5) + (T4 92 x3_3.toNatClampNeg)))) (x := x2_2) (x' := 1) (n := x3_3) (n' := x3_3 + 1) r11 (fun _ => B_nz b29 (by decide +kernel)) (by omega) (by omega) rfl (T4 91 5) rfl (fun _ => ⟨by omega, by show (T4 91 5).toInt + (T4 92 x3_3.toNatClampNeg).toInt ≤ 256; first | with_reducible assumption | omega⟩)), (by show (0 ≤ ((T4 91 5) + (T4 92 x3_3.toNatClampNeg)).toInt) ∧ (((T4 91 5) + (T4 92 x3_3.toNatClampNeg)).toInt ≤ 511); first | with_reducible assumption | omega), (by show ((1 : Int) = 0) ∨ (((T4 91 5) + (T4 92 x3_3.toNatClampNeg)).toInt ≤ 256); first | with_reducible assumption | omega)⟩ (by show (17 - (x3_3 + 1).toInt).toNat < (17 - x3_3.toInt).toNat; omega)
set_option maxRecDepth 20000 in
set_option maxHeartbeats 4000000 in
theorem h_Co_giveOut_u96 {a : Bool} {b : Bool} {P : Nat → Nat → Nat} {F : cF} {L : cL} {K : Int32 → cs → Prop} (hI : IMc F) (hK : ∀ {v : Int32} {Z : cF} {LZ : cL}, B 0 1 v → IMc Z → agc [9605] [98, 99] F Z → (gQ 96 v 17 Z) → ((v.toInt = 0) ∨ ((Z 96 5).toInt ≤ 256)) → K v (Z, LZ, PC a b P)) : p_Co_giveOut UL 96 (F, L, PC a b P) K := by
  unfold p_Co_giveOut
  have hI10 := IMc_u (u := 96) (i := 5) (v := 0) hI (show B (-2147483648) 2147483647 (0) from (B_w cqb_0_0_0 (by decide +kernel) (by decide +kernel)))
  refine ⟨fun yx1 yx2 yx3 yS => B (-2147483648) 2147483647 yx1 ∧ B 0 1 yx2 ∧ B 1 17 yx3 ∧ ∃ (T4 : cF) (LT4 : cL), yS = (T4, LT4, PC a b P) ∧ IMc T4 ∧ agc [9605] [98, 99] (va_up F 96 (upd (F 96) 5 0)) T4 ∧ (gQ 96 yx2 yx3 T4) ∧ ((0 ≤ (T4 96 5).toInt) ∧ ((T4 96 5).toInt ≤ 511)) ∧ ((yx2.toInt = 0) ∨ ((T4 96 5).toInt ≤ 256)), fun yx1 yx2 yx3 yS => (17 - yx3.toInt).toNat, ⟨(B_w cqb_0_0_0 (by decide +kernel) (by decide +kernel)), (B_w cqb_1_1_1 (by decide +kernel) (by decide +kernel)), (B_w cqb_1_1_1 (by decide +kernel) (by decide +kernel)), _, _, rfl, hI10, (agc_refl (fs := [9605]) (rs := [98, 99]) (F := va_up F 96 (upd (F 96) 5 0))), (fun _ m h1 h2 => by have e : (1 : Int32).toInt = 1 := (by decide +kernel); omega), (by show ((0 : Int) ≤ 0) ∧ ((0 : Int) ≤ 511); first | with_reducible assumption | omega), (by show ((1 : Int) = 0) ∨ ((0 : Int) ≤ 256); first | with_reducible assumption | omega)⟩, fun x1_1 x2_2 x3_3 ST4 hIv => ?_⟩
  obtain ⟨b5, b6, b7, T4, LT4, rfl, hI8, g9, r11, r12, r13⟩ := hIv
  suffices hs : ∀ (R11 : Int32 → Int32 → Int32 → cs → Prop), (∀ zx1 zx2 zx3 zS, (B (-2147483648) 2147483647 zx1 ∧ B 0 1 zx2 ∧ B 1 17 zx3 ∧ ∃ (T4 : cF) (LT4 : cL), zS = (T4, LT4, PC a b P) ∧ IMc T4 ∧ agc [9605] [98, 99] (va_up F 96 (upd (F 96) 5 0)) T4 ∧ (gQ 96 zx2 zx3 T4) ∧ ((0 ≤ (T4 96 5).toInt) ∧ ((T4 96 5).toInt ≤ 511)) ∧ ((zx2.toInt = 0) ∨ ((T4 96 5).toInt ≤ 256))) → (17 - zx3.toInt).toNat < (17 - x3_3.toInt).toNat → R11 zx1 zx2 zx3 zS) → b_Co_giveOut_11 UL 96 x1_1 x2_2 x3_3 (T4, LT4, PC a b P) R11 K from hs _ (fun _ _ _ _ h1 h2 => ⟨h1, h2⟩)
  intro R11 hR110
  have hR11 := fun {zx1} {zx2} {zx3} {zS} => hR110 zx1 zx2 zx3 zS
  have q14 : (0) ≤ (x2_2).toInt ∧ (x2_2).toInt ≤ (1) := (show B 0 1 (x2_2) from B_w b6 (by decide +kernel) (by decide +kernel))
  have b15 : B 0 511 (T4 96 5) := ⟨by omega, by omega⟩
  unfold b_Co_giveOut_11
  refine ⟨fun hc => ?_, fun hc => ?_⟩
  · have hq16 := hc
    have b17 : B 17 17 (x3_3) := B_w (B_ltR cqb_16_16_16 b7 hq16) (by decide +kernel) (by decide +kernel)
    unfold b_Co_giveOut_97
    refine ⟨B_nar b6 (by decide +kernel) (by decide +kernel), ?_⟩
    have g19 := agc_f (u := 96) (k := 5) (v := 0) (agc_refl (fs := [9605]) (rs := [98, 99]) (F := F)) rfl (by decide +kernel)
    have g18 := agc_tr g19 g9 (by decide +kernel) (by decide +kernel)
    have q20 : (17) ≤ (x3_3).toInt ∧ (x3_3).toInt ≤ (17) := (show B 17 17 (x3_3) from B_w b17 (by decide +kernel) (by decide +kernel))
    exact hK b6 hI8 g18 (fun hx m h1 h2 => (r11) hx m h1 (by have e : (17 : Int32).toInt = 17 := (by decide +kernel); omega)) (by show (x2_2.toInt = 0) ∨ ((T4 96 5).toInt ≤ 256); first | with_reducible assumption | omega)
  · have hq21 := (nlt_le hc)
    have b22 : B 1 16 (x3_3) := B_w (B_leL b7 cqb_16_16_16 hq21) (by decide +kernel) (by decide +kernel)
    refine ⟨fun hc => ?_, fun hc => ?_⟩
    · have b23 : B 0 0 (x2_2) := B_w (B_eq hc cqb_0_0_0) (by decide +kernel) (by decide +kernel)
      have q24 : (0) ≤ (x2_2).toInt ∧ (x2_2).toInt ≤ (0) := (show B 0 0 (x2_2) from B_w b23 (by decide +kernel) (by decide +kernel))
      have i25 : (x2_2).toInt = (0 : Int32).toInt := congrArg Int32.toInt hc
      have n26 : (0 : Int32).toInt = 0 := cqn_0
      unfold b_Co_giveOut_97
      refine ⟨B_nar b23 (by decide +kernel) (by decide +kernel), ?_⟩
      have g28 := agc_f (u := 96) (k := 5) (v := 0) (agc_refl (fs := [9605]) (rs := [98, 99]) (F := F)) rfl (by decide +kernel)
      have g27 := agc_tr g28 g9 (by decide +kernel) (by decide +kernel)
      exact hK (B_w b23 (by decide +kernel) (by decide +kernel)) hI8 g27 (fun h => absurd (B_z b23) h) (by show (x2_2.toInt = 0) ∨ ((T4 96 5).toInt ≤ 256); first | with_reducible assumption | omega)
    · have b29 : B 1 1 (x2_2) := B_w (B_n0 b6 hc) (by decide +kernel) (by decide +kernel)
      have q30 : (1) ≤ (x2_2).toInt ∧ (x2_2).toInt ≤ (1) := (show B 1 1 (x2_2) from B_w b29 (by decide +kernel) (by decide +kernel))
      refine ⟨(show ¬ ((98 : Nat) = NU) from by decide +kernel), ?_⟩
      refine ⟨(show c_cl UL 98 = 902 from cl_98), ?_⟩
      refine ⟨(show vp_in (x3_3) 17 from vp_B b22 (by decide +kernel) (by decide +kernel)), ?_⟩
      refine ⟨(show ¬ ((99 : Nat) = NU) from by decide +kernel), ?_⟩
      refine ⟨(show c_cl UL 99 = 902 from cl_99), ?_⟩
      refine ⟨(show vp_in (x3_3) 17 from vp_B b22 (by decide +kernel) (by decide +kernel)), ?_⟩
      refine ⟨(show ¬ ((97 : Nat) = NU) from by decide +kernel), ?_⟩
      refine ⟨(show c_cl UL 97 = 902 from cl_97), ?_⟩
      refine ⟨(show vp_in (x3_3) 17 from vp_B b22 (by decide +kernel) (by decide +kernel)), ?_⟩
      refine ⟨(show ¬ ((97 : Nat) = NU) from by decide +kernel), ?_⟩
      refine ⟨(show vp_in (x3_3) 17 from vp_B b22 (by decide +kernel) (by decide +kernel)), ?_⟩
      refine ⟨(show ¬ ((100 : Nat) = NU) from by decide +kernel), ?_⟩
      refine ⟨(show c_cl UL 100 = 902 from cl_100), ?_⟩
      refine ⟨fun hc => ?_, fun hc => ?_⟩
      · have hq31 := hc
        have b32 : B 257 766 ((T4 96 5) + (T4 97 x3_3.toNatClampNeg)) := B_w (B_ltR cqb_256_256_256 (B_add b15 (B_eq (congrFun (g9.2 97 rfl rfl) x3_3.toNatClampNeg) (show B 0 255 (F 97 x3_3.toNatClampNeg) from hI 97 x3_3.toNatClampNeg)) (by decide +kernel) (by decide +kernel)) hq31) (by decide +kernel) (by decide +kernel)
        have q33 : (0) ≤ (F 97 x3_3.toNatClampNeg).toInt ∧ (F 97 x3_3.toNatClampNeg).toInt ≤ (255) := (show B 0 255 (F 97 x3_3.toNatClampNeg) from hI 97 x3_3.toNatClampNeg)
        have e34 : (T4 97 x3_3.toNatClampNeg).toInt = (F 97 x3_3.toNatClampNeg).toInt := (congrArg Int32.toInt (congrFun (g9.2 97 rfl rfl) x3_3.toNatClampNeg)).trans rfl
        have e35 : ((T4 96 5) + (T4 97 x3_3.toNatClampNeg)).toInt = ((T4 96 5).toInt + (F 97 x3_3.toNatClampNeg).toInt) := (t_add b15 (B_eq (congrFun (g9.2 97 rfl rfl) x3_3.toNatClampNeg) (show B 0 255 (F 97 x3_3.toNatClampNeg) from hI 97 x3_3.toNatClampNeg)) (by decide +kernel) (by decide +kernel)).trans (by rw [e34])
        have q36 : (257) ≤ ((T4 96 5) + (T4 97 x3_3.toNatClampNeg)).toInt ∧ ((T4 96 5) + (T4 97 x3_3.toNatClampNeg)).toInt ≤ (766) := (show B 257 766 ((T4 96 5) + (T4 97 x3_3.toNatClampNeg)) from B_w b32 (by decide +kernel) (by decide +kernel))
        have i37 : (256 : Int32).toInt < ((T4 96 5) + (T4 97 x3_3.toNatClampNeg)).toInt := i_lt hq31
        have n38 : (256 : Int32).toInt = 256 := cqn_256
        unfold b_Co_giveOut_85
        unfold b_Co_giveOut_86
        have hI39 := IMc_u (u := 98) (i := x3_3.toNatClampNeg) (v := x1_1) hI8 (show B (-2147483648) 2147483647 (x1_1) from (B_w b5 (by decide +kernel) (by decide +kernel)))
        have hI40 := IMc_u (u := 99) (i := x3_3.toNatClampNeg) (v := T4 96 5) hI39 (show B (-2147483648) 2147483647 (T4 96 5) from (B_w b15 (by decide +kernel) (by decide +kernel)))
        have hI41 := IMc_u (u := 96) (i := 5) (v := (T4 96 5) + (T4 97 x3_3.toNatClampNeg)) hI40 (show B (-2147483648) 2147483647 ((T4 96 5) + (T4 97 x3_3.toNatClampNeg)) from (B_w b32 (by decide +kernel) (by decide +kernel)))
        have g45 := agc_tr (agc_refl (fs := [9605]) (rs := [98, 99]) (F := va_up F 96 (upd (F 96) 5 0))) g9 (by decide +kernel) (by decide +kernel)
        have g44 := agc_r (u := 98) (w := upd (T4 98) x3_3.toNatClampNeg x1_1) g45 rfl (by decide +kernel)
        have g43 := agc_r (u := 99) (w := upd (T4 99) x3_3.toNatClampNeg (T4 96 5)) g44 rfl (by decide +kernel)
        have g42 := agc_f (u := 96) (k := 5) (v := (T4 96 5) + (T4 97 x3_3.toNatClampNeg)) g43 rfl (by decide +kernel)
        have q46 : (1) ≤ (x3_3).toInt ∧ (x3_3).toInt ≤ (16) := (show B 1 16 (x3_3) from B_w b22 (by decide +kernel) (by decide +kernel))
        have e47 : (x3_3 + 1).toInt = ((x3_3).toInt + 1) := (t_add b22 cqb_1_1_1 (by decide +kernel) (by decide +kernel)).trans (by rw [cqn_1])
        have q48 : (2) ≤ (x3_3 + 1).toInt ∧ (x3_3 + 1).toInt ≤ (17) := (show B 2 17 (x3_3 + 1) from B_w (B_add b22 cqb_1_1_1 (by decide +kernel) (by decide +kernel)) (by decide +kernel) (by decide +kernel))
        exact hR11 ⟨(B_w (B_any _) (by decide +kernel) (by decide +kernel)), (B_w cqb_0_0_0 (by decide +kernel) (by decide +kernel)), (B_w (B_add b22 cqb_1_1_1 (by decide +kernel) (by decide +kernel)) (by decide +kernel) (by decide +kernel)), _, _, rfl, hI41, g42, (fun h => absurd rfl h), (by show (0 ≤ ((T4 96 5) + (T4 97 x3_3.toNatClampNeg)).toInt) ∧ (((T4 96 5) + (T4 97 x3_3.toNatClampNeg)).toInt ≤ 511); first | with_reducible assumption | omega), (by show ((0 : Int) = 0) ∨ (((T4 96 5) + (T4 97 x3_3.toNatClampNeg)).toInt ≤ 256); first | with_reducible assumption | omega)⟩ (by show (17 - (x3_3 + 1).toInt).toNat < (17 - x3_3.toInt).toNat; omega)
      · have hq49 := (nlt_le hc)
        have b50 : B 0 256 ((T4 96 5) + (T4 97 x3_3.toNatClampNeg)) := B_w (B_leL (B_add b15 (B_eq (congrFun (g9.2 97 rfl rfl) x3_3.toNatClampNeg) (show B 0 255 (F 97 x3_3.toNatClampNeg) from hI 97 x3_3.toNatClampNeg)) (by decide +kernel) (by decide +kernel)) cqb_256_256_256 hq49) (by decide +kernel) (by decide +kernel)
        have q51 : (0) ≤ (F 97 x3_3.toNatClampNeg).toInt ∧ (F 97 x3_3.toNatClampNeg).toInt ≤ (255) := (show B 0 255 (F 97 x3_3.toNatClampNeg) from hI 97 x3_3.toNatClampNeg)
        have e52 : (T4 97 x3_3.toNatClampNeg).toInt = (F 97 x3_3.toNatClampNeg).toInt := (congrArg Int32.toInt (congrFun (g9.2 97 rfl rfl) x3_3.toNatClampNeg)).trans rfl
        have e53 : ((T4 96 5) + (T4 97 x3_3.toNatClampNeg)).toInt = ((T4 96 5).toInt + (F 97 x3_3.toNatClampNeg).toInt) := (t_add b15 (B_eq (congrFun (g9.2 97 rfl rfl) x3_3.toNatClampNeg) (show B 0 255 (F 97 x3_3.toNatClampNeg) from hI 97 x3_3.toNatClampNeg)) (by decide +kernel) (by decide +kernel)).trans (by rw [e52])
        have q54 : (0) ≤ ((T4 96 5) + (T4 97 x3_3.toNatClampNeg)).toInt ∧ ((T4 96 5) + (T4 97 x3_3.toNatClampNeg)).toInt ≤ (256) := (show B 0 256 ((T4 96 5) + (T4 97 x3_3.toNatClampNeg)) from B_w b50 (by decide +kernel) (by decide +kernel))
        have i55 : ((T4 96 5) + (T4 97 x3_3.toNatClampNeg)).toInt ≤ (256 : Int32).toInt := i_le hq49
        have n56 : (256 : Int32).toInt = 256 := cqn_256
        refine ⟨fun hc => ?_, fun hc => ?_⟩
        · have hq57 := hc
          have i58 : (((1 : Int32) <<< (x3_3 &&& 31 : Int32) : Int32)).toInt ≤ (x1_1 + (T4 97 x3_3.toNatClampNeg)).toInt := i_le hq57
          unfold b_Co_giveOut_85
          unfold b_Co_giveOut_86
          have hI59 := IMc_u (u := 98) (i := x3_3.toNatClampNeg) (v := x1_1) hI8 (show B (-2147483648) 2147483647 (x1_1) from (B_w b5 (by decide +kernel) (by decide +kernel)))
          have hI60 := IMc_u (u := 99) (i := x3_3.toNatClampNeg) (v := T4 96 5) hI59 (show B (-2147483648) 2147483647 (T4 96 5) from (B_w b15 (by decide +kernel) (by decide +kernel)))
          have hI61 := IMc_u (u := 96) (i := 5) (v := (T4 96 5) + (T4 97 x3_3.toNatClampNeg)) hI60 (show B (-2147483648) 2147483647 ((T4 96 5) + (T4 97 x3_3.toNatClampNeg)) from (B_w b50 (by decide +kernel) (by decide +kernel)))
          have g65 := agc_tr (agc_refl (fs := [9605]) (rs := [98, 99]) (F := va_up F 96 (upd (F 96) 5 0))) g9 (by decide +kernel) (by decide +kernel)
          have g64 := agc_r (u := 98) (w := upd (T4 98) x3_3.toNatClampNeg x1_1) g65 rfl (by decide +kernel)
          have g63 := agc_r (u := 99) (w := upd (T4 99) x3_3.toNatClampNeg (T4 96 5)) g64 rfl (by decide +kernel)
          have g62 := agc_f (u := 96) (k := 5) (v := (T4 96 5) + (T4 97 x3_3.toNatClampNeg)) g63 rfl (by decide +kernel)
          have q66 : (1) ≤ (x3_3).toInt ∧ (x3_3).toInt ≤ (16) := (show B 1 16 (x3_3) from B_w b22 (by decide +kernel) (by decide +kernel))
          have e67 : (x3_3 + 1).toInt = ((x3_3).toInt + 1) := (t_add b22 cqb_1_1_1 (by decide +kernel) (by decide +kernel)).trans (by rw [cqn_1])
          have q68 : (2) ≤ (x3_3 + 1).toInt ∧ (x3_3 + 1).toInt ≤ (17) := (show B 2 17 (x3_3 + 1) from B_w (B_add b22 cqb_1_1_1 (by decide +kernel) (by decide +kernel)) (by decide +kernel) (by decide +kernel))
          exact hR11 ⟨(B_w (B_any _) (by decide +kernel) (by decide +kernel)), (B_w cqb_0_0_0 (by decide +kernel) (by decide +kernel)), (B_w (B_add b22 cqb_1_1_1 (by decide +kernel) (by decide +kernel)) (by decide +kernel) (by decide +kernel)), _, _, rfl, hI61, g62, (fun h => absurd rfl h), (by show (0 ≤ ((T4 96 5) + (T4 97 x3_3.toNatClampNeg)).toInt) ∧ (((T4 96 5) + (T4 97 x3_3.toNatClampNeg)).toInt ≤ 511); first | with_reducible assumption | omega), (by show ((0 : Int) = 0) ∨ (((T4 96 5) + (T4 97 x3_3.toNatClampNeg)).toInt ≤ 256); first | with_reducible assumption | omega)⟩ (by show (17 - (x3_3 + 1).toInt).toNat < (17 - x3_3.toInt).toNat; omega)
        · have hq69 := (nle_lt hc)
          have b70 : B (-2147483648) 2147483646 (x1_1 + (T4 97 x3_3.toNatClampNeg)) := B_w (B_ltL (B_any _) (B_any _) hq69) (by decide +kernel) (by decide +kernel)
          have b71 : B (-2147483647) 2147483647 (((1 : Int32) <<< (x3_3 &&& 31 : Int32) : Int32)) := B_w (B_ltR (B_any _) (B_any _) hq69) (by decide +kernel) (by decide +kernel)
          have q72 : (-2147483648) ≤ (x1_1 + (T4 97 x3_3.toNatClampNeg)).toInt ∧ (x1_1 + (T4 97 x3_3.toNatClampNeg)).toInt ≤ (2147483646) := (show B (-2147483648) 2147483646 (x1_1 + (T4 97 x3_3.toNatClampNeg)) from B_w b70 (by decide +kernel) (by decide +kernel))
          have q73 : (-2147483647) ≤ (((1 : Int32) <<< (x3_3 &&& 31 : Int32) : Int32)).toInt ∧ (((1 : Int32) <<< (x3_3 &&& 31 : Int32) : Int32)).toInt ≤ (2147483647) := (show B (-2147483647) 2147483647 (((1 : Int32) <<< (x3_3 &&& 31 : Int32) : Int32)) from B_w b71 (by decide +kernel) (by decide +kernel))
          have i74 : (x1_1 + (T4 97 x3_3.toNatClampNeg)).toInt < (((1 : Int32) <<< (x3_3 &&& 31 : Int32) : Int32)).toInt := i_lt hq69
          unfold b_Co_giveOut_86
          have hI75 := IMc_u (u := 98) (i := x3_3.toNatClampNeg) (v := x1_1) hI8 (show B (-2147483648) 2147483647 (x1_1) from (B_w b5 (by decide +kernel) (by decide +kernel)))
          have hI76 := IMc_u (u := 99) (i := x3_3.toNatClampNeg) (v := T4 96 5) hI75 (show B (-2147483648) 2147483647 (T4 96 5) from (B_w b15 (by decide +kernel) (by decide +kernel)))
          have hI77 := IMc_u (u := 96) (i := 5) (v := (T4 96 5) + (T4 97 x3_3.toNatClampNeg)) hI76 (show B (-2147483648) 2147483647 ((T4 96 5) + (T4 97 x3_3.toNatClampNeg)) from (B_w b50 (by decide +kernel) (by decide +kernel)))
          have g81 := agc_tr (agc_refl (fs := [9605]) (rs := [98, 99]) (F := va_up F 96 (upd (F 96) 5 0))) g9 (by decide +kernel) (by decide +kernel)
          have g80 := agc_r (u := 98) (w := upd (T4 98) x3_3.toNatClampNeg x1_1) g81 rfl (by decide +kernel)
          have g79 := agc_r (u := 99) (w := upd (T4 99) x3_3.toNatClampNeg (T4 96 5)) g80 rfl (by decide +kernel)
          have g78 := agc_f (u := 96) (k := 5) (v := (T4 96 5) + (T4 97 x3_3.toNatClampNeg)) g79 rfl (by decide +kernel)
          have q82 : (1) ≤ (x3_3).toInt ∧ (x3_3).toInt ≤ (16) := (show B 1 16 (x3_3) from B_w b22 (by decide +kernel) (by decide +kernel))
          have e83 : (x3_3 + 1).toInt = ((x3_3).toInt + 1) := (t_add b22 cqb_1_1_1 (by decide +kernel) (by decide +kernel)).trans (by rw [cqn_1])
          have q84 : (2) ≤ (x3_3 + 1).toInt ∧ (x3_3 + 1).toInt ≤ (17) := (show B 2 17 (x3_3 + 1) from B_w (B_add b22 cqb_1_1_1 (by decide +kernel) (by decide +kernel)) (by decide +kernel) (by decide +kernel))
          exact hR11 ⟨(B_w (B_any _) (by decide +kernel) (by decide +kernel)), (B_w cqb_1_1_1 (by decide +kernel) (by decide +kernel)), (B_w (B_add b22 cqb_1_1_1 (by decide +kernel) (by decide +kernel)) (by decide +kernel) (by decide +kernel)), _, _, rfl, hI77, g78, (gQ_up (u := 96) (F := T4) (G := va_up (va_up (va_up T4 98 (upd (T4 98) x3_3.toNatClampNeg x1_1)) 99 (upd (T4 99) x3_3.toNatClampNeg (T4 96 5))) 96 (upd (T4 96) 5 ((T4 96 5) + (T4 97 x3_3.toNatClampNeg)))) (x := x2_2) (x' := 1) (n := x3_3) (n' := x3_3 + 1) r11 (fun _ => B_nz b29 (by decide +kernel)) (by omega) (by omega) rfl (T4 96 5) rfl (fun _ => ⟨by omega, by show (T4 96 5).toInt + (T4 97 x3_3.toNatClampNeg).toInt ≤ 256; first | with_reducible assumption | omega⟩)), (by show (0 ≤ ((T4 96 5) + (T4 97 x3_3.toNatClampNeg)).toInt) ∧ (((T4 96 5) + (T4 97 x3_3.toNatClampNeg)).toInt ≤ 511); first | with_reducible assumption | omega), (by show ((1 : Int) = 0) ∨ (((T4 96 5) + (T4 97 x3_3.toNatClampNeg)).toInt ≤ 256); first | with_reducible assumption | omega)⟩ (by show (17 - (x3_3 + 1).toInt).toNat < (17 - x3_3.toInt).toNat; omega)
set_option maxRecDepth 20000 in
set_option maxHeartbeats 4000000 in
theorem h_Un_readCodes_u59 {a : Bool} {b : Bool} {P : Nat → Nat → Nat} {F : cF} {L : cL} {K : cs → Prop} {T : Nat → cs → Prop} (hI : IMc F) (pre0 : CV F) (hK : ∀ {Z : cF} {LZ : cL}, IMc Z → agc [6001, 8100, 8105, 8600, 8605, 9100, 9105, 9600, 9605] [82, 83, 84, 85, 87, 88, 89, 90, 92, 93, 94, 95, 97, 98, 99, 100, 999] F Z → (CV Z) → K (Z, LZ, PC a b P)) (hT13 : ∀ {Z : cF} {LZ : cL}, IMc Z → agc [6001, 6006, 6007, 8105, 8605, 9105, 9605] [82, 83, 84, 85, 87, 88, 89, 90, 92, 93, 94, 95, 97, 98, 99, 100, 999] F Z → T 13 (Z, LZ, PC a b P)) : p_Un_readCodes UL 59 (F, L, PC a b P) K T := by
  unfold p_Un_readCodes
  refine h_Un_readWithin_u59 hI (fun {v4_1} {FS4_2} {LFS4_2} b3 hI4 g5 r6 => ?_) (fun hI g => hT13 hI (agc_tr (agc_refl (fs := [6001, 6006, 6007, 8105, 8605, 9105, 9605]) (rs := [82, 83, 84, 85, 87, 88, 89, 90, 92, 93, 94, 95, 97, 98, 99, 100, 999]) (F := F)) g (by decide +kernel) (by decide +kernel)))
  have r7 : (0 ≤ v4_1.toInt) ∧ (v4_1.toInt ≤ 17) := r6
  clear r6
  have q8 : (0) ≤ (v4_1).toInt ∧ (v4_1).toInt ≤ (255) := (show B 0 255 (v4_1) from B_w b3 (by decide +kernel) (by decide +kernel))
  have b9 : B 0 17 v4_1 := ⟨by omega, by omega⟩
  refine ⟨fun hc => ?_, fun hc => ?_⟩
  · have hq10 := hc
    have b11 : B 0 1 (v4_1 - ((v4_1 / 16) * 16)) := B_w (B_leL (B_rem b9 cqb_16_16_16 (by decide +kernel) (by decide +kernel)) cqb_1_1_1 hq10) (by decide +kernel) (by decide +kernel)
    have e12 : (v4_1 - ((v4_1 / 16) * 16)).toInt = ((v4_1).toInt % 16) := (t_rem b9 cqb_16_16_16 (by decide +kernel) (by decide +kernel)).trans (by rw [cqn_16])
    have q13 : (0) ≤ (v4_1 - ((v4_1 / 16) * 16)).toInt ∧ (v4_1 - ((v4_1 / 16) * 16)).toInt ≤ (1) := (show B 0 1 (v4_1 - ((v4_1 / 16) * 16)) from B_w b11 (by decide +kernel) (by decide +kernel))
    have i14 : (v4_1 - ((v4_1 / 16) * 16)).toInt ≤ (1 : Int32).toInt := i_le hq10
    have n15 : (1 : Int32).toInt = 1 := cqn_1
    unfold b_Un_readCodes_33
    refine ⟨(show ¬ ((80 : Nat) = NU) from by decide +kernel), ?_⟩
    refine ⟨(show c_cl UL 80 = 951 from cl_80), ?_⟩
    refine ⟨(show vp_in (((v4_1 / 16) * 2) + (v4_1 - ((v4_1 / 16) * 16))) 4 from vp_B (B_add (B_mul (show B 0 1 (v4_1 / 16) from B_div2 b9 cqb_16_16_16 (by decide +kernel) (by decide +kernel) (by decide +kernel) (by decide +kernel)) cqb_2_2_2 (by decide +kernel) (by decide +kernel) (by decide +kernel)) b11 (by decide +kernel) (by decide +kernel)) (by decide +kernel) (by decide +kernel)), ?_⟩
    generalize hgxx16 : ((v4_1 / 16) * 2) + (v4_1 - ((v4_1 / 16) * 16)) = xx16
    have b17 : B 0 3 xx16 := by rw [← hgxx16]; exact (B_w (B_add (B_mul (show B 0 1 (v4_1 / 16) from B_div2 b9 cqb_16_16_16 (by decide +kernel) (by decide +kernel) (by decide +kernel) (by decide +kernel)) cqb_2_2_2 (by decide +kernel) (by decide +kernel) (by decide +kernel)) b11 (by decide +kernel) (by decide +kernel)) (by decide +kernel) (by decide +kernel))
    rcases sp_03 b17 with rfl | rfl | rfl | rfl
    · refine ⟨(show ¬ ((81 : Nat) = NU) from by decide +kernel), ?_⟩
      refine ⟨(show ¬ ((60 : Nat) = NU) from by decide +kernel), ?_⟩
      refine ⟨(show c_cl UL 60 = 8 from cl_60), ?_⟩
      refine ⟨fun yx1 yx2 yx3 yx4 yS => v4_1 = yx1 ∧ (81 : Nat) = yx2 ∧ (FS4_2 60 1) = yx3 ∧ B 1 17 yx4 ∧ ∃ (T22 : cF) (LT22 : cL), yS = (T22, LT22, PC a b P) ∧ IMc T22 ∧ agc [6001] [82, 999] FS4_2 T22, fun yx1 yx2 yx3 yx4 yS => (17 - yx4.toInt).toNat, ⟨rfl, rfl, rfl, (B_w cqb_1_1_1 (by decide +kernel) (by decide +kernel)), _, _, rfl, hI4, (agc_refl (fs := [6001]) (rs := [82, 999]) (F := FS4_2))⟩, fun x1_18 x2_19 x3_20 x4_21 ST22 hIv => ?_⟩
      obtain ⟨rfl, rfl, rfl, b23, T22, LT22, rfl, hI24, g25⟩ := hIv
      suffices hs : ∀ (R61 : Int32 → Nat → Int32 → Int32 → cs → Prop), (∀ zx1 zx2 zx3 zx4 zS, (v4_1 = zx1 ∧ (81 : Nat) = zx2 ∧ (FS4_2 60 1) = zx3 ∧ B 1 17 zx4 ∧ ∃ (T22 : cF) (LT22 : cL), zS = (T22, LT22, PC a b P) ∧ IMc T22 ∧ agc [6001] [82, 999] FS4_2 T22) → (17 - zx4.toInt).toNat < (17 - x4_21.toInt).toNat → R61 zx1 zx2 zx3 zx4 zS) → b_Un_readCodes_61 UL 59 v4_1 81 (FS4_2 60 1) x4_21 (T22, LT22, PC a b P) R61 K T from hs _ (fun _ _ _ _ _ h1 h2 => ⟨h1, h2⟩)
      intro R61 hR610
      have hR61 := fun {zx1} {zx2} {zx3} {zx4} {zS} => hR610 zx1 zx2 zx3 zx4 zS
      unfold b_Un_readCodes_61
      refine ⟨fun hc => ?_, fun hc => ?_⟩
      · have hq26 := hc
        have b27 : B 17 17 (x4_21) := B_w (B_ltR cqb_16_16_16 b23 hq26) (by decide +kernel) (by decide +kernel)
        refine ⟨(show c_cl UL 81 = 3 from cl_81), ?_⟩
        refine h_Co_giveOut_u81 hI24 (fun {v93_28} {FS93_29} {LFS93_29} b30 hI31 g32 r33 r34 => ?_)
        have r35 : gQ 81 v93_28 17 FS93_29 := r33
        clear r33
        have r36 : (v93_28.toInt = 0) ∨ ((FS93_29 81 5).toInt ≤ 256) := r34
        clear r34
        have q37 : (0) ≤ (v93_28).toInt ∧ (v93_28).toInt ≤ (1) := (show B 0 1 (v93_28) from B_w b30 (by decide +kernel) (by decide +kernel))
        refine ⟨fun hc => ?_, fun hc => ?_⟩
        · have b38 : B 1 1 (v93_28) := B_w (B_n0 b30 hc) (by decide +kernel) (by decide +kernel)
          have q39 : (1) ≤ (v93_28).toInt ∧ (v93_28).toInt ≤ (1) := (show B 1 1 (v93_28) from B_w b38 (by decide +kernel) (by decide +kernel))
          unfold b_Un_readCodes_108
          refine ⟨fun yx1 yx2 yx4 yS => v4_1 = yx1 ∧ (81 : Nat) = yx2 ∧ B 0 256 yx4 ∧ ∃ (T43 : cF) (LT43 : cL), yS = (T43, LT43, PC a b P) ∧ IMc T43 ∧ agc [6001] [85, 999] FS93_29 T43 ∧ (CQu yx2 T43) ∧ ((T43 yx2 5).toInt ≤ 256), fun yx1 yx2 yx4 yS => (256 - yx4.toInt).toNat, ⟨rfl, rfl, (B_w cqb_0_0_0 (by decide +kernel) (by decide +kernel)), _, _, rfl, hI31, (agc_refl (fs := [6001]) (rs := [85, 999]) (F := FS93_29)), (gQ_end r35 (by decide +kernel) (B_nz b38 (by decide +kernel))), (by show (FS93_29 81 5).toInt ≤ 256; first | with_reducible assumption | omega)⟩, fun x1_40 x2_41 x4_42 ST43 hIv => ?_⟩
          obtain ⟨rfl, rfl, b44, T43, LT43, rfl, hI45, g46, r47, r48⟩ := hIv
          suffices hs : ∀ (R111 : Int32 → Nat → Int32 → cs → Prop), (∀ zx1 zx2 zx4 zS, (v4_1 = zx1 ∧ (81 : Nat) = zx2 ∧ B 0 256 zx4 ∧ ∃ (T43 : cF) (LT43 : cL), zS = (T43, LT43, PC a b P) ∧ IMc T43 ∧ agc [6001] [85, 999] FS93_29 T43 ∧ (CQu zx2 T43) ∧ ((T43 zx2 5).toInt ≤ 256)) → (256 - zx4.toInt).toNat < (256 - x4_42.toInt).toNat → R111 zx1 zx2 zx4 zS) → b_Un_readCodes_111 UL 59 v4_1 81 x4_42 (T43, LT43, PC a b P) R111 K T from hs _ (fun _ _ _ _ h1 h2 => ⟨h1, h2⟩)
          intro R111 hR1110
          have hR111 := fun {zx1} {zx2} {zx4} {zS} => hR1110 zx1 zx2 zx4 zS
          have e49 : (T43 81 5).toInt = (FS93_29 81 5).toInt := (congrArg Int32.toInt (g46.1 81 5 rfl rfl)).trans rfl
          unfold b_Un_readCodes_111
          refine ⟨(show c_cl UL 81 = 3 from cl_81), ?_⟩
          refine ⟨fun hc => ?_, fun hc => ?_⟩
          · have hq50 := hc
            have b51 : B (-2147483648) 256 (FS93_29 81 5) := B_w (B_eq (Eq.symm (g46.1 81 5 rfl rfl)) (B_leL (B_eq (g46.1 81 5 rfl rfl) (B_any _)) b44 hq50)) (by decide +kernel) (by decide +kernel)
            have q52 : (-2147483648) ≤ (FS93_29 81 5).toInt ∧ (FS93_29 81 5).toInt ≤ (256) := (show B (-2147483648) 256 (FS93_29 81 5) from B_w b51 (by decide +kernel) (by decide +kernel))
            have q53 : (0) ≤ (x4_42).toInt ∧ (x4_42).toInt ≤ (256) := (show B 0 256 (x4_42) from B_w b44 (by decide +kernel) (by decide +kernel))
            have i54 : (T43 81 5).toInt ≤ (x4_42).toInt := i_le hq50
            have hI55 := IMc_u (u := 81) (i := 0) (v := 1) hI45 (show B 0 1 (1) from (B_w cqb_1_1_1 (by decide +kernel) (by decide +kernel)))
            have g60 := agc_tr (agc_refl (fs := [6001, 8100, 8105, 8600, 8605, 9100, 9105, 9600, 9605]) (rs := [82, 83, 84, 85, 87, 88, 89, 90, 92, 93, 94, 95, 97, 98, 99, 100, 999]) (F := F)) g5 (by decide +kernel) (by decide +kernel)
            have g59 := agc_tr g60 g25 (by decide +kernel) (by decide +kernel)
            have g58 := agc_tr g59 g32 (by decide +kernel) (by decide +kernel)
            have g57 := agc_tr g58 g46 (by decide +kernel) (by decide +kernel)
            have g56 := agc_f (u := 81) (k := 0) (v := 1) g57 rfl (by decide +kernel)
            have g65 := agc_tr (agc_refl (fs := [6001, 8100, 8105]) (rs := [82, 83, 84, 85, 999]) (F := F)) g5 (by decide +kernel) (by decide +kernel)
            have g64 := agc_tr g65 g25 (by decide +kernel) (by decide +kernel)
            have g63 := agc_tr g64 g32 (by decide +kernel) (by decide +kernel)
            have g62 := agc_tr g63 g46 (by decide +kernel) (by decide +kernel)
            have g61 := agc_f (u := 81) (k := 0) (v := 1) g62 rfl (by decide +kernel)
            exact hK hI55 g56 (CV_up0 (F := F) (G := va_up T43 81 (upd (T43 81) 0 1)) pre0 (CQu_tr (u := 81) (F := T43) (G := va_up T43 81 (upd (T43 81) 0 1)) r47 (Eq.trans (g46.2 84 rfl rfl) (Eq.symm (g46.2 84 rfl rfl))) (Eq.trans ((g46.2 82 rfl rfl).trans (g32.2 82 rfl rfl)) (Eq.symm ((g46.2 82 rfl rfl).trans (g32.2 82 rfl rfl))))) g61 (by decide +kernel) (by decide +kernel))
          · have hq66 := (nle_lt hc)
            have b67 : B 1 2147483647 (FS93_29 81 5) := B_w (B_eq (Eq.symm (g46.1 81 5 rfl rfl)) (B_ltR b44 (B_eq (g46.1 81 5 rfl rfl) (B_any _)) hq66)) (by decide +kernel) (by decide +kernel)
            have q68 : (1) ≤ (FS93_29 81 5).toInt ∧ (FS93_29 81 5).toInt ≤ (2147483647) := (show B 1 2147483647 (FS93_29 81 5) from B_w b67 (by decide +kernel) (by decide +kernel))
            have q69 : (0) ≤ (x4_42).toInt ∧ (x4_42).toInt ≤ (256) := (show B 0 256 (x4_42) from B_w b44 (by decide +kernel) (by decide +kernel))
            have i70 : (x4_42).toInt < (T43 81 5).toInt := i_lt hq66
            have g75 := agc_tr (agc_refl (fs := [6001, 6006, 6007, 8105, 8605, 9105, 9605]) (rs := [82, 83, 84, 85, 87, 88, 89, 90, 92, 93, 94, 95, 97, 98, 99, 100, 999]) (F := F)) g5 (by decide +kernel) (by decide +kernel)
            have g74 := agc_tr g75 g25 (by decide +kernel) (by decide +kernel)
            have g73 := agc_tr g74 g32 (by decide +kernel) (by decide +kernel)
            have g72 := agc_tr g73 g46 (by decide +kernel) (by decide +kernel)
            refine h_Un_wantMore_u59 hI45 ?_ (fun hI g => hT13 hI (agc_tr g72 g (by decide +kernel) (by decide +kernel)))
            refine ⟨(show ¬ ((60 : Nat) = NU) from by decide +kernel), ?_⟩
            refine ⟨(show c_cl UL 60 = 8 from cl_60), ?_⟩
            have g85 := agc_tr (agc_refl (fs := [6001, 6006, 6007, 8105, 8605, 9105, 9605]) (rs := [82, 83, 84, 85, 87, 88, 89, 90, 92, 93, 94, 95, 97, 98, 99, 100, 999]) (F := F)) g5 (by decide +kernel) (by decide +kernel)
            have g84 := agc_tr g85 g25 (by decide +kernel) (by decide +kernel)
            have g83 := agc_tr g84 g32 (by decide +kernel) (by decide +kernel)
            have g82 := agc_tr g83 g46 (by decide +kernel) (by decide +kernel)
            refine h_Re_read_u60 hI45 (fun {v128_76} {FS128_77} {LFS128_77} b78 hI79 g80 r81 => ?_) (fun hI g => hT13 hI (agc_tr g82 g (by decide +kernel) (by decide +kernel)))
            have r86 : (FS128_77 60 1).toInt ≤ 32768 := r81
            clear r81
            have q87 : (0) ≤ (FS128_77 60 1).toInt ∧ (FS128_77 60 1).toInt ≤ (98304) := (show B 0 98304 (FS128_77 60 1) from hI79 60 1)
            refine ⟨fun hc => ?_, fun hc => ?_⟩
            · have hq88 := hc
              have b89 : B 16 17 (v4_1) := B_w (B_leR cqb_16_16_16 b9 hq88) (by decide +kernel) (by decide +kernel)
              have q90 : (16) ≤ (v4_1).toInt ∧ (v4_1).toInt ≤ (17) := (show B 16 17 (v4_1) from B_w b89 (by decide +kernel) (by decide +kernel))
              refine h_Un_isForRests  (fun {v151_91} b92 => ?_)
              refine ⟨fun hc => ?_, fun hc => ?_⟩
              · have b93 : B 1 1 (v151_91) := B_w (B_n0 b92 hc) (by decide +kernel) (by decide +kernel)
                unfold b_Un_readCodes_174
                refine ⟨(show c_cl UL 81 = 3 from cl_81), ?_⟩
                refine ⟨(show ¬ ((85 : Nat) = NU) from by decide +kernel), ?_⟩
                refine ⟨(show c_cl UL 85 = 902 from cl_85), ?_⟩
                refine ⟨(show vp_in (x4_42) 256 from vp_om (x := x4_42) (by omega) (by omega)), ?_⟩
                have b94 : B 0 255 (x4_42) := ⟨by omega, by omega⟩
                have hI95 := IMc_u (u := 85) (i := x4_42.toNatClampNeg) (v := v128_76) hI79 (show B 0 255 (v128_76) from (B_w b78 (by decide +kernel) (by decide +kernel)))
                have g98 := agc_tr (agc_refl (fs := [6001]) (rs := [85, 999]) (F := FS93_29)) g46 (by decide +kernel) (by decide +kernel)
                have g97 := agc_tr g98 g80 (by decide +kernel) (by decide +kernel)
                have g96 := agc_r (u := 85) (w := upd (FS128_77 85) x4_42.toNatClampNeg v128_76) g97 rfl (by decide +kernel)
                have e99 : (FS128_77 81 5).toInt = (FS93_29 81 5).toInt := (congrArg Int32.toInt ((g80.1 81 5 rfl rfl).trans (g46.1 81 5 rfl rfl))).trans rfl
                have e100 : (x4_42 + 1).toInt = ((x4_42).toInt + 1) := (t_add b94 cqb_1_1_1 (by decide +kernel) (by decide +kernel)).trans (by rw [cqn_1])
                have q101 : (1) ≤ (x4_42 + 1).toInt ∧ (x4_42 + 1).toInt ≤ (256) := (show B 1 256 (x4_42 + 1) from B_w (B_add b94 cqb_1_1_1 (by decide +kernel) (by decide +kernel)) (by decide +kernel) (by decide +kernel))
                exact hR111 ⟨rfl, rfl, (B_w (B_add b94 cqb_1_1_1 (by decide +kernel) (by decide +kernel)) (by decide +kernel) (by decide +kernel)), _, _, rfl, hI95, g96, (CQu_tr (u := 81) (F := T43) (G := va_up FS128_77 85 (upd (FS128_77 85) x4_42.toNatClampNeg v128_76)) r47 (Eq.trans ((g80.2 84 rfl rfl).trans (g46.2 84 rfl rfl)) (Eq.symm (g46.2 84 rfl rfl))) (Eq.trans (((g80.2 82 rfl rfl).trans (g46.2 82 rfl rfl)).trans (g32.2 82 rfl rfl)) (Eq.symm ((g46.2 82 rfl rfl).trans (g32.2 82 rfl rfl))))), (by show (FS128_77 81 5).toInt ≤ 256; first | with_reducible assumption | omega)⟩ (by show (256 - (x4_42 + 1).toInt).toNat < (256 - x4_42.toInt).toNat; omega)
              · have b102 : B 0 0 (v151_91) := B_w (B_eq hc cqb_0_0_0) (by decide +kernel) (by decide +kernel)
                have q103 : (0) ≤ (v151_91).toInt ∧ (v151_91).toInt ≤ (0) := (show B 0 0 (v151_91) from B_w b102 (by decide +kernel) (by decide +kernel))
                have i104 : (v151_91).toInt = (0 : Int32).toInt := congrArg Int32.toInt hc
                have n105 : (0 : Int32).toInt = 0 := cqn_0
                unfold b_Un_readCodes_157
                refine ⟨(show ¬ ((60 : Nat) = NU) from by decide +kernel), ?_⟩
                refine ⟨(show ¬ ((60 : Nat) = NU) from by decide +kernel), ?_⟩
                refine ⟨(show c_cl UL 60 = 8 from cl_60), ?_⟩
                have g113 := agc_tr (agc_refl (fs := [6001, 6006, 6007, 8105, 8605, 9105, 9605]) (rs := [82, 83, 84, 85, 87, 88, 89, 90, 92, 93, 94, 95, 97, 98, 99, 100, 999]) (F := F)) g5 (by decide +kernel) (by decide +kernel)
                have g112 := agc_tr g113 g25 (by decide +kernel) (by decide +kernel)
                have g111 := agc_tr g112 g32 (by decide +kernel) (by decide +kernel)
                have g110 := agc_tr g111 g46 (by decide +kernel) (by decide +kernel)
                have g109 := agc_tr g110 g80 (by decide +kernel) (by decide +kernel)
                exact h_Re_fail_u60 (B_w cqb_5_5_5 (by decide +kernel) (by decide +kernel)) hI79 (fun hI g => hT13 hI (agc_tr g109 g (by decide +kernel) (by decide +kernel)))
            · have hq114 := (nle_lt hc)
              have b115 : B 0 15 (v4_1) := B_w (B_ltL b9 cqb_16_16_16 hq114) (by decide +kernel) (by decide +kernel)
              have q116 : (0) ≤ (v4_1).toInt ∧ (v4_1).toInt ≤ (15) := (show B 0 15 (v4_1) from B_w b115 (by decide +kernel) (by decide +kernel))
              refine ⟨fun hc => ?_, fun hc => ?_⟩
              · have hq117 := hc
                have b118 : B 0 11 (v128_76) := B_w (B_leL b78 cqb_11_11_11 hq117) (by decide +kernel) (by decide +kernel)
                unfold b_Un_readCodes_174
                refine ⟨(show c_cl UL 81 = 3 from cl_81), ?_⟩
                refine ⟨(show ¬ ((85 : Nat) = NU) from by decide +kernel), ?_⟩
                refine ⟨(show c_cl UL 85 = 902 from cl_85), ?_⟩
                refine ⟨(show vp_in (x4_42) 256 from vp_om (x := x4_42) (by omega) (by omega)), ?_⟩
                have b119 : B 0 255 (x4_42) := ⟨by omega, by omega⟩
                have hI120 := IMc_u (u := 85) (i := x4_42.toNatClampNeg) (v := v128_76) hI79 (show B 0 255 (v128_76) from (B_w b118 (by decide +kernel) (by decide +kernel)))
                have g123 := agc_tr (agc_refl (fs := [6001]) (rs := [85, 999]) (F := FS93_29)) g46 (by decide +kernel) (by decide +kernel)
                have g122 := agc_tr g123 g80 (by decide +kernel) (by decide +kernel)
                have g121 := agc_r (u := 85) (w := upd (FS128_77 85) x4_42.toNatClampNeg v128_76) g122 rfl (by decide +kernel)
                have e124 : (FS128_77 81 5).toInt = (FS93_29 81 5).toInt := (congrArg Int32.toInt ((g80.1 81 5 rfl rfl).trans (g46.1 81 5 rfl rfl))).trans rfl
                have e125 : (x4_42 + 1).toInt = ((x4_42).toInt + 1) := (t_add b119 cqb_1_1_1 (by decide +kernel) (by decide +kernel)).trans (by rw [cqn_1])
                have q126 : (1) ≤ (x4_42 + 1).toInt ∧ (x4_42 + 1).toInt ≤ (256) := (show B 1 256 (x4_42 + 1) from B_w (B_add b119 cqb_1_1_1 (by decide +kernel) (by decide +kernel)) (by decide +kernel) (by decide +kernel))
                exact hR111 ⟨rfl, rfl, (B_w (B_add b119 cqb_1_1_1 (by decide +kernel) (by decide +kernel)) (by decide +kernel) (by decide +kernel)), _, _, rfl, hI120, g121, (CQu_tr (u := 81) (F := T43) (G := va_up FS128_77 85 (upd (FS128_77 85) x4_42.toNatClampNeg v128_76)) r47 (Eq.trans ((g80.2 84 rfl rfl).trans (g46.2 84 rfl rfl)) (Eq.symm (g46.2 84 rfl rfl))) (Eq.trans (((g80.2 82 rfl rfl).trans (g46.2 82 rfl rfl)).trans (g32.2 82 rfl rfl)) (Eq.symm ((g46.2 82 rfl rfl).trans (g32.2 82 rfl rfl))))), (by show (FS128_77 81 5).toInt ≤ 256; first | with_reducible assumption | omega)⟩ (by show (256 - (x4_42 + 1).toInt).toNat < (256 - x4_42.toInt).toNat; omega)
              · have hq127 := (nle_lt hc)
                have b128 : B 12 255 (v128_76) := B_w (B_ltR cqb_11_11_11 b78 hq127) (by decide +kernel) (by decide +kernel)
                unfold b_Un_readCodes_157
                refine ⟨(show ¬ ((60 : Nat) = NU) from by decide +kernel), ?_⟩
                refine ⟨(show ¬ ((60 : Nat) = NU) from by decide +kernel), ?_⟩
                refine ⟨(show c_cl UL 60 = 8 from cl_60), ?_⟩
                have g136 := agc_tr (agc_refl (fs := [6001, 6006, 6007, 8105, 8605, 9105, 9605]) (rs := [82, 83, 84, 85, 87, 88, 89, 90, 92, 93, 94, 95, 97, 98, 99, 100, 999]) (F := F)) g5 (by decide +kernel) (by decide +kernel)
                have g135 := agc_tr g136 g25 (by decide +kernel) (by decide +kernel)
                have g134 := agc_tr g135 g32 (by decide +kernel) (by decide +kernel)
                have g133 := agc_tr g134 g46 (by decide +kernel) (by decide +kernel)
                have g132 := agc_tr g133 g80 (by decide +kernel) (by decide +kernel)
                exact h_Re_fail_u60 (B_w cqb_5_5_5 (by decide +kernel) (by decide +kernel)) hI79 (fun hI g => hT13 hI (agc_tr g132 g (by decide +kernel) (by decide +kernel)))
        · have b137 : B 0 0 (v93_28) := B_w (B_eq hc cqb_0_0_0) (by decide +kernel) (by decide +kernel)
          have q138 : (0) ≤ (v93_28).toInt ∧ (v93_28).toInt ≤ (0) := (show B 0 0 (v93_28) from B_w b137 (by decide +kernel) (by decide +kernel))
          have i139 : (v93_28).toInt = (0 : Int32).toInt := congrArg Int32.toInt hc
          have n140 : (0 : Int32).toInt = 0 := cqn_0
          refine ⟨(show ¬ ((60 : Nat) = NU) from by decide +kernel), ?_⟩
          refine ⟨(show c_cl UL 60 = 8 from cl_60), ?_⟩
          have g146 := agc_tr (agc_refl (fs := [6001, 6006, 6007, 8105, 8605, 9105, 9605]) (rs := [82, 83, 84, 85, 87, 88, 89, 90, 92, 93, 94, 95, 97, 98, 99, 100, 999]) (F := F)) g5 (by decide +kernel) (by decide +kernel)
          have g145 := agc_tr g146 g25 (by decide +kernel) (by decide +kernel)
          have g144 := agc_tr g145 g32 (by decide +kernel) (by decide +kernel)
          exact h_Re_fail_u60 (B_w cqb_5_5_5 (by decide +kernel) (by decide +kernel)) hI31 (fun hI g => hT13 hI (agc_tr g144 g (by decide +kernel) (by decide +kernel)))
      · have hq147 := (nlt_le hc)
        have b148 : B 1 16 (x4_21) := B_w (B_leL b23 cqb_16_16_16 hq147) (by decide +kernel) (by decide +kernel)
        have g151 := agc_tr (agc_refl (fs := [6001, 6006, 6007, 8105, 8605, 9105, 9605]) (rs := [82, 83, 84, 85, 87, 88, 89, 90, 92, 93, 94, 95, 97, 98, 99, 100, 999]) (F := F)) g5 (by decide +kernel) (by decide +kernel)
        have g150 := agc_tr g151 g25 (by decide +kernel) (by decide +kernel)
        refine h_Un_wantMore_u59 hI24 ?_ (fun hI g => hT13 hI (agc_tr g150 g (by decide +kernel) (by decide +kernel)))
        refine ⟨(show c_cl UL 81 = 3 from cl_81), ?_⟩
        refine ⟨(show ¬ ((82 : Nat) = NU) from by decide +kernel), ?_⟩
        refine ⟨(show ¬ ((60 : Nat) = NU) from by decide +kernel), ?_⟩
        refine ⟨(show c_cl UL 60 = 8 from cl_60), ?_⟩
        have g159 := agc_tr (agc_refl (fs := [6001, 6006, 6007, 8105, 8605, 9105, 9605]) (rs := [82, 83, 84, 85, 87, 88, 89, 90, 92, 93, 94, 95, 97, 98, 99, 100, 999]) (F := F)) g5 (by decide +kernel) (by decide +kernel)
        have g158 := agc_tr g159 g25 (by decide +kernel) (by decide +kernel)
        refine h_Re_read_u60 hI24 (fun {v82_152} {FS82_153} {LFS82_153} b154 hI155 g156 r157 => ?_) (fun hI g => hT13 hI (agc_tr g158 g (by decide +kernel) (by decide +kernel)))
        have r160 : (FS82_153 60 1).toInt ≤ 32768 := r157
        clear r157
        have q161 : (0) ≤ (FS82_153 60 1).toInt ∧ (FS82_153 60 1).toInt ≤ (98304) := (show B 0 98304 (FS82_153 60 1) from hI155 60 1)
        refine ⟨(show c_cl UL 82 = 902 from cl_82), ?_⟩
        refine ⟨(show vp_in (x4_21) 17 from vp_B b148 (by decide +kernel) (by decide +kernel)), ?_⟩
        have hI162 := IMc_u (u := 82) (i := x4_21.toNatClampNeg) (v := v82_152) hI155 (show B 0 255 (v82_152) from (B_w b154 (by decide +kernel) (by decide +kernel)))
        have g165 := agc_tr (agc_refl (fs := [6001]) (rs := [82, 999]) (F := FS4_2)) g25 (by decide +kernel) (by decide +kernel)
        have g164 := agc_tr g165 g156 (by decide +kernel) (by decide +kernel)
        have g163 := agc_r (u := 82) (w := upd (FS82_153 82) x4_21.toNatClampNeg v82_152) g164 rfl (by decide +kernel)
        have q166 : (1) ≤ (x4_21).toInt ∧ (x4_21).toInt ≤ (16) := (show B 1 16 (x4_21) from B_w b148 (by decide +kernel) (by decide +kernel))
        have e167 : (x4_21 + 1).toInt = ((x4_21).toInt + 1) := (t_add b148 cqb_1_1_1 (by decide +kernel) (by decide +kernel)).trans (by rw [cqn_1])
        have q168 : (2) ≤ (x4_21 + 1).toInt ∧ (x4_21 + 1).toInt ≤ (17) := (show B 2 17 (x4_21 + 1) from B_w (B_add b148 cqb_1_1_1 (by decide +kernel) (by decide +kernel)) (by decide +kernel) (by decide +kernel))
        exact hR61 ⟨rfl, rfl, rfl, (B_w (B_add b148 cqb_1_1_1 (by decide +kernel) (by decide +kernel)) (by decide +kernel) (by decide +kernel)), _, _, rfl, hI162, g163⟩ (by show (17 - (x4_21 + 1).toInt).toNat < (17 - x4_21.toInt).toNat; omega)
    · refine ⟨(show ¬ ((86 : Nat) = NU) from by decide +kernel), ?_⟩
      refine ⟨(show ¬ ((60 : Nat) = NU) from by decide +kernel), ?_⟩
      refine ⟨(show c_cl UL 60 = 8 from cl_60), ?_⟩
      refine ⟨fun yx1 yx2 yx3 yx4 yS => v4_1 = yx1 ∧ (86 : Nat) = yx2 ∧ (FS4_2 60 1) = yx3 ∧ B 1 17 yx4 ∧ ∃ (T173 : cF) (LT173 : cL), yS = (T173, LT173, PC a b P) ∧ IMc T173 ∧ agc [6001] [87, 999] FS4_2 T173, fun yx1 yx2 yx3 yx4 yS => (17 - yx4.toInt).toNat, ⟨rfl, rfl, rfl, (B_w cqb_1_1_1 (by decide +kernel) (by decide +kernel)), _, _, rfl, hI4, (agc_refl (fs := [6001]) (rs := [87, 999]) (F := FS4_2))⟩, fun x1_169 x2_170 x3_171 x4_172 ST173 hIv => ?_⟩
      obtain ⟨rfl, rfl, rfl, b174, T173, LT173, rfl, hI175, g176⟩ := hIv
      suffices hs : ∀ (R61 : Int32 → Nat → Int32 → Int32 → cs → Prop), (∀ zx1 zx2 zx3 zx4 zS, (v4_1 = zx1 ∧ (86 : Nat) = zx2 ∧ (FS4_2 60 1) = zx3 ∧ B 1 17 zx4 ∧ ∃ (T173 : cF) (LT173 : cL), zS = (T173, LT173, PC a b P) ∧ IMc T173 ∧ agc [6001] [87, 999] FS4_2 T173) → (17 - zx4.toInt).toNat < (17 - x4_172.toInt).toNat → R61 zx1 zx2 zx3 zx4 zS) → b_Un_readCodes_61 UL 59 v4_1 86 (FS4_2 60 1) x4_172 (T173, LT173, PC a b P) R61 K T from hs _ (fun _ _ _ _ _ h1 h2 => ⟨h1, h2⟩)
      intro R61 hR610
      have hR61 := fun {zx1} {zx2} {zx3} {zx4} {zS} => hR610 zx1 zx2 zx3 zx4 zS
      unfold b_Un_readCodes_61
      refine ⟨fun hc => ?_, fun hc => ?_⟩
      · have hq177 := hc
        have b178 : B 17 17 (x4_172) := B_w (B_ltR cqb_16_16_16 b174 hq177) (by decide +kernel) (by decide +kernel)
        refine ⟨(show c_cl UL 86 = 3 from cl_86), ?_⟩
        refine h_Co_giveOut_u86 hI175 (fun {v93_179} {FS93_180} {LFS93_180} b181 hI182 g183 r184 r185 => ?_)
        have r186 : gQ 86 v93_179 17 FS93_180 := r184
        clear r184
        have r187 : (v93_179.toInt = 0) ∨ ((FS93_180 86 5).toInt ≤ 256) := r185
        clear r185
        have q188 : (0) ≤ (v93_179).toInt ∧ (v93_179).toInt ≤ (1) := (show B 0 1 (v93_179) from B_w b181 (by decide +kernel) (by decide +kernel))
        refine ⟨fun hc => ?_, fun hc => ?_⟩
        · have b189 : B 1 1 (v93_179) := B_w (B_n0 b181 hc) (by decide +kernel) (by decide +kernel)
          have q190 : (1) ≤ (v93_179).toInt ∧ (v93_179).toInt ≤ (1) := (show B 1 1 (v93_179) from B_w b189 (by decide +kernel) (by decide +kernel))
          unfold b_Un_readCodes_108
          refine ⟨fun yx1 yx2 yx4 yS => v4_1 = yx1 ∧ (86 : Nat) = yx2 ∧ B 0 256 yx4 ∧ ∃ (T194 : cF) (LT194 : cL), yS = (T194, LT194, PC a b P) ∧ IMc T194 ∧ agc [6001] [90, 999] FS93_180 T194 ∧ (CQu yx2 T194) ∧ ((T194 yx2 5).toInt ≤ 256), fun yx1 yx2 yx4 yS => (256 - yx4.toInt).toNat, ⟨rfl, rfl, (B_w cqb_0_0_0 (by decide +kernel) (by decide +kernel)), _, _, rfl, hI182, (agc_refl (fs := [6001]) (rs := [90, 999]) (F := FS93_180)), (gQ_end r186 (by decide +kernel) (B_nz b189 (by decide +kernel))), (by show (FS93_180 86 5).toInt ≤ 256; first | with_reducible assumption | omega)⟩, fun x1_191 x2_192 x4_193 ST194 hIv => ?_⟩
          obtain ⟨rfl, rfl, b195, T194, LT194, rfl, hI196, g197, r198, r199⟩ := hIv
          suffices hs : ∀ (R111 : Int32 → Nat → Int32 → cs → Prop), (∀ zx1 zx2 zx4 zS, (v4_1 = zx1 ∧ (86 : Nat) = zx2 ∧ B 0 256 zx4 ∧ ∃ (T194 : cF) (LT194 : cL), zS = (T194, LT194, PC a b P) ∧ IMc T194 ∧ agc [6001] [90, 999] FS93_180 T194 ∧ (CQu zx2 T194) ∧ ((T194 zx2 5).toInt ≤ 256)) → (256 - zx4.toInt).toNat < (256 - x4_193.toInt).toNat → R111 zx1 zx2 zx4 zS) → b_Un_readCodes_111 UL 59 v4_1 86 x4_193 (T194, LT194, PC a b P) R111 K T from hs _ (fun _ _ _ _ h1 h2 => ⟨h1, h2⟩)
          intro R111 hR1110
          have hR111 := fun {zx1} {zx2} {zx4} {zS} => hR1110 zx1 zx2 zx4 zS
          have e200 : (T194 86 5).toInt = (FS93_180 86 5).toInt := (congrArg Int32.toInt (g197.1 86 5 rfl rfl)).trans rfl
          unfold b_Un_readCodes_111
          refine ⟨(show c_cl UL 86 = 3 from cl_86), ?_⟩
          refine ⟨fun hc => ?_, fun hc => ?_⟩
          · have hq201 := hc
            have b202 : B (-2147483648) 256 (FS93_180 86 5) := B_w (B_eq (Eq.symm (g197.1 86 5 rfl rfl)) (B_leL (B_eq (g197.1 86 5 rfl rfl) (B_any _)) b195 hq201)) (by decide +kernel) (by decide +kernel)
            have q203 : (-2147483648) ≤ (FS93_180 86 5).toInt ∧ (FS93_180 86 5).toInt ≤ (256) := (show B (-2147483648) 256 (FS93_180 86 5) from B_w b202 (by decide +kernel) (by decide +kernel))
            have q204 : (0) ≤ (x4_193).toInt ∧ (x4_193).toInt ≤ (256) := (show B 0 256 (x4_193) from B_w b195 (by decide +kernel) (by decide +kernel))
            have i205 : (T194 86 5).toInt ≤ (x4_193).toInt := i_le hq201
            have hI206 := IMc_u (u := 86) (i := 0) (v := 1) hI196 (show B 0 1 (1) from (B_w cqb_1_1_1 (by decide +kernel) (by decide +kernel)))
            have g211 := agc_tr (agc_refl (fs := [6001, 8100, 8105, 8600, 8605, 9100, 9105, 9600, 9605]) (rs := [82, 83, 84, 85, 87, 88, 89, 90, 92, 93, 94, 95, 97, 98, 99, 100, 999]) (F := F)) g5 (by decide +kernel) (by decide +kernel)
            have g210 := agc_tr g211 g176 (by decide +kernel) (by decide +kernel)
            have g209 := agc_tr g210 g183 (by decide +kernel) (by decide +kernel)
            have g208 := agc_tr g209 g197 (by decide +kernel) (by decide +kernel)
            have g207 := agc_f (u := 86) (k := 0) (v := 1) g208 rfl (by decide +kernel)
            have g216 := agc_tr (agc_refl (fs := [6001, 8600, 8605]) (rs := [87, 88, 89, 90, 999]) (F := F)) g5 (by decide +kernel) (by decide +kernel)
            have g215 := agc_tr g216 g176 (by decide +kernel) (by decide +kernel)
            have g214 := agc_tr g215 g183 (by decide +kernel) (by decide +kernel)
            have g213 := agc_tr g214 g197 (by decide +kernel) (by decide +kernel)
            have g212 := agc_f (u := 86) (k := 0) (v := 1) g213 rfl (by decide +kernel)
            exact hK hI206 g207 (CV_up1 (F := F) (G := va_up T194 86 (upd (T194 86) 0 1)) pre0 (CQu_tr (u := 86) (F := T194) (G := va_up T194 86 (upd (T194 86) 0 1)) r198 (Eq.trans (g197.2 89 rfl rfl) (Eq.symm (g197.2 89 rfl rfl))) (Eq.trans ((g197.2 87 rfl rfl).trans (g183.2 87 rfl rfl)) (Eq.symm ((g197.2 87 rfl rfl).trans (g183.2 87 rfl rfl))))) g212 (by decide +kernel) (by decide +kernel))
          · have hq217 := (nle_lt hc)
            have b218 : B 1 2147483647 (FS93_180 86 5) := B_w (B_eq (Eq.symm (g197.1 86 5 rfl rfl)) (B_ltR b195 (B_eq (g197.1 86 5 rfl rfl) (B_any _)) hq217)) (by decide +kernel) (by decide +kernel)
            have q219 : (1) ≤ (FS93_180 86 5).toInt ∧ (FS93_180 86 5).toInt ≤ (2147483647) := (show B 1 2147483647 (FS93_180 86 5) from B_w b218 (by decide +kernel) (by decide +kernel))
            have q220 : (0) ≤ (x4_193).toInt ∧ (x4_193).toInt ≤ (256) := (show B 0 256 (x4_193) from B_w b195 (by decide +kernel) (by decide +kernel))
            have i221 : (x4_193).toInt < (T194 86 5).toInt := i_lt hq217
            have g226 := agc_tr (agc_refl (fs := [6001, 6006, 6007, 8105, 8605, 9105, 9605]) (rs := [82, 83, 84, 85, 87, 88, 89, 90, 92, 93, 94, 95, 97, 98, 99, 100, 999]) (F := F)) g5 (by decide +kernel) (by decide +kernel)
            have g225 := agc_tr g226 g176 (by decide +kernel) (by decide +kernel)
            have g224 := agc_tr g225 g183 (by decide +kernel) (by decide +kernel)
            have g223 := agc_tr g224 g197 (by decide +kernel) (by decide +kernel)
            refine h_Un_wantMore_u59 hI196 ?_ (fun hI g => hT13 hI (agc_tr g223 g (by decide +kernel) (by decide +kernel)))
            refine ⟨(show ¬ ((60 : Nat) = NU) from by decide +kernel), ?_⟩
            refine ⟨(show c_cl UL 60 = 8 from cl_60), ?_⟩
            have g236 := agc_tr (agc_refl (fs := [6001, 6006, 6007, 8105, 8605, 9105, 9605]) (rs := [82, 83, 84, 85, 87, 88, 89, 90, 92, 93, 94, 95, 97, 98, 99, 100, 999]) (F := F)) g5 (by decide +kernel) (by decide +kernel)
            have g235 := agc_tr g236 g176 (by decide +kernel) (by decide +kernel)
            have g234 := agc_tr g235 g183 (by decide +kernel) (by decide +kernel)
            have g233 := agc_tr g234 g197 (by decide +kernel) (by decide +kernel)
            refine h_Re_read_u60 hI196 (fun {v128_227} {FS128_228} {LFS128_228} b229 hI230 g231 r232 => ?_) (fun hI g => hT13 hI (agc_tr g233 g (by decide +kernel) (by decide +kernel)))
            have r237 : (FS128_228 60 1).toInt ≤ 32768 := r232
            clear r232
            have q238 : (0) ≤ (FS128_228 60 1).toInt ∧ (FS128_228 60 1).toInt ≤ (98304) := (show B 0 98304 (FS128_228 60 1) from hI230 60 1)
            refine ⟨fun hc => ?_, fun hc => ?_⟩
            · have hq239 := hc
              have b240 : B 16 17 (v4_1) := B_w (B_leR cqb_16_16_16 b9 hq239) (by decide +kernel) (by decide +kernel)
              have q241 : (16) ≤ (v4_1).toInt ∧ (v4_1).toInt ≤ (17) := (show B 16 17 (v4_1) from B_w b240 (by decide +kernel) (by decide +kernel))
              refine h_Un_isForRests  (fun {v151_242} b243 => ?_)
              refine ⟨fun hc => ?_, fun hc => ?_⟩
              · have b244 : B 1 1 (v151_242) := B_w (B_n0 b243 hc) (by decide +kernel) (by decide +kernel)
                unfold b_Un_readCodes_174
                refine ⟨(show c_cl UL 86 = 3 from cl_86), ?_⟩
                refine ⟨(show ¬ ((90 : Nat) = NU) from by decide +kernel), ?_⟩
                refine ⟨(show c_cl UL 90 = 902 from cl_90), ?_⟩
                refine ⟨(show vp_in (x4_193) 256 from vp_om (x := x4_193) (by omega) (by omega)), ?_⟩
                have b245 : B 0 255 (x4_193) := ⟨by omega, by omega⟩
                have hI246 := IMc_u (u := 90) (i := x4_193.toNatClampNeg) (v := v128_227) hI230 (show B 0 255 (v128_227) from (B_w b229 (by decide +kernel) (by decide +kernel)))
                have g249 := agc_tr (agc_refl (fs := [6001]) (rs := [90, 999]) (F := FS93_180)) g197 (by decide +kernel) (by decide +kernel)
                have g248 := agc_tr g249 g231 (by decide +kernel) (by decide +kernel)
                have g247 := agc_r (u := 90) (w := upd (FS128_228 90) x4_193.toNatClampNeg v128_227) g248 rfl (by decide +kernel)
                have e250 : (FS128_228 86 5).toInt = (FS93_180 86 5).toInt := (congrArg Int32.toInt ((g231.1 86 5 rfl rfl).trans (g197.1 86 5 rfl rfl))).trans rfl
                have e251 : (x4_193 + 1).toInt = ((x4_193).toInt + 1) := (t_add b245 cqb_1_1_1 (by decide +kernel) (by decide +kernel)).trans (by rw [cqn_1])
                have q252 : (1) ≤ (x4_193 + 1).toInt ∧ (x4_193 + 1).toInt ≤ (256) := (show B 1 256 (x4_193 + 1) from B_w (B_add b245 cqb_1_1_1 (by decide +kernel) (by decide +kernel)) (by decide +kernel) (by decide +kernel))
                exact hR111 ⟨rfl, rfl, (B_w (B_add b245 cqb_1_1_1 (by decide +kernel) (by decide +kernel)) (by decide +kernel) (by decide +kernel)), _, _, rfl, hI246, g247, (CQu_tr (u := 86) (F := T194) (G := va_up FS128_228 90 (upd (FS128_228 90) x4_193.toNatClampNeg v128_227)) r198 (Eq.trans ((g231.2 89 rfl rfl).trans (g197.2 89 rfl rfl)) (Eq.symm (g197.2 89 rfl rfl))) (Eq.trans (((g231.2 87 rfl rfl).trans (g197.2 87 rfl rfl)).trans (g183.2 87 rfl rfl)) (Eq.symm ((g197.2 87 rfl rfl).trans (g183.2 87 rfl rfl))))), (by show (FS128_228 86 5).toInt ≤ 256; first | with_reducible assumption | omega)⟩ (by show (256 - (x4_193 + 1).toInt).toNat < (256 - x4_193.toInt).toNat; omega)
              · have b253 : B 0 0 (v151_242) := B_w (B_eq hc cqb_0_0_0) (by decide +kernel) (by decide +kernel)
                have q254 : (0) ≤ (v151_242).toInt ∧ (v151_242).toInt ≤ (0) := (show B 0 0 (v151_242) from B_w b253 (by decide +kernel) (by decide +kernel))
                have i255 : (v151_242).toInt = (0 : Int32).toInt := congrArg Int32.toInt hc
                have n256 : (0 : Int32).toInt = 0 := cqn_0
                unfold b_Un_readCodes_157
                refine ⟨(show ¬ ((60 : Nat) = NU) from by decide +kernel), ?_⟩
                refine ⟨(show ¬ ((60 : Nat) = NU) from by decide +kernel), ?_⟩
                refine ⟨(show c_cl UL 60 = 8 from cl_60), ?_⟩
                have g264 := agc_tr (agc_refl (fs := [6001, 6006, 6007, 8105, 8605, 9105, 9605]) (rs := [82, 83, 84, 85, 87, 88, 89, 90, 92, 93, 94, 95, 97, 98, 99, 100, 999]) (F := F)) g5 (by decide +kernel) (by decide +kernel)
                have g263 := agc_tr g264 g176 (by decide +kernel) (by decide +kernel)
                have g262 := agc_tr g263 g183 (by decide +kernel) (by decide +kernel)
                have g261 := agc_tr g262 g197 (by decide +kernel) (by decide +kernel)
                have g260 := agc_tr g261 g231 (by decide +kernel) (by decide +kernel)
                exact h_Re_fail_u60 (B_w cqb_5_5_5 (by decide +kernel) (by decide +kernel)) hI230 (fun hI g => hT13 hI (agc_tr g260 g (by decide +kernel) (by decide +kernel)))
            · have hq265 := (nle_lt hc)
              have b266 : B 0 15 (v4_1) := B_w (B_ltL b9 cqb_16_16_16 hq265) (by decide +kernel) (by decide +kernel)
              have q267 : (0) ≤ (v4_1).toInt ∧ (v4_1).toInt ≤ (15) := (show B 0 15 (v4_1) from B_w b266 (by decide +kernel) (by decide +kernel))
              refine ⟨fun hc => ?_, fun hc => ?_⟩
              · have hq268 := hc
                have b269 : B 0 11 (v128_227) := B_w (B_leL b229 cqb_11_11_11 hq268) (by decide +kernel) (by decide +kernel)
                unfold b_Un_readCodes_174
                refine ⟨(show c_cl UL 86 = 3 from cl_86), ?_⟩
                refine ⟨(show ¬ ((90 : Nat) = NU) from by decide +kernel), ?_⟩
                refine ⟨(show c_cl UL 90 = 902 from cl_90), ?_⟩
                refine ⟨(show vp_in (x4_193) 256 from vp_om (x := x4_193) (by omega) (by omega)), ?_⟩
                have b270 : B 0 255 (x4_193) := ⟨by omega, by omega⟩
                have hI271 := IMc_u (u := 90) (i := x4_193.toNatClampNeg) (v := v128_227) hI230 (show B 0 255 (v128_227) from (B_w b269 (by decide +kernel) (by decide +kernel)))
                have g274 := agc_tr (agc_refl (fs := [6001]) (rs := [90, 999]) (F := FS93_180)) g197 (by decide +kernel) (by decide +kernel)
                have g273 := agc_tr g274 g231 (by decide +kernel) (by decide +kernel)
                have g272 := agc_r (u := 90) (w := upd (FS128_228 90) x4_193.toNatClampNeg v128_227) g273 rfl (by decide +kernel)
                have e275 : (FS128_228 86 5).toInt = (FS93_180 86 5).toInt := (congrArg Int32.toInt ((g231.1 86 5 rfl rfl).trans (g197.1 86 5 rfl rfl))).trans rfl
                have e276 : (x4_193 + 1).toInt = ((x4_193).toInt + 1) := (t_add b270 cqb_1_1_1 (by decide +kernel) (by decide +kernel)).trans (by rw [cqn_1])
                have q277 : (1) ≤ (x4_193 + 1).toInt ∧ (x4_193 + 1).toInt ≤ (256) := (show B 1 256 (x4_193 + 1) from B_w (B_add b270 cqb_1_1_1 (by decide +kernel) (by decide +kernel)) (by decide +kernel) (by decide +kernel))
                exact hR111 ⟨rfl, rfl, (B_w (B_add b270 cqb_1_1_1 (by decide +kernel) (by decide +kernel)) (by decide +kernel) (by decide +kernel)), _, _, rfl, hI271, g272, (CQu_tr (u := 86) (F := T194) (G := va_up FS128_228 90 (upd (FS128_228 90) x4_193.toNatClampNeg v128_227)) r198 (Eq.trans ((g231.2 89 rfl rfl).trans (g197.2 89 rfl rfl)) (Eq.symm (g197.2 89 rfl rfl))) (Eq.trans (((g231.2 87 rfl rfl).trans (g197.2 87 rfl rfl)).trans (g183.2 87 rfl rfl)) (Eq.symm ((g197.2 87 rfl rfl).trans (g183.2 87 rfl rfl))))), (by show (FS128_228 86 5).toInt ≤ 256; first | with_reducible assumption | omega)⟩ (by show (256 - (x4_193 + 1).toInt).toNat < (256 - x4_193.toInt).toNat; omega)
              · have hq278 := (nle_lt hc)
                have b279 : B 12 255 (v128_227) := B_w (B_ltR cqb_11_11_11 b229 hq278) (by decide +kernel) (by decide +kernel)
                unfold b_Un_readCodes_157
                refine ⟨(show ¬ ((60 : Nat) = NU) from by decide +kernel), ?_⟩
                refine ⟨(show ¬ ((60 : Nat) = NU) from by decide +kernel), ?_⟩
                refine ⟨(show c_cl UL 60 = 8 from cl_60), ?_⟩
                have g287 := agc_tr (agc_refl (fs := [6001, 6006, 6007, 8105, 8605, 9105, 9605]) (rs := [82, 83, 84, 85, 87, 88, 89, 90, 92, 93, 94, 95, 97, 98, 99, 100, 999]) (F := F)) g5 (by decide +kernel) (by decide +kernel)
                have g286 := agc_tr g287 g176 (by decide +kernel) (by decide +kernel)
                have g285 := agc_tr g286 g183 (by decide +kernel) (by decide +kernel)
                have g284 := agc_tr g285 g197 (by decide +kernel) (by decide +kernel)
                have g283 := agc_tr g284 g231 (by decide +kernel) (by decide +kernel)
                exact h_Re_fail_u60 (B_w cqb_5_5_5 (by decide +kernel) (by decide +kernel)) hI230 (fun hI g => hT13 hI (agc_tr g283 g (by decide +kernel) (by decide +kernel)))
        · have b288 : B 0 0 (v93_179) := B_w (B_eq hc cqb_0_0_0) (by decide +kernel) (by decide +kernel)
          have q289 : (0) ≤ (v93_179).toInt ∧ (v93_179).toInt ≤ (0) := (show B 0 0 (v93_179) from B_w b288 (by decide +kernel) (by decide +kernel))
          have i290 : (v93_179).toInt = (0 : Int32).toInt := congrArg Int32.toInt hc
          have n291 : (0 : Int32).toInt = 0 := cqn_0
          refine ⟨(show ¬ ((60 : Nat) = NU) from by decide +kernel), ?_⟩
          refine ⟨(show c_cl UL 60 = 8 from cl_60), ?_⟩
          have g297 := agc_tr (agc_refl (fs := [6001, 6006, 6007, 8105, 8605, 9105, 9605]) (rs := [82, 83, 84, 85, 87, 88, 89, 90, 92, 93, 94, 95, 97, 98, 99, 100, 999]) (F := F)) g5 (by decide +kernel) (by decide +kernel)
          have g296 := agc_tr g297 g176 (by decide +kernel) (by decide +kernel)
          have g295 := agc_tr g296 g183 (by decide +kernel) (by decide +kernel)
          exact h_Re_fail_u60 (B_w cqb_5_5_5 (by decide +kernel) (by decide +kernel)) hI182 (fun hI g => hT13 hI (agc_tr g295 g (by decide +kernel) (by decide +kernel)))
      · have hq298 := (nlt_le hc)
        have b299 : B 1 16 (x4_172) := B_w (B_leL b174 cqb_16_16_16 hq298) (by decide +kernel) (by decide +kernel)
        have g302 := agc_tr (agc_refl (fs := [6001, 6006, 6007, 8105, 8605, 9105, 9605]) (rs := [82, 83, 84, 85, 87, 88, 89, 90, 92, 93, 94, 95, 97, 98, 99, 100, 999]) (F := F)) g5 (by decide +kernel) (by decide +kernel)
        have g301 := agc_tr g302 g176 (by decide +kernel) (by decide +kernel)
        refine h_Un_wantMore_u59 hI175 ?_ (fun hI g => hT13 hI (agc_tr g301 g (by decide +kernel) (by decide +kernel)))
        refine ⟨(show c_cl UL 86 = 3 from cl_86), ?_⟩
        refine ⟨(show ¬ ((87 : Nat) = NU) from by decide +kernel), ?_⟩
        refine ⟨(show ¬ ((60 : Nat) = NU) from by decide +kernel), ?_⟩
        refine ⟨(show c_cl UL 60 = 8 from cl_60), ?_⟩
        have g310 := agc_tr (agc_refl (fs := [6001, 6006, 6007, 8105, 8605, 9105, 9605]) (rs := [82, 83, 84, 85, 87, 88, 89, 90, 92, 93, 94, 95, 97, 98, 99, 100, 999]) (F := F)) g5 (by decide +kernel) (by decide +kernel)
        have g309 := agc_tr g310 g176 (by decide +kernel) (by decide +kernel)
        refine h_Re_read_u60 hI175 (fun {v82_303} {FS82_304} {LFS82_304} b305 hI306 g307 r308 => ?_) (fun hI g => hT13 hI (agc_tr g309 g (by decide +kernel) (by decide +kernel)))
        have r311 : (FS82_304 60 1).toInt ≤ 32768 := r308
        clear r308
        have q312 : (0) ≤ (FS82_304 60 1).toInt ∧ (FS82_304 60 1).toInt ≤ (98304) := (show B 0 98304 (FS82_304 60 1) from hI306 60 1)
        refine ⟨(show c_cl UL 87 = 902 from cl_87), ?_⟩
        refine ⟨(show vp_in (x4_172) 17 from vp_B b299 (by decide +kernel) (by decide +kernel)), ?_⟩
        have hI313 := IMc_u (u := 87) (i := x4_172.toNatClampNeg) (v := v82_303) hI306 (show B 0 255 (v82_303) from (B_w b305 (by decide +kernel) (by decide +kernel)))
        have g316 := agc_tr (agc_refl (fs := [6001]) (rs := [87, 999]) (F := FS4_2)) g176 (by decide +kernel) (by decide +kernel)
        have g315 := agc_tr g316 g307 (by decide +kernel) (by decide +kernel)
        have g314 := agc_r (u := 87) (w := upd (FS82_304 87) x4_172.toNatClampNeg v82_303) g315 rfl (by decide +kernel)
        have q317 : (1) ≤ (x4_172).toInt ∧ (x4_172).toInt ≤ (16) := (show B 1 16 (x4_172) from B_w b299 (by decide +kernel) (by decide +kernel))
        have e318 : (x4_172 + 1).toInt = ((x4_172).toInt + 1) := (t_add b299 cqb_1_1_1 (by decide +kernel) (by decide +kernel)).trans (by rw [cqn_1])
        have q319 : (2) ≤ (x4_172 + 1).toInt ∧ (x4_172 + 1).toInt ≤ (17) := (show B 2 17 (x4_172 + 1) from B_w (B_add b299 cqb_1_1_1 (by decide +kernel) (by decide +kernel)) (by decide +kernel) (by decide +kernel))
        exact hR61 ⟨rfl, rfl, rfl, (B_w (B_add b299 cqb_1_1_1 (by decide +kernel) (by decide +kernel)) (by decide +kernel) (by decide +kernel)), _, _, rfl, hI313, g314⟩ (by show (17 - (x4_172 + 1).toInt).toNat < (17 - x4_172.toInt).toNat; omega)
    · refine ⟨(show ¬ ((91 : Nat) = NU) from by decide +kernel), ?_⟩
      refine ⟨(show ¬ ((60 : Nat) = NU) from by decide +kernel), ?_⟩
      refine ⟨(show c_cl UL 60 = 8 from cl_60), ?_⟩
      refine ⟨fun yx1 yx2 yx3 yx4 yS => v4_1 = yx1 ∧ (91 : Nat) = yx2 ∧ (FS4_2 60 1) = yx3 ∧ B 1 17 yx4 ∧ ∃ (T324 : cF) (LT324 : cL), yS = (T324, LT324, PC a b P) ∧ IMc T324 ∧ agc [6001] [92, 999] FS4_2 T324, fun yx1 yx2 yx3 yx4 yS => (17 - yx4.toInt).toNat, ⟨rfl, rfl, rfl, (B_w cqb_1_1_1 (by decide +kernel) (by decide +kernel)), _, _, rfl, hI4, (agc_refl (fs := [6001]) (rs := [92, 999]) (F := FS4_2))⟩, fun x1_320 x2_321 x3_322 x4_323 ST324 hIv => ?_⟩
      obtain ⟨rfl, rfl, rfl, b325, T324, LT324, rfl, hI326, g327⟩ := hIv
      suffices hs : ∀ (R61 : Int32 → Nat → Int32 → Int32 → cs → Prop), (∀ zx1 zx2 zx3 zx4 zS, (v4_1 = zx1 ∧ (91 : Nat) = zx2 ∧ (FS4_2 60 1) = zx3 ∧ B 1 17 zx4 ∧ ∃ (T324 : cF) (LT324 : cL), zS = (T324, LT324, PC a b P) ∧ IMc T324 ∧ agc [6001] [92, 999] FS4_2 T324) → (17 - zx4.toInt).toNat < (17 - x4_323.toInt).toNat → R61 zx1 zx2 zx3 zx4 zS) → b_Un_readCodes_61 UL 59 v4_1 91 (FS4_2 60 1) x4_323 (T324, LT324, PC a b P) R61 K T from hs _ (fun _ _ _ _ _ h1 h2 => ⟨h1, h2⟩)
      intro R61 hR610
      have hR61 := fun {zx1} {zx2} {zx3} {zx4} {zS} => hR610 zx1 zx2 zx3 zx4 zS
      unfold b_Un_readCodes_61
      refine ⟨fun hc => ?_, fun hc => ?_⟩
      · have hq328 := hc
        have b329 : B 17 17 (x4_323) := B_w (B_ltR cqb_16_16_16 b325 hq328) (by decide +kernel) (by decide +kernel)
        refine ⟨(show c_cl UL 91 = 3 from cl_91), ?_⟩
        refine h_Co_giveOut_u91 hI326 (fun {v93_330} {FS93_331} {LFS93_331} b332 hI333 g334 r335 r336 => ?_)
        have r337 : gQ 91 v93_330 17 FS93_331 := r335
        clear r335
        have r338 : (v93_330.toInt = 0) ∨ ((FS93_331 91 5).toInt ≤ 256) := r336
        clear r336
        have q339 : (0) ≤ (v93_330).toInt ∧ (v93_330).toInt ≤ (1) := (show B 0 1 (v93_330) from B_w b332 (by decide +kernel) (by decide +kernel))
        refine ⟨fun hc => ?_, fun hc => ?_⟩
        · have b340 : B 1 1 (v93_330) := B_w (B_n0 b332 hc) (by decide +kernel) (by decide +kernel)
          have q341 : (1) ≤ (v93_330).toInt ∧ (v93_330).toInt ≤ (1) := (show B 1 1 (v93_330) from B_w b340 (by decide +kernel) (by decide +kernel))
          unfold b_Un_readCodes_108
          refine ⟨fun yx1 yx2 yx4 yS => v4_1 = yx1 ∧ (91 : Nat) = yx2 ∧ B 0 256 yx4 ∧ ∃ (T345 : cF) (LT345 : cL), yS = (T345, LT345, PC a b P) ∧ IMc T345 ∧ agc [6001] [95, 999] FS93_331 T345 ∧ (CQu yx2 T345) ∧ ((T345 yx2 5).toInt ≤ 256), fun yx1 yx2 yx4 yS => (256 - yx4.toInt).toNat, ⟨rfl, rfl, (B_w cqb_0_0_0 (by decide +kernel) (by decide +kernel)), _, _, rfl, hI333, (agc_refl (fs := [6001]) (rs := [95, 999]) (F := FS93_331)), (gQ_end r337 (by decide +kernel) (B_nz b340 (by decide +kernel))), (by show (FS93_331 91 5).toInt ≤ 256; first | with_reducible assumption | omega)⟩, fun x1_342 x2_343 x4_344 ST345 hIv => ?_⟩
          obtain ⟨rfl, rfl, b346, T345, LT345, rfl, hI347, g348, r349, r350⟩ := hIv
          suffices hs : ∀ (R111 : Int32 → Nat → Int32 → cs → Prop), (∀ zx1 zx2 zx4 zS, (v4_1 = zx1 ∧ (91 : Nat) = zx2 ∧ B 0 256 zx4 ∧ ∃ (T345 : cF) (LT345 : cL), zS = (T345, LT345, PC a b P) ∧ IMc T345 ∧ agc [6001] [95, 999] FS93_331 T345 ∧ (CQu zx2 T345) ∧ ((T345 zx2 5).toInt ≤ 256)) → (256 - zx4.toInt).toNat < (256 - x4_344.toInt).toNat → R111 zx1 zx2 zx4 zS) → b_Un_readCodes_111 UL 59 v4_1 91 x4_344 (T345, LT345, PC a b P) R111 K T from hs _ (fun _ _ _ _ h1 h2 => ⟨h1, h2⟩)
          intro R111 hR1110
          have hR111 := fun {zx1} {zx2} {zx4} {zS} => hR1110 zx1 zx2 zx4 zS
          have e351 : (T345 91 5).toInt = (FS93_331 91 5).toInt := (congrArg Int32.toInt (g348.1 91 5 rfl rfl)).trans rfl
          unfold b_Un_readCodes_111
          refine ⟨(show c_cl UL 91 = 3 from cl_91), ?_⟩
          refine ⟨fun hc => ?_, fun hc => ?_⟩
          · have hq352 := hc
            have b353 : B (-2147483648) 256 (FS93_331 91 5) := B_w (B_eq (Eq.symm (g348.1 91 5 rfl rfl)) (B_leL (B_eq (g348.1 91 5 rfl rfl) (B_any _)) b346 hq352)) (by decide +kernel) (by decide +kernel)
            have q354 : (-2147483648) ≤ (FS93_331 91 5).toInt ∧ (FS93_331 91 5).toInt ≤ (256) := (show B (-2147483648) 256 (FS93_331 91 5) from B_w b353 (by decide +kernel) (by decide +kernel))
            have q355 : (0) ≤ (x4_344).toInt ∧ (x4_344).toInt ≤ (256) := (show B 0 256 (x4_344) from B_w b346 (by decide +kernel) (by decide +kernel))
            have i356 : (T345 91 5).toInt ≤ (x4_344).toInt := i_le hq352
            have hI357 := IMc_u (u := 91) (i := 0) (v := 1) hI347 (show B 0 1 (1) from (B_w cqb_1_1_1 (by decide +kernel) (by decide +kernel)))
            have g362 := agc_tr (agc_refl (fs := [6001, 8100, 8105, 8600, 8605, 9100, 9105, 9600, 9605]) (rs := [82, 83, 84, 85, 87, 88, 89, 90, 92, 93, 94, 95, 97, 98, 99, 100, 999]) (F := F)) g5 (by decide +kernel) (by decide +kernel)
            have g361 := agc_tr g362 g327 (by decide +kernel) (by decide +kernel)
            have g360 := agc_tr g361 g334 (by decide +kernel) (by decide +kernel)
            have g359 := agc_tr g360 g348 (by decide +kernel) (by decide +kernel)
            have g358 := agc_f (u := 91) (k := 0) (v := 1) g359 rfl (by decide +kernel)
            have g367 := agc_tr (agc_refl (fs := [6001, 9100, 9105]) (rs := [92, 93, 94, 95, 999]) (F := F)) g5 (by decide +kernel) (by decide +kernel)
            have g366 := agc_tr g367 g327 (by decide +kernel) (by decide +kernel)
            have g365 := agc_tr g366 g334 (by decide +kernel) (by decide +kernel)
            have g364 := agc_tr g365 g348 (by decide +kernel) (by decide +kernel)
            have g363 := agc_f (u := 91) (k := 0) (v := 1) g364 rfl (by decide +kernel)
            exact hK hI357 g358 (CV_up2 (F := F) (G := va_up T345 91 (upd (T345 91) 0 1)) pre0 (CQu_tr (u := 91) (F := T345) (G := va_up T345 91 (upd (T345 91) 0 1)) r349 (Eq.trans (g348.2 94 rfl rfl) (Eq.symm (g348.2 94 rfl rfl))) (Eq.trans ((g348.2 92 rfl rfl).trans (g334.2 92 rfl rfl)) (Eq.symm ((g348.2 92 rfl rfl).trans (g334.2 92 rfl rfl))))) g363 (by decide +kernel) (by decide +kernel))
          · have hq368 := (nle_lt hc)
            have b369 : B 1 2147483647 (FS93_331 91 5) := B_w (B_eq (Eq.symm (g348.1 91 5 rfl rfl)) (B_ltR b346 (B_eq (g348.1 91 5 rfl rfl) (B_any _)) hq368)) (by decide +kernel) (by decide +kernel)
            have q370 : (1) ≤ (FS93_331 91 5).toInt ∧ (FS93_331 91 5).toInt ≤ (2147483647) := (show B 1 2147483647 (FS93_331 91 5) from B_w b369 (by decide +kernel) (by decide +kernel))
            have q371 : (0) ≤ (x4_344).toInt ∧ (x4_344).toInt ≤ (256) := (show B 0 256 (x4_344) from B_w b346 (by decide +kernel) (by decide +kernel))
            have i372 : (x4_344).toInt < (T345 91 5).toInt := i_lt hq368
            have g377 := agc_tr (agc_refl (fs := [6001, 6006, 6007, 8105, 8605, 9105, 9605]) (rs := [82, 83, 84, 85, 87, 88, 89, 90, 92, 93, 94, 95, 97, 98, 99, 100, 999]) (F := F)) g5 (by decide +kernel) (by decide +kernel)
            have g376 := agc_tr g377 g327 (by decide +kernel) (by decide +kernel)
            have g375 := agc_tr g376 g334 (by decide +kernel) (by decide +kernel)
            have g374 := agc_tr g375 g348 (by decide +kernel) (by decide +kernel)
            refine h_Un_wantMore_u59 hI347 ?_ (fun hI g => hT13 hI (agc_tr g374 g (by decide +kernel) (by decide +kernel)))
            refine ⟨(show ¬ ((60 : Nat) = NU) from by decide +kernel), ?_⟩
            refine ⟨(show c_cl UL 60 = 8 from cl_60), ?_⟩
            have g387 := agc_tr (agc_refl (fs := [6001, 6006, 6007, 8105, 8605, 9105, 9605]) (rs := [82, 83, 84, 85, 87, 88, 89, 90, 92, 93, 94, 95, 97, 98, 99, 100, 999]) (F := F)) g5 (by decide +kernel) (by decide +kernel)
            have g386 := agc_tr g387 g327 (by decide +kernel) (by decide +kernel)
            have g385 := agc_tr g386 g334 (by decide +kernel) (by decide +kernel)
            have g384 := agc_tr g385 g348 (by decide +kernel) (by decide +kernel)
            refine h_Re_read_u60 hI347 (fun {v128_378} {FS128_379} {LFS128_379} b380 hI381 g382 r383 => ?_) (fun hI g => hT13 hI (agc_tr g384 g (by decide +kernel) (by decide +kernel)))
            have r388 : (FS128_379 60 1).toInt ≤ 32768 := r383
            clear r383
            have q389 : (0) ≤ (FS128_379 60 1).toInt ∧ (FS128_379 60 1).toInt ≤ (98304) := (show B 0 98304 (FS128_379 60 1) from hI381 60 1)
            refine ⟨fun hc => ?_, fun hc => ?_⟩
            · have hq390 := hc
              have b391 : B 16 17 (v4_1) := B_w (B_leR cqb_16_16_16 b9 hq390) (by decide +kernel) (by decide +kernel)
              have q392 : (16) ≤ (v4_1).toInt ∧ (v4_1).toInt ≤ (17) := (show B 16 17 (v4_1) from B_w b391 (by decide +kernel) (by decide +kernel))
              refine h_Un_isForRests  (fun {v151_393} b394 => ?_)
              refine ⟨fun hc => ?_, fun hc => ?_⟩
              · have b395 : B 1 1 (v151_393) := B_w (B_n0 b394 hc) (by decide +kernel) (by decide +kernel)
                unfold b_Un_readCodes_174
                refine ⟨(show c_cl UL 91 = 3 from cl_91), ?_⟩
                refine ⟨(show ¬ ((95 : Nat) = NU) from by decide +kernel), ?_⟩
                refine ⟨(show c_cl UL 95 = 902 from cl_95), ?_⟩
                refine ⟨(show vp_in (x4_344) 256 from vp_om (x := x4_344) (by omega) (by omega)), ?_⟩
                have b396 : B 0 255 (x4_344) := ⟨by omega, by omega⟩
                have hI397 := IMc_u (u := 95) (i := x4_344.toNatClampNeg) (v := v128_378) hI381 (show B 0 255 (v128_378) from (B_w b380 (by decide +kernel) (by decide +kernel)))
                have g400 := agc_tr (agc_refl (fs := [6001]) (rs := [95, 999]) (F := FS93_331)) g348 (by decide +kernel) (by decide +kernel)
                have g399 := agc_tr g400 g382 (by decide +kernel) (by decide +kernel)
                have g398 := agc_r (u := 95) (w := upd (FS128_379 95) x4_344.toNatClampNeg v128_378) g399 rfl (by decide +kernel)
                have e401 : (FS128_379 91 5).toInt = (FS93_331 91 5).toInt := (congrArg Int32.toInt ((g382.1 91 5 rfl rfl).trans (g348.1 91 5 rfl rfl))).trans rfl
                have e402 : (x4_344 + 1).toInt = ((x4_344).toInt + 1) := (t_add b396 cqb_1_1_1 (by decide +kernel) (by decide +kernel)).trans (by rw [cqn_1])
                have q403 : (1) ≤ (x4_344 + 1).toInt ∧ (x4_344 + 1).toInt ≤ (256) := (show B 1 256 (x4_344 + 1) from B_w (B_add b396 cqb_1_1_1 (by decide +kernel) (by decide +kernel)) (by decide +kernel) (by decide +kernel))
                exact hR111 ⟨rfl, rfl, (B_w (B_add b396 cqb_1_1_1 (by decide +kernel) (by decide +kernel)) (by decide +kernel) (by decide +kernel)), _, _, rfl, hI397, g398, (CQu_tr (u := 91) (F := T345) (G := va_up FS128_379 95 (upd (FS128_379 95) x4_344.toNatClampNeg v128_378)) r349 (Eq.trans ((g382.2 94 rfl rfl).trans (g348.2 94 rfl rfl)) (Eq.symm (g348.2 94 rfl rfl))) (Eq.trans (((g382.2 92 rfl rfl).trans (g348.2 92 rfl rfl)).trans (g334.2 92 rfl rfl)) (Eq.symm ((g348.2 92 rfl rfl).trans (g334.2 92 rfl rfl))))), (by show (FS128_379 91 5).toInt ≤ 256; first | with_reducible assumption | omega)⟩ (by show (256 - (x4_344 + 1).toInt).toNat < (256 - x4_344.toInt).toNat; omega)
              · have b404 : B 0 0 (v151_393) := B_w (B_eq hc cqb_0_0_0) (by decide +kernel) (by decide +kernel)
                have q405 : (0) ≤ (v151_393).toInt ∧ (v151_393).toInt ≤ (0) := (show B 0 0 (v151_393) from B_w b404 (by decide +kernel) (by decide +kernel))
                have i406 : (v151_393).toInt = (0 : Int32).toInt := congrArg Int32.toInt hc
                have n407 : (0 : Int32).toInt = 0 := cqn_0
                unfold b_Un_readCodes_157
                refine ⟨(show ¬ ((60 : Nat) = NU) from by decide +kernel), ?_⟩
                refine ⟨(show ¬ ((60 : Nat) = NU) from by decide +kernel), ?_⟩
                refine ⟨(show c_cl UL 60 = 8 from cl_60), ?_⟩
                have g415 := agc_tr (agc_refl (fs := [6001, 6006, 6007, 8105, 8605, 9105, 9605]) (rs := [82, 83, 84, 85, 87, 88, 89, 90, 92, 93, 94, 95, 97, 98, 99, 100, 999]) (F := F)) g5 (by decide +kernel) (by decide +kernel)
                have g414 := agc_tr g415 g327 (by decide +kernel) (by decide +kernel)
                have g413 := agc_tr g414 g334 (by decide +kernel) (by decide +kernel)
                have g412 := agc_tr g413 g348 (by decide +kernel) (by decide +kernel)
                have g411 := agc_tr g412 g382 (by decide +kernel) (by decide +kernel)
                exact h_Re_fail_u60 (B_w cqb_5_5_5 (by decide +kernel) (by decide +kernel)) hI381 (fun hI g => hT13 hI (agc_tr g411 g (by decide +kernel) (by decide +kernel)))
            · have hq416 := (nle_lt hc)
              have b417 : B 0 15 (v4_1) := B_w (B_ltL b9 cqb_16_16_16 hq416) (by decide +kernel) (by decide +kernel)
              have q418 : (0) ≤ (v4_1).toInt ∧ (v4_1).toInt ≤ (15) := (show B 0 15 (v4_1) from B_w b417 (by decide +kernel) (by decide +kernel))
              refine ⟨fun hc => ?_, fun hc => ?_⟩
              · have hq419 := hc
                have b420 : B 0 11 (v128_378) := B_w (B_leL b380 cqb_11_11_11 hq419) (by decide +kernel) (by decide +kernel)
                unfold b_Un_readCodes_174
                refine ⟨(show c_cl UL 91 = 3 from cl_91), ?_⟩
                refine ⟨(show ¬ ((95 : Nat) = NU) from by decide +kernel), ?_⟩
                refine ⟨(show c_cl UL 95 = 902 from cl_95), ?_⟩
                refine ⟨(show vp_in (x4_344) 256 from vp_om (x := x4_344) (by omega) (by omega)), ?_⟩
                have b421 : B 0 255 (x4_344) := ⟨by omega, by omega⟩
                have hI422 := IMc_u (u := 95) (i := x4_344.toNatClampNeg) (v := v128_378) hI381 (show B 0 255 (v128_378) from (B_w b420 (by decide +kernel) (by decide +kernel)))
                have g425 := agc_tr (agc_refl (fs := [6001]) (rs := [95, 999]) (F := FS93_331)) g348 (by decide +kernel) (by decide +kernel)
                have g424 := agc_tr g425 g382 (by decide +kernel) (by decide +kernel)
                have g423 := agc_r (u := 95) (w := upd (FS128_379 95) x4_344.toNatClampNeg v128_378) g424 rfl (by decide +kernel)
                have e426 : (FS128_379 91 5).toInt = (FS93_331 91 5).toInt := (congrArg Int32.toInt ((g382.1 91 5 rfl rfl).trans (g348.1 91 5 rfl rfl))).trans rfl
                have e427 : (x4_344 + 1).toInt = ((x4_344).toInt + 1) := (t_add b421 cqb_1_1_1 (by decide +kernel) (by decide +kernel)).trans (by rw [cqn_1])
                have q428 : (1) ≤ (x4_344 + 1).toInt ∧ (x4_344 + 1).toInt ≤ (256) := (show B 1 256 (x4_344 + 1) from B_w (B_add b421 cqb_1_1_1 (by decide +kernel) (by decide +kernel)) (by decide +kernel) (by decide +kernel))
                exact hR111 ⟨rfl, rfl, (B_w (B_add b421 cqb_1_1_1 (by decide +kernel) (by decide +kernel)) (by decide +kernel) (by decide +kernel)), _, _, rfl, hI422, g423, (CQu_tr (u := 91) (F := T345) (G := va_up FS128_379 95 (upd (FS128_379 95) x4_344.toNatClampNeg v128_378)) r349 (Eq.trans ((g382.2 94 rfl rfl).trans (g348.2 94 rfl rfl)) (Eq.symm (g348.2 94 rfl rfl))) (Eq.trans (((g382.2 92 rfl rfl).trans (g348.2 92 rfl rfl)).trans (g334.2 92 rfl rfl)) (Eq.symm ((g348.2 92 rfl rfl).trans (g334.2 92 rfl rfl))))), (by show (FS128_379 91 5).toInt ≤ 256; first | with_reducible assumption | omega)⟩ (by show (256 - (x4_344 + 1).toInt).toNat < (256 - x4_344.toInt).toNat; omega)
              · have hq429 := (nle_lt hc)
                have b430 : B 12 255 (v128_378) := B_w (B_ltR cqb_11_11_11 b380 hq429) (by decide +kernel) (by decide +kernel)
                unfold b_Un_readCodes_157
                refine ⟨(show ¬ ((60 : Nat) = NU) from by decide +kernel), ?_⟩
                refine ⟨(show ¬ ((60 : Nat) = NU) from by decide +kernel), ?_⟩
                refine ⟨(show c_cl UL 60 = 8 from cl_60), ?_⟩
                have g438 := agc_tr (agc_refl (fs := [6001, 6006, 6007, 8105, 8605, 9105, 9605]) (rs := [82, 83, 84, 85, 87, 88, 89, 90, 92, 93, 94, 95, 97, 98, 99, 100, 999]) (F := F)) g5 (by decide +kernel) (by decide +kernel)
                have g437 := agc_tr g438 g327 (by decide +kernel) (by decide +kernel)
                have g436 := agc_tr g437 g334 (by decide +kernel) (by decide +kernel)
                have g435 := agc_tr g436 g348 (by decide +kernel) (by decide +kernel)
                have g434 := agc_tr g435 g382 (by decide +kernel) (by decide +kernel)
                exact h_Re_fail_u60 (B_w cqb_5_5_5 (by decide +kernel) (by decide +kernel)) hI381 (fun hI g => hT13 hI (agc_tr g434 g (by decide +kernel) (by decide +kernel)))
        · have b439 : B 0 0 (v93_330) := B_w (B_eq hc cqb_0_0_0) (by decide +kernel) (by decide +kernel)
          have q440 : (0) ≤ (v93_330).toInt ∧ (v93_330).toInt ≤ (0) := (show B 0 0 (v93_330) from B_w b439 (by decide +kernel) (by decide +kernel))
          have i441 : (v93_330).toInt = (0 : Int32).toInt := congrArg Int32.toInt hc
          have n442 : (0 : Int32).toInt = 0 := cqn_0
          refine ⟨(show ¬ ((60 : Nat) = NU) from by decide +kernel), ?_⟩
          refine ⟨(show c_cl UL 60 = 8 from cl_60), ?_⟩
          have g448 := agc_tr (agc_refl (fs := [6001, 6006, 6007, 8105, 8605, 9105, 9605]) (rs := [82, 83, 84, 85, 87, 88, 89, 90, 92, 93, 94, 95, 97, 98, 99, 100, 999]) (F := F)) g5 (by decide +kernel) (by decide +kernel)
          have g447 := agc_tr g448 g327 (by decide +kernel) (by decide +kernel)
          have g446 := agc_tr g447 g334 (by decide +kernel) (by decide +kernel)
          exact h_Re_fail_u60 (B_w cqb_5_5_5 (by decide +kernel) (by decide +kernel)) hI333 (fun hI g => hT13 hI (agc_tr g446 g (by decide +kernel) (by decide +kernel)))
      · have hq449 := (nlt_le hc)
        have b450 : B 1 16 (x4_323) := B_w (B_leL b325 cqb_16_16_16 hq449) (by decide +kernel) (by decide +kernel)
        have g453 := agc_tr (agc_refl (fs := [6001, 6006, 6007, 8105, 8605, 9105, 9605]) (rs := [82, 83, 84, 85, 87, 88, 89, 90, 92, 93, 94, 95, 97, 98, 99, 100, 999]) (F := F)) g5 (by decide +kernel) (by decide +kernel)
        have g452 := agc_tr g453 g327 (by decide +kernel) (by decide +kernel)
        refine h_Un_wantMore_u59 hI326 ?_ (fun hI g => hT13 hI (agc_tr g452 g (by decide +kernel) (by decide +kernel)))
        refine ⟨(show c_cl UL 91 = 3 from cl_91), ?_⟩
        refine ⟨(show ¬ ((92 : Nat) = NU) from by decide +kernel), ?_⟩
        refine ⟨(show ¬ ((60 : Nat) = NU) from by decide +kernel), ?_⟩
        refine ⟨(show c_cl UL 60 = 8 from cl_60), ?_⟩
        have g461 := agc_tr (agc_refl (fs := [6001, 6006, 6007, 8105, 8605, 9105, 9605]) (rs := [82, 83, 84, 85, 87, 88, 89, 90, 92, 93, 94, 95, 97, 98, 99, 100, 999]) (F := F)) g5 (by decide +kernel) (by decide +kernel)
        have g460 := agc_tr g461 g327 (by decide +kernel) (by decide +kernel)
        refine h_Re_read_u60 hI326 (fun {v82_454} {FS82_455} {LFS82_455} b456 hI457 g458 r459 => ?_) (fun hI g => hT13 hI (agc_tr g460 g (by decide +kernel) (by decide +kernel)))
        have r462 : (FS82_455 60 1).toInt ≤ 32768 := r459
        clear r459
        have q463 : (0) ≤ (FS82_455 60 1).toInt ∧ (FS82_455 60 1).toInt ≤ (98304) := (show B 0 98304 (FS82_455 60 1) from hI457 60 1)
        refine ⟨(show c_cl UL 92 = 902 from cl_92), ?_⟩
        refine ⟨(show vp_in (x4_323) 17 from vp_B b450 (by decide +kernel) (by decide +kernel)), ?_⟩
        have hI464 := IMc_u (u := 92) (i := x4_323.toNatClampNeg) (v := v82_454) hI457 (show B 0 255 (v82_454) from (B_w b456 (by decide +kernel) (by decide +kernel)))
        have g467 := agc_tr (agc_refl (fs := [6001]) (rs := [92, 999]) (F := FS4_2)) g327 (by decide +kernel) (by decide +kernel)
        have g466 := agc_tr g467 g458 (by decide +kernel) (by decide +kernel)
        have g465 := agc_r (u := 92) (w := upd (FS82_455 92) x4_323.toNatClampNeg v82_454) g466 rfl (by decide +kernel)
        have q468 : (1) ≤ (x4_323).toInt ∧ (x4_323).toInt ≤ (16) := (show B 1 16 (x4_323) from B_w b450 (by decide +kernel) (by decide +kernel))
        have e469 : (x4_323 + 1).toInt = ((x4_323).toInt + 1) := (t_add b450 cqb_1_1_1 (by decide +kernel) (by decide +kernel)).trans (by rw [cqn_1])
        have q470 : (2) ≤ (x4_323 + 1).toInt ∧ (x4_323 + 1).toInt ≤ (17) := (show B 2 17 (x4_323 + 1) from B_w (B_add b450 cqb_1_1_1 (by decide +kernel) (by decide +kernel)) (by decide +kernel) (by decide +kernel))
        exact hR61 ⟨rfl, rfl, rfl, (B_w (B_add b450 cqb_1_1_1 (by decide +kernel) (by decide +kernel)) (by decide +kernel) (by decide +kernel)), _, _, rfl, hI464, g465⟩ (by show (17 - (x4_323 + 1).toInt).toNat < (17 - x4_323.toInt).toNat; omega)
    · refine ⟨(show ¬ ((96 : Nat) = NU) from by decide +kernel), ?_⟩
      refine ⟨(show ¬ ((60 : Nat) = NU) from by decide +kernel), ?_⟩
      refine ⟨(show c_cl UL 60 = 8 from cl_60), ?_⟩
      refine ⟨fun yx1 yx2 yx3 yx4 yS => v4_1 = yx1 ∧ (96 : Nat) = yx2 ∧ (FS4_2 60 1) = yx3 ∧ B 1 17 yx4 ∧ ∃ (T475 : cF) (LT475 : cL), yS = (T475, LT475, PC a b P) ∧ IMc T475 ∧ agc [6001] [97, 999] FS4_2 T475, fun yx1 yx2 yx3 yx4 yS => (17 - yx4.toInt).toNat, ⟨rfl, rfl, rfl, (B_w cqb_1_1_1 (by decide +kernel) (by decide +kernel)), _, _, rfl, hI4, (agc_refl (fs := [6001]) (rs := [97, 999]) (F := FS4_2))⟩, fun x1_471 x2_472 x3_473 x4_474 ST475 hIv => ?_⟩
      obtain ⟨rfl, rfl, rfl, b476, T475, LT475, rfl, hI477, g478⟩ := hIv
      suffices hs : ∀ (R61 : Int32 → Nat → Int32 → Int32 → cs → Prop), (∀ zx1 zx2 zx3 zx4 zS, (v4_1 = zx1 ∧ (96 : Nat) = zx2 ∧ (FS4_2 60 1) = zx3 ∧ B 1 17 zx4 ∧ ∃ (T475 : cF) (LT475 : cL), zS = (T475, LT475, PC a b P) ∧ IMc T475 ∧ agc [6001] [97, 999] FS4_2 T475) → (17 - zx4.toInt).toNat < (17 - x4_474.toInt).toNat → R61 zx1 zx2 zx3 zx4 zS) → b_Un_readCodes_61 UL 59 v4_1 96 (FS4_2 60 1) x4_474 (T475, LT475, PC a b P) R61 K T from hs _ (fun _ _ _ _ _ h1 h2 => ⟨h1, h2⟩)
      intro R61 hR610
      have hR61 := fun {zx1} {zx2} {zx3} {zx4} {zS} => hR610 zx1 zx2 zx3 zx4 zS
      unfold b_Un_readCodes_61
      refine ⟨fun hc => ?_, fun hc => ?_⟩
      · have hq479 := hc
        have b480 : B 17 17 (x4_474) := B_w (B_ltR cqb_16_16_16 b476 hq479) (by decide +kernel) (by decide +kernel)
        refine ⟨(show c_cl UL 96 = 3 from cl_96), ?_⟩
        refine h_Co_giveOut_u96 hI477 (fun {v93_481} {FS93_482} {LFS93_482} b483 hI484 g485 r486 r487 => ?_)
        have r488 : gQ 96 v93_481 17 FS93_482 := r486
        clear r486
        have r489 : (v93_481.toInt = 0) ∨ ((FS93_482 96 5).toInt ≤ 256) := r487
        clear r487
        have q490 : (0) ≤ (v93_481).toInt ∧ (v93_481).toInt ≤ (1) := (show B 0 1 (v93_481) from B_w b483 (by decide +kernel) (by decide +kernel))
        refine ⟨fun hc => ?_, fun hc => ?_⟩
        · have b491 : B 1 1 (v93_481) := B_w (B_n0 b483 hc) (by decide +kernel) (by decide +kernel)
          have q492 : (1) ≤ (v93_481).toInt ∧ (v93_481).toInt ≤ (1) := (show B 1 1 (v93_481) from B_w b491 (by decide +kernel) (by decide +kernel))
          unfold b_Un_readCodes_108
          refine ⟨fun yx1 yx2 yx4 yS => v4_1 = yx1 ∧ (96 : Nat) = yx2 ∧ B 0 256 yx4 ∧ ∃ (T496 : cF) (LT496 : cL), yS = (T496, LT496, PC a b P) ∧ IMc T496 ∧ agc [6001] [100, 999] FS93_482 T496 ∧ (CQu yx2 T496) ∧ ((T496 yx2 5).toInt ≤ 256), fun yx1 yx2 yx4 yS => (256 - yx4.toInt).toNat, ⟨rfl, rfl, (B_w cqb_0_0_0 (by decide +kernel) (by decide +kernel)), _, _, rfl, hI484, (agc_refl (fs := [6001]) (rs := [100, 999]) (F := FS93_482)), (gQ_end r488 (by decide +kernel) (B_nz b491 (by decide +kernel))), (by show (FS93_482 96 5).toInt ≤ 256; first | with_reducible assumption | omega)⟩, fun x1_493 x2_494 x4_495 ST496 hIv => ?_⟩
          obtain ⟨rfl, rfl, b497, T496, LT496, rfl, hI498, g499, r500, r501⟩ := hIv
          suffices hs : ∀ (R111 : Int32 → Nat → Int32 → cs → Prop), (∀ zx1 zx2 zx4 zS, (v4_1 = zx1 ∧ (96 : Nat) = zx2 ∧ B 0 256 zx4 ∧ ∃ (T496 : cF) (LT496 : cL), zS = (T496, LT496, PC a b P) ∧ IMc T496 ∧ agc [6001] [100, 999] FS93_482 T496 ∧ (CQu zx2 T496) ∧ ((T496 zx2 5).toInt ≤ 256)) → (256 - zx4.toInt).toNat < (256 - x4_495.toInt).toNat → R111 zx1 zx2 zx4 zS) → b_Un_readCodes_111 UL 59 v4_1 96 x4_495 (T496, LT496, PC a b P) R111 K T from hs _ (fun _ _ _ _ h1 h2 => ⟨h1, h2⟩)
          intro R111 hR1110
          have hR111 := fun {zx1} {zx2} {zx4} {zS} => hR1110 zx1 zx2 zx4 zS
          have e502 : (T496 96 5).toInt = (FS93_482 96 5).toInt := (congrArg Int32.toInt (g499.1 96 5 rfl rfl)).trans rfl
          unfold b_Un_readCodes_111
          refine ⟨(show c_cl UL 96 = 3 from cl_96), ?_⟩
          refine ⟨fun hc => ?_, fun hc => ?_⟩
          · have hq503 := hc
            have b504 : B (-2147483648) 256 (FS93_482 96 5) := B_w (B_eq (Eq.symm (g499.1 96 5 rfl rfl)) (B_leL (B_eq (g499.1 96 5 rfl rfl) (B_any _)) b497 hq503)) (by decide +kernel) (by decide +kernel)
            have q505 : (-2147483648) ≤ (FS93_482 96 5).toInt ∧ (FS93_482 96 5).toInt ≤ (256) := (show B (-2147483648) 256 (FS93_482 96 5) from B_w b504 (by decide +kernel) (by decide +kernel))
            have q506 : (0) ≤ (x4_495).toInt ∧ (x4_495).toInt ≤ (256) := (show B 0 256 (x4_495) from B_w b497 (by decide +kernel) (by decide +kernel))
            have i507 : (T496 96 5).toInt ≤ (x4_495).toInt := i_le hq503
            have hI508 := IMc_u (u := 96) (i := 0) (v := 1) hI498 (show B 0 1 (1) from (B_w cqb_1_1_1 (by decide +kernel) (by decide +kernel)))
            have g513 := agc_tr (agc_refl (fs := [6001, 8100, 8105, 8600, 8605, 9100, 9105, 9600, 9605]) (rs := [82, 83, 84, 85, 87, 88, 89, 90, 92, 93, 94, 95, 97, 98, 99, 100, 999]) (F := F)) g5 (by decide +kernel) (by decide +kernel)
            have g512 := agc_tr g513 g478 (by decide +kernel) (by decide +kernel)
            have g511 := agc_tr g512 g485 (by decide +kernel) (by decide +kernel)
            have g510 := agc_tr g511 g499 (by decide +kernel) (by decide +kernel)
            have g509 := agc_f (u := 96) (k := 0) (v := 1) g510 rfl (by decide +kernel)
            have g518 := agc_tr (agc_refl (fs := [6001, 9600, 9605]) (rs := [97, 98, 99, 100, 999]) (F := F)) g5 (by decide +kernel) (by decide +kernel)
            have g517 := agc_tr g518 g478 (by decide +kernel) (by decide +kernel)
            have g516 := agc_tr g517 g485 (by decide +kernel) (by decide +kernel)
            have g515 := agc_tr g516 g499 (by decide +kernel) (by decide +kernel)
            have g514 := agc_f (u := 96) (k := 0) (v := 1) g515 rfl (by decide +kernel)
            exact hK hI508 g509 (CV_up3 (F := F) (G := va_up T496 96 (upd (T496 96) 0 1)) pre0 (CQu_tr (u := 96) (F := T496) (G := va_up T496 96 (upd (T496 96) 0 1)) r500 (Eq.trans (g499.2 99 rfl rfl) (Eq.symm (g499.2 99 rfl rfl))) (Eq.trans ((g499.2 97 rfl rfl).trans (g485.2 97 rfl rfl)) (Eq.symm ((g499.2 97 rfl rfl).trans (g485.2 97 rfl rfl))))) g514 (by decide +kernel) (by decide +kernel))
          · have hq519 := (nle_lt hc)
            have b520 : B 1 2147483647 (FS93_482 96 5) := B_w (B_eq (Eq.symm (g499.1 96 5 rfl rfl)) (B_ltR b497 (B_eq (g499.1 96 5 rfl rfl) (B_any _)) hq519)) (by decide +kernel) (by decide +kernel)
            have q521 : (1) ≤ (FS93_482 96 5).toInt ∧ (FS93_482 96 5).toInt ≤ (2147483647) := (show B 1 2147483647 (FS93_482 96 5) from B_w b520 (by decide +kernel) (by decide +kernel))
            have q522 : (0) ≤ (x4_495).toInt ∧ (x4_495).toInt ≤ (256) := (show B 0 256 (x4_495) from B_w b497 (by decide +kernel) (by decide +kernel))
            have i523 : (x4_495).toInt < (T496 96 5).toInt := i_lt hq519
            have g528 := agc_tr (agc_refl (fs := [6001, 6006, 6007, 8105, 8605, 9105, 9605]) (rs := [82, 83, 84, 85, 87, 88, 89, 90, 92, 93, 94, 95, 97, 98, 99, 100, 999]) (F := F)) g5 (by decide +kernel) (by decide +kernel)
            have g527 := agc_tr g528 g478 (by decide +kernel) (by decide +kernel)
            have g526 := agc_tr g527 g485 (by decide +kernel) (by decide +kernel)
            have g525 := agc_tr g526 g499 (by decide +kernel) (by decide +kernel)
            refine h_Un_wantMore_u59 hI498 ?_ (fun hI g => hT13 hI (agc_tr g525 g (by decide +kernel) (by decide +kernel)))
            refine ⟨(show ¬ ((60 : Nat) = NU) from by decide +kernel), ?_⟩
            refine ⟨(show c_cl UL 60 = 8 from cl_60), ?_⟩
            have g538 := agc_tr (agc_refl (fs := [6001, 6006, 6007, 8105, 8605, 9105, 9605]) (rs := [82, 83, 84, 85, 87, 88, 89, 90, 92, 93, 94, 95, 97, 98, 99, 100, 999]) (F := F)) g5 (by decide +kernel) (by decide +kernel)
            have g537 := agc_tr g538 g478 (by decide +kernel) (by decide +kernel)
            have g536 := agc_tr g537 g485 (by decide +kernel) (by decide +kernel)
            have g535 := agc_tr g536 g499 (by decide +kernel) (by decide +kernel)
            refine h_Re_read_u60 hI498 (fun {v128_529} {FS128_530} {LFS128_530} b531 hI532 g533 r534 => ?_) (fun hI g => hT13 hI (agc_tr g535 g (by decide +kernel) (by decide +kernel)))
            have r539 : (FS128_530 60 1).toInt ≤ 32768 := r534
            clear r534
            have q540 : (0) ≤ (FS128_530 60 1).toInt ∧ (FS128_530 60 1).toInt ≤ (98304) := (show B 0 98304 (FS128_530 60 1) from hI532 60 1)
            refine ⟨fun hc => ?_, fun hc => ?_⟩
            · have hq541 := hc
              have b542 : B 16 17 (v4_1) := B_w (B_leR cqb_16_16_16 b9 hq541) (by decide +kernel) (by decide +kernel)
              have q543 : (16) ≤ (v4_1).toInt ∧ (v4_1).toInt ≤ (17) := (show B 16 17 (v4_1) from B_w b542 (by decide +kernel) (by decide +kernel))
              refine h_Un_isForRests  (fun {v151_544} b545 => ?_)
              refine ⟨fun hc => ?_, fun hc => ?_⟩
              · have b546 : B 1 1 (v151_544) := B_w (B_n0 b545 hc) (by decide +kernel) (by decide +kernel)
                unfold b_Un_readCodes_174
                refine ⟨(show c_cl UL 96 = 3 from cl_96), ?_⟩
                refine ⟨(show ¬ ((100 : Nat) = NU) from by decide +kernel), ?_⟩
                refine ⟨(show c_cl UL 100 = 902 from cl_100), ?_⟩
                refine ⟨(show vp_in (x4_495) 256 from vp_om (x := x4_495) (by omega) (by omega)), ?_⟩
                have b547 : B 0 255 (x4_495) := ⟨by omega, by omega⟩
                have hI548 := IMc_u (u := 100) (i := x4_495.toNatClampNeg) (v := v128_529) hI532 (show B 0 255 (v128_529) from (B_w b531 (by decide +kernel) (by decide +kernel)))
                have g551 := agc_tr (agc_refl (fs := [6001]) (rs := [100, 999]) (F := FS93_482)) g499 (by decide +kernel) (by decide +kernel)
                have g550 := agc_tr g551 g533 (by decide +kernel) (by decide +kernel)
                have g549 := agc_r (u := 100) (w := upd (FS128_530 100) x4_495.toNatClampNeg v128_529) g550 rfl (by decide +kernel)
                have e552 : (FS128_530 96 5).toInt = (FS93_482 96 5).toInt := (congrArg Int32.toInt ((g533.1 96 5 rfl rfl).trans (g499.1 96 5 rfl rfl))).trans rfl
                have e553 : (x4_495 + 1).toInt = ((x4_495).toInt + 1) := (t_add b547 cqb_1_1_1 (by decide +kernel) (by decide +kernel)).trans (by rw [cqn_1])
                have q554 : (1) ≤ (x4_495 + 1).toInt ∧ (x4_495 + 1).toInt ≤ (256) := (show B 1 256 (x4_495 + 1) from B_w (B_add b547 cqb_1_1_1 (by decide +kernel) (by decide +kernel)) (by decide +kernel) (by decide +kernel))
                exact hR111 ⟨rfl, rfl, (B_w (B_add b547 cqb_1_1_1 (by decide +kernel) (by decide +kernel)) (by decide +kernel) (by decide +kernel)), _, _, rfl, hI548, g549, (CQu_tr (u := 96) (F := T496) (G := va_up FS128_530 100 (upd (FS128_530 100) x4_495.toNatClampNeg v128_529)) r500 (Eq.trans ((g533.2 99 rfl rfl).trans (g499.2 99 rfl rfl)) (Eq.symm (g499.2 99 rfl rfl))) (Eq.trans (((g533.2 97 rfl rfl).trans (g499.2 97 rfl rfl)).trans (g485.2 97 rfl rfl)) (Eq.symm ((g499.2 97 rfl rfl).trans (g485.2 97 rfl rfl))))), (by show (FS128_530 96 5).toInt ≤ 256; first | with_reducible assumption | omega)⟩ (by show (256 - (x4_495 + 1).toInt).toNat < (256 - x4_495.toInt).toNat; omega)
              · have b555 : B 0 0 (v151_544) := B_w (B_eq hc cqb_0_0_0) (by decide +kernel) (by decide +kernel)
                have q556 : (0) ≤ (v151_544).toInt ∧ (v151_544).toInt ≤ (0) := (show B 0 0 (v151_544) from B_w b555 (by decide +kernel) (by decide +kernel))
                have i557 : (v151_544).toInt = (0 : Int32).toInt := congrArg Int32.toInt hc
                have n558 : (0 : Int32).toInt = 0 := cqn_0
                unfold b_Un_readCodes_157
                refine ⟨(show ¬ ((60 : Nat) = NU) from by decide +kernel), ?_⟩
                refine ⟨(show ¬ ((60 : Nat) = NU) from by decide +kernel), ?_⟩
                refine ⟨(show c_cl UL 60 = 8 from cl_60), ?_⟩
                have g566 := agc_tr (agc_refl (fs := [6001, 6006, 6007, 8105, 8605, 9105, 9605]) (rs := [82, 83, 84, 85, 87, 88, 89, 90, 92, 93, 94, 95, 97, 98, 99, 100, 999]) (F := F)) g5 (by decide +kernel) (by decide +kernel)
                have g565 := agc_tr g566 g478 (by decide +kernel) (by decide +kernel)
                have g564 := agc_tr g565 g485 (by decide +kernel) (by decide +kernel)
                have g563 := agc_tr g564 g499 (by decide +kernel) (by decide +kernel)
                have g562 := agc_tr g563 g533 (by decide +kernel) (by decide +kernel)
                exact h_Re_fail_u60 (B_w cqb_5_5_5 (by decide +kernel) (by decide +kernel)) hI532 (fun hI g => hT13 hI (agc_tr g562 g (by decide +kernel) (by decide +kernel)))
            · have hq567 := (nle_lt hc)
              have b568 : B 0 15 (v4_1) := B_w (B_ltL b9 cqb_16_16_16 hq567) (by decide +kernel) (by decide +kernel)
              have q569 : (0) ≤ (v4_1).toInt ∧ (v4_1).toInt ≤ (15) := (show B 0 15 (v4_1) from B_w b568 (by decide +kernel) (by decide +kernel))
              refine ⟨fun hc => ?_, fun hc => ?_⟩
              · have hq570 := hc
                have b571 : B 0 11 (v128_529) := B_w (B_leL b531 cqb_11_11_11 hq570) (by decide +kernel) (by decide +kernel)
                unfold b_Un_readCodes_174
                refine ⟨(show c_cl UL 96 = 3 from cl_96), ?_⟩
                refine ⟨(show ¬ ((100 : Nat) = NU) from by decide +kernel), ?_⟩
                refine ⟨(show c_cl UL 100 = 902 from cl_100), ?_⟩
                refine ⟨(show vp_in (x4_495) 256 from vp_om (x := x4_495) (by omega) (by omega)), ?_⟩
                have b572 : B 0 255 (x4_495) := ⟨by omega, by omega⟩
                have hI573 := IMc_u (u := 100) (i := x4_495.toNatClampNeg) (v := v128_529) hI532 (show B 0 255 (v128_529) from (B_w b571 (by decide +kernel) (by decide +kernel)))
                have g576 := agc_tr (agc_refl (fs := [6001]) (rs := [100, 999]) (F := FS93_482)) g499 (by decide +kernel) (by decide +kernel)
                have g575 := agc_tr g576 g533 (by decide +kernel) (by decide +kernel)
                have g574 := agc_r (u := 100) (w := upd (FS128_530 100) x4_495.toNatClampNeg v128_529) g575 rfl (by decide +kernel)
                have e577 : (FS128_530 96 5).toInt = (FS93_482 96 5).toInt := (congrArg Int32.toInt ((g533.1 96 5 rfl rfl).trans (g499.1 96 5 rfl rfl))).trans rfl
                have e578 : (x4_495 + 1).toInt = ((x4_495).toInt + 1) := (t_add b572 cqb_1_1_1 (by decide +kernel) (by decide +kernel)).trans (by rw [cqn_1])
                have q579 : (1) ≤ (x4_495 + 1).toInt ∧ (x4_495 + 1).toInt ≤ (256) := (show B 1 256 (x4_495 + 1) from B_w (B_add b572 cqb_1_1_1 (by decide +kernel) (by decide +kernel)) (by decide +kernel) (by decide +kernel))
                exact hR111 ⟨rfl, rfl, (B_w (B_add b572 cqb_1_1_1 (by decide +kernel) (by decide +kernel)) (by decide +kernel) (by decide +kernel)), _, _, rfl, hI573, g574, (CQu_tr (u := 96) (F := T496) (G := va_up FS128_530 100 (upd (FS128_530 100) x4_495.toNatClampNeg v128_529)) r500 (Eq.trans ((g533.2 99 rfl rfl).trans (g499.2 99 rfl rfl)) (Eq.symm (g499.2 99 rfl rfl))) (Eq.trans (((g533.2 97 rfl rfl).trans (g499.2 97 rfl rfl)).trans (g485.2 97 rfl rfl)) (Eq.symm ((g499.2 97 rfl rfl).trans (g485.2 97 rfl rfl))))), (by show (FS128_530 96 5).toInt ≤ 256; first | with_reducible assumption | omega)⟩ (by show (256 - (x4_495 + 1).toInt).toNat < (256 - x4_495.toInt).toNat; omega)
              · have hq580 := (nle_lt hc)
                have b581 : B 12 255 (v128_529) := B_w (B_ltR cqb_11_11_11 b531 hq580) (by decide +kernel) (by decide +kernel)
                unfold b_Un_readCodes_157
                refine ⟨(show ¬ ((60 : Nat) = NU) from by decide +kernel), ?_⟩
                refine ⟨(show ¬ ((60 : Nat) = NU) from by decide +kernel), ?_⟩
                refine ⟨(show c_cl UL 60 = 8 from cl_60), ?_⟩
                have g589 := agc_tr (agc_refl (fs := [6001, 6006, 6007, 8105, 8605, 9105, 9605]) (rs := [82, 83, 84, 85, 87, 88, 89, 90, 92, 93, 94, 95, 97, 98, 99, 100, 999]) (F := F)) g5 (by decide +kernel) (by decide +kernel)
                have g588 := agc_tr g589 g478 (by decide +kernel) (by decide +kernel)
                have g587 := agc_tr g588 g485 (by decide +kernel) (by decide +kernel)
                have g586 := agc_tr g587 g499 (by decide +kernel) (by decide +kernel)
                have g585 := agc_tr g586 g533 (by decide +kernel) (by decide +kernel)
                exact h_Re_fail_u60 (B_w cqb_5_5_5 (by decide +kernel) (by decide +kernel)) hI532 (fun hI g => hT13 hI (agc_tr g585 g (by decide +kernel) (by decide +kernel)))
        · have b590 : B 0 0 (v93_481) := B_w (B_eq hc cqb_0_0_0) (by decide +kernel) (by decide +kernel)
          have q591 : (0) ≤ (v93_481).toInt ∧ (v93_481).toInt ≤ (0) := (show B 0 0 (v93_481) from B_w b590 (by decide +kernel) (by decide +kernel))
          have i592 : (v93_481).toInt = (0 : Int32).toInt := congrArg Int32.toInt hc
          have n593 : (0 : Int32).toInt = 0 := cqn_0
          refine ⟨(show ¬ ((60 : Nat) = NU) from by decide +kernel), ?_⟩
          refine ⟨(show c_cl UL 60 = 8 from cl_60), ?_⟩
          have g599 := agc_tr (agc_refl (fs := [6001, 6006, 6007, 8105, 8605, 9105, 9605]) (rs := [82, 83, 84, 85, 87, 88, 89, 90, 92, 93, 94, 95, 97, 98, 99, 100, 999]) (F := F)) g5 (by decide +kernel) (by decide +kernel)
          have g598 := agc_tr g599 g478 (by decide +kernel) (by decide +kernel)
          have g597 := agc_tr g598 g485 (by decide +kernel) (by decide +kernel)
          exact h_Re_fail_u60 (B_w cqb_5_5_5 (by decide +kernel) (by decide +kernel)) hI484 (fun hI g => hT13 hI (agc_tr g597 g (by decide +kernel) (by decide +kernel)))
      · have hq600 := (nlt_le hc)
        have b601 : B 1 16 (x4_474) := B_w (B_leL b476 cqb_16_16_16 hq600) (by decide +kernel) (by decide +kernel)
        have g604 := agc_tr (agc_refl (fs := [6001, 6006, 6007, 8105, 8605, 9105, 9605]) (rs := [82, 83, 84, 85, 87, 88, 89, 90, 92, 93, 94, 95, 97, 98, 99, 100, 999]) (F := F)) g5 (by decide +kernel) (by decide +kernel)
        have g603 := agc_tr g604 g478 (by decide +kernel) (by decide +kernel)
        refine h_Un_wantMore_u59 hI477 ?_ (fun hI g => hT13 hI (agc_tr g603 g (by decide +kernel) (by decide +kernel)))
        refine ⟨(show c_cl UL 96 = 3 from cl_96), ?_⟩
        refine ⟨(show ¬ ((97 : Nat) = NU) from by decide +kernel), ?_⟩
        refine ⟨(show ¬ ((60 : Nat) = NU) from by decide +kernel), ?_⟩
        refine ⟨(show c_cl UL 60 = 8 from cl_60), ?_⟩
        have g612 := agc_tr (agc_refl (fs := [6001, 6006, 6007, 8105, 8605, 9105, 9605]) (rs := [82, 83, 84, 85, 87, 88, 89, 90, 92, 93, 94, 95, 97, 98, 99, 100, 999]) (F := F)) g5 (by decide +kernel) (by decide +kernel)
        have g611 := agc_tr g612 g478 (by decide +kernel) (by decide +kernel)
        refine h_Re_read_u60 hI477 (fun {v82_605} {FS82_606} {LFS82_606} b607 hI608 g609 r610 => ?_) (fun hI g => hT13 hI (agc_tr g611 g (by decide +kernel) (by decide +kernel)))
        have r613 : (FS82_606 60 1).toInt ≤ 32768 := r610
        clear r610
        have q614 : (0) ≤ (FS82_606 60 1).toInt ∧ (FS82_606 60 1).toInt ≤ (98304) := (show B 0 98304 (FS82_606 60 1) from hI608 60 1)
        refine ⟨(show c_cl UL 97 = 902 from cl_97), ?_⟩
        refine ⟨(show vp_in (x4_474) 17 from vp_B b601 (by decide +kernel) (by decide +kernel)), ?_⟩
        have hI615 := IMc_u (u := 97) (i := x4_474.toNatClampNeg) (v := v82_605) hI608 (show B 0 255 (v82_605) from (B_w b607 (by decide +kernel) (by decide +kernel)))
        have g618 := agc_tr (agc_refl (fs := [6001]) (rs := [97, 999]) (F := FS4_2)) g478 (by decide +kernel) (by decide +kernel)
        have g617 := agc_tr g618 g609 (by decide +kernel) (by decide +kernel)
        have g616 := agc_r (u := 97) (w := upd (FS82_606 97) x4_474.toNatClampNeg v82_605) g617 rfl (by decide +kernel)
        have q619 : (1) ≤ (x4_474).toInt ∧ (x4_474).toInt ≤ (16) := (show B 1 16 (x4_474) from B_w b601 (by decide +kernel) (by decide +kernel))
        have e620 : (x4_474 + 1).toInt = ((x4_474).toInt + 1) := (t_add b601 cqb_1_1_1 (by decide +kernel) (by decide +kernel)).trans (by rw [cqn_1])
        have q621 : (2) ≤ (x4_474 + 1).toInt ∧ (x4_474 + 1).toInt ≤ (17) := (show B 2 17 (x4_474 + 1) from B_w (B_add b601 cqb_1_1_1 (by decide +kernel) (by decide +kernel)) (by decide +kernel) (by decide +kernel))
        exact hR61 ⟨rfl, rfl, rfl, (B_w (B_add b601 cqb_1_1_1 (by decide +kernel) (by decide +kernel)) (by decide +kernel) (by decide +kernel)), _, _, rfl, hI615, g616⟩ (by show (17 - (x4_474 + 1).toInt).toNat < (17 - x4_474.toInt).toNat; omega)
  · have hq622 := (nle_lt hc)
    have b623 : B 2 15 (v4_1 - ((v4_1 / 16) * 16)) := B_w (B_ltR cqb_1_1_1 (B_rem b9 cqb_16_16_16 (by decide +kernel) (by decide +kernel)) hq622) (by decide +kernel) (by decide +kernel)
    have e624 : (v4_1 - ((v4_1 / 16) * 16)).toInt = ((v4_1).toInt % 16) := (t_rem b9 cqb_16_16_16 (by decide +kernel) (by decide +kernel)).trans (by rw [cqn_16])
    have q625 : (2) ≤ (v4_1 - ((v4_1 / 16) * 16)).toInt ∧ (v4_1 - ((v4_1 / 16) * 16)).toInt ≤ (15) := (show B 2 15 (v4_1 - ((v4_1 / 16) * 16)) from B_w b623 (by decide +kernel) (by decide +kernel))
    have i626 : (1 : Int32).toInt < (v4_1 - ((v4_1 / 16) * 16)).toInt := i_lt hq622
    have n627 : (1 : Int32).toInt = 1 := cqn_1
    refine ⟨(show ¬ ((60 : Nat) = NU) from by decide +kernel), ?_⟩
    refine ⟨(show ¬ ((60 : Nat) = NU) from by decide +kernel), ?_⟩
    refine ⟨(show c_cl UL 60 = 8 from cl_60), ?_⟩
    have g631 := agc_tr (agc_refl (fs := [6001, 6006, 6007, 8105, 8605, 9105, 9605]) (rs := [82, 83, 84, 85, 87, 88, 89, 90, 92, 93, 94, 95, 97, 98, 99, 100, 999]) (F := F)) g5 (by decide +kernel) (by decide +kernel)
    exact h_Re_fail_u60 (B_w cqb_5_5_5 (by decide +kernel) (by decide +kernel)) hI4 (fun hI g => hT13 hI (agc_tr g631 g (by decide +kernel) (by decide +kernel)))
set_option maxRecDepth 20000 in
set_option maxHeartbeats 4000000 in
theorem h_Un_readParts_u59 {a : Bool} {b : Bool} {P : Nat → Nat → Nat} {x1 : Int32} {F : cF} {L : cL} {K : cs → Prop} {T : Nat → cs → Prop} (hI : IMc F) (pre0 : CV F) (hK : ∀ {Z : cF} {LZ : cL}, IMc Z → agc [6001, 8100, 8105, 8600, 8605, 9100, 9105, 9600, 9605] [78, 79, 82, 83, 84, 85, 87, 88, 89, 90, 92, 93, 94, 95, 97, 98, 99, 100, 999] F Z → (CV Z) → K (Z, LZ, PC a b P)) (hT13 : ∀ {Z : cF} {LZ : cL}, IMc Z → agc [6001, 6006, 6007, 8100, 8105, 8600, 8605, 9100, 9105, 9600, 9605] [78, 79, 82, 83, 84, 85, 87, 88, 89, 90, 92, 93, 94, 95, 97, 98, 99, 100, 999] F Z → T 13 (Z, LZ, PC a b P)) : p_Un_readParts UL 59 x1 (F, L, PC a b P) K T := by
  unfold p_Un_readParts
  refine ⟨fun yx1 yx2 yS => x1 = yx1 ∧ B 0 32768 yx2 ∧ ∃ (T3 : cF) (LT3 : cL), yS = (T3, LT3, PC a b P) ∧ IMc T3 ∧ agc [6001, 8100, 8105, 8600, 8605, 9100, 9105, 9600, 9605] [78, 79, 82, 83, 84, 85, 87, 88, 89, 90, 92, 93, 94, 95, 97, 98, 99, 100, 999] F T3 ∧ (CV T3), fun yx1 yx2 yS => (32768 - yx2.toInt).toNat, ⟨rfl, (B_w cqb_0_0_0 (by decide +kernel) (by decide +kernel)), _, _, rfl, hI, (agc_refl (fs := [6001, 8100, 8105, 8600, 8605, 9100, 9105, 9600, 9605]) (rs := [78, 79, 82, 83, 84, 85, 87, 88, 89, 90, 92, 93, 94, 95, 97, 98, 99, 100, 999]) (F := F)), pre0⟩, fun x1_1 x2_2 ST3 hIv => ?_⟩
  obtain ⟨rfl, b4, T3, LT3, rfl, hI5, g6, r7⟩ := hIv
  suffices hs : ∀ (R2 : Int32 → Int32 → cs → Prop), (∀ zx1 zx2 zS, (x1 = zx1 ∧ B 0 32768 zx2 ∧ ∃ (T3 : cF) (LT3 : cL), zS = (T3, LT3, PC a b P) ∧ IMc T3 ∧ agc [6001, 8100, 8105, 8600, 8605, 9100, 9105, 9600, 9605] [78, 79, 82, 83, 84, 85, 87, 88, 89, 90, 92, 93, 94, 95, 97, 98, 99, 100, 999] F T3 ∧ (CV T3)) → (32768 - zx2.toInt).toNat < (32768 - x2_2.toInt).toNat → R2 zx1 zx2 zS) → b_Un_readParts_2 UL 59 x1 x2_2 (T3, LT3, PC a b P) R2 K T from hs _ (fun _ _ _ h1 h2 => ⟨h1, h2⟩)
  intro R2 hR20
  have hR2 := fun {zx1} {zx2} {zS} => hR20 zx1 zx2 zS
  unfold b_Un_readParts_2
  refine ⟨(show ¬ ((60 : Nat) = NU) from by decide +kernel), ?_⟩
  refine ⟨(show c_cl UL 60 = 8 from cl_60), ?_⟩
  refine ⟨fun hc => ?_, fun hc => ?_⟩
  · have hq8 := hc
    have b9 : B (-2147483648) 98304 ((T3 59 12) + (T3 59 13)) := B_w (B_leL (B_any _) (show B 0 98304 (T3 60 1) from hI5 60 1) hq8) (by decide +kernel) (by decide +kernel)
    have q10 : (-2147483648) ≤ ((T3 59 12) + (T3 59 13)).toInt ∧ ((T3 59 12) + (T3 59 13)).toInt ≤ (98304) := (show B (-2147483648) 98304 ((T3 59 12) + (T3 59 13)) from B_w b9 (by decide +kernel) (by decide +kernel))
    have q11 : (0) ≤ (T3 60 1).toInt ∧ (T3 60 1).toInt ≤ (98304) := (show B 0 98304 (T3 60 1) from hI5 60 1)
    have i12 : ((T3 59 12) + (T3 59 13)).toInt ≤ (T3 60 1).toInt := i_le hq8
    unfold b_Un_readParts_51
    have g13 := agc_tr (agc_refl (fs := [6001, 8100, 8105, 8600, 8605, 9100, 9105, 9600, 9605]) (rs := [78, 79, 82, 83, 84, 85, 87, 88, 89, 90, 92, 93, 94, 95, 97, 98, 99, 100, 999]) (F := F)) g6 (by decide +kernel) (by decide +kernel)
    exact hK hI5 g13 r7
  · have hq14 := (nle_lt hc)
    have b15 : B 1 2147483647 ((T3 59 12) + (T3 59 13)) := B_w (B_ltR (show B 0 98304 (T3 60 1) from hI5 60 1) (B_any _) hq14) (by decide +kernel) (by decide +kernel)
    have q16 : (0) ≤ (T3 60 1).toInt ∧ (T3 60 1).toInt ≤ (98304) := (show B 0 98304 (T3 60 1) from hI5 60 1)
    have q17 : (1) ≤ ((T3 59 12) + (T3 59 13)).toInt ∧ ((T3 59 12) + (T3 59 13)).toInt ≤ (2147483647) := (show B 1 2147483647 ((T3 59 12) + (T3 59 13)) from B_w b15 (by decide +kernel) (by decide +kernel))
    have i18 : (T3 60 1).toInt < ((T3 59 12) + (T3 59 13)).toInt := i_lt hq14
    refine ⟨fun hc => ?_, fun hc => ?_⟩
    · have hq19 := hc
      have b20 : B 32768 32768 (x2_2) := B_w (B_leR cqb_32768_32768_32768 b4 hq19) (by decide +kernel) (by decide +kernel)
      unfold b_Un_readParts_51
      have g21 := agc_tr (agc_refl (fs := [6001, 8100, 8105, 8600, 8605, 9100, 9105, 9600, 9605]) (rs := [78, 79, 82, 83, 84, 85, 87, 88, 89, 90, 92, 93, 94, 95, 97, 98, 99, 100, 999]) (F := F)) g6 (by decide +kernel) (by decide +kernel)
      exact hK hI5 g21 r7
    · have hq22 := (nle_lt hc)
      have b23 : B 0 32767 (x2_2) := B_w (B_ltL b4 cqb_32768_32768_32768 hq22) (by decide +kernel) (by decide +kernel)
      refine ⟨fun hc => ?_, fun hc => ?_⟩
      · have i24 : (x1).toInt ≠ (219 : Int32).toInt := i_ne hc
        have n25 : (219 : Int32).toInt = 219 := cqn_219
        have g30 := agc_tr (agc_refl (fs := [6001, 6006, 6007, 8100, 8105, 8600, 8605, 9100, 9105, 9600, 9605]) (rs := [78, 79, 82, 83, 84, 85, 87, 88, 89, 90, 92, 93, 94, 95, 97, 98, 99, 100, 999]) (F := F)) g6 (by decide +kernel) (by decide +kernel)
        refine h_Un_readCodes_u59 hI5 r7 (fun {FS42_26} {LFS42_26} hI27 g28 r29 => ?_) (fun hI g => hT13 hI (agc_tr g30 g (by decide +kernel) (by decide +kernel)))
        have r31 : CV FS42_26 := r29
        clear r29
        unfold b_Un_readParts_45
        have g33 := agc_tr (agc_refl (fs := [6001, 8100, 8105, 8600, 8605, 9100, 9105, 9600, 9605]) (rs := [78, 79, 82, 83, 84, 85, 87, 88, 89, 90, 92, 93, 94, 95, 97, 98, 99, 100, 999]) (F := F)) g6 (by decide +kernel) (by decide +kernel)
        have g32 := agc_tr g33 g28 (by decide +kernel) (by decide +kernel)
        have q34 : (0) ≤ (x2_2).toInt ∧ (x2_2).toInt ≤ (32767) := (show B 0 32767 (x2_2) from B_w b23 (by decide +kernel) (by decide +kernel))
        have e35 : (x2_2 + 1).toInt = ((x2_2).toInt + 1) := (t_add b23 cqb_1_1_1 (by decide +kernel) (by decide +kernel)).trans (by rw [cqn_1])
        have q36 : (1) ≤ (x2_2 + 1).toInt ∧ (x2_2 + 1).toInt ≤ (32768) := (show B 1 32768 (x2_2 + 1) from B_w (B_add b23 cqb_1_1_1 (by decide +kernel) (by decide +kernel)) (by decide +kernel) (by decide +kernel))
        exact hR2 ⟨rfl, (B_w (B_add b23 cqb_1_1_1 (by decide +kernel) (by decide +kernel)) (by decide +kernel) (by decide +kernel)), _, _, rfl, hI27, g32, r31⟩ (by show (32768 - (x2_2 + 1).toInt).toNat < (32768 - x2_2.toInt).toNat; omega)
      · have b37 : B 219 219 (x1) := B_w (B_eq hc cqb_219_219_219) (by decide +kernel) (by decide +kernel)
        have q38 : (219) ≤ (x1).toInt ∧ (x1).toInt ≤ (219) := (show B 219 219 (x1) from B_w b37 (by decide +kernel) (by decide +kernel))
        have i39 : (x1).toInt = (219 : Int32).toInt := congrArg Int32.toInt hc
        have n40 : (219 : Int32).toInt = 219 := cqn_219
        have g44 := agc_tr (agc_refl (fs := [6001, 6006, 6007, 8100, 8105, 8600, 8605, 9100, 9105, 9600, 9605]) (rs := [78, 79, 82, 83, 84, 85, 87, 88, 89, 90, 92, 93, 94, 95, 97, 98, 99, 100, 999]) (F := F)) g6 (by decide +kernel) (by decide +kernel)
        refine h_Un_readTable_u59 hI5 (fun {FS35_41} {LFS35_41} hI42 g43 => ?_) (fun hI g => hT13 hI (agc_tr g44 g (by decide +kernel) (by decide +kernel)))
        unfold b_Un_readParts_45
        have g46 := agc_tr (agc_refl (fs := [6001, 8100, 8105, 8600, 8605, 9100, 9105, 9600, 9605]) (rs := [78, 79, 82, 83, 84, 85, 87, 88, 89, 90, 92, 93, 94, 95, 97, 98, 99, 100, 999]) (F := F)) g6 (by decide +kernel) (by decide +kernel)
        have g45 := agc_tr g46 g43 (by decide +kernel) (by decide +kernel)
        have g47 := agc_tr (agc_refl (fs := [6001]) (rs := [78, 79, 999]) (F := T3)) g43 (by decide +kernel) (by decide +kernel)
        have q48 : (0) ≤ (x2_2).toInt ∧ (x2_2).toInt ≤ (32767) := (show B 0 32767 (x2_2) from B_w b23 (by decide +kernel) (by decide +kernel))
        have e49 : (x2_2 + 1).toInt = ((x2_2).toInt + 1) := (t_add b23 cqb_1_1_1 (by decide +kernel) (by decide +kernel)).trans (by rw [cqn_1])
        have q50 : (1) ≤ (x2_2 + 1).toInt ∧ (x2_2 + 1).toInt ≤ (32768) := (show B 1 32768 (x2_2 + 1) from B_w (B_add b23 cqb_1_1_1 (by decide +kernel) (by decide +kernel)) (by decide +kernel) (by decide +kernel))
        exact hR2 ⟨rfl, (B_w (B_add b23 cqb_1_1_1 (by decide +kernel) (by decide +kernel)) (by decide +kernel) (by decide +kernel)), _, _, rfl, hI42, g45, (CV_ag (F := T3) (G := FS35_41) r7 g47 (by decide +kernel) (by decide +kernel))⟩ (by show (32768 - (x2_2 + 1).toInt).toNat < (32768 - x2_2.toInt).toNat; omega)
