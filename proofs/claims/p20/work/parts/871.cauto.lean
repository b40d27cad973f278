set_option maxRecDepth 20000 in
set_option maxHeartbeats 4000000 in
theorem h_Co_giveOut_u81 {a : Bool} {b : Bool} {P : Nat → Nat → Nat} {F : cF} {L : cL} {K : Int32 → cs → Prop} (hI : IMc F) (hK : ∀ {v : Int32} {Z : cF} {LZ : cL}, B 0 1 v → IMc Z → agc [8105] [83, 84] F Z → (gQ 81 v 17 Z) → ((v.toInt = 0) ∨ ((Z 81 5).toInt ≤ 256)) → K v (Z, LZ, PC a b P)) : p_Co_giveOut UL 81 (F, L, PC a b P) K := by
  unfold p_Co_giveOut
  have hI10 := IMc_u (u := 81) (i := 5) (v := 0) hI (show B (-2147483648) 2147483647 (0) from (B_w cqb_0_0_0 (by decide +kernel) (by decide +kernel)))
  refine ⟨fun yx1 yx2 yx3 yS => B (-2147483648) 2147483647 yx1 ∧ B 0 1 yx2 ∧ B 1 17 yx3 ∧ ∃ (T4 : cF) (LT4 : cL), yS = (T4, LT4, PC a b P) ∧ IMc T4 ∧ agc [8105] [83, 84] (va_up F 81 (upd (F 81) 5 0)) T4 ∧ (gQ 81 yx2 yx3 T4) ∧ ((0 ≤ (T4 81 5).toInt) ∧ ((T4 81 5).toInt ≤ 511)) ∧ ((yx2.toInt = 0) ∨ ((T4 81 5).toInt ≤ 256)), fun yx1 yx2 yx3 yS => (17 - yx3.toInt).toNat, ⟨(B_w cqb_0_0_0 (by decide +kernel) (by decide +kernel)), (B_w cqb_1_1_1 (by decide +kernel) (by decide +kernel)), (B_w cqb_1_1_1 (by decide +kernel) (by decide +kernel)), _, _, rfl, hI10, (agc_refl (fs := [8105]) (rs := [83, 84]) (F := va_up F 81 (upd (F 81) 5 0))), (fun _ m h1 h2 => by have e : (1 : Int32).toInt = 1 := (by decide +kernel); omega), (by show ((0 : Int) ≤ 0) ∧ ((0 : Int) ≤ 511); first | with_reducible assumption | omega), (by show ((1 : Int) = 0) ∨ ((0 : Int) ≤ 256); first | with_reducible assumption | omega)⟩, fun x1_1 x2_2 x3_3 ST4 hIv => ?_⟩
  obtain ⟨b5, b6, b7, T4, LT4, rfl, hI8, g9, r11, r12, r13⟩ := hIv
  suffices hs : ∀ (R11 : Int32 → Int32 → Int32 → cs → Prop), (∀ zx1 zx2 zx3 zS, (B (-2147483648) 2147483647 zx1 ∧ B 0 1 zx2 ∧ B 1 17 zx3 ∧ ∃ (T4 : cF) (LT4 : cL), zS = (T4, LT4, PC a b P) ∧ IMc T4 ∧ agc [8105] [83, 84] (va_up F 81 (upd (F 81) 5 0)) T4 ∧ (gQ 81 zx2 zx3 T4) ∧ ((0 ≤ (T4 81 5).toInt) ∧ ((T4 81 5).toInt ≤ 511)) ∧ ((zx2.toInt = 0) ∨ ((T4 81 5).toInt ≤ 256))) → (17 - zx3.toInt).toNat < (17 - x3_3.toInt).toNat → R11 zx1 zx2 zx3 zS) → b_Co_giveOut_11 UL 81 x1_1 x2_2 x3_3 (T4, LT4, PC a b P) R11 K from hs _ (fun _ _ _ _ h1 h2 => ⟨h1, h2⟩)
  intro R11 hR110
  have hR11 := fun {zx1} {zx2} {zx3} {zS} => hR110 zx1 zx2 zx3 zS
  have q14 : (0) ≤ (x2_2).toInt ∧ (x2_2).toInt ≤ (1) := (show B 0 1 (x2_2) from B_w b6 (by decide +kernel) (by decide +kernel))
  have b15 : B 0 511 (T4 81 5) := ⟨by omega, by omega⟩
  unfold b_Co_giveOut_11
  refine ⟨fun hc => ?_, fun hc => ?_⟩
  · have hq16 := hc
    have b17 : B 17 17 (x3_3) := B_w (B_ltR cqb_16_16_16 b7 hq16) (by decide +kernel) (by decide +kernel)
    unfold b_Co_giveOut_97
    refine ⟨B_nar b6 (by decide +kernel) (by decide +kernel), ?_⟩
    have g19 := agc_f (u := 81) (k := 5) (v := 0) (agc_refl (fs := [8105]) (rs := [83, 84]) (F := F)) rfl (by decide +kernel)
    have g18 := agc_tr g19 g9 (by decide +kernel) (by decide +kernel)
    have q20 : (17) ≤ (x3_3).toInt ∧ (x3_3).toInt ≤ (17) := (show B 17 17 (x3_3) from B_w b17 (by decide +kernel) (by decide +kernel))
    exact hK b6 hI8 g18 (fun hx m h1 h2 => (r11) hx m h1 (by have e : (17 : Int32).toInt = 17 := (by decide +kernel); omega)) (by show (x2_2.toInt = 0) ∨ ((T4 81 5).toInt ≤ 256); first | with_reducible assumption | omega)
  · have hq21 := (nlt_le hc)
    have b22 : B 1 16 (x3_3) := B_w (B_leL b7 cqb_16_16_16 hq21) (by decide +kernel) (by decide +kernel)
    refine ⟨fun hc => ?_, fun hc => ?_⟩
    · have b23 : B 0 0 (x2_2) := B_w (B_eq hc cqb_0_0_0) (by decide +kernel) (by decide +kernel)
      have q24 : (0) ≤ (x2_2).toInt ∧ (x2_2).toInt ≤ (0) := (show B 0 0 (x2_2) from B_w b23 (by decide +kernel) (by decide +kernel))
      have i25 : (x2_2).toInt = (0 : Int32).toInt := congrArg Int32.toInt hc
      have n26 : (0 : Int32).toInt = 0 := cqn_0
      unfold b_Co_giveOut_97
      refine ⟨B_nar b23 (by decide +kernel) (by decide +kernel), ?_⟩
      have g28 := agc_f (u := 81) (k := 5) (v := 0) (agc_refl (fs := [8105]) (rs := [83, 84]) (F := F)) rfl (by decide +kernel)
      have g27 := agc_tr g28 g9 (by decide +kernel) (by decide +kernel)
      exact hK (B_w b23 (by decide +kernel) (by decide +kernel)) hI8 g27 (fun h => absurd (B_z b23) h) (by show (x2_2.toInt = 0) ∨ ((T4 81 5).toInt ≤ 256); first | with_reducible assumption | omega)
    · have b29 : B 1 1 (x2_2) := B_w (B_n0 b6 hc) (by decide +kernel) (by decide +kernel)
      have q30 : (1) ≤ (x2_2).toInt ∧ (x2_2).toInt ≤ (1) := (show B 1 1 (x2_2) from B_w b29 (by decide +kernel) (by decide +kernel))
      refine ⟨(show ¬ ((83 : Nat) = NU) from by decide +kernel), ?_⟩
      refine ⟨(show c_cl UL 83 = 902 from cl_83), ?_⟩
      refine ⟨(show vp_in (x3_3) 17 from vp_B b22 (by decide +kernel) (by decide +kernel)), ?_⟩
      refine ⟨(show ¬ ((84 : Nat) = NU) from by decide +kernel), ?_⟩
      refine ⟨(show c_cl UL 84 = 902 from cl_84), ?_⟩
      refine ⟨(show vp_in (x3_3) 17 from vp_B b22 (by decide +kernel) (by decide +kernel)), ?_⟩
      refine ⟨(show ¬ ((82 : Nat) = NU) from by decide +kernel), ?_⟩
      refine ⟨(show c_cl UL 82 = 902 from cl_82), ?_⟩
      refine ⟨(show vp_in (x3_3) 17 from vp_B b22 (by decide +kernel) (by decide +kernel)), ?_⟩
      refine ⟨(show ¬ ((82 : Nat) = NU) from by decide +kernel), ?_⟩
      refine ⟨(show vp_in (x3_3) 17 from vp_B b22 (by decide +kernel) (by decide +kernel)), ?_⟩
      refine ⟨(show ¬ ((85 : Nat) = NU) from by decide +kernel), ?_⟩
      refine ⟨(show c_cl UL 85 = 902 from cl_85), ?_⟩
      refine ⟨fun hc => ?_, fun hc => ?_⟩
      · have hq31 := hc
        have b32 : B 257 766 ((T4 81 5) + (T4 82 x3_3.toNatClampNeg)) := B_w (B_ltR cqb_256_256_256 (B_add b15 (B_eq (congrFun (g9.2 82 rfl rfl) x3_3.toNatClampNeg) (show B 0 255 (F 82 x3_3.toNatClampNeg) from hI 82 x3_3.toNatClampNeg)) (by decide +kernel) (by decide +kernel)) hq31) (by decide +kernel) (by decide +kernel)
        have q33 : (0) ≤ (F 82 x3_3.toNatClampNeg).toInt ∧ (F 82 x3_3.toNatClampNeg).toInt ≤ (255) := (show B 0 255 (F 82 x3_3.toNatClampNeg) from hI 82 x3_3.toNatClampNeg)
        have e34 : (T4 82 x3_3.toNatClampNeg).toInt = (F 82 x3_3.toNatClampNeg).toInt := (congrArg Int32.toInt (congrFun (g9.2 82 rfl rfl) x3_3.toNatClampNeg)).trans rfl
        have e35 : ((T4 81 5) + (T4 82 x3_3.toNatClampNeg)).toInt = ((T4 81 5).toInt + (F 82 x3_3.toNatClampNeg).toInt) := (t_add b15 (B_eq (congrFun (g9.2 82 rfl rfl) x3_3.toNatClampNeg) (show B 0 255 (F 82 x3_3.toNatClampNeg) from hI 82 x3_3.toNatClampNeg)) (by decide +kernel) (by decide +kernel)).trans (by rw [e34])
        have q36 : (257) ≤ ((T4 81 5) + (T4 82 x3_3.toNatClampNeg)).toInt ∧ ((T4 81 5) + (T4 82 x3_3.toNatClampNeg)).toInt ≤ (766) := (show B 257 766 ((T4 81 5) + (T4 82 x3_3.toNatClampNeg)) from B_w b32 (by decide +kernel) (by decide +kernel))
        have i37 : (256 : Int32).toInt < ((T4 81 5) + (T4 82 x3_3.toNatClampNeg)).toInt := i_lt hq31
        have n38 : (256 : Int32).toInt = 256 := cqn_256
        unfold b_Co_giveOut_85
        unfold b_Co_giveOut_86
        have hI39 := IMc_u (u := 83) (i := x3_3.toNatClampNeg) (v := x1_1) hI8 (show B (-2147483648) 2147483647 (x1_1) from (B_w b5 (by decide +kernel) (by decide +kernel)))
        have hI40 := IMc_u (u := 84) (i := x3_3.toNatClampNeg) (v := T4 81 5) hI39 (show B (-2147483648) 2147483647 (T4 81 5) from (B_w b15 (by decide +kernel) (by decide +kernel)))
        have hI41 := IMc_u (u := 81) (i := 5) (v := (T4 81 5) + (T4 82 x3_3.toNatClampNeg)) hI40 (show B (-2147483648) 2147483647 ((T4 81 5) + (T4 82 x3_3.toNatClampNeg)) from (B_w b32 (by decide +kernel) (by decide +kernel)))
        have g45 := agc_tr (agc_refl (fs := [8105]) (rs := [83, 84]) (F := va_up F 81 (upd (F 81) 5 0))) g9 (by decide +kernel) (by decide +kernel)
        have g44 := agc_r (u := 83) (w := upd (T4 83) x3_3.toNatClampNeg x1_1) g45 rfl (by decide +kernel)
        have g43 := agc_r (u := 84) (w := upd (T4 84) x3_3.toNatClampNeg (T4 81 5)) g44 rfl (by decide +kernel)
        have g42 := agc_f (u := 81) (k := 5) (v := (T4 81 5) + (T4 82 x3_3.toNatClampNeg)) g43 rfl (by decide +kernel)
        have q46 : (1) ≤ (x3_3).toInt ∧ (x3_3).toInt ≤ (16) := (show B 1 16 (x3_3) from B_w b22 (by decide +kernel) (by decide +kernel))
        have e47 : (x3_3 + 1).toInt = ((x3_3).toInt + 1) := (t_add b22 cqb_1_1_1 (by decide +kernel) (by decide +kernel)).trans (by rw [cqn_1])
        have q48 : (2) ≤ (x3_3 + 1).toInt ∧ (x3_3 + 1).toInt ≤ (17) := (show B 2 17 (x3_3 + 1) from B_w (B_add b22 cqb_1_1_1 (by decide +kernel) (by decide +kernel)) (by decide +kernel) (by decide +kernel))
        exact hR11 ⟨(B_w (B_any _) (by decide +kernel) (by decide +kernel)), (B_w cqb_0_0_0 (by decide +kernel) (by decide +kernel)), (B_w (B_add b22 cqb_1_1_1 (by decide +kernel) (by decide +kernel)) (by decide +kernel) (by decide +kernel)), _, _, rfl, hI41, g42, (fun h => absurd rfl h), (by show (0 ≤ ((T4 81 5) + (T4 82 x3_3.toNatClampNeg)).toInt) ∧ (((T4 81 5) + (T4 82 x3_3.toNatClampNeg)).toInt ≤ 511); first | with_reducible assumption | omega), (by show ((0 : Int) = 0) ∨ (((T4 81 5) + (T4 82 x3_3.toNatClampNeg)).toInt ≤ 256); first | with_reducible assumption | omega)⟩ (by show (17 - (x3_3 + 1).toInt).toNat < (17 - x3_3.toInt).toNat; omega)
      · have hq49 := (nlt_le hc)
        have b50 : B 0 256 ((T4 81 5) + (T4 82 x3_3.toNatClampNeg)) := B_w (B_leL (B_add b15 (B_eq (congrFun (g9.2 82 rfl rfl) x3_3.toNatClampNeg) (show B 0 255 (F 82 x3_3.toNatClampNeg) from hI 82 x3_3.toNatClampNeg)) (by decide +kernel) (by decide +kernel)) cqb_256_256_256 hq49) (by decide +kernel) (by decide +kernel)
        have q51 : (0) ≤ (F 82 x3_3.toNatClampNeg).toInt ∧ (F 82 x3_3.toNatClampNeg).toInt ≤ (255) := (show B 0 255 (F 82 x3_3.toNatClampNeg) from hI 82 x3_3.toNatClampNeg)
        have e52 : (T4 82 x3_3.toNatClampNeg).toInt = (F 82 x3_3.toNatClampNeg).toInt := (congrArg Int32.toInt (congrFun (g9.2 82 rfl rfl) x3_3.toNatClampNeg)).trans rfl
        have e53 : ((T4 81 5) + (T4 82 x3_3.toNatClampNeg)).toInt = ((T4 81 5).toInt + (F 82 x3_3.toNatClampNeg).toInt) := (t_add b15 (B_eq (congrFun (g9.2 82 rfl rfl) x3_3.toNatClampNeg) (show B 0 255 (F 82 x3_3.toNatClampNeg) from hI 82 x3_3.toNatClampNeg)) (by decide +kernel) (by decide +kernel)).trans (by rw [e52])
        have q54 : (0) ≤ ((T4 81 5) + (T4 82 x3_3.toNatClampNeg)).toInt ∧ ((T4 81 5) + (T4 82 x3_3.toNatClampNeg)).toInt ≤ (256) := (show B 0 256 ((T4 81 5) + (T4 82 x3_3.toNatClampNeg)) from B_w b50 (by decide +kernel) (by decide +kernel))
        have i55 : ((T4 81 5) + (T4 82 x3_3.toNatClampNeg)).toInt ≤ (256 : Int32).toInt := i_le hq49
        have n56 : (256 : Int32).toInt = 256 := cqn_256
        refine ⟨fun hc => ?_, fun hc => ?_⟩
        · have hq57 := hc
          have i58 : (((1 : Int32) <<< (x3_3 &&& 31 : Int32) : Int32)).toInt ≤ (x1_1 + (T4 82 x3_3.toNatClampNeg)).toInt := i_le hq57
          unfold b_Co_giveOut_85
          unfold b_Co_giveOut_86
          have hI59 := IMc_u (u := 83) (i := x3_3.toNatClampNeg) (v := x1_1) hI8 (show B (-2147483648) 2147483647 (x1_1) from (B_w b5 (by decide +kernel) (by decide +kernel)))
          have hI60 := IMc_u (u := 84) (i := x3_3.toNatClampNeg) (v := T4 81 5) hI59 (show B (-2147483648) 2147483647 (T4 81 5) from (B_w b15 (by decide +kernel) (by decide +kernel)))
          have hI61 := IMc_u (u := 81) (i := 5) (v := (T4 81 5) + (T4 82 x3_3.toNatClampNeg)) hI60 (show B (-2147483648) 2147483647 ((T4 81 5) + (T4 82 x3_3.toNatClampNeg)) from (B_w b50 (by decide +kernel) (by decide +kernel)))
          have g65 := agc_tr (agc_refl (fs := [8105]) (rs := [83, 84]) (F := va_up F 81 (upd (F 81) 5 0))) g9 (by decide +kernel) (by decide +kernel)
          have g64 := agc_r (u := 83) (w := upd (T4 83) x3_3.toNatClampNeg x1_1) g65 rfl (by decide +kernel)
          have g63 := agc_r (u := 84) (w := upd (T4 84) x3_3.toNatClampNeg (T4 81 5)) g64 rfl (by decide +kernel)
          have g62 := agc_f (u := 81) (k := 5) (v := (T4 81 5) + (T4 82 x3_3.toNatClampNeg)) g63 rfl (by decide +kernel)
          have q66 : (1) ≤ (x3_3).toInt ∧ (x3_3).toInt ≤ (16) := (show B 1 16 (x3_3) from B_w b22 (by decide +kernel) (by decide +kernel))
          have e67 : (x3_3 + 1).toInt = ((x3_3).toInt + 1) := (t_add b22 cqb_1_1_1 (by decide +kernel) (by decide +kernel)).trans (by rw [cqn_1])
          have q68 : (2) ≤ (x3_3 + 1).toInt ∧ (x3_3 + 1).toInt ≤ (17) := (show B 2 17 (x3_3 + 1) from B_w (B_add b22 cqb_1_1_1 (by decide +kernel) (by decide +kernel)) (by decide +kernel) (by decide +kernel))
          exact hR11 ⟨(B_w (B_any _) (by decide +kernel) (by decide +kernel)), (B_w cqb_0_0_0 (by decide +kernel) (by decide +kernel)), (B_w (B_add b22 cqb_1_1_1 (by decide +kernel) (by decide +kernel)) (by decide +kernel) (by decide +kernel)), _, _, rfl, hI61, g62, (fun h => absurd rfl h), (by show (0 ≤ ((T4 81 5) + (T4 82 x3_3.toNatClampNeg)).toInt) ∧ (((T4 81 5) + (T4 82 x3_3.toNatClampNeg)).toInt ≤ 511); first | with_reducible assumption | omega), (by show ((0 : Int) = 0) ∨ (((T4 81 5) + (T4 82 x3_3.toNatClampNeg)).toInt ≤ 256); first | with_reducible assumption | omega)⟩ (by show (17 - (x3_3 + 1).toInt).toNat < (17 - x3_3.toInt).toNat; omega)
        · have hq69 := (nle_lt hc)
          have b70 : B (-2147483648) 2147483646 (x1_1 + (T4 82 x3_3.toNatClampNeg)) := B_w (B_ltL (B_any _) (B_any _) hq69) (by decide +kernel) (by decide +kernel)
          have b71 : B (-2147483647) 2147483647 (((1 : Int32) <<< (x3_3 &&& 31 : Int32) : Int32)) := B_w (B_ltR (B_any _) (B_any _) hq69) (by decide +kernel) (by decide +kernel)
          have q72 : (-2147483648) ≤ (x1_1 + (T4 82 x3_3.toNatClampNeg)).toInt ∧ (x1_1 + (T4 82 x3_3.toNatClampNeg)).toInt ≤ (2147483646) := (show B (-2147483648) 2147483646 (x1_1 + (T4 82 x3_3.toNatClampNeg)) from B_w b70 (by decide +kernel) (by decide +kernel))
          have q73 : (-2147483647) ≤ (((1 : Int32) <<< (x3_3 &&& 31 : Int32) : Int32)).toInt ∧ (((1 : Int32) <<< (x3_3 &&& 31 : Int32) : Int32)).toInt ≤ (2147483647) := (show B (-2147483647) 2147483647 (((1 : Int32) <<< (x3_3 &&& 31 : Int32) : Int32)) from B_w b71 (by decide +kernel) (by decide +kernel))
          have i74 : (x1_1 + (T4 82 x3_3.toNatClampNeg)).toInt < (((1 : Int32) <<< (x3_3 &&& 31 : Int32) : Int32)).toInt := i_lt hq69
          unfold b_Co_giveOut_86
          have hI75 := IMc_u (u := 83) (i := x3_3.toNatClampNeg) (v := x1_1) hI8 (show B (-2147483648) 2147483647 (x1_1) from (B_w b5 (by decide +kernel) (by decide +kernel)))
          have hI76 := IMc_u (u := 84) (i := x3_3.toNatClampNeg) (v := T4 81 5) hI75 (show B (-2147483648) 2147483647 (T4 81 5) from (B_w b15 (by decide +kernel) (by decide +kernel)))
          have hI77 := IMc_u (u := 81) (i := 5) (v := (T4 81 5) + (T4 82 x3_3.toNatClampNeg)) hI76 (show B (-2147483648) 2147483647 ((T4 81 5) + (T4 82 x3_3.toNatClampNeg)) from (B_w b50 (by decide +kernel) (by decide +kernel)))
          have g81 := agc_tr (agc_refl (fs := [8105]) (rs := [83, 84]) (F := va_up F 81 (upd (F 81) 5 0))) g9 (by decide +kernel) (by decide +kernel)
          have g80 := agc_r (u := 83) (w := upd (T4 83) x3_3.toNatClampNeg x1_1) g81 rfl (by decide +kernel)
          have g79 := agc_r (u := 84) (w := upd (T4 84) x3_3.toNatClampNeg (T4 81 5)) g80 rfl (by decide +kernel)
          have g78 := agc_f (u := 81) (k := 5) (v := (T4 81 5) + (T4 82 x3_3.toNatClampNeg)) g79 rfl (by decide +kernel)
          have q82 : (1) ≤ (x3_3).toInt ∧ (x3_3).toInt ≤ (16) := (show B 1 16 (x3_3) from B_w b22 (by decide +kernel) (by decide +kernel))
          have e83 : (x3_3 + 1).toInt = ((x3_3).toInt + 1) := (t_add b22 cqb_1_1_1 (by decide +kernel) (by decide +kernel)).trans (by rw [cqn_1])
          have q84 : (2) ≤ (x3_3 + 1).toInt ∧ (x3_3 + 1).toInt ≤ (17) := (show B 2 17 (x3_3 + 1) from B_w (B_add b22 cqb_1_1_1 (by decide +kernel) (by decide +kernel)) (by decide +kernel) (by decide +kernel))
          exact hR11 ⟨(B_w (B_any _) (by decide +kernel) (by decide +kernel)), (B_w cqb_1_1_1 (by decide +kernel) (by decide +kernel)), (B_w (B_add b22 cqb_1_1_1 (by decide +kernel) (by decide +kernel)) (by decide +kernel) (by decide +kernel)), _, _, rfl, hI77, g78, (gQ_up (u := 81) (F := T4) (G := va_up (va_up (va_up T4 83 (upd (T4 83) x3_3.toNatClampNeg x1_1)) 84 (upd (T4 84) x3_3.toNatClampNeg (T4 81 5))) 81 (upd (T4 81) 5 ((T4 81 5) + (T4 82 x3_3.toNatClampNeg)))) (x := x2_2) (x' := 1) (n := x3_3) (n' := x3_3 + 1) r11 (fun _ => B_nz b29 (by decide +kernel)) (by omega) (by omega) rfl (T4 81 5) rfl (fun _ => ⟨by omega, by show (T4 81 5).toInt + (T4 82 x3_3.toNatClampNeg).toInt ≤ 256; first | with_reducible assumption | omega⟩)), (by show (0 ≤ ((T4 81 5) + (T4 82 x3_3.toNatClampNeg)).toInt) ∧ (((T4 81 5) + (T4 82 x3_3.toNatClampNeg)).toInt ≤ 511); first | with_reducible assumption | omega), (by show ((1 : Int) = 0) ∨ (((T4 81 5) + (T4 82 x3_3.toNatClampNeg)).toInt ≤ 256); first | with_reducible assumption | omega)⟩ (by show (17 - (x3_3 + 1).toInt).toNat < (17 - x3_3.toInt).toNat; omega)
set_option maxRecDepth 20000 in
set_option maxHeartbeats 4000000 in
theorem h_Co_symbolOf_u81 {a : Bool} {b : Bool} {P : Nat → Nat → Nat} {x1 : Int32} {x2 : Int32} {F : cF} {L : cL} {K : Int32 → cs → Prop} (b_x2 : B 1 16 x2) (hI : IMc F) (pre0 : CQi 0 F) (hK : ∀ {v : Int32}, B (-1) 255 v → K v (F, L, PC a b P)) : p_Co_symbolOf UL 81 x1 x2 (F, L, PC a b P) K := by
  have q1 : (1) ≤ (x2).toInt ∧ (x2).toInt ≤ (16) := (show B 1 16 (x2) from B_w b_x2 (by decide +kernel) (by decide +kernel))
  have k3 := cl_i (x := x2) (by omega)
  have k2 : 0 ≤ (F 84 x2.toNatClampNeg).toInt ∧ (F 84 x2.toNatClampNeg).toInt + (F 82 x2.toNatClampNeg).toInt ≤ 256 := pre0 x2.toNatClampNeg (by omega) (by omega)
  have q4 : (0) ≤ (F 82 x2.toNatClampNeg).toInt ∧ (F 82 x2.toNatClampNeg).toInt ≤ (255) := (show B 0 255 (F 82 x2.toNatClampNeg) from hI 82 x2.toNatClampNeg)
  have b5 : B 0 256 (F 84 x2.toNatClampNeg) := ⟨by omega, by omega⟩
  unfold p_Co_symbolOf
  refine ⟨(show ¬ ((83 : Nat) = NU) from by decide +kernel), ?_⟩
  refine ⟨(show c_cl UL 83 = 902 from cl_83), ?_⟩
  refine ⟨(show vp_in (x2) 17 from vp_B b_x2 (by decide +kernel) (by decide +kernel)), ?_⟩
  refine ⟨fun hc => ?_, fun hc => ?_⟩
  · have hq6 := hc
    have b7 : B (-2147483648) (-1) (x1 - (F 83 x2.toNatClampNeg)) := B_w (B_ltL (B_any _) cqb_0_0_0 hq6) (by decide +kernel) (by decide +kernel)
    have q8 : (-2147483648) ≤ (x1 - (F 83 x2.toNatClampNeg)).toInt ∧ (x1 - (F 83 x2.toNatClampNeg)).toInt ≤ (-1) := (show B (-2147483648) (-1) (x1 - (F 83 x2.toNatClampNeg)) from B_w b7 (by decide +kernel) (by decide +kernel))
    have i9 : (x1 - (F 83 x2.toNatClampNeg)).toInt < (0 : Int32).toInt := i_lt hq6
    have n10 : (0 : Int32).toInt = 0 := cqn_0
    unfold b_Co_symbolOf_39
    unfold b_Co_symbolOf_40
    exact hK (B_w cqb_m1_m1_m1 (by decide +kernel) (by decide +kernel))
  · have hq11 := (nlt_le hc)
    have b12 : B 0 2147483647 (x1 - (F 83 x2.toNatClampNeg)) := B_w (B_leR cqb_0_0_0 (B_any _) hq11) (by decide +kernel) (by decide +kernel)
    have q13 : (0) ≤ (x1 - (F 83 x2.toNatClampNeg)).toInt ∧ (x1 - (F 83 x2.toNatClampNeg)).toInt ≤ (2147483647) := (show B 0 2147483647 (x1 - (F 83 x2.toNatClampNeg)) from B_w b12 (by decide +kernel) (by decide +kernel))
    have i14 : (0 : Int32).toInt ≤ (x1 - (F 83 x2.toNatClampNeg)).toInt := i_le hq11
    have n15 : (0 : Int32).toInt = 0 := cqn_0
    refine ⟨(show ¬ ((82 : Nat) = NU) from by decide +kernel), ?_⟩
    refine ⟨(show c_cl UL 82 = 902 from cl_82), ?_⟩
    refine ⟨(show vp_in (x2) 17 from vp_B b_x2 (by decide +kernel) (by decide +kernel)), ?_⟩
    refine ⟨fun hc => ?_, fun hc => ?_⟩
    · have hq16 := hc
      have i17 : (F 82 x2.toNatClampNeg).toInt ≤ (x1 - (F 83 x2.toNatClampNeg)).toInt := i_le hq16
      unfold b_Co_symbolOf_39
      unfold b_Co_symbolOf_40
      exact hK (B_w cqb_m1_m1_m1 (by decide +kernel) (by decide +kernel))
    · have hq18 := (nle_lt hc)
      have b19 : B 0 254 (x1 - (F 83 x2.toNatClampNeg)) := B_w (B_ltL b12 (show B 0 255 (F 82 x2.toNatClampNeg) from hI 82 x2.toNatClampNeg) hq18) (by decide +kernel) (by decide +kernel)
      have q20 : (0) ≤ (x1 - (F 83 x2.toNatClampNeg)).toInt ∧ (x1 - (F 83 x2.toNatClampNeg)).toInt ≤ (254) := (show B 0 254 (x1 - (F 83 x2.toNatClampNeg)) from B_w b19 (by decide +kernel) (by decide +kernel))
      have b21 : B 1 255 (F 82 x2.toNatClampNeg) := B_w (B_ltR b12 (show B 0 255 (F 82 x2.toNatClampNeg) from hI 82 x2.toNatClampNeg) hq18) (by decide +kernel) (by decide +kernel)
      have q22 : (1) ≤ (F 82 x2.toNatClampNeg).toInt ∧ (F 82 x2.toNatClampNeg).toInt ≤ (255) := (show B 1 255 (F 82 x2.toNatClampNeg) from B_w b21 (by decide +kernel) (by decide +kernel))
      have i23 : (x1 - (F 83 x2.toNatClampNeg)).toInt < (F 82 x2.toNatClampNeg).toInt := i_lt hq18
      refine ⟨(show ¬ ((85 : Nat) = NU) from by decide +kernel), ?_⟩
      refine ⟨(show ¬ ((84 : Nat) = NU) from by decide +kernel), ?_⟩
      refine ⟨(show c_cl UL 84 = 902 from cl_84), ?_⟩
      refine ⟨(show vp_in (x2) 17 from vp_B b_x2 (by decide +kernel) (by decide +kernel)), ?_⟩
      refine ⟨(show c_cl UL 85 = 902 from cl_85), ?_⟩
      have q24 : (0) ≤ (F 84 x2.toNatClampNeg).toInt ∧ (F 84 x2.toNatClampNeg).toInt ≤ (256) := (show B 0 256 (F 84 x2.toNatClampNeg) from B_w b5 (by decide +kernel) (by decide +kernel))
      have e25 : ((F 84 x2.toNatClampNeg) + (x1 - (F 83 x2.toNatClampNeg))).toInt = ((F 84 x2.toNatClampNeg).toInt + (x1 - (F 83 x2.toNatClampNeg)).toInt) := (t_add b5 b19 (by decide +kernel) (by decide +kernel)).trans (by rfl)
      have q26 : (0) ≤ ((F 84 x2.toNatClampNeg) + (x1 - (F 83 x2.toNatClampNeg))).toInt ∧ ((F 84 x2.toNatClampNeg) + (x1 - (F 83 x2.toNatClampNeg))).toInt ≤ (510) := (show B 0 510 ((F 84 x2.toNatClampNeg) + (x1 - (F 83 x2.toNatClampNeg))) from B_w (B_add b5 b19 (by decide +kernel) (by decide +kernel)) (by decide +kernel) (by decide +kernel))
      refine ⟨(show vp_in ((F 84 x2.toNatClampNeg) + (x1 - (F 83 x2.toNatClampNeg))) 256 from vp_om (x := (F 84 x2.toNatClampNeg) + (x1 - (F 83 x2.toNatClampNeg))) (by omega) (by omega)), ?_⟩
      have b27 : B 0 255 ((F 84 x2.toNatClampNeg) + (x1 - (F 83 x2.toNatClampNeg))) := ⟨by omega, by omega⟩
      unfold b_Co_symbolOf_40
      exact hK (B_w (show B 0 255 (F 85 ((F 84 x2.toNatClampNeg) + (x1 - (F 83 x2.toNatClampNeg))).toNatClampNeg) from hI 85 ((F 84 x2.toNatClampNeg) + (x1 - (F 83 x2.toNatClampNeg))).toNatClampNeg) (by decide +kernel) (by decide +kernel))
set_option maxRecDepth 20000 in
set_option maxHeartbeats 4000000 in
theorem h_Re_readSymbol_u60_x181 {a : Bool} {b : Bool} {P : Nat → Nat → Nat} {F : cF} {L : cL} {K : Int32 → cs → Prop} {T : Nat → cs → Prop} (hI : IMc F) (pre0 : CQi 0 F) (hK : ∀ {v : Int32} {Z : cF} {LZ : cL}, B 0 255 v → IMc Z → agc [6001, 6002, 6003, 6004, 6005] [999] F Z → K v (Z, LZ, PC a b P)) (hT13 : ∀ {Z : cF} {LZ : cL}, IMc Z → agc [6001, 6002, 6003, 6004, 6005, 6006, 6007] [999] F Z → T 13 (Z, LZ, PC a b P)) : p_Re_readSymbol UL 60 81 (F, L, PC a b P) K T := by
  unfold p_Re_readSymbol
  refine h_Re_readBit_u60 hI (fun {v1_1} {FS1_2} {LFS1_2} b3 hI4 g5 => ?_) (fun hI g => hT13 hI (agc_tr (agc_refl (fs := [6001, 6002, 6003, 6004, 6005, 6006, 6007]) (rs := [999]) (F := F)) g (by decide +kernel) (by decide +kernel)))
  refine ⟨(show c_cl UL 81 = 3 from cl_81), ?_⟩
  have hI6 := IMc_u (u := 60) (i := 5) (v := FS1_2 60 3) hI4 (show B (-2147483648) 2147483647 (FS1_2 60 3) from (B_w (B_any _) (by decide +kernel) (by decide +kernel)))
  have g8 := agc_tr (agc_refl (fs := [6001, 6002, 6003, 6004, 6005]) (rs := []) (F := F)) g5 (by decide +kernel) (by decide +kernel)
  have g7 := agc_f (u := 60) (k := 5) (v := FS1_2 60 3) g8 rfl (by decide +kernel)
  refine h_Co_symbolOf_u81 (B_w cqb_1_1_1 (by decide +kernel) (by decide +kernel)) hI6 (CQi_ag (F := F) (G := va_up FS1_2 60 (upd (FS1_2 60) 5 (FS1_2 60 3))) pre0 (B_w cqb_0_0_0 (by decide +kernel) (by decide +kernel)) g7 (by decide +kernel)) (fun {v16_9} b11 => ?_)
  refine ⟨fun yx1 yx2 yx3 yx4 yS => (81 : Nat) = yx1 ∧ B (-2147483648) 2147483647 yx2 ∧ B (-1) 255 yx3 ∧ B 2 17 yx4 ∧ ∃ (T16 : cF) (LT16 : cL), yS = (T16, LT16, PC a b P) ∧ IMc T16 ∧ agc [6001, 6002, 6003, 6004] [999] (va_up FS1_2 60 (upd (FS1_2 60) 5 (FS1_2 60 3))) T16, fun yx1 yx2 yx3 yx4 yS => (17 - yx4.toInt).toNat, ⟨rfl, (B_w b3 (by decide +kernel) (by decide +kernel)), b11, (B_w cqb_2_2_2 (by decide +kernel) (by decide +kernel)), _, _, rfl, hI6, (agc_refl (fs := [6001, 6002, 6003, 6004]) (rs := [999]) (F := va_up FS1_2 60 (upd (FS1_2 60) 5 (FS1_2 60 3))))⟩, fun x1_12 x2_13 x3_14 x4_15 ST16 hIv => ?_⟩
  obtain ⟨rfl, b17, b18, b19, T16, LT16, rfl, hI20, g21⟩ := hIv
  suffices hs : ∀ (R23 : Nat → Int32 → Int32 → Int32 → cs → Prop), (∀ zx1 zx2 zx3 zx4 zS, ((81 : Nat) = zx1 ∧ B (-2147483648) 2147483647 zx2 ∧ B (-1) 255 zx3 ∧ B 2 17 zx4 ∧ ∃ (T16 : cF) (LT16 : cL), zS = (T16, LT16, PC a b P) ∧ IMc T16 ∧ agc [6001, 6002, 6003, 6004] [999] (va_up FS1_2 60 (upd (FS1_2 60) 5 (FS1_2 60 3))) T16) → (17 - zx4.toInt).toNat < (17 - x4_15.toInt).toNat → R23 zx1 zx2 zx3 zx4 zS) → b_Re_readSymbol_23 UL 60 81 x2_13 x3_14 x4_15 (T16, LT16, PC a b P) R23 K T from hs _ (fun _ _ _ _ _ h1 h2 => ⟨h1, h2⟩)
  intro R23 hR230
  have hR23 := fun {zx1} {zx2} {zx3} {zx4} {zS} => hR230 zx1 zx2 zx3 zx4 zS
  unfold b_Re_readSymbol_23
  refine ⟨fun hc => ?_, fun hc => ?_⟩
  · have hq22 := hc
    have b23 : B 17 17 (x4_15) := B_w (B_ltR cqb_16_16_16 b19 hq22) (by decide +kernel) (by decide +kernel)
    unfold b_Re_readSymbol_58
    refine ⟨fun hc => ?_, fun hc => ?_⟩
    · have q24 : (-1) ≤ (x3_14).toInt ∧ (x3_14).toInt ≤ (255) := (show B (-1) 255 (x3_14) from B_w b18 (by decide +kernel) (by decide +kernel))
      have i25 : (x3_14).toInt ≠ (-1 : Int32).toInt := i_ne hc
      have n26 : (-1 : Int32).toInt = -1 := cqn_m1
      unfold b_Re_readSymbol_73
      have g29 := agc_tr (agc_refl (fs := [6001, 6002, 6003, 6004, 6005]) (rs := [999]) (F := F)) g5 (by decide +kernel) (by decide +kernel)
      have g28 := agc_f (u := 60) (k := 5) (v := FS1_2 60 3) g29 rfl (by decide +kernel)
      have g27 := agc_tr g28 g21 (by decide +kernel) (by decide +kernel)
      exact hK (show B 0 255 (x3_14) from ⟨by omega, by omega⟩) hI20 g27
    · have b30 : B (-1) (-1) (x3_14) := B_w (B_eq hc cqb_m1_m1_m1) (by decide +kernel) (by decide +kernel)
      have q31 : (-1) ≤ (x3_14).toInt ∧ (x3_14).toInt ≤ (-1) := (show B (-1) (-1) (x3_14) from B_w b30 (by decide +kernel) (by decide +kernel))
      have i32 : (x3_14).toInt = (-1 : Int32).toInt := congrArg Int32.toInt hc
      have n33 : (-1 : Int32).toInt = -1 := cqn_m1
      have g39 := agc_tr (agc_refl (fs := [6001, 6002, 6003, 6004, 6005, 6006, 6007]) (rs := [999]) (F := F)) g5 (by decide +kernel) (by decide +kernel)
      have g38 := agc_f (u := 60) (k := 5) (v := FS1_2 60 3) g39 rfl (by decide +kernel)
      have g37 := agc_tr g38 g21 (by decide +kernel) (by decide +kernel)
      exact h_Re_fail_u60 (B_w cqb_7_7_7 (by decide +kernel) (by decide +kernel)) hI20 (fun hI g => hT13 hI (agc_tr g37 g (by decide +kernel) (by decide +kernel)))
  · have hq40 := (nlt_le hc)
    have b41 : B 2 16 (x4_15) := B_w (B_leL b19 cqb_16_16_16 hq40) (by decide +kernel) (by decide +kernel)
    refine ⟨fun hc => ?_, fun hc => ?_⟩
    · have q42 : (-1) ≤ (x3_14).toInt ∧ (x3_14).toInt ≤ (255) := (show B (-1) 255 (x3_14) from B_w b18 (by decide +kernel) (by decide +kernel))
      have i43 : (x3_14).toInt ≠ (-1 : Int32).toInt := i_ne hc
      have n44 : (-1 : Int32).toInt = -1 := cqn_m1
      unfold b_Re_readSymbol_58
      refine ⟨fun hc => ?_, fun hc => ?_⟩
      · have i45 : (x3_14).toInt ≠ (-1 : Int32).toInt := i_ne hc
        have n46 : (-1 : Int32).toInt = -1 := cqn_m1
        unfold b_Re_readSymbol_73
        have g49 := agc_tr (agc_refl (fs := [6001, 6002, 6003, 6004, 6005]) (rs := [999]) (F := F)) g5 (by decide +kernel) (by decide +kernel)
        have g48 := agc_f (u := 60) (k := 5) (v := FS1_2 60 3) g49 rfl (by decide +kernel)
        have g47 := agc_tr g48 g21 (by decide +kernel) (by decide +kernel)
        exact hK (show B 0 255 (x3_14) from ⟨by omega, by omega⟩) hI20 g47
      · have b50 : B (-1) (-1) (x3_14) := B_w (B_eq hc cqb_m1_m1_m1) (by decide +kernel) (by decide +kernel)
        have q51 : (-1) ≤ (x3_14).toInt ∧ (x3_14).toInt ≤ (-1) := (show B (-1) (-1) (x3_14) from B_w b50 (by decide +kernel) (by decide +kernel))
        have i52 : (x3_14).toInt = (-1 : Int32).toInt := congrArg Int32.toInt hc
        have n53 : (-1 : Int32).toInt = -1 := cqn_m1
        have g59 := agc_tr (agc_refl (fs := [6001, 6002, 6003, 6004, 6005, 6006, 6007]) (rs := [999]) (F := F)) g5 (by decide +kernel) (by decide +kernel)
        have g58 := agc_f (u := 60) (k := 5) (v := FS1_2 60 3) g59 rfl (by decide +kernel)
        have g57 := agc_tr g58 g21 (by decide +kernel) (by decide +kernel)
        exact h_Re_fail_u60 (B_w cqb_7_7_7 (by decide +kernel) (by decide +kernel)) hI20 (fun hI g => hT13 hI (agc_tr g57 g (by decide +kernel) (by decide +kernel)))
    · have b60 : B (-1) (-1) (x3_14) := B_w (B_eq hc cqb_m1_m1_m1) (by decide +kernel) (by decide +kernel)
      have q61 : (-1) ≤ (x3_14).toInt ∧ (x3_14).toInt ≤ (-1) := (show B (-1) (-1) (x3_14) from B_w b60 (by decide +kernel) (by decide +kernel))
      have i62 : (x3_14).toInt = (-1 : Int32).toInt := congrArg Int32.toInt hc
      have n63 : (-1 : Int32).toInt = -1 := cqn_m1
      have g71 := agc_tr (agc_refl (fs := [6001, 6002, 6003, 6004, 6005, 6006, 6007]) (rs := [999]) (F := F)) g5 (by decide +kernel) (by decide +kernel)
      have g70 := agc_f (u := 60) (k := 5) (v := FS1_2 60 3) g71 rfl (by decide +kernel)
      have g69 := agc_tr g70 g21 (by decide +kernel) (by decide +kernel)
      refine h_Re_readBit_u60 hI20 (fun {v39_64} {FS39_65} {LFS39_65} b66 hI67 g68 => ?_) (fun hI g => hT13 hI (agc_tr g69 g (by decide +kernel) (by decide +kernel)))
      refine ⟨(show c_cl UL 81 = 3 from cl_81), ?_⟩
      have g75 := agc_tr (agc_refl (fs := [6001, 6002, 6003, 6004, 6005]) (rs := [999]) (F := F)) g5 (by decide +kernel) (by decide +kernel)
      have g74 := agc_f (u := 60) (k := 5) (v := FS1_2 60 3) g75 rfl (by decide +kernel)
      have g73 := agc_tr g74 g21 (by decide +kernel) (by decide +kernel)
      have g72 := agc_tr g73 g68 (by decide +kernel) (by decide +kernel)
      refine h_Co_symbolOf_u81 (B_w b41 (by decide +kernel) (by decide +kernel)) hI67 (CQi_ag (F := F) (G := FS39_65) pre0 (B_w cqb_0_0_0 (by decide +kernel) (by decide +kernel)) g72 (by decide +kernel)) (fun {v48_76} b78 => ?_)
      have g80 := agc_tr (agc_refl (fs := [6001, 6002, 6003, 6004]) (rs := [999]) (F := va_up FS1_2 60 (upd (FS1_2 60) 5 (FS1_2 60 3)))) g21 (by decide +kernel) (by decide +kernel)
      have g79 := agc_tr g80 g68 (by decide +kernel) (by decide +kernel)
      have q81 : (2) ≤ (x4_15).toInt ∧ (x4_15).toInt ≤ (16) := (show B 2 16 (x4_15) from B_w b41 (by decide +kernel) (by decide +kernel))
      have e82 : (x4_15 + 1).toInt = ((x4_15).toInt + 1) := (t_add b41 cqb_1_1_1 (by decide +kernel) (by decide +kernel)).trans (by rw [cqn_1])
      have q83 : (3) ≤ (x4_15 + 1).toInt ∧ (x4_15 + 1).toInt ≤ (17) := (show B 3 17 (x4_15 + 1) from B_w (B_add b41 cqb_1_1_1 (by decide +kernel) (by decide +kernel)) (by decide +kernel) (by decide +kernel))
      exact hR23 ⟨rfl, (B_w (B_any _) (by decide +kernel) (by decide +kernel)), b78, (B_w (B_add b41 cqb_1_1_1 (by decide +kernel) (by decide +kernel)) (by decide +kernel) (by decide +kernel)), _, _, rfl, hI67, g79⟩ (by show (17 - (x4_15 + 1).toInt).toNat < (17 - x4_15.toInt).toNat; omega)
set_option maxRecDepth 20000 in
set_option maxHeartbeats 4000000 in
theorem h_Co_symbolOf_u86 {a : Bool} {b : Bool} {P : Nat → Nat → Nat} {x1 : Int32} {x2 : Int32} {F : cF} {L : cL} {K : Int32 → cs → Prop} (b_x2 : B 1 16 x2) (hI : IMc F) (pre0 : CQi 1 F) (hK : ∀ {v : Int32}, B (-1) 255 v → K v (F, L, PC a b P)) : p_Co_symbolOf UL 86 x1 x2 (F, L, PC a b P) K := by
  have q1 : (1) ≤ (x2).toInt ∧ (x2).toInt ≤ (16) := (show B 1 16 (x2) from B_w b_x2 (by decide +kernel) (by decide +kernel))
  have k3 := cl_i (x := x2) (by omega)
  have k2 : 0 ≤ (F 89 x2.toNatClampNeg).toInt ∧ (F 89 x2.toNatClampNeg).toInt + (F 87 x2.toNatClampNeg).toInt ≤ 256 := pre0 x2.toNatClampNeg (by omega) (by omega)
  have q4 : (0) ≤ (F 87 x2.toNatClampNeg).toInt ∧ (F 87 x2.toNatClampNeg).toInt ≤ (255) := (show B 0 255 (F 87 x2.toNatClampNeg) from hI 87 x2.toNatClampNeg)
  have b5 : B 0 256 (F 89 x2.toNatClampNeg) := ⟨by omega, by omega⟩
  unfold p_Co_symbolOf
  refine ⟨(show ¬ ((88 : Nat) = NU) from by decide +kernel), ?_⟩
  refine ⟨(show c_cl UL 88 = 902 from cl_88), ?_⟩
  refine ⟨(show vp_in (x2) 17 from vp_B b_x2 (by decide +kernel) (by decide +kernel)), ?_⟩
  refine ⟨fun hc => ?_, fun hc => ?_⟩
  · have hq6 := hc
    have b7 : B (-2147483648) (-1) (x1 - (F 88 x2.toNatClampNeg)) := B_w (B_ltL (B_any _) cqb_0_0_0 hq6) (by decide +kernel) (by decide +kernel)
    have q8 : (-2147483648) ≤ (x1 - (F 88 x2.toNatClampNeg)).toInt ∧ (x1 - (F 88 x2.toNatClampNeg)).toInt ≤ (-1) := (show B (-2147483648) (-1) (x1 - (F 88 x2.toNatClampNeg)) from B_w b7 (by decide +kernel) (by decide +kernel))
    have i9 : (x1 - (F 88 x2.toNatClampNeg)).toInt < (0 : Int32).toInt := i_lt hq6
    have n10 : (0 : Int32).toInt = 0 := cqn_0
    unfold b_Co_symbolOf_39
    unfold b_Co_symbolOf_40
    exact hK (B_w cqb_m1_m1_m1 (by decide +kernel) (by decide +kernel))
  · have hq11 := (nlt_le hc)
    have b12 : B 0 2147483647 (x1 - (F 88 x2.toNatClampNeg)) := B_w (B_leR cqb_0_0_0 (B_any _) hq11) (by decide +kernel) (by decide +kernel)
    have q13 : (0) ≤ (x1 - (F 88 x2.toNatClampNeg)).toInt ∧ (x1 - (F 88 x2.toNatClampNeg)).toInt ≤ (2147483647) := (show B 0 2147483647 (x1 - (F 88 x2.toNatClampNeg)) from B_w b12 (by decide +kernel) (by decide +kernel))
    have i14 : (0 : Int32).toInt ≤ (x1 - (F 88 x2.toNatClampNeg)).toInt := i_le hq11
    have n15 : (0 : Int32).toInt = 0 := cqn_0
    refine ⟨(show ¬ ((87 : Nat) = NU) from by decide +kernel), ?_⟩
    refine ⟨(show c_cl UL 87 = 902 from cl_87), ?_⟩
    refine ⟨(show vp_in (x2) 17 from vp_B b_x2 (by decide +kernel) (by decide +kernel)), ?_⟩
    refine ⟨fun hc => ?_, fun hc => ?_⟩
    · have hq16 := hc
      have i17 : (F 87 x2.toNatClampNeg).toInt ≤ (x1 - (F 88 x2.toNatClampNeg)).toInt := i_le hq16
      unfold b_Co_symbolOf_39
      unfold b_Co_symbolOf_40
      exact hK (B_w cqb_m1_m1_m1 (by decide +kernel) (by decide +kernel))
    · have hq18 := (nle_lt hc)
      have b19 : B 0 254 (x1 - (F 88 x2.toNatClampNeg)) := B_w (B_ltL b12 (show B 0 255 (F 87 x2.toNatClampNeg) from hI 87 x2.toNatClampNeg) hq18) (by decide +kernel) (by decide +kernel)
      have q20 : (0) ≤ (x1 - (F 88 x2.toNatClampNeg)).toInt ∧ (x1 - (F 88 x2.toNatClampNeg)).toInt ≤ (254) := (show B 0 254 (x1 - (F 88 x2.toNatClampNeg)) from B_w b19 (by decide +kernel) (by decide +kernel))
      have b21 : B 1 255 (F 87 x2.toNatClampNeg) := B_w (B_ltR b12 (show B 0 255 (F 87 x2.toNatClampNeg) from hI 87 x2.toNatClampNeg) hq18) (by decide +kernel) (by decide +kernel)
      have q22 : (1) ≤ (F 87 x2.toNatClampNeg).toInt ∧ (F 87 x2.toNatClampNeg).toInt ≤ (255) := (show B 1 255 (F 87 x2.toNatClampNeg) from B_w b21 (by decide +kernel) (by decide +kernel))
      have i23 : (x1 - (F 88 x2.toNatClampNeg)).toInt < (F 87 x2.toNatClampNeg).toInt := i_lt hq18
      refine ⟨(show ¬ ((90 : Nat) = NU) from by decide +kernel), ?_⟩
      refine ⟨(show ¬ ((89 : Nat) = NU) from by decide +kernel), ?_⟩
      refine ⟨(show c_cl UL 89 = 902 from cl_89), ?_⟩
      refine ⟨(show vp_in (x2) 17 from vp_B b_x2 (by decide +kernel) (by decide +kernel)), ?_⟩
      refine ⟨(show c_cl UL 90 = 902 from cl_90), ?_⟩
      have q24 : (0) ≤ (F 89 x2.toNatClampNeg).toInt ∧ (F 89 x2.toNatClampNeg).toInt ≤ (256) := (show B 0 256 (F 89 x2.toNatClampNeg) from B_w b5 (by decide +kernel) (by decide +kernel))
      have e25 : ((F 89 x2.toNatClampNeg) + (x1 - (F 88 x2.toNatClampNeg))).toInt = ((F 89 x2.toNatClampNeg).toInt + (x1 - (F 88 x2.toNatClampNeg)).toInt) := (t_add b5 b19 (by decide +kernel) (by decide +kernel)).trans (by rfl)
      have q26 : (0) ≤ ((F 89 x2.toNatClampNeg) + (x1 - (F 88 x2.toNatClampNeg))).toInt ∧ ((F 89 x2.toNatClampNeg) + (x1 - (F 88 x2.toNatClampNeg))).toInt ≤ (510) := (show B 0 510 ((F 89 x2.toNatClampNeg) + (x1 - (F 88 x2.toNatClampNeg))) from B_w (B_add b5 b19 (by decide +kernel) (by decide +kernel)) (by decide +kernel) (by decide +kernel))
      refine ⟨(show vp_in ((F 89 x2.toNatClampNeg) + (x1 - (F 88 x2.toNatClampNeg))) 256 from vp_om (x := (F 89 x2.toNatClampNeg) + (x1 - (F 88 x2.toNatClampNeg))) (by omega) (by omega)), ?_⟩
      have b27 : B 0 255 ((F 89 x2.toNatClampNeg) + (x1 - (F 88 x2.toNatClampNeg))) := ⟨by omega, by omega⟩
      unfold b_Co_symbolOf_40
      exact hK (B_w (show B 0 255 (F 90 ((F 89 x2.toNatClampNeg) + (x1 - (F 88 x2.toNatClampNeg))).toNatClampNeg) from hI 90 ((F 89 x2.toNatClampNeg) + (x1 - (F 88 x2.toNatClampNeg))).toNatClampNeg) (by decide +kernel) (by decide +kernel))
set_option maxRecDepth 20000 in
set_option maxHeartbeats 4000000 in
theorem h_Re_readSymbol_u60_x186 {a : Bool} {b : Bool} {P : Nat → Nat → Nat} {F : cF} {L : cL} {K : Int32 → cs → Prop} {T : Nat → cs → Prop} (hI : IMc F) (pre0 : CQi 1 F) (hK : ∀ {v : Int32} {Z : cF} {LZ : cL}, B 0 255 v → IMc Z → agc [6001, 6002, 6003, 6004, 6005] [999] F Z → K v (Z, LZ, PC a b P)) (hT13 : ∀ {Z : cF} {LZ : cL}, IMc Z → agc [6001, 6002, 6003, 6004, 6005, 6006, 6007] [999] F Z → T 13 (Z, LZ, PC a b P)) : p_Re_readSymbol UL 60 86 (F, L, PC a b P) K T := by
  unfold p_Re_readSymbol
  refine h_Re_readBit_u60 hI (fun {v1_1} {FS1_2} {LFS1_2} b3 hI4 g5 => ?_) (fun hI g => hT13 hI (agc_tr (agc_refl (fs := [6001, 6002, 6003, 6004, 6005, 6006, 6007]) (rs := [999]) (F := F)) g (by decide +kernel) (by decide +kernel)))
  refine ⟨(show c_cl UL 86 = 3 from cl_86), ?_⟩
  have hI6 := IMc_u (u := 60) (i := 5) (v := FS1_2 60 3) hI4 (show B (-2147483648) 2147483647 (FS1_2 60 3) from (B_w (B_any _) (by decide +kernel) (by decide +kernel)))
  have g8 := agc_tr (agc_refl (fs := [6001, 6002, 6003, 6004, 6005]) (rs := []) (F := F)) g5 (by decide +kernel) (by decide +kernel)
  have g7 := agc_f (u := 60) (k := 5) (v := FS1_2 60 3) g8 rfl (by decide +kernel)
  refine h_Co_symbolOf_u86 (B_w cqb_1_1_1 (by decide +kernel) (by decide +kernel)) hI6 (CQi_ag (F := F) (G := va_up FS1_2 60 (upd (FS1_2 60) 5 (FS1_2 60 3))) pre0 (B_w cqb_1_1_1 (by decide +kernel) (by decide +kernel)) g7 (by decide +kernel)) (fun {v16_9} b11 => ?_)
  refine ⟨fun yx1 yx2 yx3 yx4 yS => (86 : Nat) = yx1 ∧ B (-2147483648) 2147483647 yx2 ∧ B (-1) 255 yx3 ∧ B 2 17 yx4 ∧ ∃ (T16 : cF) (LT16 : cL), yS = (T16, LT16, PC a b P) ∧ IMc T16 ∧ agc [6001, 6002, 6003, 6004] [999] (va_up FS1_2 60 (upd (FS1_2 60) 5 (FS1_2 60 3))) T16, fun yx1 yx2 yx3 yx4 yS => (17 - yx4.toInt).toNat, ⟨rfl, (B_w b3 (by decide +kernel) (by decide +kernel)), b11, (B_w cqb_2_2_2 (by decide +kernel) (by decide +kernel)), _, _, rfl, hI6, (agc_refl (fs := [6001, 6002, 6003, 6004]) (rs := [999]) (F := va_up FS1_2 60 (upd (FS1_2 60) 5 (FS1_2 60 3))))⟩, fun x1_12 x2_13 x3_14 x4_15 ST16 hIv => ?_⟩
  obtain ⟨rfl, b17, b18, b19, T16, LT16, rfl, hI20, g21⟩ := hIv
  suffices hs : ∀ (R23 : Nat → Int32 → Int32 → Int32 → cs → Prop), (∀ zx1 zx2 zx3 zx4 zS, ((86 : Nat) = zx1 ∧ B (-2147483648) 2147483647 zx2 ∧ B (-1) 255 zx3 ∧ B 2 17 zx4 ∧ ∃ (T16 : cF) (LT16 : cL), zS = (T16, LT16, PC a b P) ∧ IMc T16 ∧ agc [6001, 6002, 6003, 6004] [999] (va_up FS1_2 60 (upd (FS1_2 60) 5 (FS1_2 60 3))) T16) → (17 - zx4.toInt).toNat < (17 - x4_15.toInt).toNat → R23 zx1 zx2 zx3 zx4 zS) → b_Re_readSymbol_23 UL 60 86 x2_13 x3_14 x4_15 (T16, LT16, PC a b P) R23 K T from hs _ (fun _ _ _ _ _ h1 h2 => ⟨h1, h2⟩)
  intro R23 hR230
  have hR23 := fun {zx1} {zx2} {zx3} {zx4} {zS} => hR230 zx1 zx2 zx3 zx4 zS
  unfold b_Re_readSymbol_23
  refine ⟨fun hc => ?_, fun hc => ?_⟩
  · have hq22 := hc
    have b23 : B 17 17 (x4_15) := B_w (B_ltR cqb_16_16_16 b19 hq22) (by decide +kernel) (by decide +kernel)
    unfold b_Re_readSymbol_58
    refine ⟨fun hc => ?_, fun hc => ?_⟩
    · have q24 : (-1) ≤ (x3_14).toInt ∧ (x3_14).toInt ≤ (255) := (show B (-1) 255 (x3_14) from B_w b18 (by decide +kernel) (by decide +kernel))
      have i25 : (x3_14).toInt ≠ (-1 : Int32).toInt := i_ne hc
      have n26 : (-1 : Int32).toInt = -1 := cqn_m1
      unfold b_Re_readSymbol_73
      have g29 := agc_tr (agc_refl (fs := [6001, 6002, 6003, 6004, 6005]) (rs := [999]) (F := F)) g5 (by decide +kernel) (by decide +kernel)
      have g28 := agc_f (u := 60) (k := 5) (v := FS1_2 60 3) g29 rfl (by decide +kernel)
      have g27 := agc_tr g28 g21 (by decide +kernel) (by decide +kernel)
      exact hK (show B 0 255 (x3_14) from ⟨by omega, by omega⟩) hI20 g27
    · have b30 : B (-1) (-1) (x3_14) := B_w (B_eq hc cqb_m1_m1_m1) (by decide +kernel) (by decide +kernel)
      have q31 : (-1) ≤ (x3_14).toInt ∧ (x3_14).toInt ≤ (-1) := (show B (-1) (-1) (x3_14) from B_w b30 (by decide +kernel) (by decide +kernel))
      have i32 : (x3_14).toInt = (-1 : Int32).toInt := congrArg Int32.toInt hc
      have n33 : (-1 : Int32).toInt = -1 := cqn_m1
      have g39 := agc_tr (agc_refl (fs := [6001, 6002, 6003, 6004, 6005, 6006, 6007]) (rs := [999]) (F := F)) g5 (by decide +kernel) (by decide +kernel)
      have g38 := agc_f (u := 60) (k := 5) (v := FS1_2 60 3) g39 rfl (by decide +kernel)
      have g37 := agc_tr g38 g21 (by decide +kernel) (by decide +kernel)
      exact h_Re_fail_u60 (B_w cqb_7_7_7 (by decide +kernel) (by decide +kernel)) hI20 (fun hI g => hT13 hI (agc_tr g37 g (by decide +kernel) (by decide +kernel)))
  · have hq40 := (nlt_le hc)
    have b41 : B 2 16 (x4_15) := B_w (B_leL b19 cqb_16_16_16 hq40) (by decide +kernel) (by decide +kernel)
    refine ⟨fun hc => ?_, fun hc => ?_⟩
    · have q42 : (-1) ≤ (x3_14).toInt ∧ (x3_14).toInt ≤ (255) := (show B (-1) 255 (x3_14) from B_w b18 (by decide +kernel) (by decide +kernel))
      have i43 : (x3_14).toInt ≠ (-1 : Int32).toInt := i_ne hc
      have n44 : (-1 : Int32).toInt = -1 := cqn_m1
      unfold b_Re_readSymbol_58
      refine ⟨fun hc => ?_, fun hc => ?_⟩
      · have i45 : (x3_14).toInt ≠ (-1 : Int32).toInt := i_ne hc
        have n46 : (-1 : Int32).toInt = -1 := cqn_m1
        unfold b_Re_readSymbol_73
        have g49 := agc_tr (agc_refl (fs := [6001, 6002, 6003, 6004, 6005]) (rs := [999]) (F := F)) g5 (by decide +kernel) (by decide +kernel)
        have g48 := agc_f (u := 60) (k := 5) (v := FS1_2 60 3) g49 rfl (by decide +kernel)
        have g47 := agc_tr g48 g21 (by decide +kernel) (by decide +kernel)
        exact hK (show B 0 255 (x3_14) from ⟨by omega, by omega⟩) hI20 g47
      · have b50 : B (-1) (-1) (x3_14) := B_w (B_eq hc cqb_m1_m1_m1) (by decide +kernel) (by decide +kernel)
        have q51 : (-1) ≤ (x3_14).toInt ∧ (x3_14).toInt ≤ (-1) := (show B (-1) (-1) (x3_14) from B_w b50 (by decide +kernel) (by decide +kernel))
        have i52 : (x3_14).toInt = (-1 : Int32).toInt := congrArg Int32.toInt hc
        have n53 : (-1 : Int32).toInt = -1 := cqn_m1
        have g59 := agc_tr (agc_refl (fs := [6001, 6002, 6003, 6004, 6005, 6006, 6007]) (rs := [999]) (F := F)) g5 (by decide +kernel) (by decide +kernel)
        have g58 := agc_f (u := 60) (k := 5) (v := FS1_2 60 3) g59 rfl (by decide +kernel)
        have g57 := agc_tr g58 g21 (by decide +kernel) (by decide +kernel)
        exact h_Re_fail_u60 (B_w cqb_7_7_7 (by decide +kernel) (by decide +kernel)) hI20 (fun hI g => hT13 hI (agc_tr g57 g (by decide +kernel) (by decide +kernel)))
    · have b60 : B (-1) (-1) (x3_14) := B_w (B_eq hc cqb_m1_m1_m1) (by decide +kernel) (by decide +kernel)
      have q61 : (-1) ≤ (x3_14).toInt ∧ (x3_14).toInt ≤ (-1) := (show B (-1) (-1) (x3_14) from B_w b60 (by decide +kernel) (by decide +kernel))
      have i62 : (x3_14).toInt = (-1 : Int32).toInt := congrArg Int32.toInt hc
      have n63 : (-1 : Int32).toInt = -1 := cqn_m1
      have g71 := agc_tr (agc_refl (fs := [6001, 6002, 6003, 6004, 6005, 6006, 6007]) (rs := [999]) (F := F)) g5 (by decide +kernel) (by decide +kernel)
      have g70 := agc_f (u := 60) (k := 5) (v := FS1_2 60 3) g71 rfl (by decide +kernel)
      have g69 := agc_tr g70 g21 (by decide +kernel) (by decide +kernel)
      refine h_Re_readBit_u60 hI20 (fun {v39_64} {FS39_65} {LFS39_65} b66 hI67 g68 => ?_) (fun hI g => hT13 hI (agc_tr g69 g (by decide +kernel) (by decide +kernel)))
      refine ⟨(show c_cl UL 86 = 3 from cl_86), ?_⟩
      have g75 := agc_tr (agc_refl (fs := [6001, 6002, 6003, 6004, 6005]) (rs := [999]) (F := F)) g5 (by decide +kernel) (by decide +kernel)
      have g74 := agc_f (u := 60) (k := 5) (v := FS1_2 60 3) g75 rfl (by decide +kernel)
      have g73 := agc_tr g74 g21 (by decide +kernel) (by decide +kernel)
      have g72 := agc_tr g73 g68 (by decide +kernel) (by decide +kernel)
      refine h_Co_symbolOf_u86 (B_w b41 (by decide +kernel) (by decide +kernel)) hI67 (CQi_ag (F := F) (G := FS39_65) pre0 (B_w cqb_1_1_1 (by decide +kernel) (by decide +kernel)) g72 (by decide +kernel)) (fun {v48_76} b78 => ?_)
      have g80 := agc_tr (agc_refl (fs := [6001, 6002, 6003, 6004]) (rs := [999]) (F := va_up FS1_2 60 (upd (FS1_2 60) 5 (FS1_2 60 3)))) g21 (by decide +kernel) (by decide +kernel)
      have g79 := agc_tr g80 g68 (by decide +kernel) (by decide +kernel)
      have q81 : (2) ≤ (x4_15).toInt ∧ (x4_15).toInt ≤ (16) := (show B 2 16 (x4_15) from B_w b41 (by decide +kernel) (by decide +kernel))
      have e82 : (x4_15 + 1).toInt = ((x4_15).toInt + 1) := (t_add b41 cqb_1_1_1 (by decide +kernel) (by decide +kernel)).trans (by rw [cqn_1])
      have q83 : (3) ≤ (x4_15 + 1).toInt ∧ (x4_15 + 1).toInt ≤ (17) := (show B 3 17 (x4_15 + 1) from B_w (B_add b41 cqb_1_1_1 (by decide +kernel) (by decide +kernel)) (by decide +kernel) (by decide +kernel))
      exact hR23 ⟨rfl, (B_w (B_any _) (by decide +kernel) (by decide +kernel)), b78, (B_w (B_add b41 cqb_1_1_1 (by decide +kernel) (by decide +kernel)) (by decide +kernel) (by decide +kernel)), _, _, rfl, hI67, g79⟩ (by show (17 - (x4_15 + 1).toInt).toNat < (17 - x4_15.toInt).toNat; omega)
set_option maxRecDepth 20000 in
set_option maxHeartbeats 4000000 in
theorem h_Co_symbolOf_u91 {a : Bool} {b : Bool} {P : Nat → Nat → Nat} {x1 : Int32} {x2 : Int32} {F : cF} {L : cL} {K : Int32 → cs → Prop} (b_x2 : B 1 16 x2) (hI : IMc F) (pre0 : CQi 2 F) (hK : ∀ {v : Int32}, B (-1) 255 v → K v (F, L, PC a b P)) : p_Co_symbolOf UL 91 x1 x2 (F, L, PC a b P) K := by
  have q1 : (1) ≤ (x2).toInt ∧ (x2).toInt ≤ (16) := (show B 1 16 (x2) from B_w b_x2 (by decide +kernel) (by decide +kernel))
  have k3 := cl_i (x := x2) (by omega)
  have k2 : 0 ≤ (F 94 x2.toNatClampNeg).toInt ∧ (F 94 x2.toNatClampNeg).toInt + (F 92 x2.toNatClampNeg).toInt ≤ 256 := pre0 x2.toNatClampNeg (by omega) (by omega)
  have q4 : (0) ≤ (F 92 x2.toNatClampNeg).toInt ∧ (F 92 x2.toNatClampNeg).toInt ≤ (255) := (show B 0 255 (F 92 x2.toNatClampNeg) from hI 92 x2.toNatClampNeg)
  have b5 : B 0 256 (F 94 x2.toNatClampNeg) := ⟨by omega, by omega⟩
  unfold p_Co_symbolOf
  refine ⟨(show ¬ ((93 : Nat) = NU) from by decide +kernel), ?_⟩
  refine ⟨(show c_cl UL 93 = 902 from cl_93), ?_⟩
  refine ⟨(show vp_in (x2) 17 from vp_B b_x2 (by decide +kernel) (by decide +kernel)), ?_⟩
  refine ⟨fun hc => ?_, fun hc => ?_⟩
  · have hq6 := hc
    have b7 : B (-2147483648) (-1) (x1 - (F 93 x2.toNatClampNeg)) := B_w (B_ltL (B_any _) cqb_0_0_0 hq6) (by decide +kernel) (by decide +kernel)
    have q8 : (-2147483648) ≤ (x1 - (F 93 x2.toNatClampNeg)).toInt ∧ (x1 - (F 93 x2.toNatClampNeg)).toInt ≤ (-1) := (show B (-2147483648) (-1) (x1 - (F 93 x2.toNatClampNeg)) from B_w b7 (by decide +kernel) (by decide +kernel))
    have i9 : (x1 - (F 93 x2.toNatClampNeg)).toInt < (0 : Int32).toInt := i_lt hq6
    have n10 : (0 : Int32).toInt = 0 := cqn_0
    unfold b_Co_symbolOf_39
    unfold b_Co_symbolOf_40
    exact hK (B_w cqb_m1_m1_m1 (by decide +kernel) (by decide +kernel))
  · have hq11 := (nlt_le hc)
    have b12 : B 0 2147483647 (x1 - (F 93 x2.toNatClampNeg)) := B_w (B_leR cqb_0_0_0 (B_any _) hq11) (by decide +kernel) (by decide +kernel)
    have q13 : (0) ≤ (x1 - (F 93 x2.toNatClampNeg)).toInt ∧ (x1 - (F 93 x2.toNatClampNeg)).toInt ≤ (2147483647) := (show B 0 2147483647 (x1 - (F 93 x2.toNatClampNeg)) from B_w b12 (by decide +kernel) (by decide +kernel))
    have i14 : (0 : Int32).toInt ≤ (x1 - (F 93 x2.toNatClampNeg)).toInt := i_le hq11
    have n15 : (0 : Int32).toInt = 0 := cqn_0
    refine ⟨(show ¬ ((92 : Nat) = NU) from by decide +kernel), ?_⟩
    refine ⟨(show c_cl UL 92 = 902 from cl_92), ?_⟩
    refine ⟨(show vp_in (x2) 17 from vp_B b_x2 (by decide +kernel) (by decide +kernel)), ?_⟩
    refine ⟨fun hc => ?_, fun hc => ?_⟩
    · have hq16 := hc
      have i17 : (F 92 x2.toNatClampNeg).toInt ≤ (x1 - (F 93 x2.toNatClampNeg)).toInt := i_le hq16
      unfold b_Co_symbolOf_39
      unfold b_Co_symbolOf_40
      exact hK (B_w cqb_m1_m1_m1 (by decide +kernel) (by decide +kernel))
    · have hq18 := (nle_lt hc)
      have b19 : B 0 254 (x1 - (F 93 x2.toNatClampNeg)) := B_w (B_ltL b12 (show B 0 255 (F 92 x2.toNatClampNeg) from hI 92 x2.toNatClampNeg) hq18) (by decide +kernel) (by decide +kernel)
      have q20 : (0) ≤ (x1 - (F 93 x2.toNatClampNeg)).toInt ∧ (x1 - (F 93 x2.toNatClampNeg)).toInt ≤ (254) := (show B 0 254 (x1 - (F 93 x2.toNatClampNeg)) from B_w b19 (by decide +kernel) (by decide +kernel))
      have b21 : B 1 255 (F 92 x2.toNatClampNeg) := B_w (B_ltR b12 (show B 0 255 (F 92 x2.toNatClampNeg) from hI 92 x2.toNatClampNeg) hq18) (by decide +kernel) (by decide +kernel)
      have q22 : (1) ≤ (F 92 x2.toNatClampNeg).toInt ∧ (F 92 x2.toNatClampNeg).toInt ≤ (255) := (show B 1 255 (F 92 x2.toNatClampNeg) from B_w b21 (by decide +kernel) (by decide +kernel))
      have i23 : (x1 - (F 93 x2.toNatClampNeg)).toInt < (F 92 x2.toNatClampNeg).toInt := i_lt hq18
      refine ⟨(show ¬ ((95 : Nat) = NU) from by decide +kernel), ?_⟩
      refine ⟨(show ¬ ((94 : Nat) = NU) from by decide +kernel), ?_⟩
      refine ⟨(show c_cl UL 94 = 902 from cl_94), ?_⟩
      refine ⟨(show vp_in (x2) 17 from vp_B b_x2 (by decide +kernel) (by decide +kernel)), ?_⟩
      refine ⟨(show c_cl UL 95 = 902 from cl_95), ?_⟩
      have q24 : (0) ≤ (F 94 x2.toNatClampNeg).toInt ∧ (F 94 x2.toNatClampNeg).toInt ≤ (256) := (show B 0 256 (F 94 x2.toNatClampNeg) from B_w b5 (by decide +kernel) (by decide +kernel))
      have e25 : ((F 94 x2.toNatClampNeg) + (x1 - (F 93 x2.toNatClampNeg))).toInt = ((F 94 x2.toNatClampNeg).toInt + (x1 - (F 93 x2.toNatClampNeg)).toInt) := (t_add b5 b19 (by decide +kernel) (by decide +kernel)).trans (by rfl)
      have q26 : (0) ≤ ((F 94 x2.toNatClampNeg) + (x1 - (F 93 x2.toNatClampNeg))).toInt ∧ ((F 94 x2.toNatClampNeg) + (x1 - (F 93 x2.toNatClampNeg))).toInt ≤ (510) := (show B 0 510 ((F 94 x2.toNatClampNeg) + (x1 - (F 93 x2.toNatClampNeg))) from B_w (B_add b5 b19 (by decide +kernel) (by decide +kernel)) (by decide +kernel) (by decide +kernel))
      refine ⟨(show vp_in ((F 94 x2.toNatClampNeg) + (x1 - (F 93 x2.toNatClampNeg))) 256 from vp_om (x := (F 94 x2.toNatClampNeg) + (x1 - (F 93 x2.toNatClampNeg))) (by omega) (by omega)), ?_⟩
      have b27 : B 0 255 ((F 94 x2.toNatClampNeg) + (x1 - (F 93 x2.toNatClampNeg))) := ⟨by omega, by omega⟩
      unfold b_Co_symbolOf_40
      exact hK (B_w (show B 0 255 (F 95 ((F 94 x2.toNatClampNeg) + (x1 - (F 93 x2.toNatClampNeg))).toNatClampNeg) from hI 95 ((F 94 x2.toNatClampNeg) + (x1 - (F 93 x2.toNatClampNeg))).toNatClampNeg) (by decide +kernel) (by decide +kernel))
set_option maxRecDepth 20000 in
set_option maxHeartbeats 4000000 in
theorem h_Re_readSymbol_u60_x191 {a : Bool} {b : Bool} {P : Nat → Nat → Nat} {F : cF} {L : cL} {K : Int32 → cs → Prop} {T : Nat → cs → Prop} (hI : IMc F) (pre0 : CQi 2 F) (hK : ∀ {v : Int32} {Z : cF} {LZ : cL}, B 0 255 v → IMc Z → agc [6001, 6002, 6003, 6004, 6005] [999] F Z → K v (Z, LZ, PC a b P)) (hT13 : ∀ {Z : cF} {LZ : cL}, IMc Z → agc [6001, 6002, 6003, 6004, 6005, 6006, 6007] [999] F Z → T 13 (Z, LZ, PC a b P)) : p_Re_readSymbol UL 60 91 (F, L, PC a b P) K T := by
  unfold p_Re_readSymbol
  refine h_Re_readBit_u60 hI (fun {v1_1} {FS1_2} {LFS1_2} b3 hI4 g5 => ?_) (fun hI g => hT13 hI (agc_tr (agc_refl (fs := [6001, 6002, 6003, 6004, 6005, 6006, 6007]) (rs := [999]) (F := F)) g (by decide +kernel) (by decide +kernel)))
  refine ⟨(show c_cl UL 91 = 3 from cl_91), ?_⟩
  have hI6 := IMc_u (u := 60) (i := 5) (v := FS1_2 60 3) hI4 (show B (-2147483648) 2147483647 (FS1_2 60 3) from (B_w (B_any _) (by decide +kernel) (by decide +kernel)))
  have g8 := agc_tr (agc_refl (fs := [6001, 6002, 6003, 6004, 6005]) (rs := []) (F := F)) g5 (by decide +kernel) (by decide +kernel)
  have g7 := agc_f (u := 60) (k := 5) (v := FS1_2 60 3) g8 rfl (by decide +kernel)
  refine h_Co_symbolOf_u91 (B_w cqb_1_1_1 (by decide +kernel) (by decide +kernel)) hI6 (CQi_ag (F := F) (G := va_up FS1_2 60 (upd (FS1_2 60) 5 (FS1_2 60 3))) pre0 (B_w cqb_2_2_2 (by decide +kernel) (by decide +kernel)) g7 (by decide +kernel)) (fun {v16_9} b11 => ?_)
  refine ⟨fun yx1 yx2 yx3 yx4 yS => (91 : Nat) = yx1 ∧ B (-2147483648) 2147483647 yx2 ∧ B (-1) 255 yx3 ∧ B 2 17 yx4 ∧ ∃ (T16 : cF) (LT16 : cL), yS = (T16, LT16, PC a b P) ∧ IMc T16 ∧ agc [6001, 6002, 6003, 6004] [999] (va_up FS1_2 60 (upd (FS1_2 60) 5 (FS1_2 60 3))) T16, fun yx1 yx2 yx3 yx4 yS => (17 - yx4.toInt).toNat, ⟨rfl, (B_w b3 (by decide +kernel) (by decide +kernel)), b11, (B_w cqb_2_2_2 (by decide +kernel) (by decide +kernel)), _, _, rfl, hI6, (agc_refl (fs := [6001, 6002, 6003, 6004]) (rs := [999]) (F := va_up FS1_2 60 (upd (FS1_2 60) 5 (FS1_2 60 3))))⟩, fun x1_12 x2_13 x3_14 x4_15 ST16 hIv => ?_⟩
  obtain ⟨rfl, b17, b18, b19, T16, LT16, rfl, hI20, g21⟩ := hIv
  suffices hs : ∀ (R23 : Nat → Int32 → Int32 → Int32 → cs → Prop), (∀ zx1 zx2 zx3 zx4 zS, ((91 : Nat) = zx1 ∧ B (-2147483648) 2147483647 zx2 ∧ B (-1) 255 zx3 ∧ B 2 17 zx4 ∧ ∃ (T16 : cF) (LT16 : cL), zS = (T16, LT16, PC a b P) ∧ IMc T16 ∧ agc [6001, 6002, 6003, 6004] [999] (va_up FS1_2 60 (upd (FS1_2 60) 5 (FS1_2 60 3))) T16) → (17 - zx4.toInt).toNat < (17 - x4_15.toInt).toNat → R23 zx1 zx2 zx3 zx4 zS) → b_Re_readSymbol_23 UL 60 91 x2_13 x3_14 x4_15 (T16, LT16, PC a b P) R23 K T from hs _ (fun _ _ _ _ _ h1 h2 => ⟨h1, h2⟩)
  intro R23 hR230
  have hR23 := fun {zx1} {zx2} {zx3} {zx4} {zS} => hR230 zx1 zx2 zx3 zx4 zS
  unfold b_Re_readSymbol_23
  refine ⟨fun hc => ?_, fun hc => ?_⟩
  · have hq22 := hc
    have b23 : B 17 17 (x4_15) := B_w (B_ltR cqb_16_16_16 b19 hq22) (by decide +kernel) (by decide +kernel)
    unfold b_Re_readSymbol_58
    refine ⟨fun hc => ?_, fun hc => ?_⟩
    · have q24 : (-1) ≤ (x3_14).toInt ∧ (x3_14).toInt ≤ (255) := (show B (-1) 255 (x3_14) from B_w b18 (by decide +kernel) (by decide +kernel))
      have i25 : (x3_14).toInt ≠ (-1 : Int32).toInt := i_ne hc
      have n26 : (-1 : Int32).toInt = -1 := cqn_m1
      unfold b_Re_readSymbol_73
      have g29 := agc_tr (agc_refl (fs := [6001, 6002, 6003, 6004, 6005]) (rs := [999]) (F := F)) g5 (by decide +kernel) (by decide +kernel)
      have g28 := agc_f (u := 60) (k := 5) (v := FS1_2 60 3) g29 rfl (by decide +kernel)
      have g27 := agc_tr g28 g21 (by decide +kernel) (by decide +kernel)
      exact hK (show B 0 255 (x3_14) from ⟨by omega, by omega⟩) hI20 g27
    · have b30 : B (-1) (-1) (x3_14) := B_w (B_eq hc cqb_m1_m1_m1) (by decide +kernel) (by decide +kernel)
      have q31 : (-1) ≤ (x3_14).toInt ∧ (x3_14).toInt ≤ (-1) := (show B (-1) (-1) (x3_14) from B_w b30 (by decide +kernel) (by decide +kernel))
      have i32 : (x3_14).toInt = (-1 : Int32).toInt := congrArg Int32.toInt hc
      have n33 : (-1 : Int32).toInt = -1 := cqn_m1
      have g39 := agc_tr (agc_refl (fs := [6001, 6002, 6003, 6004, 6005, 6006, 6007]) (rs := [999]) (F := F)) g5 (by decide +kernel) (by decide +kernel)
      have g38 := agc_f (u := 60) (k := 5) (v := FS1_2 60 3) g39 rfl (by decide +kernel)
      have g37 := agc_tr g38 g21 (by decide +kernel) (by decide +kernel)
      exact h_Re_fail_u60 (B_w cqb_7_7_7 (by decide +kernel) (by decide +kernel)) hI20 (fun hI g => hT13 hI (agc_tr g37 g (by decide +kernel) (by decide +kernel)))
  · have hq40 := (nlt_le hc)
    have b41 : B 2 16 (x4_15) := B_w (B_leL b19 cqb_16_16_16 hq40) (by decide +kernel) (by decide +kernel)
    refine ⟨fun hc => ?_, fun hc => ?_⟩
    · have q42 : (-1) ≤ (x3_14).toInt ∧ (x3_14).toInt ≤ (255) := (show B (-1) 255 (x3_14) from B_w b18 (by decide +kernel) (by decide +kernel))
      have i43 : (x3_14).toInt ≠ (-1 : Int32).toInt := i_ne hc
      have n44 : (-1 : Int32).toInt = -1 := cqn_m1
      unfold b_Re_readSymbol_58
      refine ⟨fun hc => ?_, fun hc => ?_⟩
      · have i45 : (x3_14).toInt ≠ (-1 : Int32).toInt := i_ne hc
        have n46 : (-1 : Int32).toInt = -1 := cqn_m1
        unfold b_Re_readSymbol_73
        have g49 := agc_tr (agc_refl (fs := [6001, 6002, 6003, 6004, 6005]) (rs := [999]) (F := F)) g5 (by decide +kernel) (by decide +kernel)
        have g48 := agc_f (u := 60) (k := 5) (v := FS1_2 60 3) g49 rfl (by decide +kernel)
        have g47 := agc_tr g48 g21 (by decide +kernel) (by decide +kernel)
        exact hK (show B 0 255 (x3_14) from ⟨by omega, by omega⟩) hI20 g47
      · have b50 : B (-1) (-1) (x3_14) := B_w (B_eq hc cqb_m1_m1_m1) (by decide +kernel) (by decide +kernel)
        have q51 : (-1) ≤ (x3_14).toInt ∧ (x3_14).toInt ≤ (-1) := (show B (-1) (-1) (x3_14) from B_w b50 (by decide +kernel) (by decide +kernel))
        have i52 : (x3_14).toInt = (-1 : Int32).toInt := congrArg Int32.toInt hc
        have n53 : (-1 : Int32).toInt = -1 := cqn_m1
        have g59 := agc_tr (agc_refl (fs := [6001, 6002, 6003, 6004, 6005, 6006, 6007]) (rs := [999]) (F := F)) g5 (by decide +kernel) (by decide +kernel)
        have g58 := agc_f (u := 60) (k := 5) (v := FS1_2 60 3) g59 rfl (by decide +kernel)
        have g57 := agc_tr g58 g21 (by decide +kernel) (by decide +kernel)
        exact h_Re_fail_u60 (B_w cqb_7_7_7 (by decide +kernel) (by decide +kernel)) hI20 (fun hI g => hT13 hI (agc_tr g57 g (by decide +kernel) (by decide +kernel)))
    · have b60 : B (-1) (-1) (x3_14) := B_w (B_eq hc cqb_m1_m1_m1) (by decide +kernel) (by decide +kernel)
      have q61 : (-1) ≤ (x3_14).toInt ∧ (x3_14).toInt ≤ (-1) := (show B (-1) (-1) (x3_14) from B_w b60 (by decide +kernel) (by decide +kernel))
      have i62 : (x3_14).toInt = (-1 : Int32).toInt := congrArg Int32.toInt hc
      have n63 : (-1 : Int32).toInt = -1 := cqn_m1
      have g71 := agc_tr (agc_refl (fs := [6001, 6002, 6003, 6004, 6005, 6006, 6007]) (rs := [999]) (F := F)) g5 (by decide +kernel) (by decide +kernel)
      have g70 := agc_f (u := 60) (k := 5) (v := FS1_2 60 3) g71 rfl (by decide +kernel)
      have g69 := agc_tr g70 g21 (by decide +kernel) (by decide +kernel)
      refine h_Re_readBit_u60 hI20 (fun {v39_64} {FS39_65} {LFS39_65} b66 hI67 g68 => ?_) (fun hI g => hT13 hI (agc_tr g69 g (by decide +kernel) (by decide +kernel)))
      refine ⟨(show c_cl UL 91 = 3 from cl_91), ?_⟩
      have g75 := agc_tr (agc_refl (fs := [6001, 6002, 6003, 6004, 6005]) (rs := [999]) (F := F)) g5 (by decide +kernel) (by decide +kernel)
      have g74 := agc_f (u := 60) (k := 5) (v := FS1_2 60 3) g75 rfl (by decide +kernel)
      have g73 := agc_tr g74 g21 (by decide +kernel) (by decide +kernel)
      have g72 := agc_tr g73 g68 (by decide +kernel) (by decide +kernel)
      refine h_Co_symbolOf_u91 (B_w b41 (by decide +kernel) (by decide +kernel)) hI67 (CQi_ag (F := F) (G := FS39_65) pre0 (B_w cqb_2_2_2 (by decide +kernel) (by decide +kernel)) g72 (by decide +kernel)) (fun {v48_76} b78 => ?_)
      have g80 := agc_tr (agc_refl (fs := [6001, 6002, 6003, 6004]) (rs := [999]) (F := va_up FS1_2 60 (upd (FS1_2 60) 5 (FS1_2 60 3)))) g21 (by decide +kernel) (by decide +kernel)
      have g79 := agc_tr g80 g68 (by decide +kernel) (by decide +kernel)
      have q81 : (2) ≤ (x4_15).toInt ∧ (x4_15).toInt ≤ (16) := (show B 2 16 (x4_15) from B_w b41 (by decide +kernel) (by decide +kernel))
      have e82 : (x4_15 + 1).toInt = ((x4_15).toInt + 1) := (t_add b41 cqb_1_1_1 (by decide +kernel) (by decide +kernel)).trans (by rw [cqn_1])
      have q83 : (3) ≤ (x4_15 + 1).toInt ∧ (x4_15 + 1).toInt ≤ (17) := (show B 3 17 (x4_15 + 1) from B_w (B_add b41 cqb_1_1_1 (by decide +kernel) (by decide +kernel)) (by decide +kernel) (by decide +kernel))
      exact hR23 ⟨rfl, (B_w (B_any _) (by decide +kernel) (by decide +kernel)), b78, (B_w (B_add b41 cqb_1_1_1 (by decide +kernel) (by decide +kernel)) (by decide +kernel) (by decide +kernel)), _, _, rfl, hI67, g79⟩ (by show (17 - (x4_15 + 1).toInt).toNat < (17 - x4_15.toInt).toNat; omega)
set_option maxRecDepth 20000 in
set_option maxHeartbeats 4000000 in
theorem h_Co_symbolOf_u96 {a : Bool} {b : Bool} {P : Nat → Nat → Nat} {x1 : Int32} {x2 : Int32} {F : cF} {L : cL} {K : Int32 → cs → Prop} (b_x2 : B 1 16 x2) (hI : IMc F) (pre0 : CQi 3 F) (hK : ∀ {v : Int32}, B (-1) 255 v → K v (F, L, PC a b P)) : p_Co_symbolOf UL 96 x1 x2 (F, L, PC a b P) K := by
  have q1 : (1) ≤ (x2).toInt ∧ (x2).toInt ≤ (16) := (show B 1 16 (x2) from B_w b_x2 (by decide +kernel) (by decide +kernel))
  have k3 := cl_i (x := x2) (by omega)
  have k2 : 0 ≤ (F 99 x2.toNatClampNeg).toInt ∧ (F 99 x2.toNatClampNeg).toInt + (F 97 x2.toNatClampNeg).toInt ≤ 256 := pre0 x2.toNatClampNeg (by omega) (by omega)
  have q4 : (0) ≤ (F 97 x2.toNatClampNeg).toInt ∧ (F 97 x2.toNatClampNeg).toInt ≤ (255) := (show B 0 255 (F 97 x2.toNatClampNeg) from hI 97 x2.toNatClampNeg)
  have b5 : B 0 256 (F 99 x2.toNatClampNeg) := ⟨by omega, by omega⟩
  unfold p_Co_symbolOf
  refine ⟨(show ¬ ((98 : Nat) = NU) from by decide +kernel), ?_⟩
  refine ⟨(show c_cl UL 98 = 902 from cl_98), ?_⟩
  refine ⟨(show vp_in (x2) 17 from vp_B b_x2 (by decide +kernel) (by decide +kernel)), ?_⟩
  refine ⟨fun hc => ?_, fun hc => ?_⟩
  · have hq6 := hc
    have b7 : B (-2147483648) (-1) (x1 - (F 98 x2.toNatClampNeg)) := B_w (B_ltL (B_any _) cqb_0_0_0 hq6) (by decide +kernel) (by decide +kernel)
    have q8 : (-2147483648) ≤ (x1 - (F 98 x2.toNatClampNeg)).toInt ∧ (x1 - (F 98 x2.toNatClampNeg)).toInt ≤ (-1) := (show B (-2147483648) (-1) (x1 - (F 98 x2.toNatClampNeg)) from B_w b7 (by decide +kernel) (by decide +kernel))
    have i9 : (x1 - (F 98 x2.toNatClampNeg)).toInt < (0 : Int32).toInt := i_lt hq6
    have n10 : (0 : Int32).toInt = 0 := cqn_0
    unfold b_Co_symbolOf_39
    unfold b_Co_symbolOf_40
    exact hK (B_w cqb_m1_m1_m1 (by decide +kernel) (by decide +kernel))
  · have hq11 := (nlt_le hc)
    have b12 : B 0 2147483647 (x1 - (F 98 x2.toNatClampNeg)) := B_w (B_leR cqb_0_0_0 (B_any _) hq11) (by decide +kernel) (by decide +kernel)
    have q13 : (0) ≤ (x1 - (F 98 x2.toNatClampNeg)).toInt ∧ (x1 - (F 98 x2.toNatClampNeg)).toInt ≤ (2147483647) := (show B 0 2147483647 (x1 - (F 98 x2.toNatClampNeg)) from B_w b12 (by decide +kernel) (by decide +kernel))
    have i14 : (0 : Int32).toInt ≤ (x1 - (F 98 x2.toNatClampNeg)).toInt := i_le hq11
    have n15 : (0 : Int32).toInt = 0 := cqn_0
    refine ⟨(show ¬ ((97 : Nat) = NU) from by decide +kernel), ?_⟩
    refine ⟨(show c_cl UL 97 = 902 from cl_97), ?_⟩
    refine ⟨(show vp_in (x2) 17 from vp_B b_x2 (by decide +kernel) (by decide +kernel)), ?_⟩
    refine ⟨fun hc => ?_, fun hc => ?_⟩
    · have hq16 := hc
      have i17 : (F 97 x2.toNatClampNeg).toInt ≤ (x1 - (F 98 x2.toNatClampNeg)).toInt := i_le hq16
      unfold b_Co_symbolOf_39
      unfold b_Co_symbolOf_40
      exact hK (B_w cqb_m1_m1_m1 (by decide +kernel) (by decide +kernel))
    · have hq18 := (nle_lt hc)
      have b19 : B 0 254 (x1 - (F 98 x2.toNatClampNeg)) := B_w (B_ltL b12 (show B 0 255 (F 97 x2.toNatClampNeg) from hI 97 x2.toNatClampNeg) hq18) (by decide +kernel) (by decide +kernel)
      have q20 : (0) ≤ (x1 - (F 98 x2.toNatClampNeg)).toInt ∧ (x1 - (F 98 x2.toNatClampNeg)).toInt ≤ (254) := (show B 0 254 (x1 - (F 98 x2.toNatClampNeg)) from B_w b19 (by decide +kernel) (by decide +kernel))
      have b21 : B 1 255 (F 97 x2.toNatClampNeg) := B_w (B_ltR b12 (show B 0 255 (F 97 x2.toNatClampNeg) from hI 97 x2.toNatClampNeg) hq18) (by decide +kernel) (by decide +kernel)
      have q22 : (1) ≤ (F 97 x2.toNatClampNeg).toInt ∧ (F 97 x2.toNatClampNeg).toInt ≤ (255) := (show B 1 255 (F 97 x2.toNatClampNeg) from B_w b21 (by decide +kernel) (by decide +kernel))
      have i23 : (x1 - (F 98 x2.toNatClampNeg)).toInt < (F 97 x2.toNatClampNeg).toInt := i_lt hq18
      refine ⟨(show ¬ ((100 : Nat) = NU) from by decide +kernel), ?_⟩
      refine ⟨(show ¬ ((99 : Nat) = NU) from by decide +kernel), ?_⟩
      refine ⟨(show c_cl UL 99 = 902 from cl_99), ?_⟩
      refine ⟨(show vp_in (x2) 17 from vp_B b_x2 (by decide +kernel) (by decide +kernel)), ?_⟩
      refine ⟨(show c_cl UL 100 = 902 from cl_100), ?_⟩
      have q24 : (0) ≤ (F 99 x2.toNatClampNeg).toInt ∧ (F 99 x2.toNatClampNeg).toInt ≤ (256) := (show B 0 256 (F 99 x2.toNatClampNeg) from B_w b5 (by decide +kernel) (by decide +kernel))
      have e25 : ((F 99 x2.toNatClampNeg) + (x1 - (F 98 x2.toNatClampNeg))).toInt = ((F 99 x2.toNatClampNeg).toInt + (x1 - (F 98 x2.toNatClampNeg)).toInt) := (t_add b5 b19 (by decide +kernel) (by decide +kernel)).trans (by rfl)
      have q26 : (0) ≤ ((F 99 x2.toNatClampNeg) + (x1 - (F 98 x2.toNatClampNeg))).toInt ∧ ((F 99 x2.toNatClampNeg) + (x1 - (F 98 x2.toNatClampNeg))).toInt ≤ (510) := (show B 0 510 ((F 99 x2.toNatClampNeg) + (x1 - (F 98 x2.toNatClampNeg))) from B_w (B_add b5 b19 (by decide +kernel) (by decide +kernel)) (by decide +kernel) (by decide +kernel))
      refine ⟨(show vp_in ((F 99 x2.toNatClampNeg) + (x1 - (F 98 x2.toNatClampNeg))) 256 from vp_om (x := (F 99 x2.toNatClampNeg) + (x1 - (F 98 x2.toNatClampNeg))) (by omega) (by omega)), ?_⟩
      have b27 : B 0 255 ((F 99 x2.toNatClampNeg) + (x1 - (F 98 x2.toNatClampNeg))) := ⟨by omega, by omega⟩
      unfold b_Co_symbolOf_40
      exact hK (B_w (show B 0 255 (F 100 ((F 99 x2.toNatClampNeg) + (x1 - (F 98 x2.toNatClampNeg))).toNatClampNeg) from hI 100 ((F 99 x2.toNatClampNeg) + (x1 - (F 98 x2.toNatClampNeg))).toNatClampNeg) (by decide +kernel) (by decide +kernel))
set_option maxRecDepth 20000 in
set_option maxHeartbeats 4000000 in
theorem h_Re_readSymbol_u60_x196 {a : Bool} {b : Bool} {P : Nat → Nat → Nat} {F : cF} {L : cL} {K : Int32 → cs → Prop} {T : Nat → cs → Prop} (hI : IMc F) (pre0 : CQi 3 F) (hK : ∀ {v : Int32} {Z : cF} {LZ : cL}, B 0 255 v → IMc Z → agc [6001, 6002, 6003, 6004, 6005] [999] F Z → K v (Z, LZ, PC a b P)) (hT13 : ∀ {Z : cF} {LZ : cL}, IMc Z → agc [6001, 6002, 6003, 6004, 6005, 6006, 6007] [999] F Z → T 13 (Z, LZ, PC a b P)) : p_Re_readSymbol UL 60 96 (F, L, PC a b P) K T := by
  unfold p_Re_readSymbol
  refine h_Re_readBit_u60 hI (fun {v1_1} {FS1_2} {LFS1_2} b3 hI4 g5 => ?_) (fun hI g => hT13 hI (agc_tr (agc_refl (fs := [6001, 6002, 6003, 6004, 6005, 6006, 6007]) (rs := [999]) (F := F)) g (by decide +kernel) (by decide +kernel)))
  refine ⟨(show c_cl UL 96 = 3 from cl_96), ?_⟩
  have hI6 := IMc_u (u := 60) (i := 5) (v := FS1_2 60 3) hI4 (show B (-2147483648) 2147483647 (FS1_2 60 3) from (B_w (B_any _) (by decide +kernel) (by decide +kernel)))
  have g8 := agc_tr (agc_refl (fs := [6001, 6002, 6003, 6004, 6005]) (rs := []) (F := F)) g5 (by decide +kernel) (by decide +kernel)
  have g7 := agc_f (u := 60) (k := 5) (v := FS1_2 60 3) g8 rfl (by decide +kernel)
  refine h_Co_symbolOf_u96 (B_w cqb_1_1_1 (by decide +kernel) (by decide +kernel)) hI6 (CQi_ag (F := F) (G := va_up FS1_2 60 (upd (FS1_2 60) 5 (FS1_2 60 3))) pre0 (B_w cqb_3_3_3 (by decide +kernel) (by decide +kernel)) g7 (by decide +kernel)) (fun {v16_9} b11 => ?_)
  refine ⟨fun yx1 yx2 yx3 yx4 yS => (96 : Nat) = yx1 ∧ B (-2147483648) 2147483647 yx2 ∧ B (-1) 255 yx3 ∧ B 2 17 yx4 ∧ ∃ (T16 : cF) (LT16 : cL), yS = (T16, LT16, PC a b P) ∧ IMc T16 ∧ agc [6001, 6002, 6003, 6004] [999] (va_up FS1_2 60 (upd (FS1_2 60) 5 (FS1_2 60 3))) T16, fun yx1 yx2 yx3 yx4 yS => (17 - yx4.toInt).toNat, ⟨rfl, (B_w b3 (by decide +kernel) (by decide +kernel)), b11, (B_w cqb_2_2_2 (by decide +kernel) (by decide +kernel)), _, _, rfl, hI6, (agc_refl (fs := [6001, 6002, 6003, 6004]) (rs := [999]) (F := va_up FS1_2 60 (upd (FS1_2 60) 5 (FS1_2 60 3))))⟩, fun x1_12 x2_13 x3_14 x4_15 ST16 hIv => ?_⟩
  obtain ⟨rfl, b17, b18, b19, T16, LT16, rfl, hI20, g21⟩ := hIv
  suffices hs : ∀ (R23 : Nat → Int32 → Int32 → Int32 → cs → Prop), (∀ zx1 zx2 zx3 zx4 zS, ((96 : Nat) = zx1 ∧ B (-2147483648) 2147483647 zx2 ∧ B (-1) 255 zx3 ∧ B 2 17 zx4 ∧ ∃ (T16 : cF) (LT16 : cL), zS = (T16, LT16, PC a b P) ∧ IMc T16 ∧ agc [6001, 6002, 6003, 6004] [999] (va_up FS1_2 60 (upd (FS1_2 60) 5 (FS1_2 60 3))) T16) → (17 - zx4.toInt).toNat < (17 - x4_15.toInt).toNat → R23 zx1 zx2 zx3 zx4 zS) → b_Re_readSymbol_23 UL 60 96 x2_13 x3_14 x4_15 (T16, LT16, PC a b P) R23 K T from hs _ (fun _ _ _ _ _ h1 h2 => ⟨h1, h2⟩)
  intro R23 hR230
  have hR23 := fun {zx1} {zx2} {zx3} {zx4} {zS} => hR230 zx1 zx2 zx3 zx4 zS
  unfold b_Re_readSymbol_23
  refine ⟨fun hc => ?_, fun hc => ?_⟩
  · have hq22 := hc
    have b23 : B 17 17 (x4_15) := B_w (B_ltR cqb_16_16_16 b19 hq22) (by decide +kernel) (by decide +kernel)
    unfold b_Re_readSymbol_58
    refine ⟨fun hc => ?_, fun hc => ?_⟩
    · have q24 : (-1) ≤ (x3_14).toInt ∧ (x3_14).toInt ≤ (255) := (show B (-1) 255 (x3_14) from B_w b18 (by decide +kernel) (by decide +kernel))
      have i25 : (x3_14).toInt ≠ (-1 : Int32).toInt := i_ne hc
      have n26 : (-1 : Int32).toInt = -1 := cqn_m1
      unfold b_Re_readSymbol_73
      have g29 := agc_tr (agc_refl (fs := [6001, 6002, 6003, 6004, 6005]) (rs := [999]) (F := F)) g5 (by decide +kernel) (by decide +kernel)
      have g28 := agc_f (u := 60) (k := 5) (v := FS1_2 60 3) g29 rfl (by decide +kernel)
      have g27 := agc_tr g28 g21 (by decide +kernel) (by decide +kernel)
      exact hK (show B 0 255 (x3_14) from ⟨by omega, by omega⟩) hI20 g27
    · have b30 : B (-1) (-1) (x3_14) := B_w (B_eq hc cqb_m1_m1_m1) (by decide +kernel) (by decide +kernel)
      have q31 : (-1) ≤ (x3_14).toInt ∧ (x3_14).toInt ≤ (-1) := (show B (-1) (-1) (x3_14) from B_w b30 (by decide +kernel) (by decide +kernel))
      have i32 : (x3_14).toInt = (-1 : Int32).toInt := congrArg Int32.toInt hc
      have n33 : (-1 : Int32).toInt = -1 := cqn_m1
      have g39 := agc_tr (agc_refl (fs := [6001, 6002, 6003, 6004, 6005, 6006, 6007]) (rs := [999]) (F := F)) g5 (by decide +kernel) (by decide +kernel)
      have g38 := agc_f (u := 60) (k := 5) (v := FS1_2 60 3) g39 rfl (by decide +kernel)
      have g37 := agc_tr g38 g21 (by decide +kernel) (by decide +kernel)
      exact h_Re_fail_u60 (B_w cqb_7_7_7 (by decide +kernel) (by decide +kernel)) hI20 (fun hI g => hT13 hI (agc_tr g37 g (by decide +kernel) (by decide +kernel)))
  · have hq40 := (nlt_le hc)
    have b41 : B 2 16 (x4_15) := B_w (B_leL b19 cqb_16_16_16 hq40) (by decide +kernel) (by decide +kernel)
    refine ⟨fun hc => ?_, fun hc => ?_⟩
    · have q42 : (-1) ≤ (x3_14).toInt ∧ (x3_14).toInt ≤ (255) := (show B (-1) 255 (x3_14) from B_w b18 (by decide +kernel) (by decide +kernel))
      have i43 : (x3_14).toInt ≠ (-1 : Int32).toInt := i_ne hc
      have n44 : (-1 : Int32).toInt = -1 := cqn_m1
      unfold b_Re_readSymbol_58
      refine ⟨fun hc => ?_, fun hc => ?_⟩
      · have i45 : (x3_14).toInt ≠ (-1 : Int32).toInt := i_ne hc
        have n46 : (-1 : Int32).toInt = -1 := cqn_m1
        unfold b_Re_readSymbol_73
        have g49 := agc_tr (agc_refl (fs := [6001, 6002, 6003, 6004, 6005]) (rs := [999]) (F := F)) g5 (by decide +kernel) (by decide +kernel)
        have g48 := agc_f (u := 60) (k := 5) (v := FS1_2 60 3) g49 rfl (by decide +kernel)
        have g47 := agc_tr g48 g21 (by decide +kernel) (by decide +kernel)
        exact hK (show B 0 255 (x3_14) from ⟨by omega, by omega⟩) hI20 g47
      · have b50 : B (-1) (-1) (x3_14) := B_w (B_eq hc cqb_m1_m1_m1) (by decide +kernel) (by decide +kernel)
        have q51 : (-1) ≤ (x3_14).toInt ∧ (x3_14).toInt ≤ (-1) := (show B (-1) (-1) (x3_14) from B_w b50 (by decide +kernel) (by decide +kernel))
        have i52 : (x3_14).toInt = (-1 : Int32).toInt := congrArg Int32.toInt hc
        have n53 : (-1 : Int32).toInt = -1 := cqn_m1
        have g59 := agc_tr (agc_refl (fs := [6001, 6002, 6003, 6004, 6005, 6006, 6007]) (rs := [999]) (F := F)) g5 (by decide +kernel) (by decide +kernel)
        have g58 := agc_f (u := 60) (k := 5) (v := FS1_2 60 3) g59 rfl (by decide +kernel)
        have g57 := agc_tr g58 g21 (by decide +kernel) (by decide +kernel)
        exact h_Re_fail_u60 (B_w cqb_7_7_7 (by decide +kernel) (by decide +kernel)) hI20 (fun hI g => hT13 hI (agc_tr g57 g (by decide +kernel) (by decide +kernel)))
    · have b60 : B (-1) (-1) (x3_14) := B_w (B_eq hc cqb_m1_m1_m1) (by decide +kernel) (by decide +kernel)
      have q61 : (-1) ≤ (x3_14).toInt ∧ (x3_14).toInt ≤ (-1) := (show B (-1) (-1) (x3_14) from B_w b60 (by decide +kernel) (by decide +kernel))
      have i62 : (x3_14).toInt = (-1 : Int32).toInt := congrArg Int32.toInt hc
      have n63 : (-1 : Int32).toInt = -1 := cqn_m1
      have g71 := agc_tr (agc_refl (fs := [6001, 6002, 6003, 6004, 6005, 6006, 6007]) (rs := [999]) (F := F)) g5 (by decide +kernel) (by decide +kernel)
      have g70 := agc_f (u := 60) (k := 5) (v := FS1_2 60 3) g71 rfl (by decide +kernel)
      have g69 := agc_tr g70 g21 (by decide +kernel) (by decide +kernel)
      refine h_Re_readBit_u60 hI20 (fun {v39_64} {FS39_65} {LFS39_65} b66 hI67 g68 => ?_) (fun hI g => hT13 hI (agc_tr g69 g (by decide +kernel) (by decide +kernel)))
      refine ⟨(show c_cl UL 96 = 3 from cl_96), ?_⟩
      have g75 := agc_tr (agc_refl (fs := [6001, 6002, 6003, 6004, 6005]) (rs := [999]) (F := F)) g5 (by decide +kernel) (by decide +kernel)
      have g74 := agc_f (u := 60) (k := 5) (v := FS1_2 60 3) g75 rfl (by decide +kernel)
      have g73 := agc_tr g74 g21 (by decide +kernel) (by decide +kernel)
      have g72 := agc_tr g73 g68 (by decide +kernel) (by decide +kernel)
      refine h_Co_symbolOf_u96 (B_w b41 (by decide +kernel) (by decide +kernel)) hI67 (CQi_ag (F := F) (G := FS39_65) pre0 (B_w cqb_3_3_3 (by decide +kernel) (by decide +kernel)) g72 (by decide +kernel)) (fun {v48_76} b78 => ?_)
      have g80 := agc_tr (agc_refl (fs := [6001, 6002, 6003, 6004]) (rs := [999]) (F := va_up FS1_2 60 (upd (FS1_2 60) 5 (FS1_2 60 3)))) g21 (by decide +kernel) (by decide +kernel)
      have g79 := agc_tr g80 g68 (by decide +kernel) (by decide +kernel)
      have q81 : (2) ≤ (x4_15).toInt ∧ (x4_15).toInt ≤ (16) := (show B 2 16 (x4_15) from B_w b41 (by decide +kernel) (by decide +kernel))
      have e82 : (x4_15 + 1).toInt = ((x4_15).toInt + 1) := (t_add b41 cqb_1_1_1 (by decide +kernel) (by decide +kernel)).trans (by rw [cqn_1])
      have q83 : (3) ≤ (x4_15 + 1).toInt ∧ (x4_15 + 1).toInt ≤ (17) := (show B 3 17 (x4_15 + 1) from B_w (B_add b41 cqb_1_1_1 (by decide +kernel) (by decide +kernel)) (by decide +kernel) (by decide +kernel))
      exact hR23 ⟨rfl, (B_w (B_any _) (by decide +kernel) (by decide +kernel)), b78, (B_w (B_add b41 cqb_1_1_1 (by decide +kernel) (by decide +kernel)) (by decide +kernel) (by decide +kernel)), _, _, rfl, hI67, g79⟩ (by show (17 - (x4_15 + 1).toInt).toNat < (17 - x4_15.toInt).toNat; omega)
theorem h_Re_readSymbol_u60_x1i80 {a : Bool} {b : Bool} {P : Nat → Nat → Nat} {x1 : Int32} {F : cF} {L : cL} {K : Int32 → cs → Prop} {T : Nat → cs → Prop} (hx : B 0 3 x1) (hI : IMc F) (pre0 : CQi x1 F) (hK : ∀ {v : Int32} {Z : cF} {LZ : cL}, B 0 255 v → IMc Z → agc [6001, 6002, 6003, 6004, 6005] [999] F Z → K v (Z, LZ, PC a b P)) (hT13 : ∀ {Z : cF} {LZ : cL}, IMc Z → agc [6001, 6002, 6003, 6004, 6005, 6006, 6007] [999] F Z → T 13 (Z, LZ, PC a b P)) : p_Re_readSymbol UL 60 (PC a b P 80 x1.toNatClampNeg) (F, L, PC a b P) K T := by
  rcases sp_03 hx with rfl | rfl | rfl | rfl
  · exact h_Re_readSymbol_u60_x181 hI pre0 (fun bv hI g => hK bv hI (agc_tr agc_refl g (by decide +kernel) (by decide +kernel))) (fun hI g => hT13 hI (agc_tr agc_refl g (by decide +kernel) (by decide +kernel)))
  · exact h_Re_readSymbol_u60_x186 hI pre0 (fun bv hI g => hK bv hI (agc_tr agc_refl g (by decide +kernel) (by decide +kernel))) (fun hI g => hT13 hI (agc_tr agc_refl g (by decide +kernel) (by decide +kernel)))
  · exact h_Re_readSymbol_u60_x191 hI pre0 (fun bv hI g => hK bv hI (agc_tr agc_refl g (by decide +kernel) (by decide +kernel))) (fun hI g => hT13 hI (agc_tr agc_refl g (by decide +kernel) (by decide +kernel)))
  · exact h_Re_readSymbol_u60_x196 hI pre0 (fun bv hI g => hK bv hI (agc_tr agc_refl g (by decide +kernel) (by decide +kernel))) (fun hI g => hT13 hI (agc_tr agc_refl g (by decide +kernel) (by decide +kernel)))
set_option maxRecDepth 20000 in
set_option maxHeartbeats 4000000 in
theorem h_Un_readBlock_u59_a0 {b : Bool} {P : Nat → Nat → Nat} {x1 : Int32} {F : cF} {L : cL} {K : cs → Prop} {T : Nat → cs → Prop} (b_x1 : B 0 191 x1) (hI : IMc F) (pre0 : cz (x1 / 64) F) (hK : ∀ {Z : cF} {LZ : cL}, IMc Z → agc [6001, 6002, 6003, 6004, 6005] [70, 104, 999] F Z → K (Z, LZ, PC false b P)) (hT13 : ∀ {Z : cF} {LZ : cL}, IMc Z → agc [6001, 6002, 6003, 6004, 6005, 6006, 6007] [70, 104, 999] F Z → T 13 (Z, LZ, PC false b P)) : p_Un_readBlock UL 59 x1 (F, L, PC false b P) K T := by
  unfold p_Un_readBlock
  refine ⟨(show ¬ ((60 : Nat) = NU) from by decide +kernel), ?_⟩
  refine ⟨(show ¬ ((80 : Nat) = NU) from by decide +kernel), ?_⟩
  refine ⟨(show ¬ ((73 : Nat) = NU) from by decide +kernel), ?_⟩
  refine ⟨(show c_cl UL 73 = 10 from cl_73), ?_⟩
  refine ⟨(show ¬ ((75 : Nat) = NU) from by decide +kernel), ?_⟩
  refine ⟨(show c_cl UL 75 = 902 from cl_75), ?_⟩
  refine ⟨(show vp_in (x1 / 64) 3 from vp_B (show B 0 2 (x1 / 64) from B_div2 b_x1 cqb_64_64_64 (by decide +kernel) (by decide +kernel) (by decide +kernel) (by decide +kernel)) (by decide +kernel) (by decide +kernel)), ?_⟩
  refine ⟨(show c_cl UL 80 = 951 from cl_80), ?_⟩
  refine ⟨(show vp_in (F 75 (x1 / 64).toNatClampNeg) 4 from vp_B (show B 0 3 (F 75 (x1 / 64).toNatClampNeg) from hI 75 (x1 / 64).toNatClampNeg) (by decide +kernel) (by decide +kernel)), ?_⟩
  refine ⟨(show ¬ ((PC false b P) 80 (F 75 (x1 / 64).toNatClampNeg).toNatClampNeg = NU) from nu_80 (B_w (show B 0 3 (F 75 (x1 / 64).toNatClampNeg) from hI 75 (x1 / 64).toNatClampNeg) (by decide +kernel) (by decide +kernel))), ?_⟩
  refine ⟨(show c_cl UL 60 = 8 from cl_60), ?_⟩
  refine h_Re_readSymbol_u60_x1i80 (B_w (show B 0 3 (F 75 (x1 / 64).toNatClampNeg) from hI 75 (x1 / 64).toNatClampNeg) (by decide +kernel) (by decide +kernel)) hI (show CQi (F 75 (x1 / 64).toNatClampNeg) F from (show cz (x1 / 64) F from pre0).1) (fun {v28_1} {FS28_2} {LFS28_2} b3 hI4 g5 => ?_) (fun hI g => hT13 hI (agc_tr (agc_refl (fs := [6001, 6002, 6003, 6004, 6005, 6006, 6007]) (rs := [70, 104, 999]) (F := F)) g (by decide +kernel) (by decide +kernel)))
  refine ⟨(show ¬ ((104 : Nat) = NU) from by decide +kernel), ?_⟩
  refine ⟨(show c_cl UL 104 = 902 from cl_104), ?_⟩
  refine ⟨(show vp_in (x1 / 64) 3 from vp_B (show B 0 2 (x1 / 64) from B_div2 b_x1 cqb_64_64_64 (by decide +kernel) (by decide +kernel) (by decide +kernel) (by decide +kernel)) (by decide +kernel) (by decide +kernel)), ?_⟩
  refine ⟨(show ¬ ((60 : Nat) = NU) from by decide +kernel), ?_⟩
  refine ⟨(show c_cl UL 60 = 8 from cl_60), ?_⟩
  have g11 := agc_tr (agc_refl (fs := [6001, 6002, 6003, 6004, 6005, 6006, 6007]) (rs := [70, 104, 999]) (F := F)) g5 (by decide +kernel) (by decide +kernel)
  refine h_Re_readNumber_u60 b3 hI4 (fun {v46_6} {FS46_7} {LFS46_7} b8 hI9 g10 => ?_) (fun hI g => hT13 hI (agc_tr g11 g (by decide +kernel) (by decide +kernel)))
  refine ⟨(show vp_in (x1 / 64) 3 from vp_B (show B 0 2 (x1 / 64) from B_div2 b_x1 cqb_64_64_64 (by decide +kernel) (by decide +kernel) (by decide +kernel) (by decide +kernel)) (by decide +kernel) (by decide +kernel)), ?_⟩
  refine ⟨(show ¬ ((104 : Nat) = NU) from by decide +kernel), ?_⟩
  refine ⟨(show c_cl UL 104 = 902 from cl_104), ?_⟩
  refine ⟨(show vp_in (x1 / 64) 3 from vp_B (show B 0 2 (x1 / 64) from B_div2 b_x1 cqb_64_64_64 (by decide +kernel) (by decide +kernel) (by decide +kernel) (by decide +kernel)) (by decide +kernel) (by decide +kernel)), ?_⟩
  refine h_B_isWithin  (fun {v63_12} b13 r14 r15 => ?_)
  rcases sp_01 b13 with rfl | rfl
  · have r16 : ((0 : Int) = 0) ∨ (((-2047) ≤ ((va_up FS46_7 104 (upd (FS46_7 104) (x1 / 64).toNatClampNeg ((FS28_2 104 (x1 / 64).toNatClampNeg) + v46_6))) 104 (x1 / 64).toNatClampNeg).toInt) ∧ (((va_up FS46_7 104 (upd (FS46_7 104) (x1 / 64).toNatClampNeg ((FS28_2 104 (x1 / 64).toNatClampNeg) + v46_6))) 104 (x1 / 64).toNatClampNeg).toInt ≤ 2047)) := r14
    clear r14
    have e17 : ((va_up FS46_7 104 (upd (FS46_7 104) (x1 / 64).toNatClampNeg ((FS28_2 104 (x1 / 64).toNatClampNeg) + v46_6))) 104 (x1 / 64).toNatClampNeg).toInt = ((FS28_2 104 (x1 / 64).toNatClampNeg) + v46_6).toInt := (congrArg Int32.toInt (ru_at (f := FS46_7) (g := FS46_7 104) (r := 104) (i := (x1 / 64).toNatClampNeg) (v := (FS28_2 104 (x1 / 64).toNatClampNeg) + v46_6))).trans rfl
    have r18 : ((0 : Int) = 1) ∨ ((((va_up FS46_7 104 (upd (FS46_7 104) (x1 / 64).toNatClampNeg ((FS28_2 104 (x1 / 64).toNatClampNeg) + v46_6))) 104 (x1 / 64).toNatClampNeg).toInt < (-2047)) ∨ (2047 < ((va_up FS46_7 104 (upd (FS46_7 104) (x1 / 64).toNatClampNeg ((FS28_2 104 (x1 / 64).toNatClampNeg) + v46_6))) 104 (x1 / 64).toNatClampNeg).toInt)) := r15
    clear r15
    refine ⟨fun hc => ?_, fun hc => ?_⟩
    · exact (hc (B_z cqb_0_0_0)).elim
    · have i19 : (0 : Int32).toInt = (0 : Int32).toInt := congrArg Int32.toInt hc
      have n20 : (0 : Int32).toInt = 0 := cqn_0
      have n21 : (0 : Int32).toInt = 0 := cqn_0
      refine ⟨(show ¬ ((60 : Nat) = NU) from by decide +kernel), ?_⟩
      refine ⟨(show ¬ ((60 : Nat) = NU) from by decide +kernel), ?_⟩
      refine ⟨(show c_cl UL 60 = 8 from cl_60), ?_⟩
      have hI22 := IMc_u (u := 104) (i := (x1 / 64).toNatClampNeg) (v := (FS28_2 104 (x1 / 64).toNatClampNeg) + v46_6) hI9 (show B (-2147483648) 2147483647 ((FS28_2 104 (x1 / 64).toNatClampNeg) + v46_6) from (B_w (B_any _) (by decide +kernel) (by decide +kernel)))
      have g28 := agc_tr (agc_refl (fs := [6001, 6002, 6003, 6004, 6005, 6006, 6007]) (rs := [70, 104, 999]) (F := F)) g5 (by decide +kernel) (by decide +kernel)
      have g27 := agc_tr g28 g10 (by decide +kernel) (by decide +kernel)
      have g26 := agc_r (u := 104) (w := upd (FS46_7 104) (x1 / 64).toNatClampNeg ((FS28_2 104 (x1 / 64).toNatClampNeg) + v46_6)) g27 rfl (by decide +kernel)
      exact h_Re_fail_u60 (B_w cqb_7_7_7 (by decide +kernel) (by decide +kernel)) hI22 (fun hI g => hT13 hI (agc_tr g26 g (by decide +kernel) (by decide +kernel)))
  · have r29 : ((1 : Int) = 0) ∨ (((-2047) ≤ ((va_up FS46_7 104 (upd (FS46_7 104) (x1 / 64).toNatClampNeg ((FS28_2 104 (x1 / 64).toNatClampNeg) + v46_6))) 104 (x1 / 64).toNatClampNeg).toInt) ∧ (((va_up FS46_7 104 (upd (FS46_7 104) (x1 / 64).toNatClampNeg ((FS28_2 104 (x1 / 64).toNatClampNeg) + v46_6))) 104 (x1 / 64).toNatClampNeg).toInt ≤ 2047)) := r14
    clear r14
    have e30 : ((va_up FS46_7 104 (upd (FS46_7 104) (x1 / 64).toNatClampNeg ((FS28_2 104 (x1 / 64).toNatClampNeg) + v46_6))) 104 (x1 / 64).toNatClampNeg).toInt = ((FS28_2 104 (x1 / 64).toNatClampNeg) + v46_6).toInt := (congrArg Int32.toInt (ru_at (f := FS46_7) (g := FS46_7 104) (r := 104) (i := (x1 / 64).toNatClampNeg) (v := (FS28_2 104 (x1 / 64).toNatClampNeg) + v46_6))).trans rfl
    have r31 : ((1 : Int) = 1) ∨ ((((va_up FS46_7 104 (upd (FS46_7 104) (x1 / 64).toNatClampNeg ((FS28_2 104 (x1 / 64).toNatClampNeg) + v46_6))) 104 (x1 / 64).toNatClampNeg).toInt < (-2047)) ∨ (2047 < ((va_up FS46_7 104 (upd (FS46_7 104) (x1 / 64).toNatClampNeg ((FS28_2 104 (x1 / 64).toNatClampNeg) + v46_6))) 104 (x1 / 64).toNatClampNeg).toInt)) := r15
    clear r15
    have b32 : B (-2047) 2047 ((FS28_2 104 (x1 / 64).toNatClampNeg) + v46_6) := ⟨by omega, by omega⟩
    refine ⟨fun hc => ?_, fun hc => ?_⟩
    · have i33 : (1 : Int32).toInt ≠ (0 : Int32).toInt := i_ne hc
      have n34 : (1 : Int32).toInt = 1 := cqn_1
      have n35 : (0 : Int32).toInt = 0 := cqn_0
      unfold b_Un_readBlock_85
      refine ⟨(show ¬ ((63 : Nat) = NU) from by decide +kernel), ?_⟩
      refine ⟨(show c_cl UL 63 = 7 from cl_63), ?_⟩
      refine ⟨(show ¬ ((70 : Nat) = NU) from by decide +kernel), ?_⟩
      refine ⟨(show ¬ ((104 : Nat) = NU) from by decide +kernel), ?_⟩
      refine ⟨(show c_cl UL 104 = 902 from cl_104), ?_⟩
      refine ⟨(show vp_in (x1 / 64) 3 from vp_B (show B 0 2 (x1 / 64) from B_div2 b_x1 cqb_64_64_64 (by decide +kernel) (by decide +kernel) (by decide +kernel) (by decide +kernel)) (by decide +kernel) (by decide +kernel)), ?_⟩
      refine ⟨(show c_cl UL 70 = 902 from cl_70), ?_⟩
      refine ⟨(show vp_in (64 * x1) 12288 from vp_B (B_mul cqb_64_64_64 b_x1 (by decide +kernel) (by decide +kernel) (by decide +kernel)) (by decide +kernel) (by decide +kernel)), ?_⟩
      refine ⟨(show ¬ ((80 : Nat) = NU) from by decide +kernel), ?_⟩
      refine ⟨(show ¬ ((73 : Nat) = NU) from by decide +kernel), ?_⟩
      refine ⟨(show c_cl UL 73 = 10 from cl_73), ?_⟩
      refine ⟨(show ¬ ((76 : Nat) = NU) from by decide +kernel), ?_⟩
      refine ⟨(show c_cl UL 76 = 902 from cl_76), ?_⟩
      refine ⟨(show vp_in (x1 / 64) 3 from vp_B (show B 0 2 (x1 / 64) from B_div2 b_x1 cqb_64_64_64 (by decide +kernel) (by decide +kernel) (by decide +kernel) (by decide +kernel)) (by decide +kernel) (by decide +kernel)), ?_⟩
      refine ⟨(show c_cl UL 80 = 951 from cl_80), ?_⟩
      refine ⟨(show vp_in (FS46_7 76 (x1 / 64).toNatClampNeg) 4 from vp_B (B_eq ((congrFun (g10.2 76 rfl rfl) (x1 / 64).toNatClampNeg).trans (congrFun (g5.2 76 rfl rfl) (x1 / 64).toNatClampNeg)) (show B 0 3 (F 76 (x1 / 64).toNatClampNeg) from hI 76 (x1 / 64).toNatClampNeg)) (by decide +kernel) (by decide +kernel)), ?_⟩
      refine ⟨(show ¬ ((PC false b P) 80 (FS46_7 76 (x1 / 64).toNatClampNeg).toNatClampNeg = NU) from nu_80 (B_w (B_eq ((congrFun (g10.2 76 rfl rfl) (x1 / 64).toNatClampNeg).trans (congrFun (g5.2 76 rfl rfl) (x1 / 64).toNatClampNeg)) (show B 0 3 (F 76 (x1 / 64).toNatClampNeg) from hI 76 (x1 / 64).toNatClampNeg)) (by decide +kernel) (by decide +kernel))), ?_⟩
      have hI45 := IMc_u (u := 104) (i := (x1 / 64).toNatClampNeg) (v := (FS28_2 104 (x1 / 64).toNatClampNeg) + v46_6) hI9 (show B (-2147483648) 2147483647 ((FS28_2 104 (x1 / 64).toNatClampNeg) + v46_6) from (B_w b32 (by decide +kernel) (by decide +kernel)))
      have hI46 := IMc_u (u := 70) (i := (64 * x1).toNatClampNeg) (v := (va_up FS46_7 104 (upd (FS46_7 104) (x1 / 64).toNatClampNeg ((FS28_2 104 (x1 / 64).toNatClampNeg) + v46_6))) 104 (x1 / 64).toNatClampNeg) hI45 (show B (-2147483648) 2147483647 ((va_up FS46_7 104 (upd (FS46_7 104) (x1 / 64).toNatClampNeg ((FS28_2 104 (x1 / 64).toNatClampNeg) + v46_6))) 104 (x1 / 64).toNatClampNeg) from (B_w (B_eq (ru_at (f := FS46_7) (g := FS46_7 104) (r := 104) (i := (x1 / 64).toNatClampNeg) (v := (FS28_2 104 (x1 / 64).toNatClampNeg) + v46_6)) b32) (by decide +kernel) (by decide +kernel)))
      refine ⟨fun yx3 yx5 yx6 yx7 yS => (64 * x1) = yx3 ∧ ((PC false b P) 80 (FS46_7 76 (x1 / 64).toNatClampNeg).toNatClampNeg) = yx5 ∧ B (-1) 255 yx6 ∧ B 1 64 yx7 ∧ ∃ (T40 : cF) (LT40 : cL), yS = (T40, LT40, PC false b P) ∧ IMc T40 ∧ agc [6001, 6002, 6003, 6004, 6005] [70, 999] (va_up (va_up FS46_7 104 (upd (FS46_7 104) (x1 / 64).toNatClampNeg ((FS28_2 104 (x1 / 64).toNatClampNeg) + v46_6))) 70 (upd (FS46_7 70) (64 * x1).toNatClampNeg ((va_up FS46_7 104 (upd (FS46_7 104) (x1 / 64).toNatClampNeg ((FS28_2 104 (x1 / 64).toNatClampNeg) + v46_6))) 104 (x1 / 64).toNatClampNeg))) T40, fun yx3 yx5 yx6 yx7 yS => (64 - yx7.toInt).toNat, ⟨rfl, rfl, (B_w cqb_m1_m1_m1 (by decide +kernel) (by decide +kernel)), (B_w cqb_1_1_1 (by decide +kernel) (by decide +kernel)), _, _, rfl, hI46, (agc_refl (fs := [6001, 6002, 6003, 6004, 6005]) (rs := [70, 999]) (F := va_up (va_up FS46_7 104 (upd (FS46_7 104) (x1 / 64).toNatClampNeg ((FS28_2 104 (x1 / 64).toNatClampNeg) + v46_6))) 70 (upd (FS46_7 70) (64 * x1).toNatClampNeg ((va_up FS46_7 104 (upd (FS46_7 104) (x1 / 64).toNatClampNeg ((FS28_2 104 (x1 / 64).toNatClampNeg) + v46_6))) 104 (x1 / 64).toNatClampNeg))))⟩, fun x3_36 x5_37 x6_38 x7_39 ST40 hIv => ?_⟩
      obtain ⟨rfl, rfl, b41, b42, T40, LT40, rfl, hI43, g44⟩ := hIv
      suffices hs : ∀ (R122 : Int32 → Nat → Int32 → Int32 → cs → Prop), (∀ zx3 zx5 zx6 zx7 zS, ((64 * x1) = zx3 ∧ ((PC false b P) 80 (FS46_7 76 (x1 / 64).toNatClampNeg).toNatClampNeg) = zx5 ∧ B (-1) 255 zx6 ∧ B 1 64 zx7 ∧ ∃ (T40 : cF) (LT40 : cL), zS = (T40, LT40, PC false b P) ∧ IMc T40 ∧ agc [6001, 6002, 6003, 6004, 6005] [70, 999] (va_up (va_up FS46_7 104 (upd (FS46_7 104) (x1 / 64).toNatClampNeg ((FS28_2 104 (x1 / 64).toNatClampNeg) + v46_6))) 70 (upd (FS46_7 70) (64 * x1).toNatClampNeg ((va_up FS46_7 104 (upd (FS46_7 104) (x1 / 64).toNatClampNeg ((FS28_2 104 (x1 / 64).toNatClampNeg) + v46_6))) 104 (x1 / 64).toNatClampNeg))) T40) → (64 - zx7.toInt).toNat < (64 - x7_39.toInt).toNat → R122 zx3 zx5 zx6 zx7 zS) → b_Un_readBlock_122 UL 59 (64 * x1) ((PC false b P) 80 (FS46_7 76 (x1 / 64).toNatClampNeg).toNatClampNeg) x6_38 x7_39 (T40, LT40, PC false b P) R122 K T from hs _ (fun _ _ _ _ _ h1 h2 => ⟨h1, h2⟩)
      intro R122 hR1220
      have hR122 := fun {zx3} {zx5} {zx6} {zx7} {zS} => hR1220 zx3 zx5 zx6 zx7 zS
      unfold b_Un_readBlock_122
      refine ⟨fun hc => ?_, fun hc => ?_⟩
      · have hq47 := hc
        have b48 : B 64 64 (x7_39) := B_w (B_leR cqb_64_64_64 b42 hq47) (by decide +kernel) (by decide +kernel)
        unfold b_Un_readBlock_219
        have g53 := agc_tr (agc_refl (fs := [6001, 6002, 6003, 6004, 6005]) (rs := [70, 104, 999]) (F := F)) g5 (by decide +kernel) (by decide +kernel)
        have g52 := agc_tr g53 g10 (by decide +kernel) (by decide +kernel)
        have g51 := agc_r (u := 104) (w := upd (FS46_7 104) (x1 / 64).toNatClampNeg ((FS28_2 104 (x1 / 64).toNatClampNeg) + v46_6)) g52 rfl (by decide +kernel)
        have g50 := agc_r (u := 70) (w := upd (FS46_7 70) (64 * x1).toNatClampNeg ((va_up FS46_7 104 (upd (FS46_7 104) (x1 / 64).toNatClampNeg ((FS28_2 104 (x1 / 64).toNatClampNeg) + v46_6))) 104 (x1 / 64).toNatClampNeg)) g51 rfl (by decide +kernel)
        have g49 := agc_tr g50 g44 (by decide +kernel) (by decide +kernel)
        exact hK hI43 g49
      · have hq54 := (nle_lt hc)
        have b55 : B 1 63 (x7_39) := B_w (B_ltL b42 cqb_64_64_64 hq54) (by decide +kernel) (by decide +kernel)
        refine ⟨fun hc => ?_, fun hc => ?_⟩
        · have b56 : B 0 0 (x6_38) := B_w (B_eq hc cqb_0_0_0) (by decide +kernel) (by decide +kernel)
          have q57 : (0) ≤ (x6_38).toInt ∧ (x6_38).toInt ≤ (0) := (show B 0 0 (x6_38) from B_w b56 (by decide +kernel) (by decide +kernel))
          have i58 : (x6_38).toInt = (0 : Int32).toInt := congrArg Int32.toInt hc
          have n59 : (0 : Int32).toInt = 0 := cqn_0
          unfold b_Un_readBlock_219
          have g64 := agc_tr (agc_refl (fs := [6001, 6002, 6003, 6004, 6005]) (rs := [70, 104, 999]) (F := F)) g5 (by decide +kernel) (by decide +kernel)
          have g63 := agc_tr g64 g10 (by decide +kernel) (by decide +kernel)
          have g62 := agc_r (u := 104) (w := upd (FS46_7 104) (x1 / 64).toNatClampNeg ((FS28_2 104 (x1 / 64).toNatClampNeg) + v46_6)) g63 rfl (by decide +kernel)
          have g61 := agc_r (u := 70) (w := upd (FS46_7 70) (64 * x1).toNatClampNeg ((va_up FS46_7 104 (upd (FS46_7 104) (x1 / 64).toNatClampNeg ((FS28_2 104 (x1 / 64).toNatClampNeg) + v46_6))) 104 (x1 / 64).toNatClampNeg)) g62 rfl (by decide +kernel)
          have g60 := agc_tr g61 g44 (by decide +kernel) (by decide +kernel)
          exact hK hI43 g60
        · have q65 : (-1) ≤ (x6_38).toInt ∧ (x6_38).toInt ≤ (255) := (show B (-1) 255 (x6_38) from B_w b41 (by decide +kernel) (by decide +kernel))
          have i66 : (x6_38).toInt ≠ (0 : Int32).toInt := i_ne hc
          have n67 : (0 : Int32).toInt = 0 := cqn_0
          refine ⟨(show ¬ ((60 : Nat) = NU) from by decide +kernel), ?_⟩
          refine ⟨(show c_cl UL 60 = 8 from cl_60), ?_⟩
          have g69 := agc_tr (agc_refl (fs := [6001, 6002, 6003, 6004, 6005]) (rs := [999]) (F := F)) g5 (by decide +kernel) (by decide +kernel)
          have g68 := agc_tr g69 g10 (by decide +kernel) (by decide +kernel)
          have g72 := agc_r (u := 104) (w := upd (FS46_7 104) (x1 / 64).toNatClampNeg ((FS28_2 104 (x1 / 64).toNatClampNeg) + v46_6)) (agc_refl (fs := [6001, 6002, 6003, 6004, 6005]) (rs := [70, 104, 999]) (F := FS46_7)) rfl (by decide +kernel)
          have g71 := agc_r (u := 70) (w := upd (FS46_7 70) (64 * x1).toNatClampNeg ((va_up FS46_7 104 (upd (FS46_7 104) (x1 / 64).toNatClampNeg ((FS28_2 104 (x1 / 64).toNatClampNeg) + v46_6))) 104 (x1 / 64).toNatClampNeg)) g72 rfl (by decide +kernel)
          have g70 := agc_tr g71 g44 (by decide +kernel) (by decide +kernel)
          have g82 := agc_tr (agc_refl (fs := [6001, 6002, 6003, 6004, 6005, 6006, 6007]) (rs := [70, 104, 999]) (F := F)) g5 (by decide +kernel) (by decide +kernel)
          have g81 := agc_tr g82 g10 (by decide +kernel) (by decide +kernel)
          have g80 := agc_r (u := 104) (w := upd (FS46_7 104) (x1 / 64).toNatClampNeg ((FS28_2 104 (x1 / 64).toNatClampNeg) + v46_6)) g81 rfl (by decide +kernel)
          have g79 := agc_r (u := 70) (w := upd (FS46_7 70) (64 * x1).toNatClampNeg ((va_up FS46_7 104 (upd (FS46_7 104) (x1 / 64).toNatClampNeg ((FS28_2 104 (x1 / 64).toNatClampNeg) + v46_6))) 104 (x1 / 64).toNatClampNeg)) g80 rfl (by decide +kernel)
          have g78 := agc_tr g79 g44 (by decide +kernel) (by decide +kernel)
          refine h_Re_readSymbol_u60_x1i80 (B_w (B_eq ((congrFun (g10.2 76 rfl rfl) (x1 / 64).toNatClampNeg).trans (congrFun (g5.2 76 rfl rfl) (x1 / 64).toNatClampNeg)) (show B 0 3 (F 76 (x1 / 64).toNatClampNeg) from hI 76 (x1 / 64).toNatClampNeg)) (by decide +kernel) (by decide +kernel)) hI43 (CQi_ag (F := FS46_7) (G := T40) (show CQi (FS46_7 76 (x1 / 64).toNatClampNeg) FS46_7 from (show cz (x1 / 64) FS46_7 from (cz_ag (F := F) (G := FS46_7) pre0 hI g68 (by decide +kernel))).2) (B_w (B_eq ((congrFun (g10.2 76 rfl rfl) (x1 / 64).toNatClampNeg).trans (congrFun (g5.2 76 rfl rfl) (x1 / 64).toNatClampNeg)) (show B 0 3 (F 76 (x1 / 64).toNatClampNeg) from hI 76 (x1 / 64).toNatClampNeg)) (by decide +kernel) (by decide +kernel)) g70 (by decide +kernel)) (fun {v140_73} {FS140_74} {LFS140_74} b75 hI76 g77 => ?_) (fun hI g => hT13 hI (agc_tr g78 g (by decide +kernel) (by decide +kernel)))
          refine ⟨fun hc => ?_, fun hc => ?_⟩
          · have hq83 := hc
            have b84 : B 1 63 (x7_39 + (v140_73 / 16)) := B_w (B_ltL (B_add b55 (show B 0 15 (v140_73 / 16) from B_div2 b75 cqb_16_16_16 (by decide +kernel) (by decide +kernel) (by decide +kernel) (by decide +kernel)) (by decide +kernel) (by decide +kernel)) cqb_64_64_64 hq83) (by decide +kernel) (by decide +kernel)
            have q85 : (1) ≤ (x7_39).toInt ∧ (x7_39).toInt ≤ (63) := (show B 1 63 (x7_39) from B_w b55 (by decide +kernel) (by decide +kernel))
            have q86 : (0) ≤ (v140_73).toInt ∧ (v140_73).toInt ≤ (255) := (show B 0 255 (v140_73) from B_w b75 (by decide +kernel) (by decide +kernel))
            have e87 : (v140_73 / 16).toInt = ((v140_73).toInt / 16) := (t_div b75 cqb_16_16_16 (by decide +kernel) (by decide +kernel)).trans (by rw [cqn_16])
            have q88 : (0) ≤ (v140_73 / 16).toInt ∧ (v140_73 / 16).toInt ≤ (15) := (show B 0 15 (v140_73 / 16) from B_div2 b75 cqb_16_16_16 (by decide +kernel) (by decide +kernel) (by decide +kernel) (by decide +kernel))
            have e89 : (x7_39 + (v140_73 / 16)).toInt = ((x7_39).toInt + ((v140_73).toInt / 16)) := (t_add b55 (show B 0 15 (v140_73 / 16) from B_div2 b75 cqb_16_16_16 (by decide +kernel) (by decide +kernel) (by decide +kernel) (by decide +kernel)) (by decide +kernel) (by decide +kernel)).trans (by rw [e87])
            have q90 : (1) ≤ (x7_39 + (v140_73 / 16)).toInt ∧ (x7_39 + (v140_73 / 16)).toInt ≤ (63) := (show B 1 63 (x7_39 + (v140_73 / 16)) from B_w b84 (by decide +kernel) (by decide +kernel))
            have i91 : (x7_39 + (v140_73 / 16)).toInt < (64 : Int32).toInt := i_lt hq83
            have n92 : (64 : Int32).toInt = 64 := cqn_64
            refine ⟨fun hc => ?_, fun hc => ?_⟩
            · have hq93 := hc
              have b94 : B 0 0 (v140_73 - ((v140_73 / 16) * 16)) := B_w (B_leL (B_rem b75 cqb_16_16_16 (by decide +kernel) (by decide +kernel)) cqb_0_0_0 hq93) (by decide +kernel) (by decide +kernel)
              have e95 : (v140_73 - ((v140_73 / 16) * 16)).toInt = ((v140_73).toInt % 16) := (t_rem b75 cqb_16_16_16 (by decide +kernel) (by decide +kernel)).trans (by rw [cqn_16])
              have q96 : (0) ≤ (v140_73 - ((v140_73 / 16) * 16)).toInt ∧ (v140_73 - ((v140_73 / 16) * 16)).toInt ≤ (0) := (show B 0 0 (v140_73 - ((v140_73 / 16) * 16)) from B_w b94 (by decide +kernel) (by decide +kernel))
              have i97 : (v140_73 - ((v140_73 / 16) * 16)).toInt ≤ (0 : Int32).toInt := i_le hq93
              have n98 : (0 : Int32).toInt = 0 := cqn_0
              unfold b_Un_readBlock_213
              have g100 := agc_tr (agc_refl (fs := [6001, 6002, 6003, 6004, 6005]) (rs := [70, 999]) (F := va_up (va_up FS46_7 104 (upd (FS46_7 104) (x1 / 64).toNatClampNeg ((FS28_2 104 (x1 / 64).toNatClampNeg) + v46_6))) 70 (upd (FS46_7 70) (64 * x1).toNatClampNeg ((va_up FS46_7 104 (upd (FS46_7 104) (x1 / 64).toNatClampNeg ((FS28_2 104 (x1 / 64).toNatClampNeg) + v46_6))) 104 (x1 / 64).toNatClampNeg)))) g44 (by decide +kernel) (by decide +kernel)
              have g99 := agc_tr g100 g77 (by decide +kernel) (by decide +kernel)
              have e101 : ((x7_39 + (v140_73 / 16)) + 1).toInt = (((x7_39).toInt + ((v140_73).toInt / 16)) + 1) := (t_add b84 cqb_1_1_1 (by decide +kernel) (by decide +kernel)).trans (by rw [e89, cqn_1])
              have q102 : (2) ≤ ((x7_39 + (v140_73 / 16)) + 1).toInt ∧ ((x7_39 + (v140_73 / 16)) + 1).toInt ≤ (64) := (show B 2 64 ((x7_39 + (v140_73 / 16)) + 1) from B_w (B_add b84 cqb_1_1_1 (by decide +kernel) (by decide +kernel)) (by decide +kernel) (by decide +kernel))
              exact hR122 ⟨rfl, rfl, (B_w b75 (by decide +kernel) (by decide +kernel)), (B_w (B_add b84 cqb_1_1_1 (by decide +kernel) (by decide +kernel)) (by decide +kernel) (by decide +kernel)), _, _, rfl, hI76, g99⟩ (by show (64 - ((x7_39 + (v140_73 / 16)) + 1).toInt).toNat < (64 - x7_39.toInt).toNat; omega)
            · have hq103 := (nle_lt hc)
              have b104 : B 1 15 (v140_73 - ((v140_73 / 16) * 16)) := B_w (B_ltR cqb_0_0_0 (B_rem b75 cqb_16_16_16 (by decide +kernel) (by decide +kernel)) hq103) (by decide +kernel) (by decide +kernel)
              have e105 : (v140_73 - ((v140_73 / 16) * 16)).toInt = ((v140_73).toInt % 16) := (t_rem b75 cqb_16_16_16 (by decide +kernel) (by decide +kernel)).trans (by rw [cqn_16])
              have q106 : (1) ≤ (v140_73 - ((v140_73 / 16) * 16)).toInt ∧ (v140_73 - ((v140_73 / 16) * 16)).toInt ≤ (15) := (show B 1 15 (v140_73 - ((v140_73 / 16) * 16)) from B_w b104 (by decide +kernel) (by decide +kernel))
              have i107 : (0 : Int32).toInt < (v140_73 - ((v140_73 / 16) * 16)).toInt := i_lt hq103
              have n108 : (0 : Int32).toInt = 0 := cqn_0
              refine ⟨(show ¬ ((63 : Nat) = NU) from by decide +kernel), ?_⟩
              refine ⟨(show c_cl UL 63 = 7 from cl_63), ?_⟩
              refine ⟨(show ¬ ((70 : Nat) = NU) from by decide +kernel), ?_⟩
              refine ⟨(show ¬ ((60 : Nat) = NU) from by decide +kernel), ?_⟩
              refine ⟨(show c_cl UL 60 = 8 from cl_60), ?_⟩
              have g119 := agc_tr (agc_refl (fs := [6001, 6002, 6003, 6004, 6005, 6006, 6007]) (rs := [70, 104, 999]) (F := F)) g5 (by decide +kernel) (by decide +kernel)
              have g118 := agc_tr g119 g10 (by decide +kernel) (by decide +kernel)
              have g117 := agc_r (u := 104) (w := upd (FS46_7 104) (x1 / 64).toNatClampNeg ((FS28_2 104 (x1 / 64).toNatClampNeg) + v46_6)) g118 rfl (by decide +kernel)
              have g116 := agc_r (u := 70) (w := upd (FS46_7 70) (64 * x1).toNatClampNeg ((va_up FS46_7 104 (upd (FS46_7 104) (x1 / 64).toNatClampNeg ((FS28_2 104 (x1 / 64).toNatClampNeg) + v46_6))) 104 (x1 / 64).toNatClampNeg)) g117 rfl (by decide +kernel)
              have g115 := agc_tr g116 g44 (by decide +kernel) (by decide +kernel)
              have g114 := agc_tr g115 g77 (by decide +kernel) (by decide +kernel)
              refine h_Re_readNumber_u60 (B_w b104 (by decide +kernel) (by decide +kernel)) hI76 (fun {v209_109} {FS209_110} {LFS209_110} b111 hI112 g113 => ?_) (fun hI g => hT13 hI (agc_tr g114 g (by decide +kernel) (by decide +kernel)))
              refine ⟨(show c_cl UL 70 = 902 from cl_70), ?_⟩
              refine ⟨(show vp_in ((64 * x1) + (x7_39 + (v140_73 / 16))) 12288 from vp_B (B_add (B_mul cqb_64_64_64 b_x1 (by decide +kernel) (by decide +kernel) (by decide +kernel)) b84 (by decide +kernel) (by decide +kernel)) (by decide +kernel) (by decide +kernel)), ?_⟩
              unfold b_Un_readBlock_213
              have hI120 := IMc_u (u := 70) (i := ((64 * x1) + (x7_39 + (v140_73 / 16))).toNatClampNeg) (v := v209_109) hI112 (show B (-2147483648) 2147483647 (v209_109) from (B_w b111 (by decide +kernel) (by decide +kernel)))
              have g124 := agc_tr (agc_refl (fs := [6001, 6002, 6003, 6004, 6005]) (rs := [70, 999]) (F := va_up (va_up FS46_7 104 (upd (FS46_7 104) (x1 / 64).toNatClampNeg ((FS28_2 104 (x1 / 64).toNatClampNeg) + v46_6))) 70 (upd (FS46_7 70) (64 * x1).toNatClampNeg ((va_up FS46_7 104 (upd (FS46_7 104) (x1 / 64).toNatClampNeg ((FS28_2 104 (x1 / 64).toNatClampNeg) + v46_6))) 104 (x1 / 64).toNatClampNeg)))) g44 (by decide +kernel) (by decide +kernel)
              have g123 := agc_tr g124 g77 (by decide +kernel) (by decide +kernel)
              have g122 := agc_tr g123 g113 (by decide +kernel) (by decide +kernel)
              have g121 := agc_r (u := 70) (w := upd (FS209_110 70) ((64 * x1) + (x7_39 + (v140_73 / 16))).toNatClampNeg v209_109) g122 rfl (by decide +kernel)
              have e125 : ((x7_39 + (v140_73 / 16)) + 1).toInt = (((x7_39).toInt + ((v140_73).toInt / 16)) + 1) := (t_add b84 cqb_1_1_1 (by decide +kernel) (by decide +kernel)).trans (by rw [e89, cqn_1])
              have q126 : (2) ≤ ((x7_39 + (v140_73 / 16)) + 1).toInt ∧ ((x7_39 + (v140_73 / 16)) + 1).toInt ≤ (64) := (show B 2 64 ((x7_39 + (v140_73 / 16)) + 1) from B_w (B_add b84 cqb_1_1_1 (by decide +kernel) (by decide +kernel)) (by decide +kernel) (by decide +kernel))
              exact hR122 ⟨rfl, rfl, (B_w b75 (by decide +kernel) (by decide +kernel)), (B_w (B_add b84 cqb_1_1_1 (by decide +kernel) (by decide +kernel)) (by decide +kernel) (by decide +kernel)), _, _, rfl, hI120, g121⟩ (by show (64 - ((x7_39 + (v140_73 / 16)) + 1).toInt).toNat < (64 - x7_39.toInt).toNat; omega)
          · have hq127 := (nlt_le hc)
            have b128 : B 64 78 (x7_39 + (v140_73 / 16)) := B_w (B_leR cqb_64_64_64 (B_add b55 (show B 0 15 (v140_73 / 16) from B_div2 b75 cqb_16_16_16 (by decide +kernel) (by decide +kernel) (by decide +kernel) (by decide +kernel)) (by decide +kernel) (by decide +kernel)) hq127) (by decide +kernel) (by decide +kernel)
            have q129 : (1) ≤ (x7_39).toInt ∧ (x7_39).toInt ≤ (63) := (show B 1 63 (x7_39) from B_w b55 (by decide +kernel) (by decide +kernel))
            have q130 : (0) ≤ (v140_73).toInt ∧ (v140_73).toInt ≤ (255) := (show B 0 255 (v140_73) from B_w b75 (by decide +kernel) (by decide +kernel))
            have e131 : (v140_73 / 16).toInt = ((v140_73).toInt / 16) := (t_div b75 cqb_16_16_16 (by decide +kernel) (by decide +kernel)).trans (by rw [cqn_16])
            have q132 : (0) ≤ (v140_73 / 16).toInt ∧ (v140_73 / 16).toInt ≤ (15) := (show B 0 15 (v140_73 / 16) from B_div2 b75 cqb_16_16_16 (by decide +kernel) (by decide +kernel) (by decide +kernel) (by decide +kernel))
            have e133 : (x7_39 + (v140_73 / 16)).toInt = ((x7_39).toInt + ((v140_73).toInt / 16)) := (t_add b55 (show B 0 15 (v140_73 / 16) from B_div2 b75 cqb_16_16_16 (by decide +kernel) (by decide +kernel) (by decide +kernel) (by decide +kernel)) (by decide +kernel) (by decide +kernel)).trans (by rw [e131])
            have q134 : (64) ≤ (x7_39 + (v140_73 / 16)).toInt ∧ (x7_39 + (v140_73 / 16)).toInt ≤ (78) := (show B 64 78 (x7_39 + (v140_73 / 16)) from B_w b128 (by decide +kernel) (by decide +kernel))
            have i135 : (64 : Int32).toInt ≤ (x7_39 + (v140_73 / 16)).toInt := i_le hq127
            have n136 : (64 : Int32).toInt = 64 := cqn_64
            refine ⟨(show ¬ ((60 : Nat) = NU) from by decide +kernel), ?_⟩
            refine ⟨(show ¬ ((60 : Nat) = NU) from by decide +kernel), ?_⟩
            refine ⟨(show c_cl UL 60 = 8 from cl_60), ?_⟩
            have g145 := agc_tr (agc_refl (fs := [6001, 6002, 6003, 6004, 6005, 6006, 6007]) (rs := [70, 104, 999]) (F := F)) g5 (by decide +kernel) (by decide +kernel)
            have g144 := agc_tr g145 g10 (by decide +kernel) (by decide +kernel)
            have g143 := agc_r (u := 104) (w := upd (FS46_7 104) (x1 / 64).toNatClampNeg ((FS28_2 104 (x1 / 64).toNatClampNeg) + v46_6)) g144 rfl (by decide +kernel)
            have g142 := agc_r (u := 70) (w := upd (FS46_7 70) (64 * x1).toNatClampNeg ((va_up FS46_7 104 (upd (FS46_7 104) (x1 / 64).toNatClampNeg ((FS28_2 104 (x1 / 64).toNatClampNeg) + v46_6))) 104 (x1 / 64).toNatClampNeg)) g143 rfl (by decide +kernel)
            have g141 := agc_tr g142 g44 (by decide +kernel) (by decide +kernel)
            have g140 := agc_tr g141 g77 (by decide +kernel) (by decide +kernel)
            exact h_Re_fail_u60 (B_w cqb_7_7_7 (by decide +kernel) (by decide +kernel)) hI76 (fun hI g => hT13 hI (agc_tr g140 g (by decide +kernel) (by decide +kernel)))
    · exact (B_dis cqb_1_1_1 cqb_0_0_0 hc (by decide +kernel)).elim
set_option maxRecDepth 20000 in
set_option maxHeartbeats 4000000 in
theorem h_Un_readData_u59_a0 {b : Bool} {P : Nat → Nat → Nat} {F : cF} {L : cL} {K : cs → Prop} {T : Nat → cs → Prop} (hI : IMc F) (pre0 : ZQ F) (pre1 : UPs 73 F) (hK : ∀ {Z : cF} {LZ : cL}, IMc Z → agc [6001, 6002, 6003, 6004, 6005] [70, 104, 999] F Z → K (Z, LZ, PC false b P)) (hT13 : ∀ {Z : cF} {LZ : cL}, IMc Z → agc [6001, 6002, 6003, 6004, 6005, 6006, 6007] [70, 104, 999] F Z → T 13 (Z, LZ, PC false b P)) : p_Un_readData UL 59 (F, L, PC false b P) K T := by
  unfold p_Un_readData
  refine ⟨(show ¬ ((60 : Nat) = NU) from by decide +kernel), ?_⟩
  refine ⟨(show c_cl UL 60 = 8 from cl_60), ?_⟩
  refine h_Re_dropBits_u60 hI (fun {FS4_1} {LFS4_1} hI2 g3 => ?_)
  refine ⟨(show ¬ ((104 : Nat) = NU) from by decide +kernel), ?_⟩
  refine h_Ar_fillI_x0104_x10 hI2 (fun {FS12_4} {LFS12_4} hI5 g6 => ?_)
  have g15 := agc_tr (agc_refl (fs := [6004]) (rs := [104]) (F := F)) g3 (by decide +kernel) (by decide +kernel)
  have g14 := agc_tr g15 g6 (by decide +kernel) (by decide +kernel)
  refine ⟨fun yx1 yx2 yS => B 0 193 yx1 ∧ B 0 192 yx2 ∧ ∃ (T9 : cF) (LT9 : cL), yS = (T9, LT9, PC false b P) ∧ IMc T9 ∧ agc [6001, 6002, 6003, 6004, 6005] [70, 104, 999] FS12_4 T9 ∧ (ZQ T9) ∧ (UPs 73 T9) ∧ (yx1.toInt ≤ yx2.toInt), fun yx1 yx2 yS => (192 - yx2.toInt).toNat, ⟨(B_w cqb_0_0_0 (by decide +kernel) (by decide +kernel)), (B_w cqb_0_0_0 (by decide +kernel) (by decide +kernel)), _, _, rfl, hI5, (agc_refl (fs := [6001, 6002, 6003, 6004, 6005]) (rs := [70, 104, 999]) (F := FS12_4)), (ZQ_ag (F := F) (G := FS12_4) pre0 hI g14 (by decide +kernel) rfl rfl), (UPs_tr (F := F) (G := FS12_4) pre1 ((g6.1 73 5 rfl rfl).trans (g3.1 73 5 rfl rfl)) ((g6.1 73 4 rfl rfl).trans (g3.1 73 4 rfl rfl)) ((g6.1 73 6 rfl rfl).trans (g3.1 73 6 rfl rfl))), (by show (0 : Int) ≤ 0; first | with_reducible assumption | omega)⟩, fun x1_7 x2_8 ST9 hIv => ?_⟩
  obtain ⟨b10, b11, T9, LT9, rfl, hI12, g13, r16, r17, r18⟩ := hIv
  suffices hs : ∀ (R19 : Int32 → Int32 → cs → Prop), (∀ zx1 zx2 zS, (B 0 193 zx1 ∧ B 0 192 zx2 ∧ ∃ (T9 : cF) (LT9 : cL), zS = (T9, LT9, PC false b P) ∧ IMc T9 ∧ agc [6001, 6002, 6003, 6004, 6005] [70, 104, 999] FS12_4 T9 ∧ (ZQ T9) ∧ (UPs 73 T9) ∧ (zx1.toInt ≤ zx2.toInt)) → (192 - zx2.toInt).toNat < (192 - x2_8.toInt).toNat → R19 zx1 zx2 zS) → b_Un_readData_19 UL 59 x1_7 x2_8 (T9, LT9, PC false b P) R19 K T from hs _ (fun _ _ _ h1 h2 => ⟨h1, h2⟩)
  intro R19 hR190
  have hR19 := fun {zx1} {zx2} {zS} => hR190 zx1 zx2 zS
  have q19 : (0) ≤ (x1_7).toInt ∧ (x1_7).toInt ≤ (193) := (show B 0 193 (x1_7) from B_w b10 (by decide +kernel) (by decide +kernel))
  have q20 : (0) ≤ (x2_8).toInt ∧ (x2_8).toInt ≤ (192) := (show B 0 192 (x2_8) from B_w b11 (by decide +kernel) (by decide +kernel))
  unfold b_Un_readData_19
  refine ⟨(show ¬ ((73 : Nat) = NU) from by decide +kernel), ?_⟩
  refine ⟨(show c_cl UL 73 = 10 from cl_73), ?_⟩
  refine ⟨fun hc => ?_, fun hc => ?_⟩
  · have hq21 := hc
    have q22 : (0) ≤ (F 73 4).toInt ∧ (F 73 4).toInt ≤ (192) := (show B 0 192 (F 73 4) from hI 73 4)
    have e23 : (T9 73 4).toInt = (F 73 4).toInt := (congrArg Int32.toInt (((g13.1 73 4 rfl rfl).trans (g6.1 73 4 rfl rfl)).trans (g3.1 73 4 rfl rfl))).trans rfl
    have i24 : (T9 73 4).toInt ≤ (x2_8).toInt := i_le hq21
    have g27 := agc_tr (agc_refl (fs := [6001, 6002, 6003, 6004, 6005]) (rs := [70, 104, 999]) (F := F)) g3 (by decide +kernel) (by decide +kernel)
    have g26 := agc_tr g27 g6 (by decide +kernel) (by decide +kernel)
    have g25 := agc_tr g26 g13 (by decide +kernel) (by decide +kernel)
    exact hK hI12 g25
  · have hq28 := (nle_lt hc)
    have b29 : B 0 191 (x2_8) := B_w (B_ltL b11 (B_eq (((g13.1 73 4 rfl rfl).trans (g6.1 73 4 rfl rfl)).trans (g3.1 73 4 rfl rfl)) (show B 0 192 (F 73 4) from hI 73 4)) hq28) (by decide +kernel) (by decide +kernel)
    have q30 : (0) ≤ (x2_8).toInt ∧ (x2_8).toInt ≤ (191) := (show B 0 191 (x2_8) from B_w b29 (by decide +kernel) (by decide +kernel))
    have b31 : B 1 192 (F 73 4) := B_w (B_eq (Eq.symm (((g13.1 73 4 rfl rfl).trans (g6.1 73 4 rfl rfl)).trans (g3.1 73 4 rfl rfl))) (B_ltR b11 (B_eq (((g13.1 73 4 rfl rfl).trans (g6.1 73 4 rfl rfl)).trans (g3.1 73 4 rfl rfl)) (show B 0 192 (F 73 4) from hI 73 4)) hq28)) (by decide +kernel) (by decide +kernel)
    have q32 : (1) ≤ (F 73 4).toInt ∧ (F 73 4).toInt ≤ (192) := (show B 1 192 (F 73 4) from B_w b31 (by decide +kernel) (by decide +kernel))
    have e33 : (T9 73 4).toInt = (F 73 4).toInt := (congrArg Int32.toInt (((g13.1 73 4 rfl rfl).trans (g6.1 73 4 rfl rfl)).trans (g3.1 73 4 rfl rfl))).trans rfl
    have i34 : (x2_8).toInt < (T9 73 4).toInt := i_lt hq28
    have hj35 : ∀ {x1_36 : Int32} {T37 : cF} {LT37 : cL}, B 0 194 x1_36 → IMc T37 → agc [6001, 6004] [104, 999] T9 T37 → (ZQ T37) → (UPs 73 T37) → (x2_8.toInt < (T37 73 4).toInt) → (x1_36.toInt ≤ (x2_8.toInt + 1)) → b_Un_readData_65 UL 59 x1_36 x2_8 (T37, LT37, PC false b P) R19 K T := by
      intro x1_36 T37 LT37 b38 hI39 g40 r41 r42 r43 r44
      have e45 : (T37 73 4).toInt = (F 73 4).toInt := (congrArg Int32.toInt ((((g40.1 73 4 rfl rfl).trans (g13.1 73 4 rfl rfl)).trans (g6.1 73 4 rfl rfl)).trans (g3.1 73 4 rfl rfl))).trans rfl
      have q46 : (0) ≤ (x1_36).toInt ∧ (x1_36).toInt ≤ (194) := (show B 0 194 (x1_36) from B_w b38 (by decide +kernel) (by decide +kernel))
      unfold b_Un_readData_65
      refine ⟨fun yx1 yx2 yx3 yS => x1_36 = yx1 ∧ x2_8 = yx2 ∧ B 0 12 yx3 ∧ ∃ (T50 : cF) (LT50 : cL), yS = (T50, LT50, PC false b P) ∧ IMc T50 ∧ agc [6001, 6002, 6003, 6004, 6005] [70, 104, 999] T37 T50 ∧ (ZQ T50) ∧ (UPs 73 T50) ∧ (yx2.toInt < (T50 73 4).toInt), fun yx1 yx2 yx3 yS => (12 - yx3.toInt).toNat, ⟨rfl, rfl, (B_w cqb_0_0_0 (by decide +kernel) (by decide +kernel)), _, _, rfl, hI39, (agc_refl (fs := [6001, 6002, 6003, 6004, 6005]) (rs := [70, 104, 999]) (F := T37)), r41, (UPs_tr (F := T37) (G := T37) r42 (Eq.trans ((((g40.1 73 5 rfl rfl).trans (g13.1 73 5 rfl rfl)).trans (g6.1 73 5 rfl rfl)).trans (g3.1 73 5 rfl rfl)) (Eq.symm ((((g40.1 73 5 rfl rfl).trans (g13.1 73 5 rfl rfl)).trans (g6.1 73 5 rfl rfl)).trans (g3.1 73 5 rfl rfl)))) (Eq.trans ((((g40.1 73 4 rfl rfl).trans (g13.1 73 4 rfl rfl)).trans (g6.1 73 4 rfl rfl)).trans (g3.1 73 4 rfl rfl)) (Eq.symm ((((g40.1 73 4 rfl rfl).trans (g13.1 73 4 rfl rfl)).trans (g6.1 73 4 rfl rfl)).trans (g3.1 73 4 rfl rfl)))) (Eq.trans ((((g40.1 73 6 rfl rfl).trans (g13.1 73 6 rfl rfl)).trans (g6.1 73 6 rfl rfl)).trans (g3.1 73 6 rfl rfl)) (Eq.symm ((((g40.1 73 6 rfl rfl).trans (g13.1 73 6 rfl rfl)).trans (g6.1 73 6 rfl rfl)).trans (g3.1 73 6 rfl rfl))))), (by show x2_8.toInt < (T37 73 4).toInt; first | with_reducible assumption | omega)⟩, fun x1_47 x2_48 x3_49 ST50 hIv => ?_⟩
      obtain ⟨rfl, rfl, b51, T50, LT50, rfl, hI52, g53, r54, r55, r56⟩ := hIv
      suffices hs : ∀ (R67 : Int32 → Int32 → Int32 → cs → Prop), (∀ zx1 zx2 zx3 zS, (x1_36 = zx1 ∧ x2_8 = zx2 ∧ B 0 12 zx3 ∧ ∃ (T50 : cF) (LT50 : cL), zS = (T50, LT50, PC false b P) ∧ IMc T50 ∧ agc [6001, 6002, 6003, 6004, 6005] [70, 104, 999] T37 T50 ∧ (ZQ T50) ∧ (UPs 73 T50) ∧ (zx2.toInt < (T50 73 4).toInt)) → (12 - zx3.toInt).toNat < (12 - x3_49.toInt).toNat → R67 zx1 zx2 zx3 zS) → b_Un_readData_67 UL 59 x1_36 x2_8 x3_49 (T50, LT50, PC false b P) R19 R67 K T from hs _ (fun _ _ _ _ h1 h2 => ⟨h1, h2⟩)
      intro R67 hR670
      have hR67 := fun {zx1} {zx2} {zx3} {zS} => hR670 zx1 zx2 zx3 zS
      have e57 : (T50 73 4).toInt = (F 73 4).toInt := (congrArg Int32.toInt (((((g53.1 73 4 rfl rfl).trans (g40.1 73 4 rfl rfl)).trans (g13.1 73 4 rfl rfl)).trans (g6.1 73 4 rfl rfl)).trans (g3.1 73 4 rfl rfl))).trans rfl
      unfold b_Un_readData_67
      refine ⟨(show ¬ ((73 : Nat) = NU) from by decide +kernel), ?_⟩
      refine ⟨(show c_cl UL 73 = 10 from cl_73), ?_⟩
      refine ⟨fun hc => ?_, fun hc => ?_⟩
      · have hq58 := hc
        have q59 : (0) ≤ (F 73 5).toInt ∧ (F 73 5).toInt ≤ (12) := (show B 0 12 (F 73 5) from hI 73 5)
        have e60 : (T50 73 5).toInt = (F 73 5).toInt := (congrArg Int32.toInt (((((g53.1 73 5 rfl rfl).trans (g40.1 73 5 rfl rfl)).trans (g13.1 73 5 rfl rfl)).trans (g6.1 73 5 rfl rfl)).trans (g3.1 73 5 rfl rfl))).trans rfl
        have q61 : (0) ≤ (x3_49).toInt ∧ (x3_49).toInt ≤ (12) := (show B 0 12 (x3_49) from B_w b51 (by decide +kernel) (by decide +kernel))
        have i62 : (T50 73 5).toInt ≤ (x3_49).toInt := i_le hq58
        have g65 := agc_tr (agc_refl (fs := [6001, 6002, 6003, 6004, 6005]) (rs := [70, 104, 999]) (F := FS12_4)) g13 (by decide +kernel) (by decide +kernel)
        have g64 := agc_tr g65 g40 (by decide +kernel) (by decide +kernel)
        have g63 := agc_tr g64 g53 (by decide +kernel) (by decide +kernel)
        have e66 : (x2_8 + 1).toInt = ((x2_8).toInt + 1) := (t_add b29 cqb_1_1_1 (by decide +kernel) (by decide +kernel)).trans (by rw [cqn_1])
        have q67 : (1) ≤ (x2_8 + 1).toInt ∧ (x2_8 + 1).toInt ≤ (192) := (show B 1 192 (x2_8 + 1) from B_w (B_add b29 cqb_1_1_1 (by decide +kernel) (by decide +kernel)) (by decide +kernel) (by decide +kernel))
        exact hR19 ⟨(show B 0 193 (x1_36) from ⟨by omega, by omega⟩), (B_w (B_add b29 cqb_1_1_1 (by decide +kernel) (by decide +kernel)) (by decide +kernel) (by decide +kernel)), _, _, rfl, hI52, g63, r54, (UPs_tr (F := T50) (G := T50) r55 (Eq.trans (((((g53.1 73 5 rfl rfl).trans (g40.1 73 5 rfl rfl)).trans (g13.1 73 5 rfl rfl)).trans (g6.1 73 5 rfl rfl)).trans (g3.1 73 5 rfl rfl)) (Eq.symm (((((g53.1 73 5 rfl rfl).trans (g40.1 73 5 rfl rfl)).trans (g13.1 73 5 rfl rfl)).trans (g6.1 73 5 rfl rfl)).trans (g3.1 73 5 rfl rfl)))) (Eq.trans (((((g53.1 73 4 rfl rfl).trans (g40.1 73 4 rfl rfl)).trans (g13.1 73 4 rfl rfl)).trans (g6.1 73 4 rfl rfl)).trans (g3.1 73 4 rfl rfl)) (Eq.symm (((((g53.1 73 4 rfl rfl).trans (g40.1 73 4 rfl rfl)).trans (g13.1 73 4 rfl rfl)).trans (g6.1 73 4 rfl rfl)).trans (g3.1 73 4 rfl rfl)))) (Eq.trans (((((g53.1 73 6 rfl rfl).trans (g40.1 73 6 rfl rfl)).trans (g13.1 73 6 rfl rfl)).trans (g6.1 73 6 rfl rfl)).trans (g3.1 73 6 rfl rfl)) (Eq.symm (((((g53.1 73 6 rfl rfl).trans (g40.1 73 6 rfl rfl)).trans (g13.1 73 6 rfl rfl)).trans (g6.1 73 6 rfl rfl)).trans (g3.1 73 6 rfl rfl))))), (by show x1_36.toInt ≤ (x2_8 + 1).toInt; first | with_reducible assumption | omega)⟩ (by show (192 - (x2_8 + 1).toInt).toNat < (192 - x2_8.toInt).toNat; omega)
      · have hq68 := (nle_lt hc)
        have b69 : B 0 11 (x3_49) := B_w (B_ltL b51 (B_eq (((((g53.1 73 5 rfl rfl).trans (g40.1 73 5 rfl rfl)).trans (g13.1 73 5 rfl rfl)).trans (g6.1 73 5 rfl rfl)).trans (g3.1 73 5 rfl rfl)) (show B 0 12 (F 73 5) from hI 73 5)) hq68) (by decide +kernel) (by decide +kernel)
        have b70 : B 1 12 (F 73 5) := B_w (B_eq (Eq.symm (((((g53.1 73 5 rfl rfl).trans (g40.1 73 5 rfl rfl)).trans (g13.1 73 5 rfl rfl)).trans (g6.1 73 5 rfl rfl)).trans (g3.1 73 5 rfl rfl))) (B_ltR b51 (B_eq (((((g53.1 73 5 rfl rfl).trans (g40.1 73 5 rfl rfl)).trans (g13.1 73 5 rfl rfl)).trans (g6.1 73 5 rfl rfl)).trans (g3.1 73 5 rfl rfl)) (show B 0 12 (F 73 5) from hI 73 5)) hq68)) (by decide +kernel) (by decide +kernel)
        have q71 : (0) ≤ (x3_49).toInt ∧ (x3_49).toInt ≤ (11) := (show B 0 11 (x3_49) from B_w b69 (by decide +kernel) (by decide +kernel))
        have q72 : (1) ≤ (F 73 5).toInt ∧ (F 73 5).toInt ≤ (12) := (show B 1 12 (F 73 5) from B_w b70 (by decide +kernel) (by decide +kernel))
        have e73 : (T50 73 5).toInt = (F 73 5).toInt := (congrArg Int32.toInt (((((g53.1 73 5 rfl rfl).trans (g40.1 73 5 rfl rfl)).trans (g13.1 73 5 rfl rfl)).trans (g6.1 73 5 rfl rfl)).trans (g3.1 73 5 rfl rfl))).trans rfl
        have i74 : (x3_49).toInt < (T50 73 5).toInt := i_lt hq68
        refine ⟨(show ¬ ((73 : Nat) = NU) from by decide +kernel), ?_⟩
        refine ⟨(show ¬ ((77 : Nat) = NU) from by decide +kernel), ?_⟩
        refine ⟨(show ¬ ((73 : Nat) = NU) from by decide +kernel), ?_⟩
        refine ⟨(show c_cl UL 77 = 902 from cl_77), ?_⟩
        have kx76 : 0 ≤ (((T50 73 5) * x2_8) + x3_49).toInt ∧ (((T50 73 5) * x2_8) + x3_49).toInt < (T50 73 6).toInt := ix_L (u := 73) (F := T50) (UPs_tr (F := T50) (G := T50) r55 (Eq.trans (((((g53.1 73 5 rfl rfl).trans (g40.1 73 5 rfl rfl)).trans (g13.1 73 5 rfl rfl)).trans (g6.1 73 5 rfl rfl)).trans (g3.1 73 5 rfl rfl)) (Eq.symm (((((g53.1 73 5 rfl rfl).trans (g40.1 73 5 rfl rfl)).trans (g13.1 73 5 rfl rfl)).trans (g6.1 73 5 rfl rfl)).trans (g3.1 73 5 rfl rfl)))) (Eq.trans (((((g53.1 73 4 rfl rfl).trans (g40.1 73 4 rfl rfl)).trans (g13.1 73 4 rfl rfl)).trans (g6.1 73 4 rfl rfl)).trans (g3.1 73 4 rfl rfl)) (Eq.symm (((((g53.1 73 4 rfl rfl).trans (g40.1 73 4 rfl rfl)).trans (g13.1 73 4 rfl rfl)).trans (g6.1 73 4 rfl rfl)).trans (g3.1 73 4 rfl rfl)))) (Eq.trans (((((g53.1 73 6 rfl rfl).trans (g40.1 73 6 rfl rfl)).trans (g13.1 73 6 rfl rfl)).trans (g6.1 73 6 rfl rfl)).trans (g3.1 73 6 rfl rfl)) (Eq.symm (((((g53.1 73 6 rfl rfl).trans (g40.1 73 6 rfl rfl)).trans (g13.1 73 6 rfl rfl)).trans (g6.1 73 6 rfl rfl)).trans (g3.1 73 6 rfl rfl))))) (B_w (B_eq (((((g53.1 73 5 rfl rfl).trans (g40.1 73 5 rfl rfl)).trans (g13.1 73 5 rfl rfl)).trans (g6.1 73 5 rfl rfl)).trans (g3.1 73 5 rfl rfl)) b70) (by decide +kernel) (by decide +kernel)) (B_w b29 (by decide +kernel) (by decide +kernel)) (B_w b69 (by decide +kernel) (by decide +kernel)) (by omega) (by omega)
        have b75 : B 0 191 (((T50 73 5) * x2_8) + x3_49) := ix_B (u := 73) (F := T50) (UPs_tr (F := T50) (G := T50) r55 (Eq.trans (((((g53.1 73 5 rfl rfl).trans (g40.1 73 5 rfl rfl)).trans (g13.1 73 5 rfl rfl)).trans (g6.1 73 5 rfl rfl)).trans (g3.1 73 5 rfl rfl)) (Eq.symm (((((g53.1 73 5 rfl rfl).trans (g40.1 73 5 rfl rfl)).trans (g13.1 73 5 rfl rfl)).trans (g6.1 73 5 rfl rfl)).trans (g3.1 73 5 rfl rfl)))) (Eq.trans (((((g53.1 73 4 rfl rfl).trans (g40.1 73 4 rfl rfl)).trans (g13.1 73 4 rfl rfl)).trans (g6.1 73 4 rfl rfl)).trans (g3.1 73 4 rfl rfl)) (Eq.symm (((((g53.1 73 4 rfl rfl).trans (g40.1 73 4 rfl rfl)).trans (g13.1 73 4 rfl rfl)).trans (g6.1 73 4 rfl rfl)).trans (g3.1 73 4 rfl rfl)))) (Eq.trans (((((g53.1 73 6 rfl rfl).trans (g40.1 73 6 rfl rfl)).trans (g13.1 73 6 rfl rfl)).trans (g6.1 73 6 rfl rfl)).trans (g3.1 73 6 rfl rfl)) (Eq.symm (((((g53.1 73 6 rfl rfl).trans (g40.1 73 6 rfl rfl)).trans (g13.1 73 6 rfl rfl)).trans (g6.1 73 6 rfl rfl)).trans (g3.1 73 6 rfl rfl))))) (B_w (B_eq (((((g53.1 73 5 rfl rfl).trans (g40.1 73 5 rfl rfl)).trans (g13.1 73 5 rfl rfl)).trans (g6.1 73 5 rfl rfl)).trans (g3.1 73 5 rfl rfl)) b70) (by decide +kernel) (by decide +kernel)) (B_w (B_eq (((((g53.1 73 6 rfl rfl).trans (g40.1 73 6 rfl rfl)).trans (g13.1 73 6 rfl rfl)).trans (g6.1 73 6 rfl rfl)).trans (g3.1 73 6 rfl rfl)) (show B 0 192 (F 73 6) from hI 73 6)) (by decide +kernel) (by decide +kernel)) (B_w b29 (by decide +kernel) (by decide +kernel)) (B_w b69 (by decide +kernel) (by decide +kernel)) (by omega) (by omega)
        have q77 : (0) ≤ (F 73 6).toInt ∧ (F 73 6).toInt ≤ (192) := (show B 0 192 (F 73 6) from hI 73 6)
        have e78 : (T50 73 6).toInt = (F 73 6).toInt := (congrArg Int32.toInt (((((g53.1 73 6 rfl rfl).trans (g40.1 73 6 rfl rfl)).trans (g13.1 73 6 rfl rfl)).trans (g6.1 73 6 rfl rfl)).trans (g3.1 73 6 rfl rfl))).trans rfl
        refine ⟨(show vp_in (((T50 73 5) * x2_8) + x3_49) 192 from vp_B b75 (by decide +kernel) (by decide +kernel)), ?_⟩
        have e79 : ((T50 73 5) * x2_8).toInt = ((F 73 5).toInt * (x2_8).toInt) := (t_mul (B_eq (((((g53.1 73 5 rfl rfl).trans (g40.1 73 5 rfl rfl)).trans (g13.1 73 5 rfl rfl)).trans (g6.1 73 5 rfl rfl)).trans (g3.1 73 5 rfl rfl)) b70) b29 (by decide +kernel) (by decide +kernel) (by decide +kernel)).trans (by rw [e73])
        have q80 : (0) ≤ ((T50 73 5) * x2_8).toInt ∧ ((T50 73 5) * x2_8).toInt ≤ (2292) := (show B 0 2292 ((T50 73 5) * x2_8) from B_w (B_mul (B_eq (((((g53.1 73 5 rfl rfl).trans (g40.1 73 5 rfl rfl)).trans (g13.1 73 5 rfl rfl)).trans (g6.1 73 5 rfl rfl)).trans (g3.1 73 5 rfl rfl)) b70) b29 (by decide +kernel) (by decide +kernel) (by decide +kernel)) (by decide +kernel) (by decide +kernel))
        have e81 : (((T50 73 5) * x2_8) + x3_49).toInt = (((F 73 5).toInt * (x2_8).toInt) + (x3_49).toInt) := (t_add (B_mul (B_eq (((((g53.1 73 5 rfl rfl).trans (g40.1 73 5 rfl rfl)).trans (g13.1 73 5 rfl rfl)).trans (g6.1 73 5 rfl rfl)).trans (g3.1 73 5 rfl rfl)) b70) b29 (by decide +kernel) (by decide +kernel) (by decide +kernel)) b69 (by decide +kernel) (by decide +kernel)).trans (by rw [e79])
        have q82 : (0) ≤ (((T50 73 5) * x2_8) + x3_49).toInt ∧ (((T50 73 5) * x2_8) + x3_49).toInt ≤ (191) := (show B 0 191 (((T50 73 5) * x2_8) + x3_49) from B_w b75 (by decide +kernel) (by decide +kernel))
        have g90 := agc_tr (agc_refl (fs := [6001, 6002, 6003, 6004, 6005, 6006, 6007]) (rs := [70, 104, 999]) (F := F)) g3 (by decide +kernel) (by decide +kernel)
        have g89 := agc_tr g90 g6 (by decide +kernel) (by decide +kernel)
        have g88 := agc_tr g89 g13 (by decide +kernel) (by decide +kernel)
        have g87 := agc_tr g88 g40 (by decide +kernel) (by decide +kernel)
        have g86 := agc_tr g87 g53 (by decide +kernel) (by decide +kernel)
        refine h_Un_readBlock_u59_a0 (B_w (B_eq (((((congrFun (g53.2 77 rfl rfl) (((T50 73 5) * x2_8) + x3_49).toNatClampNeg).trans (congrFun (g40.2 77 rfl rfl) (((T50 73 5) * x2_8) + x3_49).toNatClampNeg)).trans (congrFun (g13.2 77 rfl rfl) (((T50 73 5) * x2_8) + x3_49).toNatClampNeg)).trans (congrFun (g6.2 77 rfl rfl) (((T50 73 5) * x2_8) + x3_49).toNatClampNeg)).trans (congrFun (g3.2 77 rfl rfl) (((T50 73 5) * x2_8) + x3_49).toNatClampNeg)) (show B 0 191 (F 77 (((T50 73 5) * x2_8) + x3_49).toNatClampNeg) from hI 77 (((T50 73 5) * x2_8) + x3_49).toNatClampNeg)) (by decide +kernel) (by decide +kernel)) hI52 ((show ZQ T50 from r54) (((T50 73 5) * x2_8) + x3_49) (by omega) (by omega)) (fun {FS98_83} {LFS98_83} hI84 g85 => ?_) (fun hI g => hT13 hI (agc_tr g86 g (by decide +kernel) (by decide +kernel)))
        have g92 := agc_tr (agc_refl (fs := [6001, 6002, 6003, 6004, 6005]) (rs := [70, 104, 999]) (F := T37)) g53 (by decide +kernel) (by decide +kernel)
        have g91 := agc_tr g92 g85 (by decide +kernel) (by decide +kernel)
        have g93 := agc_tr (agc_refl (fs := [6001, 6002, 6003, 6004, 6005]) (rs := [70, 104, 999]) (F := T50)) g85 (by decide +kernel) (by decide +kernel)
        have e94 : (FS98_83 73 4).toInt = (F 73 4).toInt := (congrArg Int32.toInt ((((((g85.1 73 4 rfl rfl).trans (g53.1 73 4 rfl rfl)).trans (g40.1 73 4 rfl rfl)).trans (g13.1 73 4 rfl rfl)).trans (g6.1 73 4 rfl rfl)).trans (g3.1 73 4 rfl rfl))).trans rfl
        have e95 : (x3_49 + 1).toInt = ((x3_49).toInt + 1) := (t_add b69 cqb_1_1_1 (by decide +kernel) (by decide +kernel)).trans (by rw [cqn_1])
        have q96 : (1) ≤ (x3_49 + 1).toInt ∧ (x3_49 + 1).toInt ≤ (12) := (show B 1 12 (x3_49 + 1) from B_w (B_add b69 cqb_1_1_1 (by decide +kernel) (by decide +kernel)) (by decide +kernel) (by decide +kernel))
        exact hR67 ⟨rfl, rfl, (B_w (B_add b69 cqb_1_1_1 (by decide +kernel) (by decide +kernel)) (by decide +kernel) (by decide +kernel)), _, _, rfl, hI84, g91, (ZQ_ag (F := T50) (G := FS98_83) r54 hI52 g93 (by decide +kernel) rfl rfl), (UPs_tr (F := T50) (G := FS98_83) r55 (Eq.trans ((((((g85.1 73 5 rfl rfl).trans (g53.1 73 5 rfl rfl)).trans (g40.1 73 5 rfl rfl)).trans (g13.1 73 5 rfl rfl)).trans (g6.1 73 5 rfl rfl)).trans (g3.1 73 5 rfl rfl)) (Eq.symm (((((g53.1 73 5 rfl rfl).trans (g40.1 73 5 rfl rfl)).trans (g13.1 73 5 rfl rfl)).trans (g6.1 73 5 rfl rfl)).trans (g3.1 73 5 rfl rfl)))) (Eq.trans ((((((g85.1 73 4 rfl rfl).trans (g53.1 73 4 rfl rfl)).trans (g40.1 73 4 rfl rfl)).trans (g13.1 73 4 rfl rfl)).trans (g6.1 73 4 rfl rfl)).trans (g3.1 73 4 rfl rfl)) (Eq.symm (((((g53.1 73 4 rfl rfl).trans (g40.1 73 4 rfl rfl)).trans (g13.1 73 4 rfl rfl)).trans (g6.1 73 4 rfl rfl)).trans (g3.1 73 4 rfl rfl)))) (Eq.trans ((((((g85.1 73 6 rfl rfl).trans (g53.1 73 6 rfl rfl)).trans (g40.1 73 6 rfl rfl)).trans (g13.1 73 6 rfl rfl)).trans (g6.1 73 6 rfl rfl)).trans (g3.1 73 6 rfl rfl)) (Eq.symm (((((g53.1 73 6 rfl rfl).trans (g40.1 73 6 rfl rfl)).trans (g13.1 73 6 rfl rfl)).trans (g6.1 73 6 rfl rfl)).trans (g3.1 73 6 rfl rfl))))), (by show x2_8.toInt < (FS98_83 73 4).toInt; first | with_reducible assumption | omega)⟩ (by show (12 - (x3_49 + 1).toInt).toNat < (12 - x3_49.toInt).toNat; omega)
    refine ⟨fun hc => ?_, fun hc => ?_⟩
    · have hq97 := hc
      have b98 : B 0 0 (F 59 11) := B_w (B_eq (Eq.symm (((g13.1 59 11 rfl rfl).trans (g6.1 59 11 rfl rfl)).trans (g3.1 59 11 rfl rfl))) (B_leL (B_eq (((g13.1 59 11 rfl rfl).trans (g6.1 59 11 rfl rfl)).trans (g3.1 59 11 rfl rfl)) (show B 0 65535 (F 59 11) from hI 59 11)) cqb_0_0_0 hq97)) (by decide +kernel) (by decide +kernel)
      exact hj35 (B_w b10 (by decide +kernel) (by decide +kernel)) hI12 (agc_refl (fs := [6001, 6004]) (rs := [104, 999]) (F := T9)) r16 (UPs_tr (F := T9) (G := T9) r17 (Eq.trans (((g13.1 73 5 rfl rfl).trans (g6.1 73 5 rfl rfl)).trans (g3.1 73 5 rfl rfl)) (Eq.symm (((g13.1 73 5 rfl rfl).trans (g6.1 73 5 rfl rfl)).trans (g3.1 73 5 rfl rfl)))) (Eq.trans (((g13.1 73 4 rfl rfl).trans (g6.1 73 4 rfl rfl)).trans (g3.1 73 4 rfl rfl)) (Eq.symm (((g13.1 73 4 rfl rfl).trans (g6.1 73 4 rfl rfl)).trans (g3.1 73 4 rfl rfl)))) (Eq.trans (((g13.1 73 6 rfl rfl).trans (g6.1 73 6 rfl rfl)).trans (g3.1 73 6 rfl rfl)) (Eq.symm (((g13.1 73 6 rfl rfl).trans (g6.1 73 6 rfl rfl)).trans (g3.1 73 6 rfl rfl))))) (by show x2_8.toInt < (T9 73 4).toInt; first | with_reducible assumption | omega) (by show x1_7.toInt ≤ (x2_8.toInt + 1); first | with_reducible assumption | omega)
    · have hq99 := (nle_lt hc)
      have b100 : B 1 65535 (F 59 11) := B_w (B_eq (Eq.symm (((g13.1 59 11 rfl rfl).trans (g6.1 59 11 rfl rfl)).trans (g3.1 59 11 rfl rfl))) (B_ltR cqb_0_0_0 (B_eq (((g13.1 59 11 rfl rfl).trans (g6.1 59 11 rfl rfl)).trans (g3.1 59 11 rfl rfl)) (show B 0 65535 (F 59 11) from hI 59 11)) hq99)) (by decide +kernel) (by decide +kernel)
      refine ⟨fun hc => ?_, fun hc => ?_⟩
      · have hq101 := hc
        have b102 : B 0 0 (x2_8) := B_w (B_leL b29 cqb_0_0_0 hq101) (by decide +kernel) (by decide +kernel)
        have q103 : (0) ≤ (x2_8).toInt ∧ (x2_8).toInt ≤ (0) := (show B 0 0 (x2_8) from B_w b102 (by decide +kernel) (by decide +kernel))
        exact hj35 (B_w b10 (by decide +kernel) (by decide +kernel)) hI12 (agc_refl (fs := [6001, 6004]) (rs := [104, 999]) (F := T9)) r16 (UPs_tr (F := T9) (G := T9) r17 (Eq.trans (((g13.1 73 5 rfl rfl).trans (g6.1 73 5 rfl rfl)).trans (g3.1 73 5 rfl rfl)) (Eq.symm (((g13.1 73 5 rfl rfl).trans (g6.1 73 5 rfl rfl)).trans (g3.1 73 5 rfl rfl)))) (Eq.trans (((g13.1 73 4 rfl rfl).trans (g6.1 73 4 rfl rfl)).trans (g3.1 73 4 rfl rfl)) (Eq.symm (((g13.1 73 4 rfl rfl).trans (g6.1 73 4 rfl rfl)).trans (g3.1 73 4 rfl rfl)))) (Eq.trans (((g13.1 73 6 rfl rfl).trans (g6.1 73 6 rfl rfl)).trans (g3.1 73 6 rfl rfl)) (Eq.symm (((g13.1 73 6 rfl rfl).trans (g6.1 73 6 rfl rfl)).trans (g3.1 73 6 rfl rfl))))) (by show x2_8.toInt < (T9 73 4).toInt; first | with_reducible assumption | omega) (by show x1_7.toInt ≤ (x2_8.toInt + 1); first | with_reducible assumption | omega)
      · have hq104 := (nle_lt hc)
        have b105 : B 1 191 (x2_8) := B_w (B_ltR cqb_0_0_0 b29 hq104) (by decide +kernel) (by decide +kernel)
        have q106 : (1) ≤ (x2_8).toInt ∧ (x2_8).toInt ≤ (191) := (show B 1 191 (x2_8) from B_w b105 (by decide +kernel) (by decide +kernel))
        refine ⟨B_nz (B_eq (((g13.1 59 11 rfl rfl).trans (g6.1 59 11 rfl rfl)).trans (g3.1 59 11 rfl rfl)) b100) (by decide +kernel), ?_⟩
        refine ⟨fun hc => ?_, fun hc => ?_⟩
        · have b107 : B 1 65534 (x2_8 - ((x2_8 / (T9 59 11)) * (T9 59 11))) := B_w (B_n0 (B_rem b105 (B_eq (((g13.1 59 11 rfl rfl).trans (g6.1 59 11 rfl rfl)).trans (g3.1 59 11 rfl rfl)) b100) (by decide +kernel) (by decide +kernel)) hc) (by decide +kernel) (by decide +kernel)
          exact hj35 (B_w b10 (by decide +kernel) (by decide +kernel)) hI12 (agc_refl (fs := [6001, 6004]) (rs := [104, 999]) (F := T9)) r16 (UPs_tr (F := T9) (G := T9) r17 (Eq.trans (((g13.1 73 5 rfl rfl).trans (g6.1 73 5 rfl rfl)).trans (g3.1 73 5 rfl rfl)) (Eq.symm (((g13.1 73 5 rfl rfl).trans (g6.1 73 5 rfl rfl)).trans (g3.1 73 5 rfl rfl)))) (Eq.trans (((g13.1 73 4 rfl rfl).trans (g6.1 73 4 rfl rfl)).trans (g3.1 73 4 rfl rfl)) (Eq.symm (((g13.1 73 4 rfl rfl).trans (g6.1 73 4 rfl rfl)).trans (g3.1 73 4 rfl rfl)))) (Eq.trans (((g13.1 73 6 rfl rfl).trans (g6.1 73 6 rfl rfl)).trans (g3.1 73 6 rfl rfl)) (Eq.symm (((g13.1 73 6 rfl rfl).trans (g6.1 73 6 rfl rfl)).trans (g3.1 73 6 rfl rfl))))) (by show x2_8.toInt < (T9 73 4).toInt; first | with_reducible assumption | omega) (by show x1_7.toInt ≤ (x2_8.toInt + 1); first | with_reducible assumption | omega)
        · have b108 : B 0 0 (x2_8 - ((x2_8 / (T9 59 11)) * (T9 59 11))) := B_w (B_eq hc cqb_0_0_0) (by decide +kernel) (by decide +kernel)
          have q109 : (1) ≤ (F 59 11).toInt ∧ (F 59 11).toInt ≤ (65535) := (show B 1 65535 (F 59 11) from B_w b100 (by decide +kernel) (by decide +kernel))
          have e110 : (T9 59 11).toInt = (F 59 11).toInt := (congrArg Int32.toInt (((g13.1 59 11 rfl rfl).trans (g6.1 59 11 rfl rfl)).trans (g3.1 59 11 rfl rfl))).trans rfl
          have e111 : (x2_8 - ((x2_8 / (T9 59 11)) * (T9 59 11))).toInt = ((x2_8).toInt % (F 59 11).toInt) := (t_rem b105 (B_eq (((g13.1 59 11 rfl rfl).trans (g6.1 59 11 rfl rfl)).trans (g3.1 59 11 rfl rfl)) b100) (by decide +kernel) (by decide +kernel)).trans (by rw [e110])
          have q112 : (0) ≤ (x2_8 - ((x2_8 / (T9 59 11)) * (T9 59 11))).toInt ∧ (x2_8 - ((x2_8 / (T9 59 11)) * (T9 59 11))).toInt ≤ (0) := (show B 0 0 (x2_8 - ((x2_8 / (T9 59 11)) * (T9 59 11))) from B_w b108 (by decide +kernel) (by decide +kernel))
          have i113 : (x2_8 - ((x2_8 / (T9 59 11)) * (T9 59 11))).toInt = (0 : Int32).toInt := congrArg Int32.toInt hc
          have n114 : (0 : Int32).toInt = 0 := cqn_0
          have g120 := agc_tr (agc_refl (fs := [6001, 6002, 6003, 6004, 6005, 6006, 6007]) (rs := [70, 104, 999]) (F := F)) g3 (by decide +kernel) (by decide +kernel)
          have g119 := agc_tr g120 g6 (by decide +kernel) (by decide +kernel)
          have g118 := agc_tr g119 g13 (by decide +kernel) (by decide +kernel)
          refine h_Un_readAgain_u59 hI12 (fun {FS59_115} {LFS59_115} hI116 g117 => ?_) (fun hI g => hT13 hI (agc_tr g118 g (by decide +kernel) (by decide +kernel)))
          have g121 := agc_tr (agc_refl (fs := [6001, 6004]) (rs := [104, 999]) (F := T9)) g117 (by decide +kernel) (by decide +kernel)
          have e122 : (FS59_115 73 4).toInt = (F 73 4).toInt := (congrArg Int32.toInt ((((g117.1 73 4 rfl rfl).trans (g13.1 73 4 rfl rfl)).trans (g6.1 73 4 rfl rfl)).trans (g3.1 73 4 rfl rfl))).trans rfl
          have e123 : (x1_7 + 1).toInt = ((x1_7).toInt + 1) := (t_add b10 cqb_1_1_1 (by decide +kernel) (by decide +kernel)).trans (by rw [cqn_1])
          have q124 : (1) ≤ (x1_7 + 1).toInt ∧ (x1_7 + 1).toInt ≤ (194) := (show B 1 194 (x1_7 + 1) from B_w (B_add b10 cqb_1_1_1 (by decide +kernel) (by decide +kernel)) (by decide +kernel) (by decide +kernel))
          exact hj35 (B_w (B_add b10 cqb_1_1_1 (by decide +kernel) (by decide +kernel)) (by decide +kernel) (by decide +kernel)) hI116 g121 (ZQ_ag (F := T9) (G := FS59_115) r16 hI12 g121 (by decide +kernel) rfl rfl) (UPs_tr (F := T9) (G := FS59_115) r17 (Eq.trans ((((g117.1 73 5 rfl rfl).trans (g13.1 73 5 rfl rfl)).trans (g6.1 73 5 rfl rfl)).trans (g3.1 73 5 rfl rfl)) (Eq.symm (((g13.1 73 5 rfl rfl).trans (g6.1 73 5 rfl rfl)).trans (g3.1 73 5 rfl rfl)))) (Eq.trans ((((g117.1 73 4 rfl rfl).trans (g13.1 73 4 rfl rfl)).trans (g6.1 73 4 rfl rfl)).trans (g3.1 73 4 rfl rfl)) (Eq.symm (((g13.1 73 4 rfl rfl).trans (g6.1 73 4 rfl rfl)).trans (g3.1 73 4 rfl rfl)))) (Eq.trans ((((g117.1 73 6 rfl rfl).trans (g13.1 73 6 rfl rfl)).trans (g6.1 73 6 rfl rfl)).trans (g3.1 73 6 rfl rfl)) (Eq.symm (((g13.1 73 6 rfl rfl).trans (g6.1 73 6 rfl rfl)).trans (g3.1 73 6 rfl rfl))))) (by show x2_8.toInt < (FS59_115 73 4).toInt; first | with_reducible assumption | omega) (by show (x1_7 + 1).toInt ≤ (x2_8.toInt + 1); first | with_reducible assumption | omega)
set_option maxRecDepth 20000 in
set_option maxHeartbeats 4000000 in
theorem h_Un_readBlock_u59_a1 {b : Bool} {P : Nat → Nat → Nat} {x1 : Int32} {F : cF} {L : cL} {K : cs → Prop} {T : Nat → cs → Prop} (b_x1 : B 0 191 x1) (hI : IMc F) (pre0 : cz (x1 / 64) F) (hK : ∀ {Z : cF} {LZ : cL}, IMc Z → agc [6001, 6002, 6003, 6004, 6005] [104, 112, 999] F Z → K (Z, LZ, PC true b P)) (hT13 : ∀ {Z : cF} {LZ : cL}, IMc Z → agc [6001, 6002, 6003, 6004, 6005, 6006, 6007] [104, 112, 999] F Z → T 13 (Z, LZ, PC true b P)) : p_Un_readBlock UL 59 x1 (F, L, PC true b P) K T := by
  unfold p_Un_readBlock
  refine ⟨(show ¬ ((60 : Nat) = NU) from by decide +kernel), ?_⟩
  refine ⟨(show ¬ ((80 : Nat) = NU) from by decide +kernel), ?_⟩
  refine ⟨(show ¬ ((73 : Nat) = NU) from by decide +kernel), ?_⟩
  refine ⟨(show c_cl UL 73 = 10 from cl_73), ?_⟩
  refine ⟨(show ¬ ((75 : Nat) = NU) from by decide +kernel), ?_⟩
  refine ⟨(show c_cl UL 75 = 902 from cl_75), ?_⟩
  refine ⟨(show vp_in (x1 / 64) 3 from vp_B (show B 0 2 (x1 / 64) from B_div2 b_x1 cqb_64_64_64 (by decide +kernel) (by decide +kernel) (by decide +kernel) (by decide +kernel)) (by decide +kernel) (by decide +kernel)), ?_⟩
  refine ⟨(show c_cl UL 80 = 951 from cl_80), ?_⟩
  refine ⟨(show vp_in (F 75 (x1 / 64).toNatClampNeg) 4 from vp_B (show B 0 3 (F 75 (x1 / 64).toNatClampNeg) from hI 75 (x1 / 64).toNatClampNeg) (by decide +kernel) (by decide +kernel)), ?_⟩
  refine ⟨(show ¬ ((PC true b P) 80 (F 75 (x1 / 64).toNatClampNeg).toNatClampNeg = NU) from nu_80 (B_w (show B 0 3 (F 75 (x1 / 64).toNatClampNeg) from hI 75 (x1 / 64).toNatClampNeg) (by decide +kernel) (by decide +kernel))), ?_⟩
  refine ⟨(show c_cl UL 60 = 8 from cl_60), ?_⟩
  refine h_Re_readSymbol_u60_x1i80 (B_w (show B 0 3 (F 75 (x1 / 64).toNatClampNeg) from hI 75 (x1 / 64).toNatClampNeg) (by decide +kernel) (by decide +kernel)) hI (show CQi (F 75 (x1 / 64).toNatClampNeg) F from (show cz (x1 / 64) F from pre0).1) (fun {v28_1} {FS28_2} {LFS28_2} b3 hI4 g5 => ?_) (fun hI g => hT13 hI (agc_tr (agc_refl (fs := [6001, 6002, 6003, 6004, 6005, 6006, 6007]) (rs := [104, 112, 999]) (F := F)) g (by decide +kernel) (by decide +kernel)))
  refine ⟨(show ¬ ((104 : Nat) = NU) from by decide +kernel), ?_⟩
  refine ⟨(show c_cl UL 104 = 902 from cl_104), ?_⟩
  refine ⟨(show vp_in (x1 / 64) 3 from vp_B (show B 0 2 (x1 / 64) from B_div2 b_x1 cqb_64_64_64 (by decide +kernel) (by decide +kernel) (by decide +kernel) (by decide +kernel)) (by decide +kernel) (by decide +kernel)), ?_⟩
  refine ⟨(show ¬ ((60 : Nat) = NU) from by decide +kernel), ?_⟩
  refine ⟨(show c_cl UL 60 = 8 from cl_60), ?_⟩
  have g11 := agc_tr (agc_refl (fs := [6001, 6002, 6003, 6004, 6005, 6006, 6007]) (rs := [104, 112, 999]) (F := F)) g5 (by decide +kernel) (by decide +kernel)
  refine h_Re_readNumber_u60 b3 hI4 (fun {v46_6} {FS46_7} {LFS46_7} b8 hI9 g10 => ?_) (fun hI g => hT13 hI (agc_tr g11 g (by decide +kernel) (by decide +kernel)))
  refine ⟨(show vp_in (x1 / 64) 3 from vp_B (show B 0 2 (x1 / 64) from B_div2 b_x1 cqb_64_64_64 (by decide +kernel) (by decide +kernel) (by decide +kernel) (by decide +kernel)) (by decide +kernel) (by decide +kernel)), ?_⟩
  refine ⟨(show ¬ ((104 : Nat) = NU) from by decide +kernel), ?_⟩
  refine ⟨(show c_cl UL 104 = 902 from cl_104), ?_⟩
  refine ⟨(show vp_in (x1 / 64) 3 from vp_B (show B 0 2 (x1 / 64) from B_div2 b_x1 cqb_64_64_64 (by decide +kernel) (by decide +kernel) (by decide +kernel) (by decide +kernel)) (by decide +kernel) (by decide +kernel)), ?_⟩
  refine h_B_isWithin  (fun {v63_12} b13 r14 r15 => ?_)
  rcases sp_01 b13 with rfl | rfl
  · have r16 : ((0 : Int) = 0) ∨ (((-2047) ≤ ((va_up FS46_7 104 (upd (FS46_7 104) (x1 / 64).toNatClampNeg ((FS28_2 104 (x1 / 64).toNatClampNeg) + v46_6))) 104 (x1 / 64).toNatClampNeg).toInt) ∧ (((va_up FS46_7 104 (upd (FS46_7 104) (x1 / 64).toNatClampNeg ((FS28_2 104 (x1 / 64).toNatClampNeg) + v46_6))) 104 (x1 / 64).toNatClampNeg).toInt ≤ 2047)) := r14
    clear r14
    have e17 : ((va_up FS46_7 104 (upd (FS46_7 104) (x1 / 64).toNatClampNeg ((FS28_2 104 (x1 / 64).toNatClampNeg) + v46_6))) 104 (x1 / 64).toNatClampNeg).toInt = ((FS28_2 104 (x1 / 64).toNatClampNeg) + v46_6).toInt := (congrArg Int32.toInt (ru_at (f := FS46_7) (g := FS46_7 104) (r := 104) (i := (x1 / 64).toNatClampNeg) (v := (FS28_2 104 (x1 / 64).toNatClampNeg) + v46_6))).trans rfl
    have r18 : ((0 : Int) = 1) ∨ ((((va_up FS46_7 104 (upd (FS46_7 104) (x1 / 64).toNatClampNeg ((FS28_2 104 (x1 / 64).toNatClampNeg) + v46_6))) 104 (x1 / 64).toNatClampNeg).toInt < (-2047)) ∨ (2047 < ((va_up FS46_7 104 (upd (FS46_7 104) (x1 / 64).toNatClampNeg ((FS28_2 104 (x1 / 64).toNatClampNeg) + v46_6))) 104 (x1 / 64).toNatClampNeg).toInt)) := r15
    clear r15
    refine ⟨fun hc => ?_, fun hc => ?_⟩
    · exact (hc (B_z cqb_0_0_0)).elim
    · have i19 : (0 : Int32).toInt = (0 : Int32).toInt := congrArg Int32.toInt hc
      have n20 : (0 : Int32).toInt = 0 := cqn_0
      have n21 : (0 : Int32).toInt = 0 := cqn_0
      refine ⟨(show ¬ ((60 : Nat) = NU) from by decide +kernel), ?_⟩
      refine ⟨(show ¬ ((60 : Nat) = NU) from by decide +kernel), ?_⟩
      refine ⟨(show c_cl UL 60 = 8 from cl_60), ?_⟩
      have hI22 := IMc_u (u := 104) (i := (x1 / 64).toNatClampNeg) (v := (FS28_2 104 (x1 / 64).toNatClampNeg) + v46_6) hI9 (show B (-2147483648) 2147483647 ((FS28_2 104 (x1 / 64).toNatClampNeg) + v46_6) from (B_w (B_any _) (by decide +kernel) (by decide +kernel)))
      have g28 := agc_tr (agc_refl (fs := [6001, 6002, 6003, 6004, 6005, 6006, 6007]) (rs := [104, 112, 999]) (F := F)) g5 (by decide +kernel) (by decide +kernel)
      have g27 := agc_tr g28 g10 (by decide +kernel) (by decide +kernel)
      have g26 := agc_r (u := 104) (w := upd (FS46_7 104) (x1 / 64).toNatClampNeg ((FS28_2 104 (x1 / 64).toNatClampNeg) + v46_6)) g27 rfl (by decide +kernel)
      exact h_Re_fail_u60 (B_w cqb_7_7_7 (by decide +kernel) (by decide +kernel)) hI22 (fun hI g => hT13 hI (agc_tr g26 g (by decide +kernel) (by decide +kernel)))
  · have r29 : ((1 : Int) = 0) ∨ (((-2047) ≤ ((va_up FS46_7 104 (upd (FS46_7 104) (x1 / 64).toNatClampNeg ((FS28_2 104 (x1 / 64).toNatClampNeg) + v46_6))) 104 (x1 / 64).toNatClampNeg).toInt) ∧ (((va_up FS46_7 104 (upd (FS46_7 104) (x1 / 64).toNatClampNeg ((FS28_2 104 (x1 / 64).toNatClampNeg) + v46_6))) 104 (x1 / 64).toNatClampNeg).toInt ≤ 2047)) := r14
    clear r14
    have e30 : ((va_up FS46_7 104 (upd (FS46_7 104) (x1 / 64).toNatClampNeg ((FS28_2 104 (x1 / 64).toNatClampNeg) + v46_6))) 104 (x1 / 64).toNatClampNeg).toInt = ((FS28_2 104 (x1 / 64).toNatClampNeg) + v46_6).toInt := (congrArg Int32.toInt (ru_at (f := FS46_7) (g := FS46_7 104) (r := 104) (i := (x1 / 64).toNatClampNeg) (v := (FS28_2 104 (x1 / 64).toNatClampNeg) + v46_6))).trans rfl
    have r31 : ((1 : Int) = 1) ∨ ((((va_up FS46_7 104 (upd (FS46_7 104) (x1 / 64).toNatClampNeg ((FS28_2 104 (x1 / 64).toNatClampNeg) + v46_6))) 104 (x1 / 64).toNatClampNeg).toInt < (-2047)) ∨ (2047 < ((va_up FS46_7 104 (upd (FS46_7 104) (x1 / 64).toNatClampNeg ((FS28_2 104 (x1 / 64).toNatClampNeg) + v46_6))) 104 (x1 / 64).toNatClampNeg).toInt)) := r15
    clear r15
    have b32 : B (-2047) 2047 ((FS28_2 104 (x1 / 64).toNatClampNeg) + v46_6) := ⟨by omega, by omega⟩
    refine ⟨fun hc => ?_, fun hc => ?_⟩
    · have i33 : (1 : Int32).toInt ≠ (0 : Int32).toInt := i_ne hc
      have n34 : (1 : Int32).toInt = 1 := cqn_1
      have n35 : (0 : Int32).toInt = 0 := cqn_0
      unfold b_Un_readBlock_85
      refine ⟨(show ¬ ((105 : Nat) = NU) from by decide +kernel), ?_⟩
      refine ⟨(show c_cl UL 105 = 7 from cl_105), ?_⟩
      refine ⟨(show ¬ ((112 : Nat) = NU) from by decide +kernel), ?_⟩
      refine ⟨(show ¬ ((104 : Nat) = NU) from by decide +kernel), ?_⟩
      refine ⟨(show c_cl UL 104 = 902 from cl_104), ?_⟩
      refine ⟨(show vp_in (x1 / 64) 3 from vp_B (show B 0 2 (x1 / 64) from B_div2 b_x1 cqb_64_64_64 (by decide +kernel) (by decide +kernel) (by decide +kernel) (by decide +kernel)) (by decide +kernel) (by decide +kernel)), ?_⟩
      refine ⟨(show c_cl UL 112 = 902 from cl_112), ?_⟩
      refine ⟨(show vp_in (64 * x1) 12288 from vp_B (B_mul cqb_64_64_64 b_x1 (by decide +kernel) (by decide +kernel) (by decide +kernel)) (by decide +kernel) (by decide +kernel)), ?_⟩
      refine ⟨(show ¬ ((80 : Nat) = NU) from by decide +kernel), ?_⟩
      refine ⟨(show ¬ ((73 : Nat) = NU) from by decide +kernel), ?_⟩
      refine ⟨(show c_cl UL 73 = 10 from cl_73), ?_⟩
      refine ⟨(show ¬ ((76 : Nat) = NU) from by decide +kernel), ?_⟩
      refine ⟨(show c_cl UL 76 = 902 from cl_76), ?_⟩
      refine ⟨(show vp_in (x1 / 64) 3 from vp_B (show B 0 2 (x1 / 64) from B_div2 b_x1 cqb_64_64_64 (by decide +kernel) (by decide +kernel) (by decide +kernel) (by decide +kernel)) (by decide +kernel) (by decide +kernel)), ?_⟩
      refine ⟨(show c_cl UL 80 = 951 from cl_80), ?_⟩
      refine ⟨(show vp_in (FS46_7 76 (x1 / 64).toNatClampNeg) 4 from vp_B (B_eq ((congrFun (g10.2 76 rfl rfl) (x1 / 64).toNatClampNeg).trans (congrFun (g5.2 76 rfl rfl) (x1 / 64).toNatClampNeg)) (show B 0 3 (F 76 (x1 / 64).toNatClampNeg) from hI 76 (x1 / 64).toNatClampNeg)) (by decide +kernel) (by decide +kernel)), ?_⟩
      refine ⟨(show ¬ ((PC true b P) 80 (FS46_7 76 (x1 / 64).toNatClampNeg).toNatClampNeg = NU) from nu_80 (B_w (B_eq ((congrFun (g10.2 76 rfl rfl) (x1 / 64).toNatClampNeg).trans (congrFun (g5.2 76 rfl rfl) (x1 / 64).toNatClampNeg)) (show B 0 3 (F 76 (x1 / 64).toNatClampNeg) from hI 76 (x1 / 64).toNatClampNeg)) (by decide +kernel) (by decide +kernel))), ?_⟩
      have hI45 := IMc_u (u := 104) (i := (x1 / 64).toNatClampNeg) (v := (FS28_2 104 (x1 / 64).toNatClampNeg) + v46_6) hI9 (show B (-2147483648) 2147483647 ((FS28_2 104 (x1 / 64).toNatClampNeg) + v46_6) from (B_w b32 (by decide +kernel) (by decide +kernel)))
      have hI46 := IMc_u (u := 112) (i := (64 * x1).toNatClampNeg) (v := (va_up FS46_7 104 (upd (FS46_7 104) (x1 / 64).toNatClampNeg ((FS28_2 104 (x1 / 64).toNatClampNeg) + v46_6))) 104 (x1 / 64).toNatClampNeg) hI45 (show B (-2147483648) 2147483647 ((va_up FS46_7 104 (upd (FS46_7 104) (x1 / 64).toNatClampNeg ((FS28_2 104 (x1 / 64).toNatClampNeg) + v46_6))) 104 (x1 / 64).toNatClampNeg) from (B_w (B_eq (ru_at (f := FS46_7) (g := FS46_7 104) (r := 104) (i := (x1 / 64).toNatClampNeg) (v := (FS28_2 104 (x1 / 64).toNatClampNeg) + v46_6)) b32) (by decide +kernel) (by decide +kernel)))
      refine ⟨fun yx3 yx5 yx6 yx7 yS => (64 * x1) = yx3 ∧ ((PC true b P) 80 (FS46_7 76 (x1 / 64).toNatClampNeg).toNatClampNeg) = yx5 ∧ B (-1) 255 yx6 ∧ B 1 64 yx7 ∧ ∃ (T40 : cF) (LT40 : cL), yS = (T40, LT40, PC true b P) ∧ IMc T40 ∧ agc [6001, 6002, 6003, 6004, 6005] [112, 999] (va_up (va_up FS46_7 104 (upd (FS46_7 104) (x1 / 64).toNatClampNeg ((FS28_2 104 (x1 / 64).toNatClampNeg) + v46_6))) 112 (upd (FS46_7 112) (64 * x1).toNatClampNeg ((va_up FS46_7 104 (upd (FS46_7 104) (x1 / 64).toNatClampNeg ((FS28_2 104 (x1 / 64).toNatClampNeg) + v46_6))) 104 (x1 / 64).toNatClampNeg))) T40, fun yx3 yx5 yx6 yx7 yS => (64 - yx7.toInt).toNat, ⟨rfl, rfl, (B_w cqb_m1_m1_m1 (by decide +kernel) (by decide +kernel)), (B_w cqb_1_1_1 (by decide +kernel) (by decide +kernel)), _, _, rfl, hI46, (agc_refl (fs := [6001, 6002, 6003, 6004, 6005]) (rs := [112, 999]) (F := va_up (va_up FS46_7 104 (upd (FS46_7 104) (x1 / 64).toNatClampNeg ((FS28_2 104 (x1 / 64).toNatClampNeg) + v46_6))) 112 (upd (FS46_7 112) (64 * x1).toNatClampNeg ((va_up FS46_7 104 (upd (FS46_7 104) (x1 / 64).toNatClampNeg ((FS28_2 104 (x1 / 64).toNatClampNeg) + v46_6))) 104 (x1 / 64).toNatClampNeg))))⟩, fun x3_36 x5_37 x6_38 x7_39 ST40 hIv => ?_⟩
      obtain ⟨rfl, rfl, b41, b42, T40, LT40, rfl, hI43, g44⟩ := hIv
      suffices hs : ∀ (R122 : Int32 → Nat → Int32 → Int32 → cs → Prop), (∀ zx3 zx5 zx6 zx7 zS, ((64 * x1) = zx3 ∧ ((PC true b P) 80 (FS46_7 76 (x1 / 64).toNatClampNeg).toNatClampNeg) = zx5 ∧ B (-1) 255 zx6 ∧ B 1 64 zx7 ∧ ∃ (T40 : cF) (LT40 : cL), zS = (T40, LT40, PC true b P) ∧ IMc T40 ∧ agc [6001, 6002, 6003, 6004, 6005] [112, 999] (va_up (va_up FS46_7 104 (upd (FS46_7 104) (x1 / 64).toNatClampNeg ((FS28_2 104 (x1 / 64).toNatClampNeg) + v46_6))) 112 (upd (FS46_7 112) (64 * x1).toNatClampNeg ((va_up FS46_7 104 (upd (FS46_7 104) (x1 / 64).toNatClampNeg ((FS28_2 104 (x1 / 64).toNatClampNeg) + v46_6))) 104 (x1 / 64).toNatClampNeg))) T40) → (64 - zx7.toInt).toNat < (64 - x7_39.toInt).toNat → R122 zx3 zx5 zx6 zx7 zS) → b_Un_readBlock_122 UL 59 (64 * x1) ((PC true b P) 80 (FS46_7 76 (x1 / 64).toNatClampNeg).toNatClampNeg) x6_38 x7_39 (T40, LT40, PC true b P) R122 K T from hs _ (fun _ _ _ _ _ h1 h2 => ⟨h1, h2⟩)
      intro R122 hR1220
      have hR122 := fun {zx3} {zx5} {zx6} {zx7} {zS} => hR1220 zx3 zx5 zx6 zx7 zS
      unfold b_Un_readBlock_122
      refine ⟨fun hc => ?_, fun hc => ?_⟩
      · have hq47 := hc
        have b48 : B 64 64 (x7_39) := B_w (B_leR cqb_64_64_64 b42 hq47) (by decide +kernel) (by decide +kernel)
        unfold b_Un_readBlock_219
        have g53 := agc_tr (agc_refl (fs := [6001, 6002, 6003, 6004, 6005]) (rs := [104, 112, 999]) (F := F)) g5 (by decide +kernel) (by decide +kernel)
        have g52 := agc_tr g53 g10 (by decide +kernel) (by decide +kernel)
        have g51 := agc_r (u := 104) (w := upd (FS46_7 104) (x1 / 64).toNatClampNeg ((FS28_2 104 (x1 / 64).toNatClampNeg) + v46_6)) g52 rfl (by decide +kernel)
        have g50 := agc_r (u := 112) (w := upd (FS46_7 112) (64 * x1).toNatClampNeg ((va_up FS46_7 104 (upd (FS46_7 104) (x1 / 64).toNatClampNeg ((FS28_2 104 (x1 / 64).toNatClampNeg) + v46_6))) 104 (x1 / 64).toNatClampNeg)) g51 rfl (by decide +kernel)
        have g49 := agc_tr g50 g44 (by decide +kernel) (by decide +kernel)
        exact hK hI43 g49
      · have hq54 := (nle_lt hc)
        have b55 : B 1 63 (x7_39) := B_w (B_ltL b42 cqb_64_64_64 hq54) (by decide +kernel) (by decide +kernel)
        refine ⟨fun hc => ?_, fun hc => ?_⟩
        · have b56 : B 0 0 (x6_38) := B_w (B_eq hc cqb_0_0_0) (by decide +kernel) (by decide +kernel)
          have q57 : (0) ≤ (x6_38).toInt ∧ (x6_38).toInt ≤ (0) := (show B 0 0 (x6_38) from B_w b56 (by decide +kernel) (by decide +kernel))
          have i58 : (x6_38).toInt = (0 : Int32).toInt := congrArg Int32.toInt hc
          have n59 : (0 : Int32).toInt = 0 := cqn_0
          unfold b_Un_readBlock_219
          have g64 := agc_tr (agc_refl (fs := [6001, 6002, 6003, 6004, 6005]) (rs := [104, 112, 999]) (F := F)) g5 (by decide +kernel) (by decide +kernel)
          have g63 := agc_tr g64 g10 (by decide +kernel) (by decide +kernel)
          have g62 := agc_r (u := 104) (w := upd (FS46_7 104) (x1 / 64).toNatClampNeg ((FS28_2 104 (x1 / 64).toNatClampNeg) + v46_6)) g63 rfl (by decide +kernel)
          have g61 := agc_r (u := 112) (w := upd (FS46_7 112) (64 * x1).toNatClampNeg ((va_up FS46_7 104 (upd (FS46_7 104) (x1 / 64).toNatClampNeg ((FS28_2 104 (x1 / 64).toNatClampNeg) + v46_6))) 104 (x1 / 64).toNatClampNeg)) g62 rfl (by decide +kernel)
          have g60 := agc_tr g61 g44 (by decide +kernel) (by decide +kernel)
          exact hK hI43 g60
        · have q65 : (-1) ≤ (x6_38).toInt ∧ (x6_38).toInt ≤ (255) := (show B (-1) 255 (x6_38) from B_w b41 (by decide +kernel) (by decide +kernel))
          have i66 : (x6_38).toInt ≠ (0 : Int32).toInt := i_ne hc
          have n67 : (0 : Int32).toInt = 0 := cqn_0
          refine ⟨(show ¬ ((60 : Nat) = NU) from by decide +kernel), ?_⟩
          refine ⟨(show c_cl UL 60 = 8 from cl_60), ?_⟩
          have g69 := agc_tr (agc_refl (fs := [6001, 6002, 6003, 6004, 6005]) (rs := [999]) (F := F)) g5 (by decide +kernel) (by decide +kernel)
          have g68 := agc_tr g69 g10 (by decide +kernel) (by decide +kernel)
          have g72 := agc_r (u := 104) (w := upd (FS46_7 104) (x1 / 64).toNatClampNeg ((FS28_2 104 (x1 / 64).toNatClampNeg) + v46_6)) (agc_refl (fs := [6001, 6002, 6003, 6004, 6005]) (rs := [104, 112, 999]) (F := FS46_7)) rfl (by decide +kernel)
          have g71 := agc_r (u := 112) (w := upd (FS46_7 112) (64 * x1).toNatClampNeg ((va_up FS46_7 104 (upd (FS46_7 104) (x1 / 64).toNatClampNeg ((FS28_2 104 (x1 / 64).toNatClampNeg) + v46_6))) 104 (x1 / 64).toNatClampNeg)) g72 rfl (by decide +kernel)
          have g70 := agc_tr g71 g44 (by decide +kernel) (by decide +kernel)
          have g82 := agc_tr (agc_refl (fs := [6001, 6002, 6003, 6004, 6005, 6006, 6007]) (rs := [104, 112, 999]) (F := F)) g5 (by decide +kernel) (by decide +kernel)
          have g81 := agc_tr g82 g10 (by decide +kernel) (by decide +kernel)
          have g80 := agc_r (u := 104) (w := upd (FS46_7 104) (x1 / 64).toNatClampNeg ((FS28_2 104 (x1 / 64).toNatClampNeg) + v46_6)) g81 rfl (by decide +kernel)
          have g79 := agc_r (u := 112) (w := upd (FS46_7 112) (64 * x1).toNatClampNeg ((va_up FS46_7 104 (upd (FS46_7 104) (x1 / 64).toNatClampNeg ((FS28_2 104 (x1 / 64).toNatClampNeg) + v46_6))) 104 (x1 / 64).toNatClampNeg)) g80 rfl (by decide +kernel)
          have g78 := agc_tr g79 g44 (by decide +kernel) (by decide +kernel)
          refine h_Re_readSymbol_u60_x1i80 (B_w (B_eq ((congrFun (g10.2 76 rfl rfl) (x1 / 64).toNatClampNeg).trans (congrFun (g5.2 76 rfl rfl) (x1 / 64).toNatClampNeg)) (show B 0 3 (F 76 (x1 / 64).toNatClampNeg) from hI 76 (x1 / 64).toNatClampNeg)) (by decide +kernel) (by decide +kernel)) hI43 (CQi_ag (F := FS46_7) (G := T40) (show CQi (FS46_7 76 (x1 / 64).toNatClampNeg) FS46_7 from (show cz (x1 / 64) FS46_7 from (cz_ag (F := F) (G := FS46_7) pre0 hI g68 (by decide +kernel))).2) (B_w (B_eq ((congrFun (g10.2 76 rfl rfl) (x1 / 64).toNatClampNeg).trans (congrFun (g5.2 76 rfl rfl) (x1 / 64).toNatClampNeg)) (show B 0 3 (F 76 (x1 / 64).toNatClampNeg) from hI 76 (x1 / 64).toNatClampNeg)) (by decide +kernel) (by decide +kernel)) g70 (by decide +kernel)) (fun {v140_73} {FS140_74} {LFS140_74} b75 hI76 g77 => ?_) (fun hI g => hT13 hI (agc_tr g78 g (by decide +kernel) (by decide +kernel)))
          refine ⟨fun hc => ?_, fun hc => ?_⟩
          · have hq83 := hc
            have b84 : B 1 63 (x7_39 + (v140_73 / 16)) := B_w (B_ltL (B_add b55 (show B 0 15 (v140_73 / 16) from B_div2 b75 cqb_16_16_16 (by decide +kernel) (by decide +kernel) (by decide +kernel) (by decide +kernel)) (by decide +kernel) (by decide +kernel)) cqb_64_64_64 hq83) (by decide +kernel) (by decide +kernel)
            have q85 : (1) ≤ (x7_39).toInt ∧ (x7_39).toInt ≤ (63) := (show B 1 63 (x7_39) from B_w b55 (by decide +kernel) (by decide +kernel))
            have q86 : (0) ≤ (v140_73).toInt ∧ (v140_73).toInt ≤ (255) := (show B 0 255 (v140_73) from B_w b75 (by decide +kernel) (by decide +kernel))
            have e87 : (v140_73 / 16).toInt = ((v140_73).toInt / 16) := (t_div b75 cqb_16_16_16 (by decide +kernel) (by decide +kernel)).trans (by rw [cqn_16])
            have q88 : (0) ≤ (v140_73 / 16).toInt ∧ (v140_73 / 16).toInt ≤ (15) := (show B 0 15 (v140_73 / 16) from B_div2 b75 cqb_16_16_16 (by decide +kernel) (by decide +kernel) (by decide +kernel) (by decide +kernel))
            have e89 : (x7_39 + (v140_73 / 16)).toInt = ((x7_39).toInt + ((v140_73).toInt / 16)) := (t_add b55 (show B 0 15 (v140_73 / 16) from B_div2 b75 cqb_16_16_16 (by decide +kernel) (by decide +kernel) (by decide +kernel) (by decide +kernel)) (by decide +kernel) (by decide +kernel)).trans (by rw [e87])
            have q90 : (1) ≤ (x7_39 + (v140_73 / 16)).toInt ∧ (x7_39 + (v140_73 / 16)).toInt ≤ (63) := (show B 1 63 (x7_39 + (v140_73 / 16)) from B_w b84 (by decide +kernel) (by decide +kernel))
            have i91 : (x7_39 + (v140_73 / 16)).toInt < (64 : Int32).toInt := i_lt hq83
            have n92 : (64 : Int32).toInt = 64 := cqn_64
            refine ⟨fun hc => ?_, fun hc => ?_⟩
            · have hq93 := hc
              have b94 : B 0 0 (v140_73 - ((v140_73 / 16) * 16)) := B_w (B_leL (B_rem b75 cqb_16_16_16 (by decide +kernel) (by decide +kernel)) cqb_0_0_0 hq93) (by decide +kernel) (by decide +kernel)
              have e95 : (v140_73 - ((v140_73 / 16) * 16)).toInt = ((v140_73).toInt % 16) := (t_rem b75 cqb_16_16_16 (by decide +kernel) (by decide +kernel)).trans (by rw [cqn_16])
              have q96 : (0) ≤ (v140_73 - ((v140_73 / 16) * 16)).toInt ∧ (v140_73 - ((v140_73 / 16) * 16)).toInt ≤ (0) := (show B 0 0 (v140_73 - ((v140_73 / 16) * 16)) from B_w b94 (by decide +kernel) (by decide +kernel))
              have i97 : (v140_73 - ((v140_73 / 16) * 16)).toInt ≤ (0 : Int32).toInt := i_le hq93
              have n98 : (0 : Int32).toInt = 0 := cqn_0
              unfold b_Un_readBlock_213
              have g100 := agc_tr (agc_refl (fs := [6001, 6002, 6003, 6004, 6005]) (rs := [112, 999]) (F := va_up (va_up FS46_7 104 (upd (FS46_7 104) (x1 / 64).toNatClampNeg ((FS28_2 104 (x1 / 64).toNatClampNeg) + v46_6))) 112 (upd (FS46_7 112) (64 * x1).toNatClampNeg ((va_up FS46_7 104 (upd (FS46_7 104) (x1 / 64).toNatClampNeg ((FS28_2 104 (x1 / 64).toNatClampNeg) + v46_6))) 104 (x1 / 64).toNatClampNeg)))) g44 (by decide +kernel) (by decide +kernel)
              have g99 := agc_tr g100 g77 (by decide +kernel) (by decide +kernel)
              have e101 : ((x7_39 + (v140_73 / 16)) + 1).toInt = (((x7_39).toInt + ((v140_73).toInt / 16)) + 1) := (t_add b84 cqb_1_1_1 (by decide +kernel) (by decide +kernel)).trans (by rw [e89, cqn_1])
              have q102 : (2) ≤ ((x7_39 + (v140_73 / 16)) + 1).toInt ∧ ((x7_39 + (v140_73 / 16)) + 1).toInt ≤ (64) := (show B 2 64 ((x7_39 + (v140_73 / 16)) + 1) from B_w (B_add b84 cqb_1_1_1 (by decide +kernel) (by decide +kernel)) (by decide +kernel) (by decide +kernel))
              exact hR122 ⟨rfl, rfl, (B_w b75 (by decide +kernel) (by decide +kernel)), (B_w (B_add b84 cqb_1_1_1 (by decide +kernel) (by decide +kernel)) (by decide +kernel) (by decide +kernel)), _, _, rfl, hI76, g99⟩ (by show (64 - ((x7_39 + (v140_73 / 16)) + 1).toInt).toNat < (64 - x7_39.toInt).toNat; omega)
            · have hq103 := (nle_lt hc)
              have b104 : B 1 15 (v140_73 - ((v140_73 / 16) * 16)) := B_w (B_ltR cqb_0_0_0 (B_rem b75 cqb_16_16_16 (by decide +kernel) (by decide +kernel)) hq103) (by decide +kernel) (by decide +kernel)
              have e105 : (v140_73 - ((v140_73 / 16) * 16)).toInt = ((v140_73).toInt % 16) := (t_rem b75 cqb_16_16_16 (by decide +kernel) (by decide +kernel)).trans (by rw [cqn_16])
              have q106 : (1) ≤ (v140_73 - ((v140_73 / 16) * 16)).toInt ∧ (v140_73 - ((v140_73 / 16) * 16)).toInt ≤ (15) := (show B 1 15 (v140_73 - ((v140_73 / 16) * 16)) from B_w b104 (by decide +kernel) (by decide +kernel))
              have i107 : (0 : Int32).toInt < (v140_73 - ((v140_73 / 16) * 16)).toInt := i_lt hq103
              have n108 : (0 : Int32).toInt = 0 := cqn_0
              refine ⟨(show ¬ ((105 : Nat) = NU) from by decide +kernel), ?_⟩
              refine ⟨(show c_cl UL 105 = 7 from cl_105), ?_⟩
              refine ⟨(show ¬ ((112 : Nat) = NU) from by decide +kernel), ?_⟩
              refine ⟨(show ¬ ((60 : Nat) = NU) from by decide +kernel), ?_⟩
              refine ⟨(show c_cl UL 60 = 8 from cl_60), ?_⟩
              have g119 := agc_tr (agc_refl (fs := [6001, 6002, 6003, 6004, 6005, 6006, 6007]) (rs := [104, 112, 999]) (F := F)) g5 (by decide +kernel) (by decide +kernel)
              have g118 := agc_tr g119 g10 (by decide +kernel) (by decide +kernel)
              have g117 := agc_r (u := 104) (w := upd (FS46_7 104) (x1 / 64).toNatClampNeg ((FS28_2 104 (x1 / 64).toNatClampNeg) + v46_6)) g118 rfl (by decide +kernel)
              have g116 := agc_r (u := 112) (w := upd (FS46_7 112) (64 * x1).toNatClampNeg ((va_up FS46_7 104 (upd (FS46_7 104) (x1 / 64).toNatClampNeg ((FS28_2 104 (x1 / 64).toNatClampNeg) + v46_6))) 104 (x1 / 64).toNatClampNeg)) g117 rfl (by decide +kernel)
              have g115 := agc_tr g116 g44 (by decide +kernel) (by decide +kernel)
              have g114 := agc_tr g115 g77 (by decide +kernel) (by decide +kernel)
              refine h_Re_readNumber_u60 (B_w b104 (by decide +kernel) (by decide +kernel)) hI76 (fun {v209_109} {FS209_110} {LFS209_110} b111 hI112 g113 => ?_) (fun hI g => hT13 hI (agc_tr g114 g (by decide +kernel) (by decide +kernel)))
              refine ⟨(show c_cl UL 112 = 902 from cl_112), ?_⟩
              refine ⟨(show vp_in ((64 * x1) + (x7_39 + (v140_73 / 16))) 12288 from vp_B (B_add (B_mul cqb_64_64_64 b_x1 (by decide +kernel) (by decide +kernel) (by decide +kernel)) b84 (by decide +kernel) (by decide +kernel)) (by decide +kernel) (by decide +kernel)), ?_⟩
              unfold b_Un_readBlock_213
              have hI120 := IMc_u (u := 112) (i := ((64 * x1) + (x7_39 + (v140_73 / 16))).toNatClampNeg) (v := v209_109) hI112 (show B (-2147483648) 2147483647 (v209_109) from (B_w b111 (by decide +kernel) (by decide +kernel)))
              have g124 := agc_tr (agc_refl (fs := [6001, 6002, 6003, 6004, 6005]) (rs := [112, 999]) (F := va_up (va_up FS46_7 104 (upd (FS46_7 104) (x1 / 64).toNatClampNeg ((FS28_2 104 (x1 / 64).toNatClampNeg) + v46_6))) 112 (upd (FS46_7 112) (64 * x1).toNatClampNeg ((va_up FS46_7 104 (upd (FS46_7 104) (x1 / 64).toNatClampNeg ((FS28_2 104 (x1 / 64).toNatClampNeg) + v46_6))) 104 (x1 / 64).toNatClampNeg)))) g44 (by decide +kernel) (by decide +kernel)
              have g123 := agc_tr g124 g77 (by decide +kernel) (by decide +kernel)
              have g122 := agc_tr g123 g113 (by decide +kernel) (by decide +kernel)
              have g121 := agc_r (u := 112) (w := upd (FS209_110 112) ((64 * x1) + (x7_39 + (v140_73 / 16))).toNatClampNeg v209_109) g122 rfl (by decide +kernel)
              have e125 : ((x7_39 + (v140_73 / 16)) + 1).toInt = (((x7_39).toInt + ((v140_73).toInt / 16)) + 1) := (t_add b84 cqb_1_1_1 (by decide +kernel) (by decide +kernel)).trans (by rw [e89, cqn_1])
              have q126 : (2) ≤ ((x7_39 + (v140_73 / 16)) + 1).toInt ∧ ((x7_39 + (v140_73 / 16)) + 1).toInt ≤ (64) := (show B 2 64 ((x7_39 + (v140_73 / 16)) + 1) from B_w (B_add b84 cqb_1_1_1 (by decide +kernel) (by decide +kernel)) (by decide +kernel) (by decide +kernel))
              exact hR122 ⟨rfl, rfl, (B_w b75 (by decide +kernel) (by decide +kernel)), (B_w (B_add b84 cqb_1_1_1 (by decide +kernel) (by decide +kernel)) (by decide +kernel) (by decide +kernel)), _, _, rfl, hI120, g121⟩ (by show (64 - ((x7_39 + (v140_73 / 16)) + 1).toInt).toNat < (64 - x7_39.toInt).toNat; omega)
          · have hq127 := (nlt_le hc)
            have b128 : B 64 78 (x7_39 + (v140_73 / 16)) := B_w (B_leR cqb_64_64_64 (B_add b55 (show B 0 15 (v140_73 / 16) from B_div2 b75 cqb_16_16_16 (by decide +kernel) (by decide +kernel) (by decide +kernel) (by decide +kernel)) (by decide +kernel) (by decide +kernel)) hq127) (by decide +kernel) (by decide +kernel)
            have q129 : (1) ≤ (x7_39).toInt ∧ (x7_39).toInt ≤ (63) := (show B 1 63 (x7_39) from B_w b55 (by decide +kernel) (by decide +kernel))
            have q130 : (0) ≤ (v140_73).toInt ∧ (v140_73).toInt ≤ (255) := (show B 0 255 (v140_73) from B_w b75 (by decide +kernel) (by decide +kernel))
            have e131 : (v140_73 / 16).toInt = ((v140_73).toInt / 16) := (t_div b75 cqb_16_16_16 (by decide +kernel) (by decide +kernel)).trans (by rw [cqn_16])
            have q132 : (0) ≤ (v140_73 / 16).toInt ∧ (v140_73 / 16).toInt ≤ (15) := (show B 0 15 (v140_73 / 16) from B_div2 b75 cqb_16_16_16 (by decide +kernel) (by decide +kernel) (by decide +kernel) (by decide +kernel))
            have e133 : (x7_39 + (v140_73 / 16)).toInt = ((x7_39).toInt + ((v140_73).toInt / 16)) := (t_add b55 (show B 0 15 (v140_73 / 16) from B_div2 b75 cqb_16_16_16 (by decide +kernel) (by decide +kernel) (by decide +kernel) (by decide +kernel)) (by decide +kernel) (by decide +kernel)).trans (by rw [e131])
            have q134 : (64) ≤ (x7_39 + (v140_73 / 16)).toInt ∧ (x7_39 + (v140_73 / 16)).toInt ≤ (78) := (show B 64 78 (x7_39 + (v140_73 / 16)) from B_w b128 (by decide +kernel) (by decide +kernel))
            have i135 : (64 : Int32).toInt ≤ (x7_39 + (v140_73 / 16)).toInt := i_le hq127
            have n136 : (64 : Int32).toInt = 64 := cqn_64
            refine ⟨(show ¬ ((60 : Nat) = NU) from by decide +kernel), ?_⟩
            refine ⟨(show ¬ ((60 : Nat) = NU) from by decide +kernel), ?_⟩
            refine ⟨(show c_cl UL 60 = 8 from cl_60), ?_⟩
            have g145 := agc_tr (agc_refl (fs := [6001, 6002, 6003, 6004, 6005, 6006, 6007]) (rs := [104, 112, 999]) (F := F)) g5 (by decide +kernel) (by decide +kernel)
            have g144 := agc_tr g145 g10 (by decide +kernel) (by decide +kernel)
            have g143 := agc_r (u := 104) (w := upd (FS46_7 104) (x1 / 64).toNatClampNeg ((FS28_2 104 (x1 / 64).toNatClampNeg) + v46_6)) g144 rfl (by decide +kernel)
            have g142 := agc_r (u := 112) (w := upd (FS46_7 112) (64 * x1).toNatClampNeg ((va_up FS46_7 104 (upd (FS46_7 104) (x1 / 64).toNatClampNeg ((FS28_2 104 (x1 / 64).toNatClampNeg) + v46_6))) 104 (x1 / 64).toNatClampNeg)) g143 rfl (by decide +kernel)
            have g141 := agc_tr g142 g44 (by decide +kernel) (by decide +kernel)
            have g140 := agc_tr g141 g77 (by decide +kernel) (by decide +kernel)
            exact h_Re_fail_u60 (B_w cqb_7_7_7 (by decide +kernel) (by decide +kernel)) hI76 (fun hI g => hT13 hI (agc_tr g140 g (by decide +kernel) (by decide +kernel)))
    · exact (B_dis cqb_1_1_1 cqb_0_0_0 hc (by decide +kernel)).elim
set_option maxRecDepth 20000 in
set_option maxHeartbeats 4000000 in
theorem h_Un_readData_u59_a1 {b : Bool} {P : Nat → Nat → Nat} {F : cF} {L : cL} {K : cs → Prop} {T : Nat → cs → Prop} (hI : IMc F) (pre0 : ZQ F) (pre1 : UPs 73 F) (hK : ∀ {Z : cF} {LZ : cL}, IMc Z → agc [6001, 6002, 6003, 6004, 6005] [104, 112, 999] F Z → K (Z, LZ, PC true b P)) (hT13 : ∀ {Z : cF} {LZ : cL}, IMc Z → agc [6001, 6002, 6003, 6004, 6005, 6006, 6007] [104, 112, 999] F Z → T 13 (Z, LZ, PC true b P)) : p_Un_readData UL 59 (F, L, PC true b P) K T := by
  unfold p_Un_readData
  refine ⟨(show ¬ ((60 : Nat) = NU) from by decide +kernel), ?_⟩
  refine ⟨(show c_cl UL 60 = 8 from cl_60), ?_⟩
  refine h_Re_dropBits_u60 hI (fun {FS4_1} {LFS4_1} hI2 g3 => ?_)
  refine ⟨(show ¬ ((104 : Nat) = NU) from by decide +kernel), ?_⟩
  refine h_Ar_fillI_x0104_x10 hI2 (fun {FS12_4} {LFS12_4} hI5 g6 => ?_)
  have g15 := agc_tr (agc_refl (fs := [6004]) (rs := [104]) (F := F)) g3 (by decide +kernel) (by decide +kernel)
  have g14 := agc_tr g15 g6 (by decide +kernel) (by decide +kernel)
  refine ⟨fun yx1 yx2 yS => B 0 193 yx1 ∧ B 0 192 yx2 ∧ ∃ (T9 : cF) (LT9 : cL), yS = (T9, LT9, PC true b P) ∧ IMc T9 ∧ agc [6001, 6002, 6003, 6004, 6005] [104, 112, 999] FS12_4 T9 ∧ (ZQ T9) ∧ (UPs 73 T9) ∧ (yx1.toInt ≤ yx2.toInt), fun yx1 yx2 yS => (192 - yx2.toInt).toNat, ⟨(B_w cqb_0_0_0 (by decide +kernel) (by decide +kernel)), (B_w cqb_0_0_0 (by decide +kernel) (by decide +kernel)), _, _, rfl, hI5, (agc_refl (fs := [6001, 6002, 6003, 6004, 6005]) (rs := [104, 112, 999]) (F := FS12_4)), (ZQ_ag (F := F) (G := FS12_4) pre0 hI g14 (by decide +kernel) rfl rfl), (UPs_tr (F := F) (G := FS12_4) pre1 ((g6.1 73 5 rfl rfl).trans (g3.1 73 5 rfl rfl)) ((g6.1 73 4 rfl rfl).trans (g3.1 73 4 rfl rfl)) ((g6.1 73 6 rfl rfl).trans (g3.1 73 6 rfl rfl))), (by show (0 : Int) ≤ 0; first | with_reducible assumption | omega)⟩, fun x1_7 x2_8 ST9 hIv => ?_⟩
  obtain ⟨b10, b11, T9, LT9, rfl, hI12, g13, r16, r17, r18⟩ := hIv
  suffices hs : ∀ (R19 : Int32 → Int32 → cs → Prop), (∀ zx1 zx2 zS, (B 0 193 zx1 ∧ B 0 192 zx2 ∧ ∃ (T9 : cF) (LT9 : cL), zS = (T9, LT9, PC true b P) ∧ IMc T9 ∧ agc [6001, 6002, 6003, 6004, 6005] [104, 112, 999] FS12_4 T9 ∧ (ZQ T9) ∧ (UPs 73 T9) ∧ (zx1.toInt ≤ zx2.toInt)) → (192 - zx2.toInt).toNat < (192 - x2_8.toInt).toNat → R19 zx1 zx2 zS) → b_Un_readData_19 UL 59 x1_7 x2_8 (T9, LT9, PC true b P) R19 K T from hs _ (fun _ _ _ h1 h2 => ⟨h1, h2⟩)
  intro R19 hR190
  have hR19 := fun {zx1} {zx2} {zS} => hR190 zx1 zx2 zS
  have q19 : (0) ≤ (x1_7).toInt ∧ (x1_7).toInt ≤ (193) := (show B 0 193 (x1_7) from B_w b10 (by decide +kernel) (by decide +kernel))
  have q20 : (0) ≤ (x2_8).toInt ∧ (x2_8).toInt ≤ (192) := (show B 0 192 (x2_8) from B_w b11 (by decide +kernel) (by decide +kernel))
  unfold b_Un_readData_19
  refine ⟨(show ¬ ((73 : Nat) = NU) from by decide +kernel), ?_⟩
  refine ⟨(show c_cl UL 73 = 10 from cl_73), ?_⟩
  refine ⟨fun hc => ?_, fun hc => ?_⟩
  · have hq21 := hc
    have q22 : (0) ≤ (F 73 4).toInt ∧ (F 73 4).toInt ≤ (192) := (show B 0 192 (F 73 4) from hI 73 4)
    have e23 : (T9 73 4).toInt = (F 73 4).toInt := (congrArg Int32.toInt (((g13.1 73 4 rfl rfl).trans (g6.1 73 4 rfl rfl)).trans (g3.1 73 4 rfl rfl))).trans rfl
    have i24 : (T9 73 4).toInt ≤ (x2_8).toInt := i_le hq21
    have g27 := agc_tr (agc_refl (fs := [6001, 6002, 6003, 6004, 6005]) (rs := [104, 112, 999]) (F := F)) g3 (by decide +kernel) (by decide +kernel)
    have g26 := agc_tr g27 g6 (by decide +kernel) (by decide +kernel)
    have g25 := agc_tr g26 g13 (by decide +kernel) (by decide +kernel)
    exact hK hI12 g25
  · have hq28 := (nle_lt hc)
    have b29 : B 0 191 (x2_8) := B_w (B_ltL b11 (B_eq (((g13.1 73 4 rfl rfl).trans (g6.1 73 4 rfl rfl)).trans (g3.1 73 4 rfl rfl)) (show B 0 192 (F 73 4) from hI 73 4)) hq28) (by decide +kernel) (by decide +kernel)
    have q30 : (0) ≤ (x2_8).toInt ∧ (x2_8).toInt ≤ (191) := (show B 0 191 (x2_8) from B_w b29 (by decide +kernel) (by decide +kernel))
    have b31 : B 1 192 (F 73 4) := B_w (B_eq (Eq.symm (((g13.1 73 4 rfl rfl).trans (g6.1 73 4 rfl rfl)).trans (g3.1 73 4 rfl rfl))) (B_ltR b11 (B_eq (((g13.1 73 4 rfl rfl).trans (g6.1 73 4 rfl rfl)).trans (g3.1 73 4 rfl rfl)) (show B 0 192 (F 73 4) from hI 73 4)) hq28)) (by decide +kernel) (by decide +kernel)
    have q32 : (1) ≤ (F 73 4).toInt ∧ (F 73 4).toInt ≤ (192) := (show B 1 192 (F 73 4) from B_w b31 (by decide +kernel) (by decide +kernel))
    have e33 : (T9 73 4).toInt = (F 73 4).toInt := (congrArg Int32.toInt (((g13.1 73 4 rfl rfl).trans (g6.1 73 4 rfl rfl)).trans (g3.1 73 4 rfl rfl))).trans rfl
    have i34 : (x2_8).toInt < (T9 73 4).toInt := i_lt hq28
    have hj35 : ∀ {x1_36 : Int32} {T37 : cF} {LT37 : cL}, B 0 194 x1_36 → IMc T37 → agc [6001, 6004] [104, 999] T9 T37 → (ZQ T37) → (UPs 73 T37) → (x2_8.toInt < (T37 73 4).toInt) → (x1_36.toInt ≤ (x2_8.toInt + 1)) → b_Un_readData_65 UL 59 x1_36 x2_8 (T37, LT37, PC true b P) R19 K T := by
      intro x1_36 T37 LT37 b38 hI39 g40 r41 r42 r43 r44
      have e45 : (T37 73 4).toInt = (F 73 4).toInt := (congrArg Int32.toInt ((((g40.1 73 4 rfl rfl).trans (g13.1 73 4 rfl rfl)).trans (g6.1 73 4 rfl rfl)).trans (g3.1 73 4 rfl rfl))).trans rfl
      have q46 : (0) ≤ (x1_36).toInt ∧ (x1_36).toInt ≤ (194) := (show B 0 194 (x1_36) from B_w b38 (by decide +kernel) (by decide +kernel))
      unfold b_Un_readData_65
      refine ⟨fun yx1 yx2 yx3 yS => x1_36 = yx1 ∧ x2_8 = yx2 ∧ B 0 12 yx3 ∧ ∃ (T50 : cF) (LT50 : cL), yS = (T50, LT50, PC true b P) ∧ IMc T50 ∧ agc [6001, 6002, 6003, 6004, 6005] [104, 112, 999] T37 T50 ∧ (ZQ T50) ∧ (UPs 73 T50) ∧ (yx2.toInt < (T50 73 4).toInt), fun yx1 yx2 yx3 yS => (12 - yx3.toInt).toNat, ⟨rfl, rfl, (B_w cqb_0_0_0 (by decide +kernel) (by decide +kernel)), _, _, rfl, hI39, (agc_refl (fs := [6001, 6002, 6003, 6004, 6005]) (rs := [104, 112, 999]) (F := T37)), r41, (UPs_tr (F := T37) (G := T37) r42 (Eq.trans ((((g40.1 73 5 rfl rfl).trans (g13.1 73 5 rfl rfl)).trans (g6.1 73 5 rfl rfl)).trans (g3.1 73 5 rfl rfl)) (Eq.symm ((((g40.1 73 5 rfl rfl).trans (g13.1 73 5 rfl rfl)).trans (g6.1 73 5 rfl rfl)).trans (g3.1 73 5 rfl rfl)))) (Eq.trans ((((g40.1 73 4 rfl rfl).trans (g13.1 73 4 rfl rfl)).trans (g6.1 73 4 rfl rfl)).trans (g3.1 73 4 rfl rfl)) (Eq.symm ((((g40.1 73 4 rfl rfl).trans (g13.1 73 4 rfl rfl)).trans (g6.1 73 4 rfl rfl)).trans (g3.1 73 4 rfl rfl)))) (Eq.trans ((((g40.1 73 6 rfl rfl).trans (g13.1 73 6 rfl rfl)).trans (g6.1 73 6 rfl rfl)).trans (g3.1 73 6 rfl rfl)) (Eq.symm ((((g40.1 73 6 rfl rfl).trans (g13.1 73 6 rfl rfl)).trans (g6.1 73 6 rfl rfl)).trans (g3.1 73 6 rfl rfl))))), (by show x2_8.toInt < (T37 73 4).toInt; first | with_reducible assumption | omega)⟩, fun x1_47 x2_48 x3_49 ST50 hIv => ?_⟩
      obtain ⟨rfl, rfl, b51, T50, LT50, rfl, hI52, g53, r54, r55, r56⟩ := hIv
      suffices hs : ∀ (R67 : Int32 → Int32 → Int32 → cs → Prop), (∀ zx1 zx2 zx3 zS, (x1_36 = zx1 ∧ x2_8 = zx2 ∧ B 0 12 zx3 ∧ ∃ (T50 : cF) (LT50 : cL), zS = (T50, LT50, PC true b P) ∧ IMc T50 ∧ agc [6001, 6002, 6003, 6004, 6005] [104, 112, 999] T37 T50 ∧ (ZQ T50) ∧ (UPs 73 T50) ∧ (zx2.toInt < (T50 73 4).toInt)) → (12 - zx3.toInt).toNat < (12 - x3_49.toInt).toNat → R67 zx1 zx2 zx3 zS) → b_Un_readData_67 UL 59 x1_36 x2_8 x3_49 (T50, LT50, PC true b P) R19 R67 K T from hs _ (fun _ _ _ _ h1 h2 => ⟨h1, h2⟩)
      intro R67 hR670
      have hR67 := fun {zx1} {zx2} {zx3} {zS} => hR670 zx1 zx2 zx3 zS
      have e57 : (T50 73 4).toInt = (F 73 4).toInt := (congrArg Int32.toInt (((((g53.1 73 4 rfl rfl).trans (g40.1 73 4 rfl rfl)).trans (g13.1 73 4 rfl rfl)).trans (g6.1 73 4 rfl rfl)).trans (g3.1 73 4 rfl rfl))).trans rfl
      unfold b_Un_readData_67
      refine ⟨(show ¬ ((73 : Nat) = NU) from by decide +kernel), ?_⟩
      refine ⟨(show c_cl UL 73 = 10 from cl_73), ?_⟩
      refine ⟨fun hc => ?_, fun hc => ?_⟩
      · have hq58 := hc
        have q59 : (0) ≤ (F 73 5).toInt ∧ (F 73 5).toInt ≤ (12) := (show B 0 12 (F 73 5) from hI 73 5)
        have e60 : (T50 73 5).toInt = (F 73 5).toInt := (congrArg Int32.toInt (((((g53.1 73 5 rfl rfl).trans (g40.1 73 5 rfl rfl)).trans (g13.1 73 5 rfl rfl)).trans (g6.1 73 5 rfl rfl)).trans (g3.1 73 5 rfl rfl))).trans rfl
        have q61 : (0) ≤ (x3_49).toInt ∧ (x3_49).toInt ≤ (12) := (show B 0 12 (x3_49) from B_w b51 (by decide +kernel) (by decide +kernel))
        have i62 : (T50 73 5).toInt ≤ (x3_49).toInt := i_le hq58
        have g65 := agc_tr (agc_refl (fs := [6001, 6002, 6003, 6004, 6005]) (rs := [104, 112, 999]) (F := FS12_4)) g13 (by decide +kernel) (by decide +kernel)
        have g64 := agc_tr g65 g40 (by decide +kernel) (by decide +kernel)
        have g63 := agc_tr g64 g53 (by decide +kernel) (by decide +kernel)
        have e66 : (x2_8 + 1).toInt = ((x2_8).toInt + 1) := (t_add b29 cqb_1_1_1 (by decide +kernel) (by decide +kernel)).trans (by rw [cqn_1])
        have q67 : (1) ≤ (x2_8 + 1).toInt ∧ (x2_8 + 1).toInt ≤ (192) := (show B 1 192 (x2_8 + 1) from B_w (B_add b29 cqb_1_1_1 (by decide +kernel) (by decide +kernel)) (by decide +kernel) (by decide +kernel))
        exact hR19 ⟨(show B 0 193 (x1_36) from ⟨by omega, by omega⟩), (B_w (B_add b29 cqb_1_1_1 (by decide +kernel) (by decide +kernel)) (by decide +kernel) (by decide +kernel)), _, _, rfl, hI52, g63, r54, (UPs_tr (F := T50) (G := T50) r55 (Eq.trans (((((g53.1 73 5 rfl rfl).trans (g40.1 73 5 rfl rfl)).trans (g13.1 73 5 rfl rfl)).trans (g6.1 73 5 rfl rfl)).trans (g3.1 73 5 rfl rfl)) (Eq.symm (((((g53.1 73 5 rfl rfl).trans (g40.1 73 5 rfl rfl)).trans (g13.1 73 5 rfl rfl)).trans (g6.1 73 5 rfl rfl)).trans (g3.1 73 5 rfl rfl)))) (Eq.trans (((((g53.1 73 4 rfl rfl).trans (g40.1 73 4 rfl rfl)).trans (g13.1 73 4 rfl rfl)).trans (g6.1 73 4 rfl rfl)).trans (g3.1 73 4 rfl rfl)) (Eq.symm (((((g53.1 73 4 rfl rfl).trans (g40.1 73 4 rfl rfl)).trans (g13.1 73 4 rfl rfl)).trans (g6.1 73 4 rfl rfl)).trans (g3.1 73 4 rfl rfl)))) (Eq.trans (((((g53.1 73 6 rfl rfl).trans (g40.1 73 6 rfl rfl)).trans (g13.1 73 6 rfl rfl)).trans (g6.1 73 6 rfl rfl)).trans (g3.1 73 6 rfl rfl)) (Eq.symm (((((g53.1 73 6 rfl rfl).trans (g40.1 73 6 rfl rfl)).trans (g13.1 73 6 rfl rfl)).trans (g6.1 73 6 rfl rfl)).trans (g3.1 73 6 rfl rfl))))), (by show x1_36.toInt ≤ (x2_8 + 1).toInt; first | with_reducible assumption | omega)⟩ (by show (192 - (x2_8 + 1).toInt).toNat < (192 - x2_8.toInt).toNat; omega)
      · have hq68 := (nle_lt hc)
        have b69 : B 0 11 (x3_49) := B_w (B_ltL b51 (B_eq (((((g53.1 73 5 rfl rfl).trans (g40.1 73 5 rfl rfl)).trans (g13.1 73 5 rfl rfl)).trans (g6.1 73 5 rfl rfl)).trans (g3.1 73 5 rfl rfl)) (show B 0 12 (F 73 5) from hI 73 5)) hq68) (by decide +kernel) (by decide +kernel)
        have b70 : B 1 12 (F 73 5) := B_w (B_eq (Eq.symm (((((g53.1 73 5 rfl rfl).trans (g40.1 73 5 rfl rfl)).trans (g13.1 73 5 rfl rfl)).trans (g6.1 73 5 rfl rfl)).trans (g3.1 73 5 rfl rfl))) (B_ltR b51 (B_eq (((((g53.1 73 5 rfl rfl).trans (g40.1 73 5 rfl rfl)).trans (g13.1 73 5 rfl rfl)).trans (g6.1 73 5 rfl rfl)).trans (g3.1 73 5 rfl rfl)) (show B 0 12 (F 73 5) from hI 73 5)) hq68)) (by decide +kernel) (by decide +kernel)
        have q71 : (0) ≤ (x3_49).toInt ∧ (x3_49).toInt ≤ (11) := (show B 0 11 (x3_49) from B_w b69 (by decide +kernel) (by decide +kernel))
        have q72 : (1) ≤ (F 73 5).toInt ∧ (F 73 5).toInt ≤ (12) := (show B 1 12 (F 73 5) from B_w b70 (by decide +kernel) (by decide +kernel))
        have e73 : (T50 73 5).toInt = (F 73 5).toInt := (congrArg Int32.toInt (((((g53.1 73 5 rfl rfl).trans (g40.1 73 5 rfl rfl)).trans (g13.1 73 5 rfl rfl)).trans (g6.1 73 5 rfl rfl)).trans (g3.1 73 5 rfl rfl))).trans rfl
        have i74 : (x3_49).toInt < (T50 73 5).toInt := i_lt hq68
        refine ⟨(show ¬ ((73 : Nat) = NU) from by decide +kernel), ?_⟩
        refine ⟨(show ¬ ((77 : Nat) = NU) from by decide +kernel), ?_⟩
        refine ⟨(show ¬ ((73 : Nat) = NU) from by decide +kernel), ?_⟩
        refine ⟨(show c_cl UL 77 = 902 from cl_77), ?_⟩
        have kx76 : 0 ≤ (((T50 73 5) * x2_8) + x3_49).toInt ∧ (((T50 73 5) * x2_8) + x3_49).toInt < (T50 73 6).toInt := ix_L (u := 73) (F := T50) (UPs_tr (F := T50) (G := T50) r55 (Eq.trans (((((g53.1 73 5 rfl rfl).trans (g40.1 73 5 rfl rfl)).trans (g13.1 73 5 rfl rfl)).trans (g6.1 73 5 rfl rfl)).trans (g3.1 73 5 rfl rfl)) (Eq.symm (((((g53.1 73 5 rfl rfl).trans (g40.1 73 5 rfl rfl)).trans (g13.1 73 5 rfl rfl)).trans (g6.1 73 5 rfl rfl)).trans (g3.1 73 5 rfl rfl)))) (Eq.trans (((((g53.1 73 4 rfl rfl).trans (g40.1 73 4 rfl rfl)).trans (g13.1 73 4 rfl rfl)).trans (g6.1 73 4 rfl rfl)).trans (g3.1 73 4 rfl rfl)) (Eq.symm (((((g53.1 73 4 rfl rfl).trans (g40.1 73 4 rfl rfl)).trans (g13.1 73 4 rfl rfl)).trans (g6.1 73 4 rfl rfl)).trans (g3.1 73 4 rfl rfl)))) (Eq.trans (((((g53.1 73 6 rfl rfl).trans (g40.1 73 6 rfl rfl)).trans (g13.1 73 6 rfl rfl)).trans (g6.1 73 6 rfl rfl)).trans (g3.1 73 6 rfl rfl)) (Eq.symm (((((g53.1 73 6 rfl rfl).trans (g40.1 73 6 rfl rfl)).trans (g13.1 73 6 rfl rfl)).trans (g6.1 73 6 rfl rfl)).trans (g3.1 73 6 rfl rfl))))) (B_w (B_eq (((((g53.1 73 5 rfl rfl).trans (g40.1 73 5 rfl rfl)).trans (g13.1 73 5 rfl rfl)).trans (g6.1 73 5 rfl rfl)).trans (g3.1 73 5 rfl rfl)) b70) (by decide +kernel) (by decide +kernel)) (B_w b29 (by decide +kernel) (by decide +kernel)) (B_w b69 (by decide +kernel) (by decide +kernel)) (by omega) (by omega)
        have b75 : B 0 191 (((T50 73 5) * x2_8) + x3_49) := ix_B (u := 73) (F := T50) (UPs_tr (F := T50) (G := T50) r55 (Eq.trans (((((g53.1 73 5 rfl rfl).trans (g40.1 73 5 rfl rfl)).trans (g13.1 73 5 rfl rfl)).trans (g6.1 73 5 rfl rfl)).trans (g3.1 73 5 rfl rfl)) (Eq.symm (((((g53.1 73 5 rfl rfl).trans (g40.1 73 5 rfl rfl)).trans (g13.1 73 5 rfl rfl)).trans (g6.1 73 5 rfl rfl)).trans (g3.1 73 5 rfl rfl)))) (Eq.trans (((((g53.1 73 4 rfl rfl).trans (g40.1 73 4 rfl rfl)).trans (g13.1 73 4 rfl rfl)).trans (g6.1 73 4 rfl rfl)).trans (g3.1 73 4 rfl rfl)) (Eq.symm (((((g53.1 73 4 rfl rfl).trans (g40.1 73 4 rfl rfl)).trans (g13.1 73 4 rfl rfl)).trans (g6.1 73 4 rfl rfl)).trans (g3.1 73 4 rfl rfl)))) (Eq.trans (((((g53.1 73 6 rfl rfl).trans (g40.1 73 6 rfl rfl)).trans (g13.1 73 6 rfl rfl)).trans (g6.1 73 6 rfl rfl)).trans (g3.1 73 6 rfl rfl)) (Eq.symm (((((g53.1 73 6 rfl rfl).trans (g40.1 73 6 rfl rfl)).trans (g13.1 73 6 rfl rfl)).trans (g6.1 73 6 rfl rfl)).trans (g3.1 73 6 rfl rfl))))) (B_w (B_eq (((((g53.1 73 5 rfl rfl).trans (g40.1 73 5 rfl rfl)).trans (g13.1 73 5 rfl rfl)).trans (g6.1 73 5 rfl rfl)).trans (g3.1 73 5 rfl rfl)) b70) (by decide +kernel) (by decide +kernel)) (B_w (B_eq (((((g53.1 73 6 rfl rfl).trans (g40.1 73 6 rfl rfl)).trans (g13.1 73 6 rfl rfl)).trans (g6.1 73 6 rfl rfl)).trans (g3.1 73 6 rfl rfl)) (show B 0 192 (F 73 6) from hI 73 6)) (by decide +kernel) (by decide +kernel)) (B_w b29 (by decide +kernel) (by decide +kernel)) (B_w b69 (by decide +kernel) (by decide +kernel)) (by omega) (by omega)
        have q77 : (0) ≤ (F 73 6).toInt ∧ (F 73 6).toInt ≤ (192) := (show B 0 192 (F 73 6) from hI 73 6)
        have e78 : (T50 73 6).toInt = (F 73 6).toInt := (congrArg Int32.toInt (((((g53.1 73 6 rfl rfl).trans (g40.1 73 6 rfl rfl)).trans (g13.1 73 6 rfl rfl)).trans (g6.1 73 6 rfl rfl)).trans (g3.1 73 6 rfl rfl))).trans rfl
        refine ⟨(show vp_in (((T50 73 5) * x2_8) + x3_49) 192 from vp_B b75 (by decide +kernel) (by decide +kernel)), ?_⟩
        have e79 : ((T50 73 5) * x2_8).toInt = ((F 73 5).toInt * (x2_8).toInt) := (t_mul (B_eq (((((g53.1 73 5 rfl rfl).trans (g40.1 73 5 rfl rfl)).trans (g13.1 73 5 rfl rfl)).trans (g6.1 73 5 rfl rfl)).trans (g3.1 73 5 rfl rfl)) b70) b29 (by decide +kernel) (by decide +kernel) (by decide +kernel)).trans (by rw [e73])
        have q80 : (0) ≤ ((T50 73 5) * x2_8).toInt ∧ ((T50 73 5) * x2_8).toInt ≤ (2292) := (show B 0 2292 ((T50 73 5) * x2_8) from B_w (B_mul (B_eq (((((g53.1 73 5 rfl rfl).trans (g40.1 73 5 rfl rfl)).trans (g13.1 73 5 rfl rfl)).trans (g6.1 73 5 rfl rfl)).trans (g3.1 73 5 rfl rfl)) b70) b29 (by decide +kernel) (by decide +kernel) (by decide +kernel)) (by decide +kernel) (by decide +kernel))
        have e81 : (((T50 73 5) * x2_8) + x3_49).toInt = (((F 73 5).toInt * (x2_8).toInt) + (x3_49).toInt) := (t_add (B_mul (B_eq (((((g53.1 73 5 rfl rfl).trans (g40.1 73 5 rfl rfl)).trans (g13.1 73 5 rfl rfl)).trans (g6.1 73 5 rfl rfl)).trans (g3.1 73 5 rfl rfl)) b70) b29 (by decide +kernel) (by decide +kernel) (by decide +kernel)) b69 (by decide +kernel) (by decide +kernel)).trans (by rw [e79])
        have q82 : (0) ≤ (((T50 73 5) * x2_8) + x3_49).toInt ∧ (((T50 73 5) * x2_8) + x3_49).toInt ≤ (191) := (show B 0 191 (((T50 73 5) * x2_8) + x3_49) from B_w b75 (by decide +kernel) (by decide +kernel))
        have g90 := agc_tr (agc_refl (fs := [6001, 6002, 6003, 6004, 6005, 6006, 6007]) (rs := [104, 112, 999]) (F := F)) g3 (by decide +kernel) (by decide +kernel)
        have g89 := agc_tr g90 g6 (by decide +kernel) (by decide +kernel)
        have g88 := agc_tr g89 g13 (by decide +kernel) (by decide +kernel)
        have g87 := agc_tr g88 g40 (by decide +kernel) (by decide +kernel)
        have g86 := agc_tr g87 g53 (by decide +kernel) (by decide +kernel)
        refine h_Un_readBlock_u59_a1 (B_w (B_eq (((((congrFun (g53.2 77 rfl rfl) (((T50 73 5) * x2_8) + x3_49).toNatClampNeg).trans (congrFun (g40.2 77 rfl rfl) (((T50 73 5) * x2_8) + x3_49).toNatClampNeg)).trans (congrFun (g13.2 77 rfl rfl) (((T50 73 5) * x2_8) + x3_49).toNatClampNeg)).trans (congrFun (g6.2 77 rfl rfl) (((T50 73 5) * x2_8) + x3_49).toNatClampNeg)).trans (congrFun (g3.2 77 rfl rfl) (((T50 73 5) * x2_8) + x3_49).toNatClampNeg)) (show B 0 191 (F 77 (((T50 73 5) * x2_8) + x3_49).toNatClampNeg) from hI 77 (((T50 73 5) * x2_8) + x3_49).toNatClampNeg)) (by decide +kernel) (by decide +kernel)) hI52 ((show ZQ T50 from r54) (((T50 73 5) * x2_8) + x3_49) (by omega) (by omega)) (fun {FS98_83} {LFS98_83} hI84 g85 => ?_) (fun hI g => hT13 hI (agc_tr g86 g (by decide +kernel) (by decide +kernel)))
        have g92 := agc_tr (agc_refl (fs := [6001, 6002, 6003, 6004, 6005]) (rs := [104, 112, 999]) (F := T37)) g53 (by decide +kernel) (by decide +kernel)
        have g91 := agc_tr g92 g85 (by decide +kernel) (by decide +kernel)
        have g93 := agc_tr (agc_refl (fs := [6001, 6002, 6003, 6004, 6005]) (rs := [104, 112, 999]) (F := T50)) g85 (by decide +kernel) (by decide +kernel)
        have e94 : (FS98_83 73 4).toInt = (F 73 4).toInt := (congrArg Int32.toInt ((((((g85.1 73 4 rfl rfl).trans (g53.1 73 4 rfl rfl)).trans (g40.1 73 4 rfl rfl)).trans (g13.1 73 4 rfl rfl)).trans (g6.1 73 4 rfl rfl)).trans (g3.1 73 4 rfl rfl))).trans rfl
        have e95 : (x3_49 + 1).toInt = ((x3_49).toInt + 1) := (t_add b69 cqb_1_1_1 (by decide +kernel) (by decide +kernel)).trans (by rw [cqn_1])
        have q96 : (1) ≤ (x3_49 + 1).toInt ∧ (x3_49 + 1).toInt ≤ (12) := (show B 1 12 (x3_49 + 1) from B_w (B_add b69 cqb_1_1_1 (by decide +kernel) (by decide +kernel)) (by decide +kernel) (by decide +kernel))
        exact hR67 ⟨rfl, rfl, (B_w (B_add b69 cqb_1_1_1 (by decide +kernel) (by decide +kernel)) (by decide +kernel) (by decide +kernel)), _, _, rfl, hI84, g91, (ZQ_ag (F := T50) (G := FS98_83) r54 hI52 g93 (by decide +kernel) rfl rfl), (UPs_tr (F := T50) (G := FS98_83) r55 (Eq.trans ((((((g85.1 73 5 rfl rfl).trans (g53.1 73 5 rfl rfl)).trans (g40.1 73 5 rfl rfl)).trans (g13.1 73 5 rfl rfl)).trans (g6.1 73 5 rfl rfl)).trans (g3.1 73 5 rfl rfl)) (Eq.symm (((((g53.1 73 5 rfl rfl).trans (g40.1 73 5 rfl rfl)).trans (g13.1 73 5 rfl rfl)).trans (g6.1 73 5 rfl rfl)).trans (g3.1 73 5 rfl rfl)))) (Eq.trans ((((((g85.1 73 4 rfl rfl).trans (g53.1 73 4 rfl rfl)).trans (g40.1 73 4 rfl rfl)).trans (g13.1 73 4 rfl rfl)).trans (g6.1 73 4 rfl rfl)).trans (g3.1 73 4 rfl rfl)) (Eq.symm (((((g53.1 73 4 rfl rfl).trans (g40.1 73 4 rfl rfl)).trans (g13.1 73 4 rfl rfl)).trans (g6.1 73 4 rfl rfl)).trans (g3.1 73 4 rfl rfl)))) (Eq.trans ((((((g85.1 73 6 rfl rfl).trans (g53.1 73 6 rfl rfl)).trans (g40.1 73 6 rfl rfl)).trans (g13.1 73 6 rfl rfl)).trans (g6.1 73 6 rfl rfl)).trans (g3.1 73 6 rfl rfl)) (Eq.symm (((((g53.1 73 6 rfl rfl).trans (g40.1 73 6 rfl rfl)).trans (g13.1 73 6 rfl rfl)).trans (g6.1 73 6 rfl rfl)).trans (g3.1 73 6 rfl rfl))))), (by show x2_8.toInt < (FS98_83 73 4).toInt; first | with_reducible assumption | omega)⟩ (by show (12 - (x3_49 + 1).toInt).toNat < (12 - x3_49.toInt).toNat; omega)
    refine ⟨fun hc => ?_, fun hc => ?_⟩
    · have hq97 := hc
      have b98 : B 0 0 (F 59 11) := B_w (B_eq (Eq.symm (((g13.1 59 11 rfl rfl).trans (g6.1 59 11 rfl rfl)).trans (g3.1 59 11 rfl rfl))) (B_leL (B_eq (((g13.1 59 11 rfl rfl).trans (g6.1 59 11 rfl rfl)).trans (g3.1 59 11 rfl rfl)) (show B 0 65535 (F 59 11) from hI 59 11)) cqb_0_0_0 hq97)) (by decide +kernel) (by decide +kernel)
      exact hj35 (B_w b10 (by decide +kernel) (by decide +kernel)) hI12 (agc_refl (fs := [6001, 6004]) (rs := [104, 999]) (F := T9)) r16 (UPs_tr (F := T9) (G := T9) r17 (Eq.trans (((g13.1 73 5 rfl rfl).trans (g6.1 73 5 rfl rfl)).trans (g3.1 73 5 rfl rfl)) (Eq.symm (((g13.1 73 5 rfl rfl).trans (g6.1 73 5 rfl rfl)).trans (g3.1 73 5 rfl rfl)))) (Eq.trans (((g13.1 73 4 rfl rfl).trans (g6.1 73 4 rfl rfl)).trans (g3.1 73 4 rfl rfl)) (Eq.symm (((g13.1 73 4 rfl rfl).trans (g6.1 73 4 rfl rfl)).trans (g3.1 73 4 rfl rfl)))) (Eq.trans (((g13.1 73 6 rfl rfl).trans (g6.1 73 6 rfl rfl)).trans (g3.1 73 6 rfl rfl)) (Eq.symm (((g13.1 73 6 rfl rfl).trans (g6.1 73 6 rfl rfl)).trans (g3.1 73 6 rfl rfl))))) (by show x2_8.toInt < (T9 73 4).toInt; first | with_reducible assumption | omega) (by show x1_7.toInt ≤ (x2_8.toInt + 1); first | with_reducible assumption | omega)
    · have hq99 := (nle_lt hc)
      have b100 : B 1 65535 (F 59 11) := B_w (B_eq (Eq.symm (((g13.1 59 11 rfl rfl).trans (g6.1 59 11 rfl rfl)).trans (g3.1 59 11 rfl rfl))) (B_ltR cqb_0_0_0 (B_eq (((g13.1 59 11 rfl rfl).trans (g6.1 59 11 rfl rfl)).trans (g3.1 59 11 rfl rfl)) (show B 0 65535 (F 59 11) from hI 59 11)) hq99)) (by decide +kernel) (by decide +kernel)
      refine ⟨fun hc => ?_, fun hc => ?_⟩
      · have hq101 := hc
        have b102 : B 0 0 (x2_8) := B_w (B_leL b29 cqb_0_0_0 hq101) (by decide +kernel) (by decide +kernel)
        have q103 : (0) ≤ (x2_8).toInt ∧ (x2_8).toInt ≤ (0) := (show B 0 0 (x2_8) from B_w b102 (by decide +kernel) (by decide +kernel))
        exact hj35 (B_w b10 (by decide +kernel) (by decide +kernel)) hI12 (agc_refl (fs := [6001, 6004]) (rs := [104, 999]) (F := T9)) r16 (UPs_tr (F := T9) (G := T9) r17 (Eq.trans (((g13.1 73 5 rfl rfl).trans (g6.1 73 5 rfl rfl)).trans (g3.1 73 5 rfl rfl)) (Eq.symm (((g13.1 73 5 rfl rfl).trans (g6.1 73 5 rfl rfl)).trans (g3.1 73 5 rfl rfl)))) (Eq.trans (((g13.1 73 4 rfl rfl).trans (g6.1 73 4 rfl rfl)).trans (g3.1 73 4 rfl rfl)) (Eq.symm (((g13.1 73 4 rfl rfl).trans (g6.1 73 4 rfl rfl)).trans (g3.1 73 4 rfl rfl)))) (Eq.trans (((g13.1 73 6 rfl rfl).trans (g6.1 73 6 rfl rfl)).trans (g3.1 73 6 rfl rfl)) (Eq.symm (((g13.1 73 6 rfl rfl).trans (g6.1 73 6 rfl rfl)).trans (g3.1 73 6 rfl rfl))))) (by show x2_8.toInt < (T9 73 4).toInt; first | with_reducible assumption | omega) (by show x1_7.toInt ≤ (x2_8.toInt + 1); first | with_reducible assumption | omega)
      · have hq104 := (nle_lt hc)
        have b105 : B 1 191 (x2_8) := B_w (B_ltR cqb_0_0_0 b29 hq104) (by decide +kernel) (by decide +kernel)
        have q106 : (1) ≤ (x2_8).toInt ∧ (x2_8).toInt ≤ (191) := (show B 1 191 (x2_8) from B_w b105 (by decide +kernel) (by decide +kernel))
        refine ⟨B_nz (B_eq (((g13.1 59 11 rfl rfl).trans (g6.1 59 11 rfl rfl)).trans (g3.1 59 11 rfl rfl)) b100) (by decide +kernel), ?_⟩
        refine ⟨fun hc => ?_, fun hc => ?_⟩
        · have b107 : B 1 65534 (x2_8 - ((x2_8 / (T9 59 11)) * (T9 59 11))) := B_w (B_n0 (B_rem b105 (B_eq (((g13.1 59 11 rfl rfl).trans (g6.1 59 11 rfl rfl)).trans (g3.1 59 11 rfl rfl)) b100) (by decide +kernel) (by decide +kernel)) hc) (by decide +kernel) (by decide +kernel)
          exact hj35 (B_w b10 (by decide +kernel) (by decide +kernel)) hI12 (agc_refl (fs := [6001, 6004]) (rs := [104, 999]) (F := T9)) r16 (UPs_tr (F := T9) (G := T9) r17 (Eq.trans (((g13.1 73 5 rfl rfl).trans (g6.1 73 5 rfl rfl)).trans (g3.1 73 5 rfl rfl)) (Eq.symm (((g13.1 73 5 rfl rfl).trans (g6.1 73 5 rfl rfl)).trans (g3.1 73 5 rfl rfl)))) (Eq.trans (((g13.1 73 4 rfl rfl).trans (g6.1 73 4 rfl rfl)).trans (g3.1 73 4 rfl rfl)) (Eq.symm (((g13.1 73 4 rfl rfl).trans (g6.1 73 4 rfl rfl)).trans (g3.1 73 4 rfl rfl)))) (Eq.trans (((g13.1 73 6 rfl rfl).trans (g6.1 73 6 rfl rfl)).trans (g3.1 73 6 rfl rfl)) (Eq.symm (((g13.1 73 6 rfl rfl).trans (g6.1 73 6 rfl rfl)).trans (g3.1 73 6 rfl rfl))))) (by show x2_8.toInt < (T9 73 4).toInt; first | with_reducible assumption | omega) (by show x1_7.toInt ≤ (x2_8.toInt + 1); first | with_reducible assumption | omega)
        · have b108 : B 0 0 (x2_8 - ((x2_8 / (T9 59 11)) * (T9 59 11))) := B_w (B_eq hc cqb_0_0_0) (by decide +kernel) (by decide +kernel)
          have q109 : (1) ≤ (F 59 11).toInt ∧ (F 59 11).toInt ≤ (65535) := (show B 1 65535 (F 59 11) from B_w b100 (by decide +kernel) (by decide +kernel))
          have e110 : (T9 59 11).toInt = (F 59 11).toInt := (congrArg Int32.toInt (((g13.1 59 11 rfl rfl).trans (g6.1 59 11 rfl rfl)).trans (g3.1 59 11 rfl rfl))).trans rfl
          have e111 : (x2_8 - ((x2_8 / (T9 59 11)) * (T9 59 11))).toInt = ((x2_8).toInt % (F 59 11).toInt) := (t_rem b105 (B_eq (((g13.1 59 11 rfl rfl).trans (g6.1 59 11 rfl rfl)).trans (g3.1 59 11 rfl rfl)) b100) (by decide +kernel) (by decide +kernel)).trans (by rw [e110])
          have q112 : (0) ≤ (x2_8 - ((x2_8 / (T9 59 11)) * (T9 59 11))).toInt ∧ (x2_8 - ((x2_8 / (T9 59 11)) * (T9 59 11))).toInt ≤ (0) := (show B 0 0 (x2_8 - ((x2_8 / (T9 59 11)) * (T9 59 11))) from B_w b108 (by decide +kernel) (by decide +kernel))
          have i113 : (x2_8 - ((x2_8 / (T9 59 11)) * (T9 59 11))).toInt = (0 : Int32).toInt := congrArg Int32.toInt hc
          have n114 : (0 : Int32).toInt = 0 := cqn_0
          have g120 := agc_tr (agc_refl (fs := [6001, 6002, 6003, 6004, 6005, 6006, 6007]) (rs := [104, 112, 999]) (F := F)) g3 (by decide +kernel) (by decide +kernel)
          have g119 := agc_tr g120 g6 (by decide +kernel) (by decide +kernel)
          have g118 := agc_tr g119 g13 (by decide +kernel) (by decide +kernel)
          refine h_Un_readAgain_u59 hI12 (fun {FS59_115} {LFS59_115} hI116 g117 => ?_) (fun hI g => hT13 hI (agc_tr g118 g (by decide +kernel) (by decide +kernel)))
          have g121 := agc_tr (agc_refl (fs := [6001, 6004]) (rs := [104, 999]) (F := T9)) g117 (by decide +kernel) (by decide +kernel)
          have e122 : (FS59_115 73 4).toInt = (F 73 4).toInt := (congrArg Int32.toInt ((((g117.1 73 4 rfl rfl).trans (g13.1 73 4 rfl rfl)).trans (g6.1 73 4 rfl rfl)).trans (g3.1 73 4 rfl rfl))).trans rfl
          have e123 : (x1_7 + 1).toInt = ((x1_7).toInt + 1) := (t_add b10 cqb_1_1_1 (by decide +kernel) (by decide +kernel)).trans (by rw [cqn_1])
          have q124 : (1) ≤ (x1_7 + 1).toInt ∧ (x1_7 + 1).toInt ≤ (194) := (show B 1 194 (x1_7 + 1) from B_w (B_add b10 cqb_1_1_1 (by decide +kernel) (by decide +kernel)) (by decide +kernel) (by decide +kernel))
          exact hj35 (B_w (B_add b10 cqb_1_1_1 (by decide +kernel) (by decide +kernel)) (by decide +kernel) (by decide +kernel)) hI116 g121 (ZQ_ag (F := T9) (G := FS59_115) r16 hI12 g121 (by decide +kernel) rfl rfl) (UPs_tr (F := T9) (G := FS59_115) r17 (Eq.trans ((((g117.1 73 5 rfl rfl).trans (g13.1 73 5 rfl rfl)).trans (g6.1 73 5 rfl rfl)).trans (g3.1 73 5 rfl rfl)) (Eq.symm (((g13.1 73 5 rfl rfl).trans (g6.1 73 5 rfl rfl)).trans (g3.1 73 5 rfl rfl)))) (Eq.trans ((((g117.1 73 4 rfl rfl).trans (g13.1 73 4 rfl rfl)).trans (g6.1 73 4 rfl rfl)).trans (g3.1 73 4 rfl rfl)) (Eq.symm (((g13.1 73 4 rfl rfl).trans (g6.1 73 4 rfl rfl)).trans (g3.1 73 4 rfl rfl)))) (Eq.trans ((((g117.1 73 6 rfl rfl).trans (g13.1 73 6 rfl rfl)).trans (g6.1 73 6 rfl rfl)).trans (g3.1 73 6 rfl rfl)) (Eq.symm (((g13.1 73 6 rfl rfl).trans (g6.1 73 6 rfl rfl)).trans (g3.1 73 6 rfl rfl))))) (by show x2_8.toInt < (FS59_115 73 4).toInt; first | with_reducible assumption | omega) (by show (x1_7 + 1).toInt ≤ (x2_8.toInt + 1); first | with_reducible assumption | omega)
