set_option maxRecDepth 20000 in
set_option maxHeartbeats 4000000 in
theorem h_Co_giveOut_u81 {a : Bool} {b : Bool} {P : Nat → Nat → Nat} {F : cF} {L : cL} {K : Int32 → cs → Prop} (hI : IMc F) (hK : ∀ {v : Int32} {Z : cF} {LZ : cL}, B 0 1 v → IMc Z → agc [8105] [83, 84] F Z → (gQ 81 v 17 Z) → ((v.toInt = 0) ∨ ((Z 81 5).toInt ≤ 256)) → K v (Z, LZ, PC a b P)) : p_Co_giveOut UL 81 (F, L, PC a b P) K := by
  unfold p_Co_giveOut
  have hI10 := IMc_u (u := 81) (i := 5) (v := 0) hI (show B (-2147483648) 2147483647 (0) from (B_w (show B 0 0 (0 : Int32) from ⟨by decide +kernel, by decide +kernel⟩) (by decide +kernel) (by decide +kernel)))
  refine ⟨fun yx1 yx2 yx3 yS => B (-2147483648) 2147483647 yx1 ∧ B 0 1 yx2 ∧ B 1 17 yx3 ∧ ∃ (T4 : cF) (LT4 : cL), yS = (T4, LT4, PC a b P) ∧ IMc T4 ∧ agc [8105] [83, 84] (va_up F 81 (upd (F 81) 5 0)) T4 ∧ (gQ 81 yx2 yx3 T4) ∧ ((0 ≤ (T4 81 5).toInt) ∧ ((T4 81 5).toInt ≤ 511)) ∧ ((yx2.toInt = 0) ∨ ((T4 81 5).toInt ≤ 256)), fun yx1 yx2 yx3 yS => (17 - yx3.toInt).toNat, ⟨(B_w (show B 0 0 (0 : Int32) from ⟨by decide +kernel, by decide +kernel⟩) (by decide +kernel) (by decide +kernel)), (B_w (show B 1 1 (1 : Int32) from ⟨by decide +kernel, by decide +kernel⟩) (by decide +kernel) (by decide +kernel)), (B_w (show B 1 1 (1 : Int32) from ⟨by decide +kernel, by decide +kernel⟩) (by decide +kernel) (by decide +kernel)), _, _, rfl, hI10, (agc_refl (fs := [8105]) (rs := [83, 84]) (F := va_up F 81 (upd (F 81) 5 0))), (fun _ m h1 h2 => by have e : (1 : Int32).toInt = 1 := (by decide +kernel); omega), (by show ((0 : Int) ≤ 0) ∧ ((0 : Int) ≤ 511); omega), (by show ((1 : Int) = 0) ∨ ((0 : Int) ≤ 256); omega)⟩, fun x1_1 x2_2 x3_3 ST4 hIv => ?_⟩
  obtain ⟨b5, b6, b7, T4, LT4, rfl, hI8, g9, r11, r12, r13⟩ := hIv
  suffices hs : ∀ (R11 : Int32 → Int32 → Int32 → cs → Prop), (∀ zx1 zx2 zx3 zS, (B (-2147483648) 2147483647 zx1 ∧ B 0 1 zx2 ∧ B 1 17 zx3 ∧ ∃ (T4 : cF) (LT4 : cL), zS = (T4, LT4, PC a b P) ∧ IMc T4 ∧ agc [8105] [83, 84] (va_up F 81 (upd (F 81) 5 0)) T4 ∧ (gQ 81 zx2 zx3 T4) ∧ ((0 ≤ (T4 81 5).toInt) ∧ ((T4 81 5).toInt ≤ 511)) ∧ ((zx2.toInt = 0) ∨ ((T4 81 5).toInt ≤ 256))) → (17 - zx3.toInt).toNat < (17 - x3_3.toInt).toNat → R11 zx1 zx2 zx3 zS) → b_Co_giveOut_11 UL 81 x1_1 x2_2 x3_3 (T4, LT4, PC a b P) R11 K from hs _ (fun _ _ _ _ h1 h2 => ⟨h1, h2⟩)
  intro R11 hR110
  have hR11 := fun {zx1} {zx2} {zx3} {zS} => hR110 zx1 zx2 zx3 zS
  have q14 : (0) ≤ (x2_2).toInt ∧ (x2_2).toInt ≤ (1) := (show B 0 1 (x2_2) from B_w b6 (by decide +kernel) (by decide +kernel))
  have b15 : B 0 511 (T4 81 5) := ⟨by omega, by omega⟩
  unfold b_Co_giveOut_11
  refine ⟨fun hc => ?_, fun hc => ?_⟩
  · have hq16 := hc
    have b17 : B 17 17 (x3_3) := B_w (B_ltR (show B 16 16 (16 : Int32) from ⟨by decide +kernel, by decide +kernel⟩) b7 hq16) (by decide +kernel) (by decide +kernel)
    unfold b_Co_giveOut_97
    refine ⟨B_nar b6 (by decide +kernel) (by decide +kernel), ?_⟩
    have g19 := agc_f (u := 81) (k := 5) (v := 0) (agc_refl (fs := [8105]) (rs := [83, 84]) (F := F)) rfl (by decide +kernel)
    have g18 := agc_tr g19 g9 (by decide +kernel) (by decide +kernel)
    have q20 : (17) ≤ (x3_3).toInt ∧ (x3_3).toInt ≤ (17) := (show B 17 17 (x3_3) from B_w b17 (by decide +kernel) (by decide +kernel))
    exact hK b6 hI8 g18 (fun hx m h1 h2 => (r11) hx m h1 (by have e : (17 : Int32).toInt = 17 := (by decide +kernel); omega)) (by show (x2_2.toInt = 0) ∨ ((T4 81 5).toInt ≤ 256); omega)
  · have hq21 := (nlt_le hc)
    have b22 : B 1 16 (x3_3) := B_w (B_leL b7 (show B 16 16 (16 : Int32) from ⟨by decide +kernel, by decide +kernel⟩) hq21) (by decide +kernel) (by decide +kernel)
    refine ⟨fun hc => ?_, fun hc => ?_⟩
    · have b23 : B 0 0 (x2_2) := B_w (B_eq hc (show B 0 0 (0 : Int32) from ⟨by decide +kernel, by decide +kernel⟩)) (by decide +kernel) (by decide +kernel)
      have q24 : (0) ≤ (x2_2).toInt ∧ (x2_2).toInt ≤ (0) := (show B 0 0 (x2_2) from B_w b23 (by decide +kernel) (by decide +kernel))
      have i25 : (x2_2).toInt = (0 : Int32).toInt := congrArg Int32.toInt hc
      have n26 : (0 : Int32).toInt = 0 := by decide +kernel
      unfold b_Co_giveOut_97
      refine ⟨B_nar b23 (by decide +kernel) (by decide +kernel), ?_⟩
      have g28 := agc_f (u := 81) (k := 5) (v := 0) (agc_refl (fs := [8105]) (rs := [83, 84]) (F := F)) rfl (by decide +kernel)
      have g27 := agc_tr g28 g9 (by decide +kernel) (by decide +kernel)
      exact hK (B_w b23 (by decide +kernel) (by decide +kernel)) hI8 g27 (fun h => absurd (B_z b23) h) (by show (x2_2.toInt = 0) ∨ ((T4 81 5).toInt ≤ 256); omega)
    · have b29 : B 1 1 (x2_2) := B_w (B_n0 b6 hc) (by decide +kernel) (by decide +kernel)
      have q30 : (1) ≤ (x2_2).toInt ∧ (x2_2).toInt ≤ (1) := (show B 1 1 (x2_2) from B_w b29 (by decide +kernel) (by decide +kernel))
      refine ⟨(show ¬ ((83 : Nat) = NU) from by decide +kernel), ?_⟩
      refine ⟨(show c_cl UL 83 = 902 from cl_83), ?_⟩
      refine ⟨(show vp_in (x3_3) 17 from vp_B b22 (by decide +kernel) (by decide +kernel)), ?_⟩
      refine ⟨(show ¬ ((84 : Nat) = NU) from by decide +kernel), ?_⟩
      refine ⟨(show c_cl UL 84 = 902 from cl_84), ?_⟩
      refine ⟨(show vp_in (x3_3) 17 from vp_B b22 (by decide +kernel) (by decide +kernel)), ?_⟩
      refine ⟨(show ¬ ((82 : Nat) = NU) from by decide +kernel), ?_⟩
      refine ⟨(show c_cl UL 82 = 902 from cl_82), ?_⟩
      refine ⟨(show vp_in (x3_3) 17 from vp_B b22 (by decide +kernel) (by decide +kernel)), ?_⟩
      refine ⟨(show ¬ ((82 : Nat) = NU) from by decide +kernel), ?_⟩
      refine ⟨(show vp_in (x3_3) 17 from vp_B b22 (by decide +kernel) (by decide +kernel)), ?_⟩
      refine ⟨(show ¬ ((85 : Nat) = NU) from by decide +kernel), ?_⟩
      refine ⟨(show c_cl UL 85 = 902 from cl_85), ?_⟩
      refine ⟨fun hc => ?_, fun hc => ?_⟩
      · have hq31 := hc
        have b32 : B 257 766 ((T4 81 5) + (T4 82 x3_3.toNatClampNeg)) := B_w (B_ltR (show B 256 256 (256 : Int32) from ⟨by decide +kernel, by decide +kernel⟩) (B_add b15 (B_eq (congrFun (g9.2 82 rfl rfl) x3_3.toNatClampNeg) (show B 0 255 (F 82 x3_3.toNatClampNeg) from hI 82 x3_3.toNatClampNeg)) (by decide +kernel) (by decide +kernel)) hq31) (by decide +kernel) (by decide +kernel)
        have q33 : (0) ≤ (F 82 x3_3.toNatClampNeg).toInt ∧ (F 82 x3_3.toNatClampNeg).toInt ≤ (255) := (show B 0 255 (F 82 x3_3.toNatClampNeg) from B_w (show B 0 255 (F 82 x3_3.toNatClampNeg) from hI 82 x3_3.toNatClampNeg) (by decide +kernel) (by decide +kernel))
        have e34 : (T4 82 x3_3.toNatClampNeg).toInt = (F 82 x3_3.toNatClampNeg).toInt := (congrArg Int32.toInt (congrFun (g9.2 82 rfl rfl) x3_3.toNatClampNeg)).trans rfl
        have e35 : ((T4 81 5) + (T4 82 x3_3.toNatClampNeg)).toInt = ((T4 81 5).toInt + (F 82 x3_3.toNatClampNeg).toInt) := (t_add b15 (B_eq (congrFun (g9.2 82 rfl rfl) x3_3.toNatClampNeg) (show B 0 255 (F 82 x3_3.toNatClampNeg) from hI 82 x3_3.toNatClampNeg)) (by decide +kernel) (by decide +kernel)).trans (by rw [e34])
        have q36 : (257) ≤ ((T4 81 5) + (T4 82 x3_3.toNatClampNeg)).toInt ∧ ((T4 81 5) + (T4 82 x3_3.toNatClampNeg)).toInt ≤ (766) := (show B 257 766 ((T4 81 5) + (T4 82 x3_3.toNatClampNeg)) from B_w b32 (by decide +kernel) (by decide +kernel))
        have i37 : (256 : Int32).toInt < ((T4 81 5) + (T4 82 x3_3.toNatClampNeg)).toInt := i_lt hq31
        have n38 : (256 : Int32).toInt = 256 := by decide +kernel
        unfold b_Co_giveOut_85
        unfold b_Co_giveOut_86
        have hI39 := IMc_u (u := 83) (i := x3_3.toNatClampNeg) (v := x1_1) hI8 (show B (-2147483648) 2147483647 (x1_1) from (B_w b5 (by decide +kernel) (by decide +kernel)))
        have hI40 := IMc_u (u := 84) (i := x3_3.toNatClampNeg) (v := T4 81 5) hI39 (show B (-2147483648) 2147483647 (T4 81 5) from (B_w b15 (by decide +kernel) (by decide +kernel)))
        have hI41 := IMc_u (u := 81) (i := 5) (v := (T4 81 5) + (T4 82 x3_3.toNatClampNeg)) hI40 (show B (-2147483648) 2147483647 ((T4 81 5) + (T4 82 x3_3.toNatClampNeg)) from (B_w b32 (by decide +kernel) (by decide +kernel)))
        have g45 := agc_tr (agc_refl (fs := [8105]) (rs := [83, 84]) (F := va_up F 81 (upd (F 81) 5 0))) g9 (by decide +kernel) (by decide +kernel)
        have g44 := agc_r (u := 83) (w := upd (T4 83) x3_3.toNatClampNeg x1_1) g45 rfl (by decide +kernel)
        have g43 := agc_r (u := 84) (w := upd (T4 84) x3_3.toNatClampNeg (T4 81 5)) g44 rfl (by decide +kernel)
        have g42 := agc_f (u := 81) (k := 5) (v := (T4 81 5) + (T4 82 x3_3.toNatClampNeg)) g43 rfl (by decide +kernel)
        have q46 : (1) ≤ (x3_3).toInt ∧ (x3_3).toInt ≤ (16) := (show B 1 16 (x3_3) from B_w b22 (by decide +kernel) (by decide +kernel))
        have e47 : (x3_3 + 1).toInt = ((x3_3).toInt + 1) := (t_add b22 (show B 1 1 (1 : Int32) from ⟨by decide +kernel, by decide +kernel⟩) (by decide +kernel) (by decide +kernel)).trans (by rw [(show (1 : Int32).toInt = 1 from by decide +kernel)])
        have q48 : (2) ≤ (x3_3 + 1).toInt ∧ (x3_3 + 1).toInt ≤ (17) := (show B 2 17 (x3_3 + 1) from B_w (B_add b22 (show B 1 1 (1 : Int32) from ⟨by decide +kernel, by decide +kernel⟩) (by decide +kernel) (by decide +kernel)) (by decide +kernel) (by decide +kernel))
        exact hR11 ⟨(B_w (B_any _) (by decide +kernel) (by decide +kernel)), (B_w (show B 0 0 (0 : Int32) from ⟨by decide +kernel, by decide +kernel⟩) (by decide +kernel) (by decide +kernel)), (B_w (B_add b22 (show B 1 1 (1 : Int32) from ⟨by decide +kernel, by decide +kernel⟩) (by decide +kernel) (by decide +kernel)) (by decide +kernel) (by decide +kernel)), _, _, rfl, hI41, g42, (fun h => absurd rfl h), (by show (0 ≤ ((T4 81 5) + (T4 82 x3_3.toNatClampNeg)).toInt) ∧ (((T4 81 5) + (T4 82 x3_3.toNatClampNeg)).toInt ≤ 511); omega), (by show ((0 : Int) = 0) ∨ (((T4 81 5) + (T4 82 x3_3.toNatClampNeg)).toInt ≤ 256); omega)⟩ (by show (17 - (x3_3 + 1).toInt).toNat < (17 - x3_3.toInt).toNat; omega)
      · have hq49 := (nlt_le hc)
        have b50 : B 0 256 ((T4 81 5) + (T4 82 x3_3.toNatClampNeg)) := B_w (B_leL (B_add b15 (B_eq (congrFun (g9.2 82 rfl rfl) x3_3.toNatClampNeg) (show B 0 255 (F 82 x3_3.toNatClampNeg) from hI 82 x3_3.toNatClampNeg)) (by decide +kernel) (by decide +kernel)) (show B 256 256 (256 : Int32) from ⟨by decide +kernel, by decide +kernel⟩) hq49) (by decide +kernel) (by decide +kernel)
        have q51 : (0) ≤ (F 82 x3_3.toNatClampNeg).toInt ∧ (F 82 x3_3.toNatClampNeg).toInt ≤ (255) := (show B 0 255 (F 82 x3_3.toNatClampNeg) from B_w (show B 0 255 (F 82 x3_3.toNatClampNeg) from hI 82 x3_3.toNatClampNeg) (by decide +kernel) (by decide +kernel))
        have e52 : (T4 82 x3_3.toNatClampNeg).toInt = (F 82 x3_3.toNatClampNeg).toInt := (congrArg Int32.toInt (congrFun (g9.2 82 rfl rfl) x3_3.toNatClampNeg)).trans rfl
        have e53 : ((T4 81 5) + (T4 82 x3_3.toNatClampNeg)).toInt = ((T4 81 5).toInt + (F 82 x3_3.toNatClampNeg).toInt) := (t_add b15 (B_eq (congrFun (g9.2 82 rfl rfl) x3_3.toNatClampNeg) (show B 0 255 (F 82 x3_3.toNatClampNeg) from hI 82 x3_3.toNatClampNeg)) (by decide +kernel) (by decide +kernel)).trans (by rw [e52])
        have q54 : (0) ≤ ((T4 81 5) + (T4 82 x3_3.toNatClampNeg)).toInt ∧ ((T4 81 5) + (T4 82 x3_3.toNatClampNeg)).toInt ≤ (256) := (show B 0 256 ((T4 81 5) + (T4 82 x3_3.toNatClampNeg)) from B_w b50 (by decide +kernel) (by decide +kernel))
        have i55 : ((T4 81 5) + (T4 82 x3_3.toNatClampNeg)).toInt ≤ (256 : Int32).toInt := i_le hq49
        have n56 : (256 : Int32).toInt = 256 := by decide +kernel
        refine ⟨fun hc => ?_, fun hc => ?_⟩
        · have hq57 := hc
          have i58 : (((1 : Int32) <<< (x3_3 &&& 31 : Int32) : Int32)).toInt ≤ (x1_1 + (T4 82 x3_3.toNatClampNeg)).toInt := i_le hq57
          unfold b_Co_giveOut_85
          unfold b_Co_giveOut_86
          have hI59 := IMc_u (u := 83) (i := x3_3.toNatClampNeg) (v := x1_1) hI8 (show B (-2147483648) 2147483647 (x1_1) from (B_w b5 (by decide +kernel) (by decide +kernel)))
          have hI60 := IMc_u (u := 84) (i := x3_3.toNatClampNeg) (v := T4 81 5) hI59 (show B (-2147483648) 2147483647 (T4 81 5) from (B_w b15 (by decide +kernel) (by decide +kernel)))
          have hI61 := IMc_u (u := 81) (i := 5) (v := (T4 81 5) + (T4 82 x3_3.toNatClampNeg)) hI60 (show B (-2147483648) 2147483647 ((T4 81 5) + (T4 82 x3_3.toNatClampNeg)) from (B_w b50 (by decide +kernel) (by decide +kernel)))
          have g65 := agc_tr (agc_refl (fs := [8105]) (rs := [83, 84]) (F := va_up F 81 (upd (F 81) 5 0))) g9 (by decide +kernel) (by decide +kernel)
          have g64 := agc_r (u := 83) (w := upd (T4 83) x3_3.toNatClampNeg x1_1) g65 rfl (by decide +kernel)
          have g63 := agc_r (u := 84) (w := upd (T4 84) x3_3.toNatClampNeg (T4 81 5)) g64 rfl (by decide +kernel)
          have g62 := agc_f (u := 81) (k := 5) (v := (T4 81 5) + (T4 82 x3_3.toNatClampNeg)) g63 rfl (by decide +kernel)
          have q66 : (1) ≤ (x3_3).toInt ∧ (x3_3).toInt ≤ (16) := (show B 1 16 (x3_3) from B_w b22 (by decide +kernel) (by decide +kernel))
          have e67 : (x3_3 + 1).toInt = ((x3_3).toInt + 1) := (t_add b22 (show B 1 1 (1 : Int32) from ⟨by decide +kernel, by decide +kernel⟩) (by decide +kernel) (by decide +kernel)).trans (by rw [(show (1 : Int32).toInt = 1 from by decide +kernel)])
          have q68 : (2) ≤ (x3_3 + 1).toInt ∧ (x3_3 + 1).toInt ≤ (17) := (show B 2 17 (x3_3 + 1) from B_w (B_add b22 (show B 1 1 (1 : Int32) from ⟨by decide +kernel, by decide +kernel⟩) (by decide +kernel) (by decide +kernel)) (by decide +kernel) (by decide +kernel))
          exact hR11 ⟨(B_w (B_any _) (by decide +kernel) (by decide +kernel)), (B_w (show B 0 0 (0 : Int32) from ⟨by decide +kernel, by decide +kernel⟩) (by decide +kernel) (by decide +kernel)), (B_w (B_add b22 (show B 1 1 (1 : Int32) from ⟨by decide +kernel, by decide +kernel⟩) (by decide +kernel) (by decide +kernel)) (by decide +kernel) (by decide +kernel)), _, _, rfl, hI61, g62, (fun h => absurd rfl h), (by show (0 ≤ ((T4 81 5) + (T4 82 x3_3.toNatClampNeg)).toInt) ∧ (((T4 81 5) + (T4 82 x3_3.toNatClampNeg)).toInt ≤ 511); omega), (by show ((0 : Int) = 0) ∨ (((T4 81 5) + (T4 82 x3_3.toNatClampNeg)).toInt ≤ 256); omega)⟩ (by show (17 - (x3_3 + 1).toInt).toNat < (17 - x3_3.toInt).toNat; omega)
        · have hq69 := (nle_lt hc)
          have b70 : B (-2147483648) 2147483646 (x1_1 + (T4 82 x3_3.toNatClampNeg)) := B_w (B_ltL (B_any _) (B_any _) hq69) (by decide +kernel) (by decide +kernel)
          have b71 : B (-2147483647) 2147483647 (((1 : Int32) <<< (x3_3 &&& 31 : Int32) : Int32)) := B_w (B_ltR (B_any _) (B_any _) hq69) (by decide +kernel) (by decide +kernel)
          have q72 : (-2147483648) ≤ (x1_1 + (T4 82 x3_3.toNatClampNeg)).toInt ∧ (x1_1 + (T4 82 x3_3.toNatClampNeg)).toInt ≤ (2147483646) := (show B (-2147483648) 2147483646 (x1_1 + (T4 82 x3_3.toNatClampNeg)) from B_w b70 (by decide +kernel) (by decide +kernel))
          have q73 : (-2147483647) ≤ (((1 : Int32) <<< (x3_3 &&& 31 : Int32) : Int32)).toInt ∧ (((1 : Int32) <<< (x3_3 &&& 31 : Int32) : Int32)).toInt ≤ (2147483647) := (show B (-2147483647) 2147483647 (((1 : Int32) <<< (x3_3 &&& 31 : Int32) : Int32)) from B_w b71 (by decide +kernel) (by decide +kernel))
          have i74 : (x1_1 + (T4 82 x3_3.toNatClampNeg)).toInt < (((1 : Int32) <<< (x3_3 &&& 31 : Int32) : Int32)).toInt := i_lt hq69
          unfold b_Co_giveOut_86
          have hI75 := IMc_u (u := 83) (i := x3_3.toNatClampNeg) (v := x1_1) hI8 (show B (-2147483648) 2147483647 (x1_1) from (B_w b5 (by decide +kernel) (by decide +kernel)))
          have hI76 := IMc_u (u := 84) (i := x3_3.toNatClampNeg) (v := T4 81 5) hI75 (show B (-2147483648) 2147483647 (T4 81 5) from (B_w b15 (by decide +kernel) (by decide +kernel)))
          have hI77 := IMc_u (u := 81) (i := 5) (v := (T4 81 5) + (T4 82 x3_3.toNatClampNeg)) hI76 (show B (-2147483648) 2147483647 ((T4 81 5) + (T4 82 x3_3.toNatClampNeg)) from (B_w b50 (by decide +kernel) (by decide +kernel)))
          have g81 := agc_tr (agc_refl (fs := [8105]) (rs := [83, 84]) (F := va_up F 81 (upd (F 81) 5 0))) g9 (by decide +kernel) (by decide +kernel)
          have g80 := agc_r (u := 83) (w := upd (T4 83) x3_3.toNatClampNeg x1_1) g81 rfl (by decide +kernel)
          have g79 := agc_r (u := 84) (w := upd (T4 84) x3_3.toNatClampNeg (T4 81 5)) g80 rfl (by decide +kernel)
          have g78 := agc_f (u := 81) (k := 5) (v := (T4 81 5) + (T4 82 x3_3.toNatClampNeg)) g79 rfl (by decide +kernel)
          have q82 : (1) ≤ (x3_3).toInt ∧ (x3_3).toInt ≤ (16) := (show B 1 16 (x3_3) from B_w b22 (by decide +kernel) (by decide +kernel))
          have e83 : (x3_3 + 1).toInt = ((x3_3).toInt + 1) := (t_add b22 (show B 1 1 (1 : Int32) from ⟨by decide +kernel, by decide +kernel⟩) (by decide +kernel) (by decide +kernel)).trans (by rw [(show (1 : Int32).toInt = 1 from by decide +kernel)])
          have q84 : (2) ≤ (x3_3 + 1).toInt ∧ (x3_3 + 1).toInt ≤ (17) := (show B 2 17 (x3_3 + 1) from B_w (B_add b22 (show B 1 1 (1 : Int32) from ⟨by decide +kernel, by decide +kernel⟩) (by decide +kernel) (by decide +kernel)) (by decide +kernel) (by decide +kernel))
          exact hR11 ⟨(B_w (B_any _) (by decide +kernel) (by decide +kernel)), (B_w (show B 1 1 (1 : Int32) from ⟨by decide +kernel, by decide +kernel⟩) (by decide +kernel) (by decide +kernel)), (B_w (B_add b22 (show B 1 1 (1 : Int32) from ⟨by decide +kernel, by decide +kernel⟩) (by decide +kernel) (by decide +kernel)) (by decide +kernel) (by decide +kernel)), _, _, rfl, hI77, g78, (gQ_up (u := 81) (F := T4) (G := va_up (va_up (va_up T4 83 (upd (T4 83) x3_3.toNatClampNeg x1_1)) 84 (upd (T4 84) x3_3.toNatClampNeg (T4 81 5))) 81 (upd (T4 81) 5 ((T4 81 5) + (T4 82 x3_3.toNatClampNeg)))) (x := x2_2) (x' := 1) (n := x3_3) (n' := x3_3 + 1) r11 (fun _ => B_nz b29 (by decide +kernel)) (by omega) (by omega) rfl (T4 81 5) rfl (fun _ => ⟨by omega, by show (T4 81 5).toInt + (T4 82 x3_3.toNatClampNeg).toInt ≤ 256; omega⟩)), (by show (0 ≤ ((T4 81 5) + (T4 82 x3_3.toNatClampNeg)).toInt) ∧ (((T4 81 5) + (T4 82 x3_3.toNatClampNeg)).toInt ≤ 511); omega), (by show ((1 : Int) = 0) ∨ (((T4 81 5) + (T4 82 x3_3.toNatClampNeg)).toInt ≤ 256); omega)⟩ (by show (17 - (x3_3 + 1).toInt).toNat < (17 - x3_3.toInt).toNat; omega)
set_option maxRecDepth 20000 in
set_option maxHeartbeats 4000000 in
theorem h_Un_isForRests {x0 : Int32} {K : Int32 → Prop} (hK : ∀ {v : Int32}, B 0 1 v → K v) : p_Un_isForRests x0 K := by
  unfold p_Un_isForRests
  refine ⟨fun hc => ?_, fun hc => ?_⟩
  · have b1 : B 0 0 (x0) := B_w (B_eq hc (show B 0 0 (0 : Int32) from ⟨by decide +kernel, by decide +kernel⟩)) (by decide +kernel) (by decide +kernel)
    have q2 : (0) ≤ (x0).toInt ∧ (x0).toInt ≤ (0) := (show B 0 0 (x0) from B_w b1 (by decide +kernel) (by decide +kernel))
    have i3 : (x0).toInt = (0 : Int32).toInt := congrArg Int32.toInt hc
    have n4 : (0 : Int32).toInt = 0 := by decide +kernel
    unfold b_Un_isForRests_24
    unfold b_Un_isForRests_29
    refine ⟨B_nar (show B 1 1 (1 : Int32) from ⟨by decide +kernel, by decide +kernel⟩) (by decide +kernel) (by decide +kernel), ?_⟩
    exact hK (B_w (show B 1 1 (1 : Int32) from ⟨by decide +kernel, by decide +kernel⟩) (by decide +kernel) (by decide +kernel))
  · have i5 : (x0).toInt ≠ (0 : Int32).toInt := i_ne hc
    have n6 : (0 : Int32).toInt = 0 := by decide +kernel
    refine ⟨fun hc => ?_, fun hc => ?_⟩
    · have b7 : B 240 240 (x0) := B_w (B_eq hc (show B 240 240 (240 : Int32) from ⟨by decide +kernel, by decide +kernel⟩)) (by decide +kernel) (by decide +kernel)
      have q8 : (240) ≤ (x0).toInt ∧ (x0).toInt ≤ (240) := (show B 240 240 (x0) from B_w b7 (by decide +kernel) (by decide +kernel))
      have i9 : (x0).toInt = (240 : Int32).toInt := congrArg Int32.toInt hc
      have n10 : (240 : Int32).toInt = 240 := by decide +kernel
      unfold b_Un_isForRests_24
      unfold b_Un_isForRests_29
      refine ⟨B_nar (show B 1 1 (1 : Int32) from ⟨by decide +kernel, by decide +kernel⟩) (by decide +kernel) (by decide +kernel), ?_⟩
      exact hK (B_w (show B 1 1 (1 : Int32) from ⟨by decide +kernel, by decide +kernel⟩) (by decide +kernel) (by decide +kernel))
    · have i11 : (x0).toInt ≠ (240 : Int32).toInt := i_ne hc
      have n12 : (240 : Int32).toInt = 240 := by decide +kernel
      refine h_B_isWithin  (fun {v18_13} b14 r15 => ?_)
      rcases sp_01 b14 with rfl | rfl
      · have r16 : ((0 : Int) = 0) ∨ ((1 ≤ (x0 - ((x0 / 16) * 16)).toInt) ∧ ((x0 - ((x0 / 16) * 16)).toInt ≤ 10)) := r15
        clear r15
        refine ⟨fun hc => ?_, fun hc => ?_⟩
        · have i17 : (0 : Int32).toInt = (0 : Int32).toInt := congrArg Int32.toInt hc
          have n18 : (0 : Int32).toInt = 0 := by decide +kernel
          have n19 : (0 : Int32).toInt = 0 := by decide +kernel
          unfold b_Un_isForRests_29
          refine ⟨B_nar (show B 0 0 (0 : Int32) from ⟨by decide +kernel, by decide +kernel⟩) (by decide +kernel) (by decide +kernel), ?_⟩
          exact hK (B_w (show B 0 0 (0 : Int32) from ⟨by decide +kernel, by decide +kernel⟩) (by decide +kernel) (by decide +kernel))
        · exact (hc (B_z (show B 0 0 (0 : Int32) from ⟨by decide +kernel, by decide +kernel⟩))).elim
      · have r20 : ((1 : Int) = 0) ∨ ((1 ≤ (x0 - ((x0 / 16) * 16)).toInt) ∧ ((x0 - ((x0 / 16) * 16)).toInt ≤ 10)) := r15
        clear r15
        have b21 : B 1 10 (x0 - ((x0 / 16) * 16)) := ⟨by omega, by omega⟩
        refine ⟨fun hc => ?_, fun hc => ?_⟩
        · exact (B_dis (show B 1 1 (1 : Int32) from ⟨by decide +kernel, by decide +kernel⟩) (show B 0 0 (0 : Int32) from ⟨by decide +kernel, by decide +kernel⟩) hc (by decide +kernel)).elim
        · have i22 : (1 : Int32).toInt ≠ (0 : Int32).toInt := i_ne hc
          have n23 : (1 : Int32).toInt = 1 := by decide +kernel
          have n24 : (0 : Int32).toInt = 0 := by decide +kernel
          unfold b_Un_isForRests_24
          unfold b_Un_isForRests_29
          refine ⟨B_nar (show B 1 1 (1 : Int32) from ⟨by decide +kernel, by decide +kernel⟩) (by decide +kernel) (by decide +kernel), ?_⟩
          exact hK (B_w (show B 1 1 (1 : Int32) from ⟨by decide +kernel, by decide +kernel⟩) (by decide +kernel) (by decide +kernel))
set_option maxRecDepth 20000 in
set_option maxHeartbeats 4000000 in
theorem h_Co_giveOut_u86 {a : Bool} {b : Bool} {P : Nat → Nat → Nat} {F : cF} {L : cL} {K : Int32 → cs → Prop} (hI : IMc F) (hK : ∀ {v : Int32} {Z : cF} {LZ : cL}, B 0 1 v → IMc Z → agc [8605] [88, 89] F Z → (gQ 86 v 17 Z) → ((v.toInt = 0) ∨ ((Z 86 5).toInt ≤ 256)) → K v (Z, LZ, PC a b P)) : p_Co_giveOut UL 86 (F, L, PC a b P) K := by
  unfold p_Co_giveOut
  have hI10 := IMc_u (u := 86) (i := 5) (v := 0) hI (show B (-2147483648) 2147483647 (0) from (B_w (show B 0 0 (0 : Int32) from ⟨by decide +kernel, by decide +kernel⟩) (by decide +kernel) (by decide +kernel)))
  refine ⟨fun yx1 yx2 yx3 yS => B (-2147483648) 2147483647 yx1 ∧ B 0 1 yx2 ∧ B 1 17 yx3 ∧ ∃ (T4 : cF) (LT4 : cL), yS = (T4, LT4, PC a b P) ∧ IMc T4 ∧ agc [8605] [88, 89] (va_up F 86 (upd (F 86) 5 0)) T4 ∧ (gQ 86 yx2 yx3 T4) ∧ ((0 ≤ (T4 86 5).toInt) ∧ ((T4 86 5).toInt ≤ 511)) ∧ ((yx2.toInt = 0) ∨ ((T4 86 5).toInt ≤ 256)), fun yx1 yx2 yx3 yS => (17 - yx3.toInt).toNat, ⟨(B_w (show B 0 0 (0 : Int32) from ⟨by decide +kernel, by decide +kernel⟩) (by decide +kernel) (by decide +kernel)), (B_w (show B 1 1 (1 : Int32) from ⟨by decide +kernel, by decide +kernel⟩) (by decide +kernel) (by decide +kernel)), (B_w (show B 1 1 (1 : Int32) from ⟨by decide +kernel, by decide +kernel⟩) (by decide +kernel) (by decide +kernel)), _, _, rfl, hI10, (agc_refl (fs := [8605]) (rs := [88, 89]) (F := va_up F 86 (upd (F 86) 5 0))), (fun _ m h1 h2 => by have e : (1 : Int32).toInt = 1 := (by decide +kernel); omega), (by show ((0 : Int) ≤ 0) ∧ ((0 : Int) ≤ 511); omega), (by show ((1 : Int) = 0) ∨ ((0 : Int) ≤ 256); omega)⟩, fun x1_1 x2_2 x3_3 ST4 hIv => ?_⟩
  obtain ⟨b5, b6, b7, T4, LT4, rfl, hI8, g9, r11, r12, r13⟩ := hIv
  suffices hs : ∀ (R11 : Int32 → Int32 → Int32 → cs → Prop), (∀ zx1 zx2 zx3 zS, (B (-2147483648) 2147483647 zx1 ∧ B 0 1 zx2 ∧ B 1 17 zx3 ∧ ∃ (T4 : cF) (LT4 : cL), zS = (T4, LT4, PC a b P) ∧ IMc T4 ∧ agc [8605] [88, 89] (va_up F 86 (upd (F 86) 5 0)) T4 ∧ (gQ 86 zx2 zx3 T4) ∧ ((0 ≤ (T4 86 5).toInt) ∧ ((T4 86 5).toInt ≤ 511)) ∧ ((zx2.toInt = 0) ∨ ((T4 86 5).toInt ≤ 256))) → (17 - zx3.toInt).toNat < (17 - x3_3.toInt).toNat → R11 zx1 zx2 zx3 zS) → b_Co_giveOut_11 UL 86 x1_1 x2_2 x3_3 (T4, LT4, PC a b P) R11 K from hs _ (fun _ _ _ _ h1 h2 => ⟨h1, h2⟩)
  intro R11 hR110
  have hR11 := fun {zx1} {zx2} {zx3} {zS} => hR110 zx1 zx2 zx3 zS
  have q14 : (0) ≤ (x2_2).toInt ∧ (x2_2).toInt ≤ (1) := (show B 0 1 (x2_2) from B_w b6 (by decide +kernel) (by decide +kernel))
  have b15 : B 0 511 (T4 86 5) := ⟨by omega, by omega⟩
  unfold b_Co_giveOut_11
  refine ⟨fun hc => ?_, fun hc => ?_⟩
  · have hq16 := hc
    have b17 : B 17 17 (x3_3) := B_w (B_ltR (show B 16 16 (16 : Int32) from ⟨by decide +kernel, by decide +kernel⟩) b7 hq16) (by decide +kernel) (by decide +kernel)
    unfold b_Co_giveOut_97
    refine ⟨B_nar b6 (by decide +kernel) (by decide +kernel), ?_⟩
    have g19 := agc_f (u := 86) (k := 5) (v := 0) (agc_refl (fs := [8605]) (rs := [88, 89]) (F := F)) rfl (by decide +kernel)
    have g18 := agc_tr g19 g9 (by decide +kernel) (by decide +kernel)
    have q20 : (17) ≤ (x3_3).toInt ∧ (x3_3).toInt ≤ (17) := (show B 17 17 (x3_3) from B_w b17 (by decide +kernel) (by decide +kernel))
    exact hK b6 hI8 g18 (fun hx m h1 h2 => (r11) hx m h1 (by have e : (17 : Int32).toInt = 17 := (by decide +kernel); omega)) (by show (x2_2.toInt = 0) ∨ ((T4 86 5).toInt ≤ 256); omega)
  · have hq21 := (nlt_le hc)
    have b22 : B 1 16 (x3_3) := B_w (B_leL b7 (show B 16 16 (16 : Int32) from ⟨by decide +kernel, by decide +kernel⟩) hq21) (by decide +kernel) (by decide +kernel)
    refine ⟨fun hc => ?_, fun hc => ?_⟩
    · have b23 : B 0 0 (x2_2) := B_w (B_eq hc (show B 0 0 (0 : Int32) from ⟨by decide +kernel, by decide +kernel⟩)) (by decide +kernel) (by decide +kernel)
      have q24 : (0) ≤ (x2_2).toInt ∧ (x2_2).toInt ≤ (0) := (show B 0 0 (x2_2) from B_w b23 (by decide +kernel) (by decide +kernel))
      have i25 : (x2_2).toInt = (0 : Int32).toInt := congrArg Int32.toInt hc
      have n26 : (0 : Int32).toInt = 0 := by decide +kernel
      unfold b_Co_giveOut_97
      refine ⟨B_nar b23 (by decide +kernel) (by decide +kernel), ?_⟩
      have g28 := agc_f (u := 86) (k := 5) (v := 0) (agc_refl (fs := [8605]) (rs := [88, 89]) (F := F)) rfl (by decide +kernel)
      have g27 := agc_tr g28 g9 (by decide +kernel) (by decide +kernel)
      exact hK (B_w b23 (by decide +kernel) (by decide +kernel)) hI8 g27 (fun h => absurd (B_z b23) h) (by show (x2_2.toInt = 0) ∨ ((T4 86 5).toInt ≤ 256); omega)
    · have b29 : B 1 1 (x2_2) := B_w (B_n0 b6 hc) (by decide +kernel) (by decide +kernel)
      have q30 : (1) ≤ (x2_2).toInt ∧ (x2_2).toInt ≤ (1) := (show B 1 1 (x2_2) from B_w b29 (by decide +kernel) (by decide +kernel))
      refine ⟨(show ¬ ((88 : Nat) = NU) from by decide +kernel), ?_⟩
      refine ⟨(show c_cl UL 88 = 902 from cl_88), ?_⟩
      refine ⟨(show vp_in (x3_3) 17 from vp_B b22 (by decide +kernel) (by decide +kernel)), ?_⟩
      refine ⟨(show ¬ ((89 : Nat) = NU) from by decide +kernel), ?_⟩
      refine ⟨(show c_cl UL 89 = 902 from cl_89), ?_⟩
      refine ⟨(show vp_in (x3_3) 17 from vp_B b22 (by decide +kernel) (by decide +kernel)), ?_⟩
      refine ⟨(show ¬ ((87 : Nat) = NU) from by decide +kernel), ?_⟩
      refine ⟨(show c_cl UL 87 = 902 from cl_87), ?_⟩
      refine ⟨(show vp_in (x3_3) 17 from vp_B b22 (by decide +kernel) (by decide +kernel)), ?_⟩
      refine ⟨(show ¬ ((87 : Nat) = NU) from by decide +kernel), ?_⟩
      refine ⟨(show vp_in (x3_3) 17 from vp_B b22 (by decide +kernel) (by decide +kernel)), ?_⟩
      refine ⟨(show ¬ ((90 : Nat) = NU) from by decide +kernel), ?_⟩
      refine ⟨(show c_cl UL 90 = 902 from cl_90), ?_⟩
      refine ⟨fun hc => ?_, fun hc => ?_⟩
      · have hq31 := hc
        have b32 : B 257 766 ((T4 86 5) + (T4 87 x3_3.toNatClampNeg)) := B_w (B_ltR (show B 256 256 (256 : Int32) from ⟨by decide +kernel, by decide +kernel⟩) (B_add b15 (B_eq (congrFun (g9.2 87 rfl rfl) x3_3.toNatClampNeg) (show B 0 255 (F 87 x3_3.toNatClampNeg) from hI 87 x3_3.toNatClampNeg)) (by decide +kernel) (by decide +kernel)) hq31) (by decide +kernel) (by decide +kernel)
        have q33 : (0) ≤ (F 87 x3_3.toNatClampNeg).toInt ∧ (F 87 x3_3.toNatClampNeg).toInt ≤ (255) := (show B 0 255 (F 87 x3_3.toNatClampNeg) from B_w (show B 0 255 (F 87 x3_3.toNatClampNeg) from hI 87 x3_3.toNatClampNeg) (by decide +kernel) (by decide +kernel))
        have e34 : (T4 87 x3_3.toNatClampNeg).toInt = (F 87 x3_3.toNatClampNeg).toInt := (congrArg Int32.toInt (congrFun (g9.2 87 rfl rfl) x3_3.toNatClampNeg)).trans rfl
        have e35 : ((T4 86 5) + (T4 87 x3_3.toNatClampNeg)).toInt = ((T4 86 5).toInt + (F 87 x3_3.toNatClampNeg).toInt) := (t_add b15 (B_eq (congrFun (g9.2 87 rfl rfl) x3_3.toNatClampNeg) (show B 0 255 (F 87 x3_3.toNatClampNeg) from hI 87 x3_3.toNatClampNeg)) (by decide +kernel) (by decide +kernel)).trans (by rw [e34])
        have q36 : (257) ≤ ((T4 86 5) + (T4 87 x3_3.toNatClampNeg)).toInt ∧ ((T4 86 5) + (T4 87 x3_3.toNatClampNeg)).toInt ≤ (766) := (show B 257 766 ((T4 86 5) + (T4 87 x3_3.toNatClampNeg)) from B_w b32 (by decide +kernel) (by decide +kernel))
        have i37 : (256 : Int32).toInt < ((T4 86 5) + (T4 87 x3_3.toNatClampNeg)).toInt := i_lt hq31
        have n38 : (256 : Int32).toInt = 256 := by decide +kernel
        unfold b_Co_giveOut_85
        unfold b_Co_giveOut_86
        have hI39 := IMc_u (u := 88) (i := x3_3.toNatClampNeg) (v := x1_1) hI8 (show B (-2147483648) 2147483647 (x1_1) from (B_w b5 (by decide +kernel) (by decide +kernel)))
        have hI40 := IMc_u (u := 89) (i := x3_3.toNatClampNeg) (v := T4 86 5) hI39 (show B (-2147483648) 2147483647 (T4 86 5) from (B_w b15 (by decide +kernel) (by decide +kernel)))
        have hI41 := IMc_u (u := 86) (i := 5) (v := (T4 86 5) + (T4 87 x3_3.toNatClampNeg)) hI40 (show B (-2147483648) 2147483647 ((T4 86 5) + (T4 87 x3_3.toNatClampNeg)) from (B_w b32 (by decide +kernel) (by decide +kernel)))
        have g45 := agc_tr (agc_refl (fs := [8605]) (rs := [88, 89]) (F := va_up F 86 (upd (F 86) 5 0))) g9 (by decide +kernel) (by decide +kernel)
        have g44 := agc_r (u := 88) (w := upd (T4 88) x3_3.toNatClampNeg x1_1) g45 rfl (by decide +kernel)
        have g43 := agc_r (u := 89) (w := upd (T4 89) x3_3.toNatClampNeg (T4 86 5)) g44 rfl (by decide +kernel)
        have g42 := agc_f (u := 86) (k := 5) (v := (T4 86 5) + (T4 87 x3_3.toNatClampNeg)) g43 rfl (by decide +kernel)
        have q46 : (1) ≤ (x3_3).toInt ∧ (x3_3).toInt ≤ (16) := (show B 1 16 (x3_3) from B_w b22 (by decide +kernel) (by decide +kernel))
        have e47 : (x3_3 + 1).toInt = ((x3_3).toInt + 1) := (t_add b22 (show B 1 1 (1 : Int32) from ⟨by decide +kernel, by decide +kernel⟩) (by decide +kernel) (by decide +kernel)).trans (by rw [(show (1 : Int32).toInt = 1 from by decide +kernel)])
        have q48 : (2) ≤ (x3_3 + 1).toInt ∧ (x3_3 + 1).toInt ≤ (17) := (show B 2 17 (x3_3 + 1) from B_w (B_add b22 (show B 1 1 (1 : Int32) from ⟨by decide +kernel, by decide +kernel⟩) (by decide +kernel) (by decide +kernel)) (by decide +kernel) (by decide +kernel))
        exact hR11 ⟨(B_w (B_any _) (by decide +kernel) (by decide +kernel)), (B_w (show B 0 0 (0 : Int32) from ⟨by decide +kernel, by decide +kernel⟩) (by decide +kernel) (by decide +kernel)), (B_w (B_add b22 (show B 1 1 (1 : Int32) from ⟨by decide +kernel, by decide +kernel⟩) (by decide +kernel) (by decide +kernel)) (by decide +kernel) (by decide +kernel)), _, _, rfl, hI41, g42, (fun h => absurd rfl h), (by show (0 ≤ ((T4 86 5) + (T4 87 x3_3.toNatClampNeg)).toInt) ∧ (((T4 86 5) + (T4 87 x3_3.toNatClampNeg)).toInt ≤ 511); omega), (by show ((0 : Int) = 0) ∨ (((T4 86 5) + (T4 87 x3_3.toNatClampNeg)).toInt ≤ 256); omega)⟩ (by show (17 - (x3_3 + 1).toInt).toNat < (17 - x3_3.toInt).toNat; omega)
      · have hq49 := (nlt_le hc)
        have b50 : B 0 256 ((T4 86 5) + (T4 87 x3_3.toNatClampNeg)) := B_w (B_leL (B_add b15 (B_eq (congrFun (g9.2 87 rfl rfl) x3_3.toNatClampNeg) (show B 0 255 (F 87 x3_3.toNatClampNeg) from hI 87 x3_3.toNatClampNeg)) (by decide +kernel) (by decide +kernel)) (show B 256 256 (256 : Int32) from ⟨by decide +kernel, by decide +kernel⟩) hq49) (by decide +kernel) (by decide +kernel)
        have q51 : (0) ≤ (F 87 x3_3.toNatClampNeg).toInt ∧ (F 87 x3_3.toNatClampNeg).toInt ≤ (255) := (show B 0 255 (F 87 x3_3.toNatClampNeg) from B_w (show B 0 255 (F 87 x3_3.toNatClampNeg) from hI 87 x3_3.toNatClampNeg) (by decide +kernel) (by decide +kernel))
        have e52 : (T4 87 x3_3.toNatClampNeg).toInt = (F 87 x3_3.toNatClampNeg).toInt := (congrArg Int32.toInt (congrFun (g9.2 87 rfl rfl) x3_3.toNatClampNeg)).trans rfl
        have e53 : ((T4 86 5) + (T4 87 x3_3.toNatClampNeg)).toInt = ((T4 86 5).toInt + (F 87 x3_3.toNatClampNeg).toInt) := (t_add b15 (B_eq (congrFun (g9.2 87 rfl rfl) x3_3.toNatClampNeg) (show B 0 255 (F 87 x3_3.toNatClampNeg) from hI 87 x3_3.toNatClampNeg)) (by decide +kernel) (by decide +kernel)).trans (by rw [e52])
        have q54 : (0) ≤ ((T4 86 5) + (T4 87 x3_3.toNatClampNeg)).toInt ∧ ((T4 86 5) + (T4 87 x3_3.toNatClampNeg)).toInt ≤ (256) := (show B 0 256 ((T4 86 5) + (T4 87 x3_3.toNatClampNeg)) from B_w b50 (by decide +kernel) (by decide +kernel))
        have i55 : ((T4 86 5) + (T4 87 x3_3.toNatClampNeg)).toInt ≤ (256 : Int32).toInt := i_le hq49
        have n56 : (256 : Int32).toInt = 256 := by decide +kernel
        refine ⟨fun hc => ?_, fun hc => ?_⟩
        · have hq57 := hc
          have i58 : (((1 : Int32) <<< (x3_3 &&& 31 : Int32) : Int32)).toInt ≤ (x1_1 + (T4 87 x3_3.toNatClampNeg)).toInt := i_le hq57
          unfold b_Co_giveOut_85
          unfold b_Co_giveOut_86
          have hI59 := IMc_u (u := 88) (i := x3_3.toNatClampNeg) (v := x1_1) hI8 (show B (-2147483648) 2147483647 (x1_1) from (B_w b5 (by decide +kernel) (by decide +kernel)))
          have hI60 := IMc_u (u := 89) (i := x3_3.toNatClampNeg) (v := T4 86 5) hI59 (show B (-2147483648) 2147483647 (T4 86 5) from (B_w b15 (by decide +kernel) (by decide +kernel)))
          have hI61 := IMc_u (u := 86) (i := 5) (v := (T4 86 5) + (T4 87 x3_3.toNatClampNeg)) hI60 (show B (-2147483648) 2147483647 ((T4 86 5) + (T4 87 x3_3.toNatClampNeg)) from (B_w b50 (by decide +kernel) (by decide +kernel)))
          have g65 := agc_tr (agc_refl (fs := [8605]) (rs := [88, 89]) (F := va_up F 86 (upd (F 86) 5 0))) g9 (by decide +kernel) (by decide +kernel)
          have g64 := agc_r (u := 88) (w := upd (T4 88) x3_3.toNatClampNeg x1_1) g65 rfl (by decide +kernel)
          have g63 := agc_r (u := 89) (w := upd (T4 89) x3_3.toNatClampNeg (T4 86 5)) g64 rfl (by decide +kernel)
          have g62 := agc_f (u := 86) (k := 5) (v := (T4 86 5) + (T4 87 x3_3.toNatClampNeg)) g63 rfl (by decide +kernel)
          have q66 : (1) ≤ (x3_3).toInt ∧ (x3_3).toInt ≤ (16) := (show B 1 16 (x3_3) from B_w b22 (by decide +kernel) (by decide +kernel))
          have e67 : (x3_3 + 1).toInt = ((x3_3).toInt + 1) := (t_add b22 (show B 1 1 (1 : Int32) from ⟨by decide +kernel, by decide +kernel⟩) (by decide +kernel) (by decide +kernel)).trans (by rw [(show (1 : Int32).toInt = 1 from by decide +kernel)])
          have q68 : (2) ≤ (x3_3 + 1).toInt ∧ (x3_3 + 1).toInt ≤ (17) := (show B 2 17 (x3_3 + 1) from B_w (B_add b22 (show B 1 1 (1 : Int32) from ⟨by decide +kernel, by decide +kernel⟩) (by decide +kernel) (by decide +kernel)) (by decide +kernel) (by decide +kernel))
          exact hR11 ⟨(B_w (B_any _) (by decide +kernel) (by decide +kernel)), (B_w (show B 0 0 (0 : Int32) from ⟨by decide +kernel, by decide +kernel⟩) (by decide +kernel) (by decide +kernel)), (B_w (B_add b22 (show B 1 1 (1 : Int32) from ⟨by decide +kernel, by decide +kernel⟩) (by decide +kernel) (by decide +kernel)) (by decide +kernel) (by decide +kernel)), _, _, rfl, hI61, g62, (fun h => absurd rfl h), (by show (0 ≤ ((T4 86 5) + (T4 87 x3_3.toNatClampNeg)).toInt) ∧ (((T4 86 5) + (T4 87 x3_3.toNatClampNeg)).toInt ≤ 511); omega), (by show ((0 : Int) = 0) ∨ (((T4 86 5) + (T4 87 x3_3.toNatClampNeg)).toInt ≤ 256); omega)⟩ (by show (17 - (x3_3 + 1).toInt).toNat < (17 - x3_3.toInt).toNat; omega)
        · have hq69 := (nle_lt hc)
          have b70 : B (-2147483648) 2147483646 (x1_1 + (T4 87 x3_3.toNatClampNeg)) := B_w (B_ltL (B_any _) (B_any _) hq69) (by decide +kernel) (by decide +kernel)
          have b71 : B (-2147483647) 2147483647 (((1 : Int32) <<< (x3_3 &&& 31 : Int32) : Int32)) := B_w (B_ltR (B_any _) (B_any _) hq69) (by decide +kernel) (by decide +kernel)
          have q72 : (-2147483648) ≤ (x1_1 + (T4 87 x3_3.toNatClampNeg)).toInt ∧ (x1_1 + (T4 87 x3_3.toNatClampNeg)).toInt ≤ (2147483646) := (show B (-2147483648) 2147483646 (x1_1 + (T4 87 x3_3.toNatClampNeg)) from B_w b70 (by decide +kernel) (by decide +kernel))
          have q73 : (-2147483647) ≤ (((1 : Int32) <<< (x3_3 &&& 31 : Int32) : Int32)).toInt ∧ (((1 : Int32) <<< (x3_3 &&& 31 : Int32) : Int32)).toInt ≤ (2147483647) := (show B (-2147483647) 2147483647 (((1 : Int32) <<< (x3_3 &&& 31 : Int32) : Int32)) from B_w b71 (by decide +kernel) (by decide +kernel))
          have i74 : (x1_1 + (T4 87 x3_3.toNatClampNeg)).toInt < (((1 : Int32) <<< (x3_3 &&& 31 : Int32) : Int32)).toInt := i_lt hq69
          unfold b_Co_giveOut_86
          have hI75 := IMc_u (u := 88) (i := x3_3.toNatClampNeg) (v := x1_1) hI8 (show B (-2147483648) 2147483647 (x1_1) from (B_w b5 (by decide +kernel) (by decide +kernel)))
          have hI76 := IMc_u (u := 89) (i := x3_3.toNatClampNeg) (v := T4 86 5) hI75 (show B (-2147483648) 2147483647 (T4 86 5) from (B_w b15 (by decide +kernel) (by decide +kernel)))
          have hI77 := IMc_u (u := 86) (i := 5) (v := (T4 86 5) + (T4 87 x3_3.toNatClampNeg)) hI76 (show B (-2147483648) 2147483647 ((T4 86 5) + (T4 87 x3_3.toNatClampNeg)) from (B_w b50 (by decide +kernel) (by decide +kernel)))
          have g81 := agc_tr (agc_refl (fs := [8605]) (rs := [88, 89]) (F := va_up F 86 (upd (F 86) 5 0))) g9 (by decide +kernel) (by decide +kernel)
          have g80 := agc_r (u := 88) (w := upd (T4 88) x3_3.toNatClampNeg x1_1) g81 rfl (by decide +kernel)
          have g79 := agc_r (u := 89) (w := upd (T4 89) x3_3.toNatClampNeg (T4 86 5)) g80 rfl (by decide +kernel)
          have g78 := agc_f (u := 86) (k := 5) (v := (T4 86 5) + (T4 87 x3_3.toNatClampNeg)) g79 rfl (by decide +kernel)
          have q82 : (1) ≤ (x3_3).toInt ∧ (x3_3).toInt ≤ (16) := (show B 1 16 (x3_3) from B_w b22 (by decide +kernel) (by decide +kernel))
          have e83 : (x3_3 + 1).toInt = ((x3_3).toInt + 1) := (t_add b22 (show B 1 1 (1 : Int32) from ⟨by decide +kernel, by decide +kernel⟩) (by decide +kernel) (by decide +kernel)).trans (by rw [(show (1 : Int32).toInt = 1 from by decide +kernel)])
          have q84 : (2) ≤ (x3_3 + 1).toInt ∧ (x3_3 + 1).toInt ≤ (17) := (show B 2 17 (x3_3 + 1) from B_w (B_add b22 (show B 1 1 (1 : Int32) from ⟨by decide +kernel, by decide +kernel⟩) (by decide +kernel) (by decide +kernel)) (by decide +kernel) (by decide +kernel))
          exact hR11 ⟨(B_w (B_any _) (by decide +kernel) (by decide +kernel)), (B_w (show B 1 1 (1 : Int32) from ⟨by decide +kernel, by decide +kernel⟩) (by decide +kernel) (by decide +kernel)), (B_w (B_add b22 (show B 1 1 (1 : Int32) from ⟨by decide +kernel, by decide +kernel⟩) (by decide +kernel) (by decide +kernel)) (by decide +kernel) (by decide +kernel)), _, _, rfl, hI77, g78, (gQ_up (u := 86) (F := T4) (G := va_up (va_up (va_up T4 88 (upd (T4 88) x3_3.toNatClampNeg x1_1)) 89 (upd (T4 89) x3_3.toNatClampNeg (T4 86 5))) 86 (upd (T4 86) 5 ((T4 86 5) + (T4 87 x3_3.toNatClampNeg)))) (x := x2_2) (x' := 1) (n := x3_3) (n' := x3_3 + 1) r11 (fun _ => B_nz b29 (by decide +kernel)) (by omega) (by omega) rfl (T4 86 5) rfl (fun _ => ⟨by omega, by show (T4 86 5).toInt + (T4 87 x3_3.toNatClampNeg).toInt ≤ 256; omega⟩)), (by show (0 ≤ ((T4 86 5) + (T4 87 x3_3.toNatClampNeg)).toInt) ∧ (((T4 86 5) + (T4 87 x3_3.toNatClampNeg)).toInt ≤ 511); omega), (by show ((1 : Int) = 0) ∨ (((T4 86 5) + (T4 87 x3_3.toNatClampNeg)).toInt ≤ 256); omega)⟩ (by show (17 - (x3_3 + 1).toInt).toNat < (17 - x3_3.toInt).toNat; omega)
set_option maxRecDepth 20000 in
set_option maxHeartbeats 4000000 in
theorem h_Co_giveOut_u91 {a : Bool} {b : Bool} {P : Nat → Nat → Nat} {F : cF} {L : cL} {K : Int32 → cs → Prop} (hI : IMc F) (hK : ∀ {v : Int32} {Z : cF} {LZ : cL}, B 0 1 v → IMc Z → agc [9105] [93, 94] F Z → (gQ 91 v 17 Z) → ((v.toInt = 0) ∨ ((Z 91 5).toInt ≤ 256)) → K v (Z, LZ, PC a b P)) : p_Co_giveOut UL 91 (F, L, PC a b P) K := by
  unfold p_Co_giveOut
  have hI10 := IMc_u (u := 91) (i := 5) (v := 0) hI (show B (-2147483648) 2147483647 (0) from (B_w (show B 0 0 (0 : Int32) from ⟨by decide +kernel, by decide +kernel⟩) (by decide +kernel) (by decide +kernel)))
  refine ⟨fun yx1 yx2 yx3 yS => B (-2147483648) 2147483647 yx1 ∧ B 0 1 yx2 ∧ B 1 17 yx3 ∧ ∃ (T4 : cF) (LT4 : cL), yS = (T4, LT4, PC a b P) ∧ IMc T4 ∧ agc [9105] [93, 94] (va_up F 91 (upd (F 91) 5 0)) T4 ∧ (gQ 91 yx2 yx3 T4) ∧ ((0 ≤ (T4 91 5).toInt) ∧ ((T4 91 5).toInt ≤ 511)) ∧ ((yx2.toInt = 0) ∨ ((T4 91 5).toInt ≤ 256)), fun yx1 yx2 yx3 yS => (17 - yx3.toInt).toNat, ⟨(B_w (show B 0 0 (0 : Int32) from ⟨by decide +kernel, by decide +kernel⟩) (by decide +kernel) (by decide +kernel)), (B_w (show B 1 1 (1 : Int32) from ⟨by decide +kernel, by decide +kernel⟩) (by decide +kernel) (by decide +kernel)), (B_w (show B 1 1 (1 : Int32) from ⟨by decide +kernel, by decide +kernel⟩) (by decide +kernel) (by decide +kernel)), _, _, rfl, hI10, (agc_refl (fs := [9105]) (rs := [93, 94]) (F := va_up F 91 (upd (F 91) 5 0))), (fun _ m h1 h2 => by have e : (1 : Int32).toInt = 1 := (by decide +kernel); omega), (by show ((0 : Int) ≤ 0) ∧ ((0 : Int) ≤ 511); omega), (by show ((1 : Int) = 0) ∨ ((0 : Int) ≤ 256); omega)⟩, fun x1_1 x2_2 x3_3 ST4 hIv => ?_⟩
  obtain ⟨b5, b6, b7, T4, LT4, rfl, hI8, g9, r11, r12, r13⟩ := hIv
  suffices hs : ∀ (R11 : Int32 → Int32 → Int32 → cs → Prop), (∀ zx1 zx2 zx3 zS, (B (-2147483648) 2147483647 zx1 ∧ B 0 1 zx2 ∧ B 1 17 zx3 ∧ ∃ (T4 : cF) (LT4 : cL), zS = (T4, LT4, PC a b P) ∧ IMc T4 ∧ agc [9105] [93, 94] (va_up F 91 (upd (F 91) 5 0)) T4 ∧ (gQ 91 zx2 zx3 T4) ∧ ((0 ≤ (T4 91 5).toInt) ∧ ((T4 91 5).toInt ≤ 511)) ∧ ((zx2.toInt = 0) ∨ ((T4 91 5).toInt ≤ 256))) → (17 - zx3.toInt).toNat < (17 - x3_3.toInt).toNat → R11 zx1 zx2 zx3 zS) → b_Co_giveOut_11 UL 91 x1_1 x2_2 x3_3 (T4, LT4, PC a b P) R11 K from hs _ (fun _ _ _ _ h1 h2 => ⟨h1, h2⟩)
  intro R11 hR110
  have hR11 := fun {zx1} {zx2} {zx3} {zS} => hR110 zx1 zx2 zx3 zS
  have q14 : (0) ≤ (x2_2).toInt ∧ (x2_2).toInt ≤ (1) := (show B 0 1 (x2_2) from B_w b6 (by decide +kernel) (by decide +kernel))
  have b15 : B 0 511 (T4 91 5) := ⟨by omega, by omega⟩
  unfold b_Co_giveOut_11
  refine ⟨fun hc => ?_, fun hc => ?_⟩
  · have hq16 := hc
    have b17 : B 17 17 (x3_3) := B_w (B_ltR (show B 16 16 (16 : Int32) from ⟨by decide +kernel, by decide +kernel⟩) b7 hq16) (by decide +kernel) (by decide +kernel)
    unfold b_Co_giveOut_97
    refine ⟨B_nar b6 (by decide +kernel) (by decide +kernel), ?_⟩
    have g19 := agc_f (u := 91) (k := 5) (v := 0) (agc_refl (fs := [9105]) (rs := [93, 94]) (F := F)) rfl (by decide +kernel)
    have g18 := agc_tr g19 g9 (by decide +kernel) (by decide +kernel)
    have q20 : (17) ≤ (x3_3).toInt ∧ (x3_3).toInt ≤ (17) := (show B 17 17 (x3_3) from B_w b17 (by decide +kernel) (by decide +kernel))
    exact hK b6 hI8 g18 (fun hx m h1 h2 => (r11) hx m h1 (by have e : (17 : Int32).toInt = 17 := (by decide +kernel); omega)) (by show (x2_2.toInt = 0) ∨ ((T4 91 5).toInt ≤ 256); omega)
  · have hq21 := (nlt_le hc)
    have b22 : B 1 16 (x3_3) := B_w (B_leL b7 (show B 16 16 (16 : Int32) from ⟨by decide +kernel, by decide +kernel⟩) hq21) (by decide +kernel) (by decide +kernel)
    refine ⟨fun hc => ?_, fun hc => ?_⟩
    · have b23 : B 0 0 (x2_2) := B_w (B_eq hc (show B 0 0 (0 : Int32) from ⟨by decide +kernel, by decide +kernel⟩)) (by decide +kernel) (by decide +kernel)
      have q24 : (0) ≤ (x2_2).toInt ∧ (x2_2).toInt ≤ (0) := (show B 0 0 (x2_2) from B_w b23 (by decide +kernel) (by decide +kernel))
      have i25 : (x2_2).toInt = (0 : Int32).toInt := congrArg Int32.toInt hc
      have n26 : (0 : Int32).toInt = 0 := by decide +kernel
      unfold b_Co_giveOut_97
      refine ⟨B_nar b23 (by decide +kernel) (by decide +kernel), ?_⟩
      have g28 := agc_f (u := 91) (k := 5) (v := 0) (agc_refl (fs := [9105]) (rs := [93, 94]) (F := F)) rfl (by decide +kernel)
      have g27 := agc_tr g28 g9 (by decide +kernel) (by decide +kernel)
      exact hK (B_w b23 (by decide +kernel) (by decide +kernel)) hI8 g27 (fun h => absurd (B_z b23) h) (by show (x2_2.toInt = 0) ∨ ((T4 91 5).toInt ≤ 256); omega)
    · have b29 : B 1 1 (x2_2) := B_w (B_n0 b6 hc) (by decide +kernel) (by decide +kernel)
      have q30 : (1) ≤ (x2_2).toInt ∧ (x2_2).toInt ≤ (1) := (show B 1 1 (x2_2) from B_w b29 (by decide +kernel) (by decide +kernel))
      refine ⟨(show ¬ ((93 : Nat) = NU) from by decide +kernel), ?_⟩
      refine ⟨(show c_cl UL 93 = 902 from cl_93), ?_⟩
      refine ⟨(show vp_in (x3_3) 17 from vp_B b22 (by decide +kernel) (by decide +kernel)), ?_⟩
      refine ⟨(show ¬ ((94 : Nat) = NU) from by decide +kernel), ?_⟩
      refine ⟨(show c_cl UL 94 = 902 from cl_94), ?_⟩
      refine ⟨(show vp_in (x3_3) 17 from vp_B b22 (by decide +kernel) (by decide +kernel)), ?_⟩
      refine ⟨(show ¬ ((92 : Nat) = NU) from by decide +kernel), ?_⟩
      refine ⟨(show c_cl UL 92 = 902 from cl_92), ?_⟩
      refine ⟨(show vp_in (x3_3) 17 from vp_B b22 (by decide +kernel) (by decide +kernel)), ?_⟩
      refine ⟨(show ¬ ((92 : Nat) = NU) from by decide +kernel), ?_⟩
      refine ⟨(show vp_in (x3_3) 17 from vp_B b22 (by decide +kernel) (by decide +kernel)), ?_⟩
      refine ⟨(show ¬ ((95 : Nat) = NU) from by decide +kernel), ?_⟩
      refine ⟨(show c_cl UL 95 = 902 from cl_95), ?_⟩
      refine ⟨fun hc => ?_, fun hc => ?_⟩
      · have hq31 := hc
        have b32 : B 257 766 ((T4 91 5) + (T4 92 x3_3.toNatClampNeg)) := B_w (B_ltR (show B 256 256 (256 : Int32) from ⟨by decide +kernel, by decide +kernel⟩) (B_add b15 (B_eq (congrFun (g9.2 92 rfl rfl) x3_3.toNatClampNeg) (show B 0 255 (F 92 x3_3.toNatClampNeg) from hI 92 x3_3.toNatClampNeg)) (by decide +kernel) (by decide +kernel)) hq31) (by decide +kernel) (by decide +kernel)
        have q33 : (0) ≤ (F 92 x3_3.toNatClampNeg).toInt ∧ (F 92 x3_3.toNatClampNeg).toInt ≤ (255) := (show B 0 255 (F 92 x3_3.toNatClampNeg) from B_w (show B 0 255 (F 92 x3_3.toNatClampNeg) from hI 92 x3_3.toNatClampNeg) (by decide +kernel) (by decide +kernel))
        have e34 : (T4 92 x3_3.toNatClampNeg).toInt = (F 92 x3_3.toNatClampNeg).toInt := (congrArg Int32.toInt (congrFun (g9.2 92 rfl rfl) x3_3.toNatClampNeg)).trans rfl
        have e35 : ((T4 91 5) + (T4 92 x3_3.toNatClampNeg)).toInt = ((T4 91 5).toInt + (F 92 x3_3.toNatClampNeg).toInt) := (t_add b15 (B_eq (congrFun (g9.2 92 rfl rfl) x3_3.toNatClampNeg) (show B 0 255 (F 92 x3_3.toNatClampNeg) from hI 92 x3_3.toNatClampNeg)) (by decide +kernel) (by decide +kernel)).trans (by rw [e34])
        have q36 : (257) ≤ ((T4 91 5) + (T4 92 x3_3.toNatClampNeg)).toInt ∧ ((T4 91 5) + (T4 92 x3_3.toNatClampNeg)).toInt ≤ (766) := (show B 257 766 ((T4 91 5) + (T4 92 x3_3.toNatClampNeg)) from B_w b32 (by decide +kernel) (by decide +kernel))
        have i37 : (256 : Int32).toInt < ((T4 91 5) + (T4 92 x3_3.toNatClampNeg)).toInt := i_lt hq31
        have n38 : (256 : Int32).toInt = 256 := by decide +kernel
        unfold b_Co_giveOut_85
        unfold b_Co_giveOut_86
        have hI39 := IMc_u (u := 93) (i := x3_3.toNatClampNeg) (v := x1_1) hI8 (show B (-2147483648) 2147483647 (x1_1) from (B_w b5 (by decide +kernel) (by decide +kernel)))
        have hI40 := IMc_u (u := 94) (i := x3_3.toNatClampNeg) (v := T4 91 5) hI39 (show B (-2147483648) 2147483647 (T4 91 5) from (B_w b15 (by decide +kernel) (by decide +kernel)))
        have hI41 := IMc_u (u := 91) (i := 5) (v := (T4 91 5) + (T4 92 x3_3.toNatClampNeg)) hI40 (show B (-2147483648) 2147483647 ((T4 91 5) + (T4 92 x3_3.toNatClampNeg)) from (B_w b32 (by decide +kernel) (by decide +kernel)))
        have g45 := agc_tr (agc_refl (fs := [9105]) (rs := [93, 94]) (F := va_up F 91 (upd (F 91) 5 0))) g9 (by decide +kernel) (by decide +kernel)
        have g44 := agc_r (u := 93) (w := upd (T4 93) x3_3.toNatClampNeg x1_1) g45 rfl (by decide +kernel)
        have g43 := agc_r (u := 94) (w := upd (T4 94) x3_3.toNatClampNeg (T4 91 5)) g44 rfl (by decide +kernel)
        have g42 := agc_f (u := 91) (k := 5) (v := (T4 91 5) + (T4 92 x3_3.toNatClampNeg)) g43 rfl (by decide +kernel)
        have q46 : (1) ≤ (x3_3).toInt ∧ (x3_3).toInt ≤ (16) := (show B 1 16 (x3_3) from B_w b22 (by decide +kernel) (by decide +kernel))
        have e47 : (x3_3 + 1).toInt = ((x3_3).toInt + 1) := (t_add b22 (show B 1 1 (1 : Int32) from ⟨by decide +kernel, by decide +kernel⟩) (by decide +kernel) (by decide +kernel)).trans (by rw [(show (1 : Int32).toInt = 1 from by decide +kernel)])
        have q48 : (2) ≤ (x3_3 + 1).toInt ∧ (x3_3 + 1).toInt ≤ (17) := (show B 2 17 (x3_3 + 1) from B_w (B_add b22 (show B 1 1 (1 : Int32) from ⟨by decide +kernel, by decide +kernel⟩) (by decide +kernel) (by decide +kernel)) (by decide +kernel) (by decide +kernel))
        exact hR11 ⟨(B_w (B_any _) (by decide +kernel) (by decide +kernel)), (B_w (show B 0 0 (0 : Int32) from ⟨by decide +kernel, by decide +kernel⟩) (by decide +kernel) (by decide +kernel)), (B_w (B_add b22 (show B 1 1 (1 : Int32) from ⟨by decide +kernel, by decide +kernel⟩) (by decide +kernel) (by decide +kernel)) (by decide +kernel) (by decide +kernel)), _, _, rfl, hI41, g42, (fun h => absurd rfl h), (by show (0 ≤ ((T4 91 5) + (T4 92 x3_3.toNatClampNeg)).toInt) ∧ (((T4 91 5) + (T4 92 x3_3.toNatClampNeg)).toInt ≤ 511); omega), (by show ((0 : Int) = 0) ∨ (((T4 91 5) + (T4 92 x3_3.toNatClampNeg)).toInt ≤ 256); omega)⟩ (by show (17 - (x3_3 + 1).toInt).toNat < (17 - x3_3.toInt).toNat; omega)
      · have hq49 := (nlt_le hc)
        have b50 : B 0 256 ((T4 91 5) + (T4 92 x3_3.toNatClampNeg)) := B_w (B_leL (B_add b15 (B_eq (congrFun (g9.2 92 rfl rfl) x3_3.toNatClampNeg) (show B 0 255 (F 92 x3_3.toNatClampNeg) from hI 92 x3_3.toNatClampNeg)) (by decide +kernel) (by decide +kernel)) (show B 256 256 (256 : Int32) from ⟨by decide +kernel, by decide +kernel⟩) hq49) (by decide +kernel) (by decide +kernel)
        have q51 : (0) ≤ (F 92 x3_3.toNatClampNeg).toInt ∧ (F 92 x3_3.toNatClampNeg).toInt ≤ (255) := (show B 0 255 (F 92 x3_3.toNatClampNeg) from B_w (show B 0 255 (F 92 x3_3.toNatClampNeg) from hI 92 x3_3.toNatClampNeg) (by decide +kernel) (by decide +kernel))
        have e52 : (T4 92 x3_3.toNatClampNeg).toInt = (F 92 x3_3.toNatClampNeg).toInt := (congrArg Int32.toInt (congrFun (g9.2 92 rfl rfl) x3_3.toNatClampNeg)).trans rfl
        have e53 : ((T4 91 5) + (T4 92 x3_3.toNatClampNeg)).toInt = ((T4 91 5).toInt + (F 92 x3_3.toNatClampNeg).toInt) := (t_add b15 (B_eq (congrFun (g9.2 92 rfl rfl) x3_3.toNatClampNeg) (show B 0 255 (F 92 x3_3.toNatClampNeg) from hI 92 x3_3.toNatClampNeg)) (by decide +kernel) (by decide +kernel)).trans (by rw [e52])
        have q54 : (0) ≤ ((T4 91 5) + (T4 92 x3_3.toNatClampNeg)).toInt ∧ ((T4 91 5) + (T4 92 x3_3.toNatClampNeg)).toInt ≤ (256) := (show B 0 256 ((T4 91 5) + (T4 92 x3_3.toNatClampNeg)) from B_w b50 (by decide +kernel) (by decide +kernel))
        have i55 : ((T4 91 5) + (T4 92 x3_3.toNatClampNeg)).toInt ≤ (256 : Int32).toInt := i_le hq49
        have n56 : (256 : Int32).toInt = 256 := by decide +kernel
        refine ⟨fun hc => ?_, fun hc => ?_⟩
        · have hq57 := hc
          have i58 : (((1 : Int32) <<< (x3_3 &&& 31 : Int32) : Int32)).toInt ≤ (x1_1 + (T4 92 x3_3.toNatClampNeg)).toInt := i_le hq57
          unfold b_Co_giveOut_85
          unfold b_Co_giveOut_86
          have hI59 := IMc_u (u := 93) (i := x3_3.toNatClampNeg) (v := x1_1) hI8 (show B (-2147483648) 2147483647 (x1_1) from (B_w b5 (by decide +kernel) (by decide +kernel)))
          have hI60 := IMc_u (u := 94) (i := x3_3.toNatClampNeg) (v := T4 91 5) hI59 (show B (-2147483648) 2147483647 (T4 91 5) from (B_w b15 (by decide +kernel) (by decide +kernel)))
          have hI61 := IMc_u (u := 91) (i := 5) (v := (T4 91 5) + (T4 92 x3_3.toNatClampNeg)) hI60 (show B (-2147483648) 2147483647 ((T4 91 5) + (T4 92 x3_3.toNatClampNeg)) from (B_w b50 (by decide +kernel) (by decide +kernel)))
          have g65 := agc_tr (agc_refl (fs := [9105]) (rs := [93, 94]) (F := va_up F 91 (upd (F 91) 5 0))) g9 (by decide +kernel) (by decide +kernel)
          have g64 := agc_r (u := 93) (w := upd (T4 93) x3_3.toNatClampNeg x1_1) g65 rfl (by decide +kernel)
          have g63 := agc_r (u := 94) (w := upd (T4 94) x3_3.toNatClampNeg (T4 91 5)) g64 rfl (by decide +kernel)
          have g62 := agc_f (u := 91) (k := 5) (v := (T4 91 5) + (T4 92 x3_3.toNatClampNeg)) g63 rfl (by decide +kernel)
          have q66 : (1) ≤ (x3_3).toInt ∧ (x3_3).toInt ≤ (16) := (show B 1 16 (x3_3) from B_w b22 (by decide +kernel) (by decide +kernel))
          have e67 : (x3_3 + 1).toInt = ((x3_3).toInt + 1) := (t_add b22 (show B 1 1 (1 : Int32) from ⟨by decide +kernel, by decide +kernel⟩) (by decide +kernel) (by decide +kernel)).trans (by rw [(show (1 : Int32).toInt = 1 from by decide +kernel)])
          have q68 : (2) ≤ (x3_3 + 1).toInt ∧ (x3_3 + 1).toInt ≤ (17) := (show B 2 17 (x3_3 + 1) from B_w (B_add b22 (show B 1 1 (1 : Int32) from ⟨by decide +kernel, by decide +kernel⟩) (by decide +kernel) (by decide +kernel)) (by decide +kernel) (by decide +kernel))
          exact hR11 ⟨(B_w (B_any _) (by decide +kernel) (by decide +kernel)), (B_w (show B 0 0 (0 : Int32) from ⟨by decide +kernel, by decide +kernel⟩) (by decide +kernel) (by decide +kernel)), (B_w (B_add b22 (show B 1 1 (1 : Int32) from ⟨by decide +kernel, by decide +kernel⟩) (by decide +kernel) (by decide +kernel)) (by decide +kernel) (by decide +kernel)), _, _, rfl, hI61, g62, (fun h => absurd rfl h), (by show (0 ≤ ((T4 91 5) + (T4 92 x3_3.toNatClampNeg)).toInt) ∧ (((T4 91 5) + (T4 92 x3_3.toNatClampNeg)).toInt ≤ 511); omega), (by show ((0 : Int) = 0) ∨ (((T4 91 5) + (T4 92 x3_3.toNatClampNeg)).toInt ≤ 256); omega)⟩ (by show (17 - (x3_3 + 1).toInt).toNat < (17 - x3_3.toInt).toNat; omega)
        · have hq69 := (nle_lt hc)
          have b70 : B (-2147483648) 2147483646 (x1_1 + (T4 92 x3_3.toNatClampNeg)) := B_w (B_ltL (B_any _) (B_any _) hq69) (by decide +kernel) (by decide +kernel)
          have b71 : B (-2147483647) 2147483647 (((1 : Int32) <<< (x3_3 &&& 31 : Int32) : Int32)) := B_w (B_ltR (B_any _) (B_any _) hq69) (by decide +kernel) (by decide +kernel)
          have q72 : (-2147483648) ≤ (x1_1 + (T4 92 x3_3.toNatClampNeg)).toInt ∧ (x1_1 + (T4 92 x3_3.toNatClampNeg)).toInt ≤ (2147483646) := (show B (-2147483648) 2147483646 (x1_1 + (T4 92 x3_3.toNatClampNeg)) from B_w b70 (by decide +kernel) (by decide +kernel))
          have q73 : (-2147483647) ≤ (((1 : Int32) <<< (x3_3 &&& 31 : Int32) : Int32)).toInt ∧ (((1 : Int32) <<< (x3_3 &&& 31 : Int32) : Int32)).toInt ≤ (2147483647) := (show B (-2147483647) 2147483647 (((1 : Int32) <<< (x3_3 &&& 31 : Int32) : Int32)) from B_w b71 (by decide +kernel) (by decide +kernel))
          have i74 : (x1_1 + (T4 92 x3_3.toNatClampNeg)).toInt < (((1 : Int32) <<< (x3_3 &&& 31 : Int32) : Int32)).toInt := i_lt hq69
          unfold b_Co_giveOut_86
          have hI75 := IMc_u (u := 93) (i := x3_3.toNatClampNeg) (v := x1_1) hI8 (show B (-2147483648) 2147483647 (x1_1) from (B_w b5 (by decide +kernel) (by decide +kernel)))
          have hI76 := IMc_u (u := 94) (i := x3_3.toNatClampNeg) (v := T4 91 5) hI75 (show B (-2147483648) 2147483647 (T4 91 5) from (B_w b15 (by decide +kernel) (by decide +kernel)))
          have hI77 := IMc_u (u := 91) (i := 5) (v := (T4 91 5) + (T4 92 x3_3.toNatClampNeg)) hI76 (show B (-2147483648) 2147483647 ((T4 91 5) + (T4 92 x3_3.toNatClampNeg)) from (B_w b50 (by decide +kernel) (by decide +kernel)))
          have g81 := agc_tr (agc_refl (fs := [9105]) (rs := [93, 94]) (F := va_up F 91 (upd (F 91) 5 0))) g9 (by decide +kernel) (by decide +kernel)
          have g80 := agc_r (u := 93) (w := upd (T4 93) x3_3.toNatClampNeg x1_1) g81 rfl (by decide +kernel)
          have g79 := agc_r (u := 94) (w := upd (T4 94) x3_3.toNatClampNeg (T4 91 5)) g80 rfl (by decide +kernel)
          have g78 := agc_f (u := 91) (k := 5) (v := (T4 91 5) + (T4 92 x3_3.toNatClampNeg)) g79 rfl (by decide +kernel)
          have q82 : (1) ≤ (x3_3).toInt ∧ (x3_3).toInt ≤ (16) := (show B 1 16 (x3_3) from B_w b22 (by decide +kernel) (by decide +kernel))
          have e83 : (x3_3 + 1).toInt = ((x3_3).toInt + 1) := (t_add b22 (show B 1 1 (1 : Int32) from ⟨by decide +kernel, by decide +kernel⟩) (by decide +kernel) (by decide +kernel)).trans (by rw [(show (1 : Int32).toInt = 1 from by decide +kernel)])
          have q84 : (2) ≤ (x3_3 + 1).toInt ∧ (x3_3 + 1).toInt ≤ (17) := (show B 2 17 (x3_3 + 1) from B_w (B_add b22 (show B 1 1 (1 : Int32) from ⟨by decide +kernel, by decide +kernel⟩) (by decide +kernel) (by decide +kernel)) (by decide +kernel) (by decide +kernel))
          exact hR11 ⟨(B_w (B_any _) (by decide +kernel) (by decide +kernel)), (B_w (show B 1 1 (1 : Int32) from ⟨by decide +kernel, by decide +kernel⟩) (by decide +kernel) (by decide +kernel)), (B_w (B_add b22 (show B 1 1 (1 : Int32) from ⟨by decide +kernel, by decide +kernel⟩) (by decide +kernel) (by decide +kernel)) (by decide +kernel) (by decide +kernel)), _, _, rfl, hI77, g78, (gQ_up (u := 91) (F := T4) (G := va_up (va_up (va_up T4 93 (upd (T4 93) x3_3.toNatClampNeg x1_1)) 94 (upd (T4 94) x3_3.toNatClampNeg (T4 91 5))) 91 (upd (T4 91) 5 ((T4 91 5) + (T4 92 x3_3.toNatClampNeg)))) (x := x2_2) (x' := 1) (n := x3_3) (n' := x3_3 + 1) r11 (fun _ => B_nz b29 (by decide +kernel)) (by omega) (by omega) rfl (T4 91 5) rfl (fun _ => ⟨by omega, by show (T4 91 5).toInt + (T4 92 x3_3.toNatClampNeg).toInt ≤ 256; omega⟩)), (by show (0 ≤ ((T4 91 5) + (T4 92 x3_3.toNatClampNeg)).toInt) ∧ (((T4 91 5) + (T4 92 x3_3.toNatClampNeg)).toInt ≤ 511); omega), (by show ((1 : Int) = 0) ∨ (((T4 91 5) + (T4 92 x3_3.toNatClampNeg)).toInt ≤ 256); omega)⟩ (by show (17 - (x3_3 + 1).toInt).toNat < (17 - x3_3.toInt).toNat; omega)
set_option maxRecDepth 20000 in
set_option maxHeartbeats 4000000 in
theorem h_Co_giveOut_u96 {a : Bool} {b : Bool} {P : Nat → Nat → Nat} {F : cF} {L : cL} {K : Int32 → cs → Prop} (hI : IMc F) (hK : ∀ {v : Int32} {Z : cF} {LZ : cL}, B 0 1 v → IMc Z → agc [9605] [98, 99] F Z → (gQ 96 v 17 Z) → ((v.toInt = 0) ∨ ((Z 96 5).toInt ≤ 256)) → K v (Z, LZ, PC a b P)) : p_Co_giveOut UL 96 (F, L, PC a b P) K := by
  unfold p_Co_giveOut
  have hI10 := IMc_u (u := 96) (i := 5) (v := 0) hI (show B (-2147483648) 2147483647 (0) from (B_w (show B 0 0 (0 : Int32) from ⟨by decide +kernel, by decide +kernel⟩) (by decide +kernel) (by decide +kernel)))
  refine ⟨fun yx1 yx2 yx3 yS => B (-2147483648) 2147483647 yx1 ∧ B 0 1 yx2 ∧ B 1 17 yx3 ∧ ∃ (T4 : cF) (LT4 : cL), yS = (T4, LT4, PC a b P) ∧ IMc T4 ∧ agc [9605] [98, 99] (va_up F 96 (upd (F 96) 5 0)) T4 ∧ (gQ 96 yx2 yx3 T4) ∧ ((0 ≤ (T4 96 5).toInt) ∧ ((T4 96 5).toInt ≤ 511)) ∧ ((yx2.toInt = 0) ∨ ((T4 96 5).toInt ≤ 256)), fun yx1 yx2 yx3 yS => (17 - yx3.toInt).toNat, ⟨(B_w (show B 0 0 (0 : Int32) from ⟨by decide +kernel, by decide +kernel⟩) (by decide +kernel) (by decide +kernel)), (B_w (show B 1 1 (1 : Int32) from ⟨by decide +kernel, by decide +kernel⟩) (by decide +kernel) (by decide +kernel)), (B_w (show B 1 1 (1 : Int32) from ⟨by decide +kernel, by decide +kernel⟩) (by decide +kernel) (by decide +kernel)), _, _, rfl, hI10, (agc_refl (fs := [9605]) (rs := [98, 99]) (F := va_up F 96 (upd (F 96) 5 0))), (fun _ m h1 h2 => by have e : (1 : Int32).toInt = 1 := (by decide +kernel); omega), (by show ((0 : Int) ≤ 0) ∧ ((0 : Int) ≤ 511); omega), (by show ((1 : Int) = 0) ∨ ((0 : Int) ≤ 256); omega)⟩, fun x1_1 x2_2 x3_3 ST4 hIv => ?_⟩
  obtain ⟨b5, b6, b7, T4, LT4, rfl, hI8, g9, r11, r12, r13⟩ := hIv
  suffices hs : ∀ (R11 : Int32 → Int32 → Int32 → cs → Prop), (∀ zx1 zx2 zx3 zS, (B (-2147483648) 2147483647 zx1 ∧ B 0 1 zx2 ∧ B 1 17 zx3 ∧ ∃ (T4 : cF) (LT4 : cL), zS = (T4, LT4, PC a b P) ∧ IMc T4 ∧ agc [9605] [98, 99] (va_up F 96 (upd (F 96) 5 0)) T4 ∧ (gQ 96 zx2 zx3 T4) ∧ ((0 ≤ (T4 96 5).toInt) ∧ ((T4 96 5).toInt ≤ 511)) ∧ ((zx2.toInt = 0) ∨ ((T4 96 5).toInt ≤ 256))) → (17 - zx3.toInt).toNat < (17 - x3_3.toInt).toNat → R11 zx1 zx2 zx3 zS) → b_Co_giveOut_11 UL 96 x1_1 x2_2 x3_3 (T4, LT4, PC a b P) R11 K from hs _ (fun _ _ _ _ h1 h2 => ⟨h1, h2⟩)
  intro R11 hR110
  have hR11 := fun {zx1} {zx2} {zx3} {zS} => hR110 zx1 zx2 zx3 zS
  have q14 : (0) ≤ (x2_2).toInt ∧ (x2_2).toInt ≤ (1) := (show B 0 1 (x2_2) from B_w b6 (by decide +kernel) (by decide +kernel))
  have b15 : B 0 511 (T4 96 5) := ⟨by omega, by omega⟩
  unfold b_Co_giveOut_11
  refine ⟨fun hc => ?_, fun hc => ?_⟩
  · have hq16 := hc
    have b17 : B 17 17 (x3_3) := B_w (B_ltR (show B 16 16 (16 : Int32) from ⟨by decide +kernel, by decide +kernel⟩) b7 hq16) (by decide +kernel) (by decide +kernel)
    unfold b_Co_giveOut_97
    refine ⟨B_nar b6 (by decide +kernel) (by decide +kernel), ?_⟩
    have g19 := agc_f (u := 96) (k := 5) (v := 0) (agc_refl (fs := [9605]) (rs := [98, 99]) (F := F)) rfl (by decide +kernel)
    have g18 := agc_tr g19 g9 (by decide +kernel) (by decide +kernel)
    have q20 : (17) ≤ (x3_3).toInt ∧ (x3_3).toInt ≤ (17) := (show B 17 17 (x3_3) from B_w b17 (by decide +kernel) (by decide +kernel))
    exact hK b6 hI8 g18 (fun hx m h1 h2 => (r11) hx m h1 (by have e : (17 : Int32).toInt = 17 := (by decide +kernel); omega)) (by show (x2_2.toInt = 0) ∨ ((T4 96 5).toInt ≤ 256); omega)
  · have hq21 := (nlt_le hc)
    have b22 : B 1 16 (x3_3) := B_w (B_leL b7 (show B 16 16 (16 : Int32) from ⟨by decide +kernel, by decide +kernel⟩) hq21) (by decide +kernel) (by decide +kernel)
    refine ⟨fun hc => ?_, fun hc => ?_⟩
    · have b23 : B 0 0 (x2_2) := B_w (B_eq hc (show B 0 0 (0 : Int32) from ⟨by decide +kernel, by decide +kernel⟩)) (by decide +kernel) (by decide +kernel)
      have q24 : (0) ≤ (x2_2).toInt ∧ (x2_2).toInt ≤ (0) := (show B 0 0 (x2_2) from B_w b23 (by decide +kernel) (by decide +kernel))
      have i25 : (x2_2).toInt = (0 : Int32).toInt := congrArg Int32.toInt hc
      have n26 : (0 : Int32).toInt = 0 := by decide +kernel
      unfold b_Co_giveOut_97
      refine ⟨B_nar b23 (by decide +kernel) (by decide +kernel), ?_⟩
      have g28 := agc_f (u := 96) (k := 5) (v := 0) (agc_refl (fs := [9605]) (rs := [98, 99]) (F := F)) rfl (by decide +kernel)
      have g27 := agc_tr g28 g9 (by decide +kernel) (by decide +kernel)
      exact hK (B_w b23 (by decide +kernel) (by decide +kernel)) hI8 g27 (fun h => absurd (B_z b23) h) (by show (x2_2.toInt = 0) ∨ ((T4 96 5).toInt ≤ 256); omega)
    · have b29 : B 1 1 (x2_2) := B_w (B_n0 b6 hc) (by decide +kernel) (by decide +kernel)
      have q30 : (1) ≤ (x2_2).toInt ∧ (x2_2).toInt ≤ (1) := (show B 1 1 (x2_2) from B_w b29 (by decide +kernel) (by decide +kernel))
      refine ⟨(show ¬ ((98 : Nat) = NU) from by decide +kernel), ?_⟩
      refine ⟨(show c_cl UL 98 = 902 from cl_98), ?_⟩
      refine ⟨(show vp_in (x3_3) 17 from vp_B b22 (by decide +kernel) (by decide +kernel)), ?_⟩
      refine ⟨(show ¬ ((99 : Nat) = NU) from by decide +kernel), ?_⟩
      refine ⟨(show c_cl UL 99 = 902 from cl_99), ?_⟩
      refine ⟨(show vp_in (x3_3) 17 from vp_B b22 (by decide +kernel) (by decide +kernel)), ?_⟩
      refine ⟨(show ¬ ((97 : Nat) = NU) from by decide +kernel), ?_⟩
      refine ⟨(show c_cl UL 97 = 902 from cl_97), ?_⟩
      refine ⟨(show vp_in (x3_3) 17 from vp_B b22 (by decide +kernel) (by decide +kernel)), ?_⟩
      refine ⟨(show ¬ ((97 : Nat) = NU) from by decide +kernel), ?_⟩
      refine ⟨(show vp_in (x3_3) 17 from vp_B b22 (by decide +kernel) (by decide +kernel)), ?_⟩
      refine ⟨(show ¬ ((100 : Nat) = NU) from by decide +kernel), ?_⟩
      refine ⟨(show c_cl UL 100 = 902 from cl_100), ?_⟩
      refine ⟨fun hc => ?_, fun hc => ?_⟩
      · have hq31 := hc
        have b32 : B 257 766 ((T4 96 5) + (T4 97 x3_3.toNatClampNeg)) := B_w (B_ltR (show B 256 256 (256 : Int32) from ⟨by decide +kernel, by decide +kernel⟩) (B_add b15 (B_eq (congrFun (g9.2 97 rfl rfl) x3_3.toNatClampNeg) (show B 0 255 (F 97 x3_3.toNatClampNeg) from hI 97 x3_3.toNatClampNeg)) (by decide +kernel) (by decide +kernel)) hq31) (by decide +kernel) (by decide +kernel)
        have q33 : (0) ≤ (F 97 x3_3.toNatClampNeg).toInt ∧ (F 97 x3_3.toNatClampNeg).toInt ≤ (255) := (show B 0 255 (F 97 x3_3.toNatClampNeg) from B_w (show B 0 255 (F 97 x3_3.toNatClampNeg) from hI 97 x3_3.toNatClampNeg) (by decide +kernel) (by decide +kernel))
        have e34 : (T4 97 x3_3.toNatClampNeg).toInt = (F 97 x3_3.toNatClampNeg).toInt := (congrArg Int32.toInt (congrFun (g9.2 97 rfl rfl) x3_3.toNatClampNeg)).trans rfl
        have e35 : ((T4 96 5) + (T4 97 x3_3.toNatClampNeg)).toInt = ((T4 96 5).toInt + (F 97 x3_3.toNatClampNeg).toInt) := (t_add b15 (B_eq (congrFun (g9.2 97 rfl rfl) x3_3.toNatClampNeg) (show B 0 255 (F 97 x3_3.toNatClampNeg) from hI 97 x3_3.toNatClampNeg)) (by decide +kernel) (by decide +kernel)).trans (by rw [e34])
        have q36 : (257) ≤ ((T4 96 5) + (T4 97 x3_3.toNatClampNeg)).toInt ∧ ((T4 96 5) + (T4 97 x3_3.toNatClampNeg)).toInt ≤ (766) := (show B 257 766 ((T4 96 5) + (T4 97 x3_3.toNatClampNeg)) from B_w b32 (by decide +kernel) (by decide +kernel))
        have i37 : (256 : Int32).toInt < ((T4 96 5) + (T4 97 x3_3.toNatClampNeg)).toInt := i_lt hq31
        have n38 : (256 : Int32).toInt = 256 := by decide +kernel
        unfold b_Co_giveOut_85
        unfold b_Co_giveOut_86
        have hI39 := IMc_u (u := 98) (i := x3_3.toNatClampNeg) (v := x1_1) hI8 (show B (-2147483648) 2147483647 (x1_1) from (B_w b5 (by decide +kernel) (by decide +kernel)))
        have hI40 := IMc_u (u := 99) (i := x3_3.toNatClampNeg) (v := T4 96 5) hI39 (show B (-2147483648) 2147483647 (T4 96 5) from (B_w b15 (by decide +kernel) (by decide +kernel)))
        have hI41 := IMc_u (u := 96) (i := 5) (v := (T4 96 5) + (T4 97 x3_3.toNatClampNeg)) hI40 (show B (-2147483648) 2147483647 ((T4 96 5) + (T4 97 x3_3.toNatClampNeg)) from (B_w b32 (by decide +kernel) (by decide +kernel)))
        have g45 := agc_tr (agc_refl (fs := [9605]) (rs := [98, 99]) (F := va_up F 96 (upd (F 96) 5 0))) g9 (by decide +kernel) (by decide +kernel)
        have g44 := agc_r (u := 98) (w := upd (T4 98) x3_3.toNatClampNeg x1_1) g45 rfl (by decide +kernel)
        have g43 := agc_r (u := 99) (w := upd (T4 99) x3_3.toNatClampNeg (T4 96 5)) g44 rfl (by decide +kernel)
        have g42 := agc_f (u := 96) (k := 5) (v := (T4 96 5) + (T4 97 x3_3.toNatClampNeg)) g43 rfl (by decide +kernel)
        have q46 : (1) ≤ (x3_3).toInt ∧ (x3_3).toInt ≤ (16) := (show B 1 16 (x3_3) from B_w b22 (by decide +kernel) (by decide +kernel))
        have e47 : (x3_3 + 1).toInt = ((x3_3).toInt + 1) := (t_add b22 (show B 1 1 (1 : Int32) from ⟨by decide +kernel, by decide +kernel⟩) (by decide +kernel) (by decide +kernel)).trans (by rw [(show (1 : Int32).toInt = 1 from by decide +kernel)])
        have q48 : (2) ≤ (x3_3 + 1).toInt ∧ (x3_3 + 1).toInt ≤ (17) := (show B 2 17 (x3_3 + 1) from B_w (B_add b22 (show B 1 1 (1 : Int32) from ⟨by decide +kernel, by decide +kernel⟩) (by decide +kernel) (by decide +kernel)) (by decide +kernel) (by decide +kernel))
        exact hR11 ⟨(B_w (B_any _) (by decide +kernel) (by decide +kernel)), (B_w (show B 0 0 (0 : Int32) from ⟨by decide +kernel, by decide +kernel⟩) (by decide +kernel) (by decide +kernel)), (B_w (B_add b22 (show B 1 1 (1 : Int32) from ⟨by decide +kernel, by decide +kernel⟩) (by decide +kernel) (by decide +kernel)) (by decide +kernel) (by decide +kernel)), _, _, rfl, hI41, g42, (fun h => absurd rfl h), (by show (0 ≤ ((T4 96 5) + (T4 97 x3_3.toNatClampNeg)).toInt) ∧ (((T4 96 5) + (T4 97 x3_3.toNatClampNeg)).toInt ≤ 511); omega), (by show ((0 : Int) = 0) ∨ (((T4 96 5) + (T4 97 x3_3.toNatClampNeg)).toInt ≤ 256); omega)⟩ (by show (17 - (x3_3 + 1).toInt).toNat < (17 - x3_3.toInt).toNat; omega)
      · have hq49 := (nlt_le hc)
        have b50 : B 0 256 ((T4 96 5) + (T4 97 x3_3.toNatClampNeg)) := B_w (B_leL (B_add b15 (B_eq (congrFun (g9.2 97 rfl rfl) x3_3.toNatClampNeg) (show B 0 255 (F 97 x3_3.toNatClampNeg) from hI 97 x3_3.toNatClampNeg)) (by decide +kernel) (by decide +kernel)) (show B 256 256 (256 : Int32) from ⟨by decide +kernel, by decide +kernel⟩) hq49) (by decide +kernel) (by decide +kernel)
        have q51 : (0) ≤ (F 97 x3_3.toNatClampNeg).toInt ∧ (F 97 x3_3.toNatClampNeg).toInt ≤ (255) := (show B 0 255 (F 97 x3_3.toNatClampNeg) from B_w (show B 0 255 (F 97 x3_3.toNatClampNeg) from hI 97 x3_3.toNatClampNeg) (by decide +kernel) (by decide +kernel))
        have e52 : (T4 97 x3_3.toNatClampNeg).toInt = (F 97 x3_3.toNatClampNeg).toInt := (congrArg Int32.toInt (congrFun (g9.2 97 rfl rfl) x3_3.toNatClampNeg)).trans rfl
        have e53 : ((T4 96 5) + (T4 97 x3_3.toNatClampNeg)).toInt = ((T4 96 5).toInt + (F 97 x3_3.toNatClampNeg).toInt) := (t_add b15 (B_eq (congrFun (g9.2 97 rfl rfl) x3_3.toNatClampNeg) (show B 0 255 (F 97 x3_3.toNatClampNeg) from hI 97 x3_3.toNatClampNeg)) (by decide +kernel) (by decide +kernel)).trans (by rw [e52])
        have q54 : (0) ≤ ((T4 96 5) + (T4 97 x3_3.toNatClampNeg)).toInt ∧ ((T4 96 5) + (T4 97 x3_3.toNatClampNeg)).toInt ≤ (256) := (show B 0 256 ((T4 96 5) + (T4 97 x3_3.toNatClampNeg)) from B_w b50 (by decide +kernel) (by decide +kernel))
        have i55 : ((T4 96 5) + (T4 97 x3_3.toNatClampNeg)).toInt ≤ (256 : Int32).toInt := i_le hq49
        have n56 : (256 : Int32).toInt = 256 := by decide +kernel
        refine ⟨fun hc => ?_, fun hc => ?_⟩
        · have hq57 := hc
          have i58 : (((1 : Int32) <<< (x3_3 &&& 31 : Int32) : Int32)).toInt ≤ (x1_1 + (T4 97 x3_3.toNatClampNeg)).toInt := i_le hq57
          unfold b_Co_giveOut_85
          unfold b_Co_giveOut_86
          have hI59 := IMc_u (u := 98) (i := x3_3.toNatClampNeg) (v := x1_1) hI8 (show B (-2147483648) 2147483647 (x1_1) from (B_w b5 (by decide +kernel) (by decide +kernel)))
          have hI60 := IMc_u (u := 99) (i := x3_3.toNatClampNeg) (v := T4 96 5) hI59 (show B (-2147483648) 2147483647 (T4 96 5) from (B_w b15 (by decide +kernel) (by decide +kernel)))
          have hI61 := IMc_u (u := 96) (i := 5) (v := (T4 96 5) + (T4 97 x3_3.toNatClampNeg)) hI60 (show B (-2147483648) 2147483647 ((T4 96 5) + (T4 97 x3_3.toNatClampNeg)) from (B_w b50 (by decide +kernel) (by decide +kernel)))
          have g65 := agc_tr (agc_refl (fs := [9605]) (rs := [98, 99]) (F := va_up F 96 (upd (F 96) 5 0))) g9 (by decide +kernel) (by decide +kernel)
          have g64 := agc_r (u := 98) (w := upd (T4 98) x3_3.toNatClampNeg x1_1) g65 rfl (by decide +kernel)
          have g63 := agc_r (u := 99) (w := upd (T4 99) x3_3.toNatClampNeg (T4 96 5)) g64 rfl (by decide +kernel)
          have g62 := agc_f (u := 96) (k := 5) (v := (T4 96 5) + (T4 97 x3_3.toNatClampNeg)) g63 rfl (by decide +kernel)
          have q66 : (1) ≤ (x3_3).toInt ∧ (x3_3).toInt ≤ (16) := (show B 1 16 (x3_3) from B_w b22 (by decide +kernel) (by decide +kernel))
          have e67 : (x3_3 + 1).toInt = ((x3_3).toInt + 1) := (t_add b22 (show B 1 1 (1 : Int32) from ⟨by decide +kernel, by decide +kernel⟩) (by decide +kernel) (by decide +kernel)).trans (by rw [(show (1 : Int32).toInt = 1 from by decide +kernel)])
          have q68 : (2) ≤ (x3_3 + 1).toInt ∧ (x3_3 + 1).toInt ≤ (17) := (show B 2 17 (x3_3 + 1) from B_w (B_add b22 (show B 1 1 (1 : Int32) from ⟨by decide +kernel, by decide +kernel⟩) (by decide +kernel) (by decide +kernel)) (by decide +kernel) (by decide +kernel))
          exact hR11 ⟨(B_w (B_any _) (by decide +kernel) (by decide +kernel)), (B_w (show B 0 0 (0 : Int32) from ⟨by decide +kernel, by decide +kernel⟩) (by decide +kernel) (by decide +kernel)), (B_w (B_add b22 (show B 1 1 (1 : Int32) from ⟨by decide +kernel, by decide +kernel⟩) (by decide +kernel) (by decide +kernel)) (by decide +kernel) (by decide +kernel)), _, _, rfl, hI61, g62, (fun h => absurd rfl h), (by show (0 ≤ ((T4 96 5) + (T4 97 x3_3.toNatClampNeg)).toInt) ∧ (((T4 96 5) + (T4 97 x3_3.toNatClampNeg)).toInt ≤ 511); omega), (by show ((0 : Int) = 0) ∨ (((T4 96 5) + (T4 97 x3_3.toNatClampNeg)).toInt ≤ 256); omega)⟩ (by show (17 - (x3_3 + 1).toInt).toNat < (17 - x3_3.toInt).toNat; omega)
        · have hq69 := (nle_lt hc)
          have b70 : B (-2147483648) 2147483646 (x1_1 + (T4 97 x3_3.toNatClampNeg)) := B_w (B_ltL (B_any _) (B_any _) hq69) (by decide +kernel) (by decide +kernel)
          have b71 : B (-2147483647) 2147483647 (((1 : Int32) <<< (x3_3 &&& 31 : Int32) : Int32)) := B_w (B_ltR (B_any _) (B_any _) hq69) (by decide +kernel) (by decide +kernel)
          have q72 : (-2147483648) ≤ (x1_1 + (T4 97 x3_3.toNatClampNeg)).toInt ∧ (x1_1 + (T4 97 x3_3.toNatClampNeg)).toInt ≤ (2147483646) := (show B (-2147483648) 2147483646 (x1_1 + (T4 97 x3_3.toNatClampNeg)) from B_w b70 (by decide +kernel) (by decide +kernel))
          have q73 : (-2147483647) ≤ (((1 : Int32) <<< (x3_3 &&& 31 : Int32) : Int32)).toInt ∧ (((1 : Int32) <<< (x3_3 &&& 31 : Int32) : Int32)).toInt ≤ (2147483647) := (show B (-2147483647) 2147483647 (((1 : Int32) <<< (x3_3 &&& 31 : Int32) : Int32)) from B_w b71 (by decide +kernel) (by decide +kernel))
          have i74 : (x1_1 + (T4 97 x3_3.toNatClampNeg)).toInt < (((1 : Int32) <<< (x3_3 &&& 31 : Int32) : Int32)).toInt := i_lt hq69
          unfold b_Co_giveOut_86
          have hI75 := IMc_u (u := 98) (i := x3_3.toNatClampNeg) (v := x1_1) hI8 (show B (-2147483648) 2147483647 (x1_1) from (B_w b5 (by decide +kernel) (by decide +kernel)))
          have hI76 := IMc_u (u := 99) (i := x3_3.toNatClampNeg) (v := T4 96 5) hI75 (show B (-2147483648) 2147483647 (T4 96 5) from (B_w b15 (by decide +kernel) (by decide +kernel)))
          have hI77 := IMc_u (u := 96) (i := 5) (v := (T4 96 5) + (T4 97 x3_3.toNatClampNeg)) hI76 (show B (-2147483648) 2147483647 ((T4 96 5) + (T4 97 x3_3.toNatClampNeg)) from (B_w b50 (by decide +kernel) (by decide +kernel)))
          have g81 := agc_tr (agc_refl (fs := [9605]) (rs := [98, 99]) (F := va_up F 96 (upd (F 96) 5 0))) g9 (by decide +kernel) (by decide +kernel)
          have g80 := agc_r (u := 98) (w := upd (T4 98) x3_3.toNatClampNeg x1_1) g81 rfl (by decide +kernel)
          have g79 := agc_r (u := 99) (w := upd (T4 99) x3_3.toNatClampNeg (T4 96 5)) g80 rfl (by decide +kernel)
          have g78 := agc_f (u := 96) (k := 5) (v := (T4 96 5) + (T4 97 x3_3.toNatClampNeg)) g79 rfl (by decide +kernel)
          have q82 : (1) ≤ (x3_3).toInt ∧ (x3_3).toInt ≤ (16) := (show B 1 16 (x3_3) from B_w b22 (by decide +kernel) (by decide +kernel))
          have e83 : (x3_3 + 1).toInt = ((x3_3).toInt + 1) := (t_add b22 (show B 1 1 (1 : Int32) from ⟨by decide +kernel, by decide +kernel⟩) (by decide +kernel) (by decide +kernel)).trans (by rw [(show (1 : Int32).toInt = 1 from by decide +kernel)])
          have q84 : (2) ≤ (x3_3 + 1).toInt ∧ (x3_3 + 1).toInt ≤ (17) := (show B 2 17 (x3_3 + 1) from B_w (B_add b22 (show B 1 1 (1 : Int32) from ⟨by decide +kernel, by decide +kernel⟩) (by decide +kernel) (by decide +kernel)) (by decide +kernel) (by decide +kernel))
          exact hR11 ⟨(B_w (B_any _) (by decide +kernel) (by decide +kernel)), (B_w (show B 1 1 (1 : Int32) from ⟨by decide +kernel, by decide +kernel⟩) (by decide +kernel) (by decide +kernel)), (B_w (B_add b22 (show B 1 1 (1 : Int32) from ⟨by decide +kernel, by decide +kernel⟩) (by decide +kernel) (by decide +kernel)) (by decide +kernel) (by decide +kernel)), _, _, rfl, hI77, g78, (gQ_up (u := 96) (F := T4) (G := va_up (va_up (va_up T4 98 (upd (T4 98) x3_3.toNatClampNeg x1_1)) 99 (upd (T4 99) x3_3.toNatClampNeg (T4 96 5))) 96 (upd (T4 96) 5 ((T4 96 5) + (T4 97 x3_3.toNatClampNeg)))) (x := x2_2) (x' := 1) (n := x3_3) (n' := x3_3 + 1) r11 (fun _ => B_nz b29 (by decide +kernel)) (by omega) (by omega) rfl (T4 96 5) rfl (fun _ => ⟨by omega, by show (T4 96 5).toInt + (T4 97 x3_3.toNatClampNeg).toInt ≤ 256; omega⟩)), (by show (0 ≤ ((T4 96 5) + (T4 97 x3_3.toNatClampNeg)).toInt) ∧ (((T4 96 5) + (T4 97 x3_3.toNatClampNeg)).toInt ≤ 511); omega), (by show ((1 : Int) = 0) ∨ (((T4 96 5) + (T4 97 x3_3.toNatClampNeg)).toInt ≤ 256); omega)⟩ (by show (17 - (x3_3 + 1).toInt).toNat < (17 - x3_3.toInt).toNat; omega)
set_option maxRecDepth 20000 in
set_option maxHeartbeats 4000000 in
theorem h_Un_readCodes_u59 {a : Bool} {b : Bool} {P : Nat → Nat → Nat} {F : cF} {L : cL} {K : cs → Prop} {T : Nat → cs → Prop} (hI : IMc F) (pre0 : CV F) (hK : ∀ {Z : cF} {LZ : cL}, IMc Z → agc [6001, 8100, 8105, 8600, 8605, 9100, 9105, 9600, 9605] [82, 83, 84, 85, 87, 88, 89, 90, 92, 93, 94, 95, 97, 98, 99, 100, 999] F Z → (CV Z) → K (Z, LZ, PC a b P)) (hT13 : ∀ {Z : cF} {LZ : cL}, IMc Z → agc [6001, 6006, 6007, 8105, 8605, 9105, 9605] [82, 83, 84, 85, 87, 88, 89, 90, 92, 93, 94, 95, 97, 98, 99, 100, 999] F Z → T 13 (Z, LZ, PC a b P)) : p_Un_readCodes UL 59 (F, L, PC a b P) K T := by
  unfold p_Un_readCodes
  refine h_Un_readWithin_u59 hI (fun {v4_1} {FS4_2} {LFS4_2} b3 hI4 g5 r6 => ?_) (fun hI g => hT13 hI (agc_tr (agc_refl (fs := [6001, 6006, 6007, 8105, 8605, 9105, 9605]) (rs := [82, 83, 84, 85, 87, 88, 89, 90, 92, 93, 94, 95, 97, 98, 99, 100, 999]) (F := F)) g (by decide +kernel) (by decide +kernel)))
  have r7 : (0 ≤ v4_1.toInt) ∧ (v4_1.toInt ≤ 17) := r6
  clear r6
  have q8 : (0) ≤ (v4_1).toInt ∧ (v4_1).toInt ≤ (255) := (show B 0 255 (v4_1) from B_w b3 (by decide +kernel) (by decide +kernel))
  have b9 : B 0 17 v4_1 := ⟨by omega, by omega⟩
  refine ⟨fun hc => ?_, fun hc => ?_⟩
  · have hq10 := hc
    have b11 : B 0 1 (v4_1 - ((v4_1 / 16) * 16)) := B_w (B_leL (B_rem b9 (show B 16 16 (16 : Int32) from ⟨by decide +kernel, by decide +kernel⟩) (by decide +kernel) (by decide +kernel)) (show B 1 1 (1 : Int32) from ⟨by decide +kernel, by decide +kernel⟩) hq10) (by decide +kernel) (by decide +kernel)
    have e12 : (v4_1 - ((v4_1 / 16) * 16)).toInt = ((v4_1).toInt % 16) := (t_rem b9 (show B 16 16 (16 : Int32) from ⟨by decide +kernel, by decide +kernel⟩) (by decide +kernel) (by decide +kernel)).trans (by rw [(show (16 : Int32).toInt = 16 from by decide +kernel)])
    have q13 : (0) ≤ (v4_1 - ((v4_1 / 16) * 16)).toInt ∧ (v4_1 - ((v4_1 / 16) * 16)).toInt ≤ (1) := (show B 0 1 (v4_1 - ((v4_1 / 16) * 16)) from B_w b11 (by decide +kernel) (by decide +kernel))
    have i14 : (v4_1 - ((v4_1 / 16) * 16)).toInt ≤ (1 : Int32).toInt := i_le hq10
    have n15 : (1 : Int32).toInt = 1 := by decide +kernel
    unfold b_Un_readCodes_33
    refine ⟨(show ¬ ((80 : Nat) = NU) from by decide +kernel), ?_⟩
    refine ⟨(show c_cl UL 80 = 951 from cl_80), ?_⟩
    refine ⟨(show vp_in (((v4_1 / 16) * 2) + (v4_1 - ((v4_1 / 16) * 16))) 4 from vp_B (B_add (B_mul (show B 0 1 (v4_1 / 16) from B_div2 b9 (show B 16 16 (16 : Int32) from ⟨by decide +kernel, by decide +kernel⟩) (by decide +kernel) (by decide +kernel) (by decide +kernel) (by decide +kernel)) (show B 2 2 (2 : Int32) from ⟨by decide +kernel, by decide +kernel⟩) (by decide +kernel) (by decide +kernel) (by decide +kernel)) b11 (by decide +kernel) (by decide +kernel)) (by decide +kernel) (by decide +kernel)), ?_⟩
    generalize hgxx16 : ((v4_1 / 16) * 2) + (v4_1 - ((v4_1 / 16) * 16)) = xx16
    have b17 : B 0 3 xx16 := by rw [← hgxx16]; exact (B_w (B_add (B_mul (show B 0 1 (v4_1 / 16) from B_div2 b9 (show B 16 16 (16 : Int32) from ⟨by decide +kernel, by decide +kernel⟩) (by decide +kernel) (by decide +kernel) (by decide +kernel) (by decide +kernel)) (show B 2 2 (2 : Int32) from ⟨by decide +kernel, by decide +kernel⟩) (by decide +kernel) (by decide +kernel) (by decide +kernel)) b11 (by decide +kernel) (by decide +kernel)) (by decide +kernel) (by decide +kernel))
    rcases sp_03 b17 with rfl | rfl | rfl | rfl
    · refine ⟨(show ¬ ((81 : Nat) = NU) from by decide +kernel), ?_⟩
      refine ⟨(show ¬ ((60 : Nat) = NU) from by decide +kernel), ?_⟩
      refine ⟨(show c_cl UL 60 = 8 from cl_60), ?_⟩
      refine ⟨fun yx1 yx2 yx3 yx4 yS => v4_1 = yx1 ∧ (81 : Nat) = yx2 ∧ (FS4_2 60 1) = yx3 ∧ B 1 17 yx4 ∧ ∃ (T22 : cF) (LT22 : cL), yS = (T22, LT22, PC a b P) ∧ IMc T22 ∧ agc [6001] [82, 999] FS4_2 T22, fun yx1 yx2 yx3 yx4 yS => (17 - yx4.toInt).toNat, ⟨rfl, rfl, rfl, (B_w (show B 1 1 (1 : Int32) from ⟨by decide +kernel, by decide +kernel⟩) (by decide +kernel) (by decide +kernel)), _, _, rfl, hI4, (agc_refl (fs := [6001]) (rs := [82, 999]) (F := FS4_2))⟩, fun x1_18 x2_19 x3_20 x4_21 ST22 hIv => ?_⟩
      obtain ⟨rfl, rfl, rfl, b23, T22, LT22, rfl, hI24, g25⟩ := hIv
      suffices hs : ∀ (R61 : Int32 → Nat → Int32 → Int32 → cs → Prop), (∀ zx1 zx2 zx3 zx4 zS, (v4_1 = zx1 ∧ (81 : Nat) = zx2 ∧ (FS4_2 60 1) = zx3 ∧ B 1 17 zx4 ∧ ∃ (T22 : cF) (LT22 : cL), zS = (T22, LT22, PC a b P) ∧ IMc T22 ∧ agc [6001] [82, 999] FS4_2 T22) → (17 - zx4.toInt).toNat < (17 - x4_21.toInt).toNat → R61 zx1 zx2 zx3 zx4 zS) → b_Un_readCodes_61 UL 59 v4_1 81 (FS4_2 60 1) x4_21 (T22, LT22, PC a b P) R61 K T from hs _ (fun _ _ _ _ _ h1 h2 => ⟨h1, h2⟩)
      intro R61 hR610
      have hR61 := fun {zx1} {zx2} {zx3} {zx4} {zS} => hR610 zx1 zx2 zx3 zx4 zS
      unfold b_Un_readCodes_61
      refine ⟨fun hc => ?_, fun hc => ?_⟩
      · have hq26 := hc
        have b27 : B 17 17 (x4_21) := B_w (B_ltR (show B 16 16 (16 : Int32) from ⟨by decide +kernel, by decide +kernel⟩) b23 hq26) (by decide +kernel) (by decide +kernel)
        refine ⟨(show c_cl UL 81 = 3 from cl_81), ?_⟩
        refine h_Co_giveOut_u81 hI24 (fun {v93_28} {FS93_29} {LFS93_29} b30 hI31 g32 r33 r34 => ?_)
        have r35 : gQ 81 v93_28 17 FS93_29 := r33
        clear r33
        have r36 : (v93_28.toInt = 0) ∨ ((FS93_29 81 5).toInt ≤ 256) := r34
        clear r34
        have q37 : (0) ≤ (v93_28).toInt ∧ (v93_28).toInt ≤ (1) := (show B 0 1 (v93_28) from B_w b30 (by decide +kernel) (by decide +kernel))
        refine ⟨fun hc => ?_, fun hc => ?_⟩
        · have b38 : B 1 1 (v93_28) := B_w (B_n0 b30 hc) (by decide +kernel) (by decide +kernel)
          have q39 : (1) ≤ (v93_28).toInt ∧ (v93_28).toInt ≤ (1) := (show B 1 1 (v93_28) from B_w b38 (by decide +kernel) (by decide +kernel))
          unfold b_Un_readCodes_108
          refine ⟨fun yx1 yx2 yx4 yS => v4_1 = yx1 ∧ (81 : Nat) = yx2 ∧ B 0 256 yx4 ∧ ∃ (T43 : cF) (LT43 : cL), yS = (T43, LT43, PC a b P) ∧ IMc T43 ∧ agc [6001] [85, 999] FS93_29 T43 ∧ (CQu yx2 T43) ∧ ((T43 yx2 5).toInt ≤ 256), fun yx1 yx2 yx4 yS => (256 - yx4.toInt).toNat, ⟨rfl, rfl, (B_w (show B 0 0 (0 : Int32) from ⟨by decide +kernel, by decide +kernel⟩) (by decide +kernel) (by decide +kernel)), _, _, rfl, hI31, (agc_refl (fs := [6001]) (rs := [85, 999]) (F := FS93_29)), (gQ_end r35 (by decide +kernel) (B_nz b38 (by decide +kernel))), (by show (FS93_29 81 5).toInt ≤ 256; omega)⟩, fun x1_40 x2_41 x4_42 ST43 hIv => ?_⟩
          obtain ⟨rfl, rfl, b44, T43, LT43, rfl, hI45, g46, r47, r48⟩ := hIv
          suffices hs : ∀ (R111 : Int32 → Nat → Int32 → cs → Prop), (∀ zx1 zx2 zx4 zS, (v4_1 = zx1 ∧ (81 : Nat) = zx2 ∧ B 0 256 zx4 ∧ ∃ (T43 : cF) (LT43 : cL), zS = (T43, LT43, PC a b P) ∧ IMc T43 ∧ agc [6001] [85, 999] FS93_29 T43 ∧ (CQu zx2 T43) ∧ ((T43 zx2 5).toInt ≤ 256)) → (256 - zx4.toInt).toNat < (256 - x4_42.toInt).toNat → R111 zx1 zx2 zx4 zS) → b_Un_readCodes_111 UL 59 v4_1 81 x4_42 (T43, LT43, PC a b P) R111 K T from hs _ (fun _ _ _ _ h1 h2 => ⟨h1, h2⟩)
          intro R111 hR1110
          have hR111 := fun {zx1} {zx2} {zx4} {zS} => hR1110 zx1 zx2 zx4 zS
          have e49 : (T43 81 5).toInt = (FS93_29 81 5).toInt := (congrArg Int32.toInt (g46.1 81 5 rfl rfl)).trans rfl
          unfold b_Un_readCodes_111
          refine ⟨(show c_cl UL 81 = 3 from cl_81), ?_⟩
          refine ⟨fun hc => ?_, fun hc => ?_⟩
          · have hq50 := hc
            have b51 : B (-2147483648) 256 (FS93_29 81 5) := B_w (B_eq (Eq.symm (g46.1 81 5 rfl rfl)) (B_leL (B_eq (g46.1 81 5 rfl rfl) (B_any _)) b44 hq50)) (by decide +kernel) (by decide +kernel)
            have q52 : (-2147483648) ≤ (FS93_29 81 5).toInt ∧ (FS93_29 81 5).toInt ≤ (256) := (show B (-2147483648) 256 (FS93_29 81 5) from B_w b51 (by decide +kernel) (by decide +kernel))
            have q53 : (0) ≤ (x4_42).toInt ∧ (x4_42).toInt ≤ (256) := (show B 0 256 (x4_42) from B_w b44 (by decide +kernel) (by decide +kernel))
            have i54 : (T43 81 5).toInt ≤ (x4_42).toInt := i_le hq50
            have hI55 := IMc_u (u := 81) (i := 0) (v := 1) hI45 (show B 0 1 (1) from (B_w (show B 1 1 (1 : Int32) from ⟨by decide +kernel, by decide +kernel⟩) (by decide +kernel) (by decide +kernel)))
            have g60 := agc_tr (agc_refl (fs := [6001, 8100, 8105, 8600, 8605, 9100, 9105, 9600, 9605]) (rs := [82, 83, 84, 85, 87, 88, 89, 90, 92, 93, 94, 95, 97, 98, 99, 100, 999]) (F := F)) g5 (by decide +kernel) (by decide +kernel)
            have g59 := agc_tr g60 g25 (by decide +kernel) (by decide +kernel)
            have g58 := agc_tr g59 g32 (by decide +kernel) (by decide +kernel)
            have g57 := agc_tr g58 g46 (by decide +kernel) (by decide +kernel)
            have g56 := agc_f (u := 81) (k := 0) (v := 1) g57 rfl (by decide +kernel)
            have g65 := agc_tr (agc_refl (fs := [6001, 8100, 8105]) (rs := [82, 83, 84, 85, 999]) (F := F)) g5 (by decide +kernel) (by decide +kernel)
            have g64 := agc_tr g65 g25 (by decide +kernel) (by decide +kernel)
            have g63 := agc_tr g64 g32 (by decide +kernel) (by decide +kernel)
            have g62 := agc_tr g63 g46 (by decide +kernel) (by decide +kernel)
            have g61 := agc_f (u := 81) (k := 0) (v := 1) g62 rfl (by decide +kernel)
            exact hK hI55 g56 (CV_up0 (F := F) (G := va_up T43 81 (upd (T43 81) 0 1)) pre0 (CQu_tr (u := 81) (F := T43) (G := va_up T43 81 (upd (T43 81) 0 1)) r47 (Eq.trans (g46.2 84 rfl rfl) (Eq.symm (g46.2 84 rfl rfl))) (Eq.trans ((g46.2 82 rfl rfl).trans (g32.2 82 rfl rfl)) (Eq.symm ((g46.2 82 rfl rfl).trans (g32.2 82 rfl rfl))))) g61 (by decide +kernel) (by decide +kernel))
          · have hq66 := (nle_lt hc)
            have b67 : B 1 2147483647 (FS93_29 81 5) := B_w (B_eq (Eq.symm (g46.1 81 5 rfl rfl)) (B_ltR b44 (B_eq (g46.1 81 5 rfl rfl) (B_any _)) hq66)) (by decide +kernel) (by decide +kernel)
            have q68 : (1) ≤ (FS93_29 81 5).toInt ∧ (FS93_29 81 5).toInt ≤ (2147483647) := (show B 1 2147483647 (FS93_29 81 5) from B_w b67 (by decide +kernel) (by decide +kernel))
            have q69 : (0) ≤ (x4_42).toInt ∧ (x4_42).toInt ≤ (256) := (show B 0 256 (x4_42) from B_w b44 (by decide +kernel) (by decide +kernel))
            have i70 : (x4_42).toInt < (T43 81 5).toInt := i_lt hq66
            have g75 := agc_tr (agc_refl (fs := [6001, 6006, 6007, 8105, 8605, 9105, 9605]) (rs := [82, 83, 84, 85, 87, 88, 89, 90, 92, 93, 94, 95, 97, 98, 99, 100, 999]) (F := F)) g5 (by decide +kernel) (by decide +kernel)
            have g74 := agc_tr g75 g25 (by decide +kernel) (by decide +kernel)
            have g73 := agc_tr g74 g32 (by decide +kernel) (by decide +kernel)
            have g72 := agc_tr g73 g46 (by decide +kernel) (by decide +kernel)
            refine h_Un_wantMore_u59 hI45 ?_ (fun hI g => hT13 hI (agc_tr g72 g (by decide +kernel) (by decide +kernel)))
            refine ⟨(show ¬ ((60 : Nat) = NU) from by decide +kernel), ?_⟩
            refine ⟨(show c_cl UL 60 = 8 from cl_60), ?_⟩
            have g84 := agc_tr (agc_refl (fs := [6001, 6006, 6007, 8105, 8605, 9105, 9605]) (rs := [82, 83, 84, 85, 87, 88, 89, 90, 92, 93, 94, 95, 97, 98, 99, 100, 999]) (F := F)) g5 (by decide +kernel) (by decide +kernel)
            have g83 := agc_tr g84 g25 (by decide +kernel) (by decide +kernel)
            have g82 := agc_tr g83 g32 (by decide +kernel) (by decide +kernel)
            have g81 := agc_tr g82 g46 (by decide +kernel) (by decide +kernel)
            refine h_Re_read_u60 hI45 (fun {v128_76} {FS128_77} {LFS128_77} b78 hI79 g80 => ?_) (fun hI g => hT13 hI (agc_tr g81 g (by decide +kernel) (by decide +kernel)))
            refine ⟨fun hc => ?_, fun hc => ?_⟩
            · have hq85 := hc
              have b86 : B 16 17 (v4_1) := B_w (B_leR (show B 16 16 (16 : Int32) from ⟨by decide +kernel, by decide +kernel⟩) b9 hq85) (by decide +kernel) (by decide +kernel)
              have q87 : (16) ≤ (v4_1).toInt ∧ (v4_1).toInt ≤ (17) := (show B 16 17 (v4_1) from B_w b86 (by decide +kernel) (by decide +kernel))
              refine h_Un_isForRests  (fun {v151_88} b89 => ?_)
              refine ⟨fun hc => ?_, fun hc => ?_⟩
              · have b90 : B 1 1 (v151_88) := B_w (B_n0 b89 hc) (by decide +kernel) (by decide +kernel)
                unfold b_Un_readCodes_174
                refine ⟨(show c_cl UL 81 = 3 from cl_81), ?_⟩
                refine ⟨(show ¬ ((85 : Nat) = NU) from by decide +kernel), ?_⟩
                refine ⟨(show c_cl UL 85 = 902 from cl_85), ?_⟩
                refine ⟨(show vp_in (x4_42) 256 from vp_om (x := x4_42) (by omega) (by omega)), ?_⟩
                have b91 : B 0 255 (x4_42) := ⟨by omega, by omega⟩
                have hI92 := IMc_u (u := 85) (i := x4_42.toNatClampNeg) (v := v128_76) hI79 (show B 0 255 (v128_76) from (B_w b78 (by decide +kernel) (by decide +kernel)))
                have g95 := agc_tr (agc_refl (fs := [6001]) (rs := [85, 999]) (F := FS93_29)) g46 (by decide +kernel) (by decide +kernel)
                have g94 := agc_tr g95 g80 (by decide +kernel) (by decide +kernel)
                have g93 := agc_r (u := 85) (w := upd (FS128_77 85) x4_42.toNatClampNeg v128_76) g94 rfl (by decide +kernel)
                have e96 : (FS128_77 81 5).toInt = (FS93_29 81 5).toInt := (congrArg Int32.toInt ((g80.1 81 5 rfl rfl).trans (g46.1 81 5 rfl rfl))).trans rfl
                have e97 : (x4_42 + 1).toInt = ((x4_42).toInt + 1) := (t_add b91 (show B 1 1 (1 : Int32) from ⟨by decide +kernel, by decide +kernel⟩) (by decide +kernel) (by decide +kernel)).trans (by rw [(show (1 : Int32).toInt = 1 from by decide +kernel)])
                have q98 : (1) ≤ (x4_42 + 1).toInt ∧ (x4_42 + 1).toInt ≤ (256) := (show B 1 256 (x4_42 + 1) from B_w (B_add b91 (show B 1 1 (1 : Int32) from ⟨by decide +kernel, by decide +kernel⟩) (by decide +kernel) (by decide +kernel)) (by decide +kernel) (by decide +kernel))
                exact hR111 ⟨rfl, rfl, (B_w (B_add b91 (show B 1 1 (1 : Int32) from ⟨by decide +kernel, by decide +kernel⟩) (by decide +kernel) (by decide +kernel)) (by decide +kernel) (by decide +kernel)), _, _, rfl, hI92, g93, (CQu_tr (u := 81) (F := T43) (G := va_up FS128_77 85 (upd (FS128_77 85) x4_42.toNatClampNeg v128_76)) r47 (Eq.trans ((g80.2 84 rfl rfl).trans (g46.2 84 rfl rfl)) (Eq.symm (g46.2 84 rfl rfl))) (Eq.trans (((g80.2 82 rfl rfl).trans (g46.2 82 rfl rfl)).trans (g32.2 82 rfl rfl)) (Eq.symm ((g46.2 82 rfl rfl).trans (g32.2 82 rfl rfl))))), (by show (FS128_77 81 5).toInt ≤ 256; omega)⟩ (by show (256 - (x4_42 + 1).toInt).toNat < (256 - x4_42.toInt).toNat; omega)
              · have b99 : B 0 0 (v151_88) := B_w (B_eq hc (show B 0 0 (0 : Int32) from ⟨by decide +kernel, by decide +kernel⟩)) (by decide +kernel) (by decide +kernel)
                have q100 : (0) ≤ (v151_88).toInt ∧ (v151_88).toInt ≤ (0) := (show B 0 0 (v151_88) from B_w b99 (by decide +kernel) (by decide +kernel))
                have i101 : (v151_88).toInt = (0 : Int32).toInt := congrArg Int32.toInt hc
                have n102 : (0 : Int32).toInt = 0 := by decide +kernel
                unfold b_Un_readCodes_157
                refine ⟨(show ¬ ((60 : Nat) = NU) from by decide +kernel), ?_⟩
                refine ⟨(show ¬ ((60 : Nat) = NU) from by decide +kernel), ?_⟩
                refine ⟨(show c_cl UL 60 = 8 from cl_60), ?_⟩
                have g110 := agc_tr (agc_refl (fs := [6001, 6006, 6007, 8105, 8605, 9105, 9605]) (rs := [82, 83, 84, 85, 87, 88, 89, 90, 92, 93, 94, 95, 97, 98, 99, 100, 999]) (F := F)) g5 (by decide +kernel) (by decide +kernel)
                have g109 := agc_tr g110 g25 (by decide +kernel) (by decide +kernel)
                have g108 := agc_tr g109 g32 (by decide +kernel) (by decide +kernel)
                have g107 := agc_tr g108 g46 (by decide +kernel) (by decide +kernel)
                have g106 := agc_tr g107 g80 (by decide +kernel) (by decide +kernel)
                exact h_Re_fail_u60 (B_w (show B 5 5 (5 : Int32) from ⟨by decide +kernel, by decide +kernel⟩) (by decide +kernel) (by decide +kernel)) hI79 (fun hI g => hT13 hI (agc_tr g106 g (by decide +kernel) (by decide +kernel)))
            · have hq111 := (nle_lt hc)
              have b112 : B 0 15 (v4_1) := B_w (B_ltL b9 (show B 16 16 (16 : Int32) from ⟨by decide +kernel, by decide +kernel⟩) hq111) (by decide +kernel) (by decide +kernel)
              have q113 : (0) ≤ (v4_1).toInt ∧ (v4_1).toInt ≤ (15) := (show B 0 15 (v4_1) from B_w b112 (by decide +kernel) (by decide +kernel))
              refine ⟨fun hc => ?_, fun hc => ?_⟩
              · have hq114 := hc
                have b115 : B 0 11 (v128_76) := B_w (B_leL b78 (show B 11 11 (11 : Int32) from ⟨by decide +kernel, by decide +kernel⟩) hq114) (by decide +kernel) (by decide +kernel)
                unfold b_Un_readCodes_174
                refine ⟨(show c_cl UL 81 = 3 from cl_81), ?_⟩
                refine ⟨(show ¬ ((85 : Nat) = NU) from by decide +kernel), ?_⟩
                refine ⟨(show c_cl UL 85 = 902 from cl_85), ?_⟩
                refine ⟨(show vp_in (x4_42) 256 from vp_om (x := x4_42) (by omega) (by omega)), ?_⟩
                have b116 : B 0 255 (x4_42) := ⟨by omega, by omega⟩
                have hI117 := IMc_u (u := 85) (i := x4_42.toNatClampNeg) (v := v128_76) hI79 (show B 0 255 (v128_76) from (B_w b115 (by decide +kernel) (by decide +kernel)))
                have g120 := agc_tr (agc_refl (fs := [6001]) (rs := [85, 999]) (F := FS93_29)) g46 (by decide +kernel) (by decide +kernel)
                have g119 := agc_tr g120 g80 (by decide +kernel) (by decide +kernel)
                have g118 := agc_r (u := 85) (w := upd (FS128_77 85) x4_42.toNatClampNeg v128_76) g119 rfl (by decide +kernel)
                have e121 : (FS128_77 81 5).toInt = (FS93_29 81 5).toInt := (congrArg Int32.toInt ((g80.1 81 5 rfl rfl).trans (g46.1 81 5 rfl rfl))).trans rfl
                have e122 : (x4_42 + 1).toInt = ((x4_42).toInt + 1) := (t_add b116 (show B 1 1 (1 : Int32) from ⟨by decide +kernel, by decide +kernel⟩) (by decide +kernel) (by decide +kernel)).trans (by rw [(show (1 : Int32).toInt = 1 from by decide +kernel)])
                have q123 : (1) ≤ (x4_42 + 1).toInt ∧ (x4_42 + 1).toInt ≤ (256) := (show B 1 256 (x4_42 + 1) from B_w (B_add b116 (show B 1 1 (1 : Int32) from ⟨by decide +kernel, by decide +kernel⟩) (by decide +kernel) (by decide +kernel)) (by decide +kernel) (by decide +kernel))
                exact hR111 ⟨rfl, rfl, (B_w (B_add b116 (show B 1 1 (1 : Int32) from ⟨by decide +kernel, by decide +kernel⟩) (by decide +kernel) (by decide +kernel)) (by decide +kernel) (by decide +kernel)), _, _, rfl, hI117, g118, (CQu_tr (u := 81) (F := T43) (G := va_up FS128_77 85 (upd (FS128_77 85) x4_42.toNatClampNeg v128_76)) r47 (Eq.trans ((g80.2 84 rfl rfl).trans (g46.2 84 rfl rfl)) (Eq.symm (g46.2 84 rfl rfl))) (Eq.trans (((g80.2 82 rfl rfl).trans (g46.2 82 rfl rfl)).trans (g32.2 82 rfl rfl)) (Eq.symm ((g46.2 82 rfl rfl).trans (g32.2 82 rfl rfl))))), (by show (FS128_77 81 5).toInt ≤ 256; omega)⟩ (by show (256 - (x4_42 + 1).toInt).toNat < (256 - x4_42.toInt).toNat; omega)
              · have hq124 := (nle_lt hc)
                have b125 : B 12 255 (v128_76) := B_w (B_ltR (show B 11 11 (11 : Int32) from ⟨by decide +kernel, by decide +kernel⟩) b78 hq124) (by decide +kernel) (by decide +kernel)
                unfold b_Un_readCodes_157
                refine ⟨(show ¬ ((60 : Nat) = NU) from by decide +kernel), ?_⟩
                refine ⟨(show ¬ ((60 : Nat) = NU) from by decide +kernel), ?_⟩
                refine ⟨(show c_cl UL 60 = 8 from cl_60), ?_⟩
                have g133 := agc_tr (agc_refl (fs := [6001, 6006, 6007, 8105, 8605, 9105, 9605]) (rs := [82, 83, 84, 85, 87, 88, 89, 90, 92, 93, 94, 95, 97, 98, 99, 100, 999]) (F := F)) g5 (by decide +kernel) (by decide +kernel)
                have g132 := agc_tr g133 g25 (by decide +kernel) (by decide +kernel)
                have g131 := agc_tr g132 g32 (by decide +kernel) (by decide +kernel)
                have g130 := agc_tr g131 g46 (by decide +kernel) (by decide +kernel)
                have g129 := agc_tr g130 g80 (by decide +kernel) (by decide +kernel)
                exact h_Re_fail_u60 (B_w (show B 5 5 (5 : Int32) from ⟨by decide +kernel, by decide +kernel⟩) (by decide +kernel) (by decide +kernel)) hI79 (fun hI g => hT13 hI (agc_tr g129 g (by decide +kernel) (by decide +kernel)))
        · have b134 : B 0 0 (v93_28) := B_w (B_eq hc (show B 0 0 (0 : Int32) from ⟨by decide +kernel, by decide +kernel⟩)) (by decide +kernel) (by decide +kernel)
          have q135 : (0) ≤ (v93_28).toInt ∧ (v93_28).toInt ≤ (0) := (show B 0 0 (v93_28) from B_w b134 (by decide +kernel) (by decide +kernel))
          have i136 : (v93_28).toInt = (0 : Int32).toInt := congrArg Int32.toInt hc
          have n137 : (0 : Int32).toInt = 0 := by decide +kernel
          refine ⟨(show ¬ ((60 : Nat) = NU) from by decide +kernel), ?_⟩
          refine ⟨(show c_cl UL 60 = 8 from cl_60), ?_⟩
          have g143 := agc_tr (agc_refl (fs := [6001, 6006, 6007, 8105, 8605, 9105, 9605]) (rs := [82, 83, 84, 85, 87, 88, 89, 90, 92, 93, 94, 95, 97, 98, 99, 100, 999]) (F := F)) g5 (by decide +kernel) (by decide +kernel)
          have g142 := agc_tr g143 g25 (by decide +kernel) (by decide +kernel)
          have g141 := agc_tr g142 g32 (by decide +kernel) (by decide +kernel)
          exact h_Re_fail_u60 (B_w (show B 5 5 (5 : Int32) from ⟨by decide +kernel, by decide +kernel⟩) (by decide +kernel) (by decide +kernel)) hI31 (fun hI g => hT13 hI (agc_tr g141 g (by decide +kernel) (by decide +kernel)))
      · have hq144 := (nlt_le hc)
        have b145 : B 1 16 (x4_21) := B_w (B_leL b23 (show B 16 16 (16 : Int32) from ⟨by decide +kernel, by decide +kernel⟩) hq144) (by decide +kernel) (by decide +kernel)
        have g148 := agc_tr (agc_refl (fs := [6001, 6006, 6007, 8105, 8605, 9105, 9605]) (rs := [82, 83, 84, 85, 87, 88, 89, 90, 92, 93, 94, 95, 97, 98, 99, 100, 999]) (F := F)) g5 (by decide +kernel) (by decide +kernel)
        have g147 := agc_tr g148 g25 (by decide +kernel) (by decide +kernel)
        refine h_Un_wantMore_u59 hI24 ?_ (fun hI g => hT13 hI (agc_tr g147 g (by decide +kernel) (by decide +kernel)))
        refine ⟨(show c_cl UL 81 = 3 from cl_81), ?_⟩
        refine ⟨(show ¬ ((82 : Nat) = NU) from by decide +kernel), ?_⟩
        refine ⟨(show ¬ ((60 : Nat) = NU) from by decide +kernel), ?_⟩
        refine ⟨(show c_cl UL 60 = 8 from cl_60), ?_⟩
        have g155 := agc_tr (agc_refl (fs := [6001, 6006, 6007, 8105, 8605, 9105, 9605]) (rs := [82, 83, 84, 85, 87, 88, 89, 90, 92, 93, 94, 95, 97, 98, 99, 100, 999]) (F := F)) g5 (by decide +kernel) (by decide +kernel)
        have g154 := agc_tr g155 g25 (by decide +kernel) (by decide +kernel)
        refine h_Re_read_u60 hI24 (fun {v82_149} {FS82_150} {LFS82_150} b151 hI152 g153 => ?_) (fun hI g => hT13 hI (agc_tr g154 g (by decide +kernel) (by decide +kernel)))
        refine ⟨(show c_cl UL 82 = 902 from cl_82), ?_⟩
        refine ⟨(show vp_in (x4_21) 17 from vp_B b145 (by decide +kernel) (by decide +kernel)), ?_⟩
        have hI156 := IMc_u (u := 82) (i := x4_21.toNatClampNeg) (v := v82_149) hI152 (show B 0 255 (v82_149) from (B_w b151 (by decide +kernel) (by decide +kernel)))
        have g159 := agc_tr (agc_refl (fs := [6001]) (rs := [82, 999]) (F := FS4_2)) g25 (by decide +kernel) (by decide +kernel)
        have g158 := agc_tr g159 g153 (by decide +kernel) (by decide +kernel)
        have g157 := agc_r (u := 82) (w := upd (FS82_150 82) x4_21.toNatClampNeg v82_149) g158 rfl (by decide +kernel)
        have q160 : (1) ≤ (x4_21).toInt ∧ (x4_21).toInt ≤ (16) := (show B 1 16 (x4_21) from B_w b145 (by decide +kernel) (by decide +kernel))
        have e161 : (x4_21 + 1).toInt = ((x4_21).toInt + 1) := (t_add b145 (show B 1 1 (1 : Int32) from ⟨by decide +kernel, by decide +kernel⟩) (by decide +kernel) (by decide +kernel)).trans (by rw [(show (1 : Int32).toInt = 1 from by decide +kernel)])
        have q162 : (2) ≤ (x4_21 + 1).toInt ∧ (x4_21 + 1).toInt ≤ (17) := (show B 2 17 (x4_21 + 1) from B_w (B_add b145 (show B 1 1 (1 : Int32) from ⟨by decide +kernel, by decide +kernel⟩) (by decide +kernel) (by decide +kernel)) (by decide +kernel) (by decide +kernel))
        exact hR61 ⟨rfl, rfl, rfl, (B_w (B_add b145 (show B 1 1 (1 : Int32) from ⟨by decide +kernel, by decide +kernel⟩) (by decide +kernel) (by decide +kernel)) (by decide +kernel) (by decide +kernel)), _, _, rfl, hI156, g157⟩ (by show (17 - (x4_21 + 1).toInt).toNat < (17 - x4_21.toInt).toNat; omega)
    · refine ⟨(show ¬ ((86 : Nat) = NU) from by decide +kernel), ?_⟩
      refine ⟨(show ¬ ((60 : Nat) = NU) from by decide +kernel), ?_⟩
      refine ⟨(show c_cl UL 60 = 8 from cl_60), ?_⟩
      refine ⟨fun yx1 yx2 yx3 yx4 yS => v4_1 = yx1 ∧ (86 : Nat) = yx2 ∧ (FS4_2 60 1) = yx3 ∧ B 1 17 yx4 ∧ ∃ (T167 : cF) (LT167 : cL), yS = (T167, LT167, PC a b P) ∧ IMc T167 ∧ agc [6001] [87, 999] FS4_2 T167, fun yx1 yx2 yx3 yx4 yS => (17 - yx4.toInt).toNat, ⟨rfl, rfl, rfl, (B_w (show B 1 1 (1 : Int32) from ⟨by decide +kernel, by decide +kernel⟩) (by decide +kernel) (by decide +kernel)), _, _, rfl, hI4, (agc_refl (fs := [6001]) (rs := [87, 999]) (F := FS4_2))⟩, fun x1_163 x2_164 x3_165 x4_166 ST167 hIv => ?_⟩
      obtain ⟨rfl, rfl, rfl, b168, T167, LT167, rfl, hI169, g170⟩ := hIv
      suffices hs : ∀ (R61 : Int32 → Nat → Int32 → Int32 → cs → Prop), (∀ zx1 zx2 zx3 zx4 zS, (v4_1 = zx1 ∧ (86 : Nat) = zx2 ∧ (FS4_2 60 1) = zx3 ∧ B 1 17 zx4 ∧ ∃ (T167 : cF) (LT167 : cL), zS = (T167, LT167, PC a b P) ∧ IMc T167 ∧ agc [6001] [87, 999] FS4_2 T167) → (17 - zx4.toInt).toNat < (17 - x4_166.toInt).toNat → R61 zx1 zx2 zx3 zx4 zS) → b_Un_readCodes_61 UL 59 v4_1 86 (FS4_2 60 1) x4_166 (T167, LT167, PC a b P) R61 K T from hs _ (fun _ _ _ _ _ h1 h2 => ⟨h1, h2⟩)
      intro R61 hR610
      have hR61 := fun {zx1} {zx2} {zx3} {zx4} {zS} => hR610 zx1 zx2 zx3 zx4 zS
      unfold b_Un_readCodes_61
      refine ⟨fun hc => ?_, fun hc => ?_⟩
      · have hq171 := hc
        have b172 : B 17 17 (x4_166) := B_w (B_ltR (show B 16 16 (16 : Int32) from ⟨by decide +kernel, by decide +kernel⟩) b168 hq171) (by decide +kernel) (by decide +kernel)
        refine ⟨(show c_cl UL 86 = 3 from cl_86), ?_⟩
        refine h_Co_giveOut_u86 hI169 (fun {v93_173} {FS93_174} {LFS93_174} b175 hI176 g177 r178 r179 => ?_)
        have r180 : gQ 86 v93_173 17 FS93_174 := r178
        clear r178
        have r181 : (v93_173.toInt = 0) ∨ ((FS93_174 86 5).toInt ≤ 256) := r179
        clear r179
        have q182 : (0) ≤ (v93_173).toInt ∧ (v93_173).toInt ≤ (1) := (show B 0 1 (v93_173) from B_w b175 (by decide +kernel) (by decide +kernel))
        refine ⟨fun hc => ?_, fun hc => ?_⟩
        · have b183 : B 1 1 (v93_173) := B_w (B_n0 b175 hc) (by decide +kernel) (by decide +kernel)
          have q184 : (1) ≤ (v93_173).toInt ∧ (v93_173).toInt ≤ (1) := (show B 1 1 (v93_173) from B_w b183 (by decide +kernel) (by decide +kernel))
          unfold b_Un_readCodes_108
          refine ⟨fun yx1 yx2 yx4 yS => v4_1 = yx1 ∧ (86 : Nat) = yx2 ∧ B 0 256 yx4 ∧ ∃ (T188 : cF) (LT188 : cL), yS = (T188, LT188, PC a b P) ∧ IMc T188 ∧ agc [6001] [90, 999] FS93_174 T188 ∧ (CQu yx2 T188) ∧ ((T188 yx2 5).toInt ≤ 256), fun yx1 yx2 yx4 yS => (256 - yx4.toInt).toNat, ⟨rfl, rfl, (B_w (show B 0 0 (0 : Int32) from ⟨by decide +kernel, by decide +kernel⟩) (by decide +kernel) (by decide +kernel)), _, _, rfl, hI176, (agc_refl (fs := [6001]) (rs := [90, 999]) (F := FS93_174)), (gQ_end r180 (by decide +kernel) (B_nz b183 (by decide +kernel))), (by show (FS93_174 86 5).toInt ≤ 256; omega)⟩, fun x1_185 x2_186 x4_187 ST188 hIv => ?_⟩
          obtain ⟨rfl, rfl, b189, T188, LT188, rfl, hI190, g191, r192, r193⟩ := hIv
          suffices hs : ∀ (R111 : Int32 → Nat → Int32 → cs → Prop), (∀ zx1 zx2 zx4 zS, (v4_1 = zx1 ∧ (86 : Nat) = zx2 ∧ B 0 256 zx4 ∧ ∃ (T188 : cF) (LT188 : cL), zS = (T188, LT188, PC a b P) ∧ IMc T188 ∧ agc [6001] [90, 999] FS93_174 T188 ∧ (CQu zx2 T188) ∧ ((T188 zx2 5).toInt ≤ 256)) → (256 - zx4.toInt).toNat < (256 - x4_187.toInt).toNat → R111 zx1 zx2 zx4 zS) → b_Un_readCodes_111 UL 59 v4_1 86 x4_187 (T188, LT188, PC a b P) R111 K T from hs _ (fun _ _ _ _ h1 h2 => ⟨h1, h2⟩)
          intro R111 hR1110
          have hR111 := fun {zx1} {zx2} {zx4} {zS} => hR1110 zx1 zx2 zx4 zS
          have e194 : (T188 86 5).toInt = (FS93_174 86 5).toInt := (congrArg Int32.toInt (g191.1 86 5 rfl rfl)).trans rfl
          unfold b_Un_readCodes_111
          refine ⟨(show c_cl UL 86 = 3 from cl_86), ?_⟩
          refine ⟨fun hc => ?_, fun hc => ?_⟩
          · have hq195 := hc
            have b196 : B (-2147483648) 256 (FS93_174 86 5) := B_w (B_eq (Eq.symm (g191.1 86 5 rfl rfl)) (B_leL (B_eq (g191.1 86 5 rfl rfl) (B_any _)) b189 hq195)) (by decide +kernel) (by decide +kernel)
            have q197 : (-2147483648) ≤ (FS93_174 86 5).toInt ∧ (FS93_174 86 5).toInt ≤ (256) := (show B (-2147483648) 256 (FS93_174 86 5) from B_w b196 (by decide +kernel) (by decide +kernel))
            have q198 : (0) ≤ (x4_187).toInt ∧ (x4_187).toInt ≤ (256) := (show B 0 256 (x4_187) from B_w b189 (by decide +kernel) (by decide +kernel))
            have i199 : (T188 86 5).toInt ≤ (x4_187).toInt := i_le hq195
            have hI200 := IMc_u (u := 86) (i := 0) (v := 1) hI190 (show B 0 1 (1) from (B_w (show B 1 1 (1 : Int32) from ⟨by decide +kernel, by decide +kernel⟩) (by decide +kernel) (by decide +kernel)))
            have g205 := agc_tr (agc_refl (fs := [6001, 8100, 8105, 8600, 8605, 9100, 9105, 9600, 9605]) (rs := [82, 83, 84, 85, 87, 88, 89, 90, 92, 93, 94, 95, 97, 98, 99, 100, 999]) (F := F)) g5 (by decide +kernel) (by decide +kernel)
            have g204 := agc_tr g205 g170 (by decide +kernel) (by decide +kernel)
            have g203 := agc_tr g204 g177 (by decide +kernel) (by decide +kernel)
            have g202 := agc_tr g203 g191 (by decide +kernel) (by decide +kernel)
            have g201 := agc_f (u := 86) (k := 0) (v := 1) g202 rfl (by decide +kernel)
            have g210 := agc_tr (agc_refl (fs := [6001, 8600, 8605]) (rs := [87, 88, 89, 90, 999]) (F := F)) g5 (by decide +kernel) (by decide +kernel)
            have g209 := agc_tr g210 g170 (by decide +kernel) (by decide +kernel)
            have g208 := agc_tr g209 g177 (by decide +kernel) (by decide +kernel)
            have g207 := agc_tr g208 g191 (by decide +kernel) (by decide +kernel)
            have g206 := agc_f (u := 86) (k := 0) (v := 1) g207 rfl (by decide +kernel)
            exact hK hI200 g201 (CV_up1 (F := F) (G := va_up T188 86 (upd (T188 86) 0 1)) pre0 (CQu_tr (u := 86) (F := T188) (G := va_up T188 86 (upd (T188 86) 0 1)) r192 (Eq.trans (g191.2 89 rfl rfl) (Eq.symm (g191.2 89 rfl rfl))) (Eq.trans ((g191.2 87 rfl rfl).trans (g177.2 87 rfl rfl)) (Eq.symm ((g191.2 87 rfl rfl).trans (g177.2 87 rfl rfl))))) g206 (by decide +kernel) (by decide +kernel))
          · have hq211 := (nle_lt hc)
            have b212 : B 1 2147483647 (FS93_174 86 5) := B_w (B_eq (Eq.symm (g191.1 86 5 rfl rfl)) (B_ltR b189 (B_eq (g191.1 86 5 rfl rfl) (B_any _)) hq211)) (by decide +kernel) (by decide +kernel)
            have q213 : (1) ≤ (FS93_174 86 5).toInt ∧ (FS93_174 86 5).toInt ≤ (2147483647) := (show B 1 2147483647 (FS93_174 86 5) from B_w b212 (by decide +kernel) (by decide +kernel))
            have q214 : (0) ≤ (x4_187).toInt ∧ (x4_187).toInt ≤ (256) := (show B 0 256 (x4_187) from B_w b189 (by decide +kernel) (by decide +kernel))
            have i215 : (x4_187).toInt < (T188 86 5).toInt := i_lt hq211
            have g220 := agc_tr (agc_refl (fs := [6001, 6006, 6007, 8105, 8605, 9105, 9605]) (rs := [82, 83, 84, 85, 87, 88, 89, 90, 92, 93, 94, 95, 97, 98, 99, 100, 999]) (F := F)) g5 (by decide +kernel) (by decide +kernel)
            have g219 := agc_tr g220 g170 (by decide +kernel) (by decide +kernel)
            have g218 := agc_tr g219 g177 (by decide +kernel) (by decide +kernel)
            have g217 := agc_tr g218 g191 (by decide +kernel) (by decide +kernel)
            refine h_Un_wantMore_u59 hI190 ?_ (fun hI g => hT13 hI (agc_tr g217 g (by decide +kernel) (by decide +kernel)))
            refine ⟨(show ¬ ((60 : Nat) = NU) from by decide +kernel), ?_⟩
            refine ⟨(show c_cl UL 60 = 8 from cl_60), ?_⟩
            have g229 := agc_tr (agc_refl (fs := [6001, 6006, 6007, 8105, 8605, 9105, 9605]) (rs := [82, 83, 84, 85, 87, 88, 89, 90, 92, 93, 94, 95, 97, 98, 99, 100, 999]) (F := F)) g5 (by decide +kernel) (by decide +kernel)
            have g228 := agc_tr g229 g170 (by decide +kernel) (by decide +kernel)
            have g227 := agc_tr g228 g177 (by decide +kernel) (by decide +kernel)
            have g226 := agc_tr g227 g191 (by decide +kernel) (by decide +kernel)
            refine h_Re_read_u60 hI190 (fun {v128_221} {FS128_222} {LFS128_222} b223 hI224 g225 => ?_) (fun hI g => hT13 hI (agc_tr g226 g (by decide +kernel) (by decide +kernel)))
            refine ⟨fun hc => ?_, fun hc => ?_⟩
            · have hq230 := hc
              have b231 : B 16 17 (v4_1) := B_w (B_leR (show B 16 16 (16 : Int32) from ⟨by decide +kernel, by decide +kernel⟩) b9 hq230) (by decide +kernel) (by decide +kernel)
              have q232 : (16) ≤ (v4_1).toInt ∧ (v4_1).toInt ≤ (17) := (show B 16 17 (v4_1) from B_w b231 (by decide +kernel) (by decide +kernel))
              refine h_Un_isForRests  (fun {v151_233} b234 => ?_)
              refine ⟨fun hc => ?_, fun hc => ?_⟩
              · have b235 : B 1 1 (v151_233) := B_w (B_n0 b234 hc) (by decide +kernel) (by decide +kernel)
                unfold b_Un_readCodes_174
                refine ⟨(show c_cl UL 86 = 3 from cl_86), ?_⟩
                refine ⟨(show ¬ ((90 : Nat) = NU) from by decide +kernel), ?_⟩
                refine ⟨(show c_cl UL 90 = 902 from cl_90), ?_⟩
                refine ⟨(show vp_in (x4_187) 256 from vp_om (x := x4_187) (by omega) (by omega)), ?_⟩
                have b236 : B 0 255 (x4_187) := ⟨by omega, by omega⟩
                have hI237 := IMc_u (u := 90) (i := x4_187.toNatClampNeg) (v := v128_221) hI224 (show B 0 255 (v128_221) from (B_w b223 (by decide +kernel) (by decide +kernel)))
                have g240 := agc_tr (agc_refl (fs := [6001]) (rs := [90, 999]) (F := FS93_174)) g191 (by decide +kernel) (by decide +kernel)
                have g239 := agc_tr g240 g225 (by decide +kernel) (by decide +kernel)
                have g238 := agc_r (u := 90) (w := upd (FS128_222 90) x4_187.toNatClampNeg v128_221) g239 rfl (by decide +kernel)
                have e241 : (FS128_222 86 5).toInt = (FS93_174 86 5).toInt := (congrArg Int32.toInt ((g225.1 86 5 rfl rfl).trans (g191.1 86 5 rfl rfl))).trans rfl
                have e242 : (x4_187 + 1).toInt = ((x4_187).toInt + 1) := (t_add b236 (show B 1 1 (1 : Int32) from ⟨by decide +kernel, by decide +kernel⟩) (by decide +kernel) (by decide +kernel)).trans (by rw [(show (1 : Int32).toInt = 1 from by decide +kernel)])
                have q243 : (1) ≤ (x4_187 + 1).toInt ∧ (x4_187 + 1).toInt ≤ (256) := (show B 1 256 (x4_187 + 1) from B_w (B_add b236 (show B 1 1 (1 : Int32) from ⟨by decide +kernel, by decide +kernel⟩) (by decide +kernel) (by decide +kernel)) (by decide +kernel) (by decide +kernel))
                exact hR111 ⟨rfl, rfl, (B_w (B_add b236 (show B 1 1 (1 : Int32) from ⟨by decide +kernel, by decide +kernel⟩) (by decide +kernel) (by decide +kernel)) (by decide +kernel) (by decide +kernel)), _, _, rfl, hI237, g238, (CQu_tr (u := 86) (F := T188) (G := va_up FS128_222 90 (upd (FS128_222 90) x4_187.toNatClampNeg v128_221)) r192 (Eq.trans ((g225.2 89 rfl rfl).trans (g191.2 89 rfl rfl)) (Eq.symm (g191.2 89 rfl rfl))) (Eq.trans (((g225.2 87 rfl rfl).trans (g191.2 87 rfl rfl)).trans (g177.2 87 rfl rfl)) (Eq.symm ((g191.2 87 rfl rfl).trans (g177.2 87 rfl rfl))))), (by show (FS128_222 86 5).toInt ≤ 256; omega)⟩ (by show (256 - (x4_187 + 1).toInt).toNat < (256 - x4_187.toInt).toNat; omega)
              · have b244 : B 0 0 (v151_233) := B_w (B_eq hc (show B 0 0 (0 : Int32) from ⟨by decide +kernel, by decide +kernel⟩)) (by decide +kernel) (by decide +kernel)
                have q245 : (0) ≤ (v151_233).toInt ∧ (v151_233).toInt ≤ (0) := (show B 0 0 (v151_233) from B_w b244 (by decide +kernel) (by decide +kernel))
                have i246 : (v151_233).toInt = (0 : Int32).toInt := congrArg Int32.toInt hc
                have n247 : (0 : Int32).toInt = 0 := by decide +kernel
                unfold b_Un_readCodes_157
                refine ⟨(show ¬ ((60 : Nat) = NU) from by decide +kernel), ?_⟩
                refine ⟨(show ¬ ((60 : Nat) = NU) from by decide +kernel), ?_⟩
                refine ⟨(show c_cl UL 60 = 8 from cl_60), ?_⟩
                have g255 := agc_tr (agc_refl (fs := [6001, 6006, 6007, 8105, 8605, 9105, 9605]) (rs := [82, 83, 84, 85, 87, 88, 89, 90, 92, 93, 94, 95, 97, 98, 99, 100, 999]) (F := F)) g5 (by decide +kernel) (by decide +kernel)
                have g254 := agc_tr g255 g170 (by decide +kernel) (by decide +kernel)
                have g253 := agc_tr g254 g177 (by decide +kernel) (by decide +kernel)
                have g252 := agc_tr g253 g191 (by decide +kernel) (by decide +kernel)
                have g251 := agc_tr g252 g225 (by decide +kernel) (by decide +kernel)
                exact h_Re_fail_u60 (B_w (show B 5 5 (5 : Int32) from ⟨by decide +kernel, by decide +kernel⟩) (by decide +kernel) (by decide +kernel)) hI224 (fun hI g => hT13 hI (agc_tr g251 g (by decide +kernel) (by decide +kernel)))
            · have hq256 := (nle_lt hc)
              have b257 : B 0 15 (v4_1) := B_w (B_ltL b9 (show B 16 16 (16 : Int32) from ⟨by decide +kernel, by decide +kernel⟩) hq256) (by decide +kernel) (by decide +kernel)
              have q258 : (0) ≤ (v4_1).toInt ∧ (v4_1).toInt ≤ (15) := (show B 0 15 (v4_1) from B_w b257 (by decide +kernel) (by decide +kernel))
              refine ⟨fun hc => ?_, fun hc => ?_⟩
              · have hq259 := hc
                have b260 : B 0 11 (v128_221) := B_w (B_leL b223 (show B 11 11 (11 : Int32) from ⟨by decide +kernel, by decide +kernel⟩) hq259) (by decide +kernel) (by decide +kernel)
                unfold b_Un_readCodes_174
                refine ⟨(show c_cl UL 86 = 3 from cl_86), ?_⟩
                refine ⟨(show ¬ ((90 : Nat) = NU) from by decide +kernel), ?_⟩
                refine ⟨(show c_cl UL 90 = 902 from cl_90), ?_⟩
                refine ⟨(show vp_in (x4_187) 256 from vp_om (x := x4_187) (by omega) (by omega)), ?_⟩
                have b261 : B 0 255 (x4_187) := ⟨by omega, by omega⟩
                have hI262 := IMc_u (u := 90) (i := x4_187.toNatClampNeg) (v := v128_221) hI224 (show B 0 255 (v128_221) from (B_w b260 (by decide +kernel) (by decide +kernel)))
                have g265 := agc_tr (agc_refl (fs := [6001]) (rs := [90, 999]) (F := FS93_174)) g191 (by decide +kernel) (by decide +kernel)
                have g264 := agc_tr g265 g225 (by decide +kernel) (by decide +kernel)
                have g263 := agc_r (u := 90) (w := upd (FS128_222 90) x4_187.toNatClampNeg v128_221) g264 rfl (by decide +kernel)
                have e266 : (FS128_222 86 5).toInt = (FS93_174 86 5).toInt := (congrArg Int32.toInt ((g225.1 86 5 rfl rfl).trans (g191.1 86 5 rfl rfl))).trans rfl
                have e267 : (x4_187 + 1).toInt = ((x4_187).toInt + 1) := (t_add b261 (show B 1 1 (1 : Int32) from ⟨by decide +kernel, by decide +kernel⟩) (by decide +kernel) (by decide +kernel)).trans (by rw [(show (1 : Int32).toInt = 1 from by decide +kernel)])
                have q268 : (1) ≤ (x4_187 + 1).toInt ∧ (x4_187 + 1).toInt ≤ (256) := (show B 1 256 (x4_187 + 1) from B_w (B_add b261 (show B 1 1 (1 : Int32) from ⟨by decide +kernel, by decide +kernel⟩) (by decide +kernel) (by decide +kernel)) (by decide +kernel) (by decide +kernel))
                exact hR111 ⟨rfl, rfl, (B_w (B_add b261 (show B 1 1 (1 : Int32) from ⟨by decide +kernel, by decide +kernel⟩) (by decide +kernel) (by decide +kernel)) (by decide +kernel) (by decide +kernel)), _, _, rfl, hI262, g263, (CQu_tr (u := 86) (F := T188) (G := va_up FS128_222 90 (upd (FS128_222 90) x4_187.toNatClampNeg v128_221)) r192 (Eq.trans ((g225.2 89 rfl rfl).trans (g191.2 89 rfl rfl)) (Eq.symm (g191.2 89 rfl rfl))) (Eq.trans (((g225.2 87 rfl rfl).trans (g191.2 87 rfl rfl)).trans (g177.2 87 rfl rfl)) (Eq.symm ((g191.2 87 rfl rfl).trans (g177.2 87 rfl rfl))))), (by show (FS128_222 86 5).toInt ≤ 256; omega)⟩ (by show (256 - (x4_187 + 1).toInt).toNat < (256 - x4_187.toInt).toNat; omega)
              · have hq269 := (nle_lt hc)
                have b270 : B 12 255 (v128_221) := B_w (B_ltR (show B 11 11 (11 : Int32) from ⟨by decide +kernel, by decide +kernel⟩) b223 hq269) (by decide +kernel) (by decide +kernel)
                unfold b_Un_readCodes_157
                refine ⟨(show ¬ ((60 : Nat) = NU) from by decide +kernel), ?_⟩
                refine ⟨(show ¬ ((60 : Nat) = NU) from by decide +kernel), ?_⟩
                refine ⟨(show c_cl UL 60 = 8 from cl_60), ?_⟩
                have g278 := agc_tr (agc_refl (fs := [6001, 6006, 6007, 8105, 8605, 9105, 9605]) (rs := [82, 83, 84, 85, 87, 88, 89, 90, 92, 93, 94, 95, 97, 98, 99, 100, 999]) (F := F)) g5 (by decide +kernel) (by decide +kernel)
                have g277 := agc_tr g278 g170 (by decide +kernel) (by decide +kernel)
                have g276 := agc_tr g277 g177 (by decide +kernel) (by decide +kernel)
                have g275 := agc_tr g276 g191 (by decide +kernel) (by decide +kernel)
                have g274 := agc_tr g275 g225 (by decide +kernel) (by decide +kernel)
                exact h_Re_fail_u60 (B_w (show B 5 5 (5 : Int32) from ⟨by decide +kernel, by decide +kernel⟩) (by decide +kernel) (by decide +kernel)) hI224 (fun hI g => hT13 hI (agc_tr g274 g (by decide +kernel) (by decide +kernel)))
        · have b279 : B 0 0 (v93_173) := B_w (B_eq hc (show B 0 0 (0 : Int32) from ⟨by decide +kernel, by decide +kernel⟩)) (by decide +kernel) (by decide +kernel)
          have q280 : (0) ≤ (v93_173).toInt ∧ (v93_173).toInt ≤ (0) := (show B 0 0 (v93_173) from B_w b279 (by decide +kernel) (by decide +kernel))
          have i281 : (v93_173).toInt = (0 : Int32).toInt := congrArg Int32.toInt hc
          have n282 : (0 : Int32).toInt = 0 := by decide +kernel
          refine ⟨(show ¬ ((60 : Nat) = NU) from by decide +kernel), ?_⟩
          refine ⟨(show c_cl UL 60 = 8 from cl_60), ?_⟩
          have g288 := agc_tr (agc_refl (fs := [6001, 6006, 6007, 8105, 8605, 9105, 9605]) (rs := [82, 83, 84, 85, 87, 88, 89, 90, 92, 93, 94, 95, 97, 98, 99, 100, 999]) (F := F)) g5 (by decide +kernel) (by decide +kernel)
          have g287 := agc_tr g288 g170 (by decide +kernel) (by decide +kernel)
          have g286 := agc_tr g287 g177 (by decide +kernel) (by decide +kernel)
          exact h_Re_fail_u60 (B_w (show B 5 5 (5 : Int32) from ⟨by decide +kernel, by decide +kernel⟩) (by decide +kernel) (by decide +kernel)) hI176 (fun hI g => hT13 hI (agc_tr g286 g (by decide +kernel) (by decide +kernel)))
      · have hq289 := (nlt_le hc)
        have b290 : B 1 16 (x4_166) := B_w (B_leL b168 (show B 16 16 (16 : Int32) from ⟨by decide +kernel, by decide +kernel⟩) hq289) (by decide +kernel) (by decide +kernel)
        have g293 := agc_tr (agc_refl (fs := [6001, 6006, 6007, 8105, 8605, 9105, 9605]) (rs := [82, 83, 84, 85, 87, 88, 89, 90, 92, 93, 94, 95, 97, 98, 99, 100, 999]) (F := F)) g5 (by decide +kernel) (by decide +kernel)
        have g292 := agc_tr g293 g170 (by decide +kernel) (by decide +kernel)
        refine h_Un_wantMore_u59 hI169 ?_ (fun hI g => hT13 hI (agc_tr g292 g (by decide +kernel) (by decide +kernel)))
        refine ⟨(show c_cl UL 86 = 3 from cl_86), ?_⟩
        refine ⟨(show ¬ ((87 : Nat) = NU) from by decide +kernel), ?_⟩
        refine ⟨(show ¬ ((60 : Nat) = NU) from by decide +kernel), ?_⟩
        refine ⟨(show c_cl UL 60 = 8 from cl_60), ?_⟩
        have g300 := agc_tr (agc_refl (fs := [6001, 6006, 6007, 8105, 8605, 9105, 9605]) (rs := [82, 83, 84, 85, 87, 88, 89, 90, 92, 93, 94, 95, 97, 98, 99, 100, 999]) (F := F)) g5 (by decide +kernel) (by decide +kernel)
        have g299 := agc_tr g300 g170 (by decide +kernel) (by decide +kernel)
        refine h_Re_read_u60 hI169 (fun {v82_294} {FS82_295} {LFS82_295} b296 hI297 g298 => ?_) (fun hI g => hT13 hI (agc_tr g299 g (by decide +kernel) (by decide +kernel)))
        refine ⟨(show c_cl UL 87 = 902 from cl_87), ?_⟩
        refine ⟨(show vp_in (x4_166) 17 from vp_B b290 (by decide +kernel) (by decide +kernel)), ?_⟩
        have hI301 := IMc_u (u := 87) (i := x4_166.toNatClampNeg) (v := v82_294) hI297 (show B 0 255 (v82_294) from (B_w b296 (by decide +kernel) (by decide +kernel)))
        have g304 := agc_tr (agc_refl (fs := [6001]) (rs := [87, 999]) (F := FS4_2)) g170 (by decide +kernel) (by decide +kernel)
        have g303 := agc_tr g304 g298 (by decide +kernel) (by decide +kernel)
        have g302 := agc_r (u := 87) (w := upd (FS82_295 87) x4_166.toNatClampNeg v82_294) g303 rfl (by decide +kernel)
        have q305 : (1) ≤ (x4_166).toInt ∧ (x4_166).toInt ≤ (16) := (show B 1 16 (x4_166) from B_w b290 (by decide +kernel) (by decide +kernel))
        have e306 : (x4_166 + 1).toInt = ((x4_166).toInt + 1) := (t_add b290 (show B 1 1 (1 : Int32) from ⟨by decide +kernel, by decide +kernel⟩) (by decide +kernel) (by decide +kernel)).trans (by rw [(show (1 : Int32).toInt = 1 from by decide +kernel)])
        have q307 : (2) ≤ (x4_166 + 1).toInt ∧ (x4_166 + 1).toInt ≤ (17) := (show B 2 17 (x4_166 + 1) from B_w (B_add b290 (show B 1 1 (1 : Int32) from ⟨by decide +kernel, by decide +kernel⟩) (by decide +kernel) (by decide +kernel)) (by decide +kernel) (by decide +kernel))
        exact hR61 ⟨rfl, rfl, rfl, (B_w (B_add b290 (show B 1 1 (1 : Int32) from ⟨by decide +kernel, by decide +kernel⟩) (by decide +kernel) (by decide +kernel)) (by decide +kernel) (by decide +kernel)), _, _, rfl, hI301, g302⟩ (by show (17 - (x4_166 + 1).toInt).toNat < (17 - x4_166.toInt).toNat; omega)
    · refine ⟨(show ¬ ((91 : Nat) = NU) from by decide +kernel), ?_⟩
      refine ⟨(show ¬ ((60 : Nat) = NU) from by decide +kernel), ?_⟩
      refine ⟨(show c_cl UL 60 = 8 from cl_60), ?_⟩
      refine ⟨fun yx1 yx2 yx3 yx4 yS => v4_1 = yx1 ∧ (91 : Nat) = yx2 ∧ (FS4_2 60 1) = yx3 ∧ B 1 17 yx4 ∧ ∃ (T312 : cF) (LT312 : cL), yS = (T312, LT312, PC a b P) ∧ IMc T312 ∧ agc [6001] [92, 999] FS4_2 T312, fun yx1 yx2 yx3 yx4 yS => (17 - yx4.toInt).toNat, ⟨rfl, rfl, rfl, (B_w (show B 1 1 (1 : Int32) from ⟨by decide +kernel, by decide +kernel⟩) (by decide +kernel) (by decide +kernel)), _, _, rfl, hI4, (agc_refl (fs := [6001]) (rs := [92, 999]) (F := FS4_2))⟩, fun x1_308 x2_309 x3_310 x4_311 ST312 hIv => ?_⟩
      obtain ⟨rfl, rfl, rfl, b313, T312, LT312, rfl, hI314, g315⟩ := hIv
      suffices hs : ∀ (R61 : Int32 → Nat → Int32 → Int32 → cs → Prop), (∀ zx1 zx2 zx3 zx4 zS, (v4_1 = zx1 ∧ (91 : Nat) = zx2 ∧ (FS4_2 60 1) = zx3 ∧ B 1 17 zx4 ∧ ∃ (T312 : cF) (LT312 : cL), zS = (T312, LT312, PC a b P) ∧ IMc T312 ∧ agc [6001] [92, 999] FS4_2 T312) → (17 - zx4.toInt).toNat < (17 - x4_311.toInt).toNat → R61 zx1 zx2 zx3 zx4 zS) → b_Un_readCodes_61 UL 59 v4_1 91 (FS4_2 60 1) x4_311 (T312, LT312, PC a b P) R61 K T from hs _ (fun _ _ _ _ _ h1 h2 => ⟨h1, h2⟩)
      intro R61 hR610
      have hR61 := fun {zx1} {zx2} {zx3} {zx4} {zS} => hR610 zx1 zx2 zx3 zx4 zS
      unfold b_Un_readCodes_61
      refine ⟨fun hc => ?_, fun hc => ?_⟩
      · have hq316 := hc
        have b317 : B 17 17 (x4_311) := B_w (B_ltR (show B 16 16 (16 : Int32) from ⟨by decide +kernel, by decide +kernel⟩) b313 hq316) (by decide +kernel) (by decide +kernel)
        refine ⟨(show c_cl UL 91 = 3 from cl_91), ?_⟩
        refine h_Co_giveOut_u91 hI314 (fun {v93_318} {FS93_319} {LFS93_319} b320 hI321 g322 r323 r324 => ?_)
        have r325 : gQ 91 v93_318 17 FS93_319 := r323
        clear r323
        have r326 : (v93_318.toInt = 0) ∨ ((FS93_319 91 5).toInt ≤ 256) := r324
        clear r324
        have q327 : (0) ≤ (v93_318).toInt ∧ (v93_318).toInt ≤ (1) := (show B 0 1 (v93_318) from B_w b320 (by decide +kernel) (by decide +kernel))
        refine ⟨fun hc => ?_, fun hc => ?_⟩
        · have b328 : B 1 1 (v93_318) := B_w (B_n0 b320 hc) (by decide +kernel) (by decide +kernel)
          have q329 : (1) ≤ (v93_318).toInt ∧ (v93_318).toInt ≤ (1) := (show B 1 1 (v93_318) from B_w b328 (by decide +kernel) (by decide +kernel))
          unfold b_Un_readCodes_108
          refine ⟨fun yx1 yx2 yx4 yS => v4_1 = yx1 ∧ (91 : Nat) = yx2 ∧ B 0 256 yx4 ∧ ∃ (T333 : cF) (LT333 : cL), yS = (T333, LT333, PC a b P) ∧ IMc T333 ∧ agc [6001] [95, 999] FS93_319 T333 ∧ (CQu yx2 T333) ∧ ((T333 yx2 5).toInt ≤ 256), fun yx1 yx2 yx4 yS => (256 - yx4.toInt).toNat, ⟨rfl, rfl, (B_w (show B 0 0 (0 : Int32) from ⟨by decide +kernel, by decide +kernel⟩) (by decide +kernel) (by decide +kernel)), _, _, rfl, hI321, (agc_refl (fs := [6001]) (rs := [95, 999]) (F := FS93_319)), (gQ_end r325 (by decide +kernel) (B_nz b328 (by decide +kernel))), (by show (FS93_319 91 5).toInt ≤ 256; omega)⟩, fun x1_330 x2_331 x4_332 ST333 hIv => ?_⟩
          obtain ⟨rfl, rfl, b334, T333, LT333, rfl, hI335, g336, r337, r338⟩ := hIv
          suffices hs : ∀ (R111 : Int32 → Nat → Int32 → cs → Prop), (∀ zx1 zx2 zx4 zS, (v4_1 = zx1 ∧ (91 : Nat) = zx2 ∧ B 0 256 zx4 ∧ ∃ (T333 : cF) (LT333 : cL), zS = (T333, LT333, PC a b P) ∧ IMc T333 ∧ agc [6001] [95, 999] FS93_319 T333 ∧ (CQu zx2 T333) ∧ ((T333 zx2 5).toInt ≤ 256)) → (256 - zx4.toInt).toNat < (256 - x4_332.toInt).toNat → R111 zx1 zx2 zx4 zS) → b_Un_readCodes_111 UL 59 v4_1 91 x4_332 (T333, LT333, PC a b P) R111 K T from hs _ (fun _ _ _ _ h1 h2 => ⟨h1, h2⟩)
          intro R111 hR1110
          have hR111 := fun {zx1} {zx2} {zx4} {zS} => hR1110 zx1 zx2 zx4 zS
          have e339 : (T333 91 5).toInt = (FS93_319 91 5).toInt := (congrArg Int32.toInt (g336.1 91 5 rfl rfl)).trans rfl
          unfold b_Un_readCodes_111
          refine ⟨(show c_cl UL 91 = 3 from cl_91), ?_⟩
          refine ⟨fun hc => ?_, fun hc => ?_⟩
          · have hq340 := hc
            have b341 : B (-2147483648) 256 (FS93_319 91 5) := B_w (B_eq (Eq.symm (g336.1 91 5 rfl rfl)) (B_leL (B_eq (g336.1 91 5 rfl rfl) (B_any _)) b334 hq340)) (by decide +kernel) (by decide +kernel)
            have q342 : (-2147483648) ≤ (FS93_319 91 5).toInt ∧ (FS93_319 91 5).toInt ≤ (256) := (show B (-2147483648) 256 (FS93_319 91 5) from B_w b341 (by decide +kernel) (by decide +kernel))
            have q343 : (0) ≤ (x4_332).toInt ∧ (x4_332).toInt ≤ (256) := (show B 0 256 (x4_332) from B_w b334 (by decide +kernel) (by decide +kernel))
            have i344 : (T333 91 5).toInt ≤ (x4_332).toInt := i_le hq340
            have hI345 := IMc_u (u := 91) (i := 0) (v := 1) hI335 (show B 0 1 (1) from (B_w (show B 1 1 (1 : Int32) from ⟨by decide +kernel, by decide +kernel⟩) (by decide +kernel) (by decide +kernel)))
            have g350 := agc_tr (agc_refl (fs := [6001, 8100, 8105, 8600, 8605, 9100, 9105, 9600, 9605]) (rs := [82, 83, 84, 85, 87, 88, 89, 90, 92, 93, 94, 95, 97, 98, 99, 100, 999]) (F := F)) g5 (by decide +kernel) (by decide +kernel)
            have g349 := agc_tr g350 g315 (by decide +kernel) (by decide +kernel)
            have g348 := agc_tr g349 g322 (by decide +kernel) (by decide +kernel)
            have g347 := agc_tr g348 g336 (by decide +kernel) (by decide +kernel)
            have g346 := agc_f (u := 91) (k := 0) (v := 1) g347 rfl (by decide +kernel)
            have g355 := agc_tr (agc_refl (fs := [6001, 9100, 9105]) (rs := [92, 93, 94, 95, 999]) (F := F)) g5 (by decide +kernel) (by decide +kernel)
            have g354 := agc_tr g355 g315 (by decide +kernel) (by decide +kernel)
            have g353 := agc_tr g354 g322 (by decide +kernel) (by decide +kernel)
            have g352 := agc_tr g353 g336 (by decide +kernel) (by decide +kernel)
            have g351 := agc_f (u := 91) (k := 0) (v := 1) g352 rfl (by decide +kernel)
            exact hK hI345 g346 (CV_up2 (F := F) (G := va_up T333 91 (upd (T333 91) 0 1)) pre0 (CQu_tr (u := 91) (F := T333) (G := va_up T333 91 (upd (T333 91) 0 1)) r337 (Eq.trans (g336.2 94 rfl rfl) (Eq.symm (g336.2 94 rfl rfl))) (Eq.trans ((g336.2 92 rfl rfl).trans (g322.2 92 rfl rfl)) (Eq.symm ((g336.2 92 rfl rfl).trans (g322.2 92 rfl rfl))))) g351 (by decide +kernel) (by decide +kernel))
          · have hq356 := (nle_lt hc)
            have b357 : B 1 2147483647 (FS93_319 91 5) := B_w (B_eq (Eq.symm (g336.1 91 5 rfl rfl)) (B_ltR b334 (B_eq (g336.1 91 5 rfl rfl) (B_any _)) hq356)) (by decide +kernel) (by decide +kernel)
            have q358 : (1) ≤ (FS93_319 91 5).toInt ∧ (FS93_319 91 5).toInt ≤ (2147483647) := (show B 1 2147483647 (FS93_319 91 5) from B_w b357 (by decide +kernel) (by decide +kernel))
            have q359 : (0) ≤ (x4_332).toInt ∧ (x4_332).toInt ≤ (256) := (show B 0 256 (x4_332) from B_w b334 (by decide +kernel) (by decide +kernel))
            have i360 : (x4_332).toInt < (T333 91 5).toInt := i_lt hq356
            have g365 := agc_tr (agc_refl (fs := [6001, 6006, 6007, 8105, 8605, 9105, 9605]) (rs := [82, 83, 84, 85, 87, 88, 89, 90, 92, 93, 94, 95, 97, 98, 99, 100, 999]) (F := F)) g5 (by decide +kernel) (by decide +kernel)
            have g364 := agc_tr g365 g315 (by decide +kernel) (by decide +kernel)
            have g363 := agc_tr g364 g322 (by decide +kernel) (by decide +kernel)
            have g362 := agc_tr g363 g336 (by decide +kernel) (by decide +kernel)
            refine h_Un_wantMore_u59 hI335 ?_ (fun hI g => hT13 hI (agc_tr g362 g (by decide +kernel) (by decide +kernel)))
            refine ⟨(show ¬ ((60 : Nat) = NU) from by decide +kernel), ?_⟩
            refine ⟨(show c_cl UL 60 = 8 from cl_60), ?_⟩
            have g374 := agc_tr (agc_refl (fs := [6001, 6006, 6007, 8105, 8605, 9105, 9605]) (rs := [82, 83, 84, 85, 87, 88, 89, 90, 92, 93, 94, 95, 97, 98, 99, 100, 999]) (F := F)) g5 (by decide +kernel) (by decide +kernel)
            have g373 := agc_tr g374 g315 (by decide +kernel) (by decide +kernel)
            have g372 := agc_tr g373 g322 (by decide +kernel) (by decide +kernel)
            have g371 := agc_tr g372 g336 (by decide +kernel) (by decide +kernel)
            refine h_Re_read_u60 hI335 (fun {v128_366} {FS128_367} {LFS128_367} b368 hI369 g370 => ?_) (fun hI g => hT13 hI (agc_tr g371 g (by decide +kernel) (by decide +kernel)))
            refine ⟨fun hc => ?_, fun hc => ?_⟩
            · have hq375 := hc
              have b376 : B 16 17 (v4_1) := B_w (B_leR (show B 16 16 (16 : Int32) from ⟨by decide +kernel, by decide +kernel⟩) b9 hq375) (by decide +kernel) (by decide +kernel)
              have q377 : (16) ≤ (v4_1).toInt ∧ (v4_1).toInt ≤ (17) := (show B 16 17 (v4_1) from B_w b376 (by decide +kernel) (by decide +kernel))
              refine h_Un_isForRests  (fun {v151_378} b379 => ?_)
              refine ⟨fun hc => ?_, fun hc => ?_⟩
              · have b380 : B 1 1 (v151_378) := B_w (B_n0 b379 hc) (by decide +kernel) (by decide +kernel)
                unfold b_Un_readCodes_174
                refine ⟨(show c_cl UL 91 = 3 from cl_91), ?_⟩
                refine ⟨(show ¬ ((95 : Nat) = NU) from by decide +kernel), ?_⟩
                refine ⟨(show c_cl UL 95 = 902 from cl_95), ?_⟩
                refine ⟨(show vp_in (x4_332) 256 from vp_om (x := x4_332) (by omega) (by omega)), ?_⟩
                have b381 : B 0 255 (x4_332) := ⟨by omega, by omega⟩
                have hI382 := IMc_u (u := 95) (i := x4_332.toNatClampNeg) (v := v128_366) hI369 (show B 0 255 (v128_366) from (B_w b368 (by decide +kernel) (by decide +kernel)))
                have g385 := agc_tr (agc_refl (fs := [6001]) (rs := [95, 999]) (F := FS93_319)) g336 (by decide +kernel) (by decide +kernel)
                have g384 := agc_tr g385 g370 (by decide +kernel) (by decide +kernel)
                have g383 := agc_r (u := 95) (w := upd (FS128_367 95) x4_332.toNatClampNeg v128_366) g384 rfl (by decide +kernel)
                have e386 : (FS128_367 91 5).toInt = (FS93_319 91 5).toInt := (congrArg Int32.toInt ((g370.1 91 5 rfl rfl).trans (g336.1 91 5 rfl rfl))).trans rfl
                have e387 : (x4_332 + 1).toInt = ((x4_332).toInt + 1) := (t_add b381 (show B 1 1 (1 : Int32) from ⟨by decide +kernel, by decide +kernel⟩) (by decide +kernel) (by decide +kernel)).trans (by rw [(show (1 : Int32).toInt = 1 from by decide +kernel)])
                have q388 : (1) ≤ (x4_332 + 1).toInt ∧ (x4_332 + 1).toInt ≤ (256) := (show B 1 256 (x4_332 + 1) from B_w (B_add b381 (show B 1 1 (1 : Int32) from ⟨by decide +kernel, by decide +kernel⟩) (by decide +kernel) (by decide +kernel)) (by decide +kernel) (by decide +kernel))
                exact hR111 ⟨rfl, rfl, (B_w (B_add b381 (show B 1 1 (1 : Int32) from ⟨by decide +kernel, by decide +kernel⟩) (by decide +kernel) (by decide +kernel)) (by decide +kernel) (by decide +kernel)), _, _, rfl, hI382, g383, (CQu_tr (u := 91) (F := T333) (G := va_up FS128_367 95 (upd (FS128_367 95) x4_332.toNatClampNeg v128_366)) r337 (Eq.trans ((g370.2 94 rfl rfl).trans (g336.2 94 rfl rfl)) (Eq.symm (g336.2 94 rfl rfl))) (Eq.trans (((g370.2 92 rfl rfl).trans (g336.2 92 rfl rfl)).trans (g322.2 92 rfl rfl)) (Eq.symm ((g336.2 92 rfl rfl).trans (g322.2 92 rfl rfl))))), (by show (FS128_367 91 5).toInt ≤ 256; omega)⟩ (by show (256 - (x4_332 + 1).toInt).toNat < (256 - x4_332.toInt).toNat; omega)
              · have b389 : B 0 0 (v151_378) := B_w (B_eq hc (show B 0 0 (0 : Int32) from ⟨by decide +kernel, by decide +kernel⟩)) (by decide +kernel) (by decide +kernel)
                have q390 : (0) ≤ (v151_378).toInt ∧ (v151_378).toInt ≤ (0) := (show B 0 0 (v151_378) from B_w b389 (by decide +kernel) (by decide +kernel))
                have i391 : (v151_378).toInt = (0 : Int32).toInt := congrArg Int32.toInt hc
                have n392 : (0 : Int32).toInt = 0 := by decide +kernel
                unfold b_Un_readCodes_157
                refine ⟨(show ¬ ((60 : Nat) = NU) from by decide +kernel), ?_⟩
                refine ⟨(show ¬ ((60 : Nat) = NU) from by decide +kernel), ?_⟩
                refine ⟨(show c_cl UL 60 = 8 from cl_60), ?_⟩
                have g400 := agc_tr (agc_refl (fs := [6001, 6006, 6007, 8105, 8605, 9105, 9605]) (rs := [82, 83, 84, 85, 87, 88, 89, 90, 92, 93, 94, 95, 97, 98, 99, 100, 999]) (F := F)) g5 (by decide +kernel) (by decide +kernel)
                have g399 := agc_tr g400 g315 (by decide +kernel) (by decide +kernel)
                have g398 := agc_tr g399 g322 (by decide +kernel) (by decide +kernel)
                have g397 := agc_tr g398 g336 (by decide +kernel) (by decide +kernel)
                have g396 := agc_tr g397 g370 (by decide +kernel) (by decide +kernel)
                exact h_Re_fail_u60 (B_w (show B 5 5 (5 : Int32) from ⟨by decide +kernel, by decide +kernel⟩) (by decide +kernel) (by decide +kernel)) hI369 (fun hI g => hT13 hI (agc_tr g396 g (by decide +kernel) (by decide +kernel)))
            · have hq401 := (nle_lt hc)
              have b402 : B 0 15 (v4_1) := B_w (B_ltL b9 (show B 16 16 (16 : Int32) from ⟨by decide +kernel, by decide +kernel⟩) hq401) (by decide +kernel) (by decide +kernel)
              have q403 : (0) ≤ (v4_1).toInt ∧ (v4_1).toInt ≤ (15) := (show B 0 15 (v4_1) from B_w b402 (by decide +kernel) (by decide +kernel))
              refine ⟨fun hc => ?_, fun hc => ?_⟩
              · have hq404 := hc
                have b405 : B 0 11 (v128_366) := B_w (B_leL b368 (show B 11 11 (11 : Int32) from ⟨by decide +kernel, by decide +kernel⟩) hq404) (by decide +kernel) (by decide +kernel)
                unfold b_Un_readCodes_174
                refine ⟨(show c_cl UL 91 = 3 from cl_91), ?_⟩
                refine ⟨(show ¬ ((95 : Nat) = NU) from by decide +kernel), ?_⟩
                refine ⟨(show c_cl UL 95 = 902 from cl_95), ?_⟩
                refine ⟨(show vp_in (x4_332) 256 from vp_om (x := x4_332) (by omega) (by omega)), ?_⟩
                have b406 : B 0 255 (x4_332) := ⟨by omega, by omega⟩
                have hI407 := IMc_u (u := 95) (i := x4_332.toNatClampNeg) (v := v128_366) hI369 (show B 0 255 (v128_366) from (B_w b405 (by decide +kernel) (by decide +kernel)))
                have g410 := agc_tr (agc_refl (fs := [6001]) (rs := [95, 999]) (F := FS93_319)) g336 (by decide +kernel) (by decide +kernel)
                have g409 := agc_tr g410 g370 (by decide +kernel) (by decide +kernel)
                have g408 := agc_r (u := 95) (w := upd (FS128_367 95) x4_332.toNatClampNeg v128_366) g409 rfl (by decide +kernel)
                have e411 : (FS128_367 91 5).toInt = (FS93_319 91 5).toInt := (congrArg Int32.toInt ((g370.1 91 5 rfl rfl).trans (g336.1 91 5 rfl rfl))).trans rfl
                have e412 : (x4_332 + 1).toInt = ((x4_332).toInt + 1) := (t_add b406 (show B 1 1 (1 : Int32) from ⟨by decide +kernel, by decide +kernel⟩) (by decide +kernel) (by decide +kernel)).trans (by rw [(show (1 : Int32).toInt = 1 from by decide +kernel)])
                have q413 : (1) ≤ (x4_332 + 1).toInt ∧ (x4_332 + 1).toInt ≤ (256) := (show B 1 256 (x4_332 + 1) from B_w (B_add b406 (show B 1 1 (1 : Int32) from ⟨by decide +kernel, by decide +kernel⟩) (by decide +kernel) (by decide +kernel)) (by decide +kernel) (by decide +kernel))
                exact hR111 ⟨rfl, rfl, (B_w (B_add b406 (show B 1 1 (1 : Int32) from ⟨by decide +kernel, by decide +kernel⟩) (by decide +kernel) (by decide +kernel)) (by decide +kernel) (by decide +kernel)), _, _, rfl, hI407, g408, (CQu_tr (u := 91) (F := T333) (G := va_up FS128_367 95 (upd (FS128_367 95) x4_332.toNatClampNeg v128_366)) r337 (Eq.trans ((g370.2 94 rfl rfl).trans (g336.2 94 rfl rfl)) (Eq.symm (g336.2 94 rfl rfl))) (Eq.trans (((g370.2 92 rfl rfl).trans (g336.2 92 rfl rfl)).trans (g322.2 92 rfl rfl)) (Eq.symm ((g336.2 92 rfl rfl).trans (g322.2 92 rfl rfl))))), (by show (FS128_367 91 5).toInt ≤ 256; omega)⟩ (by show (256 - (x4_332 + 1).toInt).toNat < (256 - x4_332.toInt).toNat; omega)
              · have hq414 := (nle_lt hc)
                have b415 : B 12 255 (v128_366) := B_w (B_ltR (show B 11 11 (11 : Int32) from ⟨by decide +kernel, by decide +kernel⟩) b368 hq414) (by decide +kernel) (by decide +kernel)
                unfold b_Un_readCodes_157
                refine ⟨(show ¬ ((60 : Nat) = NU) from by decide +kernel), ?_⟩
                refine ⟨(show ¬ ((60 : Nat) = NU) from by decide +kernel), ?_⟩
                refine ⟨(show c_cl UL 60 = 8 from cl_60), ?_⟩
                have g423 := agc_tr (agc_refl (fs := [6001, 6006, 6007, 8105, 8605, 9105, 9605]) (rs := [82, 83, 84, 85, 87, 88, 89, 90, 92, 93, 94, 95, 97, 98, 99, 100, 999]) (F := F)) g5 (by decide +kernel) (by decide +kernel)
                have g422 := agc_tr g423 g315 (by decide +kernel) (by decide +kernel)
                have g421 := agc_tr g422 g322 (by decide +kernel) (by decide +kernel)
                have g420 := agc_tr g421 g336 (by decide +kernel) (by decide +kernel)
                have g419 := agc_tr g420 g370 (by decide +kernel) (by decide +kernel)
                exact h_Re_fail_u60 (B_w (show B 5 5 (5 : Int32) from ⟨by decide +kernel, by decide +kernel⟩) (by decide +kernel) (by decide +kernel)) hI369 (fun hI g => hT13 hI (agc_tr g419 g (by decide +kernel) (by decide +kernel)))
        · have b424 : B 0 0 (v93_318) := B_w (B_eq hc (show B 0 0 (0 : Int32) from ⟨by decide +kernel, by decide +kernel⟩)) (by decide +kernel) (by decide +kernel)
          have q425 : (0) ≤ (v93_318).toInt ∧ (v93_318).toInt ≤ (0) := (show B 0 0 (v93_318) from B_w b424 (by decide +kernel) (by decide +kernel))
          have i426 : (v93_318).toInt = (0 : Int32).toInt := congrArg Int32.toInt hc
          have n427 : (0 : Int32).toInt = 0 := by decide +kernel
          refine ⟨(show ¬ ((60 : Nat) = NU) from by decide +kernel), ?_⟩
          refine ⟨(show c_cl UL 60 = 8 from cl_60), ?_⟩
          have g433 := agc_tr (agc_refl (fs := [6001, 6006, 6007, 8105, 8605, 9105, 9605]) (rs := [82, 83, 84, 85, 87, 88, 89, 90, 92, 93, 94, 95, 97, 98, 99, 100, 999]) (F := F)) g5 (by decide +kernel) (by decide +kernel)
          have g432 := agc_tr g433 g315 (by decide +kernel) (by decide +kernel)
          have g431 := agc_tr g432 g322 (by decide +kernel) (by decide +kernel)
          exact h_Re_fail_u60 (B_w (show B 5 5 (5 : Int32) from ⟨by decide +kernel, by decide +kernel⟩) (by decide +kernel) (by decide +kernel)) hI321 (fun hI g => hT13 hI (agc_tr g431 g (by decide +kernel) (by decide +kernel)))
      · have hq434 := (nlt_le hc)
        have b435 : B 1 16 (x4_311) := B_w (B_leL b313 (show B 16 16 (16 : Int32) from ⟨by decide +kernel, by decide +kernel⟩) hq434) (by decide +kernel) (by decide +kernel)
        have g438 := agc_tr (agc_refl (fs := [6001, 6006, 6007, 8105, 8605, 9105, 9605]) (rs := [82, 83, 84, 85, 87, 88, 89, 90, 92, 93, 94, 95, 97, 98, 99, 100, 999]) (F := F)) g5 (by decide +kernel) (by decide +kernel)
        have g437 := agc_tr g438 g315 (by decide +kernel) (by decide +kernel)
        refine h_Un_wantMore_u59 hI314 ?_ (fun hI g => hT13 hI (agc_tr g437 g (by decide +kernel) (by decide +kernel)))
        refine ⟨(show c_cl UL 91 = 3 from cl_91), ?_⟩
        refine ⟨(show ¬ ((92 : Nat) = NU) from by decide +kernel), ?_⟩
        refine ⟨(show ¬ ((60 : Nat) = NU) from by decide +kernel), ?_⟩
        refine ⟨(show c_cl UL 60 = 8 from cl_60), ?_⟩
        have g445 := agc_tr (agc_refl (fs := [6001, 6006, 6007, 8105, 8605, 9105, 9605]) (rs := [82, 83, 84, 85, 87, 88, 89, 90, 92, 93, 94, 95, 97, 98, 99, 100, 999]) (F := F)) g5 (by decide +kernel) (by decide +kernel)
        have g444 := agc_tr g445 g315 (by decide +kernel) (by decide +kernel)
        refine h_Re_read_u60 hI314 (fun {v82_439} {FS82_440} {LFS82_440} b441 hI442 g443 => ?_) (fun hI g => hT13 hI (agc_tr g444 g (by decide +kernel) (by decide +kernel)))
        refine ⟨(show c_cl UL 92 = 902 from cl_92), ?_⟩
        refine ⟨(show vp_in (x4_311) 17 from vp_B b435 (by decide +kernel) (by decide +kernel)), ?_⟩
        have hI446 := IMc_u (u := 92) (i := x4_311.toNatClampNeg) (v := v82_439) hI442 (show B 0 255 (v82_439) from (B_w b441 (by decide +kernel) (by decide +kernel)))
        have g449 := agc_tr (agc_refl (fs := [6001]) (rs := [92, 999]) (F := FS4_2)) g315 (by decide +kernel) (by decide +kernel)
        have g448 := agc_tr g449 g443 (by decide +kernel) (by decide +kernel)
        have g447 := agc_r (u := 92) (w := upd (FS82_440 92) x4_311.toNatClampNeg v82_439) g448 rfl (by decide +kernel)
        have q450 : (1) ≤ (x4_311).toInt ∧ (x4_311).toInt ≤ (16) := (show B 1 16 (x4_311) from B_w b435 (by decide +kernel) (by decide +kernel))
        have e451 : (x4_311 + 1).toInt = ((x4_311).toInt + 1) := (t_add b435 (show B 1 1 (1 : Int32) from ⟨by decide +kernel, by decide +kernel⟩) (by decide +kernel) (by decide +kernel)).trans (by rw [(show (1 : Int32).toInt = 1 from by decide +kernel)])
        have q452 : (2) ≤ (x4_311 + 1).toInt ∧ (x4_311 + 1).toInt ≤ (17) := (show B 2 17 (x4_311 + 1) from B_w (B_add b435 (show B 1 1 (1 : Int32) from ⟨by decide +kernel, by decide +kernel⟩) (by decide +kernel) (by decide +kernel)) (by decide +kernel) (by decide +kernel))
        exact hR61 ⟨rfl, rfl, rfl, (B_w (B_add b435 (show B 1 1 (1 : Int32) from ⟨by decide +kernel, by decide +kernel⟩) (by decide +kernel) (by decide +kernel)) (by decide +kernel) (by decide +kernel)), _, _, rfl, hI446, g447⟩ (by show (17 - (x4_311 + 1).toInt).toNat < (17 - x4_311.toInt).toNat; omega)
    · refine ⟨(show ¬ ((96 : Nat) = NU) from by decide +kernel), ?_⟩
      refine ⟨(show ¬ ((60 : Nat) = NU) from by decide +kernel), ?_⟩
      refine ⟨(show c_cl UL 60 = 8 from cl_60), ?_⟩
      refine ⟨fun yx1 yx2 yx3 yx4 yS => v4_1 = yx1 ∧ (96 : Nat) = yx2 ∧ (FS4_2 60 1) = yx3 ∧ B 1 17 yx4 ∧ ∃ (T457 : cF) (LT457 : cL), yS = (T457, LT457, PC a b P) ∧ IMc T457 ∧ agc [6001] [97, 999] FS4_2 T457, fun yx1 yx2 yx3 yx4 yS => (17 - yx4.toInt).toNat, ⟨rfl, rfl, rfl, (B_w (show B 1 1 (1 : Int32) from ⟨by decide +kernel, by decide +kernel⟩) (by decide +kernel) (by decide +kernel)), _, _, rfl, hI4, (agc_refl (fs := [6001]) (rs := [97, 999]) (F := FS4_2))⟩, fun x1_453 x2_454 x3_455 x4_456 ST457 hIv => ?_⟩
      obtain ⟨rfl, rfl, rfl, b458, T457, LT457, rfl, hI459, g460⟩ := hIv
      suffices hs : ∀ (R61 : Int32 → Nat → Int32 → Int32 → cs → Prop), (∀ zx1 zx2 zx3 zx4 zS, (v4_1 = zx1 ∧ (96 : Nat) = zx2 ∧ (FS4_2 60 1) = zx3 ∧ B 1 17 zx4 ∧ ∃ (T457 : cF) (LT457 : cL), zS = (T457, LT457, PC a b P) ∧ IMc T457 ∧ agc [6001] [97, 999] FS4_2 T457) → (17 - zx4.toInt).toNat < (17 - x4_456.toInt).toNat → R61 zx1 zx2 zx3 zx4 zS) → b_Un_readCodes_61 UL 59 v4_1 96 (FS4_2 60 1) x4_456 (T457, LT457, PC a b P) R61 K T from hs _ (fun _ _ _ _ _ h1 h2 => ⟨h1, h2⟩)
      intro R61 hR610
      have hR61 := fun {zx1} {zx2} {zx3} {zx4} {zS} => hR610 zx1 zx2 zx3 zx4 zS
      unfold b_Un_readCodes_61
      refine ⟨fun hc => ?_, fun hc => ?_⟩
      · have hq461 := hc
        have b462 : B 17 17 (x4_456) := B_w (B_ltR (show B 16 16 (16 : Int32) from ⟨by decide +kernel, by decide +kernel⟩) b458 hq461) (by decide +kernel) (by decide +kernel)
        refine ⟨(show c_cl UL 96 = 3 from cl_96), ?_⟩
        refine h_Co_giveOut_u96 hI459 (fun {v93_463} {FS93_464} {LFS93_464} b465 hI466 g467 r468 r469 => ?_)
        have r470 : gQ 96 v93_463 17 FS93_464 := r468
        clear r468
        have r471 : (v93_463.toInt = 0) ∨ ((FS93_464 96 5).toInt ≤ 256) := r469
        clear r469
        have q472 : (0) ≤ (v93_463).toInt ∧ (v93_463).toInt ≤ (1) := (show B 0 1 (v93_463) from B_w b465 (by decide +kernel) (by decide +kernel))
        refine ⟨fun hc => ?_, fun hc => ?_⟩
        · have b473 : B 1 1 (v93_463) := B_w (B_n0 b465 hc) (by decide +kernel) (by decide +kernel)
          have q474 : (1) ≤ (v93_463).toInt ∧ (v93_463).toInt ≤ (1) := (show B 1 1 (v93_463) from B_w b473 (by decide +kernel) (by decide +kernel))
          unfold b_Un_readCodes_108
          refine ⟨fun yx1 yx2 yx4 yS => v4_1 = yx1 ∧ (96 : Nat) = yx2 ∧ B 0 256 yx4 ∧ ∃ (T478 : cF) (LT478 : cL), yS = (T478, LT478, PC a b P) ∧ IMc T478 ∧ agc [6001] [100, 999] FS93_464 T478 ∧ (CQu yx2 T478) ∧ ((T478 yx2 5).toInt ≤ 256), fun yx1 yx2 yx4 yS => (256 - yx4.toInt).toNat, ⟨rfl, rfl, (B_w (show B 0 0 (0 : Int32) from ⟨by decide +kernel, by decide +kernel⟩) (by decide +kernel) (by decide +kernel)), _, _, rfl, hI466, (agc_refl (fs := [6001]) (rs := [100, 999]) (F := FS93_464)), (gQ_end r470 (by decide +kernel) (B_nz b473 (by decide +kernel))), (by show (FS93_464 96 5).toInt ≤ 256; omega)⟩, fun x1_475 x2_476 x4_477 ST478 hIv => ?_⟩
          obtain ⟨rfl, rfl, b479, T478, LT478, rfl, hI480, g481, r482, r483⟩ := hIv
          suffices hs : ∀ (R111 : Int32 → Nat → Int32 → cs → Prop), (∀ zx1 zx2 zx4 zS, (v4_1 = zx1 ∧ (96 : Nat) = zx2 ∧ B 0 256 zx4 ∧ ∃ (T478 : cF) (LT478 : cL), zS = (T478, LT478, PC a b P) ∧ IMc T478 ∧ agc [6001] [100, 999] FS93_464 T478 ∧ (CQu zx2 T478) ∧ ((T478 zx2 5).toInt ≤ 256)) → (256 - zx4.toInt).toNat < (256 - x4_477.toInt).toNat → R111 zx1 zx2 zx4 zS) → b_Un_readCodes_111 UL 59 v4_1 96 x4_477 (T478, LT478, PC a b P) R111 K T from hs _ (fun _ _ _ _ h1 h2 => ⟨h1, h2⟩)
          intro R111 hR1110
          have hR111 := fun {zx1} {zx2} {zx4} {zS} => hR1110 zx1 zx2 zx4 zS
          have e484 : (T478 96 5).toInt = (FS93_464 96 5).toInt := (congrArg Int32.toInt (g481.1 96 5 rfl rfl)).trans rfl
          unfold b_Un_readCodes_111
          refine ⟨(show c_cl UL 96 = 3 from cl_96), ?_⟩
          refine ⟨fun hc => ?_, fun hc => ?_⟩
          · have hq485 := hc
            have b486 : B (-2147483648) 256 (FS93_464 96 5) := B_w (B_eq (Eq.symm (g481.1 96 5 rfl rfl)) (B_leL (B_eq (g481.1 96 5 rfl rfl) (B_any _)) b479 hq485)) (by decide +kernel) (by decide +kernel)
            have q487 : (-2147483648) ≤ (FS93_464 96 5).toInt ∧ (FS93_464 96 5).toInt ≤ (256) := (show B (-2147483648) 256 (FS93_464 96 5) from B_w b486 (by decide +kernel) (by decide +kernel))
            have q488 : (0) ≤ (x4_477).toInt ∧ (x4_477).toInt ≤ (256) := (show B 0 256 (x4_477) from B_w b479 (by decide +kernel) (by decide +kernel))
            have i489 : (T478 96 5).toInt ≤ (x4_477).toInt := i_le hq485
            have hI490 := IMc_u (u := 96) (i := 0) (v := 1) hI480 (show B 0 1 (1) from (B_w (show B 1 1 (1 : Int32) from ⟨by decide +kernel, by decide +kernel⟩) (by decide +kernel) (by decide +kernel)))
            have g495 := agc_tr (agc_refl (fs := [6001, 8100, 8105, 8600, 8605, 9100, 9105, 9600, 9605]) (rs := [82, 83, 84, 85, 87, 88, 89, 90, 92, 93, 94, 95, 97, 98, 99, 100, 999]) (F := F)) g5 (by decide +kernel) (by decide +kernel)
            have g494 := agc_tr g495 g460 (by decide +kernel) (by decide +kernel)
            have g493 := agc_tr g494 g467 (by decide +kernel) (by decide +kernel)
            have g492 := agc_tr g493 g481 (by decide +kernel) (by decide +kernel)
            have g491 := agc_f (u := 96) (k := 0) (v := 1) g492 rfl (by decide +kernel)
            have g500 := agc_tr (agc_refl (fs := [6001, 9600, 9605]) (rs := [97, 98, 99, 100, 999]) (F := F)) g5 (by decide +kernel) (by decide +kernel)
            have g499 := agc_tr g500 g460 (by decide +kernel) (by decide +kernel)
            have g498 := agc_tr g499 g467 (by decide +kernel) (by decide +kernel)
            have g497 := agc_tr g498 g481 (by decide +kernel) (by decide +kernel)
            have g496 := agc_f (u := 96) (k := 0) (v := 1) g497 rfl (by decide +kernel)
            exact hK hI490 g491 (CV_up3 (F := F) (G := va_up T478 96 (upd (T478 96) 0 1)) pre0 (CQu_tr (u := 96) (F := T478) (G := va_up T478 96 (upd (T478 96) 0 1)) r482 (Eq.trans (g481.2 99 rfl rfl) (Eq.symm (g481.2 99 rfl rfl))) (Eq.trans ((g481.2 97 rfl rfl).trans (g467.2 97 rfl rfl)) (Eq.symm ((g481.2 97 rfl rfl).trans (g467.2 97 rfl rfl))))) g496 (by decide +kernel) (by decide +kernel))
          · have hq501 := (nle_lt hc)
            have b502 : B 1 2147483647 (FS93_464 96 5) := B_w (B_eq (Eq.symm (g481.1 96 5 rfl rfl)) (B_ltR b479 (B_eq (g481.1 96 5 rfl rfl) (B_any _)) hq501)) (by decide +kernel) (by decide +kernel)
            have q503 : (1) ≤ (FS93_464 96 5).toInt ∧ (FS93_464 96 5).toInt ≤ (2147483647) := (show B 1 2147483647 (FS93_464 96 5) from B_w b502 (by decide +kernel) (by decide +kernel))
            have q504 : (0) ≤ (x4_477).toInt ∧ (x4_477).toInt ≤ (256) := (show B 0 256 (x4_477) from B_w b479 (by decide +kernel) (by decide +kernel))
            have i505 : (x4_477).toInt < (T478 96 5).toInt := i_lt hq501
            have g510 := agc_tr (agc_refl (fs := [6001, 6006, 6007, 8105, 8605, 9105, 9605]) (rs := [82, 83, 84, 85, 87, 88, 89, 90, 92, 93, 94, 95, 97, 98, 99, 100, 999]) (F := F)) g5 (by decide +kernel) (by decide +kernel)
            have g509 := agc_tr g510 g460 (by decide +kernel) (by decide +kernel)
            have g508 := agc_tr g509 g467 (by decide +kernel) (by decide +kernel)
            have g507 := agc_tr g508 g481 (by decide +kernel) (by decide +kernel)
            refine h_Un_wantMore_u59 hI480 ?_ (fun hI g => hT13 hI (agc_tr g507 g (by decide +kernel) (by decide +kernel)))
            refine ⟨(show ¬ ((60 : Nat) = NU) from by decide +kernel), ?_⟩
            refine ⟨(show c_cl UL 60 = 8 from cl_60), ?_⟩
            have g519 := agc_tr (agc_refl (fs := [6001, 6006, 6007, 8105, 8605, 9105, 9605]) (rs := [82, 83, 84, 85, 87, 88, 89, 90, 92, 93, 94, 95, 97, 98, 99, 100, 999]) (F := F)) g5 (by decide +kernel) (by decide +kernel)
            have g518 := agc_tr g519 g460 (by decide +kernel) (by decide +kernel)
            have g517 := agc_tr g518 g467 (by decide +kernel) (by decide +kernel)
            have g516 := agc_tr g517 g481 (by decide +kernel) (by decide +kernel)
            refine h_Re_read_u60 hI480 (fun {v128_511} {FS128_512} {LFS128_512} b513 hI514 g515 => ?_) (fun hI g => hT13 hI (agc_tr g516 g (by decide +kernel) (by decide +kernel)))
            refine ⟨fun hc => ?_, fun hc => ?_⟩
            · have hq520 := hc
              have b521 : B 16 17 (v4_1) := B_w (B_leR (show B 16 16 (16 : Int32) from ⟨by decide +kernel, by decide +kernel⟩) b9 hq520) (by decide +kernel) (by decide +kernel)
              have q522 : (16) ≤ (v4_1).toInt ∧ (v4_1).toInt ≤ (17) := (show B 16 17 (v4_1) from B_w b521 (by decide +kernel) (by decide +kernel))
              refine h_Un_isForRests  (fun {v151_523} b524 => ?_)
              refine ⟨fun hc => ?_, fun hc => ?_⟩
              · have b525 : B 1 1 (v151_523) := B_w (B_n0 b524 hc) (by decide +kernel) (by decide +kernel)
                unfold b_Un_readCodes_174
                refine ⟨(show c_cl UL 96 = 3 from cl_96), ?_⟩
                refine ⟨(show ¬ ((100 : Nat) = NU) from by decide +kernel), ?_⟩
                refine ⟨(show c_cl UL 100 = 902 from cl_100), ?_⟩
                refine ⟨(show vp_in (x4_477) 256 from vp_om (x := x4_477) (by omega) (by omega)), ?_⟩
                have b526 : B 0 255 (x4_477) := ⟨by omega, by omega⟩
                have hI527 := IMc_u (u := 100) (i := x4_477.toNatClampNeg) (v := v128_511) hI514 (show B 0 255 (v128_511) from (B_w b513 (by decide +kernel) (by decide +kernel)))
                have g530 := agc_tr (agc_refl (fs := [6001]) (rs := [100, 999]) (F := FS93_464)) g481 (by decide +kernel) (by decide +kernel)
                have g529 := agc_tr g530 g515 (by decide +kernel) (by decide +kernel)
                have g528 := agc_r (u := 100) (w := upd (FS128_512 100) x4_477.toNatClampNeg v128_511) g529 rfl (by decide +kernel)
                have e531 : (FS128_512 96 5).toInt = (FS93_464 96 5).toInt := (congrArg Int32.toInt ((g515.1 96 5 rfl rfl).trans (g481.1 96 5 rfl rfl))).trans rfl
                have e532 : (x4_477 + 1).toInt = ((x4_477).toInt + 1) := (t_add b526 (show B 1 1 (1 : Int32) from ⟨by decide +kernel, by decide +kernel⟩) (by decide +kernel) (by decide +kernel)).trans (by rw [(show (1 : Int32).toInt = 1 from by decide +kernel)])
                have q533 : (1) ≤ (x4_477 + 1).toInt ∧ (x4_477 + 1).toInt ≤ (256) := (show B 1 256 (x4_477 + 1) from B_w (B_add b526 (show B 1 1 (1 : Int32) from ⟨by decide +kernel, by decide +kernel⟩) (by decide +kernel) (by decide +kernel)) (by decide +kernel) (by decide +kernel))
                exact hR111 ⟨rfl, rfl, (B_w (B_add b526 (show B 1 1 (1 : Int32) from ⟨by decide +kernel, by decide +kernel⟩) (by decide +kernel) (by decide +kernel)) (by decide +kernel) (by decide +kernel)), _, _, rfl, hI527, g528, (CQu_tr (u := 96) (F := T478) (G := va_up FS128_512 100 (upd (FS128_512 100) x4_477.toNatClampNeg v128_511)) r482 (Eq.trans ((g515.2 99 rfl rfl).trans (g481.2 99 rfl rfl)) (Eq.symm (g481.2 99 rfl rfl))) (Eq.trans (((g515.2 97 rfl rfl).trans (g481.2 97 rfl rfl)).trans (g467.2 97 rfl rfl)) (Eq.symm ((g481.2 97 rfl rfl).trans (g467.2 97 rfl rfl))))), (by show (FS128_512 96 5).toInt ≤ 256; omega)⟩ (by show (256 - (x4_477 + 1).toInt).toNat < (256 - x4_477.toInt).toNat; omega)
              · have b534 : B 0 0 (v151_523) := B_w (B_eq hc (show B 0 0 (0 : Int32) from ⟨by decide +kernel, by decide +kernel⟩)) (by decide +kernel) (by decide +kernel)
                have q535 : (0) ≤ (v151_523).toInt ∧ (v151_523).toInt ≤ (0) := (show B 0 0 (v151_523) from B_w b534 (by decide +kernel) (by decide +kernel))
                have i536 : (v151_523).toInt = (0 : Int32).toInt := congrArg Int32.toInt hc
                have n537 : (0 : Int32).toInt = 0 := by decide +kernel
                unfold b_Un_readCodes_157
                refine ⟨(show ¬ ((60 : Nat) = NU) from by decide +kernel), ?_⟩
                refine ⟨(show ¬ ((60 : Nat) = NU) from by decide +kernel), ?_⟩
                refine ⟨(show c_cl UL 60 = 8 from cl_60), ?_⟩
                have g545 := agc_tr (agc_refl (fs := [6001, 6006, 6007, 8105, 8605, 9105, 9605]) (rs := [82, 83, 84, 85, 87, 88, 89, 90, 92, 93, 94, 95, 97, 98, 99, 100, 999]) (F := F)) g5 (by decide +kernel) (by decide +kernel)
                have g544 := agc_tr g545 g460 (by decide +kernel) (by decide +kernel)
                have g543 := agc_tr g544 g467 (by decide +kernel) (by decide +kernel)
                have g542 := agc_tr g543 g481 (by decide +kernel) (by decide +kernel)
                have g541 := agc_tr g542 g515 (by decide +kernel) (by decide +kernel)
                exact h_Re_fail_u60 (B_w (show B 5 5 (5 : Int32) from ⟨by decide +kernel, by decide +kernel⟩) (by decide +kernel) (by decide +kernel)) hI514 (fun hI g => hT13 hI (agc_tr g541 g (by decide +kernel) (by decide +kernel)))
            · have hq546 := (nle_lt hc)
              have b547 : B 0 15 (v4_1) := B_w (B_ltL b9 (show B 16 16 (16 : Int32) from ⟨by decide +kernel, by decide +kernel⟩) hq546) (by decide +kernel) (by decide +kernel)
              have q548 : (0) ≤ (v4_1).toInt ∧ (v4_1).toInt ≤ (15) := (show B 0 15 (v4_1) from B_w b547 (by decide +kernel) (by decide +kernel))
              refine ⟨fun hc => ?_, fun hc => ?_⟩
              · have hq549 := hc
                have b550 : B 0 11 (v128_511) := B_w (B_leL b513 (show B 11 11 (11 : Int32) from ⟨by decide +kernel, by decide +kernel⟩) hq549) (by decide +kernel) (by decide +kernel)
                unfold b_Un_readCodes_174
                refine ⟨(show c_cl UL 96 = 3 from cl_96), ?_⟩
                refine ⟨(show ¬ ((100 : Nat) = NU) from by decide +kernel), ?_⟩
                refine ⟨(show c_cl UL 100 = 902 from cl_100), ?_⟩
                refine ⟨(show vp_in (x4_477) 256 from vp_om (x := x4_477) (by omega) (by omega)), ?_⟩
                have b551 : B 0 255 (x4_477) := ⟨by omega, by omega⟩
                have hI552 := IMc_u (u := 100) (i := x4_477.toNatClampNeg) (v := v128_511) hI514 (show B 0 255 (v128_511) from (B_w b550 (by decide +kernel) (by decide +kernel)))
                have g555 := agc_tr (agc_refl (fs := [6001]) (rs := [100, 999]) (F := FS93_464)) g481 (by decide +kernel) (by decide +kernel)
                have g554 := agc_tr g555 g515 (by decide +kernel) (by decide +kernel)
                have g553 := agc_r (u := 100) (w := upd (FS128_512 100) x4_477.toNatClampNeg v128_511) g554 rfl (by decide +kernel)
                have e556 : (FS128_512 96 5).toInt = (FS93_464 96 5).toInt := (congrArg Int32.toInt ((g515.1 96 5 rfl rfl).trans (g481.1 96 5 rfl rfl))).trans rfl
                have e557 : (x4_477 + 1).toInt = ((x4_477).toInt + 1) := (t_add b551 (show B 1 1 (1 : Int32) from ⟨by decide +kernel, by decide +kernel⟩) (by decide +kernel) (by decide +kernel)).trans (by rw [(show (1 : Int32).toInt = 1 from by decide +kernel)])
                have q558 : (1) ≤ (x4_477 + 1).toInt ∧ (x4_477 + 1).toInt ≤ (256) := (show B 1 256 (x4_477 + 1) from B_w (B_add b551 (show B 1 1 (1 : Int32) from ⟨by decide +kernel, by decide +kernel⟩) (by decide +kernel) (by decide +kernel)) (by decide +kernel) (by decide +kernel))
                exact hR111 ⟨rfl, rfl, (B_w (B_add b551 (show B 1 1 (1 : Int32) from ⟨by decide +kernel, by decide +kernel⟩) (by decide +kernel) (by decide +kernel)) (by decide +kernel) (by decide +kernel)), _, _, rfl, hI552, g553, (CQu_tr (u := 96) (F := T478) (G := va_up FS128_512 100 (upd (FS128_512 100) x4_477.toNatClampNeg v128_511)) r482 (Eq.trans ((g515.2 99 rfl rfl).trans (g481.2 99 rfl rfl)) (Eq.symm (g481.2 99 rfl rfl))) (Eq.trans (((g515.2 97 rfl rfl).trans (g481.2 97 rfl rfl)).trans (g467.2 97 rfl rfl)) (Eq.symm ((g481.2 97 rfl rfl).trans (g467.2 97 rfl rfl))))), (by show (FS128_512 96 5).toInt ≤ 256; omega)⟩ (by show (256 - (x4_477 + 1).toInt).toNat < (256 - x4_477.toInt).toNat; omega)
              · have hq559 := (nle_lt hc)
                have b560 : B 12 255 (v128_511) := B_w (B_ltR (show B 11 11 (11 : Int32) from ⟨by decide +kernel, by decide +kernel⟩) b513 hq559) (by decide +kernel) (by decide +kernel)
                unfold b_Un_readCodes_157
                refine ⟨(show ¬ ((60 : Nat) = NU) from by decide +kernel), ?_⟩
                refine ⟨(show ¬ ((60 : Nat) = NU) from by decide +kernel), ?_⟩
                refine ⟨(show c_cl UL 60 = 8 from cl_60), ?_⟩
                have g568 := agc_tr (agc_refl (fs := [6001, 6006, 6007, 8105, 8605, 9105, 9605]) (rs := [82, 83, 84, 85, 87, 88, 89, 90, 92, 93, 94, 95, 97, 98, 99, 100, 999]) (F := F)) g5 (by decide +kernel) (by decide +kernel)
                have g567 := agc_tr g568 g460 (by decide +kernel) (by decide +kernel)
                have g566 := agc_tr g567 g467 (by decide +kernel) (by decide +kernel)
                have g565 := agc_tr g566 g481 (by decide +kernel) (by decide +kernel)
                have g564 := agc_tr g565 g515 (by decide +kernel) (by decide +kernel)
                exact h_Re_fail_u60 (B_w (show B 5 5 (5 : Int32) from ⟨by decide +kernel, by decide +kernel⟩) (by decide +kernel) (by decide +kernel)) hI514 (fun hI g => hT13 hI (agc_tr g564 g (by decide +kernel) (by decide +kernel)))
        · have b569 : B 0 0 (v93_463) := B_w (B_eq hc (show B 0 0 (0 : Int32) from ⟨by decide +kernel, by decide +kernel⟩)) (by decide +kernel) (by decide +kernel)
          have q570 : (0) ≤ (v93_463).toInt ∧ (v93_463).toInt ≤ (0) := (show B 0 0 (v93_463) from B_w b569 (by decide +kernel) (by decide +kernel))
          have i571 : (v93_463).toInt = (0 : Int32).toInt := congrArg Int32.toInt hc
          have n572 : (0 : Int32).toInt = 0 := by decide +kernel
          refine ⟨(show ¬ ((60 : Nat) = NU) from by decide +kernel), ?_⟩
          refine ⟨(show c_cl UL 60 = 8 from cl_60), ?_⟩
          have g578 := agc_tr (agc_refl (fs := [6001, 6006, 6007, 8105, 8605, 9105, 9605]) (rs := [82, 83, 84, 85, 87, 88, 89, 90, 92, 93, 94, 95, 97, 98, 99, 100, 999]) (F := F)) g5 (by decide +kernel) (by decide +kernel)
          have g577 := agc_tr g578 g460 (by decide +kernel) (by decide +kernel)
          have g576 := agc_tr g577 g467 (by decide +kernel) (by decide +kernel)
          exact h_Re_fail_u60 (B_w (show B 5 5 (5 : Int32) from ⟨by decide +kernel, by decide +kernel⟩) (by decide +kernel) (by decide +kernel)) hI466 (fun hI g => hT13 hI (agc_tr g576 g (by decide +kernel) (by decide +kernel)))
      · have hq579 := (nlt_le hc)
        have b580 : B 1 16 (x4_456) := B_w (B_leL b458 (show B 16 16 (16 : Int32) from ⟨by decide +kernel, by decide +kernel⟩) hq579) (by decide +kernel) (by decide +kernel)
        have g583 := agc_tr (agc_refl (fs := [6001, 6006, 6007, 8105, 8605, 9105, 9605]) (rs := [82, 83, 84, 85, 87, 88, 89, 90, 92, 93, 94, 95, 97, 98, 99, 100, 999]) (F := F)) g5 (by decide +kernel) (by decide +kernel)
        have g582 := agc_tr g583 g460 (by decide +kernel) (by decide +kernel)
        refine h_Un_wantMore_u59 hI459 ?_ (fun hI g => hT13 hI (agc_tr g582 g (by decide +kernel) (by decide +kernel)))
        refine ⟨(show c_cl UL 96 = 3 from cl_96), ?_⟩
        refine ⟨(show ¬ ((97 : Nat) = NU) from by decide +kernel), ?_⟩
        refine ⟨(show ¬ ((60 : Nat) = NU) from by decide +kernel), ?_⟩
        refine ⟨(show c_cl UL 60 = 8 from cl_60), ?_⟩
        have g590 := agc_tr (agc_refl (fs := [6001, 6006, 6007, 8105, 8605, 9105, 9605]) (rs := [82, 83, 84, 85, 87, 88, 89, 90, 92, 93, 94, 95, 97, 98, 99, 100, 999]) (F := F)) g5 (by decide +kernel) (by decide +kernel)
        have g589 := agc_tr g590 g460 (by decide +kernel) (by decide +kernel)
        refine h_Re_read_u60 hI459 (fun {v82_584} {FS82_585} {LFS82_585} b586 hI587 g588 => ?_) (fun hI g => hT13 hI (agc_tr g589 g (by decide +kernel) (by decide +kernel)))
        refine ⟨(show c_cl UL 97 = 902 from cl_97), ?_⟩
        refine ⟨(show vp_in (x4_456) 17 from vp_B b580 (by decide +kernel) (by decide +kernel)), ?_⟩
        have hI591 := IMc_u (u := 97) (i := x4_456.toNatClampNeg) (v := v82_584) hI587 (show B 0 255 (v82_584) from (B_w b586 (by decide +kernel) (by decide +kernel)))
        have g594 := agc_tr (agc_refl (fs := [6001]) (rs := [97, 999]) (F := FS4_2)) g460 (by decide +kernel) (by decide +kernel)
        have g593 := agc_tr g594 g588 (by decide +kernel) (by decide +kernel)
        have g592 := agc_r (u := 97) (w := upd (FS82_585 97) x4_456.toNatClampNeg v82_584) g593 rfl (by decide +kernel)
        have q595 : (1) ≤ (x4_456).toInt ∧ (x4_456).toInt ≤ (16) := (show B 1 16 (x4_456) from B_w b580 (by decide +kernel) (by decide +kernel))
        have e596 : (x4_456 + 1).toInt = ((x4_456).toInt + 1) := (t_add b580 (show B 1 1 (1 : Int32) from ⟨by decide +kernel, by decide +kernel⟩) (by decide +kernel) (by decide +kernel)).trans (by rw [(show (1 : Int32).toInt = 1 from by decide +kernel)])
        have q597 : (2) ≤ (x4_456 + 1).toInt ∧ (x4_456 + 1).toInt ≤ (17) := (show B 2 17 (x4_456 + 1) from B_w (B_add b580 (show B 1 1 (1 : Int32) from ⟨by decide +kernel, by decide +kernel⟩) (by decide +kernel) (by decide +kernel)) (by decide +kernel) (by decide +kernel))
        exact hR61 ⟨rfl, rfl, rfl, (B_w (B_add b580 (show B 1 1 (1 : Int32) from ⟨by decide +kernel, by decide +kernel⟩) (by decide +kernel) (by decide +kernel)) (by decide +kernel) (by decide +kernel)), _, _, rfl, hI591, g592⟩ (by show (17 - (x4_456 + 1).toInt).toNat < (17 - x4_456.toInt).toNat; omega)
  · have hq598 := (nle_lt hc)
    have b599 : B 2 15 (v4_1 - ((v4_1 / 16) * 16)) := B_w (B_ltR (show B 1 1 (1 : Int32) from ⟨by decide +kernel, by decide +kernel⟩) (B_rem b9 (show B 16 16 (16 : Int32) from ⟨by decide +kernel, by decide +kernel⟩) (by decide +kernel) (by decide +kernel)) hq598) (by decide +kernel) (by decide +kernel)
    have e600 : (v4_1 - ((v4_1 / 16) * 16)).toInt = ((v4_1).toInt % 16) := (t_rem b9 (show B 16 16 (16 : Int32) from ⟨by decide +kernel, by decide +kernel⟩) (by decide +kernel) (by decide +kernel)).trans (by rw [(show (16 : Int32).toInt = 16 from by decide +kernel)])
    have q601 : (2) ≤ (v4_1 - ((v4_1 / 16) * 16)).toInt ∧ (v4_1 - ((v4_1 / 16) * 16)).toInt ≤ (15) := (show B 2 15 (v4_1 - ((v4_1 / 16) * 16)) from B_w b599 (by decide +kernel) (by decide +kernel))
    have i602 : (1 : Int32).toInt < (v4_1 - ((v4_1 / 16) * 16)).toInt := i_lt hq598
    have n603 : (1 : Int32).toInt = 1 := by decide +kernel
    refine ⟨(show ¬ ((60 : Nat) = NU) from by decide +kernel), ?_⟩
    refine ⟨(show ¬ ((60 : Nat) = NU) from by decide +kernel), ?_⟩
    refine ⟨(show c_cl UL 60 = 8 from cl_60), ?_⟩
    have g607 := agc_tr (agc_refl (fs := [6001, 6006, 6007, 8105, 8605, 9105, 9605]) (rs := [82, 83, 84, 85, 87, 88, 89, 90, 92, 93, 94, 95, 97, 98, 99, 100, 999]) (F := F)) g5 (by decide +kernel) (by decide +kernel)
    exact h_Re_fail_u60 (B_w (show B 5 5 (5 : Int32) from ⟨by decide +kernel, by decide +kernel⟩) (by decide +kernel) (by decide +kernel)) hI4 (fun hI g => hT13 hI (agc_tr g607 g (by decide +kernel) (by decide +kernel)))
set_option maxRecDepth 20000 in
set_option maxHeartbeats 4000000 in
theorem h_Un_readParts_u59 {a : Bool} {b : Bool} {P : Nat → Nat → Nat} {x1 : Int32} {F : cF} {L : cL} {K : cs → Prop} {T : Nat → cs → Prop} (hI : IMc F) (pre0 : CV F) (hK : ∀ {Z : cF} {LZ : cL}, IMc Z → agc [6001, 8100, 8105, 8600, 8605, 9100, 9105, 9600, 9605] [78, 79, 82, 83, 84, 85, 87, 88, 89, 90, 92, 93, 94, 95, 97, 98, 99, 100, 999] F Z → (CV Z) → K (Z, LZ, PC a b P)) (hT13 : ∀ {Z : cF} {LZ : cL}, IMc Z → agc [6001, 6006, 6007, 8100, 8105, 8600, 8605, 9100, 9105, 9600, 9605] [78, 79, 82, 83, 84, 85, 87, 88, 89, 90, 92, 93, 94, 95, 97, 98, 99, 100, 999] F Z → T 13 (Z, LZ, PC a b P)) : p_Un_readParts UL 59 x1 (F, L, PC a b P) K T := by
  unfold p_Un_readParts
  refine ⟨fun yx1 yx2 yS => x1 = yx1 ∧ B 0 32768 yx2 ∧ ∃ (T3 : cF) (LT3 : cL), yS = (T3, LT3, PC a b P) ∧ IMc T3 ∧ agc [6001, 8100, 8105, 8600, 8605, 9100, 9105, 9600, 9605] [78, 79, 82, 83, 84, 85, 87, 88, 89, 90, 92, 93, 94, 95, 97, 98, 99, 100, 999] F T3 ∧ (CV T3), fun yx1 yx2 yS => (32768 - yx2.toInt).toNat, ⟨rfl, (B_w (show B 0 0 (0 : Int32) from ⟨by decide +kernel, by decide +kernel⟩) (by decide +kernel) (by decide +kernel)), _, _, rfl, hI, (agc_refl (fs := [6001, 8100, 8105, 8600, 8605, 9100, 9105, 9600, 9605]) (rs := [78, 79, 82, 83, 84, 85, 87, 88, 89, 90, 92, 93, 94, 95, 97, 98, 99, 100, 999]) (F := F)), pre0⟩, fun x1_1 x2_2 ST3 hIv => ?_⟩
  obtain ⟨rfl, b4, T3, LT3, rfl, hI5, g6, r7⟩ := hIv
  suffices hs : ∀ (R2 : Int32 → Int32 → cs → Prop), (∀ zx1 zx2 zS, (x1 = zx1 ∧ B 0 32768 zx2 ∧ ∃ (T3 : cF) (LT3 : cL), zS = (T3, LT3, PC a b P) ∧ IMc T3 ∧ agc [6001, 8100, 8105, 8600, 8605, 9100, 9105, 9600, 9605] [78, 79, 82, 83, 84, 85, 87, 88, 89, 90, 92, 93, 94, 95, 97, 98, 99, 100, 999] F T3 ∧ (CV T3)) → (32768 - zx2.toInt).toNat < (32768 - x2_2.toInt).toNat → R2 zx1 zx2 zS) → b_Un_readParts_2 UL 59 x1 x2_2 (T3, LT3, PC a b P) R2 K T from hs _ (fun _ _ _ h1 h2 => ⟨h1, h2⟩)
  intro R2 hR20
  have hR2 := fun {zx1} {zx2} {zS} => hR20 zx1 zx2 zS
  unfold b_Un_readParts_2
  refine ⟨(show ¬ ((60 : Nat) = NU) from by decide +kernel), ?_⟩
  refine ⟨(show c_cl UL 60 = 8 from cl_60), ?_⟩
  refine ⟨fun hc => ?_, fun hc => ?_⟩
  · have hq8 := hc
    have b9 : B (-2147483648) 98304 ((T3 59 12) + (T3 59 13)) := B_w (B_leL (B_any _) (show B 0 98304 (T3 60 1) from hI5 60 1) hq8) (by decide +kernel) (by decide +kernel)
    have q10 : (-2147483648) ≤ ((T3 59 12) + (T3 59 13)).toInt ∧ ((T3 59 12) + (T3 59 13)).toInt ≤ (98304) := (show B (-2147483648) 98304 ((T3 59 12) + (T3 59 13)) from B_w b9 (by decide +kernel) (by decide +kernel))
    have q11 : (0) ≤ (T3 60 1).toInt ∧ (T3 60 1).toInt ≤ (98304) := (show B 0 98304 (T3 60 1) from B_w (show B 0 98304 (T3 60 1) from hI5 60 1) (by decide +kernel) (by decide +kernel))
    have i12 : ((T3 59 12) + (T3 59 13)).toInt ≤ (T3 60 1).toInt := i_le hq8
    unfold b_Un_readParts_51
    have g13 := agc_tr (agc_refl (fs := [6001, 8100, 8105, 8600, 8605, 9100, 9105, 9600, 9605]) (rs := [78, 79, 82, 83, 84, 85, 87, 88, 89, 90, 92, 93, 94, 95, 97, 98, 99, 100, 999]) (F := F)) g6 (by decide +kernel) (by decide +kernel)
    exact hK hI5 g13 r7
  · have hq14 := (nle_lt hc)
    have b15 : B 1 2147483647 ((T3 59 12) + (T3 59 13)) := B_w (B_ltR (show B 0 98304 (T3 60 1) from hI5 60 1) (B_any _) hq14) (by decide +kernel) (by decide +kernel)
    have q16 : (0) ≤ (T3 60 1).toInt ∧ (T3 60 1).toInt ≤ (98304) := (show B 0 98304 (T3 60 1) from B_w (show B 0 98304 (T3 60 1) from hI5 60 1) (by decide +kernel) (by decide +kernel))
    have q17 : (1) ≤ ((T3 59 12) + (T3 59 13)).toInt ∧ ((T3 59 12) + (T3 59 13)).toInt ≤ (2147483647) := (show B 1 2147483647 ((T3 59 12) + (T3 59 13)) from B_w b15 (by decide +kernel) (by decide +kernel))
    have i18 : (T3 60 1).toInt < ((T3 59 12) + (T3 59 13)).toInt := i_lt hq14
    refine ⟨fun hc => ?_, fun hc => ?_⟩
    · have hq19 := hc
      have b20 : B 32768 32768 (x2_2) := B_w (B_leR (show B 32768 32768 (32768 : Int32) from ⟨by decide +kernel, by decide +kernel⟩) b4 hq19) (by decide +kernel) (by decide +kernel)
      unfold b_Un_readParts_51
      have g21 := agc_tr (agc_refl (fs := [6001, 8100, 8105, 8600, 8605, 9100, 9105, 9600, 9605]) (rs := [78, 79, 82, 83, 84, 85, 87, 88, 89, 90, 92, 93, 94, 95, 97, 98, 99, 100, 999]) (F := F)) g6 (by decide +kernel) (by decide +kernel)
      exact hK hI5 g21 r7
    · have hq22 := (nle_lt hc)
      have b23 : B 0 32767 (x2_2) := B_w (B_ltL b4 (show B 32768 32768 (32768 : Int32) from ⟨by decide +kernel, by decide +kernel⟩) hq22) (by decide +kernel) (by decide +kernel)
      refine ⟨fun hc => ?_, fun hc => ?_⟩
      · have i24 : (x1).toInt ≠ (219 : Int32).toInt := i_ne hc
        have n25 : (219 : Int32).toInt = 219 := by decide +kernel
        have g30 := agc_tr (agc_refl (fs := [6001, 6006, 6007, 8100, 8105, 8600, 8605, 9100, 9105, 9600, 9605]) (rs := [78, 79, 82, 83, 84, 85, 87, 88, 89, 90, 92, 93, 94, 95, 97, 98, 99, 100, 999]) (F := F)) g6 (by decide +kernel) (by decide +kernel)
        refine h_Un_readCodes_u59 hI5 r7 (fun {FS42_26} {LFS42_26} hI27 g28 r29 => ?_) (fun hI g => hT13 hI (agc_tr g30 g (by decide +kernel) (by decide +kernel)))
        have r31 : CV FS42_26 := r29
        clear r29
        unfold b_Un_readParts_45
        have g33 := agc_tr (agc_refl (fs := [6001, 8100, 8105, 8600, 8605, 9100, 9105, 9600, 9605]) (rs := [78, 79, 82, 83, 84, 85, 87, 88, 89, 90, 92, 93, 94, 95, 97, 98, 99, 100, 999]) (F := F)) g6 (by decide +kernel) (by decide +kernel)
        have g32 := agc_tr g33 g28 (by decide +kernel) (by decide +kernel)
        have q34 : (0) ≤ (x2_2).toInt ∧ (x2_2).toInt ≤ (32767) := (show B 0 32767 (x2_2) from B_w b23 (by decide +kernel) (by decide +kernel))
        have e35 : (x2_2 + 1).toInt = ((x2_2).toInt + 1) := (t_add b23 (show B 1 1 (1 : Int32) from ⟨by decide +kernel, by decide +kernel⟩) (by decide +kernel) (by decide +kernel)).trans (by rw [(show (1 : Int32).toInt = 1 from by decide +kernel)])
        have q36 : (1) ≤ (x2_2 + 1).toInt ∧ (x2_2 + 1).toInt ≤ (32768) := (show B 1 32768 (x2_2 + 1) from B_w (B_add b23 (show B 1 1 (1 : Int32) from ⟨by decide +kernel, by decide +kernel⟩) (by decide +kernel) (by decide +kernel)) (by decide +kernel) (by decide +kernel))
        exact hR2 ⟨rfl, (B_w (B_add b23 (show B 1 1 (1 : Int32) from ⟨by decide +kernel, by decide +kernel⟩) (by decide +kernel) (by decide +kernel)) (by decide +kernel) (by decide +kernel)), _, _, rfl, hI27, g32, r31⟩ (by show (32768 - (x2_2 + 1).toInt).toNat < (32768 - x2_2.toInt).toNat; omega)
      · have b37 : B 219 219 (x1) := B_w (B_eq hc (show B 219 219 (219 : Int32) from ⟨by decide +kernel, by decide +kernel⟩)) (by decide +kernel) (by decide +kernel)
        have q38 : (219) ≤ (x1).toInt ∧ (x1).toInt ≤ (219) := (show B 219 219 (x1) from B_w b37 (by decide +kernel) (by decide +kernel))
        have i39 : (x1).toInt = (219 : Int32).toInt := congrArg Int32.toInt hc
        have n40 : (219 : Int32).toInt = 219 := by decide +kernel
        have g44 := agc_tr (agc_refl (fs := [6001, 6006, 6007, 8100, 8105, 8600, 8605, 9100, 9105, 9600, 9605]) (rs := [78, 79, 82, 83, 84, 85, 87, 88, 89, 90, 92, 93, 94, 95, 97, 98, 99, 100, 999]) (F := F)) g6 (by decide +kernel) (by decide +kernel)
        refine h_Un_readTable_u59 hI5 (fun {FS35_41} {LFS35_41} hI42 g43 => ?_) (fun hI g => hT13 hI (agc_tr g44 g (by decide +kernel) (by decide +kernel)))
        unfold b_Un_readParts_45
        have g46 := agc_tr (agc_refl (fs := [6001, 8100, 8105, 8600, 8605, 9100, 9105, 9600, 9605]) (rs := [78, 79, 82, 83, 84, 85, 87, 88, 89, 90, 92, 93, 94, 95, 97, 98, 99, 100, 999]) (F := F)) g6 (by decide +kernel) (by decide +kernel)
        have g45 := agc_tr g46 g43 (by decide +kernel) (by decide +kernel)
        have g47 := agc_tr (agc_refl (fs := [6001]) (rs := [78, 79, 999]) (F := T3)) g43 (by decide +kernel) (by decide +kernel)
        have q48 : (0) ≤ (x2_2).toInt ∧ (x2_2).toInt ≤ (32767) := (show B 0 32767 (x2_2) from B_w b23 (by decide +kernel) (by decide +kernel))
        have e49 : (x2_2 + 1).toInt = ((x2_2).toInt + 1) := (t_add b23 (show B 1 1 (1 : Int32) from ⟨by decide +kernel, by decide +kernel⟩) (by decide +kernel) (by decide +kernel)).trans (by rw [(show (1 : Int32).toInt = 1 from by decide +kernel)])
        have q50 : (1) ≤ (x2_2 + 1).toInt ∧ (x2_2 + 1).toInt ≤ (32768) := (show B 1 32768 (x2_2 + 1) from B_w (B_add b23 (show B 1 1 (1 : Int32) from ⟨by decide +kernel, by decide +kernel⟩) (by decide +kernel) (by decide +kernel)) (by decide +kernel) (by decide +kernel))
        exact hR2 ⟨rfl, (B_w (B_add b23 (show B 1 1 (1 : Int32) from ⟨by decide +kernel, by decide +kernel⟩) (by decide +kernel) (by decide +kernel)) (by decide +kernel) (by decide +kernel)), _, _, rfl, hI42, g45, (CV_ag (F := T3) (G := FS35_41) r7 g47 (by decide +kernel) (by decide +kernel))⟩ (by show (32768 - (x2_2 + 1).toInt).toNat < (32768 - x2_2.toInt).toNat; omega)
