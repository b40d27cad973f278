set_option maxRecDepth 20000 in
set_option maxHeartbeats 4000000 in
theorem h_Oc_giveOut_u33 {a : Bool} {b : Bool} {P : Nat → Nat → Nat} {F : cF} {L : cL} {K : cs → Prop} (hI : IMc F) (hK : ∀ {Z : cF} {LZ : cL}, IMc Z → agc [3304] [36, 37, 38, 999] F Z → K (Z, LZ, PC a b P)) : p_Oc_giveOut UL 33 (F, L, PC a b P) K := by
  unfold p_Oc_giveOut
  have k1 := rC_0 (F 35)
  have hI9 := IMc_u (u := 33) (i := 4) (v := 0) hI (show B 0 256 (0) from (B_w cqb_0_0_0 (by decide +kernel) (by decide +kernel)))
  refine ⟨fun yx1 yx2 yS => B (-2147483648) 2147483647 yx1 ∧ B 1 17 yx2 ∧ ∃ (T4 : cF) (LT4 : cL), yS = (T4, LT4, PC a b P) ∧ IMc T4 ∧ agc [3304] [36, 37, 38, 999] (va_up F 33 (upd (F 33) 4 0)) T4 ∧ ((T4 33 4).toInt ≤ (rC (F 35) yx2.toInt 0)), fun yx1 yx2 yS => (17 - yx2.toInt).toNat, ⟨(B_w cqb_0_0_0 (by decide +kernel) (by decide +kernel)), (B_w cqb_1_1_1 (by decide +kernel) (by decide +kernel)), _, _, rfl, hI9, (agc_refl (fs := [3304]) (rs := [36, 37, 38, 999]) (F := va_up F 33 (upd (F 33) 4 0))), (by show 0 ≤ (rC (F 35) 1 0); first | with_reducible assumption | omega)⟩, fun x1_2 x2_3 ST4 hIv => ?_⟩
  obtain ⟨b5, b6, T4, LT4, rfl, hI7, g8, r10⟩ := hIv
  suffices hs : ∀ (R9 : Int32 → Int32 → cs → Prop), (∀ zx1 zx2 zS, (B (-2147483648) 2147483647 zx1 ∧ B 1 17 zx2 ∧ ∃ (T4 : cF) (LT4 : cL), zS = (T4, LT4, PC a b P) ∧ IMc T4 ∧ agc [3304] [36, 37, 38, 999] (va_up F 33 (upd (F 33) 4 0)) T4 ∧ ((T4 33 4).toInt ≤ (rC (F 35) zx2.toInt 0))) → (17 - zx2.toInt).toNat < (17 - x2_3.toInt).toNat → R9 zx1 zx2 zS) → b_Oc_giveOut_9 UL 33 x1_2 x2_3 (T4, LT4, PC a b P) R9 K from hs _ (fun _ _ _ h1 h2 => ⟨h1, h2⟩)
  intro R9 hR90
  have hR9 := fun {zx1} {zx2} {zS} => hR90 zx1 zx2 zS
  have q11 : (0) ≤ (T4 33 4).toInt ∧ (T4 33 4).toInt ≤ (256) := (show B 0 256 (T4 33 4) from hI7 33 4)
  have q12 : (1) ≤ (x2_3).toInt ∧ (x2_3).toInt ≤ (17) := (show B 1 17 (x2_3) from B_w b6 (by decide +kernel) (by decide +kernel))
  unfold b_Oc_giveOut_9
  refine ⟨fun hc => ?_, fun hc => ?_⟩
  · have hq13 := hc
    have b14 : B 17 17 (x2_3) := B_w (B_ltR cqb_16_16_16 b6 hq13) (by decide +kernel) (by decide +kernel)
    have q15 : (17) ≤ (x2_3).toInt ∧ (x2_3).toInt ≤ (17) := (show B 17 17 (x2_3) from B_w b14 (by decide +kernel) (by decide +kernel))
    have g17 := agc_f (u := 33) (k := 4) (v := 0) (agc_refl (fs := [3304]) (rs := [36, 37, 38, 999]) (F := F)) rfl (by decide +kernel)
    have g16 := agc_tr g17 g8 (by decide +kernel) (by decide +kernel)
    exact hK hI7 g16
  · have hq18 := (nlt_le hc)
    have b19 : B 1 16 (x2_3) := B_w (B_leL b6 cqb_16_16_16 hq18) (by decide +kernel) (by decide +kernel)
    have q20 : (1) ≤ (x2_3).toInt ∧ (x2_3).toInt ≤ (16) := (show B 1 16 (x2_3) from B_w b19 (by decide +kernel) (by decide +kernel))
    refine ⟨fun yx1 yx2 yx3 yx4 yS => x2_3 = yx2 ∧ (T4 33 4) = yx3 ∧ B (-2147483648) 2147483647 yx1 ∧ B 0 256 yx4 ∧ ∃ (T25 : cF) (LT25 : cL), yS = (T25, LT25, PC a b P) ∧ IMc T25 ∧ agc [3304] [36, 37] T4 T25 ∧ ((T25 33 4).toInt ≤ (rC (F 35) yx2.toInt yx4.toInt)) ∧ ((0 ≤ yx3.toInt) ∧ (yx3.toInt ≤ (T25 33 4).toInt)), fun yx1 yx2 yx3 yx4 yS => (256 - yx4.toInt).toNat, ⟨rfl, rfl, b5, (B_w cqb_0_0_0 (by decide +kernel) (by decide +kernel)), _, _, rfl, hI7, (agc_refl (fs := [3304]) (rs := [36, 37]) (F := T4)), (by show (T4 33 4).toInt ≤ (rC (F 35) x2_3.toInt 0); first | with_reducible assumption | omega), (by show (0 ≤ (T4 33 4).toInt) ∧ ((T4 33 4).toInt ≤ (T4 33 4).toInt); first | with_reducible assumption | omega)⟩, fun x1_21 x2_22 x3_23 x4_24 ST25 hIv => ?_⟩
    obtain ⟨rfl, rfl, b26, b27, T25, LT25, rfl, hI28, g29, r30, r31⟩ := hIv
    suffices hs : ∀ (R23 : Int32 → Int32 → Int32 → Int32 → cs → Prop), (∀ zx1 zx2 zx3 zx4 zS, (x2_3 = zx2 ∧ (T4 33 4) = zx3 ∧ B (-2147483648) 2147483647 zx1 ∧ B 0 256 zx4 ∧ ∃ (T25 : cF) (LT25 : cL), zS = (T25, LT25, PC a b P) ∧ IMc T25 ∧ agc [3304] [36, 37] T4 T25 ∧ ((T25 33 4).toInt ≤ (rC (F 35) zx2.toInt zx4.toInt)) ∧ ((0 ≤ zx3.toInt) ∧ (zx3.toInt ≤ (T25 33 4).toInt))) → (256 - zx4.toInt).toNat < (256 - x4_24.toInt).toNat → R23 zx1 zx2 zx3 zx4 zS) → b_Oc_giveOut_23 UL 33 x1_21 x2_3 (T4 33 4) x4_24 (T25, LT25, PC a b P) R9 R23 K from hs _ (fun _ _ _ _ _ h1 h2 => ⟨h1, h2⟩)
    intro R23 hR230
    have hR23 := fun {zx1} {zx2} {zx3} {zx4} {zS} => hR230 zx1 zx2 zx3 zx4 zS
    have q32 : (0) ≤ (T25 33 4).toInt ∧ (T25 33 4).toInt ≤ (256) := (show B 0 256 (T25 33 4) from hI28 33 4)
    have q33 : (0) ≤ (x4_24).toInt ∧ (x4_24).toInt ≤ (256) := (show B 0 256 (x4_24) from B_w b27 (by decide +kernel) (by decide +kernel))
    have krc34 := fun h : (x4_24).toInt ≤ 255 => rC_i (g := F 35) (x := x2_3) (s := x4_24) (by omega) (by omega) h
    unfold b_Oc_giveOut_23
    refine ⟨fun hc => ?_, fun hc => ?_⟩
    · have hq35 := hc
      have b36 : B 256 256 (x4_24) := B_w (B_leR cqb_256_256_256 b27 hq35) (by decide +kernel) (by decide +kernel)
      have q37 : (256) ≤ (x4_24).toInt ∧ (x4_24).toInt ≤ (256) := (show B 256 256 (x4_24) from B_w b36 (by decide +kernel) (by decide +kernel))
      refine ⟨(show ¬ ((38 : Nat) = NU) from by decide +kernel), ?_⟩
      refine ⟨(show c_cl UL 38 = 902 from cl_38), ?_⟩
      refine ⟨(show vp_in (x2_3) 17 from vp_B b19 (by decide +kernel) (by decide +kernel)), ?_⟩
      have e38 : ((T25 33 4) - (T4 33 4)).toInt = ((T25 33 4).toInt - (T4 33 4).toInt) := (t_sub (show B 0 256 (T25 33 4) from hI28 33 4) (show B 0 256 (T4 33 4) from hI7 33 4) (by decide +kernel) (by decide +kernel)).trans (by rfl)
      have q39 : (-256) ≤ ((T25 33 4) - (T4 33 4)).toInt ∧ ((T25 33 4) - (T4 33 4)).toInt ≤ (256) := (show B (-256) 256 ((T25 33 4) - (T4 33 4)) from B_w (B_sub (show B 0 256 (T25 33 4) from hI28 33 4) (show B 0 256 (T4 33 4) from hI7 33 4) (by decide +kernel) (by decide +kernel)) (by decide +kernel) (by decide +kernel))
      have hI40 := IMc_u (u := 38) (i := x2_3.toNatClampNeg) (v := (T25 33 4) - (T4 33 4)) hI28 (show B 0 256 ((T25 33 4) - (T4 33 4)) from (show B 0 256 ((T25 33 4) - (T4 33 4)) from ⟨by omega, by omega⟩))
      have g43 := agc_tr (agc_refl (fs := [3304]) (rs := [36, 37, 38, 999]) (F := va_up F 33 (upd (F 33) 4 0))) g8 (by decide +kernel) (by decide +kernel)
      have g42 := agc_tr g43 g29 (by decide +kernel) (by decide +kernel)
      have g41 := agc_r (u := 38) (w := upd (T25 38) x2_3.toNatClampNeg ((T25 33 4) - (T4 33 4))) g42 rfl (by decide +kernel)
      have e44 : (x2_3 + 1).toInt = ((x2_3).toInt + 1) := (t_add b19 cqb_1_1_1 (by decide +kernel) (by decide +kernel)).trans (by rw [cqn_1])
      have q45 : (2) ≤ (x2_3 + 1).toInt ∧ (x2_3 + 1).toInt ≤ (17) := (show B 2 17 (x2_3 + 1) from B_w (B_add b19 cqb_1_1_1 (by decide +kernel) (by decide +kernel)) (by decide +kernel) (by decide +kernel))
      have k46 : rC (F 35) (x2_3 + 1).toInt 0 = rC (F 35) ((x2_3).toInt + 1) 0 := by rw [e44]
      have k47 := rC_e (g := F 35) (n := (x2_3).toInt)
      have k48 : (x4_24).toInt = 256 → rC (F 35) (x2_3).toInt (x4_24).toInt = rC (F 35) (x2_3).toInt 256 := fun h => by rw [h]
      exact hR9 ⟨(B_w (B_any _) (by decide +kernel) (by decide +kernel)), (B_w (B_add b19 cqb_1_1_1 (by decide +kernel) (by decide +kernel)) (by decide +kernel) (by decide +kernel)), _, _, rfl, hI40, g41, (by show (T25 33 4).toInt ≤ (rC (F 35) (x2_3 + 1).toInt 0); first | with_reducible assumption | omega)⟩ (by show (17 - (x2_3 + 1).toInt).toNat < (17 - x2_3.toInt).toNat; omega)
    · have hq49 := (nle_lt hc)
      have b50 : B 0 255 (x4_24) := B_w (B_ltL b27 cqb_256_256_256 hq49) (by decide +kernel) (by decide +kernel)
      have q51 : (0) ≤ (x4_24).toInt ∧ (x4_24).toInt ≤ (255) := (show B 0 255 (x4_24) from B_w b50 (by decide +kernel) (by decide +kernel))
      refine ⟨(show ¬ ((35 : Nat) = NU) from by decide +kernel), ?_⟩
      refine ⟨(show c_cl UL 35 = 902 from cl_35), ?_⟩
      refine ⟨(show vp_in (x4_24) 257 from vp_B b50 (by decide +kernel) (by decide +kernel)), ?_⟩
      refine ⟨fun hc => ?_, fun hc => ?_⟩
      · have e52 : (T25 35 x4_24.toNatClampNeg).toInt = (F 35 x4_24.toNatClampNeg).toInt := (congrArg Int32.toInt ((congrFun (g29.2 35 rfl rfl) x4_24.toNatClampNeg).trans (congrFun (g8.2 35 rfl rfl) x4_24.toNatClampNeg))).trans rfl
        have i53 : (T25 35 x4_24.toNatClampNeg).toInt ≠ (x2_3).toInt := i_ne hc
        unfold b_Oc_giveOut_74
        have g54 := agc_tr (agc_refl (fs := [3304]) (rs := [36, 37]) (F := T4)) g29 (by decide +kernel) (by decide +kernel)
        have e55 : (x4_24 + 1).toInt = ((x4_24).toInt + 1) := (t_add b50 cqb_1_1_1 (by decide +kernel) (by decide +kernel)).trans (by rw [cqn_1])
        have q56 : (1) ≤ (x4_24 + 1).toInt ∧ (x4_24 + 1).toInt ≤ (256) := (show B 1 256 (x4_24 + 1) from B_w (B_add b50 cqb_1_1_1 (by decide +kernel) (by decide +kernel)) (by decide +kernel) (by decide +kernel))
        have k57 : rC (F 35) (x2_3).toInt (x4_24 + 1).toInt = rC (F 35) (x2_3).toInt ((x4_24).toInt + 1) := by rw [e55]
        exact hR23 ⟨rfl, rfl, b26, (B_w (B_add b50 cqb_1_1_1 (by decide +kernel) (by decide +kernel)) (by decide +kernel) (by decide +kernel)), _, _, rfl, hI28, g54, (by show (T25 33 4).toInt ≤ (rC (F 35) x2_3.toInt (x4_24 + 1).toInt); first | with_reducible assumption | omega), (by show (0 ≤ (T4 33 4).toInt) ∧ ((T4 33 4).toInt ≤ (T25 33 4).toInt); first | with_reducible assumption | omega)⟩ (by show (256 - (x4_24 + 1).toInt).toNat < (256 - x4_24.toInt).toNat; omega)
      · have b58 : B 1 16 (F 35 x4_24.toNatClampNeg) := B_w (B_eq (Eq.symm ((congrFun (g29.2 35 rfl rfl) x4_24.toNatClampNeg).trans (congrFun (g8.2 35 rfl rfl) x4_24.toNatClampNeg))) (B_eq hc b19)) (by decide +kernel) (by decide +kernel)
        have q59 : (1) ≤ (F 35 x4_24.toNatClampNeg).toInt ∧ (F 35 x4_24.toNatClampNeg).toInt ≤ (16) := (show B 1 16 (F 35 x4_24.toNatClampNeg) from B_w b58 (by decide +kernel) (by decide +kernel))
        have e60 : (T25 35 x4_24.toNatClampNeg).toInt = (F 35 x4_24.toNatClampNeg).toInt := (congrArg Int32.toInt ((congrFun (g29.2 35 rfl rfl) x4_24.toNatClampNeg).trans (congrFun (g8.2 35 rfl rfl) x4_24.toNatClampNeg))).trans rfl
        have i61 : (T25 35 x4_24.toNatClampNeg).toInt = (x2_3).toInt := congrArg Int32.toInt hc
        refine ⟨(show ¬ ((36 : Nat) = NU) from by decide +kernel), ?_⟩
        refine ⟨(show c_cl UL 36 = 902 from cl_36), ?_⟩
        refine ⟨(show vp_in (x4_24) 256 from vp_B b50 (by decide +kernel) (by decide +kernel)), ?_⟩
        refine ⟨(show ¬ ((37 : Nat) = NU) from by decide +kernel), ?_⟩
        refine ⟨(show c_cl UL 37 = 902 from cl_37), ?_⟩
        refine ⟨(show vp_in (T25 33 4) 256 from vp_om (x := T25 33 4) (by omega) (by omega)), ?_⟩
        have b62 : B 0 255 (T25 33 4) := ⟨by omega, by omega⟩
        unfold b_Oc_giveOut_74
        have hI63 := IMc_u (u := 36) (i := x4_24.toNatClampNeg) (v := x1_21) hI28 (show B (-2147483648) 2147483647 (x1_21) from (B_w b26 (by decide +kernel) (by decide +kernel)))
        have hI64 := IMc_u (u := 37) (i := (T25 33 4).toNatClampNeg) (v := x4_24) hI63 (show B 0 255 (x4_24) from (B_w b50 (by decide +kernel) (by decide +kernel)))
        have hI65 := IMc_u (u := 33) (i := 4) (v := (T25 33 4) + 1) hI64 (show B 0 256 ((T25 33 4) + 1) from (B_w (B_add b62 cqb_1_1_1 (by decide +kernel) (by decide +kernel)) (by decide +kernel) (by decide +kernel)))
        have g69 := agc_tr (agc_refl (fs := [3304]) (rs := [36, 37]) (F := T4)) g29 (by decide +kernel) (by decide +kernel)
        have g68 := agc_r (u := 36) (w := upd (T25 36) x4_24.toNatClampNeg x1_21) g69 rfl (by decide +kernel)
        have g67 := agc_r (u := 37) (w := upd (T25 37) (T25 33 4).toNatClampNeg x4_24) g68 rfl (by decide +kernel)
        have g66 := agc_f (u := 33) (k := 4) (v := (T25 33 4) + 1) g67 rfl (by decide +kernel)
        have e70 : (x4_24 + 1).toInt = ((x4_24).toInt + 1) := (t_add b50 cqb_1_1_1 (by decide +kernel) (by decide +kernel)).trans (by rw [cqn_1])
        have q71 : (1) ≤ (x4_24 + 1).toInt ∧ (x4_24 + 1).toInt ≤ (256) := (show B 1 256 (x4_24 + 1) from B_w (B_add b50 cqb_1_1_1 (by decide +kernel) (by decide +kernel)) (by decide +kernel) (by decide +kernel))
        have k72 : rC (F 35) (x2_3).toInt (x4_24 + 1).toInt = rC (F 35) (x2_3).toInt ((x4_24).toInt + 1) := by rw [e70]
        have e73 : ((T25 33 4) + 1).toInt = ((T25 33 4).toInt + 1) := (t_add b62 cqb_1_1_1 (by decide +kernel) (by decide +kernel)).trans (by rw [cqn_1])
        have q74 : (1) ≤ ((T25 33 4) + 1).toInt ∧ ((T25 33 4) + 1).toInt ≤ (256) := (show B 1 256 ((T25 33 4) + 1) from B_w (B_add b62 cqb_1_1_1 (by decide +kernel) (by decide +kernel)) (by decide +kernel) (by decide +kernel))
        exact hR23 ⟨rfl, rfl, (B_w (B_any _) (by decide +kernel) (by decide +kernel)), (B_w (B_add b50 cqb_1_1_1 (by decide +kernel) (by decide +kernel)) (by decide +kernel) (by decide +kernel)), _, _, rfl, hI65, g66, (by show ((T25 33 4) + 1).toInt ≤ (rC (F 35) x2_3.toInt (x4_24 + 1).toInt); first | with_reducible assumption | omega), (by show (0 ≤ (T4 33 4).toInt) ∧ ((T4 33 4).toInt ≤ ((T25 33 4) + 1).toInt); first | with_reducible assumption | omega)⟩ (by show (256 - (x4_24 + 1).toInt).toNat < (256 - x4_24.toInt).toNat; omega)
set_option maxRecDepth 20000 in
set_option maxHeartbeats 4000000 in
theorem h_Oc_giveOut_u39 {a : Bool} {b : Bool} {P : Nat → Nat → Nat} {F : cF} {L : cL} {K : cs → Prop} (hI : IMc F) (hK : ∀ {Z : cF} {LZ : cL}, IMc Z → agc [3904] [42, 43, 44, 999] F Z → K (Z, LZ, PC a b P)) : p_Oc_giveOut UL 39 (F, L, PC a b P) K := by
  unfold p_Oc_giveOut
  have k1 := rC_0 (F 41)
  have hI9 := IMc_u (u := 39) (i := 4) (v := 0) hI (show B 0 256 (0) from (B_w cqb_0_0_0 (by decide +kernel) (by decide +kernel)))
  refine ⟨fun yx1 yx2 yS => B (-2147483648) 2147483647 yx1 ∧ B 1 17 yx2 ∧ ∃ (T4 : cF) (LT4 : cL), yS = (T4, LT4, PC a b P) ∧ IMc T4 ∧ agc [3904] [42, 43, 44, 999] (va_up F 39 (upd (F 39) 4 0)) T4 ∧ ((T4 39 4).toInt ≤ (rC (F 41) yx2.toInt 0)), fun yx1 yx2 yS => (17 - yx2.toInt).toNat, ⟨(B_w cqb_0_0_0 (by decide +kernel) (by decide +kernel)), (B_w cqb_1_1_1 (by decide +kernel) (by decide +kernel)), _, _, rfl, hI9, (agc_refl (fs := [3904]) (rs := [42, 43, 44, 999]) (F := va_up F 39 (upd (F 39) 4 0))), (by show 0 ≤ (rC (F 41) 1 0); first | with_reducible assumption | omega)⟩, fun x1_2 x2_3 ST4 hIv => ?_⟩
  obtain ⟨b5, b6, T4, LT4, rfl, hI7, g8, r10⟩ := hIv
  suffices hs : ∀ (R9 : Int32 → Int32 → cs → Prop), (∀ zx1 zx2 zS, (B (-2147483648) 2147483647 zx1 ∧ B 1 17 zx2 ∧ ∃ (T4 : cF) (LT4 : cL), zS = (T4, LT4, PC a b P) ∧ IMc T4 ∧ agc [3904] [42, 43, 44, 999] (va_up F 39 (upd (F 39) 4 0)) T4 ∧ ((T4 39 4).toInt ≤ (rC (F 41) zx2.toInt 0))) → (17 - zx2.toInt).toNat < (17 - x2_3.toInt).toNat → R9 zx1 zx2 zS) → b_Oc_giveOut_9 UL 39 x1_2 x2_3 (T4, LT4, PC a b P) R9 K from hs _ (fun _ _ _ h1 h2 => ⟨h1, h2⟩)
  intro R9 hR90
  have hR9 := fun {zx1} {zx2} {zS} => hR90 zx1 zx2 zS
  have q11 : (0) ≤ (T4 39 4).toInt ∧ (T4 39 4).toInt ≤ (256) := (show B 0 256 (T4 39 4) from hI7 39 4)
  have q12 : (1) ≤ (x2_3).toInt ∧ (x2_3).toInt ≤ (17) := (show B 1 17 (x2_3) from B_w b6 (by decide +kernel) (by decide +kernel))
  unfold b_Oc_giveOut_9
  refine ⟨fun hc => ?_, fun hc => ?_⟩
  · have hq13 := hc
    have b14 : B 17 17 (x2_3) := B_w (B_ltR cqb_16_16_16 b6 hq13) (by decide +kernel) (by decide +kernel)
    have q15 : (17) ≤ (x2_3).toInt ∧ (x2_3).toInt ≤ (17) := (show B 17 17 (x2_3) from B_w b14 (by decide +kernel) (by decide +kernel))
    have g17 := agc_f (u := 39) (k := 4) (v := 0) (agc_refl (fs := [3904]) (rs := [42, 43, 44, 999]) (F := F)) rfl (by decide +kernel)
    have g16 := agc_tr g17 g8 (by decide +kernel) (by decide +kernel)
    exact hK hI7 g16
  · have hq18 := (nlt_le hc)
    have b19 : B 1 16 (x2_3) := B_w (B_leL b6 cqb_16_16_16 hq18) (by decide +kernel) (by decide +kernel)
    have q20 : (1) ≤ (x2_3).toInt ∧ (x2_3).toInt ≤ (16) := (show B 1 16 (x2_3) from B_w b19 (by decide +kernel) (by decide +kernel))
    refine ⟨fun yx1 yx2 yx3 yx4 yS => x2_3 = yx2 ∧ (T4 39 4) = yx3 ∧ B (-2147483648) 2147483647 yx1 ∧ B 0 256 yx4 ∧ ∃ (T25 : cF) (LT25 : cL), yS = (T25, LT25, PC a b P) ∧ IMc T25 ∧ agc [3904] [42, 43] T4 T25 ∧ ((T25 39 4).toInt ≤ (rC (F 41) yx2.toInt yx4.toInt)) ∧ ((0 ≤ yx3.toInt) ∧ (yx3.toInt ≤ (T25 39 4).toInt)), fun yx1 yx2 yx3 yx4 yS => (256 - yx4.toInt).toNat, ⟨rfl, rfl, b5, (B_w cqb_0_0_0 (by decide +kernel) (by decide +kernel)), _, _, rfl, hI7, (agc_refl (fs := [3904]) (rs := [42, 43]) (F := T4)), (by show (T4 39 4).toInt ≤ (rC (F 41) x2_3.toInt 0); first | with_reducible assumption | omega), (by show (0 ≤ (T4 39 4).toInt) ∧ ((T4 39 4).toInt ≤ (T4 39 4).toInt); first | with_reducible assumption | omega)⟩, fun x1_21 x2_22 x3_23 x4_24 ST25 hIv => ?_⟩
    obtain ⟨rfl, rfl, b26, b27, T25, LT25, rfl, hI28, g29, r30, r31⟩ := hIv
    suffices hs : ∀ (R23 : Int32 → Int32 → Int32 → Int32 → cs → Prop), (∀ zx1 zx2 zx3 zx4 zS, (x2_3 = zx2 ∧ (T4 39 4) = zx3 ∧ B (-2147483648) 2147483647 zx1 ∧ B 0 256 zx4 ∧ ∃ (T25 : cF) (LT25 : cL), zS = (T25, LT25, PC a b P) ∧ IMc T25 ∧ agc [3904] [42, 43] T4 T25 ∧ ((T25 39 4).toInt ≤ (rC (F 41) zx2.toInt zx4.toInt)) ∧ ((0 ≤ zx3.toInt) ∧ (zx3.toInt ≤ (T25 39 4).toInt))) → (256 - zx4.toInt).toNat < (256 - x4_24.toInt).toNat → R23 zx1 zx2 zx3 zx4 zS) → b_Oc_giveOut_23 UL 39 x1_21 x2_3 (T4 39 4) x4_24 (T25, LT25, PC a b P) R9 R23 K from hs _ (fun _ _ _ _ _ h1 h2 => ⟨h1, h2⟩)
    intro R23 hR230
    have hR23 := fun {zx1} {zx2} {zx3} {zx4} {zS} => hR230 zx1 zx2 zx3 zx4 zS
    have q32 : (0) ≤ (T25 39 4).toInt ∧ (T25 39 4).toInt ≤ (256) := (show B 0 256 (T25 39 4) from hI28 39 4)
    have q33 : (0) ≤ (x4_24).toInt ∧ (x4_24).toInt ≤ (256) := (show B 0 256 (x4_24) from B_w b27 (by decide +kernel) (by decide +kernel))
    have krc34 := fun h : (x4_24).toInt ≤ 255 => rC_i (g := F 41) (x := x2_3) (s := x4_24) (by omega) (by omega) h
    unfold b_Oc_giveOut_23
    refine ⟨fun hc => ?_, fun hc => ?_⟩
    · have hq35 := hc
      have b36 : B 256 256 (x4_24) := B_w (B_leR cqb_256_256_256 b27 hq35) (by decide +kernel) (by decide +kernel)
      have q37 : (256) ≤ (x4_24).toInt ∧ (x4_24).toInt ≤ (256) := (show B 256 256 (x4_24) from B_w b36 (by decide +kernel) (by decide +kernel))
      refine ⟨(show ¬ ((44 : Nat) = NU) from by decide +kernel), ?_⟩
      refine ⟨(show c_cl UL 44 = 902 from cl_44), ?_⟩
      refine ⟨(show vp_in (x2_3) 17 from vp_B b19 (by decide +kernel) (by decide +kernel)), ?_⟩
      have e38 : ((T25 39 4) - (T4 39 4)).toInt = ((T25 39 4).toInt - (T4 39 4).toInt) := (t_sub (show B 0 256 (T25 39 4) from hI28 39 4) (show B 0 256 (T4 39 4) from hI7 39 4) (by decide +kernel) (by decide +kernel)).trans (by rfl)
      have q39 : (-256) ≤ ((T25 39 4) - (T4 39 4)).toInt ∧ ((T25 39 4) - (T4 39 4)).toInt ≤ (256) := (show B (-256) 256 ((T25 39 4) - (T4 39 4)) from B_w (B_sub (show B 0 256 (T25 39 4) from hI28 39 4) (show B 0 256 (T4 39 4) from hI7 39 4) (by decide +kernel) (by decide +kernel)) (by decide +kernel) (by decide +kernel))
      have hI40 := IMc_u (u := 44) (i := x2_3.toNatClampNeg) (v := (T25 39 4) - (T4 39 4)) hI28 (show B 0 256 ((T25 39 4) - (T4 39 4)) from (show B 0 256 ((T25 39 4) - (T4 39 4)) from ⟨by omega, by omega⟩))
      have g43 := agc_tr (agc_refl (fs := [3904]) (rs := [42, 43, 44, 999]) (F := va_up F 39 (upd (F 39) 4 0))) g8 (by decide +kernel) (by decide +kernel)
      have g42 := agc_tr g43 g29 (by decide +kernel) (by decide +kernel)
      have g41 := agc_r (u := 44) (w := upd (T25 44) x2_3.toNatClampNeg ((T25 39 4) - (T4 39 4))) g42 rfl (by decide +kernel)
      have e44 : (x2_3 + 1).toInt = ((x2_3).toInt + 1) := (t_add b19 cqb_1_1_1 (by decide +kernel) (by decide +kernel)).trans (by rw [cqn_1])
      have q45 : (2) ≤ (x2_3 + 1).toInt ∧ (x2_3 + 1).toInt ≤ (17) := (show B 2 17 (x2_3 + 1) from B_w (B_add b19 cqb_1_1_1 (by decide +kernel) (by decide +kernel)) (by decide +kernel) (by decide +kernel))
      have k46 : rC (F 41) (x2_3 + 1).toInt 0 = rC (F 41) ((x2_3).toInt + 1) 0 := by rw [e44]
      have k47 := rC_e (g := F 41) (n := (x2_3).toInt)
      have k48 : (x4_24).toInt = 256 → rC (F 41) (x2_3).toInt (x4_24).toInt = rC (F 41) (x2_3).toInt 256 := fun h => by rw [h]
      exact hR9 ⟨(B_w (B_any _) (by decide +kernel) (by decide +kernel)), (B_w (B_add b19 cqb_1_1_1 (by decide +kernel) (by decide +kernel)) (by decide +kernel) (by decide +kernel)), _, _, rfl, hI40, g41, (by show (T25 39 4).toInt ≤ (rC (F 41) (x2_3 + 1).toInt 0); first | with_reducible assumption | omega)⟩ (by show (17 - (x2_3 + 1).toInt).toNat < (17 - x2_3.toInt).toNat; omega)
    · have hq49 := (nle_lt hc)
      have b50 : B 0 255 (x4_24) := B_w (B_ltL b27 cqb_256_256_256 hq49) (by decide +kernel) (by decide +kernel)
      have q51 : (0) ≤ (x4_24).toInt ∧ (x4_24).toInt ≤ (255) := (show B 0 255 (x4_24) from B_w b50 (by decide +kernel) (by decide +kernel))
      refine ⟨(show ¬ ((41 : Nat) = NU) from by decide +kernel), ?_⟩
      refine ⟨(show c_cl UL 41 = 902 from cl_41), ?_⟩
      refine ⟨(show vp_in (x4_24) 257 from vp_B b50 (by decide +kernel) (by decide +kernel)), ?_⟩
      refine ⟨fun hc => ?_, fun hc => ?_⟩
      · have e52 : (T25 41 x4_24.toNatClampNeg).toInt = (F 41 x4_24.toNatClampNeg).toInt := (congrArg Int32.toInt ((congrFun (g29.2 41 rfl rfl) x4_24.toNatClampNeg).trans (congrFun (g8.2 41 rfl rfl) x4_24.toNatClampNeg))).trans rfl
        have i53 : (T25 41 x4_24.toNatClampNeg).toInt ≠ (x2_3).toInt := i_ne hc
        unfold b_Oc_giveOut_74
        have g54 := agc_tr (agc_refl (fs := [3904]) (rs := [42, 43]) (F := T4)) g29 (by decide +kernel) (by decide +kernel)
        have e55 : (x4_24 + 1).toInt = ((x4_24).toInt + 1) := (t_add b50 cqb_1_1_1 (by decide +kernel) (by decide +kernel)).trans (by rw [cqn_1])
        have q56 : (1) ≤ (x4_24 + 1).toInt ∧ (x4_24 + 1).toInt ≤ (256) := (show B 1 256 (x4_24 + 1) from B_w (B_add b50 cqb_1_1_1 (by decide +kernel) (by decide +kernel)) (by decide +kernel) (by decide +kernel))
        have k57 : rC (F 41) (x2_3).toInt (x4_24 + 1).toInt = rC (F 41) (x2_3).toInt ((x4_24).toInt + 1) := by rw [e55]
        exact hR23 ⟨rfl, rfl, b26, (B_w (B_add b50 cqb_1_1_1 (by decide +kernel) (by decide +kernel)) (by decide +kernel) (by decide +kernel)), _, _, rfl, hI28, g54, (by show (T25 39 4).toInt ≤ (rC (F 41) x2_3.toInt (x4_24 + 1).toInt); first | with_reducible assumption | omega), (by show (0 ≤ (T4 39 4).toInt) ∧ ((T4 39 4).toInt ≤ (T25 39 4).toInt); first | with_reducible assumption | omega)⟩ (by show (256 - (x4_24 + 1).toInt).toNat < (256 - x4_24.toInt).toNat; omega)
      · have b58 : B 1 16 (F 41 x4_24.toNatClampNeg) := B_w (B_eq (Eq.symm ((congrFun (g29.2 41 rfl rfl) x4_24.toNatClampNeg).trans (congrFun (g8.2 41 rfl rfl) x4_24.toNatClampNeg))) (B_eq hc b19)) (by decide +kernel) (by decide +kernel)
        have q59 : (1) ≤ (F 41 x4_24.toNatClampNeg).toInt ∧ (F 41 x4_24.toNatClampNeg).toInt ≤ (16) := (show B 1 16 (F 41 x4_24.toNatClampNeg) from B_w b58 (by decide +kernel) (by decide +kernel))
        have e60 : (T25 41 x4_24.toNatClampNeg).toInt = (F 41 x4_24.toNatClampNeg).toInt := (congrArg Int32.toInt ((congrFun (g29.2 41 rfl rfl) x4_24.toNatClampNeg).trans (congrFun (g8.2 41 rfl rfl) x4_24.toNatClampNeg))).trans rfl
        have i61 : (T25 41 x4_24.toNatClampNeg).toInt = (x2_3).toInt := congrArg Int32.toInt hc
        refine ⟨(show ¬ ((42 : Nat) = NU) from by decide +kernel), ?_⟩
        refine ⟨(show c_cl UL 42 = 902 from cl_42), ?_⟩
        refine ⟨(show vp_in (x4_24) 256 from vp_B b50 (by decide +kernel) (by decide +kernel)), ?_⟩
        refine ⟨(show ¬ ((43 : Nat) = NU) from by decide +kernel), ?_⟩
        refine ⟨(show c_cl UL 43 = 902 from cl_43), ?_⟩
        refine ⟨(show vp_in (T25 39 4) 256 from vp_om (x := T25 39 4) (by omega) (by omega)), ?_⟩
        have b62 : B 0 255 (T25 39 4) := ⟨by omega, by omega⟩
        unfold b_Oc_giveOut_74
        have hI63 := IMc_u (u := 42) (i := x4_24.toNatClampNeg) (v := x1_21) hI28 (show B (-2147483648) 2147483647 (x1_21) from (B_w b26 (by decide +kernel) (by decide +kernel)))
        have hI64 := IMc_u (u := 43) (i := (T25 39 4).toNatClampNeg) (v := x4_24) hI63 (show B 0 255 (x4_24) from (B_w b50 (by decide +kernel) (by decide +kernel)))
        have hI65 := IMc_u (u := 39) (i := 4) (v := (T25 39 4) + 1) hI64 (show B 0 256 ((T25 39 4) + 1) from (B_w (B_add b62 cqb_1_1_1 (by decide +kernel) (by decide +kernel)) (by decide +kernel) (by decide +kernel)))
        have g69 := agc_tr (agc_refl (fs := [3904]) (rs := [42, 43]) (F := T4)) g29 (by decide +kernel) (by decide +kernel)
        have g68 := agc_r (u := 42) (w := upd (T25 42) x4_24.toNatClampNeg x1_21) g69 rfl (by decide +kernel)
        have g67 := agc_r (u := 43) (w := upd (T25 43) (T25 39 4).toNatClampNeg x4_24) g68 rfl (by decide +kernel)
        have g66 := agc_f (u := 39) (k := 4) (v := (T25 39 4) + 1) g67 rfl (by decide +kernel)
        have e70 : (x4_24 + 1).toInt = ((x4_24).toInt + 1) := (t_add b50 cqb_1_1_1 (by decide +kernel) (by decide +kernel)).trans (by rw [cqn_1])
        have q71 : (1) ≤ (x4_24 + 1).toInt ∧ (x4_24 + 1).toInt ≤ (256) := (show B 1 256 (x4_24 + 1) from B_w (B_add b50 cqb_1_1_1 (by decide +kernel) (by decide +kernel)) (by decide +kernel) (by decide +kernel))
        have k72 : rC (F 41) (x2_3).toInt (x4_24 + 1).toInt = rC (F 41) (x2_3).toInt ((x4_24).toInt + 1) := by rw [e70]
        have e73 : ((T25 39 4) + 1).toInt = ((T25 39 4).toInt + 1) := (t_add b62 cqb_1_1_1 (by decide +kernel) (by decide +kernel)).trans (by rw [cqn_1])
        have q74 : (1) ≤ ((T25 39 4) + 1).toInt ∧ ((T25 39 4) + 1).toInt ≤ (256) := (show B 1 256 ((T25 39 4) + 1) from B_w (B_add b62 cqb_1_1_1 (by decide +kernel) (by decide +kernel)) (by decide +kernel) (by decide +kernel))
        exact hR23 ⟨rfl, rfl, (B_w (B_any _) (by decide +kernel) (by decide +kernel)), (B_w (B_add b50 cqb_1_1_1 (by decide +kernel) (by decide +kernel)) (by decide +kernel) (by decide +kernel)), _, _, rfl, hI65, g66, (by show ((T25 39 4) + 1).toInt ≤ (rC (F 41) x2_3.toInt (x4_24 + 1).toInt); first | with_reducible assumption | omega), (by show (0 ≤ (T4 39 4).toInt) ∧ ((T4 39 4).toInt ≤ ((T25 39 4) + 1).toInt); first | with_reducible assumption | omega)⟩ (by show (256 - (x4_24 + 1).toInt).toNat < (256 - x4_24.toInt).toNat; omega)
theorem h_Oc_giveOut_ui32 {a : Bool} {b : Bool} {P : Nat → Nat → Nat} {u : Int32} {F : cF} {L : cL} {K : cs → Prop} (hx : B 0 1 u) (hI : IMc F) (hK : ∀ {Z : cF} {LZ : cL}, IMc Z → agc [3304, 3904] [36, 37, 38, 42, 43, 44, 999] F Z → K (Z, LZ, PC a b P)) : p_Oc_giveOut UL (PC a b P 32 u.toNatClampNeg) (F, L, PC a b P) K := by
  rcases sp_01 hx with rfl | rfl
  · exact h_Oc_giveOut_u33 hI (fun hI g => hK hI (agc_tr agc_refl g (by decide +kernel) (by decide +kernel)))
  · exact h_Oc_giveOut_u39 hI (fun hI g => hK hI (agc_tr agc_refl g (by decide +kernel) (by decide +kernel)))
set_option maxRecDepth 20000 in
set_option maxHeartbeats 4000000 in
theorem h_Oc_giveOut_u46 {a : Bool} {b : Bool} {P : Nat → Nat → Nat} {F : cF} {L : cL} {K : cs → Prop} (hI : IMc F) (hK : ∀ {Z : cF} {LZ : cL}, IMc Z → agc [4604] [49, 50, 51, 999] F Z → K (Z, LZ, PC a b P)) : p_Oc_giveOut UL 46 (F, L, PC a b P) K := by
  unfold p_Oc_giveOut
  have k1 := rC_0 (F 48)
  have hI9 := IMc_u (u := 46) (i := 4) (v := 0) hI (show B 0 256 (0) from (B_w cqb_0_0_0 (by decide +kernel) (by decide +kernel)))
  refine ⟨fun yx1 yx2 yS => B (-2147483648) 2147483647 yx1 ∧ B 1 17 yx2 ∧ ∃ (T4 : cF) (LT4 : cL), yS = (T4, LT4, PC a b P) ∧ IMc T4 ∧ agc [4604] [49, 50, 51, 999] (va_up F 46 (upd (F 46) 4 0)) T4 ∧ ((T4 46 4).toInt ≤ (rC (F 48) yx2.toInt 0)), fun yx1 yx2 yS => (17 - yx2.toInt).toNat, ⟨(B_w cqb_0_0_0 (by decide +kernel) (by decide +kernel)), (B_w cqb_1_1_1 (by decide +kernel) (by decide +kernel)), _, _, rfl, hI9, (agc_refl (fs := [4604]) (rs := [49, 50, 51, 999]) (F := va_up F 46 (upd (F 46) 4 0))), (by show 0 ≤ (rC (F 48) 1 0); first | with_reducible assumption | omega)⟩, fun x1_2 x2_3 ST4 hIv => ?_⟩
  obtain ⟨b5, b6, T4, LT4, rfl, hI7, g8, r10⟩ := hIv
  suffices hs : ∀ (R9 : Int32 → Int32 → cs → Prop), (∀ zx1 zx2 zS, (B (-2147483648) 2147483647 zx1 ∧ B 1 17 zx2 ∧ ∃ (T4 : cF) (LT4 : cL), zS = (T4, LT4, PC a b P) ∧ IMc T4 ∧ agc [4604] [49, 50, 51, 999] (va_up F 46 (upd (F 46) 4 0)) T4 ∧ ((T4 46 4).toInt ≤ (rC (F 48) zx2.toInt 0))) → (17 - zx2.toInt).toNat < (17 - x2_3.toInt).toNat → R9 zx1 zx2 zS) → b_Oc_giveOut_9 UL 46 x1_2 x2_3 (T4, LT4, PC a b P) R9 K from hs _ (fun _ _ _ h1 h2 => ⟨h1, h2⟩)
  intro R9 hR90
  have hR9 := fun {zx1} {zx2} {zS} => hR90 zx1 zx2 zS
  have q11 : (0) ≤ (T4 46 4).toInt ∧ (T4 46 4).toInt ≤ (256) := (show B 0 256 (T4 46 4) from hI7 46 4)
  have q12 : (1) ≤ (x2_3).toInt ∧ (x2_3).toInt ≤ (17) := (show B 1 17 (x2_3) from B_w b6 (by decide +kernel) (by decide +kernel))
  unfold b_Oc_giveOut_9
  refine ⟨fun hc => ?_, fun hc => ?_⟩
  · have hq13 := hc
    have b14 : B 17 17 (x2_3) := B_w (B_ltR cqb_16_16_16 b6 hq13) (by decide +kernel) (by decide +kernel)
    have q15 : (17) ≤ (x2_3).toInt ∧ (x2_3).toInt ≤ (17) := (show B 17 17 (x2_3) from B_w b14 (by decide +kernel) (by decide +kernel))
    have g17 := agc_f (u := 46) (k := 4) (v := 0) (agc_refl (fs := [4604]) (rs := [49, 50, 51, 999]) (F := F)) rfl (by decide +kernel)
    have g16 := agc_tr g17 g8 (by decide +kernel) (by decide +kernel)
    exact hK hI7 g16
  · have hq18 := (nlt_le hc)
    have b19 : B 1 16 (x2_3) := B_w (B_leL b6 cqb_16_16_16 hq18) (by decide +kernel) (by decide +kernel)
    have q20 : (1) ≤ (x2_3).toInt ∧ (x2_3).toInt ≤ (16) := (show B 1 16 (x2_3) from B_w b19 (by decide +kernel) (by decide +kernel))
    refine ⟨fun yx1 yx2 yx3 yx4 yS => x2_3 = yx2 ∧ (T4 46 4) = yx3 ∧ B (-2147483648) 2147483647 yx1 ∧ B 0 256 yx4 ∧ ∃ (T25 : cF) (LT25 : cL), yS = (T25, LT25, PC a b P) ∧ IMc T25 ∧ agc [4604] [49, 50] T4 T25 ∧ ((T25 46 4).toInt ≤ (rC (F 48) yx2.toInt yx4.toInt)) ∧ ((0 ≤ yx3.toInt) ∧ (yx3.toInt ≤ (T25 46 4).toInt)), fun yx1 yx2 yx3 yx4 yS => (256 - yx4.toInt).toNat, ⟨rfl, rfl, b5, (B_w cqb_0_0_0 (by decide +kernel) (by decide +kernel)), _, _, rfl, hI7, (agc_refl (fs := [4604]) (rs := [49, 50]) (F := T4)), (by show (T4 46 4).toInt ≤ (rC (F 48) x2_3.toInt 0); first | with_reducible assumption | omega), (by show (0 ≤ (T4 46 4).toInt) ∧ ((T4 46 4).toInt ≤ (T4 46 4).toInt); first | with_reducible assumption | omega)⟩, fun x1_21 x2_22 x3_23 x4_24 ST25 hIv => ?_⟩
    obtain ⟨rfl, rfl, b26, b27, T25, LT25, rfl, hI28, g29, r30, r31⟩ := hIv
    suffices hs : ∀ (R23 : Int32 → Int32 → Int32 → Int32 → cs → Prop), (∀ zx1 zx2 zx3 zx4 zS, (x2_3 = zx2 ∧ (T4 46 4) = zx3 ∧ B (-2147483648) 2147483647 zx1 ∧ B 0 256 zx4 ∧ ∃ (T25 : cF) (LT25 : cL), zS = (T25, LT25, PC a b P) ∧ IMc T25 ∧ agc [4604] [49, 50] T4 T25 ∧ ((T25 46 4).toInt ≤ (rC (F 48) zx2.toInt zx4.toInt)) ∧ ((0 ≤ zx3.toInt) ∧ (zx3.toInt ≤ (T25 46 4).toInt))) → (256 - zx4.toInt).toNat < (256 - x4_24.toInt).toNat → R23 zx1 zx2 zx3 zx4 zS) → b_Oc_giveOut_23 UL 46 x1_21 x2_3 (T4 46 4) x4_24 (T25, LT25, PC a b P) R9 R23 K from hs _ (fun _ _ _ _ _ h1 h2 => ⟨h1, h2⟩)
    intro R23 hR230
    have hR23 := fun {zx1} {zx2} {zx3} {zx4} {zS} => hR230 zx1 zx2 zx3 zx4 zS
    have q32 : (0) ≤ (T25 46 4).toInt ∧ (T25 46 4).toInt ≤ (256) := (show B 0 256 (T25 46 4) from hI28 46 4)
    have q33 : (0) ≤ (x4_24).toInt ∧ (x4_24).toInt ≤ (256) := (show B 0 256 (x4_24) from B_w b27 (by decide +kernel) (by decide +kernel))
    have krc34 := fun h : (x4_24).toInt ≤ 255 => rC_i (g := F 48) (x := x2_3) (s := x4_24) (by omega) (by omega) h
    unfold b_Oc_giveOut_23
    refine ⟨fun hc => ?_, fun hc => ?_⟩
    · have hq35 := hc
      have b36 : B 256 256 (x4_24) := B_w (B_leR cqb_256_256_256 b27 hq35) (by decide +kernel) (by decide +kernel)
      have q37 : (256) ≤ (x4_24).toInt ∧ (x4_24).toInt ≤ (256) := (show B 256 256 (x4_24) from B_w b36 (by decide +kernel) (by decide +kernel))
      refine ⟨(show ¬ ((51 : Nat) = NU) from by decide +kernel), ?_⟩
      refine ⟨(show c_cl UL 51 = 902 from cl_51), ?_⟩
      refine ⟨(show vp_in (x2_3) 17 from vp_B b19 (by decide +kernel) (by decide +kernel)), ?_⟩
      have e38 : ((T25 46 4) - (T4 46 4)).toInt = ((T25 46 4).toInt - (T4 46 4).toInt) := (t_sub (show B 0 256 (T25 46 4) from hI28 46 4) (show B 0 256 (T4 46 4) from hI7 46 4) (by decide +kernel) (by decide +kernel)).trans (by rfl)
      have q39 : (-256) ≤ ((T25 46 4) - (T4 46 4)).toInt ∧ ((T25 46 4) - (T4 46 4)).toInt ≤ (256) := (show B (-256) 256 ((T25 46 4) - (T4 46 4)) from B_w (B_sub (show B 0 256 (T25 46 4) from hI28 46 4) (show B 0 256 (T4 46 4) from hI7 46 4) (by decide +kernel) (by decide +kernel)) (by decide +kernel) (by decide +kernel))
      have hI40 := IMc_u (u := 51) (i := x2_3.toNatClampNeg) (v := (T25 46 4) - (T4 46 4)) hI28 (show B 0 256 ((T25 46 4) - (T4 46 4)) from (show B 0 256 ((T25 46 4) - (T4 46 4)) from ⟨by omega, by omega⟩))
      have g43 := agc_tr (agc_refl (fs := [4604]) (rs := [49, 50, 51, 999]) (F := va_up F 46 (upd (F 46) 4 0))) g8 (by decide +kernel) (by decide +kernel)
      have g42 := agc_tr g43 g29 (by decide +kernel) (by decide +kernel)
      have g41 := agc_r (u := 51) (w := upd (T25 51) x2_3.toNatClampNeg ((T25 46 4) - (T4 46 4))) g42 rfl (by decide +kernel)
      have e44 : (x2_3 + 1).toInt = ((x2_3).toInt + 1) := (t_add b19 cqb_1_1_1 (by decide +kernel) (by decide +kernel)).trans (by rw [cqn_1])
      have q45 : (2) ≤ (x2_3 + 1).toInt ∧ (x2_3 + 1).toInt ≤ (17) := (show B 2 17 (x2_3 + 1) from B_w (B_add b19 cqb_1_1_1 (by decide +kernel) (by decide +kernel)) (by decide +kernel) (by decide +kernel))
      have k46 : rC (F 48) (x2_3 + 1).toInt 0 = rC (F 48) ((x2_3).toInt + 1) 0 := by rw [e44]
      have k47 := rC_e (g := F 48) (n := (x2_3).toInt)
      have k48 : (x4_24).toInt = 256 → rC (F 48) (x2_3).toInt (x4_24).toInt = rC (F 48) (x2_3).toInt 256 := fun h => by rw [h]
      exact hR9 ⟨(B_w (B_any _) (by decide +kernel) (by decide +kernel)), (B_w (B_add b19 cqb_1_1_1 (by decide +kernel) (by decide +kernel)) (by decide +kernel) (by decide +kernel)), _, _, rfl, hI40, g41, (by show (T25 46 4).toInt ≤ (rC (F 48) (x2_3 + 1).toInt 0); first | with_reducible assumption | omega)⟩ (by show (17 - (x2_3 + 1).toInt).toNat < (17 - x2_3.toInt).toNat; omega)
    · have hq49 := (nle_lt hc)
      have b50 : B 0 255 (x4_24) := B_w (B_ltL b27 cqb_256_256_256 hq49) (by decide +kernel) (by decide +kernel)
      have q51 : (0) ≤ (x4_24).toInt ∧ (x4_24).toInt ≤ (255) := (show B 0 255 (x4_24) from B_w b50 (by decide +kernel) (by decide +kernel))
      refine ⟨(show ¬ ((48 : Nat) = NU) from by decide +kernel), ?_⟩
      refine ⟨(show c_cl UL 48 = 902 from cl_48), ?_⟩
      refine ⟨(show vp_in (x4_24) 257 from vp_B b50 (by decide +kernel) (by decide +kernel)), ?_⟩
      refine ⟨fun hc => ?_, fun hc => ?_⟩
      · have e52 : (T25 48 x4_24.toNatClampNeg).toInt = (F 48 x4_24.toNatClampNeg).toInt := (congrArg Int32.toInt ((congrFun (g29.2 48 rfl rfl) x4_24.toNatClampNeg).trans (congrFun (g8.2 48 rfl rfl) x4_24.toNatClampNeg))).trans rfl
        have i53 : (T25 48 x4_24.toNatClampNeg).toInt ≠ (x2_3).toInt := i_ne hc
        unfold b_Oc_giveOut_74
        have g54 := agc_tr (agc_refl (fs := [4604]) (rs := [49, 50]) (F := T4)) g29 (by decide +kernel) (by decide +kernel)
        have e55 : (x4_24 + 1).toInt = ((x4_24).toInt + 1) := (t_add b50 cqb_1_1_1 (by decide +kernel) (by decide +kernel)).trans (by rw [cqn_1])
        have q56 : (1) ≤ (x4_24 + 1).toInt ∧ (x4_24 + 1).toInt ≤ (256) := (show B 1 256 (x4_24 + 1) from B_w (B_add b50 cqb_1_1_1 (by decide +kernel) (by decide +kernel)) (by decide +kernel) (by decide +kernel))
        have k57 : rC (F 48) (x2_3).toInt (x4_24 + 1).toInt = rC (F 48) (x2_3).toInt ((x4_24).toInt + 1) := by rw [e55]
        exact hR23 ⟨rfl, rfl, b26, (B_w (B_add b50 cqb_1_1_1 (by decide +kernel) (by decide +kernel)) (by decide +kernel) (by decide +kernel)), _, _, rfl, hI28, g54, (by show (T25 46 4).toInt ≤ (rC (F 48) x2_3.toInt (x4_24 + 1).toInt); first | with_reducible assumption | omega), (by show (0 ≤ (T4 46 4).toInt) ∧ ((T4 46 4).toInt ≤ (T25 46 4).toInt); first | with_reducible assumption | omega)⟩ (by show (256 - (x4_24 + 1).toInt).toNat < (256 - x4_24.toInt).toNat; omega)
      · have b58 : B 1 16 (F 48 x4_24.toNatClampNeg) := B_w (B_eq (Eq.symm ((congrFun (g29.2 48 rfl rfl) x4_24.toNatClampNeg).trans (congrFun (g8.2 48 rfl rfl) x4_24.toNatClampNeg))) (B_eq hc b19)) (by decide +kernel) (by decide +kernel)
        have q59 : (1) ≤ (F 48 x4_24.toNatClampNeg).toInt ∧ (F 48 x4_24.toNatClampNeg).toInt ≤ (16) := (show B 1 16 (F 48 x4_24.toNatClampNeg) from B_w b58 (by decide +kernel) (by decide +kernel))
        have e60 : (T25 48 x4_24.toNatClampNeg).toInt = (F 48 x4_24.toNatClampNeg).toInt := (congrArg Int32.toInt ((congrFun (g29.2 48 rfl rfl) x4_24.toNatClampNeg).trans (congrFun (g8.2 48 rfl rfl) x4_24.toNatClampNeg))).trans rfl
        have i61 : (T25 48 x4_24.toNatClampNeg).toInt = (x2_3).toInt := congrArg Int32.toInt hc
        refine ⟨(show ¬ ((49 : Nat) = NU) from by decide +kernel), ?_⟩
        refine ⟨(show c_cl UL 49 = 902 from cl_49), ?_⟩
        refine ⟨(show vp_in (x4_24) 256 from vp_B b50 (by decide +kernel) (by decide +kernel)), ?_⟩
        refine ⟨(show ¬ ((50 : Nat) = NU) from by decide +kernel), ?_⟩
        refine ⟨(show c_cl UL 50 = 902 from cl_50), ?_⟩
        refine ⟨(show vp_in (T25 46 4) 256 from vp_om (x := T25 46 4) (by omega) (by omega)), ?_⟩
        have b62 : B 0 255 (T25 46 4) := ⟨by omega, by omega⟩
        unfold b_Oc_giveOut_74
        have hI63 := IMc_u (u := 49) (i := x4_24.toNatClampNeg) (v := x1_21) hI28 (show B (-2147483648) 2147483647 (x1_21) from (B_w b26 (by decide +kernel) (by decide +kernel)))
        have hI64 := IMc_u (u := 50) (i := (T25 46 4).toNatClampNeg) (v := x4_24) hI63 (show B 0 255 (x4_24) from (B_w b50 (by decide +kernel) (by decide +kernel)))
        have hI65 := IMc_u (u := 46) (i := 4) (v := (T25 46 4) + 1) hI64 (show B 0 256 ((T25 46 4) + 1) from (B_w (B_add b62 cqb_1_1_1 (by decide +kernel) (by decide +kernel)) (by decide +kernel) (by decide +kernel)))
        have g69 := agc_tr (agc_refl (fs := [4604]) (rs := [49, 50]) (F := T4)) g29 (by decide +kernel) (by decide +kernel)
        have g68 := agc_r (u := 49) (w := upd (T25 49) x4_24.toNatClampNeg x1_21) g69 rfl (by decide +kernel)
        have g67 := agc_r (u := 50) (w := upd (T25 50) (T25 46 4).toNatClampNeg x4_24) g68 rfl (by decide +kernel)
        have g66 := agc_f (u := 46) (k := 4) (v := (T25 46 4) + 1) g67 rfl (by decide +kernel)
        have e70 : (x4_24 + 1).toInt = ((x4_24).toInt + 1) := (t_add b50 cqb_1_1_1 (by decide +kernel) (by decide +kernel)).trans (by rw [cqn_1])
        have q71 : (1) ≤ (x4_24 + 1).toInt ∧ (x4_24 + 1).toInt ≤ (256) := (show B 1 256 (x4_24 + 1) from B_w (B_add b50 cqb_1_1_1 (by decide +kernel) (by decide +kernel)) (by decide +kernel) (by decide +kernel))
        have k72 : rC (F 48) (x2_3).toInt (x4_24 + 1).toInt = rC (F 48) (x2_3).toInt ((x4_24).toInt + 1) := by rw [e70]
        have e73 : ((T25 46 4) + 1).toInt = ((T25 46 4).toInt + 1) := (t_add b62 cqb_1_1_1 (by decide +kernel) (by decide +kernel)).trans (by rw [cqn_1])
        have q74 : (1) ≤ ((T25 46 4) + 1).toInt ∧ ((T25 46 4) + 1).toInt ≤ (256) := (show B 1 256 ((T25 46 4) + 1) from B_w (B_add b62 cqb_1_1_1 (by decide +kernel) (by decide +kernel)) (by decide +kernel) (by decide +kernel))
        exact hR23 ⟨rfl, rfl, (B_w (B_any _) (by decide +kernel) (by decide +kernel)), (B_w (B_add b50 cqb_1_1_1 (by decide +kernel) (by decide +kernel)) (by decide +kernel) (by decide +kernel)), _, _, rfl, hI65, g66, (by show ((T25 46 4) + 1).toInt ≤ (rC (F 48) x2_3.toInt (x4_24 + 1).toInt); first | with_reducible assumption | omega), (by show (0 ≤ (T4 46 4).toInt) ∧ ((T4 46 4).toInt ≤ ((T25 46 4) + 1).toInt); first | with_reducible assumption | omega)⟩ (by show (256 - (x4_24 + 1).toInt).toNat < (256 - x4_24.toInt).toNat; omega)
set_option maxRecDepth 20000 in
set_option maxHeartbeats 4000000 in
theorem h_Oc_giveOut_u52 {a : Bool} {b : Bool} {P : Nat → Nat → Nat} {F : cF} {L : cL} {K : cs → Prop} (hI : IMc F) (hK : ∀ {Z : cF} {LZ : cL}, IMc Z → agc [5204] [55, 56, 57, 999] F Z → K (Z, LZ, PC a b P)) : p_Oc_giveOut UL 52 (F, L, PC a b P) K := by
  unfold p_Oc_giveOut
  have k1 := rC_0 (F 54)
  have hI9 := IMc_u (u := 52) (i := 4) (v := 0) hI (show B 0 256 (0) from (B_w cqb_0_0_0 (by decide +kernel) (by decide +kernel)))
  refine ⟨fun yx1 yx2 yS => B (-2147483648) 2147483647 yx1 ∧ B 1 17 yx2 ∧ ∃ (T4 : cF) (LT4 : cL), yS = (T4, LT4, PC a b P) ∧ IMc T4 ∧ agc [5204] [55, 56, 57, 999] (va_up F 52 (upd (F 52) 4 0)) T4 ∧ ((T4 52 4).toInt ≤ (rC (F 54) yx2.toInt 0)), fun yx1 yx2 yS => (17 - yx2.toInt).toNat, ⟨(B_w cqb_0_0_0 (by decide +kernel) (by decide +kernel)), (B_w cqb_1_1_1 (by decide +kernel) (by decide +kernel)), _, _, rfl, hI9, (agc_refl (fs := [5204]) (rs := [55, 56, 57, 999]) (F := va_up F 52 (upd (F 52) 4 0))), (by show 0 ≤ (rC (F 54) 1 0); first | with_reducible assumption | omega)⟩, fun x1_2 x2_3 ST4 hIv => ?_⟩
  obtain ⟨b5, b6, T4, LT4, rfl, hI7, g8, r10⟩ := hIv
  suffices hs : ∀ (R9 : Int32 → Int32 → cs → Prop), (∀ zx1 zx2 zS, (B (-2147483648) 2147483647 zx1 ∧ B 1 17 zx2 ∧ ∃ (T4 : cF) (LT4 : cL), zS = (T4, LT4, PC a b P) ∧ IMc T4 ∧ agc [5204] [55, 56, 57, 999] (va_up F 52 (upd (F 52) 4 0)) T4 ∧ ((T4 52 4).toInt ≤ (rC (F 54) zx2.toInt 0))) → (17 - zx2.toInt).toNat < (17 - x2_3.toInt).toNat → R9 zx1 zx2 zS) → b_Oc_giveOut_9 UL 52 x1_2 x2_3 (T4, LT4, PC a b P) R9 K from hs _ (fun _ _ _ h1 h2 => ⟨h1, h2⟩)
  intro R9 hR90
  have hR9 := fun {zx1} {zx2} {zS} => hR90 zx1 zx2 zS
  have q11 : (0) ≤ (T4 52 4).toInt ∧ (T4 52 4).toInt ≤ (256) := (show B 0 256 (T4 52 4) from hI7 52 4)
  have q12 : (1) ≤ (x2_3).toInt ∧ (x2_3).toInt ≤ (17) := (show B 1 17 (x2_3) from B_w b6 (by decide +kernel) (by decide +kernel))
  unfold b_Oc_giveOut_9
  refine ⟨fun hc => ?_, fun hc => ?_⟩
  · have hq13 := hc
    have b14 : B 17 17 (x2_3) := B_w (B_ltR cqb_16_16_16 b6 hq13) (by decide +kernel) (by decide +kernel)
    have q15 : (17) ≤ (x2_3).toInt ∧ (x2_3).toInt ≤ (17) := (show B 17 17 (x2_3) from B_w b14 (by decide +kernel) (by decide +kernel))
    have g17 := agc_f (u := 52) (k := 4) (v := 0) (agc_refl (fs := [5204]) (rs := [55, 56, 57, 999]) (F := F)) rfl (by decide +kernel)
    have g16 := agc_tr g17 g8 (by decide +kernel) (by decide +kernel)
    exact hK hI7 g16
  · have hq18 := (nlt_le hc)
    have b19 : B 1 16 (x2_3) := B_w (B_leL b6 cqb_16_16_16 hq18) (by decide +kernel) (by decide +kernel)
    have q20 : (1) ≤ (x2_3).toInt ∧ (x2_3).toInt ≤ (16) := (show B 1 16 (x2_3) from B_w b19 (by decide +kernel) (by decide +kernel))
    refine ⟨fun yx1 yx2 yx3 yx4 yS => x2_3 = yx2 ∧ (T4 52 4) = yx3 ∧ B (-2147483648) 2147483647 yx1 ∧ B 0 256 yx4 ∧ ∃ (T25 : cF) (LT25 : cL), yS = (T25, LT25, PC a b P) ∧ IMc T25 ∧ agc [5204] [55, 56] T4 T25 ∧ ((T25 52 4).toInt ≤ (rC (F 54) yx2.toInt yx4.toInt)) ∧ ((0 ≤ yx3.toInt) ∧ (yx3.toInt ≤ (T25 52 4).toInt)), fun yx1 yx2 yx3 yx4 yS => (256 - yx4.toInt).toNat, ⟨rfl, rfl, b5, (B_w cqb_0_0_0 (by decide +kernel) (by decide +kernel)), _, _, rfl, hI7, (agc_refl (fs := [5204]) (rs := [55, 56]) (F := T4)), (by show (T4 52 4).toInt ≤ (rC (F 54) x2_3.toInt 0); first | with_reducible assumption | omega), (by show (0 ≤ (T4 52 4).toInt) ∧ ((T4 52 4).toInt ≤ (T4 52 4).toInt); first | with_reducible assumption | omega)⟩, fun x1_21 x2_22 x3_23 x4_24 ST25 hIv => ?_⟩
    obtain ⟨rfl, rfl, b26, b27, T25, LT25, rfl, hI28, g29, r30, r31⟩ := hIv
    suffices hs : ∀ (R23 : Int32 → Int32 → Int32 → Int32 → cs → Prop), (∀ zx1 zx2 zx3 zx4 zS, (x2_3 = zx2 ∧ (T4 52 4) = zx3 ∧ B (-2147483648) 2147483647 zx1 ∧ B 0 256 zx4 ∧ ∃ (T25 : cF) (LT25 : cL), zS = (T25, LT25, PC a b P) ∧ IMc T25 ∧ agc [5204] [55, 56] T4 T25 ∧ ((T25 52 4).toInt ≤ (rC (F 54) zx2.toInt zx4.toInt)) ∧ ((0 ≤ zx3.toInt) ∧ (zx3.toInt ≤ (T25 52 4).toInt))) → (256 - zx4.toInt).toNat < (256 - x4_24.toInt).toNat → R23 zx1 zx2 zx3 zx4 zS) → b_Oc_giveOut_23 UL 52 x1_21 x2_3 (T4 52 4) x4_24 (T25, LT25, PC a b P) R9 R23 K from hs _ (fun _ _ _ _ _ h1 h2 => ⟨h1, h2⟩)
    intro R23 hR230
    have hR23 := fun {zx1} {zx2} {zx3} {zx4} {zS} => hR230 zx1 zx2 zx3 zx4 zS
    have q32 : (0) ≤ (T25 52 4).toInt ∧ (T25 52 4).toInt ≤ (256) := (show B 0 256 (T25 52 4) from hI28 52 4)
    have q33 : (0) ≤ (x4_24).toInt ∧ (x4_24).toInt ≤ (256) := (show B 0 256 (x4_24) from B_w b27 (by decide +kernel) (by decide +kernel))
    have krc34 := fun h : (x4_24).toInt ≤ 255 => rC_i (g := F 54) (x := x2_3) (s := x4_24) (by omega) (by omega) h
    unfold b_Oc_giveOut_23
    refine ⟨fun hc => ?_, fun hc => ?_⟩
    · have hq35 := hc
      have b36 : B 256 256 (x4_24) := B_w (B_leR cqb_256_256_256 b27 hq35) (by decide +kernel) (by decide +kernel)
      have q37 : (256) ≤ (x4_24).toInt ∧ (x4_24).toInt ≤ (256) := (show B 256 256 (x4_24) from B_w b36 (by decide +kernel) (by decide +kernel))
      refine ⟨(show ¬ ((57 : Nat) = NU) from by decide +kernel), ?_⟩
      refine ⟨(show c_cl UL 57 = 902 from cl_57), ?_⟩
      refine ⟨(show vp_in (x2_3) 17 from vp_B b19 (by decide +kernel) (by decide +kernel)), ?_⟩
      have e38 : ((T25 52 4) - (T4 52 4)).toInt = ((T25 52 4).toInt - (T4 52 4).toInt) := (t_sub (show B 0 256 (T25 52 4) from hI28 52 4) (show B 0 256 (T4 52 4) from hI7 52 4) (by decide +kernel) (by decide +kernel)).trans (by rfl)
      have q39 : (-256) ≤ ((T25 52 4) - (T4 52 4)).toInt ∧ ((T25 52 4) - (T4 52 4)).toInt ≤ (256) := (show B (-256) 256 ((T25 52 4) - (T4 52 4)) from B_w (B_sub (show B 0 256 (T25 52 4) from hI28 52 4) (show B 0 256 (T4 52 4) from hI7 52 4) (by decide +kernel) (by decide +kernel)) (by decide +kernel) (by decide +kernel))
      have hI40 := IMc_u (u := 57) (i := x2_3.toNatClampNeg) (v := (T25 52 4) - (T4 52 4)) hI28 (show B 0 256 ((T25 52 4) - (T4 52 4)) from (show B 0 256 ((T25 52 4) - (T4 52 4)) from ⟨by omega, by omega⟩))
      have g43 := agc_tr (agc_refl (fs := [5204]) (rs := [55, 56, 57, 999]) (F := va_up F 52 (upd (F 52) 4 0))) g8 (by decide +kernel) (by decide +kernel)
      have g42 := agc_tr g43 g29 (by decide +kernel) (by decide +kernel)
      have g41 := agc_r (u := 57) (w := upd (T25 57) x2_3.toNatClampNeg ((T25 52 4) - (T4 52 4))) g42 rfl (by decide +kernel)
      have e44 : (x2_3 + 1).toInt = ((x2_3).toInt + 1) := (t_add b19 cqb_1_1_1 (by decide +kernel) (by decide +kernel)).trans (by rw [cqn_1])
      have q45 : (2) ≤ (x2_3 + 1).toInt ∧ (x2_3 + 1).toInt ≤ (17) := (show B 2 17 (x2_3 + 1) from B_w (B_add b19 cqb_1_1_1 (by decide +kernel) (by decide +kernel)) (by decide +kernel) (by decide +kernel))
      have k46 : rC (F 54) (x2_3 + 1).toInt 0 = rC (F 54) ((x2_3).toInt + 1) 0 := by rw [e44]
      have k47 := rC_e (g := F 54) (n := (x2_3).toInt)
      have k48 : (x4_24).toInt = 256 → rC (F 54) (x2_3).toInt (x4_24).toInt = rC (F 54) (x2_3).toInt 256 := fun h => by rw [h]
      exact hR9 ⟨(B_w (B_any _) (by decide +kernel) (by decide +kernel)), (B_w (B_add b19 cqb_1_1_1 (by decide +kernel) (by decide +kernel)) (by decide +kernel) (by decide +kernel)), _, _, rfl, hI40, g41, (by show (T25 52 4).toInt ≤ (rC (F 54) (x2_3 + 1).toInt 0); first | with_reducible assumption | omega)⟩ (by show (17 - (x2_3 + 1).toInt).toNat < (17 - x2_3.toInt).toNat; omega)
    · have hq49 := (nle_lt hc)
      have b50 : B 0 255 (x4_24) := B_w (B_ltL b27 cqb_256_256_256 hq49) (by decide +kernel) (by decide +kernel)
      have q51 : (0) ≤ (x4_24).toInt ∧ (x4_24).toInt ≤ (255) := (show B 0 255 (x4_24) from B_w b50 (by decide +kernel) (by decide +kernel))
      refine ⟨(show ¬ ((54 : Nat) = NU) from by decide +kernel), ?_⟩
      refine ⟨(show c_cl UL 54 = 902 from cl_54), ?_⟩
      refine ⟨(show vp_in (x4_24) 257 from vp_B b50 (by decide +kernel) (by decide +kernel)), ?_⟩
      refine ⟨fun hc => ?_, fun hc => ?_⟩
      · have e52 : (T25 54 x4_24.toNatClampNeg).toInt = (F 54 x4_24.toNatClampNeg).toInt := (congrArg Int32.toInt ((congrFun (g29.2 54 rfl rfl) x4_24.toNatClampNeg).trans (congrFun (g8.2 54 rfl rfl) x4_24.toNatClampNeg))).trans rfl
        have i53 : (T25 54 x4_24.toNatClampNeg).toInt ≠ (x2_3).toInt := i_ne hc
        unfold b_Oc_giveOut_74
        have g54 := agc_tr (agc_refl (fs := [5204]) (rs := [55, 56]) (F := T4)) g29 (by decide +kernel) (by decide +kernel)
        have e55 : (x4_24 + 1).toInt = ((x4_24).toInt + 1) := (t_add b50 cqb_1_1_1 (by decide +kernel) (by decide +kernel)).trans (by rw [cqn_1])
        have q56 : (1) ≤ (x4_24 + 1).toInt ∧ (x4_24 + 1).toInt ≤ (256) := (show B 1 256 (x4_24 + 1) from B_w (B_add b50 cqb_1_1_1 (by decide +kernel) (by decide +kernel)) (by decide +kernel) (by decide +kernel))
        have k57 : rC (F 54) (x2_3).toInt (x4_24 + 1).toInt = rC (F 54) (x2_3).toInt ((x4_24).toInt + 1) := by rw [e55]
        exact hR23 ⟨rfl, rfl, b26, (B_w (B_add b50 cqb_1_1_1 (by decide +kernel) (by decide +kernel)) (by decide +kernel) (by decide +kernel)), _, _, rfl, hI28, g54, (by show (T25 52 4).toInt ≤ (rC (F 54) x2_3.toInt (x4_24 + 1).toInt); first | with_reducible assumption | omega), (by show (0 ≤ (T4 52 4).toInt) ∧ ((T4 52 4).toInt ≤ (T25 52 4).toInt); first | with_reducible assumption | omega)⟩ (by show (256 - (x4_24 + 1).toInt).toNat < (256 - x4_24.toInt).toNat; omega)
      · have b58 : B 1 16 (F 54 x4_24.toNatClampNeg) := B_w (B_eq (Eq.symm ((congrFun (g29.2 54 rfl rfl) x4_24.toNatClampNeg).trans (congrFun (g8.2 54 rfl rfl) x4_24.toNatClampNeg))) (B_eq hc b19)) (by decide +kernel) (by decide +kernel)
        have q59 : (1) ≤ (F 54 x4_24.toNatClampNeg).toInt ∧ (F 54 x4_24.toNatClampNeg).toInt ≤ (16) := (show B 1 16 (F 54 x4_24.toNatClampNeg) from B_w b58 (by decide +kernel) (by decide +kernel))
        have e60 : (T25 54 x4_24.toNatClampNeg).toInt = (F 54 x4_24.toNatClampNeg).toInt := (congrArg Int32.toInt ((congrFun (g29.2 54 rfl rfl) x4_24.toNatClampNeg).trans (congrFun (g8.2 54 rfl rfl) x4_24.toNatClampNeg))).trans rfl
        have i61 : (T25 54 x4_24.toNatClampNeg).toInt = (x2_3).toInt := congrArg Int32.toInt hc
        refine ⟨(show ¬ ((55 : Nat) = NU) from by decide +kernel), ?_⟩
        refine ⟨(show c_cl UL 55 = 902 from cl_55), ?_⟩
        refine ⟨(show vp_in (x4_24) 256 from vp_B b50 (by decide +kernel) (by decide +kernel)), ?_⟩
        refine ⟨(show ¬ ((56 : Nat) = NU) from by decide +kernel), ?_⟩
        refine ⟨(show c_cl UL 56 = 902 from cl_56), ?_⟩
        refine ⟨(show vp_in (T25 52 4) 256 from vp_om (x := T25 52 4) (by omega) (by omega)), ?_⟩
        have b62 : B 0 255 (T25 52 4) := ⟨by omega, by omega⟩
        unfold b_Oc_giveOut_74
        have hI63 := IMc_u (u := 55) (i := x4_24.toNatClampNeg) (v := x1_21) hI28 (show B (-2147483648) 2147483647 (x1_21) from (B_w b26 (by decide +kernel) (by decide +kernel)))
        have hI64 := IMc_u (u := 56) (i := (T25 52 4).toNatClampNeg) (v := x4_24) hI63 (show B 0 255 (x4_24) from (B_w b50 (by decide +kernel) (by decide +kernel)))
        have hI65 := IMc_u (u := 52) (i := 4) (v := (T25 52 4) + 1) hI64 (show B 0 256 ((T25 52 4) + 1) from (B_w (B_add b62 cqb_1_1_1 (by decide +kernel) (by decide +kernel)) (by decide +kernel) (by decide +kernel)))
        have g69 := agc_tr (agc_refl (fs := [5204]) (rs := [55, 56]) (F := T4)) g29 (by decide +kernel) (by decide +kernel)
        have g68 := agc_r (u := 55) (w := upd (T25 55) x4_24.toNatClampNeg x1_21) g69 rfl (by decide +kernel)
        have g67 := agc_r (u := 56) (w := upd (T25 56) (T25 52 4).toNatClampNeg x4_24) g68 rfl (by decide +kernel)
        have g66 := agc_f (u := 52) (k := 4) (v := (T25 52 4) + 1) g67 rfl (by decide +kernel)
        have e70 : (x4_24 + 1).toInt = ((x4_24).toInt + 1) := (t_add b50 cqb_1_1_1 (by decide +kernel) (by decide +kernel)).trans (by rw [cqn_1])
        have q71 : (1) ≤ (x4_24 + 1).toInt ∧ (x4_24 + 1).toInt ≤ (256) := (show B 1 256 (x4_24 + 1) from B_w (B_add b50 cqb_1_1_1 (by decide +kernel) (by decide +kernel)) (by decide +kernel) (by decide +kernel))
        have k72 : rC (F 54) (x2_3).toInt (x4_24 + 1).toInt = rC (F 54) (x2_3).toInt ((x4_24).toInt + 1) := by rw [e70]
        have e73 : ((T25 52 4) + 1).toInt = ((T25 52 4).toInt + 1) := (t_add b62 cqb_1_1_1 (by decide +kernel) (by decide +kernel)).trans (by rw [cqn_1])
        have q74 : (1) ≤ ((T25 52 4) + 1).toInt ∧ ((T25 52 4) + 1).toInt ≤ (256) := (show B 1 256 ((T25 52 4) + 1) from B_w (B_add b62 cqb_1_1_1 (by decide +kernel) (by decide +kernel)) (by decide +kernel) (by decide +kernel))
        exact hR23 ⟨rfl, rfl, (B_w (B_any _) (by decide +kernel) (by decide +kernel)), (B_w (B_add b50 cqb_1_1_1 (by decide +kernel) (by decide +kernel)) (by decide +kernel) (by decide +kernel)), _, _, rfl, hI65, g66, (by show ((T25 52 4) + 1).toInt ≤ (rC (F 54) x2_3.toInt (x4_24 + 1).toInt); first | with_reducible assumption | omega), (by show (0 ≤ (T4 52 4).toInt) ∧ ((T4 52 4).toInt ≤ ((T25 52 4) + 1).toInt); first | with_reducible assumption | omega)⟩ (by show (256 - (x4_24 + 1).toInt).toNat < (256 - x4_24.toInt).toNat; omega)
theorem h_Oc_giveOut_ui45 {a : Bool} {b : Bool} {P : Nat → Nat → Nat} {u : Int32} {F : cF} {L : cL} {K : cs → Prop} (hx : B 0 1 u) (hI : IMc F) (hK : ∀ {Z : cF} {LZ : cL}, IMc Z → agc [4604, 5204] [49, 50, 51, 55, 56, 57, 999] F Z → K (Z, LZ, PC a b P)) : p_Oc_giveOut UL (PC a b P 45 u.toNatClampNeg) (F, L, PC a b P) K := by
  rcases sp_01 hx with rfl | rfl
  · exact h_Oc_giveOut_u46 hI (fun hI g => hK hI (agc_tr agc_refl g (by decide +kernel) (by decide +kernel)))
  · exact h_Oc_giveOut_u52 hI (fun hI g => hK hI (agc_tr agc_refl g (by decide +kernel) (by decide +kernel)))
set_option maxRecDepth 20000 in
set_option maxHeartbeats 4000000 in
theorem h_Pa_writeOwnCodes_u4_x233 {a : Bool} {b : Bool} {P : Nat → Nat → Nat} {x1 : Int32} {F : cF} {L : cL} {K : cs → Prop} (hI : IMc F) (hK : ∀ {Z : cF} {LZ : cL}, IMc Z → agc [501] [6, 999] F Z → K (Z, LZ, PC a b P)) : p_Pa_writeOwnCodes UL 4 x1 33 (F, L, PC a b P) K := by
  unfold p_Pa_writeOwnCodes
  refine ⟨(show ¬ ((5 : Nat) = NU) from by decide +kernel), ?_⟩
  refine ⟨(show c_cl UL 5 = 9 from cl_5), ?_⟩
  refine h_Ro_add_u5 hI (fun {FS5_1} {LFS5_1} hI2 g3 => ?_)
  refine ⟨fun yx2 yx3 yS => (33 : Nat) = yx2 ∧ B 1 17 yx3 ∧ ∃ (T6 : cF) (LT6 : cL), yS = (T6, LT6, PC a b P) ∧ IMc T6 ∧ agc [501] [6, 999] FS5_1 T6, fun yx2 yx3 yS => (17 - yx3.toInt).toNat, ⟨rfl, (B_w cqb_1_1_1 (by decide +kernel) (by decide +kernel)), _, _, rfl, hI2, (agc_refl (fs := [501]) (rs := [6, 999]) (F := FS5_1))⟩, fun x2_4 x3_5 ST6 hIv => ?_⟩
  obtain ⟨rfl, b7, T6, LT6, rfl, hI8, g9⟩ := hIv
  suffices hs : ∀ (R10 : Nat → Int32 → cs → Prop), (∀ zx2 zx3 zS, ((33 : Nat) = zx2 ∧ B 1 17 zx3 ∧ ∃ (T6 : cF) (LT6 : cL), zS = (T6, LT6, PC a b P) ∧ IMc T6 ∧ agc [501] [6, 999] FS5_1 T6) → (17 - zx3.toInt).toNat < (17 - x3_5.toInt).toNat → R10 zx2 zx3 zS) → b_Pa_writeOwnCodes_10 UL 4 33 x3_5 (T6, LT6, PC a b P) R10 K from hs _ (fun _ _ _ h1 h2 => ⟨h1, h2⟩)
  intro R10 hR100
  have hR10 := fun {zx2} {zx3} {zS} => hR100 zx2 zx3 zS
  unfold b_Pa_writeOwnCodes_10
  refine ⟨fun hc => ?_, fun hc => ?_⟩
  · have hq10 := hc
    have b11 : B 17 17 (x3_5) := B_w (B_ltR cqb_16_16_16 b7 hq10) (by decide +kernel) (by decide +kernel)
    refine ⟨fun yx2 yx3 yS => (33 : Nat) = yx2 ∧ B 0 256 yx3 ∧ ∃ (T14 : cF) (LT14 : cL), yS = (T14, LT14, PC a b P) ∧ IMc T14 ∧ agc [501] [6, 999] T6 T14, fun yx2 yx3 yS => (256 - yx3.toInt).toNat, ⟨rfl, (B_w cqb_0_0_0 (by decide +kernel) (by decide +kernel)), _, _, rfl, hI8, (agc_refl (fs := [501]) (rs := [6, 999]) (F := T6))⟩, fun x2_12 x3_13 ST14 hIv => ?_⟩
    obtain ⟨rfl, b15, T14, LT14, rfl, hI16, g17⟩ := hIv
    suffices hs : ∀ (R37 : Nat → Int32 → cs → Prop), (∀ zx2 zx3 zS, ((33 : Nat) = zx2 ∧ B 0 256 zx3 ∧ ∃ (T14 : cF) (LT14 : cL), zS = (T14, LT14, PC a b P) ∧ IMc T14 ∧ agc [501] [6, 999] T6 T14) → (256 - zx3.toInt).toNat < (256 - x3_13.toInt).toNat → R37 zx2 zx3 zS) → b_Pa_writeOwnCodes_37 UL 4 33 x3_13 (T14, LT14, PC a b P) R37 K from hs _ (fun _ _ _ h1 h2 => ⟨h1, h2⟩)
    intro R37 hR370
    have hR37 := fun {zx2} {zx3} {zS} => hR370 zx2 zx3 zS
    unfold b_Pa_writeOwnCodes_37
    refine ⟨(show c_cl UL 33 = 5 from cl_33), ?_⟩
    refine ⟨fun hc => ?_, fun hc => ?_⟩
    · have hq18 := hc
      have q19 : (0) ≤ (F 33 4).toInt ∧ (F 33 4).toInt ≤ (256) := (show B 0 256 (F 33 4) from hI 33 4)
      have e20 : (T14 33 4).toInt = (F 33 4).toInt := (congrArg Int32.toInt (((g17.1 33 4 rfl rfl).trans (g9.1 33 4 rfl rfl)).trans (g3.1 33 4 rfl rfl))).trans rfl
      have q21 : (0) ≤ (x3_13).toInt ∧ (x3_13).toInt ≤ (256) := (show B 0 256 (x3_13) from B_w b15 (by decide +kernel) (by decide +kernel))
      have i22 : (T14 33 4).toInt ≤ (x3_13).toInt := i_le hq18
      have g25 := agc_tr (agc_refl (fs := [501]) (rs := [6, 999]) (F := F)) g3 (by decide +kernel) (by decide +kernel)
      have g24 := agc_tr g25 g9 (by decide +kernel) (by decide +kernel)
      have g23 := agc_tr g24 g17 (by decide +kernel) (by decide +kernel)
      exact hK hI16 g23
    · have hq26 := (nle_lt hc)
      have b27 : B 0 255 (x3_13) := B_w (B_ltL b15 (B_eq (((g17.1 33 4 rfl rfl).trans (g9.1 33 4 rfl rfl)).trans (g3.1 33 4 rfl rfl)) (show B 0 256 (F 33 4) from hI 33 4)) hq26) (by decide +kernel) (by decide +kernel)
      have b28 : B 1 256 (F 33 4) := B_w (B_eq (Eq.symm (((g17.1 33 4 rfl rfl).trans (g9.1 33 4 rfl rfl)).trans (g3.1 33 4 rfl rfl))) (B_ltR b15 (B_eq (((g17.1 33 4 rfl rfl).trans (g9.1 33 4 rfl rfl)).trans (g3.1 33 4 rfl rfl)) (show B 0 256 (F 33 4) from hI 33 4)) hq26)) (by decide +kernel) (by decide +kernel)
      have q29 : (0) ≤ (x3_13).toInt ∧ (x3_13).toInt ≤ (255) := (show B 0 255 (x3_13) from B_w b27 (by decide +kernel) (by decide +kernel))
      have q30 : (1) ≤ (F 33 4).toInt ∧ (F 33 4).toInt ≤ (256) := (show B 1 256 (F 33 4) from B_w b28 (by decide +kernel) (by decide +kernel))
      have e31 : (T14 33 4).toInt = (F 33 4).toInt := (congrArg Int32.toInt (((g17.1 33 4 rfl rfl).trans (g9.1 33 4 rfl rfl)).trans (g3.1 33 4 rfl rfl))).trans rfl
      have i32 : (x3_13).toInt < (T14 33 4).toInt := i_lt hq26
      refine ⟨(show ¬ ((5 : Nat) = NU) from by decide +kernel), ?_⟩
      refine ⟨(show ¬ ((37 : Nat) = NU) from by decide +kernel), ?_⟩
      refine ⟨(show c_cl UL 37 = 902 from cl_37), ?_⟩
      refine ⟨(show vp_in (x3_13) 256 from vp_B b27 (by decide +kernel) (by decide +kernel)), ?_⟩
      refine ⟨(show c_cl UL 5 = 9 from cl_5), ?_⟩
      refine h_Ro_add_u5 hI16 (fun {FS55_33} {LFS55_33} hI34 g35 => ?_)
      have g37 := agc_tr (agc_refl (fs := [501]) (rs := [6, 999]) (F := T6)) g17 (by decide +kernel) (by decide +kernel)
      have g36 := agc_tr g37 g35 (by decide +kernel) (by decide +kernel)
      have e38 : (x3_13 + 1).toInt = ((x3_13).toInt + 1) := (t_add b27 cqb_1_1_1 (by decide +kernel) (by decide +kernel)).trans (by rw [cqn_1])
      have q39 : (1) ≤ (x3_13 + 1).toInt ∧ (x3_13 + 1).toInt ≤ (256) := (show B 1 256 (x3_13 + 1) from B_w (B_add b27 cqb_1_1_1 (by decide +kernel) (by decide +kernel)) (by decide +kernel) (by decide +kernel))
      exact hR37 ⟨rfl, (B_w (B_add b27 cqb_1_1_1 (by decide +kernel) (by decide +kernel)) (by decide +kernel) (by decide +kernel)), _, _, rfl, hI34, g36⟩ (by show (256 - (x3_13 + 1).toInt).toNat < (256 - x3_13.toInt).toNat; omega)
  · have hq40 := (nlt_le hc)
    have b41 : B 1 16 (x3_5) := B_w (B_leL b7 cqb_16_16_16 hq40) (by decide +kernel) (by decide +kernel)
    refine ⟨(show ¬ ((5 : Nat) = NU) from by decide +kernel), ?_⟩
    refine ⟨(show c_cl UL 33 = 5 from cl_33), ?_⟩
    refine ⟨(show ¬ ((38 : Nat) = NU) from by decide +kernel), ?_⟩
    refine ⟨(show c_cl UL 38 = 902 from cl_38), ?_⟩
    refine ⟨(show vp_in (x3_5) 17 from vp_B b41 (by decide +kernel) (by decide +kernel)), ?_⟩
    refine ⟨(show c_cl UL 5 = 9 from cl_5), ?_⟩
    refine h_Ro_add_u5 hI8 (fun {FS26_42} {LFS26_42} hI43 g44 => ?_)
    have g46 := agc_tr (agc_refl (fs := [501]) (rs := [6, 999]) (F := FS5_1)) g9 (by decide +kernel) (by decide +kernel)
    have g45 := agc_tr g46 g44 (by decide +kernel) (by decide +kernel)
    have q47 : (1) ≤ (x3_5).toInt ∧ (x3_5).toInt ≤ (16) := (show B 1 16 (x3_5) from B_w b41 (by decide +kernel) (by decide +kernel))
    have e48 : (x3_5 + 1).toInt = ((x3_5).toInt + 1) := (t_add b41 cqb_1_1_1 (by decide +kernel) (by decide +kernel)).trans (by rw [cqn_1])
    have q49 : (2) ≤ (x3_5 + 1).toInt ∧ (x3_5 + 1).toInt ≤ (17) := (show B 2 17 (x3_5 + 1) from B_w (B_add b41 cqb_1_1_1 (by decide +kernel) (by decide +kernel)) (by decide +kernel) (by decide +kernel))
    exact hR10 ⟨rfl, (B_w (B_add b41 cqb_1_1_1 (by decide +kernel) (by decide +kernel)) (by decide +kernel) (by decide +kernel)), _, _, rfl, hI43, g45⟩ (by show (17 - (x3_5 + 1).toInt).toNat < (17 - x3_5.toInt).toNat; omega)
set_option maxRecDepth 20000 in
set_option maxHeartbeats 4000000 in
theorem h_Pa_writeOwnCodes_u4_x239 {a : Bool} {b : Bool} {P : Nat → Nat → Nat} {x1 : Int32} {F : cF} {L : cL} {K : cs → Prop} (hI : IMc F) (hK : ∀ {Z : cF} {LZ : cL}, IMc Z → agc [501] [6, 999] F Z → K (Z, LZ, PC a b P)) : p_Pa_writeOwnCodes UL 4 x1 39 (F, L, PC a b P) K := by
  unfold p_Pa_writeOwnCodes
  refine ⟨(show ¬ ((5 : Nat) = NU) from by decide +kernel), ?_⟩
  refine ⟨(show c_cl UL 5 = 9 from cl_5), ?_⟩
  refine h_Ro_add_u5 hI (fun {FS5_1} {LFS5_1} hI2 g3 => ?_)
  refine ⟨fun yx2 yx3 yS => (39 : Nat) = yx2 ∧ B 1 17 yx3 ∧ ∃ (T6 : cF) (LT6 : cL), yS = (T6, LT6, PC a b P) ∧ IMc T6 ∧ agc [501] [6, 999] FS5_1 T6, fun yx2 yx3 yS => (17 - yx3.toInt).toNat, ⟨rfl, (B_w cqb_1_1_1 (by decide +kernel) (by decide +kernel)), _, _, rfl, hI2, (agc_refl (fs := [501]) (rs := [6, 999]) (F := FS5_1))⟩, fun x2_4 x3_5 ST6 hIv => ?_⟩
  obtain ⟨rfl, b7, T6, LT6, rfl, hI8, g9⟩ := hIv
  suffices hs : ∀ (R10 : Nat → Int32 → cs → Prop), (∀ zx2 zx3 zS, ((39 : Nat) = zx2 ∧ B 1 17 zx3 ∧ ∃ (T6 : cF) (LT6 : cL), zS = (T6, LT6, PC a b P) ∧ IMc T6 ∧ agc [501] [6, 999] FS5_1 T6) → (17 - zx3.toInt).toNat < (17 - x3_5.toInt).toNat → R10 zx2 zx3 zS) → b_Pa_writeOwnCodes_10 UL 4 39 x3_5 (T6, LT6, PC a b P) R10 K from hs _ (fun _ _ _ h1 h2 => ⟨h1, h2⟩)
  intro R10 hR100
  have hR10 := fun {zx2} {zx3} {zS} => hR100 zx2 zx3 zS
  unfold b_Pa_writeOwnCodes_10
  refine ⟨fun hc => ?_, fun hc => ?_⟩
  · have hq10 := hc
    have b11 : B 17 17 (x3_5) := B_w (B_ltR cqb_16_16_16 b7 hq10) (by decide +kernel) (by decide +kernel)
    refine ⟨fun yx2 yx3 yS => (39 : Nat) = yx2 ∧ B 0 256 yx3 ∧ ∃ (T14 : cF) (LT14 : cL), yS = (T14, LT14, PC a b P) ∧ IMc T14 ∧ agc [501] [6, 999] T6 T14, fun yx2 yx3 yS => (256 - yx3.toInt).toNat, ⟨rfl, (B_w cqb_0_0_0 (by decide +kernel) (by decide +kernel)), _, _, rfl, hI8, (agc_refl (fs := [501]) (rs := [6, 999]) (F := T6))⟩, fun x2_12 x3_13 ST14 hIv => ?_⟩
    obtain ⟨rfl, b15, T14, LT14, rfl, hI16, g17⟩ := hIv
    suffices hs : ∀ (R37 : Nat → Int32 → cs → Prop), (∀ zx2 zx3 zS, ((39 : Nat) = zx2 ∧ B 0 256 zx3 ∧ ∃ (T14 : cF) (LT14 : cL), zS = (T14, LT14, PC a b P) ∧ IMc T14 ∧ agc [501] [6, 999] T6 T14) → (256 - zx3.toInt).toNat < (256 - x3_13.toInt).toNat → R37 zx2 zx3 zS) → b_Pa_writeOwnCodes_37 UL 4 39 x3_13 (T14, LT14, PC a b P) R37 K from hs _ (fun _ _ _ h1 h2 => ⟨h1, h2⟩)
    intro R37 hR370
    have hR37 := fun {zx2} {zx3} {zS} => hR370 zx2 zx3 zS
    unfold b_Pa_writeOwnCodes_37
    refine ⟨(show c_cl UL 39 = 5 from cl_39), ?_⟩
    refine ⟨fun hc => ?_, fun hc => ?_⟩
    · have hq18 := hc
      have q19 : (0) ≤ (F 39 4).toInt ∧ (F 39 4).toInt ≤ (256) := (show B 0 256 (F 39 4) from hI 39 4)
      have e20 : (T14 39 4).toInt = (F 39 4).toInt := (congrArg Int32.toInt (((g17.1 39 4 rfl rfl).trans (g9.1 39 4 rfl rfl)).trans (g3.1 39 4 rfl rfl))).trans rfl
      have q21 : (0) ≤ (x3_13).toInt ∧ (x3_13).toInt ≤ (256) := (show B 0 256 (x3_13) from B_w b15 (by decide +kernel) (by decide +kernel))
      have i22 : (T14 39 4).toInt ≤ (x3_13).toInt := i_le hq18
      have g25 := agc_tr (agc_refl (fs := [501]) (rs := [6, 999]) (F := F)) g3 (by decide +kernel) (by decide +kernel)
      have g24 := agc_tr g25 g9 (by decide +kernel) (by decide +kernel)
      have g23 := agc_tr g24 g17 (by decide +kernel) (by decide +kernel)
      exact hK hI16 g23
    · have hq26 := (nle_lt hc)
      have b27 : B 0 255 (x3_13) := B_w (B_ltL b15 (B_eq (((g17.1 39 4 rfl rfl).trans (g9.1 39 4 rfl rfl)).trans (g3.1 39 4 rfl rfl)) (show B 0 256 (F 39 4) from hI 39 4)) hq26) (by decide +kernel) (by decide +kernel)
      have b28 : B 1 256 (F 39 4) := B_w (B_eq (Eq.symm (((g17.1 39 4 rfl rfl).trans (g9.1 39 4 rfl rfl)).trans (g3.1 39 4 rfl rfl))) (B_ltR b15 (B_eq (((g17.1 39 4 rfl rfl).trans (g9.1 39 4 rfl rfl)).trans (g3.1 39 4 rfl rfl)) (show B 0 256 (F 39 4) from hI 39 4)) hq26)) (by decide +kernel) (by decide +kernel)
      have q29 : (0) ≤ (x3_13).toInt ∧ (x3_13).toInt ≤ (255) := (show B 0 255 (x3_13) from B_w b27 (by decide +kernel) (by decide +kernel))
      have q30 : (1) ≤ (F 39 4).toInt ∧ (F 39 4).toInt ≤ (256) := (show B 1 256 (F 39 4) from B_w b28 (by decide +kernel) (by decide +kernel))
      have e31 : (T14 39 4).toInt = (F 39 4).toInt := (congrArg Int32.toInt (((g17.1 39 4 rfl rfl).trans (g9.1 39 4 rfl rfl)).trans (g3.1 39 4 rfl rfl))).trans rfl
      have i32 : (x3_13).toInt < (T14 39 4).toInt := i_lt hq26
      refine ⟨(show ¬ ((5 : Nat) = NU) from by decide +kernel), ?_⟩
      refine ⟨(show ¬ ((43 : Nat) = NU) from by decide +kernel), ?_⟩
      refine ⟨(show c_cl UL 43 = 902 from cl_43), ?_⟩
      refine ⟨(show vp_in (x3_13) 256 from vp_B b27 (by decide +kernel) (by decide +kernel)), ?_⟩
      refine ⟨(show c_cl UL 5 = 9 from cl_5), ?_⟩
      refine h_Ro_add_u5 hI16 (fun {FS55_33} {LFS55_33} hI34 g35 => ?_)
      have g37 := agc_tr (agc_refl (fs := [501]) (rs := [6, 999]) (F := T6)) g17 (by decide +kernel) (by decide +kernel)
      have g36 := agc_tr g37 g35 (by decide +kernel) (by decide +kernel)
      have e38 : (x3_13 + 1).toInt = ((x3_13).toInt + 1) := (t_add b27 cqb_1_1_1 (by decide +kernel) (by decide +kernel)).trans (by rw [cqn_1])
      have q39 : (1) ≤ (x3_13 + 1).toInt ∧ (x3_13 + 1).toInt ≤ (256) := (show B 1 256 (x3_13 + 1) from B_w (B_add b27 cqb_1_1_1 (by decide +kernel) (by decide +kernel)) (by decide +kernel) (by decide +kernel))
      exact hR37 ⟨rfl, (B_w (B_add b27 cqb_1_1_1 (by decide +kernel) (by decide +kernel)) (by decide +kernel) (by decide +kernel)), _, _, rfl, hI34, g36⟩ (by show (256 - (x3_13 + 1).toInt).toNat < (256 - x3_13.toInt).toNat; omega)
  · have hq40 := (nlt_le hc)
    have b41 : B 1 16 (x3_5) := B_w (B_leL b7 cqb_16_16_16 hq40) (by decide +kernel) (by decide +kernel)
    refine ⟨(show ¬ ((5 : Nat) = NU) from by decide +kernel), ?_⟩
    refine ⟨(show c_cl UL 39 = 5 from cl_39), ?_⟩
    refine ⟨(show ¬ ((44 : Nat) = NU) from by decide +kernel), ?_⟩
    refine ⟨(show c_cl UL 44 = 902 from cl_44), ?_⟩
    refine ⟨(show vp_in (x3_5) 17 from vp_B b41 (by decide +kernel) (by decide +kernel)), ?_⟩
    refine ⟨(show c_cl UL 5 = 9 from cl_5), ?_⟩
    refine h_Ro_add_u5 hI8 (fun {FS26_42} {LFS26_42} hI43 g44 => ?_)
    have g46 := agc_tr (agc_refl (fs := [501]) (rs := [6, 999]) (F := FS5_1)) g9 (by decide +kernel) (by decide +kernel)
    have g45 := agc_tr g46 g44 (by decide +kernel) (by decide +kernel)
    have q47 : (1) ≤ (x3_5).toInt ∧ (x3_5).toInt ≤ (16) := (show B 1 16 (x3_5) from B_w b41 (by decide +kernel) (by decide +kernel))
    have e48 : (x3_5 + 1).toInt = ((x3_5).toInt + 1) := (t_add b41 cqb_1_1_1 (by decide +kernel) (by decide +kernel)).trans (by rw [cqn_1])
    have q49 : (2) ≤ (x3_5 + 1).toInt ∧ (x3_5 + 1).toInt ≤ (17) := (show B 2 17 (x3_5 + 1) from B_w (B_add b41 cqb_1_1_1 (by decide +kernel) (by decide +kernel)) (by decide +kernel) (by decide +kernel))
    exact hR10 ⟨rfl, (B_w (B_add b41 cqb_1_1_1 (by decide +kernel) (by decide +kernel)) (by decide +kernel) (by decide +kernel)), _, _, rfl, hI43, g45⟩ (by show (17 - (x3_5 + 1).toInt).toNat < (17 - x3_5.toInt).toNat; omega)
theorem h_Pa_writeOwnCodes_u4_x2i32 {a : Bool} {b : Bool} {P : Nat → Nat → Nat} {x1 : Int32} {x2 : Int32} {F : cF} {L : cL} {K : cs → Prop} (hx : B 0 1 x2) (hI : IMc F) (hK : ∀ {Z : cF} {LZ : cL}, IMc Z → agc [501] [6, 999] F Z → K (Z, LZ, PC a b P)) : p_Pa_writeOwnCodes UL 4 x1 (PC a b P 32 x2.toNatClampNeg) (F, L, PC a b P) K := by
  rcases sp_01 hx with rfl | rfl
  · exact h_Pa_writeOwnCodes_u4_x233 hI (fun hI g => hK hI (agc_tr agc_refl g (by decide +kernel) (by decide +kernel)))
  · exact h_Pa_writeOwnCodes_u4_x239 hI (fun hI g => hK hI (agc_tr agc_refl g (by decide +kernel) (by decide +kernel)))
set_option maxRecDepth 20000 in
set_option maxHeartbeats 4000000 in
theorem h_Pa_writeOwnCodes_u4_x246 {a : Bool} {b : Bool} {P : Nat → Nat → Nat} {x1 : Int32} {F : cF} {L : cL} {K : cs → Prop} (hI : IMc F) (hK : ∀ {Z : cF} {LZ : cL}, IMc Z → agc [501] [6, 999] F Z → K (Z, LZ, PC a b P)) : p_Pa_writeOwnCodes UL 4 x1 46 (F, L, PC a b P) K := by
  unfold p_Pa_writeOwnCodes
  refine ⟨(show ¬ ((5 : Nat) = NU) from by decide +kernel), ?_⟩
  refine ⟨(show c_cl UL 5 = 9 from cl_5), ?_⟩
  refine h_Ro_add_u5 hI (fun {FS5_1} {LFS5_1} hI2 g3 => ?_)
  refine ⟨fun yx2 yx3 yS => (46 : Nat) = yx2 ∧ B 1 17 yx3 ∧ ∃ (T6 : cF) (LT6 : cL), yS = (T6, LT6, PC a b P) ∧ IMc T6 ∧ agc [501] [6, 999] FS5_1 T6, fun yx2 yx3 yS => (17 - yx3.toInt).toNat, ⟨rfl, (B_w cqb_1_1_1 (by decide +kernel) (by decide +kernel)), _, _, rfl, hI2, (agc_refl (fs := [501]) (rs := [6, 999]) (F := FS5_1))⟩, fun x2_4 x3_5 ST6 hIv => ?_⟩
  obtain ⟨rfl, b7, T6, LT6, rfl, hI8, g9⟩ := hIv
  suffices hs : ∀ (R10 : Nat → Int32 → cs → Prop), (∀ zx2 zx3 zS, ((46 : Nat) = zx2 ∧ B 1 17 zx3 ∧ ∃ (T6 : cF) (LT6 : cL), zS = (T6, LT6, PC a b P) ∧ IMc T6 ∧ agc [501] [6, 999] FS5_1 T6) → (17 - zx3.toInt).toNat < (17 - x3_5.toInt).toNat → R10 zx2 zx3 zS) → b_Pa_writeOwnCodes_10 UL 4 46 x3_5 (T6, LT6, PC a b P) R10 K from hs _ (fun _ _ _ h1 h2 => ⟨h1, h2⟩)
  intro R10 hR100
  have hR10 := fun {zx2} {zx3} {zS} => hR100 zx2 zx3 zS
  unfold b_Pa_writeOwnCodes_10
  refine ⟨fun hc => ?_, fun hc => ?_⟩
  · have hq10 := hc
    have b11 : B 17 17 (x3_5) := B_w (B_ltR cqb_16_16_16 b7 hq10) (by decide +kernel) (by decide +kernel)
    refine ⟨fun yx2 yx3 yS => (46 : Nat) = yx2 ∧ B 0 256 yx3 ∧ ∃ (T14 : cF) (LT14 : cL), yS = (T14, LT14, PC a b P) ∧ IMc T14 ∧ agc [501] [6, 999] T6 T14, fun yx2 yx3 yS => (256 - yx3.toInt).toNat, ⟨rfl, (B_w cqb_0_0_0 (by decide +kernel) (by decide +kernel)), _, _, rfl, hI8, (agc_refl (fs := [501]) (rs := [6, 999]) (F := T6))⟩, fun x2_12 x3_13 ST14 hIv => ?_⟩
    obtain ⟨rfl, b15, T14, LT14, rfl, hI16, g17⟩ := hIv
    suffices hs : ∀ (R37 : Nat → Int32 → cs → Prop), (∀ zx2 zx3 zS, ((46 : Nat) = zx2 ∧ B 0 256 zx3 ∧ ∃ (T14 : cF) (LT14 : cL), zS = (T14, LT14, PC a b P) ∧ IMc T14 ∧ agc [501] [6, 999] T6 T14) → (256 - zx3.toInt).toNat < (256 - x3_13.toInt).toNat → R37 zx2 zx3 zS) → b_Pa_writeOwnCodes_37 UL 4 46 x3_13 (T14, LT14, PC a b P) R37 K from hs _ (fun _ _ _ h1 h2 => ⟨h1, h2⟩)
    intro R37 hR370
    have hR37 := fun {zx2} {zx3} {zS} => hR370 zx2 zx3 zS
    unfold b_Pa_writeOwnCodes_37
    refine ⟨(show c_cl UL 46 = 5 from cl_46), ?_⟩
    refine ⟨fun hc => ?_, fun hc => ?_⟩
    · have hq18 := hc
      have q19 : (0) ≤ (F 46 4).toInt ∧ (F 46 4).toInt ≤ (256) := (show B 0 256 (F 46 4) from hI 46 4)
      have e20 : (T14 46 4).toInt = (F 46 4).toInt := (congrArg Int32.toInt (((g17.1 46 4 rfl rfl).trans (g9.1 46 4 rfl rfl)).trans (g3.1 46 4 rfl rfl))).trans rfl
      have q21 : (0) ≤ (x3_13).toInt ∧ (x3_13).toInt ≤ (256) := (show B 0 256 (x3_13) from B_w b15 (by decide +kernel) (by decide +kernel))
      have i22 : (T14 46 4).toInt ≤ (x3_13).toInt := i_le hq18
      have g25 := agc_tr (agc_refl (fs := [501]) (rs := [6, 999]) (F := F)) g3 (by decide +kernel) (by decide +kernel)
      have g24 := agc_tr g25 g9 (by decide +kernel) (by decide +kernel)
      have g23 := agc_tr g24 g17 (by decide +kernel) (by decide +kernel)
      exact hK hI16 g23
    · have hq26 := (nle_lt hc)
      have b27 : B 0 255 (x3_13) := B_w (B_ltL b15 (B_eq (((g17.1 46 4 rfl rfl).trans (g9.1 46 4 rfl rfl)).trans (g3.1 46 4 rfl rfl)) (show B 0 256 (F 46 4) from hI 46 4)) hq26) (by decide +kernel) (by decide +kernel)
      have b28 : B 1 256 (F 46 4) := B_w (B_eq (Eq.symm (((g17.1 46 4 rfl rfl).trans (g9.1 46 4 rfl rfl)).trans (g3.1 46 4 rfl rfl))) (B_ltR b15 (B_eq (((g17.1 46 4 rfl rfl).trans (g9.1 46 4 rfl rfl)).trans (g3.1 46 4 rfl rfl)) (show B 0 256 (F 46 4) from hI 46 4)) hq26)) (by decide +kernel) (by decide +kernel)
      have q29 : (0) ≤ (x3_13).toInt ∧ (x3_13).toInt ≤ (255) := (show B 0 255 (x3_13) from B_w b27 (by decide +kernel) (by decide +kernel))
      have q30 : (1) ≤ (F 46 4).toInt ∧ (F 46 4).toInt ≤ (256) := (show B 1 256 (F 46 4) from B_w b28 (by decide +kernel) (by decide +kernel))
      have e31 : (T14 46 4).toInt = (F 46 4).toInt := (congrArg Int32.toInt (((g17.1 46 4 rfl rfl).trans (g9.1 46 4 rfl rfl)).trans (g3.1 46 4 rfl rfl))).trans rfl
      have i32 : (x3_13).toInt < (T14 46 4).toInt := i_lt hq26
      refine ⟨(show ¬ ((5 : Nat) = NU) from by decide +kernel), ?_⟩
      refine ⟨(show ¬ ((50 : Nat) = NU) from by decide +kernel), ?_⟩
      refine ⟨(show c_cl UL 50 = 902 from cl_50), ?_⟩
      refine ⟨(show vp_in (x3_13) 256 from vp_B b27 (by decide +kernel) (by decide +kernel)), ?_⟩
      refine ⟨(show c_cl UL 5 = 9 from cl_5), ?_⟩
      refine h_Ro_add_u5 hI16 (fun {FS55_33} {LFS55_33} hI34 g35 => ?_)
      have g37 := agc_tr (agc_refl (fs := [501]) (rs := [6, 999]) (F := T6)) g17 (by decide +kernel) (by decide +kernel)
      have g36 := agc_tr g37 g35 (by decide +kernel) (by decide +kernel)
      have e38 : (x3_13 + 1).toInt = ((x3_13).toInt + 1) := (t_add b27 cqb_1_1_1 (by decide +kernel) (by decide +kernel)).trans (by rw [cqn_1])
      have q39 : (1) ≤ (x3_13 + 1).toInt ∧ (x3_13 + 1).toInt ≤ (256) := (show B 1 256 (x3_13 + 1) from B_w (B_add b27 cqb_1_1_1 (by decide +kernel) (by decide +kernel)) (by decide +kernel) (by decide +kernel))
      exact hR37 ⟨rfl, (B_w (B_add b27 cqb_1_1_1 (by decide +kernel) (by decide +kernel)) (by decide +kernel) (by decide +kernel)), _, _, rfl, hI34, g36⟩ (by show (256 - (x3_13 + 1).toInt).toNat < (256 - x3_13.toInt).toNat; omega)
  · have hq40 := (nlt_le hc)
    have b41 : B 1 16 (x3_5) := B_w (B_leL b7 cqb_16_16_16 hq40) (by decide +kernel) (by decide +kernel)
    refine ⟨(show ¬ ((5 : Nat) = NU) from by decide +kernel), ?_⟩
    refine ⟨(show c_cl UL 46 = 5 from cl_46), ?_⟩
    refine ⟨(show ¬ ((51 : Nat) = NU) from by decide +kernel), ?_⟩
    refine ⟨(show c_cl UL 51 = 902 from cl_51), ?_⟩
    refine ⟨(show vp_in (x3_5) 17 from vp_B b41 (by decide +kernel) (by decide +kernel)), ?_⟩
    refine ⟨(show c_cl UL 5 = 9 from cl_5), ?_⟩
    refine h_Ro_add_u5 hI8 (fun {FS26_42} {LFS26_42} hI43 g44 => ?_)
    have g46 := agc_tr (agc_refl (fs := [501]) (rs := [6, 999]) (F := FS5_1)) g9 (by decide +kernel) (by decide +kernel)
    have g45 := agc_tr g46 g44 (by decide +kernel) (by decide +kernel)
    have q47 : (1) ≤ (x3_5).toInt ∧ (x3_5).toInt ≤ (16) := (show B 1 16 (x3_5) from B_w b41 (by decide +kernel) (by decide +kernel))
    have e48 : (x3_5 + 1).toInt = ((x3_5).toInt + 1) := (t_add b41 cqb_1_1_1 (by decide +kernel) (by decide +kernel)).trans (by rw [cqn_1])
    have q49 : (2) ≤ (x3_5 + 1).toInt ∧ (x3_5 + 1).toInt ≤ (17) := (show B 2 17 (x3_5 + 1) from B_w (B_add b41 cqb_1_1_1 (by decide +kernel) (by decide +kernel)) (by decide +kernel) (by decide +kernel))
    exact hR10 ⟨rfl, (B_w (B_add b41 cqb_1_1_1 (by decide +kernel) (by decide +kernel)) (by decide +kernel) (by decide +kernel)), _, _, rfl, hI43, g45⟩ (by show (17 - (x3_5 + 1).toInt).toNat < (17 - x3_5.toInt).toNat; omega)
set_option maxRecDepth 20000 in
set_option maxHeartbeats 4000000 in
theorem h_Pa_writeOwnCodes_u4_x252 {a : Bool} {b : Bool} {P : Nat → Nat → Nat} {x1 : Int32} {F : cF} {L : cL} {K : cs → Prop} (hI : IMc F) (hK : ∀ {Z : cF} {LZ : cL}, IMc Z → agc [501] [6, 999] F Z → K (Z, LZ, PC a b P)) : p_Pa_writeOwnCodes UL 4 x1 52 (F, L, PC a b P) K := by
  unfold p_Pa_writeOwnCodes
  refine ⟨(show ¬ ((5 : Nat) = NU) from by decide +kernel), ?_⟩
  refine ⟨(show c_cl UL 5 = 9 from cl_5), ?_⟩
  refine h_Ro_add_u5 hI (fun {FS5_1} {LFS5_1} hI2 g3 => ?_)
  refine ⟨fun yx2 yx3 yS => (52 : Nat) = yx2 ∧ B 1 17 yx3 ∧ ∃ (T6 : cF) (LT6 : cL), yS = (T6, LT6, PC a b P) ∧ IMc T6 ∧ agc [501] [6, 999] FS5_1 T6, fun yx2 yx3 yS => (17 - yx3.toInt).toNat, ⟨rfl, (B_w cqb_1_1_1 (by decide +kernel) (by decide +kernel)), _, _, rfl, hI2, (agc_refl (fs := [501]) (rs := [6, 999]) (F := FS5_1))⟩, fun x2_4 x3_5 ST6 hIv => ?_⟩
  obtain ⟨rfl, b7, T6, LT6, rfl, hI8, g9⟩ := hIv
  suffices hs : ∀ (R10 : Nat → Int32 → cs → Prop), (∀ zx2 zx3 zS, ((52 : Nat) = zx2 ∧ B 1 17 zx3 ∧ ∃ (T6 : cF) (LT6 : cL), zS = (T6, LT6, PC a b P) ∧ IMc T6 ∧ agc [501] [6, 999] FS5_1 T6) → (17 - zx3.toInt).toNat < (17 - x3_5.toInt).toNat → R10 zx2 zx3 zS) → b_Pa_writeOwnCodes_10 UL 4 52 x3_5 (T6, LT6, PC a b P) R10 K from hs _ (fun _ _ _ h1 h2 => ⟨h1, h2⟩)
  intro R10 hR100
  have hR10 := fun {zx2} {zx3} {zS} => hR100 zx2 zx3 zS
  unfold b_Pa_writeOwnCodes_10
  refine ⟨fun hc => ?_, fun hc => ?_⟩
  · have hq10 := hc
    have b11 : B 17 17 (x3_5) := B_w (B_ltR cqb_16_16_16 b7 hq10) (by decide +kernel) (by decide +kernel)
    refine ⟨fun yx2 yx3 yS => (52 : Nat) = yx2 ∧ B 0 256 yx3 ∧ ∃ (T14 : cF) (LT14 : cL), yS = (T14, LT14, PC a b P) ∧ IMc T14 ∧ agc [501] [6, 999] T6 T14, fun yx2 yx3 yS => (256 - yx3.toInt).toNat, ⟨rfl, (B_w cqb_0_0_0 (by decide +kernel) (by decide +kernel)), _, _, rfl, hI8, (agc_refl (fs := [501]) (rs := [6, 999]) (F := T6))⟩, fun x2_12 x3_13 ST14 hIv => ?_⟩
    obtain ⟨rfl, b15, T14, LT14, rfl, hI16, g17⟩ := hIv
    suffices hs : ∀ (R37 : Nat → Int32 → cs → Prop), (∀ zx2 zx3 zS, ((52 : Nat) = zx2 ∧ B 0 256 zx3 ∧ ∃ (T14 : cF) (LT14 : cL), zS = (T14, LT14, PC a b P) ∧ IMc T14 ∧ agc [501] [6, 999] T6 T14) → (256 - zx3.toInt).toNat < (256 - x3_13.toInt).toNat → R37 zx2 zx3 zS) → b_Pa_writeOwnCodes_37 UL 4 52 x3_13 (T14, LT14, PC a b P) R37 K from hs _ (fun _ _ _ h1 h2 => ⟨h1, h2⟩)
    intro R37 hR370
    have hR37 := fun {zx2} {zx3} {zS} => hR370 zx2 zx3 zS
    unfold b_Pa_writeOwnCodes_37
    refine ⟨(show c_cl UL 52 = 5 from cl_52), ?_⟩
    refine ⟨fun hc => ?_, fun hc => ?_⟩
    · have hq18 := hc
      have q19 : (0) ≤ (F 52 4).toInt ∧ (F 52 4).toInt ≤ (256) := (show B 0 256 (F 52 4) from hI 52 4)
      have e20 : (T14 52 4).toInt = (F 52 4).toInt := (congrArg Int32.toInt (((g17.1 52 4 rfl rfl).trans (g9.1 52 4 rfl rfl)).trans (g3.1 52 4 rfl rfl))).trans rfl
      have q21 : (0) ≤ (x3_13).toInt ∧ (x3_13).toInt ≤ (256) := (show B 0 256 (x3_13) from B_w b15 (by decide +kernel) (by decide +kernel))
      have i22 : (T14 52 4).toInt ≤ (x3_13).toInt := i_le hq18
      have g25 := agc_tr (agc_refl (fs := [501]) (rs := [6, 999]) (F := F)) g3 (by decide +kernel) (by decide +kernel)
      have g24 := agc_tr g25 g9 (by decide +kernel) (by decide +kernel)
      have g23 := agc_tr g24 g17 (by decide +kernel) (by decide +kernel)
      exact hK hI16 g23
    · have hq26 := (nle_lt hc)
      have b27 : B 0 255 (x3_13) := B_w (B_ltL b15 (B_eq (((g17.1 52 4 rfl rfl).trans (g9.1 52 4 rfl rfl)).trans (g3.1 52 4 rfl rfl)) (show B 0 256 (F 52 4) from hI 52 4)) hq26) (by decide +kernel) (by decide +kernel)
      have b28 : B 1 256 (F 52 4) := B_w (B_eq (Eq.symm (((g17.1 52 4 rfl rfl).trans (g9.1 52 4 rfl rfl)).trans (g3.1 52 4 rfl rfl))) (B_ltR b15 (B_eq (((g17.1 52 4 rfl rfl).trans (g9.1 52 4 rfl rfl)).trans (g3.1 52 4 rfl rfl)) (show B 0 256 (F 52 4) from hI 52 4)) hq26)) (by decide +kernel) (by decide +kernel)
      have q29 : (0) ≤ (x3_13).toInt ∧ (x3_13).toInt ≤ (255) := (show B 0 255 (x3_13) from B_w b27 (by decide +kernel) (by decide +kernel))
      have q30 : (1) ≤ (F 52 4).toInt ∧ (F 52 4).toInt ≤ (256) := (show B 1 256 (F 52 4) from B_w b28 (by decide +kernel) (by decide +kernel))
      have e31 : (T14 52 4).toInt = (F 52 4).toInt := (congrArg Int32.toInt (((g17.1 52 4 rfl rfl).trans (g9.1 52 4 rfl rfl)).trans (g3.1 52 4 rfl rfl))).trans rfl
      have i32 : (x3_13).toInt < (T14 52 4).toInt := i_lt hq26
      refine ⟨(show ¬ ((5 : Nat) = NU) from by decide +kernel), ?_⟩
      refine ⟨(show ¬ ((56 : Nat) = NU) from by decide +kernel), ?_⟩
      refine ⟨(show c_cl UL 56 = 902 from cl_56), ?_⟩
      refine ⟨(show vp_in (x3_13) 256 from vp_B b27 (by decide +kernel) (by decide +kernel)), ?_⟩
      refine ⟨(show c_cl UL 5 = 9 from cl_5), ?_⟩
      refine h_Ro_add_u5 hI16 (fun {FS55_33} {LFS55_33} hI34 g35 => ?_)
      have g37 := agc_tr (agc_refl (fs := [501]) (rs := [6, 999]) (F := T6)) g17 (by decide +kernel) (by decide +kernel)
      have g36 := agc_tr g37 g35 (by decide +kernel) (by decide +kernel)
      have e38 : (x3_13 + 1).toInt = ((x3_13).toInt + 1) := (t_add b27 cqb_1_1_1 (by decide +kernel) (by decide +kernel)).trans (by rw [cqn_1])
      have q39 : (1) ≤ (x3_13 + 1).toInt ∧ (x3_13 + 1).toInt ≤ (256) := (show B 1 256 (x3_13 + 1) from B_w (B_add b27 cqb_1_1_1 (by decide +kernel) (by decide +kernel)) (by decide +kernel) (by decide +kernel))
      exact hR37 ⟨rfl, (B_w (B_add b27 cqb_1_1_1 (by decide +kernel) (by decide +kernel)) (by decide +kernel) (by decide +kernel)), _, _, rfl, hI34, g36⟩ (by show (256 - (x3_13 + 1).toInt).toNat < (256 - x3_13.toInt).toNat; omega)
  · have hq40 := (nlt_le hc)
    have b41 : B 1 16 (x3_5) := B_w (B_leL b7 cqb_16_16_16 hq40) (by decide +kernel) (by decide +kernel)
    refine ⟨(show ¬ ((5 : Nat) = NU) from by decide +kernel), ?_⟩
    refine ⟨(show c_cl UL 52 = 5 from cl_52), ?_⟩
    refine ⟨(show ¬ ((57 : Nat) = NU) from by decide +kernel), ?_⟩
    refine ⟨(show c_cl UL 57 = 902 from cl_57), ?_⟩
    refine ⟨(show vp_in (x3_5) 17 from vp_B b41 (by decide +kernel) (by decide +kernel)), ?_⟩
    refine ⟨(show c_cl UL 5 = 9 from cl_5), ?_⟩
    refine h_Ro_add_u5 hI8 (fun {FS26_42} {LFS26_42} hI43 g44 => ?_)
    have g46 := agc_tr (agc_refl (fs := [501]) (rs := [6, 999]) (F := FS5_1)) g9 (by decide +kernel) (by decide +kernel)
    have g45 := agc_tr g46 g44 (by decide +kernel) (by decide +kernel)
    have q47 : (1) ≤ (x3_5).toInt ∧ (x3_5).toInt ≤ (16) := (show B 1 16 (x3_5) from B_w b41 (by decide +kernel) (by decide +kernel))
    have e48 : (x3_5 + 1).toInt = ((x3_5).toInt + 1) := (t_add b41 cqb_1_1_1 (by decide +kernel) (by decide +kernel)).trans (by rw [cqn_1])
    have q49 : (2) ≤ (x3_5 + 1).toInt ∧ (x3_5 + 1).toInt ≤ (17) := (show B 2 17 (x3_5 + 1) from B_w (B_add b41 cqb_1_1_1 (by decide +kernel) (by decide +kernel)) (by decide +kernel) (by decide +kernel))
    exact hR10 ⟨rfl, (B_w (B_add b41 cqb_1_1_1 (by decide +kernel) (by decide +kernel)) (by decide +kernel) (by decide +kernel)), _, _, rfl, hI43, g45⟩ (by show (17 - (x3_5 + 1).toInt).toNat < (17 - x3_5.toInt).toNat; omega)
theorem h_Pa_writeOwnCodes_u4_x2i45 {a : Bool} {b : Bool} {P : Nat → Nat → Nat} {x1 : Int32} {x2 : Int32} {F : cF} {L : cL} {K : cs → Prop} (hx : B 0 1 x2) (hI : IMc F) (hK : ∀ {Z : cF} {LZ : cL}, IMc Z → agc [501] [6, 999] F Z → K (Z, LZ, PC a b P)) : p_Pa_writeOwnCodes UL 4 x1 (PC a b P 45 x2.toNatClampNeg) (F, L, PC a b P) K := by
  rcases sp_01 hx with rfl | rfl
  · exact h_Pa_writeOwnCodes_u4_x246 hI (fun hI g => hK hI (agc_tr agc_refl g (by decide +kernel) (by decide +kernel)))
  · exact h_Pa_writeOwnCodes_u4_x252 hI (fun hI g => hK hI (agc_tr agc_refl g (by decide +kernel) (by decide +kernel)))
set_option maxRecDepth 20000 in
set_option maxHeartbeats 4000000 in
theorem h_Ro_addTwo_u5 {a : Bool} {b : Bool} {P : Nat → Nat → Nat} {x1 : Int32} {F : cF} {L : cL} {K : cs → Prop} (hI : IMc F) (hK : ∀ {Z : cF} {LZ : cL}, IMc Z → agc [501] [6] F Z → K (Z, LZ, PC a b P)) : p_Ro_addTwo UL 5 x1 (F, L, PC a b P) K := by
  unfold p_Ro_addTwo
  refine h_Ro_add_u5 hI (fun {FS5_1} {LFS5_1} hI2 g3 => ?_)
  refine h_Ro_add_u5 hI2 (fun {FS10_4} {LFS10_4} hI5 g6 => ?_)
  have g8 := agc_tr (agc_refl (fs := [501]) (rs := [6]) (F := F)) g3 (by decide +kernel) (by decide +kernel)
  have g7 := agc_tr g8 g6 (by decide +kernel) (by decide +kernel)
  exact hK hI5 g7
set_option maxRecDepth 20000 in
set_option maxHeartbeats 4000000 in
theorem h_Pa_writeTables_u4_x13 {a : Bool} {b : Bool} {P : Nat → Nat → Nat} {F : cF} {L : cL} {K : cs → Prop} (hI : IMc F) (hK : ∀ {Z : cF} {LZ : cL}, IMc Z → agc [501] [6, 999] F Z → K (Z, LZ, PC a b P)) : p_Pa_writeTables UL 4 3 (F, L, PC a b P) K := by
  unfold p_Pa_writeTables
  refine h_Pa_addMark_u4 hI (fun {FS4_1} {LFS4_1} hI2 g3 => ?_)
  refine ⟨(show ¬ ((5 : Nat) = NU) from by decide +kernel), ?_⟩
  refine ⟨(show c_cl UL 5 = 9 from cl_5), ?_⟩
  refine h_Ro_addTwo_u5 hI2 (fun {FS20_4} {LFS20_4} hI5 g6 => ?_)
  refine ⟨fun yx1 yx2 yS => (3 : Nat) = yx1 ∧ B 0 2 yx2 ∧ ∃ (T9 : cF) (LT9 : cL), yS = (T9, LT9, PC a b P) ∧ IMc T9 ∧ agc [501] [6, 999] FS20_4 T9, fun yx1 yx2 yS => (2 - yx2.toInt).toNat, ⟨rfl, (B_w cqb_0_0_0 (by decide +kernel) (by decide +kernel)), _, _, rfl, hI5, (agc_refl (fs := [501]) (rs := [6, 999]) (F := FS20_4))⟩, fun x1_7 x2_8 ST9 hIv => ?_⟩
  obtain ⟨rfl, b10, T9, LT9, rfl, hI11, g12⟩ := hIv
  suffices hs : ∀ (R25 : Nat → Int32 → cs → Prop), (∀ zx1 zx2 zS, ((3 : Nat) = zx1 ∧ B 0 2 zx2 ∧ ∃ (T9 : cF) (LT9 : cL), zS = (T9, LT9, PC a b P) ∧ IMc T9 ∧ agc [501] [6, 999] FS20_4 T9) → (2 - zx2.toInt).toNat < (2 - x2_8.toInt).toNat → R25 zx1 zx2 zS) → b_Pa_writeTables_25 UL 4 3 x2_8 (T9, LT9, PC a b P) R25 K from hs _ (fun _ _ _ h1 h2 => ⟨h1, h2⟩)
  intro R25 hR250
  have hR25 := fun {zx1} {zx2} {zS} => hR250 zx1 zx2 zS
  unfold b_Pa_writeTables_25
  refine ⟨fun hc => ?_, fun hc => ?_⟩
  · have hq13 := hc
    have q14 : (0) ≤ (F 4 8).toInt ∧ (F 4 8).toInt ≤ (2) := (show B 0 2 (F 4 8) from hI 4 8)
    have e15 : (T9 4 8).toInt = (F 4 8).toInt := (congrArg Int32.toInt (((g12.1 4 8 rfl rfl).trans (g6.1 4 8 rfl rfl)).trans (g3.1 4 8 rfl rfl))).trans rfl
    have q16 : (0) ≤ (x2_8).toInt ∧ (x2_8).toInt ≤ (2) := (show B 0 2 (x2_8) from B_w b10 (by decide +kernel) (by decide +kernel))
    have i17 : (T9 4 8).toInt ≤ (x2_8).toInt := i_le hq13
    have g20 := agc_tr (agc_refl (fs := [501]) (rs := [6, 999]) (F := F)) g3 (by decide +kernel) (by decide +kernel)
    have g19 := agc_tr g20 g6 (by decide +kernel) (by decide +kernel)
    have g18 := agc_tr g19 g12 (by decide +kernel) (by decide +kernel)
    exact hK hI11 g18
  · have hq21 := (nle_lt hc)
    have b22 : B 0 1 (x2_8) := B_w (B_ltL b10 (B_eq (((g12.1 4 8 rfl rfl).trans (g6.1 4 8 rfl rfl)).trans (g3.1 4 8 rfl rfl)) (show B 0 2 (F 4 8) from hI 4 8)) hq21) (by decide +kernel) (by decide +kernel)
    have b23 : B 1 2 (F 4 8) := B_w (B_eq (Eq.symm (((g12.1 4 8 rfl rfl).trans (g6.1 4 8 rfl rfl)).trans (g3.1 4 8 rfl rfl))) (B_ltR b10 (B_eq (((g12.1 4 8 rfl rfl).trans (g6.1 4 8 rfl rfl)).trans (g3.1 4 8 rfl rfl)) (show B 0 2 (F 4 8) from hI 4 8)) hq21)) (by decide +kernel) (by decide +kernel)
    have q24 : (0) ≤ (x2_8).toInt ∧ (x2_8).toInt ≤ (1) := (show B 0 1 (x2_8) from B_w b22 (by decide +kernel) (by decide +kernel))
    have q25 : (1) ≤ (F 4 8).toInt ∧ (F 4 8).toInt ≤ (2) := (show B 1 2 (F 4 8) from B_w b23 (by decide +kernel) (by decide +kernel))
    have e26 : (T9 4 8).toInt = (F 4 8).toInt := (congrArg Int32.toInt (((g12.1 4 8 rfl rfl).trans (g6.1 4 8 rfl rfl)).trans (g3.1 4 8 rfl rfl))).trans rfl
    have i27 : (x2_8).toInt < (T9 4 8).toInt := i_lt hq21
    refine ⟨(show ¬ ((5 : Nat) = NU) from by decide +kernel), ?_⟩
    refine ⟨(show c_cl UL 5 = 9 from cl_5), ?_⟩
    refine h_Ro_add_u5 hI11 (fun {FS38_28} {LFS38_28} hI29 g30 => ?_)
    refine ⟨fun yx1 yx2 yx3 yS => (3 : Nat) = yx1 ∧ x2_8 = yx2 ∧ B 0 64 yx3 ∧ ∃ (T34 : cF) (LT34 : cL), yS = (T34, LT34, PC a b P) ∧ IMc T34 ∧ agc [501] [6, 999] FS38_28 T34, fun yx1 yx2 yx3 yS => (64 - yx3.toInt).toNat, ⟨rfl, rfl, (B_w cqb_0_0_0 (by decide +kernel) (by decide +kernel)), _, _, rfl, hI29, (agc_refl (fs := [501]) (rs := [6, 999]) (F := FS38_28))⟩, fun x1_31 x2_32 x3_33 ST34 hIv => ?_⟩
    obtain ⟨rfl, rfl, b35, T34, LT34, rfl, hI36, g37⟩ := hIv
    suffices hs : ∀ (R43 : Nat → Int32 → Int32 → cs → Prop), (∀ zx1 zx2 zx3 zS, ((3 : Nat) = zx1 ∧ x2_8 = zx2 ∧ B 0 64 zx3 ∧ ∃ (T34 : cF) (LT34 : cL), zS = (T34, LT34, PC a b P) ∧ IMc T34 ∧ agc [501] [6, 999] FS38_28 T34) → (64 - zx3.toInt).toNat < (64 - x3_33.toInt).toNat → R43 zx1 zx2 zx3 zS) → b_Pa_writeTables_43 UL 4 3 x2_8 x3_33 (T34, LT34, PC a b P) R25 R43 K from hs _ (fun _ _ _ _ h1 h2 => ⟨h1, h2⟩)
    intro R43 hR430
    have hR43 := fun {zx1} {zx2} {zx3} {zS} => hR430 zx1 zx2 zx3 zS
    unfold b_Pa_writeTables_43
    refine ⟨fun hc => ?_, fun hc => ?_⟩
    · have hq38 := hc
      have b39 : B 64 64 (x3_33) := B_w (B_leR cqb_64_64_64 b35 hq38) (by decide +kernel) (by decide +kernel)
      have g42 := agc_tr (agc_refl (fs := [501]) (rs := [6, 999]) (F := FS20_4)) g12 (by decide +kernel) (by decide +kernel)
      have g41 := agc_tr g42 g30 (by decide +kernel) (by decide +kernel)
      have g40 := agc_tr g41 g37 (by decide +kernel) (by decide +kernel)
      have e43 : (x2_8 + 1).toInt = ((x2_8).toInt + 1) := (t_add b22 cqb_1_1_1 (by decide +kernel) (by decide +kernel)).trans (by rw [cqn_1])
      have q44 : (1) ≤ (x2_8 + 1).toInt ∧ (x2_8 + 1).toInt ≤ (2) := (show B 1 2 (x2_8 + 1) from B_w (B_add b22 cqb_1_1_1 (by decide +kernel) (by decide +kernel)) (by decide +kernel) (by decide +kernel))
      exact hR25 ⟨rfl, (B_w (B_add b22 cqb_1_1_1 (by decide +kernel) (by decide +kernel)) (by decide +kernel) (by decide +kernel)), _, _, rfl, hI36, g40⟩ (by show (2 - (x2_8 + 1).toInt).toNat < (2 - x2_8.toInt).toNat; omega)
    · have hq45 := (nle_lt hc)
      have b46 : B 0 63 (x3_33) := B_w (B_ltL b35 cqb_64_64_64 hq45) (by decide +kernel) (by decide +kernel)
      refine ⟨(show ¬ ((5 : Nat) = NU) from by decide +kernel), ?_⟩
      refine ⟨(show vp_in (x3_33) 64 from vp_B b46 (by decide +kernel) (by decide +kernel)), ?_⟩
      refine ⟨(show c_cl UL 3 = 902 from cl_3), ?_⟩
      refine ⟨(show vp_in ((64 * x2_8) + (rw_at row_sl x3_33.toNatClampNeg)) 128 from vp_B (B_add (B_mul cqb_64_64_64 b22 (by decide +kernel) (by decide +kernel) (by decide +kernel)) (B_sl _) (by decide +kernel) (by decide +kernel)) (by decide +kernel) (by decide +kernel)), ?_⟩
      refine ⟨(show c_cl UL 5 = 9 from cl_5), ?_⟩
      refine h_Ro_add_u5 hI36 (fun {FS65_47} {LFS65_47} hI48 g49 => ?_)
      have g51 := agc_tr (agc_refl (fs := [501]) (rs := [6, 999]) (F := FS38_28)) g37 (by decide +kernel) (by decide +kernel)
      have g50 := agc_tr g51 g49 (by decide +kernel) (by decide +kernel)
      have q52 : (0) ≤ (x3_33).toInt ∧ (x3_33).toInt ≤ (63) := (show B 0 63 (x3_33) from B_w b46 (by decide +kernel) (by decide +kernel))
      have e53 : (x3_33 + 1).toInt = ((x3_33).toInt + 1) := (t_add b46 cqb_1_1_1 (by decide +kernel) (by decide +kernel)).trans (by rw [cqn_1])
      have q54 : (1) ≤ (x3_33 + 1).toInt ∧ (x3_33 + 1).toInt ≤ (64) := (show B 1 64 (x3_33 + 1) from B_w (B_add b46 cqb_1_1_1 (by decide +kernel) (by decide +kernel)) (by decide +kernel) (by decide +kernel))
      exact hR43 ⟨rfl, rfl, (B_w (B_add b46 cqb_1_1_1 (by decide +kernel) (by decide +kernel)) (by decide +kernel) (by decide +kernel)), _, _, rfl, hI48, g50⟩ (by show (64 - (x3_33 + 1).toInt).toNat < (64 - x3_33.toInt).toNat; omega)
set_option maxRecDepth 20000 in
set_option maxHeartbeats 4000000 in
theorem h_Pa_writeFrame_u4 {a : Bool} {b : Bool} {P : Nat → Nat → Nat} {F : cF} {L : cL} {K : cs → Prop} (hI : IMc F) (hK : ∀ {Z : cF} {LZ : cL}, IMc Z → agc [501] [6, 999] F Z → K (Z, LZ, PC a b P)) : p_Pa_writeFrame UL 4 (F, L, PC a b P) K := by
  unfold p_Pa_writeFrame
  refine h_Pa_addMark_u4 hI (fun {FS4_1} {LFS4_1} hI2 g3 => ?_)
  refine ⟨(show ¬ ((5 : Nat) = NU) from by decide +kernel), ?_⟩
  refine ⟨(show ¬ ((12 : Nat) = NU) from by decide +kernel), ?_⟩
  refine ⟨(show c_cl UL 12 = 7 from cl_12), ?_⟩
  refine ⟨(show c_cl UL 5 = 9 from cl_5), ?_⟩
  refine h_Ro_addTwo_u5 hI2 (fun {FS23_4} {LFS23_4} hI5 g6 => ?_)
  refine ⟨(show ¬ ((5 : Nat) = NU) from by decide +kernel), ?_⟩
  refine ⟨(show c_cl UL 5 = 9 from cl_5), ?_⟩
  refine h_Ro_add_u5 hI5 (fun {FS32_7} {LFS32_7} hI8 g9 => ?_)
  refine ⟨(show ¬ ((5 : Nat) = NU) from by decide +kernel), ?_⟩
  refine ⟨(show ¬ ((12 : Nat) = NU) from by decide +kernel), ?_⟩
  refine ⟨(show c_cl UL 12 = 7 from cl_12), ?_⟩
  refine ⟨(show c_cl UL 5 = 9 from cl_5), ?_⟩
  refine h_Ro_addTwo_u5 hI8 (fun {FS46_10} {LFS46_10} hI11 g12 => ?_)
  refine ⟨(show ¬ ((5 : Nat) = NU) from by decide +kernel), ?_⟩
  refine ⟨(show ¬ ((12 : Nat) = NU) from by decide +kernel), ?_⟩
  refine ⟨(show c_cl UL 12 = 7 from cl_12), ?_⟩
  refine ⟨(show c_cl UL 5 = 9 from cl_5), ?_⟩
  refine h_Ro_addTwo_u5 hI11 (fun {FS60_13} {LFS60_13} hI14 g15 => ?_)
  refine ⟨(show ¬ ((5 : Nat) = NU) from by decide +kernel), ?_⟩
  refine ⟨(show ¬ ((12 : Nat) = NU) from by decide +kernel), ?_⟩
  refine ⟨(show c_cl UL 12 = 7 from cl_12), ?_⟩
  refine ⟨(show c_cl UL 5 = 9 from cl_5), ?_⟩
  refine h_Ro_add_u5 hI14 (fun {FS74_16} {LFS74_16} hI17 g18 => ?_)
  refine ⟨fun yx1 yS => B 0 3 yx1 ∧ ∃ (T20 : cF) (LT20 : cL), yS = (T20, LT20, PC a b P) ∧ IMc T20 ∧ agc [501] [6, 999] FS74_16 T20, fun yx1 yS => (3 - yx1.toInt).toNat, ⟨(B_w cqb_0_0_0 (by decide +kernel) (by decide +kernel)), _, _, rfl, hI17, (agc_refl (fs := [501]) (rs := [6, 999]) (F := FS74_16))⟩, fun x1_19 ST20 hIv => ?_⟩
  obtain ⟨b21, T20, LT20, rfl, hI22, g23⟩ := hIv
  suffices hs : ∀ (R79 : Int32 → cs → Prop), (∀ zx1 zS, (B 0 3 zx1 ∧ ∃ (T20 : cF) (LT20 : cL), zS = (T20, LT20, PC a b P) ∧ IMc T20 ∧ agc [501] [6, 999] FS74_16 T20) → (3 - zx1.toInt).toNat < (3 - x1_19.toInt).toNat → R79 zx1 zS) → b_Pa_writeFrame_79 UL 4 x1_19 (T20, LT20, PC a b P) R79 K from hs _ (fun _ _ h1 h2 => ⟨h1, h2⟩)
  intro R79 hR790
  have hR79 := fun {zx1} {zS} => hR790 zx1 zS
  unfold b_Pa_writeFrame_79
  refine ⟨(show ¬ ((12 : Nat) = NU) from by decide +kernel), ?_⟩
  refine ⟨(show c_cl UL 12 = 7 from cl_12), ?_⟩
  refine ⟨fun hc => ?_, fun hc => ?_⟩
  · have hq24 := hc
    have b25 : B 1 3 (x1_19) := B_w (B_leR (B_eq (((((((g23.1 12 2 rfl rfl).trans (g18.1 12 2 rfl rfl)).trans (g15.1 12 2 rfl rfl)).trans (g12.1 12 2 rfl rfl)).trans (g9.1 12 2 rfl rfl)).trans (g6.1 12 2 rfl rfl)).trans (g3.1 12 2 rfl rfl)) (show B 1 3 (F 12 2) from hI 12 2)) b21 hq24) (by decide +kernel) (by decide +kernel)
    have q26 : (1) ≤ (F 12 2).toInt ∧ (F 12 2).toInt ≤ (3) := (show B 1 3 (F 12 2) from hI 12 2)
    have e27 : (T20 12 2).toInt = (F 12 2).toInt := (congrArg Int32.toInt (((((((g23.1 12 2 rfl rfl).trans (g18.1 12 2 rfl rfl)).trans (g15.1 12 2 rfl rfl)).trans (g12.1 12 2 rfl rfl)).trans (g9.1 12 2 rfl rfl)).trans (g6.1 12 2 rfl rfl)).trans (g3.1 12 2 rfl rfl))).trans rfl
    have q28 : (1) ≤ (x1_19).toInt ∧ (x1_19).toInt ≤ (3) := (show B 1 3 (x1_19) from B_w b25 (by decide +kernel) (by decide +kernel))
    have i29 : (T20 12 2).toInt ≤ (x1_19).toInt := i_le hq24
    have g36 := agc_tr (agc_refl (fs := [501]) (rs := [6, 999]) (F := F)) g3 (by decide +kernel) (by decide +kernel)
    have g35 := agc_tr g36 g6 (by decide +kernel) (by decide +kernel)
    have g34 := agc_tr g35 g9 (by decide +kernel) (by decide +kernel)
    have g33 := agc_tr g34 g12 (by decide +kernel) (by decide +kernel)
    have g32 := agc_tr g33 g15 (by decide +kernel) (by decide +kernel)
    have g31 := agc_tr g32 g18 (by decide +kernel) (by decide +kernel)
    have g30 := agc_tr g31 g23 (by decide +kernel) (by decide +kernel)
    exact hK hI22 g30
  · have hq37 := (nle_lt hc)
    have b38 : B 0 2 (x1_19) := B_w (B_ltL b21 (B_eq (((((((g23.1 12 2 rfl rfl).trans (g18.1 12 2 rfl rfl)).trans (g15.1 12 2 rfl rfl)).trans (g12.1 12 2 rfl rfl)).trans (g9.1 12 2 rfl rfl)).trans (g6.1 12 2 rfl rfl)).trans (g3.1 12 2 rfl rfl)) (show B 1 3 (F 12 2) from hI 12 2)) hq37) (by decide +kernel) (by decide +kernel)
    have q39 : (0) ≤ (x1_19).toInt ∧ (x1_19).toInt ≤ (2) := (show B 0 2 (x1_19) from B_w b38 (by decide +kernel) (by decide +kernel))
    have q40 : (1) ≤ (F 12 2).toInt ∧ (F 12 2).toInt ≤ (3) := (show B 1 3 (F 12 2) from hI 12 2)
    have e41 : (T20 12 2).toInt = (F 12 2).toInt := (congrArg Int32.toInt (((((((g23.1 12 2 rfl rfl).trans (g18.1 12 2 rfl rfl)).trans (g15.1 12 2 rfl rfl)).trans (g12.1 12 2 rfl rfl)).trans (g9.1 12 2 rfl rfl)).trans (g6.1 12 2 rfl rfl)).trans (g3.1 12 2 rfl rfl))).trans rfl
    have i42 : (x1_19).toInt < (T20 12 2).toInt := i_lt hq37
    refine ⟨(show ¬ ((5 : Nat) = NU) from by decide +kernel), ?_⟩
    refine ⟨(show c_cl UL 5 = 9 from cl_5), ?_⟩
    refine h_Ro_add_u5 hI22 (fun {FS97_43} {LFS97_43} hI44 g45 => ?_)
    refine ⟨(show ¬ ((5 : Nat) = NU) from by decide +kernel), ?_⟩
    refine ⟨(show ¬ ((12 : Nat) = NU) from by decide +kernel), ?_⟩
    refine ⟨(show c_cl UL 12 = 7 from cl_12), ?_⟩
    refine ⟨(show ¬ ((13 : Nat) = NU) from by decide +kernel), ?_⟩
    refine ⟨(show c_cl UL 13 = 902 from cl_13), ?_⟩
    refine ⟨(show vp_in (x1_19) 3 from vp_B b38 (by decide +kernel) (by decide +kernel)), ?_⟩
    refine ⟨(show ¬ ((12 : Nat) = NU) from by decide +kernel), ?_⟩
    refine ⟨(show ¬ ((14 : Nat) = NU) from by decide +kernel), ?_⟩
    refine ⟨(show c_cl UL 14 = 902 from cl_14), ?_⟩
    refine ⟨(show vp_in (x1_19) 3 from vp_B b38 (by decide +kernel) (by decide +kernel)), ?_⟩
    refine ⟨(show c_cl UL 5 = 9 from cl_5), ?_⟩
    refine h_Ro_add_u5 hI44 (fun {FS126_46} {LFS126_46} hI47 g48 => ?_)
    refine ⟨(show ¬ ((5 : Nat) = NU) from by decide +kernel), ?_⟩
    refine h_Pa_kindOf  (fun {v134_49} b50 => ?_)
    refine ⟨(show c_cl UL 5 = 9 from cl_5), ?_⟩
    refine h_Ro_add_u5 hI47 (fun {FS137_51} {LFS137_51} hI52 g53 => ?_)
    have g57 := agc_tr (agc_refl (fs := [501]) (rs := [6, 999]) (F := FS74_16)) g23 (by decide +kernel) (by decide +kernel)
    have g56 := agc_tr g57 g45 (by decide +kernel) (by decide +kernel)
    have g55 := agc_tr g56 g48 (by decide +kernel) (by decide +kernel)
    have g54 := agc_tr g55 g53 (by decide +kernel) (by decide +kernel)
    have e58 : (x1_19 + 1).toInt = ((x1_19).toInt + 1) := (t_add b38 cqb_1_1_1 (by decide +kernel) (by decide +kernel)).trans (by rw [cqn_1])
    have q59 : (1) ≤ (x1_19 + 1).toInt ∧ (x1_19 + 1).toInt ≤ (3) := (show B 1 3 (x1_19 + 1) from B_w (B_add b38 cqb_1_1_1 (by decide +kernel) (by decide +kernel)) (by decide +kernel) (by decide +kernel))
    exact hR79 ⟨(B_w (B_add b38 cqb_1_1_1 (by decide +kernel) (by decide +kernel)) (by decide +kernel) (by decide +kernel)), _, _, rfl, hI52, g54⟩ (by show (3 - (x1_19 + 1).toInt).toNat < (3 - x1_19.toInt).toNat; omega)
set_option maxRecDepth 20000 in
set_option maxHeartbeats 4000000 in
theorem h_Pa_writeCodes_u4 {a : Bool} {b : Bool} {P : Nat → Nat → Nat} {F : cF} {L : cL} {K : cs → Prop} (hI : IMc F) (hK : ∀ {Z : cF} {LZ : cL}, IMc Z → agc [501] [6, 999] F Z → K (Z, LZ, PC a b P)) : p_Pa_writeCodes UL 4 (F, L, PC a b P) K := by
  unfold p_Pa_writeCodes
  refine ⟨fun yx1 yx2 yS => B (-2147483648) 2147483647 yx1 ∧ B 0 2 yx2 ∧ (F, L, PC a b P) = yS, fun yx1 yx2 yS => (2 - yx2.toInt).toNat, ⟨(B_w cqb_2_2_2 (by decide +kernel) (by decide +kernel)), (B_w cqb_0_0_0 (by decide +kernel) (by decide +kernel)), rfl⟩, fun x1_1 x2_2 ST3 hIv => ?_⟩
  obtain ⟨b4, b5, rfl⟩ := hIv
  suffices hs : ∀ (R4 : Int32 → Int32 → cs → Prop), (∀ zx1 zx2 zS, (B (-2147483648) 2147483647 zx1 ∧ B 0 2 zx2 ∧ (F, L, PC a b P) = zS) → (2 - zx2.toInt).toNat < (2 - x2_2.toInt).toNat → R4 zx1 zx2 zS) → b_Pa_writeCodes_4 UL 4 x1_1 x2_2 (F, L, PC a b P) R4 K from hs _ (fun _ _ _ h1 h2 => ⟨h1, h2⟩)
  intro R4 hR40
  have hR4 := fun {zx1} {zx2} {zS} => hR40 zx1 zx2 zS
  unfold b_Pa_writeCodes_4
  refine ⟨fun hc => ?_, fun hc => ?_⟩
  · have hq6 := hc
    have q7 : (0) ≤ (F 4 8).toInt ∧ (F 4 8).toInt ≤ (2) := (show B 0 2 (F 4 8) from hI 4 8)
    have q8 : (0) ≤ (x2_2).toInt ∧ (x2_2).toInt ≤ (2) := (show B 0 2 (x2_2) from B_w b5 (by decide +kernel) (by decide +kernel))
    have i9 : (F 4 8).toInt ≤ (x2_2).toInt := i_le hq6
    refine h_Pa_addMark_u4 hI (fun {FS47_10} {LFS47_10} hI11 g12 => ?_)
    refine ⟨(show ¬ ((5 : Nat) = NU) from by decide +kernel), ?_⟩
    refine ⟨(show c_cl UL 5 = 9 from cl_5), ?_⟩
    refine h_Ro_addTwo_u5 hI11 (fun {FS55_13} {LFS55_13} hI14 g15 => ?_)
    refine ⟨fun yx2 yS => B 0 2 yx2 ∧ ∃ (T17 : cF) (LT17 : cL), yS = (T17, LT17, PC a b P) ∧ IMc T17 ∧ agc [501] [6, 999] FS55_13 T17, fun yx2 yS => (2 - yx2.toInt).toNat, ⟨(B_w cqb_0_0_0 (by decide +kernel) (by decide +kernel)), _, _, rfl, hI14, (agc_refl (fs := [501]) (rs := [6, 999]) (F := FS55_13))⟩, fun x2_16 ST17 hIv => ?_⟩
    obtain ⟨b18, T17, LT17, rfl, hI19, g20⟩ := hIv
    suffices hs : ∀ (R60 : Int32 → cs → Prop), (∀ zx2 zS, (B 0 2 zx2 ∧ ∃ (T17 : cF) (LT17 : cL), zS = (T17, LT17, PC a b P) ∧ IMc T17 ∧ agc [501] [6, 999] FS55_13 T17) → (2 - zx2.toInt).toNat < (2 - x2_16.toInt).toNat → R60 zx2 zS) → b_Pa_writeCodes_60 UL 4 x2_16 (T17, LT17, PC a b P) R60 K from hs _ (fun _ _ h1 h2 => ⟨h1, h2⟩)
    intro R60 hR600
    have hR60 := fun {zx2} {zS} => hR600 zx2 zS
    unfold b_Pa_writeCodes_60
    refine ⟨fun hc => ?_, fun hc => ?_⟩
    · have hq21 := hc
      have e22 : (T17 4 8).toInt = (F 4 8).toInt := (congrArg Int32.toInt (((g20.1 4 8 rfl rfl).trans (g15.1 4 8 rfl rfl)).trans (g12.1 4 8 rfl rfl))).trans rfl
      have q23 : (0) ≤ (x2_16).toInt ∧ (x2_16).toInt ≤ (2) := (show B 0 2 (x2_16) from B_w b18 (by decide +kernel) (by decide +kernel))
      have i24 : (T17 4 8).toInt ≤ (x2_16).toInt := i_le hq21
      have g27 := agc_tr (agc_refl (fs := [501]) (rs := [6, 999]) (F := F)) g12 (by decide +kernel) (by decide +kernel)
      have g26 := agc_tr g27 g15 (by decide +kernel) (by decide +kernel)
      have g25 := agc_tr g26 g20 (by decide +kernel) (by decide +kernel)
      exact hK hI19 g25
    · have hq28 := (nle_lt hc)
      have b29 : B 0 1 (x2_16) := B_w (B_ltL b18 (B_eq (((g20.1 4 8 rfl rfl).trans (g15.1 4 8 rfl rfl)).trans (g12.1 4 8 rfl rfl)) (show B 0 2 (F 4 8) from hI 4 8)) hq28) (by decide +kernel) (by decide +kernel)
      have b30 : B 1 2 (F 4 8) := B_w (B_eq (Eq.symm (((g20.1 4 8 rfl rfl).trans (g15.1 4 8 rfl rfl)).trans (g12.1 4 8 rfl rfl))) (B_ltR b18 (B_eq (((g20.1 4 8 rfl rfl).trans (g15.1 4 8 rfl rfl)).trans (g12.1 4 8 rfl rfl)) (show B 0 2 (F 4 8) from hI 4 8)) hq28)) (by decide +kernel) (by decide +kernel)
      have q31 : (1) ≤ (F 4 8).toInt ∧ (F 4 8).toInt ≤ (2) := (show B 1 2 (F 4 8) from B_w b30 (by decide +kernel) (by decide +kernel))
      have q32 : (0) ≤ (x2_16).toInt ∧ (x2_16).toInt ≤ (1) := (show B 0 1 (x2_16) from B_w b29 (by decide +kernel) (by decide +kernel))
      have e33 : (T17 4 8).toInt = (F 4 8).toInt := (congrArg Int32.toInt (((g20.1 4 8 rfl rfl).trans (g15.1 4 8 rfl rfl)).trans (g12.1 4 8 rfl rfl))).trans rfl
      have i34 : (x2_16).toInt < (T17 4 8).toInt := i_lt hq28
      refine ⟨(show ¬ ((32 : Nat) = NU) from by decide +kernel), ?_⟩
      refine ⟨(show c_cl UL 32 = 950 from cl_32), ?_⟩
      refine ⟨(show vp_in (x2_16) 2 from vp_B b29 (by decide +kernel) (by decide +kernel)), ?_⟩
      rcases sp_01 b29 with rfl | rfl
      · refine ⟨(show ¬ ((33 : Nat) = NU) from by decide +kernel), ?_⟩
        refine h_Pa_writeOwnCodes_u4_x233 hI19 (fun {FS76_35} {LFS76_35} hI36 g37 => ?_)
        refine ⟨(show ¬ ((45 : Nat) = NU) from by decide +kernel), ?_⟩
        refine ⟨(show c_cl UL 45 = 950 from cl_45), ?_⟩
        refine ⟨(show vp_in (0) 2 from vp_B cqb_0_0_0 (by decide +kernel) (by decide +kernel)), ?_⟩
        refine ⟨(show ¬ ((46 : Nat) = NU) from by decide +kernel), ?_⟩
        refine h_Pa_writeOwnCodes_u4_x246 hI36 (fun {FS90_38} {LFS90_38} hI39 g40 => ?_)
        have g43 := agc_tr (agc_refl (fs := [501]) (rs := [6, 999]) (F := FS55_13)) g20 (by decide +kernel) (by decide +kernel)
        have g42 := agc_tr g43 g37 (by decide +kernel) (by decide +kernel)
        have g41 := agc_tr g42 g40 (by decide +kernel) (by decide +kernel)
        have e44 : (((0 : Int32) + 1)).toInt = 1 := by decide +kernel
        exact hR60 ⟨(B_w (B_add cqb_0_0_0 cqb_1_1_1 (by decide +kernel) (by decide +kernel)) (by decide +kernel) (by decide +kernel)), _, _, rfl, hI39, g41⟩ (by show (2 - ((0 : Int32) + 1).toInt).toNat < ((2 : Int) - 0).toNat; omega)
      · refine ⟨(show ¬ ((39 : Nat) = NU) from by decide +kernel), ?_⟩
        refine h_Pa_writeOwnCodes_u4_x239 hI19 (fun {FS76_45} {LFS76_45} hI46 g47 => ?_)
        refine ⟨(show ¬ ((45 : Nat) = NU) from by decide +kernel), ?_⟩
        refine ⟨(show c_cl UL 45 = 950 from cl_45), ?_⟩
        refine ⟨(show vp_in (1) 2 from vp_B cqb_1_1_1 (by decide +kernel) (by decide +kernel)), ?_⟩
        refine ⟨(show ¬ ((52 : Nat) = NU) from by decide +kernel), ?_⟩
        refine h_Pa_writeOwnCodes_u4_x252 hI46 (fun {FS90_48} {LFS90_48} hI49 g50 => ?_)
        have g53 := agc_tr (agc_refl (fs := [501]) (rs := [6, 999]) (F := FS55_13)) g20 (by decide +kernel) (by decide +kernel)
        have g52 := agc_tr g53 g47 (by decide +kernel) (by decide +kernel)
        have g51 := agc_tr g52 g50 (by decide +kernel) (by decide +kernel)
        have e54 : (((1 : Int32) + 1)).toInt = 2 := by decide +kernel
        exact hR60 ⟨(B_w (B_add cqb_1_1_1 cqb_1_1_1 (by decide +kernel) (by decide +kernel)) (by decide +kernel) (by decide +kernel)), _, _, rfl, hI49, g51⟩ (by show (2 - ((1 : Int32) + 1).toInt).toNat < ((2 : Int) - 1).toNat; omega)
  · have hq55 := (nle_lt hc)
    have b56 : B 0 1 (x2_2) := B_w (B_ltL b5 (show B 0 2 (F 4 8) from hI 4 8) hq55) (by decide +kernel) (by decide +kernel)
    have b57 : B 1 2 (F 4 8) := B_w (B_ltR b5 (show B 0 2 (F 4 8) from hI 4 8) hq55) (by decide +kernel) (by decide +kernel)
    have q58 : (0) ≤ (x2_2).toInt ∧ (x2_2).toInt ≤ (1) := (show B 0 1 (x2_2) from B_w b56 (by decide +kernel) (by decide +kernel))
    have q59 : (1) ≤ (F 4 8).toInt ∧ (F 4 8).toInt ≤ (2) := (show B 1 2 (F 4 8) from B_w b57 (by decide +kernel) (by decide +kernel))
    have i60 : (x2_2).toInt < (F 4 8).toInt := i_lt hq55
    refine ⟨(show ¬ ((32 : Nat) = NU) from by decide +kernel), ?_⟩
    refine ⟨(show c_cl UL 32 = 950 from cl_32), ?_⟩
    refine ⟨(show vp_in (x2_2) 2 from vp_B b56 (by decide +kernel) (by decide +kernel)), ?_⟩
    rcases sp_01 b56 with rfl | rfl
    · refine ⟨(show ¬ ((33 : Nat) = NU) from by decide +kernel), ?_⟩
      refine ⟨(show c_cl UL 33 = 5 from cl_33), ?_⟩
      refine ⟨(show ¬ ((45 : Nat) = NU) from by decide +kernel), ?_⟩
      refine ⟨(show c_cl UL 45 = 950 from cl_45), ?_⟩
      refine ⟨(show vp_in (0) 2 from vp_B cqb_0_0_0 (by decide +kernel) (by decide +kernel)), ?_⟩
      refine ⟨(show ¬ ((46 : Nat) = NU) from by decide +kernel), ?_⟩
      refine ⟨(show c_cl UL 46 = 5 from cl_46), ?_⟩
      have e61 : (((0 : Int32) + 1)).toInt = 1 := by decide +kernel
      exact hR4 ⟨(B_w (B_any _) (by decide +kernel) (by decide +kernel)), (B_w (B_add cqb_0_0_0 cqb_1_1_1 (by decide +kernel) (by decide +kernel)) (by decide +kernel) (by decide +kernel)), rfl⟩ (by show (2 - ((0 : Int32) + 1).toInt).toNat < ((2 : Int) - 0).toNat; omega)
    · refine ⟨(show ¬ ((39 : Nat) = NU) from by decide +kernel), ?_⟩
      refine ⟨(show c_cl UL 39 = 5 from cl_39), ?_⟩
      refine ⟨(show ¬ ((45 : Nat) = NU) from by decide +kernel), ?_⟩
      refine ⟨(show c_cl UL 45 = 950 from cl_45), ?_⟩
      refine ⟨(show vp_in (1) 2 from vp_B cqb_1_1_1 (by decide +kernel) (by decide +kernel)), ?_⟩
      refine ⟨(show ¬ ((52 : Nat) = NU) from by decide +kernel), ?_⟩
      refine ⟨(show c_cl UL 52 = 5 from cl_52), ?_⟩
      have e62 : (((1 : Int32) + 1)).toInt = 2 := by decide +kernel
      exact hR4 ⟨(B_w (B_any _) (by decide +kernel) (by decide +kernel)), (B_w (B_add cqb_1_1_1 cqb_1_1_1 (by decide +kernel) (by decide +kernel)) (by decide +kernel) (by decide +kernel)), rfl⟩ (by show (2 - ((1 : Int32) + 1).toInt).toNat < ((2 : Int) - 1).toNat; omega)
set_option maxRecDepth 20000 in
set_option maxHeartbeats 4000000 in
theorem h_Pa_writeScan_u4 {a : Bool} {b : Bool} {P : Nat → Nat → Nat} {F : cF} {L : cL} {K : cs → Prop} (hI : IMc F) (hK : ∀ {Z : cF} {LZ : cL}, IMc Z → agc [501] [6, 999] F Z → K (Z, LZ, PC a b P)) : p_Pa_writeScan UL 4 (F, L, PC a b P) K := by
  unfold p_Pa_writeScan
  refine h_Pa_addMark_u4 hI (fun {FS4_1} {LFS4_1} hI2 g3 => ?_)
  refine ⟨(show ¬ ((5 : Nat) = NU) from by decide +kernel), ?_⟩
  refine ⟨(show ¬ ((12 : Nat) = NU) from by decide +kernel), ?_⟩
  refine ⟨(show c_cl UL 12 = 7 from cl_12), ?_⟩
  refine ⟨(show c_cl UL 5 = 9 from cl_5), ?_⟩
  refine h_Ro_addTwo_u5 hI2 (fun {FS23_4} {LFS23_4} hI5 g6 => ?_)
  refine ⟨(show ¬ ((5 : Nat) = NU) from by decide +kernel), ?_⟩
  refine ⟨(show ¬ ((12 : Nat) = NU) from by decide +kernel), ?_⟩
  refine ⟨(show c_cl UL 12 = 7 from cl_12), ?_⟩
  refine ⟨(show c_cl UL 5 = 9 from cl_5), ?_⟩
  refine h_Ro_add_u5 hI5 (fun {FS37_7} {LFS37_7} hI8 g9 => ?_)
  refine ⟨fun yx1 yS => B 0 3 yx1 ∧ ∃ (T11 : cF) (LT11 : cL), yS = (T11, LT11, PC a b P) ∧ IMc T11 ∧ agc [501] [6, 999] FS37_7 T11, fun yx1 yS => (3 - yx1.toInt).toNat, ⟨(B_w cqb_0_0_0 (by decide +kernel) (by decide +kernel)), _, _, rfl, hI8, (agc_refl (fs := [501]) (rs := [6, 999]) (F := FS37_7))⟩, fun x1_10 ST11 hIv => ?_⟩
  obtain ⟨b12, T11, LT11, rfl, hI13, g14⟩ := hIv
  suffices hs : ∀ (R42 : Int32 → cs → Prop), (∀ zx1 zS, (B 0 3 zx1 ∧ ∃ (T11 : cF) (LT11 : cL), zS = (T11, LT11, PC a b P) ∧ IMc T11 ∧ agc [501] [6, 999] FS37_7 T11) → (3 - zx1.toInt).toNat < (3 - x1_10.toInt).toNat → R42 zx1 zS) → b_Pa_writeScan_42 UL 4 x1_10 (T11, LT11, PC a b P) R42 K from hs _ (fun _ _ h1 h2 => ⟨h1, h2⟩)
  intro R42 hR420
  have hR42 := fun {zx1} {zS} => hR420 zx1 zS
  unfold b_Pa_writeScan_42
  refine ⟨(show ¬ ((12 : Nat) = NU) from by decide +kernel), ?_⟩
  refine ⟨(show c_cl UL 12 = 7 from cl_12), ?_⟩
  refine ⟨fun hc => ?_, fun hc => ?_⟩
  · have hq15 := hc
    have b16 : B 1 3 (x1_10) := B_w (B_leR (B_eq ((((g14.1 12 2 rfl rfl).trans (g9.1 12 2 rfl rfl)).trans (g6.1 12 2 rfl rfl)).trans (g3.1 12 2 rfl rfl)) (show B 1 3 (F 12 2) from hI 12 2)) b12 hq15) (by decide +kernel) (by decide +kernel)
    have q17 : (1) ≤ (F 12 2).toInt ∧ (F 12 2).toInt ≤ (3) := (show B 1 3 (F 12 2) from hI 12 2)
    have e18 : (T11 12 2).toInt = (F 12 2).toInt := (congrArg Int32.toInt ((((g14.1 12 2 rfl rfl).trans (g9.1 12 2 rfl rfl)).trans (g6.1 12 2 rfl rfl)).trans (g3.1 12 2 rfl rfl))).trans rfl
    have q19 : (1) ≤ (x1_10).toInt ∧ (x1_10).toInt ≤ (3) := (show B 1 3 (x1_10) from B_w b16 (by decide +kernel) (by decide +kernel))
    have i20 : (T11 12 2).toInt ≤ (x1_10).toInt := i_le hq15
    refine ⟨(show ¬ ((5 : Nat) = NU) from by decide +kernel), ?_⟩
    refine ⟨(show c_cl UL 5 = 9 from cl_5), ?_⟩
    refine h_Ro_add_u5 hI13 (fun {FS88_21} {LFS88_21} hI22 g23 => ?_)
    refine ⟨(show ¬ ((5 : Nat) = NU) from by decide +kernel), ?_⟩
    refine ⟨(show c_cl UL 5 = 9 from cl_5), ?_⟩
    refine h_Ro_add_u5 hI22 (fun {FS97_24} {LFS97_24} hI25 g26 => ?_)
    refine ⟨(show ¬ ((5 : Nat) = NU) from by decide +kernel), ?_⟩
    refine ⟨(show c_cl UL 5 = 9 from cl_5), ?_⟩
    refine h_Ro_add_u5 hI25 (fun {FS105_27} {LFS105_27} hI28 g29 => ?_)
    have g36 := agc_tr (agc_refl (fs := [501]) (rs := [6, 999]) (F := F)) g3 (by decide +kernel) (by decide +kernel)
    have g35 := agc_tr g36 g6 (by decide +kernel) (by decide +kernel)
    have g34 := agc_tr g35 g9 (by decide +kernel) (by decide +kernel)
    have g33 := agc_tr g34 g14 (by decide +kernel) (by decide +kernel)
    have g32 := agc_tr g33 g23 (by decide +kernel) (by decide +kernel)
    have g31 := agc_tr g32 g26 (by decide +kernel) (by decide +kernel)
    have g30 := agc_tr g31 g29 (by decide +kernel) (by decide +kernel)
    exact hK hI28 g30
  · have hq37 := (nle_lt hc)
    have b38 : B 0 2 (x1_10) := B_w (B_ltL b12 (B_eq ((((g14.1 12 2 rfl rfl).trans (g9.1 12 2 rfl rfl)).trans (g6.1 12 2 rfl rfl)).trans (g3.1 12 2 rfl rfl)) (show B 1 3 (F 12 2) from hI 12 2)) hq37) (by decide +kernel) (by decide +kernel)
    have q39 : (0) ≤ (x1_10).toInt ∧ (x1_10).toInt ≤ (2) := (show B 0 2 (x1_10) from B_w b38 (by decide +kernel) (by decide +kernel))
    have q40 : (1) ≤ (F 12 2).toInt ∧ (F 12 2).toInt ≤ (3) := (show B 1 3 (F 12 2) from hI 12 2)
    have e41 : (T11 12 2).toInt = (F 12 2).toInt := (congrArg Int32.toInt ((((g14.1 12 2 rfl rfl).trans (g9.1 12 2 rfl rfl)).trans (g6.1 12 2 rfl rfl)).trans (g3.1 12 2 rfl rfl))).trans rfl
    have i42 : (x1_10).toInt < (T11 12 2).toInt := i_lt hq37
    refine ⟨(show ¬ ((5 : Nat) = NU) from by decide +kernel), ?_⟩
    refine ⟨(show c_cl UL 5 = 9 from cl_5), ?_⟩
    refine h_Ro_add_u5 hI13 (fun {FS60_43} {LFS60_43} hI44 g45 => ?_)
    refine ⟨(show ¬ ((5 : Nat) = NU) from by decide +kernel), ?_⟩
    refine h_Pa_kindOf  (fun {v70_46} b47 => ?_)
    refine ⟨(show c_cl UL 5 = 9 from cl_5), ?_⟩
    refine h_Ro_add_u5 hI44 (fun {FS74_48} {LFS74_48} hI49 g50 => ?_)
    have g53 := agc_tr (agc_refl (fs := [501]) (rs := [6, 999]) (F := FS37_7)) g14 (by decide +kernel) (by decide +kernel)
    have g52 := agc_tr g53 g45 (by decide +kernel) (by decide +kernel)
    have g51 := agc_tr g52 g50 (by decide +kernel) (by decide +kernel)
    have e54 : (x1_10 + 1).toInt = ((x1_10).toInt + 1) := (t_add b38 cqb_1_1_1 (by decide +kernel) (by decide +kernel)).trans (by rw [cqn_1])
    have q55 : (1) ≤ (x1_10 + 1).toInt ∧ (x1_10 + 1).toInt ≤ (3) := (show B 1 3 (x1_10 + 1) from B_w (B_add b38 cqb_1_1_1 (by decide +kernel) (by decide +kernel)) (by decide +kernel) (by decide +kernel))
    exact hR42 ⟨(B_w (B_add b38 cqb_1_1_1 (by decide +kernel) (by decide +kernel)) (by decide +kernel) (by decide +kernel)), _, _, rfl, hI49, g51⟩ (by show (3 - (x1_10 + 1).toInt).toNat < (3 - x1_10.toInt).toNat; omega)
set_option maxRecDepth 20000 in
set_option maxHeartbeats 4000000 in
theorem h_Pa_write_u4_x13 {a : Bool} {b : Bool} {P : Nat → Nat → Nat} {x2 : Int32} {F : cF} {L : cL} {K : cs → Prop} (b_x2 : B 0 65535 x2) (hI : IMc F) (pre0 : UPs 22 F) (hK : ∀ {Z : cF} {LZ : cL}, IMc Z → agc [410, 411, 501] [6, 34, 40, 47, 53, 58, 999] F Z → K (Z, LZ, PC a b P)) : p_Pa_write UL 4 3 x2 (F, L, PC a b P) K := by
  unfold p_Pa_write
  refine ⟨(show ¬ ((5 : Nat) = NU) from by decide +kernel), ?_⟩
  refine ⟨(show c_cl UL 5 = 9 from cl_5), ?_⟩
  have hI1 := IMc_u (u := 5) (i := 1) (v := 0) hI (show B 0 65536 (0) from (B_w cqb_0_0_0 (by decide +kernel) (by decide +kernel)))
  refine h_Pa_addMark_u4 hI1 (fun {FS12_2} {LFS12_2} hI3 g4 => ?_)
  refine h_Pa_writeTables_u4_x13 hI3 (fun {FS17_5} {LFS17_5} hI6 g7 => ?_)
  refine h_Pa_writeFrame_u4 hI6 (fun {FS21_8} {LFS21_8} hI9 g10 => ?_)
  refine h_Pa_writeCodes_u4 hI9 (fun {FS25_11} {LFS25_11} hI12 g13 => ?_)
  refine ⟨fun hc => ?_, fun hc => ?_⟩
  · have hq14 := hc
    have b15 : B 0 0 (x2) := B_w (B_leL b_x2 cqb_0_0_0 hq14) (by decide +kernel) (by decide +kernel)
    unfold b_Pa_write_55
    refine h_Pa_writeScan_u4 hI12 (fun {FS56_16} {LFS56_16} hI17 g18 => ?_)
    refine h_Pa_writeData_u4 (B_w b15 (by decide +kernel) (by decide +kernel)) hI17 (UPs_tr (F := F) (G := FS56_16) pre0 (((((g18.1 22 5 rfl rfl).trans (g13.1 22 5 rfl rfl)).trans (g10.1 22 5 rfl rfl)).trans (g7.1 22 5 rfl rfl)).trans (g4.1 22 5 rfl rfl)) (((((g18.1 22 4 rfl rfl).trans (g13.1 22 4 rfl rfl)).trans (g10.1 22 4 rfl rfl)).trans (g7.1 22 4 rfl rfl)).trans (g4.1 22 4 rfl rfl)) (((((g18.1 22 6 rfl rfl).trans (g13.1 22 6 rfl rfl)).trans (g10.1 22 6 rfl rfl)).trans (g7.1 22 6 rfl rfl)).trans (g4.1 22 6 rfl rfl))) (fun {FS61_19} {LFS61_19} hI20 g21 => ?_)
    refine h_Pa_addMark_u4 hI20 (fun {FS68_22} {LFS68_22} hI23 g24 => ?_)
    have g32 := agc_f (u := 5) (k := 1) (v := 0) (agc_refl (fs := [410, 411, 501]) (rs := [6, 34, 40, 47, 53, 58, 999]) (F := F)) rfl (by decide +kernel)
    have g31 := agc_tr g32 g4 (by decide +kernel) (by decide +kernel)
    have g30 := agc_tr g31 g7 (by decide +kernel) (by decide +kernel)
    have g29 := agc_tr g30 g10 (by decide +kernel) (by decide +kernel)
    have g28 := agc_tr g29 g13 (by decide +kernel) (by decide +kernel)
    have g27 := agc_tr g28 g18 (by decide +kernel) (by decide +kernel)
    have g26 := agc_tr g27 g21 (by decide +kernel) (by decide +kernel)
    have g25 := agc_tr g26 g24 (by decide +kernel) (by decide +kernel)
    exact hK hI23 g25
  · have hq33 := (nle_lt hc)
    have b34 : B 1 65535 (x2) := B_w (B_ltR cqb_0_0_0 b_x2 hq33) (by decide +kernel) (by decide +kernel)
    refine h_Pa_addMark_u4 hI12 (fun {FS36_35} {LFS36_35} hI36 g37 => ?_)
    refine ⟨(show ¬ ((5 : Nat) = NU) from by decide +kernel), ?_⟩
    refine ⟨(show c_cl UL 5 = 9 from cl_5), ?_⟩
    refine h_Ro_addTwo_u5 hI36 (fun {FS44_38} {LFS44_38} hI39 g40 => ?_)
    refine ⟨(show ¬ ((5 : Nat) = NU) from by decide +kernel), ?_⟩
    refine ⟨(show c_cl UL 5 = 9 from cl_5), ?_⟩
    refine h_Ro_addTwo_u5 hI39 (fun {FS52_41} {LFS52_41} hI42 g43 => ?_)
    unfold b_Pa_write_55
    refine h_Pa_writeScan_u4 hI42 (fun {FS56_44} {LFS56_44} hI45 g46 => ?_)
    refine h_Pa_writeData_u4 (B_w b34 (by decide +kernel) (by decide +kernel)) hI45 (UPs_tr (F := F) (G := FS56_44) pre0 ((((((((g46.1 22 5 rfl rfl).trans (g43.1 22 5 rfl rfl)).trans (g40.1 22 5 rfl rfl)).trans (g37.1 22 5 rfl rfl)).trans (g13.1 22 5 rfl rfl)).trans (g10.1 22 5 rfl rfl)).trans (g7.1 22 5 rfl rfl)).trans (g4.1 22 5 rfl rfl)) ((((((((g46.1 22 4 rfl rfl).trans (g43.1 22 4 rfl rfl)).trans (g40.1 22 4 rfl rfl)).trans (g37.1 22 4 rfl rfl)).trans (g13.1 22 4 rfl rfl)).trans (g10.1 22 4 rfl rfl)).trans (g7.1 22 4 rfl rfl)).trans (g4.1 22 4 rfl rfl)) ((((((((g46.1 22 6 rfl rfl).trans (g43.1 22 6 rfl rfl)).trans (g40.1 22 6 rfl rfl)).trans (g37.1 22 6 rfl rfl)).trans (g13.1 22 6 rfl rfl)).trans (g10.1 22 6 rfl rfl)).trans (g7.1 22 6 rfl rfl)).trans (g4.1 22 6 rfl rfl))) (fun {FS61_47} {LFS61_47} hI48 g49 => ?_)
    refine h_Pa_addMark_u4 hI48 (fun {FS68_50} {LFS68_50} hI51 g52 => ?_)
    have g63 := agc_f (u := 5) (k := 1) (v := 0) (agc_refl (fs := [410, 411, 501]) (rs := [6, 34, 40, 47, 53, 58, 999]) (F := F)) rfl (by decide +kernel)
    have g62 := agc_tr g63 g4 (by decide +kernel) (by decide +kernel)
    have g61 := agc_tr g62 g7 (by decide +kernel) (by decide +kernel)
    have g60 := agc_tr g61 g10 (by decide +kernel) (by decide +kernel)
    have g59 := agc_tr g60 g13 (by decide +kernel) (by decide +kernel)
    have g58 := agc_tr g59 g37 (by decide +kernel) (by decide +kernel)
    have g57 := agc_tr g58 g40 (by decide +kernel) (by decide +kernel)
    have g56 := agc_tr g57 g43 (by decide +kernel) (by decide +kernel)
    have g55 := agc_tr g56 g46 (by decide +kernel) (by decide +kernel)
    have g54 := agc_tr g55 g49 (by decide +kernel) (by decide +kernel)
    have g53 := agc_tr g54 g52 (by decide +kernel) (by decide +kernel)
    exact hK hI51 g53
