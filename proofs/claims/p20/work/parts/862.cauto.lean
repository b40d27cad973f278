set_option maxRecDepth 20000 in
set_option maxHeartbeats 4000000 in
theorem h_Pi_drawBlock_u63_x17 {a : Bool} {b : Bool} {P : Nat → Nat → Nat} {x2 : Int32} {x3 : Int32} {x4 : Int32} {F : cF} {L : cL} {K : cs → Prop} (b_x2 : B 0 2 x2) (b_x3 : B 0 56 x3) (b_x4 : B 0 56 x4) (hI : IMc F) (hK : ∀ {Z : cF} {LZ : cL}, IMc Z → agc [] [9, 10, 72, 999] F Z → K (Z, LZ, PC a b P)) : p_Pi_drawBlock UL 63 7 x2 x3 x4 (F, L, PC a b P) K := by
  unfold p_Pi_drawBlock
  refine ⟨(show ¬ ((68 : Nat) = NU) from by decide +kernel), ?_⟩
  refine ⟨(show c_cl UL 68 = 902 from cl_68), ?_⟩
  refine ⟨(show vp_in (x2) 3 from vp_B b_x2 (by decide +kernel) (by decide +kernel)), ?_⟩
  refine ⟨fun yx1 yx2 yx3 yx4 yx5 yx6 yS => (7 : Nat) = yx1 ∧ x2 = yx2 ∧ x3 = yx3 ∧ x4 = yx4 ∧ ((4096 * x2) + (64 * (((x4 / 8) * (F 68 x2.toNatClampNeg)) + (x3 / 8)))) = yx5 ∧ B 0 64 yx6 ∧ ∃ (T7 : cF) (LT7 : cL), yS = (T7, LT7, PC a b P) ∧ IMc T7 ∧ agc [] [10] F T7, fun yx1 yx2 yx3 yx4 yx5 yx6 yS => (64 - yx6.toInt).toNat, ⟨rfl, rfl, rfl, rfl, rfl, (B_w cqb_0_0_0 (by decide +kernel) (by decide +kernel)), _, _, rfl, hI, (agc_refl (fs := []) (rs := [10]) (F := F))⟩, fun x1_1 x2_2 x3_3 x4_4 x5_5 x6_6 ST7 hIv => ?_⟩
  obtain ⟨rfl, rfl, rfl, rfl, rfl, b8, T7, LT7, rfl, hI9, g10⟩ := hIv
  suffices hs : ∀ (R31 : Nat → Int32 → Int32 → Int32 → Int32 → Int32 → cs → Prop), (∀ zx1 zx2 zx3 zx4 zx5 zx6 zS, ((7 : Nat) = zx1 ∧ x2 = zx2 ∧ x3 = zx3 ∧ x4 = zx4 ∧ ((4096 * x2) + (64 * (((x4 / 8) * (F 68 x2.toNatClampNeg)) + (x3 / 8)))) = zx5 ∧ B 0 64 zx6 ∧ ∃ (T7 : cF) (LT7 : cL), zS = (T7, LT7, PC a b P) ∧ IMc T7 ∧ agc [] [10] F T7) → (64 - zx6.toInt).toNat < (64 - x6_6.toInt).toNat → R31 zx1 zx2 zx3 zx4 zx5 zx6 zS) → b_Pi_drawBlock_31 UL 63 7 x2 x3 x4 ((4096 * x2) + (64 * (((x4 / 8) * (F 68 x2.toNatClampNeg)) + (x3 / 8)))) x6_6 (T7, LT7, PC a b P) R31 K from hs _ (fun _ _ _ _ _ _ _ h1 h2 => ⟨h1, h2⟩)
  intro R31 hR310
  have hR31 := fun {zx1} {zx2} {zx3} {zx4} {zx5} {zx6} {zS} => hR310 zx1 zx2 zx3 zx4 zx5 zx6 zS
  unfold b_Pi_drawBlock_31
  refine ⟨fun hc => ?_, fun hc => ?_⟩
  · have hq11 := hc
    have b12 : B 64 64 (x6_6) := B_w (B_leR cqb_64_64_64 b8 hq11) (by decide +kernel) (by decide +kernel)
    refine ⟨(show c_cl UL 7 = 12 from cl_7), ?_⟩
    refine h_Wa_makeSamples_u7 hI9 (fun {FS79_13} {LFS79_13} hI14 g15 => ?_)
    refine ⟨fun yx1 yx2 yx3 yx4 yx6 yS => (7 : Nat) = yx1 ∧ x2 = yx2 ∧ x3 = yx3 ∧ x4 = yx4 ∧ B 0 64 yx6 ∧ ∃ (T21 : cF) (LT21 : cL), yS = (T21, LT21, PC a b P) ∧ IMc T21 ∧ agc [] [72] FS79_13 T21, fun yx1 yx2 yx3 yx4 yx6 yS => (64 - yx6.toInt).toNat, ⟨rfl, rfl, rfl, rfl, (B_w cqb_0_0_0 (by decide +kernel) (by decide +kernel)), _, _, rfl, hI14, (agc_refl (fs := []) (rs := [72]) (F := FS79_13))⟩, fun x1_16 x2_17 x3_18 x4_19 x6_20 ST21 hIv => ?_⟩
    obtain ⟨rfl, rfl, rfl, rfl, b22, T21, LT21, rfl, hI23, g24⟩ := hIv
    suffices hs : ∀ (R85 : Nat → Int32 → Int32 → Int32 → Int32 → cs → Prop), (∀ zx1 zx2 zx3 zx4 zx6 zS, ((7 : Nat) = zx1 ∧ x2 = zx2 ∧ x3 = zx3 ∧ x4 = zx4 ∧ B 0 64 zx6 ∧ ∃ (T21 : cF) (LT21 : cL), zS = (T21, LT21, PC a b P) ∧ IMc T21 ∧ agc [] [72] FS79_13 T21) → (64 - zx6.toInt).toNat < (64 - x6_20.toInt).toNat → R85 zx1 zx2 zx3 zx4 zx6 zS) → b_Pi_drawBlock_85 UL 63 7 x2 x3 x4 x6_20 (T21, LT21, PC a b P) R85 K from hs _ (fun _ _ _ _ _ _ h1 h2 => ⟨h1, h2⟩)
    intro R85 hR850
    have hR85 := fun {zx1} {zx2} {zx3} {zx4} {zx6} {zS} => hR850 zx1 zx2 zx3 zx4 zx6 zS
    unfold b_Pi_drawBlock_85
    refine ⟨fun hc => ?_, fun hc => ?_⟩
    · have hq25 := hc
      have b26 : B 64 64 (x6_20) := B_w (B_leR cqb_64_64_64 b22 hq25) (by decide +kernel) (by decide +kernel)
      have g29 := agc_tr (agc_refl (fs := []) (rs := [9, 10, 72, 999]) (F := F)) g10 (by decide +kernel) (by decide +kernel)
      have g28 := agc_tr g29 g15 (by decide +kernel) (by decide +kernel)
      have g27 := agc_tr g28 g24 (by decide +kernel) (by decide +kernel)
      exact hK hI23 g27
    · have hq30 := (nle_lt hc)
      have b31 : B 0 63 (x6_20) := B_w (B_ltL b22 cqb_64_64_64 hq30) (by decide +kernel) (by decide +kernel)
      refine ⟨(show ¬ ((72 : Nat) = NU) from by decide +kernel), ?_⟩
      try unfold p_B_spot
      refine ⟨(show c_cl UL 7 = 12 from cl_7), ?_⟩
      refine ⟨(show ¬ ((9 : Nat) = NU) from by decide +kernel), ?_⟩
      refine ⟨(show c_cl UL 9 = 902 from cl_9), ?_⟩
      refine ⟨(show vp_in (x6_20) 64 from vp_B b31 (by decide +kernel) (by decide +kernel)), ?_⟩
      refine ⟨(show c_cl UL 72 = 902 from cl_72), ?_⟩
      refine ⟨(show vp_in (((4096 * x2) + (64 * (x4 + (x6_20 / 8)))) + (x3 + (x6_20 - ((x6_20 / 8) * 8)))) 12288 from vp_B (B_add (B_add (B_mul cqb_4096_4096_4096 b_x2 (by decide +kernel) (by decide +kernel) (by decide +kernel)) (B_mul cqb_64_64_64 (B_add b_x4 (show B 0 7 (x6_20 / 8) from B_div2 b31 cqb_8_8_8 (by decide +kernel) (by decide +kernel) (by decide +kernel) (by decide +kernel)) (by decide +kernel) (by decide +kernel)) (by decide +kernel) (by decide +kernel) (by decide +kernel)) (by decide +kernel) (by decide +kernel)) (B_add b_x3 (B_rem b31 cqb_8_8_8 (by decide +kernel) (by decide +kernel)) (by decide +kernel) (by decide +kernel)) (by decide +kernel) (by decide +kernel)) (by decide +kernel) (by decide +kernel)), ?_⟩
      have hI32 := IMc_u (u := 72) (i := (((4096 * x2) + (64 * (x4 + (x6_20 / 8)))) + (x3 + (x6_20 - ((x6_20 / 8) * 8)))).toNatClampNeg) (v := T21 9 x6_20.toNatClampNeg) hI23 (show B (-2147483648) 2147483647 (T21 9 x6_20.toNatClampNeg) from (B_w (B_eq (congrFun (g24.2 9 rfl rfl) x6_20.toNatClampNeg) (B_any _)) (by decide +kernel) (by decide +kernel)))
      have g34 := agc_tr (agc_refl (fs := []) (rs := [72]) (F := FS79_13)) g24 (by decide +kernel) (by decide +kernel)
      have g33 := agc_r (u := 72) (w := upd (T21 72) (((4096 * x2) + (64 * (x4 + (x6_20 / 8)))) + (x3 + (x6_20 - ((x6_20 / 8) * 8)))).toNatClampNeg (T21 9 x6_20.toNatClampNeg)) g34 rfl (by decide +kernel)
      have q35 : (0) ≤ (x6_20).toInt ∧ (x6_20).toInt ≤ (63) := (show B 0 63 (x6_20) from B_w b31 (by decide +kernel) (by decide +kernel))
      have e36 : (x6_20 + 1).toInt = ((x6_20).toInt + 1) := (t_add b31 cqb_1_1_1 (by decide +kernel) (by decide +kernel)).trans (by rw [cqn_1])
      have q37 : (1) ≤ (x6_20 + 1).toInt ∧ (x6_20 + 1).toInt ≤ (64) := (show B 1 64 (x6_20 + 1) from B_w (B_add b31 cqb_1_1_1 (by decide +kernel) (by decide +kernel)) (by decide +kernel) (by decide +kernel))
      exact hR85 ⟨rfl, rfl, rfl, rfl, (B_w (B_add b31 cqb_1_1_1 (by decide +kernel) (by decide +kernel)) (by decide +kernel) (by decide +kernel)), _, _, rfl, hI32, g33⟩ (by show (64 - (x6_20 + 1).toInt).toNat < (64 - x6_20.toInt).toNat; omega)
  · have hq38 := (nle_lt hc)
    have b39 : B 0 63 (x6_6) := B_w (B_ltL b8 cqb_64_64_64 hq38) (by decide +kernel) (by decide +kernel)
    refine ⟨(show c_cl UL 7 = 12 from cl_7), ?_⟩
    refine ⟨(show ¬ ((10 : Nat) = NU) from by decide +kernel), ?_⟩
    refine ⟨(show vp_in (x6_6) 64 from vp_B b39 (by decide +kernel) (by decide +kernel)), ?_⟩
    refine ⟨(show ¬ ((70 : Nat) = NU) from by decide +kernel), ?_⟩
    refine ⟨(show c_cl UL 70 = 902 from cl_70), ?_⟩
    refine ⟨(show vp_in (((4096 * x2) + (64 * (((x4 / 8) * (F 68 x2.toNatClampNeg)) + (x3 / 8)))) + x6_6) 12288 from vp_B (B_add (B_add (B_mul cqb_4096_4096_4096 b_x2 (by decide +kernel) (by decide +kernel) (by decide +kernel)) (B_mul cqb_64_64_64 (B_add (B_mul (show B 0 7 (x4 / 8) from B_div2 b_x4 cqb_8_8_8 (by decide +kernel) (by decide +kernel) (by decide +kernel) (by decide +kernel)) (show B 0 8 (F 68 x2.toNatClampNeg) from hI 68 x2.toNatClampNeg) (by decide +kernel) (by decide +kernel) (by decide +kernel)) (show B 0 7 (x3 / 8) from B_div2 b_x3 cqb_8_8_8 (by decide +kernel) (by decide +kernel) (by decide +kernel) (by decide +kernel)) (by decide +kernel) (by decide +kernel)) (by decide +kernel) (by decide +kernel) (by decide +kernel)) (by decide +kernel) (by decide +kernel)) b39 (by decide +kernel) (by decide +kernel)) (by decide +kernel) (by decide +kernel)), ?_⟩
    refine ⟨(show ¬ ((71 : Nat) = NU) from by decide +kernel), ?_⟩
    refine ⟨(show c_cl UL 71 = 902 from cl_71), ?_⟩
    refine ⟨(show vp_in ((64 * x2) + x6_6) 192 from vp_B (B_add (B_mul cqb_64_64_64 b_x2 (by decide +kernel) (by decide +kernel) (by decide +kernel)) b39 (by decide +kernel) (by decide +kernel)) (by decide +kernel) (by decide +kernel)), ?_⟩
    refine ⟨(show c_cl UL 10 = 902 from cl_10), ?_⟩
    refine ⟨(show vp_in (rw_at row_sl x6_6.toNatClampNeg) 64 from vp_B (B_sl _) (by decide +kernel) (by decide +kernel)), ?_⟩
    have hI40 := IMc_u (u := 10) (i := (rw_at row_sl x6_6.toNatClampNeg).toNatClampNeg) (v := (T7 70 (((4096 * x2) + (64 * (((x4 / 8) * (F 68 x2.toNatClampNeg)) + (x3 / 8)))) + x6_6).toNatClampNeg) * (T7 71 ((64 * x2) + x6_6).toNatClampNeg)) hI9 (show B (-2147483648) 2147483647 ((T7 70 (((4096 * x2) + (64 * (((x4 / 8) * (F 68 x2.toNatClampNeg)) + (x3 / 8)))) + x6_6).toNatClampNeg) * (T7 71 ((64 * x2) + x6_6).toNatClampNeg)) from (B_w (B_any _) (by decide +kernel) (by decide +kernel)))
    have g42 := agc_tr (agc_refl (fs := []) (rs := [10]) (F := F)) g10 (by decide +kernel) (by decide +kernel)
    have g41 := agc_r (u := 10) (w := upd (T7 10) (rw_at row_sl x6_6.toNatClampNeg).toNatClampNeg ((T7 70 (((4096 * x2) + (64 * (((x4 / 8) * (F 68 x2.toNatClampNeg)) + (x3 / 8)))) + x6_6).toNatClampNeg) * (T7 71 ((64 * x2) + x6_6).toNatClampNeg))) g42 rfl (by decide +kernel)
    have q43 : (0) ≤ (x6_6).toInt ∧ (x6_6).toInt ≤ (63) := (show B 0 63 (x6_6) from B_w b39 (by decide +kernel) (by decide +kernel))
    have e44 : (x6_6 + 1).toInt = ((x6_6).toInt + 1) := (t_add b39 cqb_1_1_1 (by decide +kernel) (by decide +kernel)).trans (by rw [cqn_1])
    have q45 : (1) ≤ (x6_6 + 1).toInt ∧ (x6_6 + 1).toInt ≤ (64) := (show B 1 64 (x6_6 + 1) from B_w (B_add b39 cqb_1_1_1 (by decide +kernel) (by decide +kernel)) (by decide +kernel) (by decide +kernel))
    exact hR31 ⟨rfl, rfl, rfl, rfl, rfl, (B_w (B_add b39 cqb_1_1_1 (by decide +kernel) (by decide +kernel)) (by decide +kernel) (by decide +kernel)), _, _, rfl, hI40, g41⟩ (by show (64 - (x6_6 + 1).toInt).toNat < (64 - x6_6.toInt).toNat; omega)
set_option maxRecDepth 20000 in
set_option maxHeartbeats 4000000 in
theorem h_Pi_draw_u63_x17 {a : Bool} {b : Bool} {P : Nat → Nat → Nat} {F : cF} {L : cL} {K : cs → Prop} (hI : IMc F) (hK : ∀ {Z : cF} {LZ : cL}, IMc Z → agc [6316] [9, 10, 72, 999] F Z → K (Z, LZ, PC a b P)) : p_Pi_draw UL 63 7 (F, L, PC a b P) K := by
  unfold p_Pi_draw
  refine ⟨fun hc => ?_, fun hc => ?_⟩
  · have b1 : B 0 0 (F 63 16) := B_w (B_eq hc cqb_0_0_0) (by decide +kernel) (by decide +kernel)
    have q2 : (0) ≤ (F 63 16).toInt ∧ (F 63 16).toInt ≤ (0) := (show B 0 0 (F 63 16) from B_w b1 (by decide +kernel) (by decide +kernel))
    have i3 : (F 63 16).toInt = (0 : Int32).toInt := congrArg Int32.toInt hc
    have n4 : (0 : Int32).toInt = 0 := cqn_0
    refine ⟨fun yx1 yx2 yS => (7 : Nat) = yx1 ∧ B 0 3 yx2 ∧ ∃ (T7 : cF) (LT7 : cL), yS = (T7, LT7, PC a b P) ∧ IMc T7 ∧ agc [] [9, 10, 72, 999] F T7, fun yx1 yx2 yS => (3 - yx2.toInt).toNat, ⟨rfl, (B_w cqb_0_0_0 (by decide +kernel) (by decide +kernel)), _, _, rfl, hI, (agc_refl (fs := []) (rs := [9, 10, 72, 999]) (F := F))⟩, fun x1_5 x2_6 ST7 hIv => ?_⟩
    obtain ⟨rfl, b8, T7, LT7, rfl, hI9, g10⟩ := hIv
    suffices hs : ∀ (R10 : Nat → Int32 → cs → Prop), (∀ zx1 zx2 zS, ((7 : Nat) = zx1 ∧ B 0 3 zx2 ∧ ∃ (T7 : cF) (LT7 : cL), zS = (T7, LT7, PC a b P) ∧ IMc T7 ∧ agc [] [9, 10, 72, 999] F T7) → (3 - zx2.toInt).toNat < (3 - x2_6.toInt).toNat → R10 zx1 zx2 zS) → b_Pi_draw_10 UL 63 7 x2_6 (T7, LT7, PC a b P) R10 K from hs _ (fun _ _ _ h1 h2 => ⟨h1, h2⟩)
    intro R10 hR100
    have hR10 := fun {zx1} {zx2} {zS} => hR100 zx1 zx2 zS
    unfold b_Pi_draw_10
    refine ⟨fun hc => ?_, fun hc => ?_⟩
    · have hq11 := hc
      have b12 : B 1 3 (x2_6) := B_w (B_leR (B_eq (g10.1 63 2 rfl rfl) (show B 1 3 (F 63 2) from hI 63 2)) b8 hq11) (by decide +kernel) (by decide +kernel)
      have q13 : (1) ≤ (F 63 2).toInt ∧ (F 63 2).toInt ≤ (3) := (show B 1 3 (F 63 2) from hI 63 2)
      have e14 : (T7 63 2).toInt = (F 63 2).toInt := (congrArg Int32.toInt (g10.1 63 2 rfl rfl)).trans rfl
      have q15 : (1) ≤ (x2_6).toInt ∧ (x2_6).toInt ≤ (3) := (show B 1 3 (x2_6) from B_w b12 (by decide +kernel) (by decide +kernel))
      have i16 : (T7 63 2).toInt ≤ (x2_6).toInt := i_le hq11
      have hI17 := IMc_u (u := 63) (i := 16) (v := 1) hI9 (show B 0 1 (1) from (B_w cqb_1_1_1 (by decide +kernel) (by decide +kernel)))
      have g19 := agc_tr (agc_refl (fs := [6316]) (rs := [9, 10, 72, 999]) (F := F)) g10 (by decide +kernel) (by decide +kernel)
      have g18 := agc_f (u := 63) (k := 16) (v := 1) g19 rfl (by decide +kernel)
      exact hK hI17 g18
    · have hq20 := (nle_lt hc)
      have b21 : B 0 2 (x2_6) := B_w (B_ltL b8 (B_eq (g10.1 63 2 rfl rfl) (show B 1 3 (F 63 2) from hI 63 2)) hq20) (by decide +kernel) (by decide +kernel)
      have q22 : (0) ≤ (x2_6).toInt ∧ (x2_6).toInt ≤ (2) := (show B 0 2 (x2_6) from B_w b21 (by decide +kernel) (by decide +kernel))
      have q23 : (1) ≤ (F 63 2).toInt ∧ (F 63 2).toInt ≤ (3) := (show B 1 3 (F 63 2) from hI 63 2)
      have e24 : (T7 63 2).toInt = (F 63 2).toInt := (congrArg Int32.toInt (g10.1 63 2 rfl rfl)).trans rfl
      have i25 : (x2_6).toInt < (T7 63 2).toInt := i_lt hq20
      refine ⟨fun yx1 yx2 yx3 yS => (7 : Nat) = yx1 ∧ x2_6 = yx2 ∧ B 0 72 yx3 ∧ ∃ (T29 : cF) (LT29 : cL), yS = (T29, LT29, PC a b P) ∧ IMc T29 ∧ agc [] [9, 10, 72, 999] T7 T29 ∧ (yx3.toInt = ((yx3.toInt / 8) * 8)), fun yx1 yx2 yx3 yS => (72 - yx3.toInt).toNat, ⟨rfl, rfl, (B_w cqb_0_0_0 (by decide +kernel) (by decide +kernel)), _, _, rfl, hI9, (agc_refl (fs := []) (rs := [9, 10, 72, 999]) (F := T7)), (by show 0 = ((0 / 8) * 8); first | with_reducible assumption | omega)⟩, fun x1_26 x2_27 x3_28 ST29 hIv => ?_⟩
      obtain ⟨rfl, rfl, b30, T29, LT29, rfl, hI31, g32, r33⟩ := hIv
      suffices hs : ∀ (R20 : Nat → Int32 → Int32 → cs → Prop), (∀ zx1 zx2 zx3 zS, ((7 : Nat) = zx1 ∧ x2_6 = zx2 ∧ B 0 72 zx3 ∧ ∃ (T29 : cF) (LT29 : cL), zS = (T29, LT29, PC a b P) ∧ IMc T29 ∧ agc [] [9, 10, 72, 999] T7 T29 ∧ (zx3.toInt = ((zx3.toInt / 8) * 8))) → (72 - zx3.toInt).toNat < (72 - x3_28.toInt).toNat → R20 zx1 zx2 zx3 zS) → b_Pi_draw_20 UL 63 7 x2_6 x3_28 (T29, LT29, PC a b P) R10 R20 K from hs _ (fun _ _ _ _ h1 h2 => ⟨h1, h2⟩)
      intro R20 hR200
      have hR20 := fun {zx1} {zx2} {zx3} {zS} => hR200 zx1 zx2 zx3 zS
      have q34 : (0) ≤ (x3_28).toInt ∧ (x3_28).toInt ≤ (72) := (show B 0 72 (x3_28) from B_w b30 (by decide +kernel) (by decide +kernel))
      unfold b_Pi_draw_20
      refine ⟨(show ¬ ((67 : Nat) = NU) from by decide +kernel), ?_⟩
      refine ⟨(show c_cl UL 67 = 902 from cl_67), ?_⟩
      refine ⟨(show vp_in (x2_6) 3 from vp_B b21 (by decide +kernel) (by decide +kernel)), ?_⟩
      refine ⟨fun hc => ?_, fun hc => ?_⟩
      · have hq35 := hc
        have q36 : (0) ≤ (F 67 x2_6.toNatClampNeg).toInt ∧ (F 67 x2_6.toNatClampNeg).toInt ≤ (64) := (show B 0 64 (F 67 x2_6.toNatClampNeg) from hI 67 x2_6.toNatClampNeg)
        have e37 : (T29 67 x2_6.toNatClampNeg).toInt = (F 67 x2_6.toNatClampNeg).toInt := (congrArg Int32.toInt ((congrFun (g32.2 67 rfl rfl) x2_6.toNatClampNeg).trans (congrFun (g10.2 67 rfl rfl) x2_6.toNatClampNeg))).trans rfl
        have i38 : (T29 67 x2_6.toNatClampNeg).toInt ≤ (x3_28).toInt := i_le hq35
        have g40 := agc_tr (agc_refl (fs := []) (rs := [9, 10, 72, 999]) (F := F)) g10 (by decide +kernel) (by decide +kernel)
        have g39 := agc_tr g40 g32 (by decide +kernel) (by decide +kernel)
        have e41 : (x2_6 + 1).toInt = ((x2_6).toInt + 1) := (t_add b21 cqb_1_1_1 (by decide +kernel) (by decide +kernel)).trans (by rw [cqn_1])
        have q42 : (1) ≤ (x2_6 + 1).toInt ∧ (x2_6 + 1).toInt ≤ (3) := (show B 1 3 (x2_6 + 1) from B_w (B_add b21 cqb_1_1_1 (by decide +kernel) (by decide +kernel)) (by decide +kernel) (by decide +kernel))
        exact hR10 ⟨rfl, (B_w (B_add b21 cqb_1_1_1 (by decide +kernel) (by decide +kernel)) (by decide +kernel) (by decide +kernel)), _, _, rfl, hI31, g39⟩ (by show (3 - (x2_6 + 1).toInt).toNat < (3 - x2_6.toInt).toNat; omega)
      · have hq43 := (nle_lt hc)
        have b44 : B 0 63 (x3_28) := B_w (B_ltL b30 (B_eq ((congrFun (g32.2 67 rfl rfl) x2_6.toNatClampNeg).trans (congrFun (g10.2 67 rfl rfl) x2_6.toNatClampNeg)) (show B 0 64 (F 67 x2_6.toNatClampNeg) from hI 67 x2_6.toNatClampNeg)) hq43) (by decide +kernel) (by decide +kernel)
        have q45 : (0) ≤ (x3_28).toInt ∧ (x3_28).toInt ≤ (63) := (show B 0 63 (x3_28) from B_w b44 (by decide +kernel) (by decide +kernel))
        have b46 : B 1 64 (F 67 x2_6.toNatClampNeg) := B_w (B_eq (Eq.symm ((congrFun (g32.2 67 rfl rfl) x2_6.toNatClampNeg).trans (congrFun (g10.2 67 rfl rfl) x2_6.toNatClampNeg))) (B_ltR b30 (B_eq ((congrFun (g32.2 67 rfl rfl) x2_6.toNatClampNeg).trans (congrFun (g10.2 67 rfl rfl) x2_6.toNatClampNeg)) (show B 0 64 (F 67 x2_6.toNatClampNeg) from hI 67 x2_6.toNatClampNeg)) hq43)) (by decide +kernel) (by decide +kernel)
        have q47 : (1) ≤ (F 67 x2_6.toNatClampNeg).toInt ∧ (F 67 x2_6.toNatClampNeg).toInt ≤ (64) := (show B 1 64 (F 67 x2_6.toNatClampNeg) from B_w b46 (by decide +kernel) (by decide +kernel))
        have e48 : (T29 67 x2_6.toNatClampNeg).toInt = (F 67 x2_6.toNatClampNeg).toInt := (congrArg Int32.toInt ((congrFun (g32.2 67 rfl rfl) x2_6.toNatClampNeg).trans (congrFun (g10.2 67 rfl rfl) x2_6.toNatClampNeg))).trans rfl
        have i49 : (x3_28).toInt < (T29 67 x2_6.toNatClampNeg).toInt := i_lt hq43
        refine ⟨fun yx1 yx2 yx3 yx4 yS => (7 : Nat) = yx1 ∧ x2_6 = yx2 ∧ x3_28 = yx3 ∧ B 0 72 yx4 ∧ ∃ (T54 : cF) (LT54 : cL), yS = (T54, LT54, PC a b P) ∧ IMc T54 ∧ agc [] [9, 10, 72, 999] T29 T54 ∧ (yx4.toInt = ((yx4.toInt / 8) * 8)), fun yx1 yx2 yx3 yx4 yS => (72 - yx4.toInt).toNat, ⟨rfl, rfl, rfl, (B_w cqb_0_0_0 (by decide +kernel) (by decide +kernel)), _, _, rfl, hI31, (agc_refl (fs := []) (rs := [9, 10, 72, 999]) (F := T29)), (by show 0 = ((0 / 8) * 8); first | with_reducible assumption | omega)⟩, fun x1_50 x2_51 x3_52 x4_53 ST54 hIv => ?_⟩
        obtain ⟨rfl, rfl, rfl, b55, T54, LT54, rfl, hI56, g57, r58⟩ := hIv
        suffices hs : ∀ (R33 : Nat → Int32 → Int32 → Int32 → cs → Prop), (∀ zx1 zx2 zx3 zx4 zS, ((7 : Nat) = zx1 ∧ x2_6 = zx2 ∧ x3_28 = zx3 ∧ B 0 72 zx4 ∧ ∃ (T54 : cF) (LT54 : cL), zS = (T54, LT54, PC a b P) ∧ IMc T54 ∧ agc [] [9, 10, 72, 999] T29 T54 ∧ (zx4.toInt = ((zx4.toInt / 8) * 8))) → (72 - zx4.toInt).toNat < (72 - x4_53.toInt).toNat → R33 zx1 zx2 zx3 zx4 zS) → b_Pi_draw_33 UL 63 7 x2_6 x3_28 x4_53 (T54, LT54, PC a b P) R10 R20 R33 K from hs _ (fun _ _ _ _ _ h1 h2 => ⟨h1, h2⟩)
        intro R33 hR330
        have hR33 := fun {zx1} {zx2} {zx3} {zx4} {zS} => hR330 zx1 zx2 zx3 zx4 zS
        have q59 : (0) ≤ (x4_53).toInt ∧ (x4_53).toInt ≤ (72) := (show B 0 72 (x4_53) from B_w b55 (by decide +kernel) (by decide +kernel))
        unfold b_Pi_draw_33
        refine ⟨(show ¬ ((66 : Nat) = NU) from by decide +kernel), ?_⟩
        refine ⟨(show c_cl UL 66 = 902 from cl_66), ?_⟩
        refine ⟨(show vp_in (x2_6) 3 from vp_B b21 (by decide +kernel) (by decide +kernel)), ?_⟩
        refine ⟨fun hc => ?_, fun hc => ?_⟩
        · have hq60 := hc
          have q61 : (0) ≤ (F 66 x2_6.toNatClampNeg).toInt ∧ (F 66 x2_6.toNatClampNeg).toInt ≤ (64) := (show B 0 64 (F 66 x2_6.toNatClampNeg) from hI 66 x2_6.toNatClampNeg)
          have e62 : (T54 66 x2_6.toNatClampNeg).toInt = (F 66 x2_6.toNatClampNeg).toInt := (congrArg Int32.toInt (((congrFun (g57.2 66 rfl rfl) x2_6.toNatClampNeg).trans (congrFun (g32.2 66 rfl rfl) x2_6.toNatClampNeg)).trans (congrFun (g10.2 66 rfl rfl) x2_6.toNatClampNeg))).trans rfl
          have i63 : (T54 66 x2_6.toNatClampNeg).toInt ≤ (x4_53).toInt := i_le hq60
          have g65 := agc_tr (agc_refl (fs := []) (rs := [9, 10, 72, 999]) (F := T7)) g32 (by decide +kernel) (by decide +kernel)
          have g64 := agc_tr g65 g57 (by decide +kernel) (by decide +kernel)
          have e66 : (x3_28 + 8).toInt = ((x3_28).toInt + 8) := (t_add b44 cqb_8_8_8 (by decide +kernel) (by decide +kernel)).trans (by rw [cqn_8])
          have q67 : (8) ≤ (x3_28 + 8).toInt ∧ (x3_28 + 8).toInt ≤ (71) := (show B 8 71 (x3_28 + 8) from B_w (B_add b44 cqb_8_8_8 (by decide +kernel) (by decide +kernel)) (by decide +kernel) (by decide +kernel))
          exact hR20 ⟨rfl, rfl, (B_w (B_add b44 cqb_8_8_8 (by decide +kernel) (by decide +kernel)) (by decide +kernel) (by decide +kernel)), _, _, rfl, hI56, g64, (by show (x3_28 + 8).toInt = (((x3_28 + 8).toInt / 8) * 8); first | with_reducible assumption | omega)⟩ (by show (72 - (x3_28 + 8).toInt).toNat < (72 - x3_28.toInt).toNat; omega)
        · have hq68 := (nle_lt hc)
          have b69 : B 0 63 (x4_53) := B_w (B_ltL b55 (B_eq (((congrFun (g57.2 66 rfl rfl) x2_6.toNatClampNeg).trans (congrFun (g32.2 66 rfl rfl) x2_6.toNatClampNeg)).trans (congrFun (g10.2 66 rfl rfl) x2_6.toNatClampNeg)) (show B 0 64 (F 66 x2_6.toNatClampNeg) from hI 66 x2_6.toNatClampNeg)) hq68) (by decide +kernel) (by decide +kernel)
          have q70 : (0) ≤ (x4_53).toInt ∧ (x4_53).toInt ≤ (63) := (show B 0 63 (x4_53) from B_w b69 (by decide +kernel) (by decide +kernel))
          have b71 : B 1 64 (F 66 x2_6.toNatClampNeg) := B_w (B_eq (Eq.symm (((congrFun (g57.2 66 rfl rfl) x2_6.toNatClampNeg).trans (congrFun (g32.2 66 rfl rfl) x2_6.toNatClampNeg)).trans (congrFun (g10.2 66 rfl rfl) x2_6.toNatClampNeg))) (B_ltR b55 (B_eq (((congrFun (g57.2 66 rfl rfl) x2_6.toNatClampNeg).trans (congrFun (g32.2 66 rfl rfl) x2_6.toNatClampNeg)).trans (congrFun (g10.2 66 rfl rfl) x2_6.toNatClampNeg)) (show B 0 64 (F 66 x2_6.toNatClampNeg) from hI 66 x2_6.toNatClampNeg)) hq68)) (by decide +kernel) (by decide +kernel)
          have q72 : (1) ≤ (F 66 x2_6.toNatClampNeg).toInt ∧ (F 66 x2_6.toNatClampNeg).toInt ≤ (64) := (show B 1 64 (F 66 x2_6.toNatClampNeg) from B_w b71 (by decide +kernel) (by decide +kernel))
          have e73 : (T54 66 x2_6.toNatClampNeg).toInt = (F 66 x2_6.toNatClampNeg).toInt := (congrArg Int32.toInt (((congrFun (g57.2 66 rfl rfl) x2_6.toNatClampNeg).trans (congrFun (g32.2 66 rfl rfl) x2_6.toNatClampNeg)).trans (congrFun (g10.2 66 rfl rfl) x2_6.toNatClampNeg))).trans rfl
          have i74 : (x4_53).toInt < (T54 66 x2_6.toNatClampNeg).toInt := i_lt hq68
          refine h_Pi_drawBlock_u63_x17 b21 (show B 0 56 (x4_53) from ⟨by omega, by omega⟩) (show B 0 56 (x3_28) from ⟨by omega, by omega⟩) hI56 (fun {FS50_75} {LFS50_75} hI76 g77 => ?_)
          have g79 := agc_tr (agc_refl (fs := []) (rs := [9, 10, 72, 999]) (F := T29)) g57 (by decide +kernel) (by decide +kernel)
          have g78 := agc_tr g79 g77 (by decide +kernel) (by decide +kernel)
          have e80 : (x4_53 + 8).toInt = ((x4_53).toInt + 8) := (t_add b69 cqb_8_8_8 (by decide +kernel) (by decide +kernel)).trans (by rw [cqn_8])
          have q81 : (8) ≤ (x4_53 + 8).toInt ∧ (x4_53 + 8).toInt ≤ (71) := (show B 8 71 (x4_53 + 8) from B_w (B_add b69 cqb_8_8_8 (by decide +kernel) (by decide +kernel)) (by decide +kernel) (by decide +kernel))
          exact hR33 ⟨rfl, rfl, rfl, (B_w (B_add b69 cqb_8_8_8 (by decide +kernel) (by decide +kernel)) (by decide +kernel) (by decide +kernel)), _, _, rfl, hI76, g78, (by show (x4_53 + 8).toInt = (((x4_53 + 8).toInt / 8) * 8); first | with_reducible assumption | omega)⟩ (by show (72 - (x4_53 + 8).toInt).toNat < (72 - x4_53.toInt).toNat; omega)
  · have b82 : B 1 1 (F 63 16) := B_w (B_n0 (show B 0 1 (F 63 16) from hI 63 16) hc) (by decide +kernel) (by decide +kernel)
    exact hK hI (agc_refl (fs := [6316]) (rs := [9, 10, 72, 999]) (F := F))
set_option maxRecDepth 20000 in
set_option maxHeartbeats 4000000 in
theorem h_Pi_layerSample_u63 {a : Bool} {b : Bool} {P : Nat → Nat → Nat} {x1 : Int32} {x2 : Int32} {x3 : Int32} {F : cF} {L : cL} {K : Int32 → cs → Prop} (b_x1 : B 0 2 x1) (b_x2 : B 0 63 x2) (b_x3 : B 0 63 x3) (hI : IMc F) (hK : ∀ {v : Int32}, B (-2147483648) 2147483647 v → K v (F, L, PC a b P)) : p_Pi_layerSample UL 63 x1 x2 x3 (F, L, PC a b P) K := by
  unfold p_Pi_layerSample
  refine ⟨(show ¬ ((64 : Nat) = NU) from by decide +kernel), ?_⟩
  refine ⟨(show c_cl UL 64 = 902 from cl_64), ?_⟩
  refine ⟨(show vp_in (x1) 3 from vp_B b_x1 (by decide +kernel) (by decide +kernel)), ?_⟩
  have hj1 : ∀ {x4_2 : Int32} {s0_3 : Int32}, B 0 63 x4_2 → B 0 63 s0_3 → b_Pi_layerSample_42 UL 63 x1 x4_2 s0_3 (F, L, PC a b P) K := by
    intro x4_2 s0_3 b4 b5
    unfold b_Pi_layerSample_42
    refine ⟨(show ¬ ((72 : Nat) = NU) from by decide +kernel), ?_⟩
    try unfold p_B_spot
    refine ⟨(show c_cl UL 72 = 902 from cl_72), ?_⟩
    refine ⟨(show vp_in (((4096 * x1) + (64 * s0_3)) + x4_2) 12288 from vp_B (B_add (B_add (B_mul cqb_4096_4096_4096 b_x1 (by decide +kernel) (by decide +kernel) (by decide +kernel)) (B_mul cqb_64_64_64 b5 (by decide +kernel) (by decide +kernel) (by decide +kernel)) (by decide +kernel) (by decide +kernel)) b4 (by decide +kernel) (by decide +kernel)) (by decide +kernel) (by decide +kernel)), ?_⟩
    exact hK (B_w (B_any _) (by decide +kernel) (by decide +kernel))
  have hj6 : ∀ {s0_7 : Int32}, B 0 63 s0_7 → b_Pi_layerSample_20 UL 63 x1 x3 s0_7 (F, L, PC a b P) K := by
    intro s0_7 b8
    unfold b_Pi_layerSample_20
    refine ⟨(show ¬ ((65 : Nat) = NU) from by decide +kernel), ?_⟩
    refine ⟨(show c_cl UL 65 = 902 from cl_65), ?_⟩
    refine ⟨(show vp_in (x1) 3 from vp_B b_x1 (by decide +kernel) (by decide +kernel)), ?_⟩
    refine ⟨fun hc => ?_, fun hc => ?_⟩
    · have hq9 := hc
      have q10 : (1) ≤ (F 63 6).toInt ∧ (F 63 6).toInt ≤ (2) := (show B 1 2 (F 63 6) from hI 63 6)
      have q11 : (1) ≤ (F 65 x1.toNatClampNeg).toInt ∧ (F 65 x1.toNatClampNeg).toInt ≤ (2) := (show B 1 2 (F 65 x1.toNatClampNeg) from sB_65 hI b_x1 (by decide +kernel) (by decide +kernel))
      have i12 : (F 63 6).toInt ≤ (F 65 x1.toNatClampNeg).toInt := i_le hq9
      exact hj1 b8 b_x3
    · have hq13 := (nle_lt hc)
      have b14 : B 1 1 (F 65 x1.toNatClampNeg) := B_w (B_ltL (show B 1 2 (F 65 x1.toNatClampNeg) from sB_65 hI b_x1 (by decide +kernel) (by decide +kernel)) (show B 1 2 (F 63 6) from hI 63 6) hq13) (by decide +kernel) (by decide +kernel)
      have b15 : B 2 2 (F 63 6) := B_w (B_ltR (show B 1 2 (F 65 x1.toNatClampNeg) from sB_65 hI b_x1 (by decide +kernel) (by decide +kernel)) (show B 1 2 (F 63 6) from hI 63 6) hq13) (by decide +kernel) (by decide +kernel)
      have q16 : (1) ≤ (F 65 x1.toNatClampNeg).toInt ∧ (F 65 x1.toNatClampNeg).toInt ≤ (1) := (show B 1 1 (F 65 x1.toNatClampNeg) from B_w b14 (by decide +kernel) (by decide +kernel))
      have q17 : (2) ≤ (F 63 6).toInt ∧ (F 63 6).toInt ≤ (2) := (show B 2 2 (F 63 6) from B_w b15 (by decide +kernel) (by decide +kernel))
      have i18 : (F 65 x1.toNatClampNeg).toInt < (F 63 6).toInt := i_lt hq13
      exact hj1 b8 (B_w (show B 0 31 (x3 / 2) from B_div2 b_x3 cqb_2_2_2 (by decide +kernel) (by decide +kernel) (by decide +kernel) (by decide +kernel)) (by decide +kernel) (by decide +kernel))
  refine ⟨fun hc => ?_, fun hc => ?_⟩
  · have hq19 := hc
    have q20 : (1) ≤ (F 63 5).toInt ∧ (F 63 5).toInt ≤ (2) := (show B 1 2 (F 63 5) from hI 63 5)
    have q21 : (1) ≤ (F 64 x1.toNatClampNeg).toInt ∧ (F 64 x1.toNatClampNeg).toInt ≤ (2) := (show B 1 2 (F 64 x1.toNatClampNeg) from sB_64 hI b_x1 (by decide +kernel) (by decide +kernel))
    have i22 : (F 63 5).toInt ≤ (F 64 x1.toNatClampNeg).toInt := i_le hq19
    exact hj6 b_x2
  · have hq23 := (nle_lt hc)
    have b24 : B 1 1 (F 64 x1.toNatClampNeg) := B_w (B_ltL (show B 1 2 (F 64 x1.toNatClampNeg) from sB_64 hI b_x1 (by decide +kernel) (by decide +kernel)) (show B 1 2 (F 63 5) from hI 63 5) hq23) (by decide +kernel) (by decide +kernel)
    have b25 : B 2 2 (F 63 5) := B_w (B_ltR (show B 1 2 (F 64 x1.toNatClampNeg) from sB_64 hI b_x1 (by decide +kernel) (by decide +kernel)) (show B 1 2 (F 63 5) from hI 63 5) hq23) (by decide +kernel) (by decide +kernel)
    have q26 : (1) ≤ (F 64 x1.toNatClampNeg).toInt ∧ (F 64 x1.toNatClampNeg).toInt ≤ (1) := (show B 1 1 (F 64 x1.toNatClampNeg) from B_w b24 (by decide +kernel) (by decide +kernel))
    have q27 : (2) ≤ (F 63 5).toInt ∧ (F 63 5).toInt ≤ (2) := (show B 2 2 (F 63 5) from B_w b25 (by decide +kernel) (by decide +kernel))
    have i28 : (F 64 x1.toNatClampNeg).toInt < (F 63 5).toInt := i_lt hq23
    exact hj6 (B_w (show B 0 31 (x2 / 2) from B_div2 b_x2 cqb_2_2_2 (by decide +kernel) (by decide +kernel) (by decide +kernel) (by decide +kernel)) (by decide +kernel) (by decide +kernel))
set_option maxRecDepth 20000 in
set_option maxHeartbeats 4000000 in
theorem h_Pi_colour_u63 {a : Bool} {b : Bool} {P : Nat → Nat → Nat} {x1 : Int32} {x2 : Int32} {x3 : Int32} {F : cF} {L : cL} {K : Int32 → cs → Prop} (b_x1 : B 0 63 x1) (b_x2 : B 0 63 x2) (hI : IMc F) (hK : ∀ {v : Int32}, B (-2147483648) 2147483647 v → K v (F, L, PC a b P)) : p_Pi_colour UL 63 x1 x2 x3 (F, L, PC a b P) K := by
  unfold p_Pi_colour
  refine h_Pi_layerSample_u63 (B_w cqb_0_0_0 (by decide +kernel) (by decide +kernel)) b_x1 b_x2 hI (fun {v4_1} b3 => ?_)
  refine ⟨fun hc => ?_, fun hc => ?_⟩
  · have q4 : (1) ≤ (F 63 2).toInt ∧ (F 63 2).toInt ≤ (3) := (show B 1 3 (F 63 2) from hI 63 2)
    have i5 : (F 63 2).toInt ≠ (1 : Int32).toInt := i_ne hc
    have n6 : (1 : Int32).toInt = 1 := cqn_1
    refine h_Pi_layerSample_u63 (B_w cqb_1_1_1 (by decide +kernel) (by decide +kernel)) b_x1 b_x2 hI (fun {v24_7} b9 => ?_)
    refine h_Pi_layerSample_u63 (B_w cqb_2_2_2 (by decide +kernel) (by decide +kernel)) b_x1 b_x2 hI (fun {v37_10} b12 => ?_)
    refine ⟨fun hc => ?_, fun hc => ?_⟩
    · have i13 : (x3).toInt ≠ (1 : Int32).toInt := i_ne hc
      have n14 : (1 : Int32).toInt = 1 := cqn_1
      refine ⟨fun hc => ?_, fun hc => ?_⟩
      · have i15 : (x3).toInt ≠ (0 : Int32).toInt := i_ne hc
        have n16 : (0 : Int32).toInt = 0 := cqn_0
        unfold b_Pi_colour_97
        refine h_B_clamp_x10_x2255  (fun {v114_17} b18 => ?_)
        exact hK (B_w b18 (by decide +kernel) (by decide +kernel))
      · have b19 : B 0 0 (x3) := B_w (B_eq hc cqb_0_0_0) (by decide +kernel) (by decide +kernel)
        have q20 : (0) ≤ (x3).toInt ∧ (x3).toInt ≤ (0) := (show B 0 0 (x3) from B_w b19 (by decide +kernel) (by decide +kernel))
        have i21 : (x3).toInt = (0 : Int32).toInt := congrArg Int32.toInt hc
        have n22 : (0 : Int32).toInt = 0 := cqn_0
        unfold b_Pi_colour_97
        refine h_B_clamp_x10_x2255  (fun {v114_23} b24 => ?_)
        exact hK (B_w b24 (by decide +kernel) (by decide +kernel))
    · have b25 : B 1 1 (x3) := B_w (B_eq hc cqb_1_1_1) (by decide +kernel) (by decide +kernel)
      have q26 : (1) ≤ (x3).toInt ∧ (x3).toInt ≤ (1) := (show B 1 1 (x3) from B_w b25 (by decide +kernel) (by decide +kernel))
      have i27 : (x3).toInt = (1 : Int32).toInt := congrArg Int32.toInt hc
      have n28 : (1 : Int32).toInt = 1 := cqn_1
      refine h_B_clamp_x10_x2255  (fun {v76_29} b30 => ?_)
      exact hK (B_w b30 (by decide +kernel) (by decide +kernel))
  · have b31 : B 1 1 (F 63 2) := B_w (B_eq hc cqb_1_1_1) (by decide +kernel) (by decide +kernel)
    have q32 : (1) ≤ (F 63 2).toInt ∧ (F 63 2).toInt ≤ (1) := (show B 1 1 (F 63 2) from B_w b31 (by decide +kernel) (by decide +kernel))
    have i33 : (F 63 2).toInt = (1 : Int32).toInt := congrArg Int32.toInt hc
    have n34 : (1 : Int32).toInt = 1 := cqn_1
    exact hK b3
set_option maxRecDepth 20000 in
set_option maxHeartbeats 4000000 in
theorem h_Pi_drawBlock_u105_x17 {a : Bool} {b : Bool} {P : Nat → Nat → Nat} {x2 : Int32} {x3 : Int32} {x4 : Int32} {F : cF} {L : cL} {K : cs → Prop} (b_x2 : B 0 2 x2) (b_x3 : B 0 56 x3) (b_x4 : B 0 56 x4) (hI : IMc F) (hK : ∀ {Z : cF} {LZ : cL}, IMc Z → agc [] [9, 10, 114, 999] F Z → K (Z, LZ, PC a b P)) : p_Pi_drawBlock UL 105 7 x2 x3 x4 (F, L, PC a b P) K := by
  unfold p_Pi_drawBlock
  refine ⟨(show ¬ ((110 : Nat) = NU) from by decide +kernel), ?_⟩
  refine ⟨(show c_cl UL 110 = 902 from cl_110), ?_⟩
  refine ⟨(show vp_in (x2) 3 from vp_B b_x2 (by decide +kernel) (by decide +kernel)), ?_⟩
  refine ⟨fun yx1 yx2 yx3 yx4 yx5 yx6 yS => (7 : Nat) = yx1 ∧ x2 = yx2 ∧ x3 = yx3 ∧ x4 = yx4 ∧ ((4096 * x2) + (64 * (((x4 / 8) * (F 110 x2.toNatClampNeg)) + (x3 / 8)))) = yx5 ∧ B 0 64 yx6 ∧ ∃ (T7 : cF) (LT7 : cL), yS = (T7, LT7, PC a b P) ∧ IMc T7 ∧ agc [] [10] F T7, fun yx1 yx2 yx3 yx4 yx5 yx6 yS => (64 - yx6.toInt).toNat, ⟨rfl, rfl, rfl, rfl, rfl, (B_w cqb_0_0_0 (by decide +kernel) (by decide +kernel)), _, _, rfl, hI, (agc_refl (fs := []) (rs := [10]) (F := F))⟩, fun x1_1 x2_2 x3_3 x4_4 x5_5 x6_6 ST7 hIv => ?_⟩
  obtain ⟨rfl, rfl, rfl, rfl, rfl, b8, T7, LT7, rfl, hI9, g10⟩ := hIv
  suffices hs : ∀ (R31 : Nat → Int32 → Int32 → Int32 → Int32 → Int32 → cs → Prop), (∀ zx1 zx2 zx3 zx4 zx5 zx6 zS, ((7 : Nat) = zx1 ∧ x2 = zx2 ∧ x3 = zx3 ∧ x4 = zx4 ∧ ((4096 * x2) + (64 * (((x4 / 8) * (F 110 x2.toNatClampNeg)) + (x3 / 8)))) = zx5 ∧ B 0 64 zx6 ∧ ∃ (T7 : cF) (LT7 : cL), zS = (T7, LT7, PC a b P) ∧ IMc T7 ∧ agc [] [10] F T7) → (64 - zx6.toInt).toNat < (64 - x6_6.toInt).toNat → R31 zx1 zx2 zx3 zx4 zx5 zx6 zS) → b_Pi_drawBlock_31 UL 105 7 x2 x3 x4 ((4096 * x2) + (64 * (((x4 / 8) * (F 110 x2.toNatClampNeg)) + (x3 / 8)))) x6_6 (T7, LT7, PC a b P) R31 K from hs _ (fun _ _ _ _ _ _ _ h1 h2 => ⟨h1, h2⟩)
  intro R31 hR310
  have hR31 := fun {zx1} {zx2} {zx3} {zx4} {zx5} {zx6} {zS} => hR310 zx1 zx2 zx3 zx4 zx5 zx6 zS
  unfold b_Pi_drawBlock_31
  refine ⟨fun hc => ?_, fun hc => ?_⟩
  · have hq11 := hc
    have b12 : B 64 64 (x6_6) := B_w (B_leR cqb_64_64_64 b8 hq11) (by decide +kernel) (by decide +kernel)
    refine ⟨(show c_cl UL 7 = 12 from cl_7), ?_⟩
    refine h_Wa_makeSamples_u7 hI9 (fun {FS79_13} {LFS79_13} hI14 g15 => ?_)
    refine ⟨fun yx1 yx2 yx3 yx4 yx6 yS => (7 : Nat) = yx1 ∧ x2 = yx2 ∧ x3 = yx3 ∧ x4 = yx4 ∧ B 0 64 yx6 ∧ ∃ (T21 : cF) (LT21 : cL), yS = (T21, LT21, PC a b P) ∧ IMc T21 ∧ agc [] [114] FS79_13 T21, fun yx1 yx2 yx3 yx4 yx6 yS => (64 - yx6.toInt).toNat, ⟨rfl, rfl, rfl, rfl, (B_w cqb_0_0_0 (by decide +kernel) (by decide +kernel)), _, _, rfl, hI14, (agc_refl (fs := []) (rs := [114]) (F := FS79_13))⟩, fun x1_16 x2_17 x3_18 x4_19 x6_20 ST21 hIv => ?_⟩
    obtain ⟨rfl, rfl, rfl, rfl, b22, T21, LT21, rfl, hI23, g24⟩ := hIv
    suffices hs : ∀ (R85 : Nat → Int32 → Int32 → Int32 → Int32 → cs → Prop), (∀ zx1 zx2 zx3 zx4 zx6 zS, ((7 : Nat) = zx1 ∧ x2 = zx2 ∧ x3 = zx3 ∧ x4 = zx4 ∧ B 0 64 zx6 ∧ ∃ (T21 : cF) (LT21 : cL), zS = (T21, LT21, PC a b P) ∧ IMc T21 ∧ agc [] [114] FS79_13 T21) → (64 - zx6.toInt).toNat < (64 - x6_20.toInt).toNat → R85 zx1 zx2 zx3 zx4 zx6 zS) → b_Pi_drawBlock_85 UL 105 7 x2 x3 x4 x6_20 (T21, LT21, PC a b P) R85 K from hs _ (fun _ _ _ _ _ _ h1 h2 => ⟨h1, h2⟩)
    intro R85 hR850
    have hR85 := fun {zx1} {zx2} {zx3} {zx4} {zx6} {zS} => hR850 zx1 zx2 zx3 zx4 zx6 zS
    unfold b_Pi_drawBlock_85
    refine ⟨fun hc => ?_, fun hc => ?_⟩
    · have hq25 := hc
      have b26 : B 64 64 (x6_20) := B_w (B_leR cqb_64_64_64 b22 hq25) (by decide +kernel) (by decide +kernel)
      have g29 := agc_tr (agc_refl (fs := []) (rs := [9, 10, 114, 999]) (F := F)) g10 (by decide +kernel) (by decide +kernel)
      have g28 := agc_tr g29 g15 (by decide +kernel) (by decide +kernel)
      have g27 := agc_tr g28 g24 (by decide +kernel) (by decide +kernel)
      exact hK hI23 g27
    · have hq30 := (nle_lt hc)
      have b31 : B 0 63 (x6_20) := B_w (B_ltL b22 cqb_64_64_64 hq30) (by decide +kernel) (by decide +kernel)
      refine ⟨(show ¬ ((114 : Nat) = NU) from by decide +kernel), ?_⟩
      try unfold p_B_spot
      refine ⟨(show c_cl UL 7 = 12 from cl_7), ?_⟩
      refine ⟨(show ¬ ((9 : Nat) = NU) from by decide +kernel), ?_⟩
      refine ⟨(show c_cl UL 9 = 902 from cl_9), ?_⟩
      refine ⟨(show vp_in (x6_20) 64 from vp_B b31 (by decide +kernel) (by decide +kernel)), ?_⟩
      refine ⟨(show c_cl UL 114 = 902 from cl_114), ?_⟩
      refine ⟨(show vp_in (((4096 * x2) + (64 * (x4 + (x6_20 / 8)))) + (x3 + (x6_20 - ((x6_20 / 8) * 8)))) 12288 from vp_B (B_add (B_add (B_mul cqb_4096_4096_4096 b_x2 (by decide +kernel) (by decide +kernel) (by decide +kernel)) (B_mul cqb_64_64_64 (B_add b_x4 (show B 0 7 (x6_20 / 8) from B_div2 b31 cqb_8_8_8 (by decide +kernel) (by decide +kernel) (by decide +kernel) (by decide +kernel)) (by decide +kernel) (by decide +kernel)) (by decide +kernel) (by decide +kernel) (by decide +kernel)) (by decide +kernel) (by decide +kernel)) (B_add b_x3 (B_rem b31 cqb_8_8_8 (by decide +kernel) (by decide +kernel)) (by decide +kernel) (by decide +kernel)) (by decide +kernel) (by decide +kernel)) (by decide +kernel) (by decide +kernel)), ?_⟩
      have hI32 := IMc_u (u := 114) (i := (((4096 * x2) + (64 * (x4 + (x6_20 / 8)))) + (x3 + (x6_20 - ((x6_20 / 8) * 8)))).toNatClampNeg) (v := T21 9 x6_20.toNatClampNeg) hI23 (show B (-2147483648) 2147483647 (T21 9 x6_20.toNatClampNeg) from (B_w (B_eq (congrFun (g24.2 9 rfl rfl) x6_20.toNatClampNeg) (B_any _)) (by decide +kernel) (by decide +kernel)))
      have g34 := agc_tr (agc_refl (fs := []) (rs := [114]) (F := FS79_13)) g24 (by decide +kernel) (by decide +kernel)
      have g33 := agc_r (u := 114) (w := upd (T21 114) (((4096 * x2) + (64 * (x4 + (x6_20 / 8)))) + (x3 + (x6_20 - ((x6_20 / 8) * 8)))).toNatClampNeg (T21 9 x6_20.toNatClampNeg)) g34 rfl (by decide +kernel)
      have q35 : (0) ≤ (x6_20).toInt ∧ (x6_20).toInt ≤ (63) := (show B 0 63 (x6_20) from B_w b31 (by decide +kernel) (by decide +kernel))
      have e36 : (x6_20 + 1).toInt = ((x6_20).toInt + 1) := (t_add b31 cqb_1_1_1 (by decide +kernel) (by decide +kernel)).trans (by rw [cqn_1])
      have q37 : (1) ≤ (x6_20 + 1).toInt ∧ (x6_20 + 1).toInt ≤ (64) := (show B 1 64 (x6_20 + 1) from B_w (B_add b31 cqb_1_1_1 (by decide +kernel) (by decide +kernel)) (by decide +kernel) (by decide +kernel))
      exact hR85 ⟨rfl, rfl, rfl, rfl, (B_w (B_add b31 cqb_1_1_1 (by decide +kernel) (by decide +kernel)) (by decide +kernel) (by decide +kernel)), _, _, rfl, hI32, g33⟩ (by show (64 - (x6_20 + 1).toInt).toNat < (64 - x6_20.toInt).toNat; omega)
  · have hq38 := (nle_lt hc)
    have b39 : B 0 63 (x6_6) := B_w (B_ltL b8 cqb_64_64_64 hq38) (by decide +kernel) (by decide +kernel)
    refine ⟨(show c_cl UL 7 = 12 from cl_7), ?_⟩
    refine ⟨(show ¬ ((10 : Nat) = NU) from by decide +kernel), ?_⟩
    refine ⟨(show vp_in (x6_6) 64 from vp_B b39 (by decide +kernel) (by decide +kernel)), ?_⟩
    refine ⟨(show ¬ ((112 : Nat) = NU) from by decide +kernel), ?_⟩
    refine ⟨(show c_cl UL 112 = 902 from cl_112), ?_⟩
    refine ⟨(show vp_in (((4096 * x2) + (64 * (((x4 / 8) * (F 110 x2.toNatClampNeg)) + (x3 / 8)))) + x6_6) 12288 from vp_B (B_add (B_add (B_mul cqb_4096_4096_4096 b_x2 (by decide +kernel) (by decide +kernel) (by decide +kernel)) (B_mul cqb_64_64_64 (B_add (B_mul (show B 0 7 (x4 / 8) from B_div2 b_x4 cqb_8_8_8 (by decide +kernel) (by decide +kernel) (by decide +kernel) (by decide +kernel)) (show B 0 8 (F 110 x2.toNatClampNeg) from hI 110 x2.toNatClampNeg) (by decide +kernel) (by decide +kernel) (by decide +kernel)) (show B 0 7 (x3 / 8) from B_div2 b_x3 cqb_8_8_8 (by decide +kernel) (by decide +kernel) (by decide +kernel) (by decide +kernel)) (by decide +kernel) (by decide +kernel)) (by decide +kernel) (by decide +kernel) (by decide +kernel)) (by decide +kernel) (by decide +kernel)) b39 (by decide +kernel) (by decide +kernel)) (by decide +kernel) (by decide +kernel)), ?_⟩
    refine ⟨(show ¬ ((113 : Nat) = NU) from by decide +kernel), ?_⟩
    refine ⟨(show c_cl UL 113 = 902 from cl_113), ?_⟩
    refine ⟨(show vp_in ((64 * x2) + x6_6) 192 from vp_B (B_add (B_mul cqb_64_64_64 b_x2 (by decide +kernel) (by decide +kernel) (by decide +kernel)) b39 (by decide +kernel) (by decide +kernel)) (by decide +kernel) (by decide +kernel)), ?_⟩
    refine ⟨(show c_cl UL 10 = 902 from cl_10), ?_⟩
    refine ⟨(show vp_in (rw_at row_sl x6_6.toNatClampNeg) 64 from vp_B (B_sl _) (by decide +kernel) (by decide +kernel)), ?_⟩
    have hI40 := IMc_u (u := 10) (i := (rw_at row_sl x6_6.toNatClampNeg).toNatClampNeg) (v := (T7 112 (((4096 * x2) + (64 * (((x4 / 8) * (F 110 x2.toNatClampNeg)) + (x3 / 8)))) + x6_6).toNatClampNeg) * (T7 113 ((64 * x2) + x6_6).toNatClampNeg)) hI9 (show B (-2147483648) 2147483647 ((T7 112 (((4096 * x2) + (64 * (((x4 / 8) * (F 110 x2.toNatClampNeg)) + (x3 / 8)))) + x6_6).toNatClampNeg) * (T7 113 ((64 * x2) + x6_6).toNatClampNeg)) from (B_w (B_any _) (by decide +kernel) (by decide +kernel)))
    have g42 := agc_tr (agc_refl (fs := []) (rs := [10]) (F := F)) g10 (by decide +kernel) (by decide +kernel)
    have g41 := agc_r (u := 10) (w := upd (T7 10) (rw_at row_sl x6_6.toNatClampNeg).toNatClampNeg ((T7 112 (((4096 * x2) + (64 * (((x4 / 8) * (F 110 x2.toNatClampNeg)) + (x3 / 8)))) + x6_6).toNatClampNeg) * (T7 113 ((64 * x2) + x6_6).toNatClampNeg))) g42 rfl (by decide +kernel)
    have q43 : (0) ≤ (x6_6).toInt ∧ (x6_6).toInt ≤ (63) := (show B 0 63 (x6_6) from B_w b39 (by decide +kernel) (by decide +kernel))
    have e44 : (x6_6 + 1).toInt = ((x6_6).toInt + 1) := (t_add b39 cqb_1_1_1 (by decide +kernel) (by decide +kernel)).trans (by rw [cqn_1])
    have q45 : (1) ≤ (x6_6 + 1).toInt ∧ (x6_6 + 1).toInt ≤ (64) := (show B 1 64 (x6_6 + 1) from B_w (B_add b39 cqb_1_1_1 (by decide +kernel) (by decide +kernel)) (by decide +kernel) (by decide +kernel))
    exact hR31 ⟨rfl, rfl, rfl, rfl, rfl, (B_w (B_add b39 cqb_1_1_1 (by decide +kernel) (by decide +kernel)) (by decide +kernel) (by decide +kernel)), _, _, rfl, hI40, g41⟩ (by show (64 - (x6_6 + 1).toInt).toNat < (64 - x6_6.toInt).toNat; omega)
set_option maxRecDepth 20000 in
set_option maxHeartbeats 4000000 in
theorem h_Pi_draw_u105_x17 {a : Bool} {b : Bool} {P : Nat → Nat → Nat} {F : cF} {L : cL} {K : cs → Prop} (hI : IMc F) (hK : ∀ {Z : cF} {LZ : cL}, IMc Z → agc [10516] [9, 10, 114, 999] F Z → K (Z, LZ, PC a b P)) : p_Pi_draw UL 105 7 (F, L, PC a b P) K := by
  unfold p_Pi_draw
  refine ⟨fun hc => ?_, fun hc => ?_⟩
  · have b1 : B 0 0 (F 105 16) := B_w (B_eq hc cqb_0_0_0) (by decide +kernel) (by decide +kernel)
    have q2 : (0) ≤ (F 105 16).toInt ∧ (F 105 16).toInt ≤ (0) := (show B 0 0 (F 105 16) from B_w b1 (by decide +kernel) (by decide +kernel))
    have i3 : (F 105 16).toInt = (0 : Int32).toInt := congrArg Int32.toInt hc
    have n4 : (0 : Int32).toInt = 0 := cqn_0
    refine ⟨fun yx1 yx2 yS => (7 : Nat) = yx1 ∧ B 0 3 yx2 ∧ ∃ (T7 : cF) (LT7 : cL), yS = (T7, LT7, PC a b P) ∧ IMc T7 ∧ agc [] [9, 10, 114, 999] F T7, fun yx1 yx2 yS => (3 - yx2.toInt).toNat, ⟨rfl, (B_w cqb_0_0_0 (by decide +kernel) (by decide +kernel)), _, _, rfl, hI, (agc_refl (fs := []) (rs := [9, 10, 114, 999]) (F := F))⟩, fun x1_5 x2_6 ST7 hIv => ?_⟩
    obtain ⟨rfl, b8, T7, LT7, rfl, hI9, g10⟩ := hIv
    suffices hs : ∀ (R10 : Nat → Int32 → cs → Prop), (∀ zx1 zx2 zS, ((7 : Nat) = zx1 ∧ B 0 3 zx2 ∧ ∃ (T7 : cF) (LT7 : cL), zS = (T7, LT7, PC a b P) ∧ IMc T7 ∧ agc [] [9, 10, 114, 999] F T7) → (3 - zx2.toInt).toNat < (3 - x2_6.toInt).toNat → R10 zx1 zx2 zS) → b_Pi_draw_10 UL 105 7 x2_6 (T7, LT7, PC a b P) R10 K from hs _ (fun _ _ _ h1 h2 => ⟨h1, h2⟩)
    intro R10 hR100
    have hR10 := fun {zx1} {zx2} {zS} => hR100 zx1 zx2 zS
    unfold b_Pi_draw_10
    refine ⟨fun hc => ?_, fun hc => ?_⟩
    · have hq11 := hc
      have b12 : B 1 3 (x2_6) := B_w (B_leR (B_eq (g10.1 105 2 rfl rfl) (show B 1 3 (F 105 2) from hI 105 2)) b8 hq11) (by decide +kernel) (by decide +kernel)
      have q13 : (1) ≤ (F 105 2).toInt ∧ (F 105 2).toInt ≤ (3) := (show B 1 3 (F 105 2) from hI 105 2)
      have e14 : (T7 105 2).toInt = (F 105 2).toInt := (congrArg Int32.toInt (g10.1 105 2 rfl rfl)).trans rfl
      have q15 : (1) ≤ (x2_6).toInt ∧ (x2_6).toInt ≤ (3) := (show B 1 3 (x2_6) from B_w b12 (by decide +kernel) (by decide +kernel))
      have i16 : (T7 105 2).toInt ≤ (x2_6).toInt := i_le hq11
      have hI17 := IMc_u (u := 105) (i := 16) (v := 1) hI9 (show B 0 1 (1) from (B_w cqb_1_1_1 (by decide +kernel) (by decide +kernel)))
      have g19 := agc_tr (agc_refl (fs := [10516]) (rs := [9, 10, 114, 999]) (F := F)) g10 (by decide +kernel) (by decide +kernel)
      have g18 := agc_f (u := 105) (k := 16) (v := 1) g19 rfl (by decide +kernel)
      exact hK hI17 g18
    · have hq20 := (nle_lt hc)
      have b21 : B 0 2 (x2_6) := B_w (B_ltL b8 (B_eq (g10.1 105 2 rfl rfl) (show B 1 3 (F 105 2) from hI 105 2)) hq20) (by decide +kernel) (by decide +kernel)
      have q22 : (0) ≤ (x2_6).toInt ∧ (x2_6).toInt ≤ (2) := (show B 0 2 (x2_6) from B_w b21 (by decide +kernel) (by decide +kernel))
      have q23 : (1) ≤ (F 105 2).toInt ∧ (F 105 2).toInt ≤ (3) := (show B 1 3 (F 105 2) from hI 105 2)
      have e24 : (T7 105 2).toInt = (F 105 2).toInt := (congrArg Int32.toInt (g10.1 105 2 rfl rfl)).trans rfl
      have i25 : (x2_6).toInt < (T7 105 2).toInt := i_lt hq20
      refine ⟨fun yx1 yx2 yx3 yS => (7 : Nat) = yx1 ∧ x2_6 = yx2 ∧ B 0 72 yx3 ∧ ∃ (T29 : cF) (LT29 : cL), yS = (T29, LT29, PC a b P) ∧ IMc T29 ∧ agc [] [9, 10, 114, 999] T7 T29 ∧ (yx3.toInt = ((yx3.toInt / 8) * 8)), fun yx1 yx2 yx3 yS => (72 - yx3.toInt).toNat, ⟨rfl, rfl, (B_w cqb_0_0_0 (by decide +kernel) (by decide +kernel)), _, _, rfl, hI9, (agc_refl (fs := []) (rs := [9, 10, 114, 999]) (F := T7)), (by show 0 = ((0 / 8) * 8); first | with_reducible assumption | omega)⟩, fun x1_26 x2_27 x3_28 ST29 hIv => ?_⟩
      obtain ⟨rfl, rfl, b30, T29, LT29, rfl, hI31, g32, r33⟩ := hIv
      suffices hs : ∀ (R20 : Nat → Int32 → Int32 → cs → Prop), (∀ zx1 zx2 zx3 zS, ((7 : Nat) = zx1 ∧ x2_6 = zx2 ∧ B 0 72 zx3 ∧ ∃ (T29 : cF) (LT29 : cL), zS = (T29, LT29, PC a b P) ∧ IMc T29 ∧ agc [] [9, 10, 114, 999] T7 T29 ∧ (zx3.toInt = ((zx3.toInt / 8) * 8))) → (72 - zx3.toInt).toNat < (72 - x3_28.toInt).toNat → R20 zx1 zx2 zx3 zS) → b_Pi_draw_20 UL 105 7 x2_6 x3_28 (T29, LT29, PC a b P) R10 R20 K from hs _ (fun _ _ _ _ h1 h2 => ⟨h1, h2⟩)
      intro R20 hR200
      have hR20 := fun {zx1} {zx2} {zx3} {zS} => hR200 zx1 zx2 zx3 zS
      have q34 : (0) ≤ (x3_28).toInt ∧ (x3_28).toInt ≤ (72) := (show B 0 72 (x3_28) from B_w b30 (by decide +kernel) (by decide +kernel))
      unfold b_Pi_draw_20
      refine ⟨(show ¬ ((109 : Nat) = NU) from by decide +kernel), ?_⟩
      refine ⟨(show c_cl UL 109 = 902 from cl_109), ?_⟩
      refine ⟨(show vp_in (x2_6) 3 from vp_B b21 (by decide +kernel) (by decide +kernel)), ?_⟩
      refine ⟨fun hc => ?_, fun hc => ?_⟩
      · have hq35 := hc
        have q36 : (0) ≤ (F 109 x2_6.toNatClampNeg).toInt ∧ (F 109 x2_6.toNatClampNeg).toInt ≤ (64) := (show B 0 64 (F 109 x2_6.toNatClampNeg) from hI 109 x2_6.toNatClampNeg)
        have e37 : (T29 109 x2_6.toNatClampNeg).toInt = (F 109 x2_6.toNatClampNeg).toInt := (congrArg Int32.toInt ((congrFun (g32.2 109 rfl rfl) x2_6.toNatClampNeg).trans (congrFun (g10.2 109 rfl rfl) x2_6.toNatClampNeg))).trans rfl
        have i38 : (T29 109 x2_6.toNatClampNeg).toInt ≤ (x3_28).toInt := i_le hq35
        have g40 := agc_tr (agc_refl (fs := []) (rs := [9, 10, 114, 999]) (F := F)) g10 (by decide +kernel) (by decide +kernel)
        have g39 := agc_tr g40 g32 (by decide +kernel) (by decide +kernel)
        have e41 : (x2_6 + 1).toInt = ((x2_6).toInt + 1) := (t_add b21 cqb_1_1_1 (by decide +kernel) (by decide +kernel)).trans (by rw [cqn_1])
        have q42 : (1) ≤ (x2_6 + 1).toInt ∧ (x2_6 + 1).toInt ≤ (3) := (show B 1 3 (x2_6 + 1) from B_w (B_add b21 cqb_1_1_1 (by decide +kernel) (by decide +kernel)) (by decide +kernel) (by decide +kernel))
        exact hR10 ⟨rfl, (B_w (B_add b21 cqb_1_1_1 (by decide +kernel) (by decide +kernel)) (by decide +kernel) (by decide +kernel)), _, _, rfl, hI31, g39⟩ (by show (3 - (x2_6 + 1).toInt).toNat < (3 - x2_6.toInt).toNat; omega)
      · have hq43 := (nle_lt hc)
        have b44 : B 0 63 (x3_28) := B_w (B_ltL b30 (B_eq ((congrFun (g32.2 109 rfl rfl) x2_6.toNatClampNeg).trans (congrFun (g10.2 109 rfl rfl) x2_6.toNatClampNeg)) (show B 0 64 (F 109 x2_6.toNatClampNeg) from hI 109 x2_6.toNatClampNeg)) hq43) (by decide +kernel) (by decide +kernel)
        have q45 : (0) ≤ (x3_28).toInt ∧ (x3_28).toInt ≤ (63) := (show B 0 63 (x3_28) from B_w b44 (by decide +kernel) (by decide +kernel))
        have b46 : B 1 64 (F 109 x2_6.toNatClampNeg) := B_w (B_eq (Eq.symm ((congrFun (g32.2 109 rfl rfl) x2_6.toNatClampNeg).trans (congrFun (g10.2 109 rfl rfl) x2_6.toNatClampNeg))) (B_ltR b30 (B_eq ((congrFun (g32.2 109 rfl rfl) x2_6.toNatClampNeg).trans (congrFun (g10.2 109 rfl rfl) x2_6.toNatClampNeg)) (show B 0 64 (F 109 x2_6.toNatClampNeg) from hI 109 x2_6.toNatClampNeg)) hq43)) (by decide +kernel) (by decide +kernel)
        have q47 : (1) ≤ (F 109 x2_6.toNatClampNeg).toInt ∧ (F 109 x2_6.toNatClampNeg).toInt ≤ (64) := (show B 1 64 (F 109 x2_6.toNatClampNeg) from B_w b46 (by decide +kernel) (by decide +kernel))
        have e48 : (T29 109 x2_6.toNatClampNeg).toInt = (F 109 x2_6.toNatClampNeg).toInt := (congrArg Int32.toInt ((congrFun (g32.2 109 rfl rfl) x2_6.toNatClampNeg).trans (congrFun (g10.2 109 rfl rfl) x2_6.toNatClampNeg))).trans rfl
        have i49 : (x3_28).toInt < (T29 109 x2_6.toNatClampNeg).toInt := i_lt hq43
        refine ⟨fun yx1 yx2 yx3 yx4 yS => (7 : Nat) = yx1 ∧ x2_6 = yx2 ∧ x3_28 = yx3 ∧ B 0 72 yx4 ∧ ∃ (T54 : cF) (LT54 : cL), yS = (T54, LT54, PC a b P) ∧ IMc T54 ∧ agc [] [9, 10, 114, 999] T29 T54 ∧ (yx4.toInt = ((yx4.toInt / 8) * 8)), fun yx1 yx2 yx3 yx4 yS => (72 - yx4.toInt).toNat, ⟨rfl, rfl, rfl, (B_w cqb_0_0_0 (by decide +kernel) (by decide +kernel)), _, _, rfl, hI31, (agc_refl (fs := []) (rs := [9, 10, 114, 999]) (F := T29)), (by show 0 = ((0 / 8) * 8); first | with_reducible assumption | omega)⟩, fun x1_50 x2_51 x3_52 x4_53 ST54 hIv => ?_⟩
        obtain ⟨rfl, rfl, rfl, b55, T54, LT54, rfl, hI56, g57, r58⟩ := hIv
        suffices hs : ∀ (R33 : Nat → Int32 → Int32 → Int32 → cs → Prop), (∀ zx1 zx2 zx3 zx4 zS, ((7 : Nat) = zx1 ∧ x2_6 = zx2 ∧ x3_28 = zx3 ∧ B 0 72 zx4 ∧ ∃ (T54 : cF) (LT54 : cL), zS = (T54, LT54, PC a b P) ∧ IMc T54 ∧ agc [] [9, 10, 114, 999] T29 T54 ∧ (zx4.toInt = ((zx4.toInt / 8) * 8))) → (72 - zx4.toInt).toNat < (72 - x4_53.toInt).toNat → R33 zx1 zx2 zx3 zx4 zS) → b_Pi_draw_33 UL 105 7 x2_6 x3_28 x4_53 (T54, LT54, PC a b P) R10 R20 R33 K from hs _ (fun _ _ _ _ _ h1 h2 => ⟨h1, h2⟩)
        intro R33 hR330
        have hR33 := fun {zx1} {zx2} {zx3} {zx4} {zS} => hR330 zx1 zx2 zx3 zx4 zS
        have q59 : (0) ≤ (x4_53).toInt ∧ (x4_53).toInt ≤ (72) := (show B 0 72 (x4_53) from B_w b55 (by decide +kernel) (by decide +kernel))
        unfold b_Pi_draw_33
        refine ⟨(show ¬ ((108 : Nat) = NU) from by decide +kernel), ?_⟩
        refine ⟨(show c_cl UL 108 = 902 from cl_108), ?_⟩
        refine ⟨(show vp_in (x2_6) 3 from vp_B b21 (by decide +kernel) (by decide +kernel)), ?_⟩
        refine ⟨fun hc => ?_, fun hc => ?_⟩
        · have hq60 := hc
          have q61 : (0) ≤ (F 108 x2_6.toNatClampNeg).toInt ∧ (F 108 x2_6.toNatClampNeg).toInt ≤ (64) := (show B 0 64 (F 108 x2_6.toNatClampNeg) from hI 108 x2_6.toNatClampNeg)
          have e62 : (T54 108 x2_6.toNatClampNeg).toInt = (F 108 x2_6.toNatClampNeg).toInt := (congrArg Int32.toInt (((congrFun (g57.2 108 rfl rfl) x2_6.toNatClampNeg).trans (congrFun (g32.2 108 rfl rfl) x2_6.toNatClampNeg)).trans (congrFun (g10.2 108 rfl rfl) x2_6.toNatClampNeg))).trans rfl
          have i63 : (T54 108 x2_6.toNatClampNeg).toInt ≤ (x4_53).toInt := i_le hq60
          have g65 := agc_tr (agc_refl (fs := []) (rs := [9, 10, 114, 999]) (F := T7)) g32 (by decide +kernel) (by decide +kernel)
          have g64 := agc_tr g65 g57 (by decide +kernel) (by decide +kernel)
          have e66 : (x3_28 + 8).toInt = ((x3_28).toInt + 8) := (t_add b44 cqb_8_8_8 (by decide +kernel) (by decide +kernel)).trans (by rw [cqn_8])
          have q67 : (8) ≤ (x3_28 + 8).toInt ∧ (x3_28 + 8).toInt ≤ (71) := (show B 8 71 (x3_28 + 8) from B_w (B_add b44 cqb_8_8_8 (by decide +kernel) (by decide +kernel)) (by decide +kernel) (by decide +kernel))
          exact hR20 ⟨rfl, rfl, (B_w (B_add b44 cqb_8_8_8 (by decide +kernel) (by decide +kernel)) (by decide +kernel) (by decide +kernel)), _, _, rfl, hI56, g64, (by show (x3_28 + 8).toInt = (((x3_28 + 8).toInt / 8) * 8); first | with_reducible assumption | omega)⟩ (by show (72 - (x3_28 + 8).toInt).toNat < (72 - x3_28.toInt).toNat; omega)
        · have hq68 := (nle_lt hc)
          have b69 : B 0 63 (x4_53) := B_w (B_ltL b55 (B_eq (((congrFun (g57.2 108 rfl rfl) x2_6.toNatClampNeg).trans (congrFun (g32.2 108 rfl rfl) x2_6.toNatClampNeg)).trans (congrFun (g10.2 108 rfl rfl) x2_6.toNatClampNeg)) (show B 0 64 (F 108 x2_6.toNatClampNeg) from hI 108 x2_6.toNatClampNeg)) hq68) (by decide +kernel) (by decide +kernel)
          have q70 : (0) ≤ (x4_53).toInt ∧ (x4_53).toInt ≤ (63) := (show B 0 63 (x4_53) from B_w b69 (by decide +kernel) (by decide +kernel))
          have b71 : B 1 64 (F 108 x2_6.toNatClampNeg) := B_w (B_eq (Eq.symm (((congrFun (g57.2 108 rfl rfl) x2_6.toNatClampNeg).trans (congrFun (g32.2 108 rfl rfl) x2_6.toNatClampNeg)).trans (congrFun (g10.2 108 rfl rfl) x2_6.toNatClampNeg))) (B_ltR b55 (B_eq (((congrFun (g57.2 108 rfl rfl) x2_6.toNatClampNeg).trans (congrFun (g32.2 108 rfl rfl) x2_6.toNatClampNeg)).trans (congrFun (g10.2 108 rfl rfl) x2_6.toNatClampNeg)) (show B 0 64 (F 108 x2_6.toNatClampNeg) from hI 108 x2_6.toNatClampNeg)) hq68)) (by decide +kernel) (by decide +kernel)
          have q72 : (1) ≤ (F 108 x2_6.toNatClampNeg).toInt ∧ (F 108 x2_6.toNatClampNeg).toInt ≤ (64) := (show B 1 64 (F 108 x2_6.toNatClampNeg) from B_w b71 (by decide +kernel) (by decide +kernel))
          have e73 : (T54 108 x2_6.toNatClampNeg).toInt = (F 108 x2_6.toNatClampNeg).toInt := (congrArg Int32.toInt (((congrFun (g57.2 108 rfl rfl) x2_6.toNatClampNeg).trans (congrFun (g32.2 108 rfl rfl) x2_6.toNatClampNeg)).trans (congrFun (g10.2 108 rfl rfl) x2_6.toNatClampNeg))).trans rfl
          have i74 : (x4_53).toInt < (T54 108 x2_6.toNatClampNeg).toInt := i_lt hq68
          refine h_Pi_drawBlock_u105_x17 b21 (show B 0 56 (x4_53) from ⟨by omega, by omega⟩) (show B 0 56 (x3_28) from ⟨by omega, by omega⟩) hI56 (fun {FS50_75} {LFS50_75} hI76 g77 => ?_)
          have g79 := agc_tr (agc_refl (fs := []) (rs := [9, 10, 114, 999]) (F := T29)) g57 (by decide +kernel) (by decide +kernel)
          have g78 := agc_tr g79 g77 (by decide +kernel) (by decide +kernel)
          have e80 : (x4_53 + 8).toInt = ((x4_53).toInt + 8) := (t_add b69 cqb_8_8_8 (by decide +kernel) (by decide +kernel)).trans (by rw [cqn_8])
          have q81 : (8) ≤ (x4_53 + 8).toInt ∧ (x4_53 + 8).toInt ≤ (71) := (show B 8 71 (x4_53 + 8) from B_w (B_add b69 cqb_8_8_8 (by decide +kernel) (by decide +kernel)) (by decide +kernel) (by decide +kernel))
          exact hR33 ⟨rfl, rfl, rfl, (B_w (B_add b69 cqb_8_8_8 (by decide +kernel) (by decide +kernel)) (by decide +kernel) (by decide +kernel)), _, _, rfl, hI76, g78, (by show (x4_53 + 8).toInt = (((x4_53 + 8).toInt / 8) * 8); first | with_reducible assumption | omega)⟩ (by show (72 - (x4_53 + 8).toInt).toNat < (72 - x4_53.toInt).toNat; omega)
  · have b82 : B 1 1 (F 105 16) := B_w (B_n0 (show B 0 1 (F 105 16) from hI 105 16) hc) (by decide +kernel) (by decide +kernel)
    exact hK hI (agc_refl (fs := [10516]) (rs := [9, 10, 114, 999]) (F := F))
set_option maxRecDepth 20000 in
set_option maxHeartbeats 4000000 in
theorem h_Pi_layerSample_u105 {a : Bool} {b : Bool} {P : Nat → Nat → Nat} {x1 : Int32} {x2 : Int32} {x3 : Int32} {F : cF} {L : cL} {K : Int32 → cs → Prop} (b_x1 : B 0 2 x1) (b_x2 : B 0 63 x2) (b_x3 : B 0 63 x3) (hI : IMc F) (hK : ∀ {v : Int32}, B (-2147483648) 2147483647 v → K v (F, L, PC a b P)) : p_Pi_layerSample UL 105 x1 x2 x3 (F, L, PC a b P) K := by
  unfold p_Pi_layerSample
  refine ⟨(show ¬ ((106 : Nat) = NU) from by decide +kernel), ?_⟩
  refine ⟨(show c_cl UL 106 = 902 from cl_106), ?_⟩
  refine ⟨(show vp_in (x1) 3 from vp_B b_x1 (by decide +kernel) (by decide +kernel)), ?_⟩
  have hj1 : ∀ {x4_2 : Int32} {s0_3 : Int32}, B 0 63 x4_2 → B 0 63 s0_3 → b_Pi_layerSample_42 UL 105 x1 x4_2 s0_3 (F, L, PC a b P) K := by
    intro x4_2 s0_3 b4 b5
    unfold b_Pi_layerSample_42
    refine ⟨(show ¬ ((114 : Nat) = NU) from by decide +kernel), ?_⟩
    try unfold p_B_spot
    refine ⟨(show c_cl UL 114 = 902 from cl_114), ?_⟩
    refine ⟨(show vp_in (((4096 * x1) + (64 * s0_3)) + x4_2) 12288 from vp_B (B_add (B_add (B_mul cqb_4096_4096_4096 b_x1 (by decide +kernel) (by decide +kernel) (by decide +kernel)) (B_mul cqb_64_64_64 b5 (by decide +kernel) (by decide +kernel) (by decide +kernel)) (by decide +kernel) (by decide +kernel)) b4 (by decide +kernel) (by decide +kernel)) (by decide +kernel) (by decide +kernel)), ?_⟩
    exact hK (B_w (B_any _) (by decide +kernel) (by decide +kernel))
  have hj6 : ∀ {s0_7 : Int32}, B 0 63 s0_7 → b_Pi_layerSample_20 UL 105 x1 x3 s0_7 (F, L, PC a b P) K := by
    intro s0_7 b8
    unfold b_Pi_layerSample_20
    refine ⟨(show ¬ ((107 : Nat) = NU) from by decide +kernel), ?_⟩
    refine ⟨(show c_cl UL 107 = 902 from cl_107), ?_⟩
    refine ⟨(show vp_in (x1) 3 from vp_B b_x1 (by decide +kernel) (by decide +kernel)), ?_⟩
    refine ⟨fun hc => ?_, fun hc => ?_⟩
    · have hq9 := hc
      have q10 : (1) ≤ (F 105 6).toInt ∧ (F 105 6).toInt ≤ (2) := (show B 1 2 (F 105 6) from hI 105 6)
      have q11 : (1) ≤ (F 107 x1.toNatClampNeg).toInt ∧ (F 107 x1.toNatClampNeg).toInt ≤ (2) := (show B 1 2 (F 107 x1.toNatClampNeg) from sB_107 hI b_x1 (by decide +kernel) (by decide +kernel))
      have i12 : (F 105 6).toInt ≤ (F 107 x1.toNatClampNeg).toInt := i_le hq9
      exact hj1 b8 b_x3
    · have hq13 := (nle_lt hc)
      have b14 : B 1 1 (F 107 x1.toNatClampNeg) := B_w (B_ltL (show B 1 2 (F 107 x1.toNatClampNeg) from sB_107 hI b_x1 (by decide +kernel) (by decide +kernel)) (show B 1 2 (F 105 6) from hI 105 6) hq13) (by decide +kernel) (by decide +kernel)
      have b15 : B 2 2 (F 105 6) := B_w (B_ltR (show B 1 2 (F 107 x1.toNatClampNeg) from sB_107 hI b_x1 (by decide +kernel) (by decide +kernel)) (show B 1 2 (F 105 6) from hI 105 6) hq13) (by decide +kernel) (by decide +kernel)
      have q16 : (1) ≤ (F 107 x1.toNatClampNeg).toInt ∧ (F 107 x1.toNatClampNeg).toInt ≤ (1) := (show B 1 1 (F 107 x1.toNatClampNeg) from B_w b14 (by decide +kernel) (by decide +kernel))
      have q17 : (2) ≤ (F 105 6).toInt ∧ (F 105 6).toInt ≤ (2) := (show B 2 2 (F 105 6) from B_w b15 (by decide +kernel) (by decide +kernel))
      have i18 : (F 107 x1.toNatClampNeg).toInt < (F 105 6).toInt := i_lt hq13
      exact hj1 b8 (B_w (show B 0 31 (x3 / 2) from B_div2 b_x3 cqb_2_2_2 (by decide +kernel) (by decide +kernel) (by decide +kernel) (by decide +kernel)) (by decide +kernel) (by decide +kernel))
  refine ⟨fun hc => ?_, fun hc => ?_⟩
  · have hq19 := hc
    have q20 : (1) ≤ (F 105 5).toInt ∧ (F 105 5).toInt ≤ (2) := (show B 1 2 (F 105 5) from hI 105 5)
    have q21 : (1) ≤ (F 106 x1.toNatClampNeg).toInt ∧ (F 106 x1.toNatClampNeg).toInt ≤ (2) := (show B 1 2 (F 106 x1.toNatClampNeg) from sB_106 hI b_x1 (by decide +kernel) (by decide +kernel))
    have i22 : (F 105 5).toInt ≤ (F 106 x1.toNatClampNeg).toInt := i_le hq19
    exact hj6 b_x2
  · have hq23 := (nle_lt hc)
    have b24 : B 1 1 (F 106 x1.toNatClampNeg) := B_w (B_ltL (show B 1 2 (F 106 x1.toNatClampNeg) from sB_106 hI b_x1 (by decide +kernel) (by decide +kernel)) (show B 1 2 (F 105 5) from hI 105 5) hq23) (by decide +kernel) (by decide +kernel)
    have b25 : B 2 2 (F 105 5) := B_w (B_ltR (show B 1 2 (F 106 x1.toNatClampNeg) from sB_106 hI b_x1 (by decide +kernel) (by decide +kernel)) (show B 1 2 (F 105 5) from hI 105 5) hq23) (by decide +kernel) (by decide +kernel)
    have q26 : (1) ≤ (F 106 x1.toNatClampNeg).toInt ∧ (F 106 x1.toNatClampNeg).toInt ≤ (1) := (show B 1 1 (F 106 x1.toNatClampNeg) from B_w b24 (by decide +kernel) (by decide +kernel))
    have q27 : (2) ≤ (F 105 5).toInt ∧ (F 105 5).toInt ≤ (2) := (show B 2 2 (F 105 5) from B_w b25 (by decide +kernel) (by decide +kernel))
    have i28 : (F 106 x1.toNatClampNeg).toInt < (F 105 5).toInt := i_lt hq23
    exact hj6 (B_w (show B 0 31 (x2 / 2) from B_div2 b_x2 cqb_2_2_2 (by decide +kernel) (by decide +kernel) (by decide +kernel) (by decide +kernel)) (by decide +kernel) (by decide +kernel))
set_option maxRecDepth 20000 in
set_option maxHeartbeats 4000000 in
theorem h_Pi_colour_u105 {a : Bool} {b : Bool} {P : Nat → Nat → Nat} {x1 : Int32} {x2 : Int32} {x3 : Int32} {F : cF} {L : cL} {K : Int32 → cs → Prop} (b_x1 : B 0 63 x1) (b_x2 : B 0 63 x2) (hI : IMc F) (hK : ∀ {v : Int32}, B (-2147483648) 2147483647 v → K v (F, L, PC a b P)) : p_Pi_colour UL 105 x1 x2 x3 (F, L, PC a b P) K := by
  unfold p_Pi_colour
  refine h_Pi_layerSample_u105 (B_w cqb_0_0_0 (by decide +kernel) (by decide +kernel)) b_x1 b_x2 hI (fun {v4_1} b3 => ?_)
  refine ⟨fun hc => ?_, fun hc => ?_⟩
  · have q4 : (1) ≤ (F 105 2).toInt ∧ (F 105 2).toInt ≤ (3) := (show B 1 3 (F 105 2) from hI 105 2)
    have i5 : (F 105 2).toInt ≠ (1 : Int32).toInt := i_ne hc
    have n6 : (1 : Int32).toInt = 1 := cqn_1
    refine h_Pi_layerSample_u105 (B_w cqb_1_1_1 (by decide +kernel) (by decide +kernel)) b_x1 b_x2 hI (fun {v24_7} b9 => ?_)
    refine h_Pi_layerSample_u105 (B_w cqb_2_2_2 (by decide +kernel) (by decide +kernel)) b_x1 b_x2 hI (fun {v37_10} b12 => ?_)
    refine ⟨fun hc => ?_, fun hc => ?_⟩
    · have i13 : (x3).toInt ≠ (1 : Int32).toInt := i_ne hc
      have n14 : (1 : Int32).toInt = 1 := cqn_1
      refine ⟨fun hc => ?_, fun hc => ?_⟩
      · have i15 : (x3).toInt ≠ (0 : Int32).toInt := i_ne hc
        have n16 : (0 : Int32).toInt = 0 := cqn_0
        unfold b_Pi_colour_97
        refine h_B_clamp_x10_x2255  (fun {v114_17} b18 => ?_)
        exact hK (B_w b18 (by decide +kernel) (by decide +kernel))
      · have b19 : B 0 0 (x3) := B_w (B_eq hc cqb_0_0_0) (by decide +kernel) (by decide +kernel)
        have q20 : (0) ≤ (x3).toInt ∧ (x3).toInt ≤ (0) := (show B 0 0 (x3) from B_w b19 (by decide +kernel) (by decide +kernel))
        have i21 : (x3).toInt = (0 : Int32).toInt := congrArg Int32.toInt hc
        have n22 : (0 : Int32).toInt = 0 := cqn_0
        unfold b_Pi_colour_97
        refine h_B_clamp_x10_x2255  (fun {v114_23} b24 => ?_)
        exact hK (B_w b24 (by decide +kernel) (by decide +kernel))
    · have b25 : B 1 1 (x3) := B_w (B_eq hc cqb_1_1_1) (by decide +kernel) (by decide +kernel)
      have q26 : (1) ≤ (x3).toInt ∧ (x3).toInt ≤ (1) := (show B 1 1 (x3) from B_w b25 (by decide +kernel) (by decide +kernel))
      have i27 : (x3).toInt = (1 : Int32).toInt := congrArg Int32.toInt hc
      have n28 : (1 : Int32).toInt = 1 := cqn_1
      refine h_B_clamp_x10_x2255  (fun {v76_29} b30 => ?_)
      exact hK (B_w b30 (by decide +kernel) (by decide +kernel))
  · have b31 : B 1 1 (F 105 2) := B_w (B_eq hc cqb_1_1_1) (by decide +kernel) (by decide +kernel)
    have q32 : (1) ≤ (F 105 2).toInt ∧ (F 105 2).toInt ≤ (1) := (show B 1 1 (F 105 2) from B_w b31 (by decide +kernel) (by decide +kernel))
    have i33 : (F 105 2).toInt = (1 : Int32).toInt := congrArg Int32.toInt hc
    have n34 : (1 : Int32).toInt = 1 := cqn_1
    exact hK b3
set_option maxRecDepth 20000 in
set_option maxHeartbeats 4000000 in
theorem h_B_sample_u0_a0 {b : Bool} {P : Nat → Nat → Nat} {x1 : Int32} {x2 : Int32} {x3 : Int32} {F : cF} {L : cL} {K : Int32 → cs → Prop} {T : Nat → cs → Prop} (hI : IMc F) (hK : ∀ {v : Int32} {Z : cF} {LZ : cL}, B (-2147483648) 2147483647 v → IMc Z → agc [10516] [9, 10, 114, 999] F Z → K v (Z, LZ, PC false b P)) (hT13 : ∀ {Z : cF} {LZ : cL}, IMc Z → agc [] [] F Z → T 13 (Z, LZ, PC false b P)) (hT15 : ∀ {Z : cF} {LZ : cL}, IMc Z → agc [] [] F Z → T 15 (Z, LZ, PC false b P)) : p_B_sample UL 0 x1 x2 x3 (F, L, PC false b P) K T := by
  unfold p_B_sample
  refine ⟨(show ¬ ((105 : Nat) = NU) from by decide +kernel), ?_⟩
  refine ⟨(show c_cl UL 105 = 7 from cl_105), ?_⟩
  refine ⟨fun hc => ?_, fun hc => ?_⟩
  · have b1 : B 1 1 (F 105 17) := B_w (B_n0 (show B 0 1 (F 105 17) from hI 105 17) hc) (by decide +kernel) (by decide +kernel)
    refine ⟨(show ¬ ((105 : Nat) = NU) from by decide +kernel), ?_⟩
    refine h_B_isWithin  (fun {v31_2} b3 r4 r5 => ?_)
    rcases sp_01 b3 with rfl | rfl
    · have r6 : ((0 : Int) = 0) ∨ ((0 ≤ x1.toInt) ∧ (x1.toInt ≤ ((F 105 0) - 1).toInt)) := r4
      clear r4
      have q7 : (1) ≤ (F 105 0).toInt ∧ (F 105 0).toInt ≤ (64) := (show B 1 64 (F 105 0) from hI 105 0)
      have e8 : ((F 105 0) - 1).toInt = ((F 105 0).toInt - 1) := (t_sub (show B 1 64 (F 105 0) from hI 105 0) cqb_1_1_1 (by decide +kernel) (by decide +kernel)).trans (by rw [cqn_1])
      have q9 : (0) ≤ ((F 105 0) - 1).toInt ∧ ((F 105 0) - 1).toInt ≤ (63) := (show B 0 63 ((F 105 0) - 1) from B_w (B_sub (show B 1 64 (F 105 0) from hI 105 0) cqb_1_1_1 (by decide +kernel) (by decide +kernel)) (by decide +kernel) (by decide +kernel))
      have r10 : ((0 : Int) = 1) ∨ ((x1.toInt < 0) ∨ (((F 105 0) - 1).toInt < x1.toInt)) := r5
      clear r5
      refine ⟨fun hc => ?_, fun hc => ?_⟩
      · have i11 : (0 : Int32).toInt = (0 : Int32).toInt := congrArg Int32.toInt hc
        have n12 : (0 : Int32).toInt = 0 := cqn_0
        have n13 : (0 : Int32).toInt = 0 := cqn_0
        unfold b_B_sample_71
        exact hT15 hI (agc_refl (fs := []) (rs := []) (F := F)) 
      · exact (hc (B_z cqb_0_0_0)).elim
    · have r14 : ((1 : Int) = 0) ∨ ((0 ≤ x1.toInt) ∧ (x1.toInt ≤ ((F 105 0) - 1).toInt)) := r4
      clear r4
      have q15 : (1) ≤ (F 105 0).toInt ∧ (F 105 0).toInt ≤ (64) := (show B 1 64 (F 105 0) from hI 105 0)
      have e16 : ((F 105 0) - 1).toInt = ((F 105 0).toInt - 1) := (t_sub (show B 1 64 (F 105 0) from hI 105 0) cqb_1_1_1 (by decide +kernel) (by decide +kernel)).trans (by rw [cqn_1])
      have q17 : (0) ≤ ((F 105 0) - 1).toInt ∧ ((F 105 0) - 1).toInt ≤ (63) := (show B 0 63 ((F 105 0) - 1) from B_w (B_sub (show B 1 64 (F 105 0) from hI 105 0) cqb_1_1_1 (by decide +kernel) (by decide +kernel)) (by decide +kernel) (by decide +kernel))
      have r18 : ((1 : Int) = 1) ∨ ((x1.toInt < 0) ∨ (((F 105 0) - 1).toInt < x1.toInt)) := r5
      clear r5
      have b19 : B 0 63 (x1) := ⟨by omega, by omega⟩
      refine ⟨fun hc => ?_, fun hc => ?_⟩
      · exact (B_dis cqb_1_1_1 cqb_0_0_0 hc (by decide +kernel)).elim
      · have i20 : (1 : Int32).toInt ≠ (0 : Int32).toInt := i_ne hc
        have n21 : (1 : Int32).toInt = 1 := cqn_1
        have n22 : (0 : Int32).toInt = 0 := cqn_0
        refine ⟨(show ¬ ((105 : Nat) = NU) from by decide +kernel), ?_⟩
        refine h_B_isWithin  (fun {v48_23} b24 r25 r26 => ?_)
        rcases sp_01 b24 with rfl | rfl
        · have r27 : ((0 : Int) = 0) ∨ ((0 ≤ x2.toInt) ∧ (x2.toInt ≤ ((F 105 1) - 1).toInt)) := r25
          clear r25
          have q28 : (1) ≤ (F 105 1).toInt ∧ (F 105 1).toInt ≤ (64) := (show B 1 64 (F 105 1) from hI 105 1)
          have e29 : ((F 105 1) - 1).toInt = ((F 105 1).toInt - 1) := (t_sub (show B 1 64 (F 105 1) from hI 105 1) cqb_1_1_1 (by decide +kernel) (by decide +kernel)).trans (by rw [cqn_1])
          have q30 : (0) ≤ ((F 105 1) - 1).toInt ∧ ((F 105 1) - 1).toInt ≤ (63) := (show B 0 63 ((F 105 1) - 1) from B_w (B_sub (show B 1 64 (F 105 1) from hI 105 1) cqb_1_1_1 (by decide +kernel) (by decide +kernel)) (by decide +kernel) (by decide +kernel))
          have r31 : ((0 : Int) = 1) ∨ ((x2.toInt < 0) ∨ (((F 105 1) - 1).toInt < x2.toInt)) := r26
          clear r26
          refine ⟨fun hc => ?_, fun hc => ?_⟩
          · have i32 : (0 : Int32).toInt = (0 : Int32).toInt := congrArg Int32.toInt hc
            have n33 : (0 : Int32).toInt = 0 := cqn_0
            have n34 : (0 : Int32).toInt = 0 := cqn_0
            unfold b_B_sample_71
            exact hT15 hI (agc_refl (fs := []) (rs := []) (F := F)) 
          · exact (hc (B_z cqb_0_0_0)).elim
        · have r35 : ((1 : Int) = 0) ∨ ((0 ≤ x2.toInt) ∧ (x2.toInt ≤ ((F 105 1) - 1).toInt)) := r25
          clear r25
          have q36 : (1) ≤ (F 105 1).toInt ∧ (F 105 1).toInt ≤ (64) := (show B 1 64 (F 105 1) from hI 105 1)
          have e37 : ((F 105 1) - 1).toInt = ((F 105 1).toInt - 1) := (t_sub (show B 1 64 (F 105 1) from hI 105 1) cqb_1_1_1 (by decide +kernel) (by decide +kernel)).trans (by rw [cqn_1])
          have q38 : (0) ≤ ((F 105 1) - 1).toInt ∧ ((F 105 1) - 1).toInt ≤ (63) := (show B 0 63 ((F 105 1) - 1) from B_w (B_sub (show B 1 64 (F 105 1) from hI 105 1) cqb_1_1_1 (by decide +kernel) (by decide +kernel)) (by decide +kernel) (by decide +kernel))
          have r39 : ((1 : Int) = 1) ∨ ((x2.toInt < 0) ∨ (((F 105 1) - 1).toInt < x2.toInt)) := r26
          clear r26
          have b40 : B 0 63 (x2) := ⟨by omega, by omega⟩
          refine ⟨fun hc => ?_, fun hc => ?_⟩
          · exact (B_dis cqb_1_1_1 cqb_0_0_0 hc (by decide +kernel)).elim
          · have i41 : (1 : Int32).toInt ≠ (0 : Int32).toInt := i_ne hc
            have n42 : (1 : Int32).toInt = 1 := cqn_1
            have n43 : (0 : Int32).toInt = 0 := cqn_0
            refine ⟨(show ¬ ((105 : Nat) = NU) from by decide +kernel), ?_⟩
            refine h_B_isWithin  (fun {v65_44} b45 r46 r47 => ?_)
            rcases sp_01 b45 with rfl | rfl
            · have r48 : ((0 : Int) = 0) ∨ ((0 ≤ x3.toInt) ∧ (x3.toInt ≤ ((F 105 2) - 1).toInt)) := r46
              clear r46
              have q49 : (1) ≤ (F 105 2).toInt ∧ (F 105 2).toInt ≤ (3) := (show B 1 3 (F 105 2) from hI 105 2)
              have e50 : ((F 105 2) - 1).toInt = ((F 105 2).toInt - 1) := (t_sub (show B 1 3 (F 105 2) from hI 105 2) cqb_1_1_1 (by decide +kernel) (by decide +kernel)).trans (by rw [cqn_1])
              have q51 : (0) ≤ ((F 105 2) - 1).toInt ∧ ((F 105 2) - 1).toInt ≤ (2) := (show B 0 2 ((F 105 2) - 1) from B_w (B_sub (show B 1 3 (F 105 2) from hI 105 2) cqb_1_1_1 (by decide +kernel) (by decide +kernel)) (by decide +kernel) (by decide +kernel))
              have r52 : ((0 : Int) = 1) ∨ ((x3.toInt < 0) ∨ (((F 105 2) - 1).toInt < x3.toInt)) := r47
              clear r47
              refine ⟨fun hc => ?_, fun hc => ?_⟩
              · exact (hc (B_z cqb_0_0_0)).elim
              · have i53 : (0 : Int32).toInt = (0 : Int32).toInt := congrArg Int32.toInt hc
                have n54 : (0 : Int32).toInt = 0 := cqn_0
                have n55 : (0 : Int32).toInt = 0 := cqn_0
                unfold b_B_sample_71
                exact hT15 hI (agc_refl (fs := []) (rs := []) (F := F)) 
            · have r56 : ((1 : Int) = 0) ∨ ((0 ≤ x3.toInt) ∧ (x3.toInt ≤ ((F 105 2) - 1).toInt)) := r46
              clear r46
              have q57 : (1) ≤ (F 105 2).toInt ∧ (F 105 2).toInt ≤ (3) := (show B 1 3 (F 105 2) from hI 105 2)
              have e58 : ((F 105 2) - 1).toInt = ((F 105 2).toInt - 1) := (t_sub (show B 1 3 (F 105 2) from hI 105 2) cqb_1_1_1 (by decide +kernel) (by decide +kernel)).trans (by rw [cqn_1])
              have q59 : (0) ≤ ((F 105 2) - 1).toInt ∧ ((F 105 2) - 1).toInt ≤ (2) := (show B 0 2 ((F 105 2) - 1) from B_w (B_sub (show B 1 3 (F 105 2) from hI 105 2) cqb_1_1_1 (by decide +kernel) (by decide +kernel)) (by decide +kernel) (by decide +kernel))
              have r60 : ((1 : Int) = 1) ∨ ((x3.toInt < 0) ∨ (((F 105 2) - 1).toInt < x3.toInt)) := r47
              clear r47
              have b61 : B 0 2 (x3) := ⟨by omega, by omega⟩
              refine ⟨fun hc => ?_, fun hc => ?_⟩
              · have i62 : (1 : Int32).toInt ≠ (0 : Int32).toInt := i_ne hc
                have n63 : (1 : Int32).toInt = 1 := cqn_1
                have n64 : (0 : Int32).toInt = 0 := cqn_0
                refine ⟨(show ¬ ((105 : Nat) = NU) from by decide +kernel), ?_⟩
                refine ⟨(show ¬ ((7 : Nat) = NU) from by decide +kernel), ?_⟩
                refine h_Pi_draw_u105_x17 hI (fun {FS89_65} {LFS89_65} hI66 g67 => ?_)
                refine ⟨(show ¬ ((105 : Nat) = NU) from by decide +kernel), ?_⟩
                refine ⟨(show c_cl UL 105 = 7 from cl_105), ?_⟩
                refine h_Pi_colour_u105 b19 b40 hI66 (fun {v99_68} b70 => ?_)
                have g71 := agc_tr (agc_refl (fs := [10516]) (rs := [9, 10, 114, 999]) (F := F)) g67 (by decide +kernel) (by decide +kernel)
                exact hK b70 hI66 g71
              · exact (B_dis cqb_1_1_1 cqb_0_0_0 hc (by decide +kernel)).elim
  · have b72 : B 0 0 (F 105 17) := B_w (B_eq hc cqb_0_0_0) (by decide +kernel) (by decide +kernel)
    have q73 : (0) ≤ (F 105 17).toInt ∧ (F 105 17).toInt ≤ (0) := (show B 0 0 (F 105 17) from B_w b72 (by decide +kernel) (by decide +kernel))
    have i74 : (F 105 17).toInt = (0 : Int32).toInt := congrArg Int32.toInt hc
    have n75 : (0 : Int32).toInt = 0 := cqn_0
    exact hT13 hI (agc_refl (fs := []) (rs := []) (F := F)) 
set_option maxRecDepth 20000 in
set_option maxHeartbeats 4000000 in
theorem h_B_take_u0_a0 {b : Bool} {P : Nat → Nat → Nat} {F : cF} {L : cL} {K : cs → Prop} {T : Nat → cs → Prop} (hI : IMc F) (hK : ∀ {Z : cF} {LZ : cL}, IMc Z → agc [100, 101, 102, 10516] [2, 9, 10, 114, 999] F Z → K (Z, LZ, PC false b P)) (hT13 : ∀ {Z : cF} {LZ : cL}, IMc Z → agc [] [] F Z → T 13 (Z, LZ, PC false b P)) : p_B_take UL 0 (F, L, PC false b P) K T := by
  unfold p_B_take
  refine ⟨(show ¬ ((105 : Nat) = NU) from by decide +kernel), ?_⟩
  refine ⟨(show c_cl UL 105 = 7 from cl_105), ?_⟩
  refine ⟨fun hc => ?_, fun hc => ?_⟩
  · have b1 : B 1 1 (F 105 17) := B_w (B_n0 (show B 0 1 (F 105 17) from hI 105 17) hc) (by decide +kernel) (by decide +kernel)
    refine ⟨(show ¬ ((105 : Nat) = NU) from by decide +kernel), ?_⟩
    refine ⟨(show ¬ ((7 : Nat) = NU) from by decide +kernel), ?_⟩
    refine h_Pi_draw_u105_x17 hI (fun {FS28_2} {LFS28_2} hI3 g4 => ?_)
    refine ⟨(show ¬ ((1 : Nat) = NU) from by decide +kernel), ?_⟩
    refine ⟨(show ¬ ((105 : Nat) = NU) from by decide +kernel), ?_⟩
    refine ⟨(show c_cl UL 105 = 7 from cl_105), ?_⟩
    refine ⟨(show ¬ ((105 : Nat) = NU) from by decide +kernel), ?_⟩
    refine ⟨(show ¬ ((105 : Nat) = NU) from by decide +kernel), ?_⟩
    refine ⟨(show c_cl UL 1 = 2 from cl_1), ?_⟩
    refine h_Ca_begin_u1 (B_w (B_eq (g4.1 105 0 rfl rfl) (show B 1 64 (F 105 0) from hI 105 0)) (by decide +kernel) (by decide +kernel)) (B_w (B_eq (g4.1 105 1 rfl rfl) (show B 1 64 (F 105 1) from hI 105 1)) (by decide +kernel) (by decide +kernel)) (B_w (B_eq (g4.1 105 2 rfl rfl) (show B 1 3 (F 105 2) from hI 105 2)) (by decide +kernel) (by decide +kernel)) hI3 (fun {FS56_5} {LFS56_5} hI6 g7 r8 => ?_)
    have r9 : (FS56_5 1 2).toInt = (FS28_2 105 2).toInt := r8
    clear r8
    have q10 : (1) ≤ (FS56_5 1 2).toInt ∧ (FS56_5 1 2).toInt ≤ (3) := (show B 1 3 (FS56_5 1 2) from hI6 1 2)
    have q11 : (1) ≤ (F 105 2).toInt ∧ (F 105 2).toInt ≤ (3) := (show B 1 3 (F 105 2) from hI 105 2)
    have e12 : (FS28_2 105 2).toInt = (F 105 2).toInt := (congrArg Int32.toInt (g4.1 105 2 rfl rfl)).trans rfl
    refine ⟨fun yx1 yS => B 0 3 yx1 ∧ ∃ (T14 : cF) (LT14 : cL), yS = (T14, LT14, PC false b P) ∧ IMc T14 ∧ agc [] [2, 999] FS56_5 T14, fun yx1 yS => (3 - yx1.toInt).toNat, ⟨(B_w cqb_0_0_0 (by decide +kernel) (by decide +kernel)), _, _, rfl, hI6, (agc_refl (fs := []) (rs := [2, 999]) (F := FS56_5))⟩, fun x1_13 ST14 hIv => ?_⟩
    obtain ⟨b15, T14, LT14, rfl, hI16, g17⟩ := hIv
    suffices hs : ∀ (R61 : Int32 → cs → Prop), (∀ zx1 zS, (B 0 3 zx1 ∧ ∃ (T14 : cF) (LT14 : cL), zS = (T14, LT14, PC false b P) ∧ IMc T14 ∧ agc [] [2, 999] FS56_5 T14) → (3 - zx1.toInt).toNat < (3 - x1_13.toInt).toNat → R61 zx1 zS) → b_B_take_61 UL 0 x1_13 (T14, LT14, PC false b P) R61 K T from hs _ (fun _ _ h1 h2 => ⟨h1, h2⟩)
    intro R61 hR610
    have hR61 := fun {zx1} {zS} => hR610 zx1 zS
    unfold b_B_take_61
    refine ⟨(show ¬ ((105 : Nat) = NU) from by decide +kernel), ?_⟩
    refine ⟨(show c_cl UL 105 = 7 from cl_105), ?_⟩
    refine ⟨fun hc => ?_, fun hc => ?_⟩
    · have hq18 := hc
      have b19 : B 1 3 (x1_13) := B_w (B_leR (B_eq (((g17.1 105 2 rfl rfl).trans (g7.1 105 2 rfl rfl)).trans (g4.1 105 2 rfl rfl)) (show B 1 3 (F 105 2) from hI 105 2)) b15 hq18) (by decide +kernel) (by decide +kernel)
      have e20 : (T14 105 2).toInt = (F 105 2).toInt := (congrArg Int32.toInt (((g17.1 105 2 rfl rfl).trans (g7.1 105 2 rfl rfl)).trans (g4.1 105 2 rfl rfl))).trans rfl
      have q21 : (1) ≤ (x1_13).toInt ∧ (x1_13).toInt ≤ (3) := (show B 1 3 (x1_13) from B_w b19 (by decide +kernel) (by decide +kernel))
      have i22 : (T14 105 2).toInt ≤ (x1_13).toInt := i_le hq18
      have g25 := agc_tr (agc_refl (fs := [100, 101, 102, 10516]) (rs := [2, 9, 10, 114, 999]) (F := F)) g4 (by decide +kernel) (by decide +kernel)
      have g24 := agc_tr g25 g7 (by decide +kernel) (by decide +kernel)
      have g23 := agc_tr g24 g17 (by decide +kernel) (by decide +kernel)
      exact hK hI16 g23
    · have hq26 := (nle_lt hc)
      have b27 : B 0 2 (x1_13) := B_w (B_ltL b15 (B_eq (((g17.1 105 2 rfl rfl).trans (g7.1 105 2 rfl rfl)).trans (g4.1 105 2 rfl rfl)) (show B 1 3 (F 105 2) from hI 105 2)) hq26) (by decide +kernel) (by decide +kernel)
      have q28 : (0) ≤ (x1_13).toInt ∧ (x1_13).toInt ≤ (2) := (show B 0 2 (x1_13) from B_w b27 (by decide +kernel) (by decide +kernel))
      have e29 : (T14 105 2).toInt = (F 105 2).toInt := (congrArg Int32.toInt (((g17.1 105 2 rfl rfl).trans (g7.1 105 2 rfl rfl)).trans (g4.1 105 2 rfl rfl))).trans rfl
      have i30 : (x1_13).toInt < (T14 105 2).toInt := i_lt hq26
      refine ⟨fun yx1 yx2 yS => x1_13 = yx1 ∧ B 0 64 yx2 ∧ ∃ (T33 : cF) (LT33 : cL), yS = (T33, LT33, PC false b P) ∧ IMc T33 ∧ agc [] [2, 999] T14 T33, fun yx1 yx2 yS => (64 - yx2.toInt).toNat, ⟨rfl, (B_w cqb_0_0_0 (by decide +kernel) (by decide +kernel)), _, _, rfl, hI16, (agc_refl (fs := []) (rs := [2, 999]) (F := T14))⟩, fun x1_31 x2_32 ST33 hIv => ?_⟩
      obtain ⟨rfl, b34, T33, LT33, rfl, hI35, g36⟩ := hIv
      suffices hs : ∀ (R74 : Int32 → Int32 → cs → Prop), (∀ zx1 zx2 zS, (x1_13 = zx1 ∧ B 0 64 zx2 ∧ ∃ (T33 : cF) (LT33 : cL), zS = (T33, LT33, PC false b P) ∧ IMc T33 ∧ agc [] [2, 999] T14 T33) → (64 - zx2.toInt).toNat < (64 - x2_32.toInt).toNat → R74 zx1 zx2 zS) → b_B_take_74 UL 0 x1_13 x2_32 (T33, LT33, PC false b P) R61 R74 K T from hs _ (fun _ _ _ h1 h2 => ⟨h1, h2⟩)
      intro R74 hR740
      have hR74 := fun {zx1} {zx2} {zS} => hR740 zx1 zx2 zS
      unfold b_B_take_74
      refine ⟨(show ¬ ((105 : Nat) = NU) from by decide +kernel), ?_⟩
      refine ⟨(show c_cl UL 105 = 7 from cl_105), ?_⟩
      refine ⟨fun hc => ?_, fun hc => ?_⟩
      · have hq37 := hc
        have b38 : B 1 64 (x2_32) := B_w (B_leR (B_eq ((((g36.1 105 1 rfl rfl).trans (g17.1 105 1 rfl rfl)).trans (g7.1 105 1 rfl rfl)).trans (g4.1 105 1 rfl rfl)) (show B 1 64 (F 105 1) from hI 105 1)) b34 hq37) (by decide +kernel) (by decide +kernel)
        have q39 : (1) ≤ (F 105 1).toInt ∧ (F 105 1).toInt ≤ (64) := (show B 1 64 (F 105 1) from hI 105 1)
        have e40 : (T33 105 1).toInt = (F 105 1).toInt := (congrArg Int32.toInt ((((g36.1 105 1 rfl rfl).trans (g17.1 105 1 rfl rfl)).trans (g7.1 105 1 rfl rfl)).trans (g4.1 105 1 rfl rfl))).trans rfl
        have q41 : (1) ≤ (x2_32).toInt ∧ (x2_32).toInt ≤ (64) := (show B 1 64 (x2_32) from B_w b38 (by decide +kernel) (by decide +kernel))
        have i42 : (T33 105 1).toInt ≤ (x2_32).toInt := i_le hq37
        have g44 := agc_tr (agc_refl (fs := []) (rs := [2, 999]) (F := FS56_5)) g17 (by decide +kernel) (by decide +kernel)
        have g43 := agc_tr g44 g36 (by decide +kernel) (by decide +kernel)
        have e45 : (x1_13 + 1).toInt = ((x1_13).toInt + 1) := (t_add b27 cqb_1_1_1 (by decide +kernel) (by decide +kernel)).trans (by rw [cqn_1])
        have q46 : (1) ≤ (x1_13 + 1).toInt ∧ (x1_13 + 1).toInt ≤ (3) := (show B 1 3 (x1_13 + 1) from B_w (B_add b27 cqb_1_1_1 (by decide +kernel) (by decide +kernel)) (by decide +kernel) (by decide +kernel))
        exact hR61 ⟨(B_w (B_add b27 cqb_1_1_1 (by decide +kernel) (by decide +kernel)) (by decide +kernel) (by decide +kernel)), _, _, rfl, hI35, g43⟩ (by show (3 - (x1_13 + 1).toInt).toNat < (3 - x1_13.toInt).toNat; omega)
      · have hq47 := (nle_lt hc)
        have b48 : B 0 63 (x2_32) := B_w (B_ltL b34 (B_eq ((((g36.1 105 1 rfl rfl).trans (g17.1 105 1 rfl rfl)).trans (g7.1 105 1 rfl rfl)).trans (g4.1 105 1 rfl rfl)) (show B 1 64 (F 105 1) from hI 105 1)) hq47) (by decide +kernel) (by decide +kernel)
        have q49 : (0) ≤ (x2_32).toInt ∧ (x2_32).toInt ≤ (63) := (show B 0 63 (x2_32) from B_w b48 (by decide +kernel) (by decide +kernel))
        have q50 : (1) ≤ (F 105 1).toInt ∧ (F 105 1).toInt ≤ (64) := (show B 1 64 (F 105 1) from hI 105 1)
        have e51 : (T33 105 1).toInt = (F 105 1).toInt := (congrArg Int32.toInt ((((g36.1 105 1 rfl rfl).trans (g17.1 105 1 rfl rfl)).trans (g7.1 105 1 rfl rfl)).trans (g4.1 105 1 rfl rfl))).trans rfl
        have i52 : (x2_32).toInt < (T33 105 1).toInt := i_lt hq47
        refine ⟨fun yx1 yx2 yx3 yS => x1_13 = yx1 ∧ x2_32 = yx2 ∧ B 0 64 yx3 ∧ ∃ (T56 : cF) (LT56 : cL), yS = (T56, LT56, PC false b P) ∧ IMc T56 ∧ agc [] [2] T33 T56, fun yx1 yx2 yx3 yS => (64 - yx3.toInt).toNat, ⟨rfl, rfl, (B_w cqb_0_0_0 (by decide +kernel) (by decide +kernel)), _, _, rfl, hI35, (agc_refl (fs := []) (rs := [2]) (F := T33))⟩, fun x1_53 x2_54 x3_55 ST56 hIv => ?_⟩
        obtain ⟨rfl, rfl, b57, T56, LT56, rfl, hI58, g59⟩ := hIv
        suffices hs : ∀ (R87 : Int32 → Int32 → Int32 → cs → Prop), (∀ zx1 zx2 zx3 zS, (x1_13 = zx1 ∧ x2_32 = zx2 ∧ B 0 64 zx3 ∧ ∃ (T56 : cF) (LT56 : cL), zS = (T56, LT56, PC false b P) ∧ IMc T56 ∧ agc [] [2] T33 T56) → (64 - zx3.toInt).toNat < (64 - x3_55.toInt).toNat → R87 zx1 zx2 zx3 zS) → b_B_take_87 UL 0 x1_13 x2_32 x3_55 (T56, LT56, PC false b P) R61 R74 R87 K T from hs _ (fun _ _ _ _ h1 h2 => ⟨h1, h2⟩)
        intro R87 hR870
        have hR87 := fun {zx1} {zx2} {zx3} {zS} => hR870 zx1 zx2 zx3 zS
        unfold b_B_take_87
        refine ⟨(show ¬ ((105 : Nat) = NU) from by decide +kernel), ?_⟩
        refine ⟨(show c_cl UL 105 = 7 from cl_105), ?_⟩
        refine ⟨fun hc => ?_, fun hc => ?_⟩
        · have hq60 := hc
          have b61 : B 1 64 (x3_55) := B_w (B_leR (B_eq (((((g59.1 105 0 rfl rfl).trans (g36.1 105 0 rfl rfl)).trans (g17.1 105 0 rfl rfl)).trans (g7.1 105 0 rfl rfl)).trans (g4.1 105 0 rfl rfl)) (show B 1 64 (F 105 0) from hI 105 0)) b57 hq60) (by decide +kernel) (by decide +kernel)
          have q62 : (1) ≤ (F 105 0).toInt ∧ (F 105 0).toInt ≤ (64) := (show B 1 64 (F 105 0) from hI 105 0)
          have e63 : (T56 105 0).toInt = (F 105 0).toInt := (congrArg Int32.toInt (((((g59.1 105 0 rfl rfl).trans (g36.1 105 0 rfl rfl)).trans (g17.1 105 0 rfl rfl)).trans (g7.1 105 0 rfl rfl)).trans (g4.1 105 0 rfl rfl))).trans rfl
          have q64 : (1) ≤ (x3_55).toInt ∧ (x3_55).toInt ≤ (64) := (show B 1 64 (x3_55) from B_w b61 (by decide +kernel) (by decide +kernel))
          have i65 : (T56 105 0).toInt ≤ (x3_55).toInt := i_le hq60
          have g67 := agc_tr (agc_refl (fs := []) (rs := [2, 999]) (F := T14)) g36 (by decide +kernel) (by decide +kernel)
          have g66 := agc_tr g67 g59 (by decide +kernel) (by decide +kernel)
          have e68 : (x2_32 + 1).toInt = ((x2_32).toInt + 1) := (t_add b48 cqb_1_1_1 (by decide +kernel) (by decide +kernel)).trans (by rw [cqn_1])
          have q69 : (1) ≤ (x2_32 + 1).toInt ∧ (x2_32 + 1).toInt ≤ (64) := (show B 1 64 (x2_32 + 1) from B_w (B_add b48 cqb_1_1_1 (by decide +kernel) (by decide +kernel)) (by decide +kernel) (by decide +kernel))
          exact hR74 ⟨rfl, (B_w (B_add b48 cqb_1_1_1 (by decide +kernel) (by decide +kernel)) (by decide +kernel) (by decide +kernel)), _, _, rfl, hI58, g66⟩ (by show (64 - (x2_32 + 1).toInt).toNat < (64 - x2_32.toInt).toNat; omega)
        · have hq70 := (nle_lt hc)
          have b71 : B 0 63 (x3_55) := B_w (B_ltL b57 (B_eq (((((g59.1 105 0 rfl rfl).trans (g36.1 105 0 rfl rfl)).trans (g17.1 105 0 rfl rfl)).trans (g7.1 105 0 rfl rfl)).trans (g4.1 105 0 rfl rfl)) (show B 1 64 (F 105 0) from hI 105 0)) hq70) (by decide +kernel) (by decide +kernel)
          have q72 : (0) ≤ (x3_55).toInt ∧ (x3_55).toInt ≤ (63) := (show B 0 63 (x3_55) from B_w b71 (by decide +kernel) (by decide +kernel))
          have q73 : (1) ≤ (F 105 0).toInt ∧ (F 105 0).toInt ≤ (64) := (show B 1 64 (F 105 0) from hI 105 0)
          have e74 : (T56 105 0).toInt = (F 105 0).toInt := (congrArg Int32.toInt (((((g59.1 105 0 rfl rfl).trans (g36.1 105 0 rfl rfl)).trans (g17.1 105 0 rfl rfl)).trans (g7.1 105 0 rfl rfl)).trans (g4.1 105 0 rfl rfl))).trans rfl
          have i75 : (x3_55).toInt < (T56 105 0).toInt := i_lt hq70
          refine ⟨(show ¬ ((1 : Nat) = NU) from by decide +kernel), ?_⟩
          refine ⟨(show c_cl UL 1 = 2 from cl_1), ?_⟩
          refine ⟨(show ¬ ((2 : Nat) = NU) from by decide +kernel), ?_⟩
          try unfold p_B_spot
          refine ⟨(show ¬ ((105 : Nat) = NU) from by decide +kernel), ?_⟩
          refine h_Pi_colour_u105 b71 b48 hI58 (fun {v118_76} b78 => ?_)
          refine ⟨(show c_cl UL 2 = 902 from cl_2), ?_⟩
          refine ⟨(show vp_in (((4096 * x1_13) + (64 * x2_32)) + x3_55) 12288 from vp_B (B_add (B_add (B_mul cqb_4096_4096_4096 b27 (by decide +kernel) (by decide +kernel) (by decide +kernel)) (B_mul cqb_64_64_64 b48 (by decide +kernel) (by decide +kernel) (by decide +kernel)) (by decide +kernel) (by decide +kernel)) b71 (by decide +kernel) (by decide +kernel)) (by decide +kernel) (by decide +kernel)), ?_⟩
          have hI79 := IMc_u (u := 2) (i := (((4096 * x1_13) + (64 * x2_32)) + x3_55).toNatClampNeg) (v := v118_76) hI58 (show B (-2147483648) 2147483647 (v118_76) from (B_w b78 (by decide +kernel) (by decide +kernel)))
          have g81 := agc_tr (agc_refl (fs := []) (rs := [2]) (F := T33)) g59 (by decide +kernel) (by decide +kernel)
          have g80 := agc_r (u := 2) (w := upd (T56 2) (((4096 * x1_13) + (64 * x2_32)) + x3_55).toNatClampNeg v118_76) g81 rfl (by decide +kernel)
          have e82 : (x3_55 + 1).toInt = ((x3_55).toInt + 1) := (t_add b71 cqb_1_1_1 (by decide +kernel) (by decide +kernel)).trans (by rw [cqn_1])
          have q83 : (1) ≤ (x3_55 + 1).toInt ∧ (x3_55 + 1).toInt ≤ (64) := (show B 1 64 (x3_55 + 1) from B_w (B_add b71 cqb_1_1_1 (by decide +kernel) (by decide +kernel)) (by decide +kernel) (by decide +kernel))
          exact hR87 ⟨rfl, rfl, (B_w (B_add b71 cqb_1_1_1 (by decide +kernel) (by decide +kernel)) (by decide +kernel) (by decide +kernel)), _, _, rfl, hI79, g80⟩ (by show (64 - (x3_55 + 1).toInt).toNat < (64 - x3_55.toInt).toNat; omega)
  · have b84 : B 0 0 (F 105 17) := B_w (B_eq hc cqb_0_0_0) (by decide +kernel) (by decide +kernel)
    have q85 : (0) ≤ (F 105 17).toInt ∧ (F 105 17).toInt ≤ (0) := (show B 0 0 (F 105 17) from B_w b84 (by decide +kernel) (by decide +kernel))
    have i86 : (F 105 17).toInt = (0 : Int32).toInt := congrArg Int32.toInt hc
    have n87 : (0 : Int32).toInt = 0 := cqn_0
    exact hT13 hI (agc_refl (fs := []) (rs := []) (F := F)) 
set_option maxRecDepth 20000 in
set_option maxHeartbeats 4000000 in
theorem h_Pi_hasBlock_u105 {a : Bool} {b : Bool} {P : Nat → Nat → Nat} {x1 : Int32} {x2 : Int32} {F : cF} {L : cL} {K : Int32 → cs → Prop} (hI : IMc F) (hK : ∀ {v : Int32}, B 0 1 v → ((v.toInt = 0) ∨ ((0 ≤ x1.toInt) ∧ ((x1.toInt ≤ 2) ∧ ((0 ≤ x2.toInt) ∧ (x2.toInt ≤ 63))))) → K v (F, L, PC a b P)) : p_Pi_hasBlock UL 105 x1 x2 (F, L, PC a b P) K := by
  unfold p_Pi_hasBlock
  refine h_B_isWithin  (fun {v8_1} b2 r3 r4 => ?_)
  rcases sp_01 b2 with rfl | rfl
  · have r5 : ((0 : Int) = 0) ∨ ((0 ≤ x1.toInt) ∧ (x1.toInt ≤ ((F 105 2) - 1).toInt)) := r3
    clear r3
    have q6 : (1) ≤ (F 105 2).toInt ∧ (F 105 2).toInt ≤ (3) := (show B 1 3 (F 105 2) from hI 105 2)
    have e7 : ((F 105 2) - 1).toInt = ((F 105 2).toInt - 1) := (t_sub (show B 1 3 (F 105 2) from hI 105 2) cqb_1_1_1 (by decide +kernel) (by decide +kernel)).trans (by rw [cqn_1])
    have q8 : (0) ≤ ((F 105 2) - 1).toInt ∧ ((F 105 2) - 1).toInt ≤ (2) := (show B 0 2 ((F 105 2) - 1) from B_w (B_sub (show B 1 3 (F 105 2) from hI 105 2) cqb_1_1_1 (by decide +kernel) (by decide +kernel)) (by decide +kernel) (by decide +kernel))
    have r9 : ((0 : Int) = 1) ∨ ((x1.toInt < 0) ∨ (((F 105 2) - 1).toInt < x1.toInt)) := r4
    clear r4
    refine ⟨fun hc => ?_, fun hc => ?_⟩
    · have i10 : (0 : Int32).toInt = (0 : Int32).toInt := congrArg Int32.toInt hc
      have n11 : (0 : Int32).toInt = 0 := cqn_0
      have n12 : (0 : Int32).toInt = 0 := cqn_0
      unfold b_Pi_hasBlock_34
      unfold b_Pi_hasBlock_35
      refine ⟨B_nar cqb_0_0_0 (by decide +kernel) (by decide +kernel), ?_⟩
      exact hK (B_w cqb_0_0_0 (by decide +kernel) (by decide +kernel)) (by show ((0 : Int) = 0) ∨ ((0 ≤ x1.toInt) ∧ ((x1.toInt ≤ 2) ∧ ((0 ≤ x2.toInt) ∧ (x2.toInt ≤ 63)))); first | with_reducible assumption | omega)
    · exact (hc (B_z cqb_0_0_0)).elim
  · have r13 : ((1 : Int) = 0) ∨ ((0 ≤ x1.toInt) ∧ (x1.toInt ≤ ((F 105 2) - 1).toInt)) := r3
    clear r3
    have q14 : (1) ≤ (F 105 2).toInt ∧ (F 105 2).toInt ≤ (3) := (show B 1 3 (F 105 2) from hI 105 2)
    have e15 : ((F 105 2) - 1).toInt = ((F 105 2).toInt - 1) := (t_sub (show B 1 3 (F 105 2) from hI 105 2) cqb_1_1_1 (by decide +kernel) (by decide +kernel)).trans (by rw [cqn_1])
    have q16 : (0) ≤ ((F 105 2) - 1).toInt ∧ ((F 105 2) - 1).toInt ≤ (2) := (show B 0 2 ((F 105 2) - 1) from B_w (B_sub (show B 1 3 (F 105 2) from hI 105 2) cqb_1_1_1 (by decide +kernel) (by decide +kernel)) (by decide +kernel) (by decide +kernel))
    have r17 : ((1 : Int) = 1) ∨ ((x1.toInt < 0) ∨ (((F 105 2) - 1).toInt < x1.toInt)) := r4
    clear r4
    have b18 : B 0 2 (x1) := ⟨by omega, by omega⟩
    refine ⟨fun hc => ?_, fun hc => ?_⟩
    · exact (B_dis cqb_1_1_1 cqb_0_0_0 hc (by decide +kernel)).elim
    · have i19 : (1 : Int32).toInt ≠ (0 : Int32).toInt := i_ne hc
      have n20 : (1 : Int32).toInt = 1 := cqn_1
      have n21 : (0 : Int32).toInt = 0 := cqn_0
      refine ⟨(show ¬ ((111 : Nat) = NU) from by decide +kernel), ?_⟩
      refine ⟨(show c_cl UL 111 = 902 from cl_111), ?_⟩
      refine ⟨(show vp_in (x1) 3 from vp_B b18 (by decide +kernel) (by decide +kernel)), ?_⟩
      refine h_B_isWithin  (fun {v24_22} b23 r24 r25 => ?_)
      rcases sp_01 b23 with rfl | rfl
      · have r26 : ((0 : Int) = 0) ∨ ((0 ≤ x2.toInt) ∧ (x2.toInt ≤ ((F 111 x1.toNatClampNeg) - 1).toInt)) := r24
        clear r24
        have q27 : (0) ≤ (F 111 x1.toNatClampNeg).toInt ∧ (F 111 x1.toNatClampNeg).toInt ≤ (64) := (show B 0 64 (F 111 x1.toNatClampNeg) from hI 111 x1.toNatClampNeg)
        have e28 : ((F 111 x1.toNatClampNeg) - 1).toInt = ((F 111 x1.toNatClampNeg).toInt - 1) := (t_sub (show B 0 64 (F 111 x1.toNatClampNeg) from hI 111 x1.toNatClampNeg) cqb_1_1_1 (by decide +kernel) (by decide +kernel)).trans (by rw [cqn_1])
        have q29 : (-1) ≤ ((F 111 x1.toNatClampNeg) - 1).toInt ∧ ((F 111 x1.toNatClampNeg) - 1).toInt ≤ (63) := (show B (-1) 63 ((F 111 x1.toNatClampNeg) - 1) from B_w (B_sub (show B 0 64 (F 111 x1.toNatClampNeg) from hI 111 x1.toNatClampNeg) cqb_1_1_1 (by decide +kernel) (by decide +kernel)) (by decide +kernel) (by decide +kernel))
        have r30 : ((0 : Int) = 1) ∨ ((x2.toInt < 0) ∨ (((F 111 x1.toNatClampNeg) - 1).toInt < x2.toInt)) := r25
        clear r25
        refine ⟨fun hc => ?_, fun hc => ?_⟩
        · have i31 : (0 : Int32).toInt = (0 : Int32).toInt := congrArg Int32.toInt hc
          have n32 : (0 : Int32).toInt = 0 := cqn_0
          have n33 : (0 : Int32).toInt = 0 := cqn_0
          unfold b_Pi_hasBlock_34
          unfold b_Pi_hasBlock_35
          refine ⟨B_nar cqb_0_0_0 (by decide +kernel) (by decide +kernel), ?_⟩
          exact hK (B_w cqb_0_0_0 (by decide +kernel) (by decide +kernel)) (by show ((0 : Int) = 0) ∨ ((0 ≤ x1.toInt) ∧ ((x1.toInt ≤ 2) ∧ ((0 ≤ x2.toInt) ∧ (x2.toInt ≤ 63)))); first | with_reducible assumption | omega)
        · exact (hc (B_z cqb_0_0_0)).elim
      · have r34 : ((1 : Int) = 0) ∨ ((0 ≤ x2.toInt) ∧ (x2.toInt ≤ ((F 111 x1.toNatClampNeg) - 1).toInt)) := r24
        clear r24
        have q35 : (0) ≤ (F 111 x1.toNatClampNeg).toInt ∧ (F 111 x1.toNatClampNeg).toInt ≤ (64) := (show B 0 64 (F 111 x1.toNatClampNeg) from hI 111 x1.toNatClampNeg)
        have e36 : ((F 111 x1.toNatClampNeg) - 1).toInt = ((F 111 x1.toNatClampNeg).toInt - 1) := (t_sub (show B 0 64 (F 111 x1.toNatClampNeg) from hI 111 x1.toNatClampNeg) cqb_1_1_1 (by decide +kernel) (by decide +kernel)).trans (by rw [cqn_1])
        have q37 : (-1) ≤ ((F 111 x1.toNatClampNeg) - 1).toInt ∧ ((F 111 x1.toNatClampNeg) - 1).toInt ≤ (63) := (show B (-1) 63 ((F 111 x1.toNatClampNeg) - 1) from B_w (B_sub (show B 0 64 (F 111 x1.toNatClampNeg) from hI 111 x1.toNatClampNeg) cqb_1_1_1 (by decide +kernel) (by decide +kernel)) (by decide +kernel) (by decide +kernel))
        have r38 : ((1 : Int) = 1) ∨ ((x2.toInt < 0) ∨ (((F 111 x1.toNatClampNeg) - 1).toInt < x2.toInt)) := r25
        clear r25
        have b39 : B 0 63 (x2) := ⟨by omega, by omega⟩
        refine ⟨fun hc => ?_, fun hc => ?_⟩
        · exact (B_dis cqb_1_1_1 cqb_0_0_0 hc (by decide +kernel)).elim
        · have i40 : (1 : Int32).toInt ≠ (0 : Int32).toInt := i_ne hc
          have n41 : (1 : Int32).toInt = 1 := cqn_1
          have n42 : (0 : Int32).toInt = 0 := cqn_0
          unfold b_Pi_hasBlock_35
          refine ⟨B_nar cqb_1_1_1 (by decide +kernel) (by decide +kernel), ?_⟩
          exact hK (B_w cqb_1_1_1 (by decide +kernel) (by decide +kernel)) (by show ((1 : Int) = 0) ∨ ((0 ≤ x1.toInt) ∧ ((x1.toInt ≤ 2) ∧ ((0 ≤ x2.toInt) ∧ (x2.toInt ≤ 63)))); first | with_reducible assumption | omega)
set_option maxRecDepth 20000 in
set_option maxHeartbeats 4000000 in
theorem h_B_level_u0_a0 {b : Bool} {P : Nat → Nat → Nat} {x1 : Int32} {x2 : Int32} {x3 : Int32} {x4 : Int32} {F : cF} {L : cL} {K : Int32 → cs → Prop} {T : Nat → cs → Prop} (hI : IMc F) (hK : ∀ {v : Int32}, B (-2147483648) 2147483647 v → K v (F, L, PC false b P)) (hT13 : ∀ {Z : cF} {LZ : cL}, IMc Z → agc [] [] F Z → T 13 (Z, LZ, PC false b P)) (hT14 : ∀ {Z : cF} {LZ : cL}, IMc Z → agc [] [] F Z → T 14 (Z, LZ, PC false b P)) (hT15 : ∀ {Z : cF} {LZ : cL}, IMc Z → agc [] [] F Z → T 15 (Z, LZ, PC false b P)) : p_B_level UL 0 x1 x2 x3 x4 (F, L, PC false b P) K T := by
  unfold p_B_level
  refine h_B_isWithin  (fun {v3_1} b2 r3 r4 => ?_)
  rcases sp_01 b2 with rfl | rfl
  · have r5 : ((0 : Int) = 0) ∨ ((0 ≤ x1.toInt) ∧ (x1.toInt ≤ 1)) := r3
    clear r3
    have r6 : ((0 : Int) = 1) ∨ ((x1.toInt < 0) ∨ (1 < x1.toInt)) := r4
    clear r4
    refine ⟨fun hc => ?_, fun hc => ?_⟩
    · exact (hc (B_z cqb_0_0_0)).elim
    · have i7 : (0 : Int32).toInt = (0 : Int32).toInt := congrArg Int32.toInt hc
      have n8 : (0 : Int32).toInt = 0 := cqn_0
      have n9 : (0 : Int32).toInt = 0 := cqn_0
      exact hT14 hI (agc_refl (fs := []) (rs := []) (F := F)) 
  · have r10 : ((1 : Int) = 0) ∨ ((0 ≤ x1.toInt) ∧ (x1.toInt ≤ 1)) := r3
    clear r3
    have r11 : ((1 : Int) = 1) ∨ ((x1.toInt < 0) ∨ (1 < x1.toInt)) := r4
    clear r4
    have b12 : B 0 1 (x1) := ⟨by omega, by omega⟩
    refine ⟨fun hc => ?_, fun hc => ?_⟩
    · have i13 : (1 : Int32).toInt ≠ (0 : Int32).toInt := i_ne hc
      have n14 : (1 : Int32).toInt = 1 := cqn_1
      have n15 : (0 : Int32).toInt = 0 := cqn_0
      refine ⟨fun hc => ?_, fun hc => ?_⟩
      · have i16 : (x1).toInt ≠ (1 : Int32).toInt := i_ne hc
        have n17 : (1 : Int32).toInt = 1 := cqn_1
        refine ⟨(show ¬ ((4 : Nat) = NU) from by decide +kernel), ?_⟩
        refine ⟨(show c_cl UL 4 = 6 from cl_4), ?_⟩
        refine ⟨(show ¬ ((12 : Nat) = NU) from by decide +kernel), ?_⟩
        unfold b_B_level_38
        refine ⟨(show c_cl UL 12 = 7 from cl_12), ?_⟩
        refine ⟨fun hc => ?_, fun hc => ?_⟩
        · have b18 : B 1 1 (F 12 17) := B_w (B_n0 (show B 0 1 (F 12 17) from hI 12 17) hc) (by decide +kernel) (by decide +kernel)
          refine h_Pi_hasBlock_u12 hI (fun {v62_19} b21 r22 => ?_)
          rcases sp_01 b21 with rfl | rfl
          · have r23 : ((0 : Int) = 0) ∨ ((0 ≤ x2.toInt) ∧ ((x2.toInt ≤ 2) ∧ ((0 ≤ x3.toInt) ∧ (x3.toInt ≤ 63)))) := r22
            clear r22
            refine ⟨fun hc => ?_, fun hc => ?_⟩
            · have i24 : (0 : Int32).toInt = (0 : Int32).toInt := congrArg Int32.toInt hc
              have n25 : (0 : Int32).toInt = 0 := cqn_0
              have n26 : (0 : Int32).toInt = 0 := cqn_0
              unfold b_B_level_79
              exact hT15 hI (agc_refl (fs := []) (rs := []) (F := F)) 
            · exact (hc (B_z cqb_0_0_0)).elim
          · have r27 : ((1 : Int) = 0) ∨ ((0 ≤ x2.toInt) ∧ ((x2.toInt ≤ 2) ∧ ((0 ≤ x3.toInt) ∧ (x3.toInt ≤ 63)))) := r22
            clear r22
            have b28 : B 0 2 (x2) := ⟨by omega, by omega⟩
            have b29 : B 0 63 (x3) := ⟨by omega, by omega⟩
            refine ⟨fun hc => ?_, fun hc => ?_⟩
            · exact (B_dis cqb_1_1_1 cqb_0_0_0 hc (by decide +kernel)).elim
            · have i30 : (1 : Int32).toInt ≠ (0 : Int32).toInt := i_ne hc
              have n31 : (1 : Int32).toInt = 1 := cqn_1
              have n32 : (0 : Int32).toInt = 0 := cqn_0
              refine h_B_isWithin  (fun {v73_33} b34 r35 r36 => ?_)
              rcases sp_01 b34 with rfl | rfl
              · have r37 : ((0 : Int) = 0) ∨ ((0 ≤ x4.toInt) ∧ (x4.toInt ≤ 63)) := r35
                clear r35
                have r38 : ((0 : Int) = 1) ∨ ((x4.toInt < 0) ∨ (63 < x4.toInt)) := r36
                clear r36
                refine ⟨fun hc => ?_, fun hc => ?_⟩
                · exact (hc (B_z cqb_0_0_0)).elim
                · have i39 : (0 : Int32).toInt = (0 : Int32).toInt := congrArg Int32.toInt hc
                  have n40 : (0 : Int32).toInt = 0 := cqn_0
                  have n41 : (0 : Int32).toInt = 0 := cqn_0
                  unfold b_B_level_79
                  exact hT15 hI (agc_refl (fs := []) (rs := []) (F := F)) 
              · have r42 : ((1 : Int) = 0) ∨ ((0 ≤ x4.toInt) ∧ (x4.toInt ≤ 63)) := r35
                clear r35
                have r43 : ((1 : Int) = 1) ∨ ((x4.toInt < 0) ∨ (63 < x4.toInt)) := r36
                clear r36
                have b44 : B 0 63 (x4) := ⟨by omega, by omega⟩
                refine ⟨fun hc => ?_, fun hc => ?_⟩
                · have i45 : (1 : Int32).toInt ≠ (0 : Int32).toInt := i_ne hc
                  have n46 : (1 : Int32).toInt = 1 := cqn_1
                  have n47 : (0 : Int32).toInt = 0 := cqn_0
                  refine ⟨(show ¬ ((19 : Nat) = NU) from by decide +kernel), ?_⟩
                  refine ⟨(show c_cl UL 19 = 902 from cl_19), ?_⟩
                  refine ⟨(show vp_in (((4096 * x2) + (64 * x3)) + x4) 12288 from vp_B (B_add (B_add (B_mul cqb_4096_4096_4096 b28 (by decide +kernel) (by decide +kernel) (by decide +kernel)) (B_mul cqb_64_64_64 b29 (by decide +kernel) (by decide +kernel) (by decide +kernel)) (by decide +kernel) (by decide +kernel)) b44 (by decide +kernel) (by decide +kernel)) (by decide +kernel) (by decide +kernel)), ?_⟩
                  exact hK (B_w (B_any _) (by decide +kernel) (by decide +kernel))
                · exact (B_dis cqb_1_1_1 cqb_0_0_0 hc (by decide +kernel)).elim
        · have b48 : B 0 0 (F 12 17) := B_w (B_eq hc cqb_0_0_0) (by decide +kernel) (by decide +kernel)
          have q49 : (0) ≤ (F 12 17).toInt ∧ (F 12 17).toInt ≤ (0) := (show B 0 0 (F 12 17) from B_w b48 (by decide +kernel) (by decide +kernel))
          have i50 : (F 12 17).toInt = (0 : Int32).toInt := congrArg Int32.toInt hc
          have n51 : (0 : Int32).toInt = 0 := cqn_0
          exact hT13 hI (agc_refl (fs := []) (rs := []) (F := F)) 
      · have b52 : B 1 1 (x1) := B_w (B_eq hc cqb_1_1_1) (by decide +kernel) (by decide +kernel)
        have q53 : (1) ≤ (x1).toInt ∧ (x1).toInt ≤ (1) := (show B 1 1 (x1) from B_w b52 (by decide +kernel) (by decide +kernel))
        have i54 : (x1).toInt = (1 : Int32).toInt := congrArg Int32.toInt hc
        have n55 : (1 : Int32).toInt = 1 := cqn_1
        refine ⟨(show ¬ ((105 : Nat) = NU) from by decide +kernel), ?_⟩
        unfold b_B_level_38
        refine ⟨(show c_cl UL 105 = 7 from cl_105), ?_⟩
        refine ⟨fun hc => ?_, fun hc => ?_⟩
        · have b56 : B 1 1 (F 105 17) := B_w (B_n0 (show B 0 1 (F 105 17) from hI 105 17) hc) (by decide +kernel) (by decide +kernel)
          refine h_Pi_hasBlock_u105 hI (fun {v62_57} b59 r60 => ?_)
          rcases sp_01 b59 with rfl | rfl
          · have r61 : ((0 : Int) = 0) ∨ ((0 ≤ x2.toInt) ∧ ((x2.toInt ≤ 2) ∧ ((0 ≤ x3.toInt) ∧ (x3.toInt ≤ 63)))) := r60
            clear r60
            refine ⟨fun hc => ?_, fun hc => ?_⟩
            · have i62 : (0 : Int32).toInt = (0 : Int32).toInt := congrArg Int32.toInt hc
              have n63 : (0 : Int32).toInt = 0 := cqn_0
              have n64 : (0 : Int32).toInt = 0 := cqn_0
              unfold b_B_level_79
              exact hT15 hI (agc_refl (fs := []) (rs := []) (F := F)) 
            · exact (hc (B_z cqb_0_0_0)).elim
          · have r65 : ((1 : Int) = 0) ∨ ((0 ≤ x2.toInt) ∧ ((x2.toInt ≤ 2) ∧ ((0 ≤ x3.toInt) ∧ (x3.toInt ≤ 63)))) := r60
            clear r60
            have b66 : B 0 2 (x2) := ⟨by omega, by omega⟩
            have b67 : B 0 63 (x3) := ⟨by omega, by omega⟩
            refine ⟨fun hc => ?_, fun hc => ?_⟩
            · exact (B_dis cqb_1_1_1 cqb_0_0_0 hc (by decide +kernel)).elim
            · have i68 : (1 : Int32).toInt ≠ (0 : Int32).toInt := i_ne hc
              have n69 : (1 : Int32).toInt = 1 := cqn_1
              have n70 : (0 : Int32).toInt = 0 := cqn_0
              refine h_B_isWithin  (fun {v73_71} b72 r73 r74 => ?_)
              rcases sp_01 b72 with rfl | rfl
              · have r75 : ((0 : Int) = 0) ∨ ((0 ≤ x4.toInt) ∧ (x4.toInt ≤ 63)) := r73
                clear r73
                have r76 : ((0 : Int) = 1) ∨ ((x4.toInt < 0) ∨ (63 < x4.toInt)) := r74
                clear r74
                refine ⟨fun hc => ?_, fun hc => ?_⟩
                · exact (hc (B_z cqb_0_0_0)).elim
                · have i77 : (0 : Int32).toInt = (0 : Int32).toInt := congrArg Int32.toInt hc
                  have n78 : (0 : Int32).toInt = 0 := cqn_0
                  have n79 : (0 : Int32).toInt = 0 := cqn_0
                  unfold b_B_level_79
                  exact hT15 hI (agc_refl (fs := []) (rs := []) (F := F)) 
              · have r80 : ((1 : Int) = 0) ∨ ((0 ≤ x4.toInt) ∧ (x4.toInt ≤ 63)) := r73
                clear r73
                have r81 : ((1 : Int) = 1) ∨ ((x4.toInt < 0) ∨ (63 < x4.toInt)) := r74
                clear r74
                have b82 : B 0 63 (x4) := ⟨by omega, by omega⟩
                refine ⟨fun hc => ?_, fun hc => ?_⟩
                · have i83 : (1 : Int32).toInt ≠ (0 : Int32).toInt := i_ne hc
                  have n84 : (1 : Int32).toInt = 1 := cqn_1
                  have n85 : (0 : Int32).toInt = 0 := cqn_0
                  refine ⟨(show ¬ ((112 : Nat) = NU) from by decide +kernel), ?_⟩
                  refine ⟨(show c_cl UL 112 = 902 from cl_112), ?_⟩
                  refine ⟨(show vp_in (((4096 * x2) + (64 * x3)) + x4) 12288 from vp_B (B_add (B_add (B_mul cqb_4096_4096_4096 b66 (by decide +kernel) (by decide +kernel) (by decide +kernel)) (B_mul cqb_64_64_64 b67 (by decide +kernel) (by decide +kernel) (by decide +kernel)) (by decide +kernel) (by decide +kernel)) b82 (by decide +kernel) (by decide +kernel)) (by decide +kernel) (by decide +kernel)), ?_⟩
                  exact hK (B_w (B_any _) (by decide +kernel) (by decide +kernel))
                · exact (B_dis cqb_1_1_1 cqb_0_0_0 hc (by decide +kernel)).elim
        · have b86 : B 0 0 (F 105 17) := B_w (B_eq hc cqb_0_0_0) (by decide +kernel) (by decide +kernel)
          have q87 : (0) ≤ (F 105 17).toInt ∧ (F 105 17).toInt ≤ (0) := (show B 0 0 (F 105 17) from B_w b86 (by decide +kernel) (by decide +kernel))
          have i88 : (F 105 17).toInt = (0 : Int32).toInt := congrArg Int32.toInt hc
          have n89 : (0 : Int32).toInt = 0 := cqn_0
          exact hT13 hI (agc_refl (fs := []) (rs := []) (F := F)) 
    · exact (B_dis cqb_1_1_1 cqb_0_0_0 hc (by decide +kernel)).elim
set_option maxRecDepth 20000 in
set_option maxHeartbeats 4000000 in
theorem h_B_about_u0_a0 {b : Bool} {P : Nat → Nat → Nat} {x1 : Int32} {F : cF} {L : cL} {K : Int32 → cs → Prop} {T : Nat → cs → Prop} (hI : IMc F) (hK : ∀ {v : Int32}, B 1 64 v → K v (F, L, PC false b P)) (hT13 : ∀ {Z : cF} {LZ : cL}, IMc Z → agc [] [] F Z → T 13 (Z, LZ, PC false b P)) (hT14 : ∀ {Z : cF} {LZ : cL}, IMc Z → agc [] [] F Z → T 14 (Z, LZ, PC false b P)) : p_B_about UL 0 x1 (F, L, PC false b P) K T := by
  unfold p_B_about
  refine h_B_isWithin  (fun {v3_1} b2 r3 r4 => ?_)
  rcases sp_01 b2 with rfl | rfl
  · have r5 : ((0 : Int) = 0) ∨ ((0 ≤ x1.toInt) ∧ (x1.toInt ≤ 2)) := r3
    clear r3
    have r6 : ((0 : Int) = 1) ∨ ((x1.toInt < 0) ∨ (2 < x1.toInt)) := r4
    clear r4
    refine ⟨fun hc => ?_, fun hc => ?_⟩
    · exact (hc (B_z cqb_0_0_0)).elim
    · have i7 : (0 : Int32).toInt = (0 : Int32).toInt := congrArg Int32.toInt hc
      have n8 : (0 : Int32).toInt = 0 := cqn_0
      have n9 : (0 : Int32).toInt = 0 := cqn_0
      exact hT14 hI (agc_refl (fs := []) (rs := []) (F := F)) 
  · have r10 : ((1 : Int) = 0) ∨ ((0 ≤ x1.toInt) ∧ (x1.toInt ≤ 2)) := r3
    clear r3
    have r11 : ((1 : Int) = 1) ∨ ((x1.toInt < 0) ∨ (2 < x1.toInt)) := r4
    clear r4
    have b12 : B 0 2 (x1) := ⟨by omega, by omega⟩
    refine ⟨fun hc => ?_, fun hc => ?_⟩
    · have i13 : (1 : Int32).toInt ≠ (0 : Int32).toInt := i_ne hc
      have n14 : (1 : Int32).toInt = 1 := cqn_1
      have n15 : (0 : Int32).toInt = 0 := cqn_0
      refine ⟨(show ¬ ((105 : Nat) = NU) from by decide +kernel), ?_⟩
      refine ⟨(show c_cl UL 105 = 7 from cl_105), ?_⟩
      refine ⟨fun hc => ?_, fun hc => ?_⟩
      · have b16 : B 1 1 (F 105 17) := B_w (B_n0 (show B 0 1 (F 105 17) from hI 105 17) hc) (by decide +kernel) (by decide +kernel)
        refine ⟨fun hc => ?_, fun hc => ?_⟩
        · have b17 : B 1 2 (x1) := B_w (B_n0 b12 hc) (by decide +kernel) (by decide +kernel)
          have q18 : (1) ≤ (x1).toInt ∧ (x1).toInt ≤ (2) := (show B 1 2 (x1) from B_w b17 (by decide +kernel) (by decide +kernel))
          refine ⟨fun hc => ?_, fun hc => ?_⟩
          · have i19 : (x1).toInt ≠ (1 : Int32).toInt := i_ne hc
            have n20 : (1 : Int32).toInt = 1 := cqn_1
            refine ⟨(show ¬ ((105 : Nat) = NU) from by decide +kernel), ?_⟩
            unfold b_B_about_75
            exact hK (B_w (show B 1 3 (F 105 2) from hI 105 2) (by decide +kernel) (by decide +kernel))
          · have b21 : B 1 1 (x1) := B_w (B_eq hc cqb_1_1_1) (by decide +kernel) (by decide +kernel)
            have q22 : (1) ≤ (x1).toInt ∧ (x1).toInt ≤ (1) := (show B 1 1 (x1) from B_w b21 (by decide +kernel) (by decide +kernel))
            have i23 : (x1).toInt = (1 : Int32).toInt := congrArg Int32.toInt hc
            have n24 : (1 : Int32).toInt = 1 := cqn_1
            refine ⟨(show ¬ ((105 : Nat) = NU) from by decide +kernel), ?_⟩
            unfold b_B_about_75
            exact hK (B_w (show B 1 64 (F 105 1) from hI 105 1) (by decide +kernel) (by decide +kernel))
        · have b25 : B 0 0 (x1) := B_w (B_eq hc cqb_0_0_0) (by decide +kernel) (by decide +kernel)
          have q26 : (0) ≤ (x1).toInt ∧ (x1).toInt ≤ (0) := (show B 0 0 (x1) from B_w b25 (by decide +kernel) (by decide +kernel))
          have i27 : (x1).toInt = (0 : Int32).toInt := congrArg Int32.toInt hc
          have n28 : (0 : Int32).toInt = 0 := cqn_0
          refine ⟨(show ¬ ((105 : Nat) = NU) from by decide +kernel), ?_⟩
          unfold b_B_about_75
          exact hK (B_w (show B 1 64 (F 105 0) from hI 105 0) (by decide +kernel) (by decide +kernel))
      · have b29 : B 0 0 (F 105 17) := B_w (B_eq hc cqb_0_0_0) (by decide +kernel) (by decide +kernel)
        have q30 : (0) ≤ (F 105 17).toInt ∧ (F 105 17).toInt ≤ (0) := (show B 0 0 (F 105 17) from B_w b29 (by decide +kernel) (by decide +kernel))
        have i31 : (F 105 17).toInt = (0 : Int32).toInt := congrArg Int32.toInt hc
        have n32 : (0 : Int32).toInt = 0 := cqn_0
        exact hT13 hI (agc_refl (fs := []) (rs := []) (F := F)) 
    · exact (B_dis cqb_1_1_1 cqb_0_0_0 hc (by decide +kernel)).elim
set_option maxRecDepth 20000 in
set_option maxHeartbeats 4000000 in
theorem h_B_sample_u0_a1 {b : Bool} {P : Nat → Nat → Nat} {x1 : Int32} {x2 : Int32} {x3 : Int32} {F : cF} {L : cL} {K : Int32 → cs → Prop} {T : Nat → cs → Prop} (hI : IMc F) (hK : ∀ {v : Int32} {Z : cF} {LZ : cL}, B (-2147483648) 2147483647 v → IMc Z → agc [6316] [9, 10, 72, 999] F Z → K v (Z, LZ, PC true b P)) (hT13 : ∀ {Z : cF} {LZ : cL}, IMc Z → agc [] [] F Z → T 13 (Z, LZ, PC true b P)) (hT15 : ∀ {Z : cF} {LZ : cL}, IMc Z → agc [] [] F Z → T 15 (Z, LZ, PC true b P)) : p_B_sample UL 0 x1 x2 x3 (F, L, PC true b P) K T := by
  unfold p_B_sample
  refine ⟨(show ¬ ((63 : Nat) = NU) from by decide +kernel), ?_⟩
  refine ⟨(show c_cl UL 63 = 7 from cl_63), ?_⟩
  refine ⟨fun hc => ?_, fun hc => ?_⟩
  · have b1 : B 1 1 (F 63 17) := B_w (B_n0 (show B 0 1 (F 63 17) from hI 63 17) hc) (by decide +kernel) (by decide +kernel)
    refine ⟨(show ¬ ((63 : Nat) = NU) from by decide +kernel), ?_⟩
    refine h_B_isWithin  (fun {v31_2} b3 r4 r5 => ?_)
    rcases sp_01 b3 with rfl | rfl
    · have r6 : ((0 : Int) = 0) ∨ ((0 ≤ x1.toInt) ∧ (x1.toInt ≤ ((F 63 0) - 1).toInt)) := r4
      clear r4
      have q7 : (1) ≤ (F 63 0).toInt ∧ (F 63 0).toInt ≤ (64) := (show B 1 64 (F 63 0) from hI 63 0)
      have e8 : ((F 63 0) - 1).toInt = ((F 63 0).toInt - 1) := (t_sub (show B 1 64 (F 63 0) from hI 63 0) cqb_1_1_1 (by decide +kernel) (by decide +kernel)).trans (by rw [cqn_1])
      have q9 : (0) ≤ ((F 63 0) - 1).toInt ∧ ((F 63 0) - 1).toInt ≤ (63) := (show B 0 63 ((F 63 0) - 1) from B_w (B_sub (show B 1 64 (F 63 0) from hI 63 0) cqb_1_1_1 (by decide +kernel) (by decide +kernel)) (by decide +kernel) (by decide +kernel))
      have r10 : ((0 : Int) = 1) ∨ ((x1.toInt < 0) ∨ (((F 63 0) - 1).toInt < x1.toInt)) := r5
      clear r5
      refine ⟨fun hc => ?_, fun hc => ?_⟩
      · have i11 : (0 : Int32).toInt = (0 : Int32).toInt := congrArg Int32.toInt hc
        have n12 : (0 : Int32).toInt = 0 := cqn_0
        have n13 : (0 : Int32).toInt = 0 := cqn_0
        unfold b_B_sample_71
        exact hT15 hI (agc_refl (fs := []) (rs := []) (F := F)) 
      · exact (hc (B_z cqb_0_0_0)).elim
    · have r14 : ((1 : Int) = 0) ∨ ((0 ≤ x1.toInt) ∧ (x1.toInt ≤ ((F 63 0) - 1).toInt)) := r4
      clear r4
      have q15 : (1) ≤ (F 63 0).toInt ∧ (F 63 0).toInt ≤ (64) := (show B 1 64 (F 63 0) from hI 63 0)
      have e16 : ((F 63 0) - 1).toInt = ((F 63 0).toInt - 1) := (t_sub (show B 1 64 (F 63 0) from hI 63 0) cqb_1_1_1 (by decide +kernel) (by decide +kernel)).trans (by rw [cqn_1])
      have q17 : (0) ≤ ((F 63 0) - 1).toInt ∧ ((F 63 0) - 1).toInt ≤ (63) := (show B 0 63 ((F 63 0) - 1) from B_w (B_sub (show B 1 64 (F 63 0) from hI 63 0) cqb_1_1_1 (by decide +kernel) (by decide +kernel)) (by decide +kernel) (by decide +kernel))
      have r18 : ((1 : Int) = 1) ∨ ((x1.toInt < 0) ∨ (((F 63 0) - 1).toInt < x1.toInt)) := r5
      clear r5
      have b19 : B 0 63 (x1) := ⟨by omega, by omega⟩
      refine ⟨fun hc => ?_, fun hc => ?_⟩
      · exact (B_dis cqb_1_1_1 cqb_0_0_0 hc (by decide +kernel)).elim
      · have i20 : (1 : Int32).toInt ≠ (0 : Int32).toInt := i_ne hc
        have n21 : (1 : Int32).toInt = 1 := cqn_1
        have n22 : (0 : Int32).toInt = 0 := cqn_0
        refine ⟨(show ¬ ((63 : Nat) = NU) from by decide +kernel), ?_⟩
        refine h_B_isWithin  (fun {v48_23} b24 r25 r26 => ?_)
        rcases sp_01 b24 with rfl | rfl
        · have r27 : ((0 : Int) = 0) ∨ ((0 ≤ x2.toInt) ∧ (x2.toInt ≤ ((F 63 1) - 1).toInt)) := r25
          clear r25
          have q28 : (1) ≤ (F 63 1).toInt ∧ (F 63 1).toInt ≤ (64) := (show B 1 64 (F 63 1) from hI 63 1)
          have e29 : ((F 63 1) - 1).toInt = ((F 63 1).toInt - 1) := (t_sub (show B 1 64 (F 63 1) from hI 63 1) cqb_1_1_1 (by decide +kernel) (by decide +kernel)).trans (by rw [cqn_1])
          have q30 : (0) ≤ ((F 63 1) - 1).toInt ∧ ((F 63 1) - 1).toInt ≤ (63) := (show B 0 63 ((F 63 1) - 1) from B_w (B_sub (show B 1 64 (F 63 1) from hI 63 1) cqb_1_1_1 (by decide +kernel) (by decide +kernel)) (by decide +kernel) (by decide +kernel))
          have r31 : ((0 : Int) = 1) ∨ ((x2.toInt < 0) ∨ (((F 63 1) - 1).toInt < x2.toInt)) := r26
          clear r26
          refine ⟨fun hc => ?_, fun hc => ?_⟩
          · have i32 : (0 : Int32).toInt = (0 : Int32).toInt := congrArg Int32.toInt hc
            have n33 : (0 : Int32).toInt = 0 := cqn_0
            have n34 : (0 : Int32).toInt = 0 := cqn_0
            unfold b_B_sample_71
            exact hT15 hI (agc_refl (fs := []) (rs := []) (F := F)) 
          · exact (hc (B_z cqb_0_0_0)).elim
        · have r35 : ((1 : Int) = 0) ∨ ((0 ≤ x2.toInt) ∧ (x2.toInt ≤ ((F 63 1) - 1).toInt)) := r25
          clear r25
          have q36 : (1) ≤ (F 63 1).toInt ∧ (F 63 1).toInt ≤ (64) := (show B 1 64 (F 63 1) from hI 63 1)
          have e37 : ((F 63 1) - 1).toInt = ((F 63 1).toInt - 1) := (t_sub (show B 1 64 (F 63 1) from hI 63 1) cqb_1_1_1 (by decide +kernel) (by decide +kernel)).trans (by rw [cqn_1])
          have q38 : (0) ≤ ((F 63 1) - 1).toInt ∧ ((F 63 1) - 1).toInt ≤ (63) := (show B 0 63 ((F 63 1) - 1) from B_w (B_sub (show B 1 64 (F 63 1) from hI 63 1) cqb_1_1_1 (by decide +kernel) (by decide +kernel)) (by decide +kernel) (by decide +kernel))
          have r39 : ((1 : Int) = 1) ∨ ((x2.toInt < 0) ∨ (((F 63 1) - 1).toInt < x2.toInt)) := r26
          clear r26
          have b40 : B 0 63 (x2) := ⟨by omega, by omega⟩
          refine ⟨fun hc => ?_, fun hc => ?_⟩
          · exact (B_dis cqb_1_1_1 cqb_0_0_0 hc (by decide +kernel)).elim
          · have i41 : (1 : Int32).toInt ≠ (0 : Int32).toInt := i_ne hc
            have n42 : (1 : Int32).toInt = 1 := cqn_1
            have n43 : (0 : Int32).toInt = 0 := cqn_0
            refine ⟨(show ¬ ((63 : Nat) = NU) from by decide +kernel), ?_⟩
            refine h_B_isWithin  (fun {v65_44} b45 r46 r47 => ?_)
            rcases sp_01 b45 with rfl | rfl
            · have r48 : ((0 : Int) = 0) ∨ ((0 ≤ x3.toInt) ∧ (x3.toInt ≤ ((F 63 2) - 1).toInt)) := r46
              clear r46
              have q49 : (1) ≤ (F 63 2).toInt ∧ (F 63 2).toInt ≤ (3) := (show B 1 3 (F 63 2) from hI 63 2)
              have e50 : ((F 63 2) - 1).toInt = ((F 63 2).toInt - 1) := (t_sub (show B 1 3 (F 63 2) from hI 63 2) cqb_1_1_1 (by decide +kernel) (by decide +kernel)).trans (by rw [cqn_1])
              have q51 : (0) ≤ ((F 63 2) - 1).toInt ∧ ((F 63 2) - 1).toInt ≤ (2) := (show B 0 2 ((F 63 2) - 1) from B_w (B_sub (show B 1 3 (F 63 2) from hI 63 2) cqb_1_1_1 (by decide +kernel) (by decide +kernel)) (by decide +kernel) (by decide +kernel))
              have r52 : ((0 : Int) = 1) ∨ ((x3.toInt < 0) ∨ (((F 63 2) - 1).toInt < x3.toInt)) := r47
              clear r47
              refine ⟨fun hc => ?_, fun hc => ?_⟩
              · exact (hc (B_z cqb_0_0_0)).elim
              · have i53 : (0 : Int32).toInt = (0 : Int32).toInt := congrArg Int32.toInt hc
                have n54 : (0 : Int32).toInt = 0 := cqn_0
                have n55 : (0 : Int32).toInt = 0 := cqn_0
                unfold b_B_sample_71
                exact hT15 hI (agc_refl (fs := []) (rs := []) (F := F)) 
            · have r56 : ((1 : Int) = 0) ∨ ((0 ≤ x3.toInt) ∧ (x3.toInt ≤ ((F 63 2) - 1).toInt)) := r46
              clear r46
              have q57 : (1) ≤ (F 63 2).toInt ∧ (F 63 2).toInt ≤ (3) := (show B 1 3 (F 63 2) from hI 63 2)
              have e58 : ((F 63 2) - 1).toInt = ((F 63 2).toInt - 1) := (t_sub (show B 1 3 (F 63 2) from hI 63 2) cqb_1_1_1 (by decide +kernel) (by decide +kernel)).trans (by rw [cqn_1])
              have q59 : (0) ≤ ((F 63 2) - 1).toInt ∧ ((F 63 2) - 1).toInt ≤ (2) := (show B 0 2 ((F 63 2) - 1) from B_w (B_sub (show B 1 3 (F 63 2) from hI 63 2) cqb_1_1_1 (by decide +kernel) (by decide +kernel)) (by decide +kernel) (by decide +kernel))
              have r60 : ((1 : Int) = 1) ∨ ((x3.toInt < 0) ∨ (((F 63 2) - 1).toInt < x3.toInt)) := r47
              clear r47
              have b61 : B 0 2 (x3) := ⟨by omega, by omega⟩
              refine ⟨fun hc => ?_, fun hc => ?_⟩
              · have i62 : (1 : Int32).toInt ≠ (0 : Int32).toInt := i_ne hc
                have n63 : (1 : Int32).toInt = 1 := cqn_1
                have n64 : (0 : Int32).toInt = 0 := cqn_0
                refine ⟨(show ¬ ((63 : Nat) = NU) from by decide +kernel), ?_⟩
                refine ⟨(show ¬ ((7 : Nat) = NU) from by decide +kernel), ?_⟩
                refine h_Pi_draw_u63_x17 hI (fun {FS89_65} {LFS89_65} hI66 g67 => ?_)
                refine ⟨(show ¬ ((63 : Nat) = NU) from by decide +kernel), ?_⟩
                refine ⟨(show c_cl UL 63 = 7 from cl_63), ?_⟩
                refine h_Pi_colour_u63 b19 b40 hI66 (fun {v99_68} b70 => ?_)
                have g71 := agc_tr (agc_refl (fs := [6316]) (rs := [9, 10, 72, 999]) (F := F)) g67 (by decide +kernel) (by decide +kernel)
                exact hK b70 hI66 g71
              · exact (B_dis cqb_1_1_1 cqb_0_0_0 hc (by decide +kernel)).elim
  · have b72 : B 0 0 (F 63 17) := B_w (B_eq hc cqb_0_0_0) (by decide +kernel) (by decide +kernel)
    have q73 : (0) ≤ (F 63 17).toInt ∧ (F 63 17).toInt ≤ (0) := (show B 0 0 (F 63 17) from B_w b72 (by decide +kernel) (by decide +kernel))
    have i74 : (F 63 17).toInt = (0 : Int32).toInt := congrArg Int32.toInt hc
    have n75 : (0 : Int32).toInt = 0 := cqn_0
    exact hT13 hI (agc_refl (fs := []) (rs := []) (F := F)) 
set_option maxRecDepth 20000 in
set_option maxHeartbeats 4000000 in
theorem h_B_take_u0_a1 {b : Bool} {P : Nat → Nat → Nat} {F : cF} {L : cL} {K : cs → Prop} {T : Nat → cs → Prop} (hI : IMc F) (hK : ∀ {Z : cF} {LZ : cL}, IMc Z → agc [100, 101, 102, 6316] [2, 9, 10, 72, 999] F Z → K (Z, LZ, PC true b P)) (hT13 : ∀ {Z : cF} {LZ : cL}, IMc Z → agc [] [] F Z → T 13 (Z, LZ, PC true b P)) : p_B_take UL 0 (F, L, PC true b P) K T := by
  unfold p_B_take
  refine ⟨(show ¬ ((63 : Nat) = NU) from by decide +kernel), ?_⟩
  refine ⟨(show c_cl UL 63 = 7 from cl_63), ?_⟩
  refine ⟨fun hc => ?_, fun hc => ?_⟩
  · have b1 : B 1 1 (F 63 17) := B_w (B_n0 (show B 0 1 (F 63 17) from hI 63 17) hc) (by decide +kernel) (by decide +kernel)
    refine ⟨(show ¬ ((63 : Nat) = NU) from by decide +kernel), ?_⟩
    refine ⟨(show ¬ ((7 : Nat) = NU) from by decide +kernel), ?_⟩
    refine h_Pi_draw_u63_x17 hI (fun {FS28_2} {LFS28_2} hI3 g4 => ?_)
    refine ⟨(show ¬ ((1 : Nat) = NU) from by decide +kernel), ?_⟩
    refine ⟨(show ¬ ((63 : Nat) = NU) from by decide +kernel), ?_⟩
    refine ⟨(show c_cl UL 63 = 7 from cl_63), ?_⟩
    refine ⟨(show ¬ ((63 : Nat) = NU) from by decide +kernel), ?_⟩
    refine ⟨(show ¬ ((63 : Nat) = NU) from by decide +kernel), ?_⟩
    refine ⟨(show c_cl UL 1 = 2 from cl_1), ?_⟩
    refine h_Ca_begin_u1 (B_w (B_eq (g4.1 63 0 rfl rfl) (show B 1 64 (F 63 0) from hI 63 0)) (by decide +kernel) (by decide +kernel)) (B_w (B_eq (g4.1 63 1 rfl rfl) (show B 1 64 (F 63 1) from hI 63 1)) (by decide +kernel) (by decide +kernel)) (B_w (B_eq (g4.1 63 2 rfl rfl) (show B 1 3 (F 63 2) from hI 63 2)) (by decide +kernel) (by decide +kernel)) hI3 (fun {FS56_5} {LFS56_5} hI6 g7 r8 => ?_)
    have r9 : (FS56_5 1 2).toInt = (FS28_2 63 2).toInt := r8
    clear r8
    have q10 : (1) ≤ (FS56_5 1 2).toInt ∧ (FS56_5 1 2).toInt ≤ (3) := (show B 1 3 (FS56_5 1 2) from hI6 1 2)
    have q11 : (1) ≤ (F 63 2).toInt ∧ (F 63 2).toInt ≤ (3) := (show B 1 3 (F 63 2) from hI 63 2)
    have e12 : (FS28_2 63 2).toInt = (F 63 2).toInt := (congrArg Int32.toInt (g4.1 63 2 rfl rfl)).trans rfl
    refine ⟨fun yx1 yS => B 0 3 yx1 ∧ ∃ (T14 : cF) (LT14 : cL), yS = (T14, LT14, PC true b P) ∧ IMc T14 ∧ agc [] [2, 999] FS56_5 T14, fun yx1 yS => (3 - yx1.toInt).toNat, ⟨(B_w cqb_0_0_0 (by decide +kernel) (by decide +kernel)), _, _, rfl, hI6, (agc_refl (fs := []) (rs := [2, 999]) (F := FS56_5))⟩, fun x1_13 ST14 hIv => ?_⟩
    obtain ⟨b15, T14, LT14, rfl, hI16, g17⟩ := hIv
    suffices hs : ∀ (R61 : Int32 → cs → Prop), (∀ zx1 zS, (B 0 3 zx1 ∧ ∃ (T14 : cF) (LT14 : cL), zS = (T14, LT14, PC true b P) ∧ IMc T14 ∧ agc [] [2, 999] FS56_5 T14) → (3 - zx1.toInt).toNat < (3 - x1_13.toInt).toNat → R61 zx1 zS) → b_B_take_61 UL 0 x1_13 (T14, LT14, PC true b P) R61 K T from hs _ (fun _ _ h1 h2 => ⟨h1, h2⟩)
    intro R61 hR610
    have hR61 := fun {zx1} {zS} => hR610 zx1 zS
    unfold b_B_take_61
    refine ⟨(show ¬ ((63 : Nat) = NU) from by decide +kernel), ?_⟩
    refine ⟨(show c_cl UL 63 = 7 from cl_63), ?_⟩
    refine ⟨fun hc => ?_, fun hc => ?_⟩
    · have hq18 := hc
      have b19 : B 1 3 (x1_13) := B_w (B_leR (B_eq (((g17.1 63 2 rfl rfl).trans (g7.1 63 2 rfl rfl)).trans (g4.1 63 2 rfl rfl)) (show B 1 3 (F 63 2) from hI 63 2)) b15 hq18) (by decide +kernel) (by decide +kernel)
      have e20 : (T14 63 2).toInt = (F 63 2).toInt := (congrArg Int32.toInt (((g17.1 63 2 rfl rfl).trans (g7.1 63 2 rfl rfl)).trans (g4.1 63 2 rfl rfl))).trans rfl
      have q21 : (1) ≤ (x1_13).toInt ∧ (x1_13).toInt ≤ (3) := (show B 1 3 (x1_13) from B_w b19 (by decide +kernel) (by decide +kernel))
      have i22 : (T14 63 2).toInt ≤ (x1_13).toInt := i_le hq18
      have g25 := agc_tr (agc_refl (fs := [100, 101, 102, 6316]) (rs := [2, 9, 10, 72, 999]) (F := F)) g4 (by decide +kernel) (by decide +kernel)
      have g24 := agc_tr g25 g7 (by decide +kernel) (by decide +kernel)
      have g23 := agc_tr g24 g17 (by decide +kernel) (by decide +kernel)
      exact hK hI16 g23
    · have hq26 := (nle_lt hc)
      have b27 : B 0 2 (x1_13) := B_w (B_ltL b15 (B_eq (((g17.1 63 2 rfl rfl).trans (g7.1 63 2 rfl rfl)).trans (g4.1 63 2 rfl rfl)) (show B 1 3 (F 63 2) from hI 63 2)) hq26) (by decide +kernel) (by decide +kernel)
      have q28 : (0) ≤ (x1_13).toInt ∧ (x1_13).toInt ≤ (2) := (show B 0 2 (x1_13) from B_w b27 (by decide +kernel) (by decide +kernel))
      have e29 : (T14 63 2).toInt = (F 63 2).toInt := (congrArg Int32.toInt (((g17.1 63 2 rfl rfl).trans (g7.1 63 2 rfl rfl)).trans (g4.1 63 2 rfl rfl))).trans rfl
      have i30 : (x1_13).toInt < (T14 63 2).toInt := i_lt hq26
      refine ⟨fun yx1 yx2 yS => x1_13 = yx1 ∧ B 0 64 yx2 ∧ ∃ (T33 : cF) (LT33 : cL), yS = (T33, LT33, PC true b P) ∧ IMc T33 ∧ agc [] [2, 999] T14 T33, fun yx1 yx2 yS => (64 - yx2.toInt).toNat, ⟨rfl, (B_w cqb_0_0_0 (by decide +kernel) (by decide +kernel)), _, _, rfl, hI16, (agc_refl (fs := []) (rs := [2, 999]) (F := T14))⟩, fun x1_31 x2_32 ST33 hIv => ?_⟩
      obtain ⟨rfl, b34, T33, LT33, rfl, hI35, g36⟩ := hIv
      suffices hs : ∀ (R74 : Int32 → Int32 → cs → Prop), (∀ zx1 zx2 zS, (x1_13 = zx1 ∧ B 0 64 zx2 ∧ ∃ (T33 : cF) (LT33 : cL), zS = (T33, LT33, PC true b P) ∧ IMc T33 ∧ agc [] [2, 999] T14 T33) → (64 - zx2.toInt).toNat < (64 - x2_32.toInt).toNat → R74 zx1 zx2 zS) → b_B_take_74 UL 0 x1_13 x2_32 (T33, LT33, PC true b P) R61 R74 K T from hs _ (fun _ _ _ h1 h2 => ⟨h1, h2⟩)
      intro R74 hR740
      have hR74 := fun {zx1} {zx2} {zS} => hR740 zx1 zx2 zS
      unfold b_B_take_74
      refine ⟨(show ¬ ((63 : Nat) = NU) from by decide +kernel), ?_⟩
      refine ⟨(show c_cl UL 63 = 7 from cl_63), ?_⟩
      refine ⟨fun hc => ?_, fun hc => ?_⟩
      · have hq37 := hc
        have b38 : B 1 64 (x2_32) := B_w (B_leR (B_eq ((((g36.1 63 1 rfl rfl).trans (g17.1 63 1 rfl rfl)).trans (g7.1 63 1 rfl rfl)).trans (g4.1 63 1 rfl rfl)) (show B 1 64 (F 63 1) from hI 63 1)) b34 hq37) (by decide +kernel) (by decide +kernel)
        have q39 : (1) ≤ (F 63 1).toInt ∧ (F 63 1).toInt ≤ (64) := (show B 1 64 (F 63 1) from hI 63 1)
        have e40 : (T33 63 1).toInt = (F 63 1).toInt := (congrArg Int32.toInt ((((g36.1 63 1 rfl rfl).trans (g17.1 63 1 rfl rfl)).trans (g7.1 63 1 rfl rfl)).trans (g4.1 63 1 rfl rfl))).trans rfl
        have q41 : (1) ≤ (x2_32).toInt ∧ (x2_32).toInt ≤ (64) := (show B 1 64 (x2_32) from B_w b38 (by decide +kernel) (by decide +kernel))
        have i42 : (T33 63 1).toInt ≤ (x2_32).toInt := i_le hq37
        have g44 := agc_tr (agc_refl (fs := []) (rs := [2, 999]) (F := FS56_5)) g17 (by decide +kernel) (by decide +kernel)
        have g43 := agc_tr g44 g36 (by decide +kernel) (by decide +kernel)
        have e45 : (x1_13 + 1).toInt = ((x1_13).toInt + 1) := (t_add b27 cqb_1_1_1 (by decide +kernel) (by decide +kernel)).trans (by rw [cqn_1])
        have q46 : (1) ≤ (x1_13 + 1).toInt ∧ (x1_13 + 1).toInt ≤ (3) := (show B 1 3 (x1_13 + 1) from B_w (B_add b27 cqb_1_1_1 (by decide +kernel) (by decide +kernel)) (by decide +kernel) (by decide +kernel))
        exact hR61 ⟨(B_w (B_add b27 cqb_1_1_1 (by decide +kernel) (by decide +kernel)) (by decide +kernel) (by decide +kernel)), _, _, rfl, hI35, g43⟩ (by show (3 - (x1_13 + 1).toInt).toNat < (3 - x1_13.toInt).toNat; omega)
      · have hq47 := (nle_lt hc)
        have b48 : B 0 63 (x2_32) := B_w (B_ltL b34 (B_eq ((((g36.1 63 1 rfl rfl).trans (g17.1 63 1 rfl rfl)).trans (g7.1 63 1 rfl rfl)).trans (g4.1 63 1 rfl rfl)) (show B 1 64 (F 63 1) from hI 63 1)) hq47) (by decide +kernel) (by decide +kernel)
        have q49 : (0) ≤ (x2_32).toInt ∧ (x2_32).toInt ≤ (63) := (show B 0 63 (x2_32) from B_w b48 (by decide +kernel) (by decide +kernel))
        have q50 : (1) ≤ (F 63 1).toInt ∧ (F 63 1).toInt ≤ (64) := (show B 1 64 (F 63 1) from hI 63 1)
        have e51 : (T33 63 1).toInt = (F 63 1).toInt := (congrArg Int32.toInt ((((g36.1 63 1 rfl rfl).trans (g17.1 63 1 rfl rfl)).trans (g7.1 63 1 rfl rfl)).trans (g4.1 63 1 rfl rfl))).trans rfl
        have i52 : (x2_32).toInt < (T33 63 1).toInt := i_lt hq47
        refine ⟨fun yx1 yx2 yx3 yS => x1_13 = yx1 ∧ x2_32 = yx2 ∧ B 0 64 yx3 ∧ ∃ (T56 : cF) (LT56 : cL), yS = (T56, LT56, PC true b P) ∧ IMc T56 ∧ agc [] [2] T33 T56, fun yx1 yx2 yx3 yS => (64 - yx3.toInt).toNat, ⟨rfl, rfl, (B_w cqb_0_0_0 (by decide +kernel) (by decide +kernel)), _, _, rfl, hI35, (agc_refl (fs := []) (rs := [2]) (F := T33))⟩, fun x1_53 x2_54 x3_55 ST56 hIv => ?_⟩
        obtain ⟨rfl, rfl, b57, T56, LT56, rfl, hI58, g59⟩ := hIv
        suffices hs : ∀ (R87 : Int32 → Int32 → Int32 → cs → Prop), (∀ zx1 zx2 zx3 zS, (x1_13 = zx1 ∧ x2_32 = zx2 ∧ B 0 64 zx3 ∧ ∃ (T56 : cF) (LT56 : cL), zS = (T56, LT56, PC true b P) ∧ IMc T56 ∧ agc [] [2] T33 T56) → (64 - zx3.toInt).toNat < (64 - x3_55.toInt).toNat → R87 zx1 zx2 zx3 zS) → b_B_take_87 UL 0 x1_13 x2_32 x3_55 (T56, LT56, PC true b P) R61 R74 R87 K T from hs _ (fun _ _ _ _ h1 h2 => ⟨h1, h2⟩)
        intro R87 hR870
        have hR87 := fun {zx1} {zx2} {zx3} {zS} => hR870 zx1 zx2 zx3 zS
        unfold b_B_take_87
        refine ⟨(show ¬ ((63 : Nat) = NU) from by decide +kernel), ?_⟩
        refine ⟨(show c_cl UL 63 = 7 from cl_63), ?_⟩
        refine ⟨fun hc => ?_, fun hc => ?_⟩
        · have hq60 := hc
          have b61 : B 1 64 (x3_55) := B_w (B_leR (B_eq (((((g59.1 63 0 rfl rfl).trans (g36.1 63 0 rfl rfl)).trans (g17.1 63 0 rfl rfl)).trans (g7.1 63 0 rfl rfl)).trans (g4.1 63 0 rfl rfl)) (show B 1 64 (F 63 0) from hI 63 0)) b57 hq60) (by decide +kernel) (by decide +kernel)
          have q62 : (1) ≤ (F 63 0).toInt ∧ (F 63 0).toInt ≤ (64) := (show B 1 64 (F 63 0) from hI 63 0)
          have e63 : (T56 63 0).toInt = (F 63 0).toInt := (congrArg Int32.toInt (((((g59.1 63 0 rfl rfl).trans (g36.1 63 0 rfl rfl)).trans (g17.1 63 0 rfl rfl)).trans (g7.1 63 0 rfl rfl)).trans (g4.1 63 0 rfl rfl))).trans rfl
          have q64 : (1) ≤ (x3_55).toInt ∧ (x3_55).toInt ≤ (64) := (show B 1 64 (x3_55) from B_w b61 (by decide +kernel) (by decide +kernel))
          have i65 : (T56 63 0).toInt ≤ (x3_55).toInt := i_le hq60
          have g67 := agc_tr (agc_refl (fs := []) (rs := [2, 999]) (F := T14)) g36 (by decide +kernel) (by decide +kernel)
          have g66 := agc_tr g67 g59 (by decide +kernel) (by decide +kernel)
          have e68 : (x2_32 + 1).toInt = ((x2_32).toInt + 1) := (t_add b48 cqb_1_1_1 (by decide +kernel) (by decide +kernel)).trans (by rw [cqn_1])
          have q69 : (1) ≤ (x2_32 + 1).toInt ∧ (x2_32 + 1).toInt ≤ (64) := (show B 1 64 (x2_32 + 1) from B_w (B_add b48 cqb_1_1_1 (by decide +kernel) (by decide +kernel)) (by decide +kernel) (by decide +kernel))
          exact hR74 ⟨rfl, (B_w (B_add b48 cqb_1_1_1 (by decide +kernel) (by decide +kernel)) (by decide +kernel) (by decide +kernel)), _, _, rfl, hI58, g66⟩ (by show (64 - (x2_32 + 1).toInt).toNat < (64 - x2_32.toInt).toNat; omega)
        · have hq70 := (nle_lt hc)
          have b71 : B 0 63 (x3_55) := B_w (B_ltL b57 (B_eq (((((g59.1 63 0 rfl rfl).trans (g36.1 63 0 rfl rfl)).trans (g17.1 63 0 rfl rfl)).trans (g7.1 63 0 rfl rfl)).trans (g4.1 63 0 rfl rfl)) (show B 1 64 (F 63 0) from hI 63 0)) hq70) (by decide +kernel) (by decide +kernel)
          have q72 : (0) ≤ (x3_55).toInt ∧ (x3_55).toInt ≤ (63) := (show B 0 63 (x3_55) from B_w b71 (by decide +kernel) (by decide +kernel))
          have q73 : (1) ≤ (F 63 0).toInt ∧ (F 63 0).toInt ≤ (64) := (show B 1 64 (F 63 0) from hI 63 0)
          have e74 : (T56 63 0).toInt = (F 63 0).toInt := (congrArg Int32.toInt (((((g59.1 63 0 rfl rfl).trans (g36.1 63 0 rfl rfl)).trans (g17.1 63 0 rfl rfl)).trans (g7.1 63 0 rfl rfl)).trans (g4.1 63 0 rfl rfl))).trans rfl
          have i75 : (x3_55).toInt < (T56 63 0).toInt := i_lt hq70
          refine ⟨(show ¬ ((1 : Nat) = NU) from by decide +kernel), ?_⟩
          refine ⟨(show c_cl UL 1 = 2 from cl_1), ?_⟩
          refine ⟨(show ¬ ((2 : Nat) = NU) from by decide +kernel), ?_⟩
          try unfold p_B_spot
          refine ⟨(show ¬ ((63 : Nat) = NU) from by decide +kernel), ?_⟩
          refine h_Pi_colour_u63 b71 b48 hI58 (fun {v118_76} b78 => ?_)
          refine ⟨(show c_cl UL 2 = 902 from cl_2), ?_⟩
          refine ⟨(show vp_in (((4096 * x1_13) + (64 * x2_32)) + x3_55) 12288 from vp_B (B_add (B_add (B_mul cqb_4096_4096_4096 b27 (by decide +kernel) (by decide +kernel) (by decide +kernel)) (B_mul cqb_64_64_64 b48 (by decide +kernel) (by decide +kernel) (by decide +kernel)) (by decide +kernel) (by decide +kernel)) b71 (by decide +kernel) (by decide +kernel)) (by decide +kernel) (by decide +kernel)), ?_⟩
          have hI79 := IMc_u (u := 2) (i := (((4096 * x1_13) + (64 * x2_32)) + x3_55).toNatClampNeg) (v := v118_76) hI58 (show B (-2147483648) 2147483647 (v118_76) from (B_w b78 (by decide +kernel) (by decide +kernel)))
          have g81 := agc_tr (agc_refl (fs := []) (rs := [2]) (F := T33)) g59 (by decide +kernel) (by decide +kernel)
          have g80 := agc_r (u := 2) (w := upd (T56 2) (((4096 * x1_13) + (64 * x2_32)) + x3_55).toNatClampNeg v118_76) g81 rfl (by decide +kernel)
          have e82 : (x3_55 + 1).toInt = ((x3_55).toInt + 1) := (t_add b71 cqb_1_1_1 (by decide +kernel) (by decide +kernel)).trans (by rw [cqn_1])
          have q83 : (1) ≤ (x3_55 + 1).toInt ∧ (x3_55 + 1).toInt ≤ (64) := (show B 1 64 (x3_55 + 1) from B_w (B_add b71 cqb_1_1_1 (by decide +kernel) (by decide +kernel)) (by decide +kernel) (by decide +kernel))
          exact hR87 ⟨rfl, rfl, (B_w (B_add b71 cqb_1_1_1 (by decide +kernel) (by decide +kernel)) (by decide +kernel) (by decide +kernel)), _, _, rfl, hI79, g80⟩ (by show (64 - (x3_55 + 1).toInt).toNat < (64 - x3_55.toInt).toNat; omega)
  · have b84 : B 0 0 (F 63 17) := B_w (B_eq hc cqb_0_0_0) (by decide +kernel) (by decide +kernel)
    have q85 : (0) ≤ (F 63 17).toInt ∧ (F 63 17).toInt ≤ (0) := (show B 0 0 (F 63 17) from B_w b84 (by decide +kernel) (by decide +kernel))
    have i86 : (F 63 17).toInt = (0 : Int32).toInt := congrArg Int32.toInt hc
    have n87 : (0 : Int32).toInt = 0 := cqn_0
    exact hT13 hI (agc_refl (fs := []) (rs := []) (F := F)) 
set_option maxRecDepth 20000 in
set_option maxHeartbeats 4000000 in
theorem h_Pi_hasBlock_u63 {a : Bool} {b : Bool} {P : Nat → Nat → Nat} {x1 : Int32} {x2 : Int32} {F : cF} {L : cL} {K : Int32 → cs → Prop} (hI : IMc F) (hK : ∀ {v : Int32}, B 0 1 v → ((v.toInt = 0) ∨ ((0 ≤ x1.toInt) ∧ ((x1.toInt ≤ 2) ∧ ((0 ≤ x2.toInt) ∧ (x2.toInt ≤ 63))))) → K v (F, L, PC a b P)) : p_Pi_hasBlock UL 63 x1 x2 (F, L, PC a b P) K := by
  unfold p_Pi_hasBlock
  refine h_B_isWithin  (fun {v8_1} b2 r3 r4 => ?_)
  rcases sp_01 b2 with rfl | rfl
  · have r5 : ((0 : Int) = 0) ∨ ((0 ≤ x1.toInt) ∧ (x1.toInt ≤ ((F 63 2) - 1).toInt)) := r3
    clear r3
    have q6 : (1) ≤ (F 63 2).toInt ∧ (F 63 2).toInt ≤ (3) := (show B 1 3 (F 63 2) from hI 63 2)
    have e7 : ((F 63 2) - 1).toInt = ((F 63 2).toInt - 1) := (t_sub (show B 1 3 (F 63 2) from hI 63 2) cqb_1_1_1 (by decide +kernel) (by decide +kernel)).trans (by rw [cqn_1])
    have q8 : (0) ≤ ((F 63 2) - 1).toInt ∧ ((F 63 2) - 1).toInt ≤ (2) := (show B 0 2 ((F 63 2) - 1) from B_w (B_sub (show B 1 3 (F 63 2) from hI 63 2) cqb_1_1_1 (by decide +kernel) (by decide +kernel)) (by decide +kernel) (by decide +kernel))
    have r9 : ((0 : Int) = 1) ∨ ((x1.toInt < 0) ∨ (((F 63 2) - 1).toInt < x1.toInt)) := r4
    clear r4
    refine ⟨fun hc => ?_, fun hc => ?_⟩
    · have i10 : (0 : Int32).toInt = (0 : Int32).toInt := congrArg Int32.toInt hc
      have n11 : (0 : Int32).toInt = 0 := cqn_0
      have n12 : (0 : Int32).toInt = 0 := cqn_0
      unfold b_Pi_hasBlock_34
      unfold b_Pi_hasBlock_35
      refine ⟨B_nar cqb_0_0_0 (by decide +kernel) (by decide +kernel), ?_⟩
      exact hK (B_w cqb_0_0_0 (by decide +kernel) (by decide +kernel)) (by show ((0 : Int) = 0) ∨ ((0 ≤ x1.toInt) ∧ ((x1.toInt ≤ 2) ∧ ((0 ≤ x2.toInt) ∧ (x2.toInt ≤ 63)))); first | with_reducible assumption | omega)
    · exact (hc (B_z cqb_0_0_0)).elim
  · have r13 : ((1 : Int) = 0) ∨ ((0 ≤ x1.toInt) ∧ (x1.toInt ≤ ((F 63 2) - 1).toInt)) := r3
    clear r3
    have q14 : (1) ≤ (F 63 2).toInt ∧ (F 63 2).toInt ≤ (3) := (show B 1 3 (F 63 2) from hI 63 2)
    have e15 : ((F 63 2) - 1).toInt = ((F 63 2).toInt - 1) := (t_sub (show B 1 3 (F 63 2) from hI 63 2) cqb_1_1_1 (by decide +kernel) (by decide +kernel)).trans (by rw [cqn_1])
    have q16 : (0) ≤ ((F 63 2) - 1).toInt ∧ ((F 63 2) - 1).toInt ≤ (2) := (show B 0 2 ((F 63 2) - 1) from B_w (B_sub (show B 1 3 (F 63 2) from hI 63 2) cqb_1_1_1 (by decide +kernel) (by decide +kernel)) (by decide +kernel) (by decide +kernel))
    have r17 : ((1 : Int) = 1) ∨ ((x1.toInt < 0) ∨ (((F 63 2) - 1).toInt < x1.toInt)) := r4
    clear r4
    have b18 : B 0 2 (x1) := ⟨by omega, by omega⟩
    refine ⟨fun hc => ?_, fun hc => ?_⟩
    · exact (B_dis cqb_1_1_1 cqb_0_0_0 hc (by decide +kernel)).elim
    · have i19 : (1 : Int32).toInt ≠ (0 : Int32).toInt := i_ne hc
      have n20 : (1 : Int32).toInt = 1 := cqn_1
      have n21 : (0 : Int32).toInt = 0 := cqn_0
      refine ⟨(show ¬ ((69 : Nat) = NU) from by decide +kernel), ?_⟩
      refine ⟨(show c_cl UL 69 = 902 from cl_69), ?_⟩
      refine ⟨(show vp_in (x1) 3 from vp_B b18 (by decide +kernel) (by decide +kernel)), ?_⟩
      refine h_B_isWithin  (fun {v24_22} b23 r24 r25 => ?_)
      rcases sp_01 b23 with rfl | rfl
      · have r26 : ((0 : Int) = 0) ∨ ((0 ≤ x2.toInt) ∧ (x2.toInt ≤ ((F 69 x1.toNatClampNeg) - 1).toInt)) := r24
        clear r24
        have q27 : (0) ≤ (F 69 x1.toNatClampNeg).toInt ∧ (F 69 x1.toNatClampNeg).toInt ≤ (64) := (show B 0 64 (F 69 x1.toNatClampNeg) from hI 69 x1.toNatClampNeg)
        have e28 : ((F 69 x1.toNatClampNeg) - 1).toInt = ((F 69 x1.toNatClampNeg).toInt - 1) := (t_sub (show B 0 64 (F 69 x1.toNatClampNeg) from hI 69 x1.toNatClampNeg) cqb_1_1_1 (by decide +kernel) (by decide +kernel)).trans (by rw [cqn_1])
        have q29 : (-1) ≤ ((F 69 x1.toNatClampNeg) - 1).toInt ∧ ((F 69 x1.toNatClampNeg) - 1).toInt ≤ (63) := (show B (-1) 63 ((F 69 x1.toNatClampNeg) - 1) from B_w (B_sub (show B 0 64 (F 69 x1.toNatClampNeg) from hI 69 x1.toNatClampNeg) cqb_1_1_1 (by decide +kernel) (by decide +kernel)) (by decide +kernel) (by decide +kernel))
        have r30 : ((0 : Int) = 1) ∨ ((x2.toInt < 0) ∨ (((F 69 x1.toNatClampNeg) - 1).toInt < x2.toInt)) := r25
        clear r25
        refine ⟨fun hc => ?_, fun hc => ?_⟩
        · have i31 : (0 : Int32).toInt = (0 : Int32).toInt := congrArg Int32.toInt hc
          have n32 : (0 : Int32).toInt = 0 := cqn_0
          have n33 : (0 : Int32).toInt = 0 := cqn_0
          unfold b_Pi_hasBlock_34
          unfold b_Pi_hasBlock_35
          refine ⟨B_nar cqb_0_0_0 (by decide +kernel) (by decide +kernel), ?_⟩
          exact hK (B_w cqb_0_0_0 (by decide +kernel) (by decide +kernel)) (by show ((0 : Int) = 0) ∨ ((0 ≤ x1.toInt) ∧ ((x1.toInt ≤ 2) ∧ ((0 ≤ x2.toInt) ∧ (x2.toInt ≤ 63)))); first | with_reducible assumption | omega)
        · exact (hc (B_z cqb_0_0_0)).elim
      · have r34 : ((1 : Int) = 0) ∨ ((0 ≤ x2.toInt) ∧ (x2.toInt ≤ ((F 69 x1.toNatClampNeg) - 1).toInt)) := r24
        clear r24
        have q35 : (0) ≤ (F 69 x1.toNatClampNeg).toInt ∧ (F 69 x1.toNatClampNeg).toInt ≤ (64) := (show B 0 64 (F 69 x1.toNatClampNeg) from hI 69 x1.toNatClampNeg)
        have e36 : ((F 69 x1.toNatClampNeg) - 1).toInt = ((F 69 x1.toNatClampNeg).toInt - 1) := (t_sub (show B 0 64 (F 69 x1.toNatClampNeg) from hI 69 x1.toNatClampNeg) cqb_1_1_1 (by decide +kernel) (by decide +kernel)).trans (by rw [cqn_1])
        have q37 : (-1) ≤ ((F 69 x1.toNatClampNeg) - 1).toInt ∧ ((F 69 x1.toNatClampNeg) - 1).toInt ≤ (63) := (show B (-1) 63 ((F 69 x1.toNatClampNeg) - 1) from B_w (B_sub (show B 0 64 (F 69 x1.toNatClampNeg) from hI 69 x1.toNatClampNeg) cqb_1_1_1 (by decide +kernel) (by decide +kernel)) (by decide +kernel) (by decide +kernel))
        have r38 : ((1 : Int) = 1) ∨ ((x2.toInt < 0) ∨ (((F 69 x1.toNatClampNeg) - 1).toInt < x2.toInt)) := r25
        clear r25
        have b39 : B 0 63 (x2) := ⟨by omega, by omega⟩
        refine ⟨fun hc => ?_, fun hc => ?_⟩
        · exact (B_dis cqb_1_1_1 cqb_0_0_0 hc (by decide +kernel)).elim
        · have i40 : (1 : Int32).toInt ≠ (0 : Int32).toInt := i_ne hc
          have n41 : (1 : Int32).toInt = 1 := cqn_1
          have n42 : (0 : Int32).toInt = 0 := cqn_0
          unfold b_Pi_hasBlock_35
          refine ⟨B_nar cqb_1_1_1 (by decide +kernel) (by decide +kernel), ?_⟩
          exact hK (B_w cqb_1_1_1 (by decide +kernel) (by decide +kernel)) (by show ((1 : Int) = 0) ∨ ((0 ≤ x1.toInt) ∧ ((x1.toInt ≤ 2) ∧ ((0 ≤ x2.toInt) ∧ (x2.toInt ≤ 63)))); first | with_reducible assumption | omega)
set_option maxRecDepth 20000 in
set_option maxHeartbeats 4000000 in
theorem h_B_level_u0_a1 {b : Bool} {P : Nat → Nat → Nat} {x1 : Int32} {x2 : Int32} {x3 : Int32} {x4 : Int32} {F : cF} {L : cL} {K : Int32 → cs → Prop} {T : Nat → cs → Prop} (hI : IMc F) (hK : ∀ {v : Int32}, B (-2147483648) 2147483647 v → K v (F, L, PC true b P)) (hT13 : ∀ {Z : cF} {LZ : cL}, IMc Z → agc [] [] F Z → T 13 (Z, LZ, PC true b P)) (hT14 : ∀ {Z : cF} {LZ : cL}, IMc Z → agc [] [] F Z → T 14 (Z, LZ, PC true b P)) (hT15 : ∀ {Z : cF} {LZ : cL}, IMc Z → agc [] [] F Z → T 15 (Z, LZ, PC true b P)) : p_B_level UL 0 x1 x2 x3 x4 (F, L, PC true b P) K T := by
  unfold p_B_level
  refine h_B_isWithin  (fun {v3_1} b2 r3 r4 => ?_)
  rcases sp_01 b2 with rfl | rfl
  · have r5 : ((0 : Int) = 0) ∨ ((0 ≤ x1.toInt) ∧ (x1.toInt ≤ 1)) := r3
    clear r3
    have r6 : ((0 : Int) = 1) ∨ ((x1.toInt < 0) ∨ (1 < x1.toInt)) := r4
    clear r4
    refine ⟨fun hc => ?_, fun hc => ?_⟩
    · exact (hc (B_z cqb_0_0_0)).elim
    · have i7 : (0 : Int32).toInt = (0 : Int32).toInt := congrArg Int32.toInt hc
      have n8 : (0 : Int32).toInt = 0 := cqn_0
      have n9 : (0 : Int32).toInt = 0 := cqn_0
      exact hT14 hI (agc_refl (fs := []) (rs := []) (F := F)) 
  · have r10 : ((1 : Int) = 0) ∨ ((0 ≤ x1.toInt) ∧ (x1.toInt ≤ 1)) := r3
    clear r3
    have r11 : ((1 : Int) = 1) ∨ ((x1.toInt < 0) ∨ (1 < x1.toInt)) := r4
    clear r4
    have b12 : B 0 1 (x1) := ⟨by omega, by omega⟩
    refine ⟨fun hc => ?_, fun hc => ?_⟩
    · have i13 : (1 : Int32).toInt ≠ (0 : Int32).toInt := i_ne hc
      have n14 : (1 : Int32).toInt = 1 := cqn_1
      have n15 : (0 : Int32).toInt = 0 := cqn_0
      refine ⟨fun hc => ?_, fun hc => ?_⟩
      · have i16 : (x1).toInt ≠ (1 : Int32).toInt := i_ne hc
        have n17 : (1 : Int32).toInt = 1 := cqn_1
        refine ⟨(show ¬ ((4 : Nat) = NU) from by decide +kernel), ?_⟩
        refine ⟨(show c_cl UL 4 = 6 from cl_4), ?_⟩
        refine ⟨(show ¬ ((12 : Nat) = NU) from by decide +kernel), ?_⟩
        unfold b_B_level_38
        refine ⟨(show c_cl UL 12 = 7 from cl_12), ?_⟩
        refine ⟨fun hc => ?_, fun hc => ?_⟩
        · have b18 : B 1 1 (F 12 17) := B_w (B_n0 (show B 0 1 (F 12 17) from hI 12 17) hc) (by decide +kernel) (by decide +kernel)
          refine h_Pi_hasBlock_u12 hI (fun {v62_19} b21 r22 => ?_)
          rcases sp_01 b21 with rfl | rfl
          · have r23 : ((0 : Int) = 0) ∨ ((0 ≤ x2.toInt) ∧ ((x2.toInt ≤ 2) ∧ ((0 ≤ x3.toInt) ∧ (x3.toInt ≤ 63)))) := r22
            clear r22
            refine ⟨fun hc => ?_, fun hc => ?_⟩
            · have i24 : (0 : Int32).toInt = (0 : Int32).toInt := congrArg Int32.toInt hc
              have n25 : (0 : Int32).toInt = 0 := cqn_0
              have n26 : (0 : Int32).toInt = 0 := cqn_0
              unfold b_B_level_79
              exact hT15 hI (agc_refl (fs := []) (rs := []) (F := F)) 
            · exact (hc (B_z cqb_0_0_0)).elim
          · have r27 : ((1 : Int) = 0) ∨ ((0 ≤ x2.toInt) ∧ ((x2.toInt ≤ 2) ∧ ((0 ≤ x3.toInt) ∧ (x3.toInt ≤ 63)))) := r22
            clear r22
            have b28 : B 0 2 (x2) := ⟨by omega, by omega⟩
            have b29 : B 0 63 (x3) := ⟨by omega, by omega⟩
            refine ⟨fun hc => ?_, fun hc => ?_⟩
            · exact (B_dis cqb_1_1_1 cqb_0_0_0 hc (by decide +kernel)).elim
            · have i30 : (1 : Int32).toInt ≠ (0 : Int32).toInt := i_ne hc
              have n31 : (1 : Int32).toInt = 1 := cqn_1
              have n32 : (0 : Int32).toInt = 0 := cqn_0
              refine h_B_isWithin  (fun {v73_33} b34 r35 r36 => ?_)
              rcases sp_01 b34 with rfl | rfl
              · have r37 : ((0 : Int) = 0) ∨ ((0 ≤ x4.toInt) ∧ (x4.toInt ≤ 63)) := r35
                clear r35
                have r38 : ((0 : Int) = 1) ∨ ((x4.toInt < 0) ∨ (63 < x4.toInt)) := r36
                clear r36
                refine ⟨fun hc => ?_, fun hc => ?_⟩
                · exact (hc (B_z cqb_0_0_0)).elim
                · have i39 : (0 : Int32).toInt = (0 : Int32).toInt := congrArg Int32.toInt hc
                  have n40 : (0 : Int32).toInt = 0 := cqn_0
                  have n41 : (0 : Int32).toInt = 0 := cqn_0
                  unfold b_B_level_79
                  exact hT15 hI (agc_refl (fs := []) (rs := []) (F := F)) 
              · have r42 : ((1 : Int) = 0) ∨ ((0 ≤ x4.toInt) ∧ (x4.toInt ≤ 63)) := r35
                clear r35
                have r43 : ((1 : Int) = 1) ∨ ((x4.toInt < 0) ∨ (63 < x4.toInt)) := r36
                clear r36
                have b44 : B 0 63 (x4) := ⟨by omega, by omega⟩
                refine ⟨fun hc => ?_, fun hc => ?_⟩
                · have i45 : (1 : Int32).toInt ≠ (0 : Int32).toInt := i_ne hc
                  have n46 : (1 : Int32).toInt = 1 := cqn_1
                  have n47 : (0 : Int32).toInt = 0 := cqn_0
                  refine ⟨(show ¬ ((19 : Nat) = NU) from by decide +kernel), ?_⟩
                  refine ⟨(show c_cl UL 19 = 902 from cl_19), ?_⟩
                  refine ⟨(show vp_in (((4096 * x2) + (64 * x3)) + x4) 12288 from vp_B (B_add (B_add (B_mul cqb_4096_4096_4096 b28 (by decide +kernel) (by decide +kernel) (by decide +kernel)) (B_mul cqb_64_64_64 b29 (by decide +kernel) (by decide +kernel) (by decide +kernel)) (by decide +kernel) (by decide +kernel)) b44 (by decide +kernel) (by decide +kernel)) (by decide +kernel) (by decide +kernel)), ?_⟩
                  exact hK (B_w (B_any _) (by decide +kernel) (by decide +kernel))
                · exact (B_dis cqb_1_1_1 cqb_0_0_0 hc (by decide +kernel)).elim
        · have b48 : B 0 0 (F 12 17) := B_w (B_eq hc cqb_0_0_0) (by decide +kernel) (by decide +kernel)
          have q49 : (0) ≤ (F 12 17).toInt ∧ (F 12 17).toInt ≤ (0) := (show B 0 0 (F 12 17) from B_w b48 (by decide +kernel) (by decide +kernel))
          have i50 : (F 12 17).toInt = (0 : Int32).toInt := congrArg Int32.toInt hc
          have n51 : (0 : Int32).toInt = 0 := cqn_0
          exact hT13 hI (agc_refl (fs := []) (rs := []) (F := F)) 
      · have b52 : B 1 1 (x1) := B_w (B_eq hc cqb_1_1_1) (by decide +kernel) (by decide +kernel)
        have q53 : (1) ≤ (x1).toInt ∧ (x1).toInt ≤ (1) := (show B 1 1 (x1) from B_w b52 (by decide +kernel) (by decide +kernel))
        have i54 : (x1).toInt = (1 : Int32).toInt := congrArg Int32.toInt hc
        have n55 : (1 : Int32).toInt = 1 := cqn_1
        refine ⟨(show ¬ ((63 : Nat) = NU) from by decide +kernel), ?_⟩
        unfold b_B_level_38
        refine ⟨(show c_cl UL 63 = 7 from cl_63), ?_⟩
        refine ⟨fun hc => ?_, fun hc => ?_⟩
        · have b56 : B 1 1 (F 63 17) := B_w (B_n0 (show B 0 1 (F 63 17) from hI 63 17) hc) (by decide +kernel) (by decide +kernel)
          refine h_Pi_hasBlock_u63 hI (fun {v62_57} b59 r60 => ?_)
          rcases sp_01 b59 with rfl | rfl
          · have r61 : ((0 : Int) = 0) ∨ ((0 ≤ x2.toInt) ∧ ((x2.toInt ≤ 2) ∧ ((0 ≤ x3.toInt) ∧ (x3.toInt ≤ 63)))) := r60
            clear r60
            refine ⟨fun hc => ?_, fun hc => ?_⟩
            · have i62 : (0 : Int32).toInt = (0 : Int32).toInt := congrArg Int32.toInt hc
              have n63 : (0 : Int32).toInt = 0 := cqn_0
              have n64 : (0 : Int32).toInt = 0 := cqn_0
              unfold b_B_level_79
              exact hT15 hI (agc_refl (fs := []) (rs := []) (F := F)) 
            · exact (hc (B_z cqb_0_0_0)).elim
          · have r65 : ((1 : Int) = 0) ∨ ((0 ≤ x2.toInt) ∧ ((x2.toInt ≤ 2) ∧ ((0 ≤ x3.toInt) ∧ (x3.toInt ≤ 63)))) := r60
            clear r60
            have b66 : B 0 2 (x2) := ⟨by omega, by omega⟩
            have b67 : B 0 63 (x3) := ⟨by omega, by omega⟩
            refine ⟨fun hc => ?_, fun hc => ?_⟩
            · exact (B_dis cqb_1_1_1 cqb_0_0_0 hc (by decide +kernel)).elim
            · have i68 : (1 : Int32).toInt ≠ (0 : Int32).toInt := i_ne hc
              have n69 : (1 : Int32).toInt = 1 := cqn_1
              have n70 : (0 : Int32).toInt = 0 := cqn_0
              refine h_B_isWithin  (fun {v73_71} b72 r73 r74 => ?_)
              rcases sp_01 b72 with rfl | rfl
              · have r75 : ((0 : Int) = 0) ∨ ((0 ≤ x4.toInt) ∧ (x4.toInt ≤ 63)) := r73
                clear r73
                have r76 : ((0 : Int) = 1) ∨ ((x4.toInt < 0) ∨ (63 < x4.toInt)) := r74
                clear r74
                refine ⟨fun hc => ?_, fun hc => ?_⟩
                · exact (hc (B_z cqb_0_0_0)).elim
                · have i77 : (0 : Int32).toInt = (0 : Int32).toInt := congrArg Int32.toInt hc
                  have n78 : (0 : Int32).toInt = 0 := cqn_0
                  have n79 : (0 : Int32).toInt = 0 := cqn_0
                  unfold b_B_level_79
                  exact hT15 hI (agc_refl (fs := []) (rs := []) (F := F)) 
              · have r80 : ((1 : Int) = 0) ∨ ((0 ≤ x4.toInt) ∧ (x4.toInt ≤ 63)) := r73
                clear r73
                have r81 : ((1 : Int) = 1) ∨ ((x4.toInt < 0) ∨ (63 < x4.toInt)) := r74
                clear r74
                have b82 : B 0 63 (x4) := ⟨by omega, by omega⟩
                refine ⟨fun hc => ?_, fun hc => ?_⟩
                · have i83 : (1 : Int32).toInt ≠ (0 : Int32).toInt := i_ne hc
                  have n84 : (1 : Int32).toInt = 1 := cqn_1
                  have n85 : (0 : Int32).toInt = 0 := cqn_0
                  refine ⟨(show ¬ ((70 : Nat) = NU) from by decide +kernel), ?_⟩
                  refine ⟨(show c_cl UL 70 = 902 from cl_70), ?_⟩
                  refine ⟨(show vp_in (((4096 * x2) + (64 * x3)) + x4) 12288 from vp_B (B_add (B_add (B_mul cqb_4096_4096_4096 b66 (by decide +kernel) (by decide +kernel) (by decide +kernel)) (B_mul cqb_64_64_64 b67 (by decide +kernel) (by decide +kernel) (by decide +kernel)) (by decide +kernel) (by decide +kernel)) b82 (by decide +kernel) (by decide +kernel)) (by decide +kernel) (by decide +kernel)), ?_⟩
                  exact hK (B_w (B_any _) (by decide +kernel) (by decide +kernel))
                · exact (B_dis cqb_1_1_1 cqb_0_0_0 hc (by decide +kernel)).elim
        · have b86 : B 0 0 (F 63 17) := B_w (B_eq hc cqb_0_0_0) (by decide +kernel) (by decide +kernel)
          have q87 : (0) ≤ (F 63 17).toInt ∧ (F 63 17).toInt ≤ (0) := (show B 0 0 (F 63 17) from B_w b86 (by decide +kernel) (by decide +kernel))
          have i88 : (F 63 17).toInt = (0 : Int32).toInt := congrArg Int32.toInt hc
          have n89 : (0 : Int32).toInt = 0 := cqn_0
          exact hT13 hI (agc_refl (fs := []) (rs := []) (F := F)) 
    · exact (B_dis cqb_1_1_1 cqb_0_0_0 hc (by decide +kernel)).elim
set_option maxRecDepth 20000 in
set_option maxHeartbeats 4000000 in
theorem h_B_about_u0_a1 {b : Bool} {P : Nat → Nat → Nat} {x1 : Int32} {F : cF} {L : cL} {K : Int32 → cs → Prop} {T : Nat → cs → Prop} (hI : IMc F) (hK : ∀ {v : Int32}, B 1 64 v → K v (F, L, PC true b P)) (hT13 : ∀ {Z : cF} {LZ : cL}, IMc Z → agc [] [] F Z → T 13 (Z, LZ, PC true b P)) (hT14 : ∀ {Z : cF} {LZ : cL}, IMc Z → agc [] [] F Z → T 14 (Z, LZ, PC true b P)) : p_B_about UL 0 x1 (F, L, PC true b P) K T := by
  unfold p_B_about
  refine h_B_isWithin  (fun {v3_1} b2 r3 r4 => ?_)
  rcases sp_01 b2 with rfl | rfl
  · have r5 : ((0 : Int) = 0) ∨ ((0 ≤ x1.toInt) ∧ (x1.toInt ≤ 2)) := r3
    clear r3
    have r6 : ((0 : Int) = 1) ∨ ((x1.toInt < 0) ∨ (2 < x1.toInt)) := r4
    clear r4
    refine ⟨fun hc => ?_, fun hc => ?_⟩
    · exact (hc (B_z cqb_0_0_0)).elim
    · have i7 : (0 : Int32).toInt = (0 : Int32).toInt := congrArg Int32.toInt hc
      have n8 : (0 : Int32).toInt = 0 := cqn_0
      have n9 : (0 : Int32).toInt = 0 := cqn_0
      exact hT14 hI (agc_refl (fs := []) (rs := []) (F := F)) 
  · have r10 : ((1 : Int) = 0) ∨ ((0 ≤ x1.toInt) ∧ (x1.toInt ≤ 2)) := r3
    clear r3
    have r11 : ((1 : Int) = 1) ∨ ((x1.toInt < 0) ∨ (2 < x1.toInt)) := r4
    clear r4
    have b12 : B 0 2 (x1) := ⟨by omega, by omega⟩
    refine ⟨fun hc => ?_, fun hc => ?_⟩
    · have i13 : (1 : Int32).toInt ≠ (0 : Int32).toInt := i_ne hc
      have n14 : (1 : Int32).toInt = 1 := cqn_1
      have n15 : (0 : Int32).toInt = 0 := cqn_0
      refine ⟨(show ¬ ((63 : Nat) = NU) from by decide +kernel), ?_⟩
      refine ⟨(show c_cl UL 63 = 7 from cl_63), ?_⟩
      refine ⟨fun hc => ?_, fun hc => ?_⟩
      · have b16 : B 1 1 (F 63 17) := B_w (B_n0 (show B 0 1 (F 63 17) from hI 63 17) hc) (by decide +kernel) (by decide +kernel)
        refine ⟨fun hc => ?_, fun hc => ?_⟩
        · have b17 : B 1 2 (x1) := B_w (B_n0 b12 hc) (by decide +kernel) (by decide +kernel)
          have q18 : (1) ≤ (x1).toInt ∧ (x1).toInt ≤ (2) := (show B 1 2 (x1) from B_w b17 (by decide +kernel) (by decide +kernel))
          refine ⟨fun hc => ?_, fun hc => ?_⟩
          · have i19 : (x1).toInt ≠ (1 : Int32).toInt := i_ne hc
            have n20 : (1 : Int32).toInt = 1 := cqn_1
            refine ⟨(show ¬ ((63 : Nat) = NU) from by decide +kernel), ?_⟩
            unfold b_B_about_75
            exact hK (B_w (show B 1 3 (F 63 2) from hI 63 2) (by decide +kernel) (by decide +kernel))
          · have b21 : B 1 1 (x1) := B_w (B_eq hc cqb_1_1_1) (by decide +kernel) (by decide +kernel)
            have q22 : (1) ≤ (x1).toInt ∧ (x1).toInt ≤ (1) := (show B 1 1 (x1) from B_w b21 (by decide +kernel) (by decide +kernel))
            have i23 : (x1).toInt = (1 : Int32).toInt := congrArg Int32.toInt hc
            have n24 : (1 : Int32).toInt = 1 := cqn_1
            refine ⟨(show ¬ ((63 : Nat) = NU) from by decide +kernel), ?_⟩
            unfold b_B_about_75
            exact hK (B_w (show B 1 64 (F 63 1) from hI 63 1) (by decide +kernel) (by decide +kernel))
        · have b25 : B 0 0 (x1) := B_w (B_eq hc cqb_0_0_0) (by decide +kernel) (by decide +kernel)
          have q26 : (0) ≤ (x1).toInt ∧ (x1).toInt ≤ (0) := (show B 0 0 (x1) from B_w b25 (by decide +kernel) (by decide +kernel))
          have i27 : (x1).toInt = (0 : Int32).toInt := congrArg Int32.toInt hc
          have n28 : (0 : Int32).toInt = 0 := cqn_0
          refine ⟨(show ¬ ((63 : Nat) = NU) from by decide +kernel), ?_⟩
          unfold b_B_about_75
          exact hK (B_w (show B 1 64 (F 63 0) from hI 63 0) (by decide +kernel) (by decide +kernel))
      · have b29 : B 0 0 (F 63 17) := B_w (B_eq hc cqb_0_0_0) (by decide +kernel) (by decide +kernel)
        have q30 : (0) ≤ (F 63 17).toInt ∧ (F 63 17).toInt ≤ (0) := (show B 0 0 (F 63 17) from B_w b29 (by decide +kernel) (by decide +kernel))
        have i31 : (F 63 17).toInt = (0 : Int32).toInt := congrArg Int32.toInt hc
        have n32 : (0 : Int32).toInt = 0 := cqn_0
        exact hT13 hI (agc_refl (fs := []) (rs := []) (F := F)) 
    · exact (B_dis cqb_1_1_1 cqb_0_0_0 hc (by decide +kernel)).elim
