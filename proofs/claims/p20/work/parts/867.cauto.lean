set_option maxRecDepth 20000 in
set_option maxHeartbeats 4000000 in
theorem h_Li_sortSymbols_u27_x134 {a : Bool} {b : Bool} {P : Nat → Nat → Nat} {F : cF} {L : cL} {K : cs → Prop} (hI : IMc F) (hK : ∀ {Z : cF} {LZ : cL}, IMc Z → agc [2701] [28, 999] F Z → K (Z, LZ, PC a b P)) : p_Li_sortSymbols UL 27 34 (F, L, PC a b P) K := by
  unfold p_Li_sortSymbols
  have hI7 := IMc_u (u := 27) (i := 1) (v := 0) hI (show B 0 257 (0) from (B_w cqb_0_0_0 (by decide +kernel) (by decide +kernel)))
  refine ⟨fun yx1 yx2 yS => (34 : Nat) = yx1 ∧ B 0 257 yx2 ∧ ∃ (T3 : cF) (LT3 : cL), yS = (T3, LT3, PC a b P) ∧ IMc T3 ∧ agc [2701] [28, 999] (va_up F 27 (upd (F 27) 1 0)) T3 ∧ ((T3 27 1).toInt ≤ yx2.toInt), fun yx1 yx2 yS => (257 - yx2.toInt).toNat, ⟨rfl, (B_w cqb_0_0_0 (by decide +kernel) (by decide +kernel)), _, _, rfl, hI7, (agc_refl (fs := [2701]) (rs := [28, 999]) (F := va_up F 27 (upd (F 27) 1 0))), (by show (0 : Int) ≤ 0; first | with_reducible assumption | omega)⟩, fun x1_1 x2_2 ST3 hIv => ?_⟩
  obtain ⟨rfl, b4, T3, LT3, rfl, hI5, g6, r8⟩ := hIv
  suffices hs : ∀ (R7 : Nat → Int32 → cs → Prop), (∀ zx1 zx2 zS, ((34 : Nat) = zx1 ∧ B 0 257 zx2 ∧ ∃ (T3 : cF) (LT3 : cL), zS = (T3, LT3, PC a b P) ∧ IMc T3 ∧ agc [2701] [28, 999] (va_up F 27 (upd (F 27) 1 0)) T3 ∧ ((T3 27 1).toInt ≤ zx2.toInt)) → (257 - zx2.toInt).toNat < (257 - x2_2.toInt).toNat → R7 zx1 zx2 zS) → b_Li_sortSymbols_7 UL 27 34 x2_2 (T3, LT3, PC a b P) R7 K from hs _ (fun _ _ _ h1 h2 => ⟨h1, h2⟩)
  intro R7 hR70
  have hR7 := fun {zx1} {zx2} {zS} => hR70 zx1 zx2 zS
  have q9 : (0) ≤ (T3 27 1).toInt ∧ (T3 27 1).toInt ≤ (257) := (show B 0 257 (T3 27 1) from hI5 27 1)
  have q10 : (0) ≤ (x2_2).toInt ∧ (x2_2).toInt ≤ (257) := (show B 0 257 (x2_2) from B_w b4 (by decide +kernel) (by decide +kernel))
  unfold b_Li_sortSymbols_7
  refine ⟨fun hc => ?_, fun hc => ?_⟩
  · have hq11 := hc
    have b12 : B 257 257 (x2_2) := B_w (B_leR cqb_257_257_257 b4 hq11) (by decide +kernel) (by decide +kernel)
    have q13 : (257) ≤ (x2_2).toInt ∧ (x2_2).toInt ≤ (257) := (show B 257 257 (x2_2) from B_w b12 (by decide +kernel) (by decide +kernel))
    have g15 := agc_f (u := 27) (k := 1) (v := 0) (agc_refl (fs := [2701]) (rs := [28, 999]) (F := F)) rfl (by decide +kernel)
    have g14 := agc_tr g15 g6 (by decide +kernel) (by decide +kernel)
    exact hK hI5 g14
  · have hq16 := (nle_lt hc)
    have b17 : B 0 256 (x2_2) := B_w (B_ltL b4 cqb_257_257_257 hq16) (by decide +kernel) (by decide +kernel)
    have q18 : (0) ≤ (x2_2).toInt ∧ (x2_2).toInt ≤ (256) := (show B 0 256 (x2_2) from B_w b17 (by decide +kernel) (by decide +kernel))
    refine ⟨(show c_cl UL 34 = 902 from cl_34), ?_⟩
    refine ⟨(show vp_in (x2_2) 257 from vp_B b17 (by decide +kernel) (by decide +kernel)), ?_⟩
    have hj19 : ((T3 27 1).toInt ≤ x2_2.toInt) → b_Li_sortSymbols_27 UL 27 34 x2_2 (T3, LT3, PC a b P) R7 K := by
      intro r20
      unfold b_Li_sortSymbols_27
      refine ⟨fun yx1 yx2 yx3 yS => (34 : Nat) = yx1 ∧ x2_2 = yx2 ∧ B 0 256 yx3 ∧ ∃ (T24 : cF) (LT24 : cL), yS = (T24, LT24, PC a b P) ∧ IMc T24 ∧ agc [] [28] T3 T24, fun yx1 yx2 yx3 yS => (yx3.toInt - 0).toNat, ⟨rfl, rfl, (show B 0 256 (T3 27 1) from ⟨by omega, by omega⟩), _, _, rfl, hI5, (agc_refl (fs := []) (rs := [28]) (F := T3))⟩, fun x1_21 x2_22 x3_23 ST24 hIv => ?_⟩
      obtain ⟨rfl, rfl, b25, T24, LT24, rfl, hI26, g27⟩ := hIv
      suffices hs : ∀ (R32 : Nat → Int32 → Int32 → cs → Prop), (∀ zx1 zx2 zx3 zS, ((34 : Nat) = zx1 ∧ x2_2 = zx2 ∧ B 0 256 zx3 ∧ ∃ (T24 : cF) (LT24 : cL), zS = (T24, LT24, PC a b P) ∧ IMc T24 ∧ agc [] [28] T3 T24) → (zx3.toInt - 0).toNat < (x3_23.toInt - 0).toNat → R32 zx1 zx2 zx3 zS) → b_Li_sortSymbols_32 UL 27 34 x2_2 x3_23 (T24, LT24, PC a b P) R7 R32 K from hs _ (fun _ _ _ _ h1 h2 => ⟨h1, h2⟩)
      intro R32 hR320
      have hR32 := fun {zx1} {zx2} {zx3} {zS} => hR320 zx1 zx2 zx3 zS
      unfold b_Li_sortSymbols_32
      refine ⟨fun hc => ?_, fun hc => ?_⟩
      · have hq28 := hc
        have b29 : B 0 0 (x3_23) := B_w (B_leL b25 cqb_0_0_0 hq28) (by decide +kernel) (by decide +kernel)
        unfold b_Li_sortSymbols_72
        refine ⟨(show ¬ ((28 : Nat) = NU) from by decide +kernel), ?_⟩
        refine ⟨(show c_cl UL 28 = 902 from cl_28), ?_⟩
        refine ⟨(show vp_in (x3_23) 257 from vp_B b29 (by decide +kernel) (by decide +kernel)), ?_⟩
        unfold b_Li_sortSymbols_89
        have hI30 := IMc_u (u := 28) (i := x3_23.toNatClampNeg) (v := x2_2) hI26 (show B 0 256 (x2_2) from (B_w b17 (by decide +kernel) (by decide +kernel)))
        have e31 : (T24 27 1).toInt = (T3 27 1).toInt := (congrArg Int32.toInt (g27.1 27 1 rfl rfl)).trans rfl
        have e32 : ((T24 27 1) + 1).toInt = ((T3 27 1).toInt + 1) := (t_add (B_eq (g27.1 27 1 rfl rfl) (show B 0 257 (T3 27 1) from hI5 27 1)) cqb_1_1_1 (by decide +kernel) (by decide +kernel)).trans (by rw [e31, cqn_1])
        have q33 : (1) ≤ ((T24 27 1) + 1).toInt ∧ ((T24 27 1) + 1).toInt ≤ (258) := (show B 1 258 ((T24 27 1) + 1) from B_w (B_add (B_eq (g27.1 27 1 rfl rfl) (show B 0 257 (T3 27 1) from hI5 27 1)) cqb_1_1_1 (by decide +kernel) (by decide +kernel)) (by decide +kernel) (by decide +kernel))
        have hI34 := IMc_u (u := 27) (i := 1) (v := (T24 27 1) + 1) hI30 (show B 0 257 ((T24 27 1) + 1) from (show B 0 257 ((T24 27 1) + 1) from ⟨by omega, by omega⟩))
        have g38 := agc_tr (agc_refl (fs := [2701]) (rs := [28, 999]) (F := va_up F 27 (upd (F 27) 1 0))) g6 (by decide +kernel) (by decide +kernel)
        have g37 := agc_tr g38 g27 (by decide +kernel) (by decide +kernel)
        have g36 := agc_r (u := 28) (w := upd (T24 28) x3_23.toNatClampNeg x2_2) g37 rfl (by decide +kernel)
        have g35 := agc_f (u := 27) (k := 1) (v := (T24 27 1) + 1) g36 rfl (by decide +kernel)
        have e39 : (x2_2 + 1).toInt = ((x2_2).toInt + 1) := (t_add b17 cqb_1_1_1 (by decide +kernel) (by decide +kernel)).trans (by rw [cqn_1])
        have q40 : (1) ≤ (x2_2 + 1).toInt ∧ (x2_2 + 1).toInt ≤ (257) := (show B 1 257 (x2_2 + 1) from B_w (B_add b17 cqb_1_1_1 (by decide +kernel) (by decide +kernel)) (by decide +kernel) (by decide +kernel))
        exact hR7 ⟨rfl, (B_w (B_add b17 cqb_1_1_1 (by decide +kernel) (by decide +kernel)) (by decide +kernel) (by decide +kernel)), _, _, rfl, hI34, g35, (by show ((T24 27 1) + 1).toInt ≤ (x2_2 + 1).toInt; first | with_reducible assumption | omega)⟩ (by show (257 - (x2_2 + 1).toInt).toNat < (257 - x2_2.toInt).toNat; omega)
      · have hq41 := (nle_lt hc)
        have b42 : B 1 256 (x3_23) := B_w (B_ltR cqb_0_0_0 b25 hq41) (by decide +kernel) (by decide +kernel)
        refine ⟨(show ¬ ((28 : Nat) = NU) from by decide +kernel), ?_⟩
        refine ⟨(show c_cl UL 28 = 902 from cl_28), ?_⟩
        refine ⟨(show vp_in (x3_23 - 1) 257 from vp_B (B_sub b42 cqb_1_1_1 (by decide +kernel) (by decide +kernel)) (by decide +kernel) (by decide +kernel)), ?_⟩
        refine ⟨(show c_cl UL 34 = 902 from cl_34), ?_⟩
        refine ⟨(show vp_in (T24 28 (x3_23 - 1).toNatClampNeg) 257 from vp_B (show B 0 256 (T24 28 (x3_23 - 1).toNatClampNeg) from hI26 28 (x3_23 - 1).toNatClampNeg) (by decide +kernel) (by decide +kernel)), ?_⟩
        refine ⟨(show vp_in (x2_2) 257 from vp_B b17 (by decide +kernel) (by decide +kernel)), ?_⟩
        refine ⟨fun hc => ?_, fun hc => ?_⟩
        · have hq43 := hc
          have e44 : (T24 34 (T24 28 (x3_23 - 1).toNatClampNeg).toNatClampNeg).toInt = (F 34 (T24 28 (x3_23 - 1).toNatClampNeg).toNatClampNeg).toInt := (congrArg Int32.toInt ((congrFun (g27.2 34 rfl rfl) (T24 28 (x3_23 - 1).toNatClampNeg).toNatClampNeg).trans (congrFun (g6.2 34 rfl rfl) (T24 28 (x3_23 - 1).toNatClampNeg).toNatClampNeg))).trans rfl
          have e45 : (T24 34 x2_2.toNatClampNeg).toInt = (F 34 x2_2.toNatClampNeg).toInt := (congrArg Int32.toInt ((congrFun (g27.2 34 rfl rfl) x2_2.toNatClampNeg).trans (congrFun (g6.2 34 rfl rfl) x2_2.toNatClampNeg))).trans rfl
          have i46 : (T24 34 (T24 28 (x3_23 - 1).toNatClampNeg).toNatClampNeg).toInt ≤ (T24 34 x2_2.toNatClampNeg).toInt := i_le hq43
          unfold b_Li_sortSymbols_72
          refine ⟨(show ¬ ((28 : Nat) = NU) from by decide +kernel), ?_⟩
          refine ⟨(show c_cl UL 28 = 902 from cl_28), ?_⟩
          refine ⟨(show vp_in (x3_23) 257 from vp_B b42 (by decide +kernel) (by decide +kernel)), ?_⟩
          unfold b_Li_sortSymbols_89
          have hI47 := IMc_u (u := 28) (i := x3_23.toNatClampNeg) (v := x2_2) hI26 (show B 0 256 (x2_2) from (B_w b17 (by decide +kernel) (by decide +kernel)))
          have e48 : (T24 27 1).toInt = (T3 27 1).toInt := (congrArg Int32.toInt (g27.1 27 1 rfl rfl)).trans rfl
          have e49 : ((T24 27 1) + 1).toInt = ((T3 27 1).toInt + 1) := (t_add (B_eq (g27.1 27 1 rfl rfl) (show B 0 257 (T3 27 1) from hI5 27 1)) cqb_1_1_1 (by decide +kernel) (by decide +kernel)).trans (by rw [e48, cqn_1])
          have q50 : (1) ≤ ((T24 27 1) + 1).toInt ∧ ((T24 27 1) + 1).toInt ≤ (258) := (show B 1 258 ((T24 27 1) + 1) from B_w (B_add (B_eq (g27.1 27 1 rfl rfl) (show B 0 257 (T3 27 1) from hI5 27 1)) cqb_1_1_1 (by decide +kernel) (by decide +kernel)) (by decide +kernel) (by decide +kernel))
          have hI51 := IMc_u (u := 27) (i := 1) (v := (T24 27 1) + 1) hI47 (show B 0 257 ((T24 27 1) + 1) from (show B 0 257 ((T24 27 1) + 1) from ⟨by omega, by omega⟩))
          have g55 := agc_tr (agc_refl (fs := [2701]) (rs := [28, 999]) (F := va_up F 27 (upd (F 27) 1 0))) g6 (by decide +kernel) (by decide +kernel)
          have g54 := agc_tr g55 g27 (by decide +kernel) (by decide +kernel)
          have g53 := agc_r (u := 28) (w := upd (T24 28) x3_23.toNatClampNeg x2_2) g54 rfl (by decide +kernel)
          have g52 := agc_f (u := 27) (k := 1) (v := (T24 27 1) + 1) g53 rfl (by decide +kernel)
          have e56 : (x2_2 + 1).toInt = ((x2_2).toInt + 1) := (t_add b17 cqb_1_1_1 (by decide +kernel) (by decide +kernel)).trans (by rw [cqn_1])
          have q57 : (1) ≤ (x2_2 + 1).toInt ∧ (x2_2 + 1).toInt ≤ (257) := (show B 1 257 (x2_2 + 1) from B_w (B_add b17 cqb_1_1_1 (by decide +kernel) (by decide +kernel)) (by decide +kernel) (by decide +kernel))
          exact hR7 ⟨rfl, (B_w (B_add b17 cqb_1_1_1 (by decide +kernel) (by decide +kernel)) (by decide +kernel) (by decide +kernel)), _, _, rfl, hI51, g52, (by show ((T24 27 1) + 1).toInt ≤ (x2_2 + 1).toInt; first | with_reducible assumption | omega)⟩ (by show (257 - (x2_2 + 1).toInt).toNat < (257 - x2_2.toInt).toNat; omega)
        · have hq58 := (nle_lt hc)
          have b59 : B (-2147483648) 2147483646 (F 34 x2_2.toNatClampNeg) := B_w (B_eq (Eq.symm ((congrFun (g27.2 34 rfl rfl) x2_2.toNatClampNeg).trans (congrFun (g6.2 34 rfl rfl) x2_2.toNatClampNeg))) (B_ltL (B_eq ((congrFun (g27.2 34 rfl rfl) x2_2.toNatClampNeg).trans (congrFun (g6.2 34 rfl rfl) x2_2.toNatClampNeg)) (B_any _)) (B_eq ((congrFun (g27.2 34 rfl rfl) (T24 28 (x3_23 - 1).toNatClampNeg).toNatClampNeg).trans (congrFun (g6.2 34 rfl rfl) (T24 28 (x3_23 - 1).toNatClampNeg).toNatClampNeg)) (B_any _)) hq58)) (by decide +kernel) (by decide +kernel)
          have b60 : B (-2147483647) 2147483647 (F 34 (T24 28 (x3_23 - 1).toNatClampNeg).toNatClampNeg) := B_w (B_eq (Eq.symm ((congrFun (g27.2 34 rfl rfl) (T24 28 (x3_23 - 1).toNatClampNeg).toNatClampNeg).trans (congrFun (g6.2 34 rfl rfl) (T24 28 (x3_23 - 1).toNatClampNeg).toNatClampNeg))) (B_ltR (B_eq ((congrFun (g27.2 34 rfl rfl) x2_2.toNatClampNeg).trans (congrFun (g6.2 34 rfl rfl) x2_2.toNatClampNeg)) (B_any _)) (B_eq ((congrFun (g27.2 34 rfl rfl) (T24 28 (x3_23 - 1).toNatClampNeg).toNatClampNeg).trans (congrFun (g6.2 34 rfl rfl) (T24 28 (x3_23 - 1).toNatClampNeg).toNatClampNeg)) (B_any _)) hq58)) (by decide +kernel) (by decide +kernel)
          have q61 : (-2147483648) ≤ (F 34 x2_2.toNatClampNeg).toInt ∧ (F 34 x2_2.toNatClampNeg).toInt ≤ (2147483646) := (show B (-2147483648) 2147483646 (F 34 x2_2.toNatClampNeg) from B_w b59 (by decide +kernel) (by decide +kernel))
          have e62 : (T24 34 x2_2.toNatClampNeg).toInt = (F 34 x2_2.toNatClampNeg).toInt := (congrArg Int32.toInt ((congrFun (g27.2 34 rfl rfl) x2_2.toNatClampNeg).trans (congrFun (g6.2 34 rfl rfl) x2_2.toNatClampNeg))).trans rfl
          have q63 : (-2147483647) ≤ (F 34 (T24 28 (x3_23 - 1).toNatClampNeg).toNatClampNeg).toInt ∧ (F 34 (T24 28 (x3_23 - 1).toNatClampNeg).toNatClampNeg).toInt ≤ (2147483647) := (show B (-2147483647) 2147483647 (F 34 (T24 28 (x3_23 - 1).toNatClampNeg).toNatClampNeg) from B_w b60 (by decide +kernel) (by decide +kernel))
          have e64 : (T24 34 (T24 28 (x3_23 - 1).toNatClampNeg).toNatClampNeg).toInt = (F 34 (T24 28 (x3_23 - 1).toNatClampNeg).toNatClampNeg).toInt := (congrArg Int32.toInt ((congrFun (g27.2 34 rfl rfl) (T24 28 (x3_23 - 1).toNatClampNeg).toNatClampNeg).trans (congrFun (g6.2 34 rfl rfl) (T24 28 (x3_23 - 1).toNatClampNeg).toNatClampNeg))).trans rfl
          have i65 : (T24 34 x2_2.toNatClampNeg).toInt < (T24 34 (T24 28 (x3_23 - 1).toNatClampNeg).toNatClampNeg).toInt := i_lt hq58
          refine ⟨(show ¬ ((28 : Nat) = NU) from by decide +kernel), ?_⟩
          refine ⟨(show ¬ ((28 : Nat) = NU) from by decide +kernel), ?_⟩
          refine ⟨(show vp_in (x3_23 - 1) 257 from vp_B (B_sub b42 cqb_1_1_1 (by decide +kernel) (by decide +kernel)) (by decide +kernel) (by decide +kernel)), ?_⟩
          refine ⟨(show vp_in (x3_23) 257 from vp_B b42 (by decide +kernel) (by decide +kernel)), ?_⟩
          have hI66 := IMc_u (u := 28) (i := x3_23.toNatClampNeg) (v := T24 28 (x3_23 - 1).toNatClampNeg) hI26 (show B 0 256 (T24 28 (x3_23 - 1).toNatClampNeg) from (B_w (show B 0 256 (T24 28 (x3_23 - 1).toNatClampNeg) from hI26 28 (x3_23 - 1).toNatClampNeg) (by decide +kernel) (by decide +kernel)))
          have g68 := agc_tr (agc_refl (fs := []) (rs := [28]) (F := T3)) g27 (by decide +kernel) (by decide +kernel)
          have g67 := agc_r (u := 28) (w := upd (T24 28) x3_23.toNatClampNeg (T24 28 (x3_23 - 1).toNatClampNeg)) g68 rfl (by decide +kernel)
          have q69 : (1) ≤ (x3_23).toInt ∧ (x3_23).toInt ≤ (256) := (show B 1 256 (x3_23) from B_w b42 (by decide +kernel) (by decide +kernel))
          have e70 : (x3_23 + (-1)).toInt = ((x3_23).toInt + (-1)) := (t_add b42 cqb_m1_m1_m1 (by decide +kernel) (by decide +kernel)).trans (by rw [cqn_m1])
          have q71 : (0) ≤ (x3_23 + (-1)).toInt ∧ (x3_23 + (-1)).toInt ≤ (255) := (show B 0 255 (x3_23 + (-1)) from B_w (B_add b42 cqb_m1_m1_m1 (by decide +kernel) (by decide +kernel)) (by decide +kernel) (by decide +kernel))
          exact hR32 ⟨rfl, rfl, (B_w (B_add b42 cqb_m1_m1_m1 (by decide +kernel) (by decide +kernel)) (by decide +kernel) (by decide +kernel)), _, _, rfl, hI66, g67⟩ (by show ((x3_23 + (-1)).toInt - 0).toNat < (x3_23.toInt - 0).toNat; revert e70 q71; generalize (x3_23 + (-1)).toInt = dd0; intros; omega)
    refine ⟨fun hc => ?_, fun hc => ?_⟩
    · have hq72 := hc
      have b73 : B 1 2147483647 (F 34 x2_2.toNatClampNeg) := B_w (B_eq (Eq.symm (congrFun (g6.2 34 rfl rfl) x2_2.toNatClampNeg)) (B_ltR cqb_0_0_0 (B_eq (congrFun (g6.2 34 rfl rfl) x2_2.toNatClampNeg) (B_any _)) hq72)) (by decide +kernel) (by decide +kernel)
      exact hj19 (by show (T3 27 1).toInt ≤ x2_2.toInt; first | with_reducible assumption | omega)
    · have hq74 := (nlt_le hc)
      have b75 : B (-2147483648) 0 (F 34 x2_2.toNatClampNeg) := B_w (B_eq (Eq.symm (congrFun (g6.2 34 rfl rfl) x2_2.toNatClampNeg)) (B_leL (B_eq (congrFun (g6.2 34 rfl rfl) x2_2.toNatClampNeg) (B_any _)) cqb_0_0_0 hq74)) (by decide +kernel) (by decide +kernel)
      refine ⟨fun hc => ?_, fun hc => ?_⟩
      · have i76 : (x2_2).toInt ≠ (256 : Int32).toInt := i_ne hc
        have n77 : (256 : Int32).toInt = 256 := cqn_256
        unfold b_Li_sortSymbols_89
        have g78 := agc_tr (agc_refl (fs := [2701]) (rs := [28, 999]) (F := va_up F 27 (upd (F 27) 1 0))) g6 (by decide +kernel) (by decide +kernel)
        have e79 : (x2_2 + 1).toInt = ((x2_2).toInt + 1) := (t_add b17 cqb_1_1_1 (by decide +kernel) (by decide +kernel)).trans (by rw [cqn_1])
        have q80 : (1) ≤ (x2_2 + 1).toInt ∧ (x2_2 + 1).toInt ≤ (257) := (show B 1 257 (x2_2 + 1) from B_w (B_add b17 cqb_1_1_1 (by decide +kernel) (by decide +kernel)) (by decide +kernel) (by decide +kernel))
        exact hR7 ⟨rfl, (B_w (B_add b17 cqb_1_1_1 (by decide +kernel) (by decide +kernel)) (by decide +kernel) (by decide +kernel)), _, _, rfl, hI5, g78, (by show (T3 27 1).toInt ≤ (x2_2 + 1).toInt; first | with_reducible assumption | omega)⟩ (by show (257 - (x2_2 + 1).toInt).toNat < (257 - x2_2.toInt).toNat; omega)
      · have b81 : B 256 256 (x2_2) := B_w (B_eq hc cqb_256_256_256) (by decide +kernel) (by decide +kernel)
        have q82 : (256) ≤ (x2_2).toInt ∧ (x2_2).toInt ≤ (256) := (show B 256 256 (x2_2) from B_w b81 (by decide +kernel) (by decide +kernel))
        have i83 : (x2_2).toInt = (256 : Int32).toInt := congrArg Int32.toInt hc
        have n84 : (256 : Int32).toInt = 256 := cqn_256
        exact hj19 (by show (T3 27 1).toInt ≤ x2_2.toInt; first | with_reducible assumption | omega)
set_option maxRecDepth 20000 in
set_option maxHeartbeats 4000000 in
theorem h_Li_takeThings_u27_x335 {a : Bool} {b : Bool} {P : Nat → Nat → Nat} {x1 : Int32} {x2 : Int32} {F : cF} {L : cL} {K : Int32 → cs → Prop} (b_x1 : B 0 15 x1) (hI : IMc F) (hK : ∀ {v : Int32} {Z : cF} {LZ : cL}, B 0 514 v → IMc Z → agc [] [35] F Z → K v (Z, LZ, PC a b P)) : p_Li_takeThings UL 27 x1 x2 35 (F, L, PC a b P) K := by
  unfold p_Li_takeThings
  refine ⟨fun yx1 yx2 yx3 yx4 yx5 yS => x1 = yx1 ∧ x2 = yx2 ∧ (35 : Nat) = yx3 ∧ B 0 514 yx4 ∧ B 0 514 yx5 ∧ ∃ (T6 : cF) (LT6 : cL), yS = (T6, LT6, PC a b P) ∧ IMc T6 ∧ agc [] [35] F T6 ∧ (yx4.toInt ≤ yx5.toInt), fun yx1 yx2 yx3 yx4 yx5 yS => (514 - yx5.toInt).toNat, ⟨rfl, rfl, rfl, (B_w cqb_0_0_0 (by decide +kernel) (by decide +kernel)), (B_w cqb_0_0_0 (by decide +kernel) (by decide +kernel)), _, _, rfl, hI, (agc_refl (fs := []) (rs := [35]) (F := F)), (by show (0 : Int) ≤ 0; first | with_reducible assumption | omega)⟩, fun x1_1 x2_2 x3_3 x4_4 x5_5 ST6 hIv => ?_⟩
  obtain ⟨rfl, rfl, rfl, b7, b8, T6, LT6, rfl, hI9, g10, r11⟩ := hIv
  suffices hs : ∀ (R6 : Int32 → Int32 → Nat → Int32 → Int32 → cs → Prop), (∀ zx1 zx2 zx3 zx4 zx5 zS, (x1 = zx1 ∧ x2 = zx2 ∧ (35 : Nat) = zx3 ∧ B 0 514 zx4 ∧ B 0 514 zx5 ∧ ∃ (T6 : cF) (LT6 : cL), zS = (T6, LT6, PC a b P) ∧ IMc T6 ∧ agc [] [35] F T6 ∧ (zx4.toInt ≤ zx5.toInt)) → (514 - zx5.toInt).toNat < (514 - x5_5.toInt).toNat → R6 zx1 zx2 zx3 zx4 zx5 zS) → b_Li_takeThings_6 UL 27 x1 x2 35 x4_4 x5_5 (T6, LT6, PC a b P) R6 K from hs _ (fun _ _ _ _ _ _ h1 h2 => ⟨h1, h2⟩)
  intro R6 hR60
  have hR6 := fun {zx1} {zx2} {zx3} {zx4} {zx5} {zS} => hR60 zx1 zx2 zx3 zx4 zx5 zS
  have q12 : (0) ≤ (x4_4).toInt ∧ (x4_4).toInt ≤ (514) := (show B 0 514 (x4_4) from B_w b7 (by decide +kernel) (by decide +kernel))
  have q13 : (0) ≤ (x5_5).toInt ∧ (x5_5).toInt ≤ (514) := (show B 0 514 (x5_5) from B_w b8 (by decide +kernel) (by decide +kernel))
  unfold b_Li_takeThings_6
  refine ⟨fun hc => ?_, fun hc => ?_⟩
  · have hq14 := hc
    have b15 : B (-2147483648) 514 (x2) := B_w (B_leL (B_any _) b8 hq14) (by decide +kernel) (by decide +kernel)
    have q16 : (-2147483648) ≤ (x2).toInt ∧ (x2).toInt ≤ (514) := (show B (-2147483648) 514 (x2) from B_w b15 (by decide +kernel) (by decide +kernel))
    have i17 : (x2).toInt ≤ (x5_5).toInt := i_le hq14
    unfold b_Li_takeThings_76
    have g18 := agc_tr (agc_refl (fs := []) (rs := [35]) (F := F)) g10 (by decide +kernel) (by decide +kernel)
    exact hK b7 hI9 g18
  · have hq19 := (nle_lt hc)
    have b20 : B 1 2147483647 (x2) := B_w (B_ltR b8 (B_any _) hq19) (by decide +kernel) (by decide +kernel)
    have q21 : (1) ≤ (x2).toInt ∧ (x2).toInt ≤ (2147483647) := (show B 1 2147483647 (x2) from B_w b20 (by decide +kernel) (by decide +kernel))
    have i22 : (x5_5).toInt < (x2).toInt := i_lt hq19
    refine ⟨fun hc => ?_, fun hc => ?_⟩
    · have hq23 := hc
      have b24 : B 514 514 (x5_5) := B_w (B_leR cqb_514_514_514 b8 hq23) (by decide +kernel) (by decide +kernel)
      have q25 : (514) ≤ (x5_5).toInt ∧ (x5_5).toInt ≤ (514) := (show B 514 514 (x5_5) from B_w b24 (by decide +kernel) (by decide +kernel))
      unfold b_Li_takeThings_76
      have g26 := agc_tr (agc_refl (fs := []) (rs := [35]) (F := F)) g10 (by decide +kernel) (by decide +kernel)
      exact hK b7 hI9 g26
    · have hq27 := (nle_lt hc)
      have b28 : B 0 513 (x5_5) := B_w (B_ltL b8 cqb_514_514_514 hq27) (by decide +kernel) (by decide +kernel)
      have q29 : (0) ≤ (x5_5).toInt ∧ (x5_5).toInt ≤ (513) := (show B 0 513 (x5_5) from B_w b28 (by decide +kernel) (by decide +kernel))
      refine ⟨(show ¬ ((29 : Nat) = NU) from by decide +kernel), ?_⟩
      refine ⟨(show c_cl UL 29 = 903 from cl_29), ?_⟩
      refine ⟨(show vp_in ((514 * x1) + x5_5) 8224 from vp_B (B_add (B_mul cqb_514_514_514 b_x1 (by decide +kernel) (by decide +kernel) (by decide +kernel)) b28 (by decide +kernel) (by decide +kernel)) (by decide +kernel) (by decide +kernel)), ?_⟩
      refine ⟨fun hc => ?_, fun hc => ?_⟩
      · have b30 : B 0 0 (F 29 ((514 * x1) + x5_5).toNatClampNeg) := B_w (B_eq (Eq.symm (congrFun (g10.2 29 rfl rfl) ((514 * x1) + x5_5).toNatClampNeg)) (B_eq hc cqb_0_0_0)) (by decide +kernel) (by decide +kernel)
        have q31 : (0) ≤ (F 29 ((514 * x1) + x5_5).toNatClampNeg).toInt ∧ (F 29 ((514 * x1) + x5_5).toNatClampNeg).toInt ≤ (0) := (show B 0 0 (F 29 ((514 * x1) + x5_5).toNatClampNeg) from B_w b30 (by decide +kernel) (by decide +kernel))
        have e32 : (T6 29 ((514 * x1) + x5_5).toNatClampNeg).toInt = (F 29 ((514 * x1) + x5_5).toNatClampNeg).toInt := (congrArg Int32.toInt (congrFun (g10.2 29 rfl rfl) ((514 * x1) + x5_5).toNatClampNeg)).trans rfl
        have i33 : (T6 29 ((514 * x1) + x5_5).toNatClampNeg).toInt = (0 : Int32).toInt := congrArg Int32.toInt hc
        have n34 : (0 : Int32).toInt = 0 := cqn_0
        refine ⟨fun hc => ?_, fun hc => ?_⟩
        · have hq35 := hc
          have b36 : B 0 513 (x5_5 - x4_4) := B_w (B_leR (B_eq (g10.1 27 1 rfl rfl) (show B 0 257 (F 27 1) from hI 27 1)) (B_sub b28 b7 (by decide +kernel) (by decide +kernel)) hq35) (by decide +kernel) (by decide +kernel)
          have q37 : (0) ≤ (F 27 1).toInt ∧ (F 27 1).toInt ≤ (257) := (show B 0 257 (F 27 1) from hI 27 1)
          have e38 : (T6 27 1).toInt = (F 27 1).toInt := (congrArg Int32.toInt (g10.1 27 1 rfl rfl)).trans rfl
          have e39 : (x5_5 - x4_4).toInt = ((x5_5).toInt - (x4_4).toInt) := (t_sub b28 b7 (by decide +kernel) (by decide +kernel)).trans (by rfl)
          have q40 : (0) ≤ (x5_5 - x4_4).toInt ∧ (x5_5 - x4_4).toInt ≤ (513) := (show B 0 513 (x5_5 - x4_4) from B_w b36 (by decide +kernel) (by decide +kernel))
          have i41 : (T6 27 1).toInt ≤ (x5_5 - x4_4).toInt := i_le hq35
          unfold b_Li_takeThings_70
          have g42 := agc_tr (agc_refl (fs := []) (rs := [35]) (F := F)) g10 (by decide +kernel) (by decide +kernel)
          have e43 : (x5_5 + 1).toInt = ((x5_5).toInt + 1) := (t_add b28 cqb_1_1_1 (by decide +kernel) (by decide +kernel)).trans (by rw [cqn_1])
          have q44 : (1) ≤ (x5_5 + 1).toInt ∧ (x5_5 + 1).toInt ≤ (514) := (show B 1 514 (x5_5 + 1) from B_w (B_add b28 cqb_1_1_1 (by decide +kernel) (by decide +kernel)) (by decide +kernel) (by decide +kernel))
          exact hR6 ⟨rfl, rfl, rfl, b7, (B_w (B_add b28 cqb_1_1_1 (by decide +kernel) (by decide +kernel)) (by decide +kernel) (by decide +kernel)), _, _, rfl, hI9, g42, (by show x4_4.toInt ≤ (x5_5 + 1).toInt; first | with_reducible assumption | omega)⟩ (by show (514 - (x5_5 + 1).toInt).toNat < (514 - x5_5.toInt).toNat; omega)
        · have hq45 := (nle_lt hc)
          have b46 : B (-514) 256 (x5_5 - x4_4) := B_w (B_ltL (B_sub b28 b7 (by decide +kernel) (by decide +kernel)) (B_eq (g10.1 27 1 rfl rfl) (show B 0 257 (F 27 1) from hI 27 1)) hq45) (by decide +kernel) (by decide +kernel)
          have e47 : (x5_5 - x4_4).toInt = ((x5_5).toInt - (x4_4).toInt) := (t_sub b28 b7 (by decide +kernel) (by decide +kernel)).trans (by rfl)
          have q48 : (-514) ≤ (x5_5 - x4_4).toInt ∧ (x5_5 - x4_4).toInt ≤ (256) := (show B (-514) 256 (x5_5 - x4_4) from B_w b46 (by decide +kernel) (by decide +kernel))
          have q49 : (0) ≤ (F 27 1).toInt ∧ (F 27 1).toInt ≤ (257) := (show B 0 257 (F 27 1) from hI 27 1)
          have e50 : (T6 27 1).toInt = (F 27 1).toInt := (congrArg Int32.toInt (g10.1 27 1 rfl rfl)).trans rfl
          have i51 : (x5_5 - x4_4).toInt < (T6 27 1).toInt := i_lt hq45
          refine ⟨(show ¬ ((28 : Nat) = NU) from by decide +kernel), ?_⟩
          refine ⟨(show c_cl UL 28 = 902 from cl_28), ?_⟩
          refine ⟨(show vp_in (x5_5 - x4_4) 257 from vp_om (x := x5_5 - x4_4) (by omega) (by omega)), ?_⟩
          have b52 : B 0 256 (x5_5 - x4_4) := ⟨by omega, by omega⟩
          refine ⟨(show c_cl UL 35 = 902 from cl_35), ?_⟩
          refine ⟨(show vp_in (T6 28 (x5_5 - x4_4).toNatClampNeg) 257 from vp_B (B_eq (congrFun (g10.2 28 rfl rfl) (x5_5 - x4_4).toNatClampNeg) (show B 0 256 (F 28 (x5_5 - x4_4).toNatClampNeg) from hI 28 (x5_5 - x4_4).toNatClampNeg)) (by decide +kernel) (by decide +kernel)), ?_⟩
          refine ⟨(show vp_in (T6 28 (x5_5 - x4_4).toNatClampNeg) 257 from vp_B (B_eq (congrFun (g10.2 28 rfl rfl) (x5_5 - x4_4).toNatClampNeg) (show B 0 256 (F 28 (x5_5 - x4_4).toNatClampNeg) from hI 28 (x5_5 - x4_4).toNatClampNeg)) (by decide +kernel) (by decide +kernel)), ?_⟩
          unfold b_Li_takeThings_70
          have hI53 := IMc_u (u := 35) (i := (T6 28 (x5_5 - x4_4).toNatClampNeg).toNatClampNeg) (v := (T6 35 (T6 28 (x5_5 - x4_4).toNatClampNeg).toNatClampNeg) + 1) hI9 (show B (-2147483648) 2147483647 ((T6 35 (T6 28 (x5_5 - x4_4).toNatClampNeg).toNatClampNeg) + 1) from (B_w (B_any _) (by decide +kernel) (by decide +kernel)))
          have g55 := agc_tr (agc_refl (fs := []) (rs := [35]) (F := F)) g10 (by decide +kernel) (by decide +kernel)
          have g54 := agc_r (u := 35) (w := upd (T6 35) (T6 28 (x5_5 - x4_4).toNatClampNeg).toNatClampNeg ((T6 35 (T6 28 (x5_5 - x4_4).toNatClampNeg).toNatClampNeg) + 1)) g55 rfl (by decide +kernel)
          have e56 : (x5_5 + 1).toInt = ((x5_5).toInt + 1) := (t_add b28 cqb_1_1_1 (by decide +kernel) (by decide +kernel)).trans (by rw [cqn_1])
          have q57 : (1) ≤ (x5_5 + 1).toInt ∧ (x5_5 + 1).toInt ≤ (514) := (show B 1 514 (x5_5 + 1) from B_w (B_add b28 cqb_1_1_1 (by decide +kernel) (by decide +kernel)) (by decide +kernel) (by decide +kernel))
          exact hR6 ⟨rfl, rfl, rfl, b7, (B_w (B_add b28 cqb_1_1_1 (by decide +kernel) (by decide +kernel)) (by decide +kernel) (by decide +kernel)), _, _, rfl, hI53, g54, (by show x4_4.toInt ≤ (x5_5 + 1).toInt; first | with_reducible assumption | omega)⟩ (by show (514 - (x5_5 + 1).toInt).toNat < (514 - x5_5.toInt).toNat; omega)
      · have b58 : B 1 1 (F 29 ((514 * x1) + x5_5).toNatClampNeg) := B_w (B_eq (Eq.symm (congrFun (g10.2 29 rfl rfl) ((514 * x1) + x5_5).toNatClampNeg)) (B_n0 (B_eq (congrFun (g10.2 29 rfl rfl) ((514 * x1) + x5_5).toNatClampNeg) (show B 0 1 (F 29 ((514 * x1) + x5_5).toNatClampNeg) from hI 29 ((514 * x1) + x5_5).toNatClampNeg)) hc)) (by decide +kernel) (by decide +kernel)
        unfold b_Li_takeThings_70
        have e59 : (x4_4 + 1).toInt = ((x4_4).toInt + 1) := (t_add b7 cqb_1_1_1 (by decide +kernel) (by decide +kernel)).trans (by rw [cqn_1])
        have q60 : (1) ≤ (x4_4 + 1).toInt ∧ (x4_4 + 1).toInt ≤ (515) := (show B 1 515 (x4_4 + 1) from B_w (B_add b7 cqb_1_1_1 (by decide +kernel) (by decide +kernel)) (by decide +kernel) (by decide +kernel))
        have g61 := agc_tr (agc_refl (fs := []) (rs := [35]) (F := F)) g10 (by decide +kernel) (by decide +kernel)
        have e62 : (x5_5 + 1).toInt = ((x5_5).toInt + 1) := (t_add b28 cqb_1_1_1 (by decide +kernel) (by decide +kernel)).trans (by rw [cqn_1])
        have q63 : (1) ≤ (x5_5 + 1).toInt ∧ (x5_5 + 1).toInt ≤ (514) := (show B 1 514 (x5_5 + 1) from B_w (B_add b28 cqb_1_1_1 (by decide +kernel) (by decide +kernel)) (by decide +kernel) (by decide +kernel))
        exact hR6 ⟨rfl, rfl, rfl, (show B 0 514 (x4_4 + 1) from ⟨by omega, by omega⟩), (B_w (B_add b28 cqb_1_1_1 (by decide +kernel) (by decide +kernel)) (by decide +kernel) (by decide +kernel)), _, _, rfl, hI9, g61, (by show (x4_4 + 1).toInt ≤ (x5_5 + 1).toInt; first | with_reducible assumption | omega)⟩ (by show (514 - (x5_5 + 1).toInt).toNat < (514 - x5_5.toInt).toNat; omega)
set_option maxRecDepth 20000 in
set_option maxHeartbeats 4000000 in
theorem h_Li_makeLine_u27_x334_b0 {a : Bool} {P : Nat → Nat → Nat} {x1 : Int32} {x2 : Int32} {F : cF} {L : cL} {K : Int32 → cs → Prop} (b_x1 : B 1 15 x1) (b_x2 : B 0 256 x2) (hI : IMc F) (hK : ∀ {v : Int32} {Z : cF} {LZ : cL}, B 0 513 v → IMc Z → agc [] [29, 31] F Z → K v (Z, LZ, PC a (!false) P)) : p_Li_makeLine UL 27 x1 x2 34 (F, L, PC a false P) K := by
  unfold p_Li_makeLine
  have q14 : (0) ≤ (F 27 1).toInt ∧ (F 27 1).toInt ≤ (257) := (show B 0 257 (F 27 1) from hI 27 1)
  have q16 : (0) ≤ (x2).toInt ∧ (x2).toInt ≤ (256) := (show B 0 256 (x2) from B_w b_x2 (by decide +kernel) (by decide +kernel))
  refine ⟨fun yx1 yx2 yx3 yx4 yx5 yx6 yS => x1 = yx1 ∧ x2 = yx2 ∧ (34 : Nat) = yx3 ∧ B 0 257 yx4 ∧ B 0 256 yx5 ∧ B 0 513 yx6 ∧ ∃ (T7 : cF) (LT7 : cL), yS = (T7, LT7, PC a false P) ∧ IMc T7 ∧ agc [] [29, 31] F T7 ∧ ((yx4.toInt + yx5.toInt) = yx6.toInt) ∧ (yx4.toInt ≤ (T7 27 1).toInt) ∧ (yx5.toInt ≤ yx2.toInt), fun yx1 yx2 yx3 yx4 yx5 yx6 yS => (513 - yx6.toInt).toNat, ⟨rfl, rfl, rfl, (B_w cqb_0_0_0 (by decide +kernel) (by decide +kernel)), (B_w cqb_0_0_0 (by decide +kernel) (by decide +kernel)), (B_w cqb_0_0_0 (by decide +kernel) (by decide +kernel)), _, _, rfl, hI, (agc_refl (fs := []) (rs := [29, 31]) (F := F)), (by show (0 + 0) = 0; first | with_reducible assumption | omega), (by show 0 ≤ (F 27 1).toInt; first | with_reducible assumption | omega), (by show 0 ≤ x2.toInt; first | with_reducible assumption | omega)⟩, fun x1_1 x2_2 x3_3 x4_4 x5_5 x6_6 ST7 hIv => ?_⟩
  obtain ⟨rfl, rfl, rfl, b8, b9, b10, T7, LT7, rfl, hI11, g12, r13, r15, r17⟩ := hIv
  suffices hs : ∀ (R9 : Int32 → Int32 → Nat → Int32 → Int32 → Int32 → cs → Prop), (∀ zx1 zx2 zx3 zx4 zx5 zx6 zS, (x1 = zx1 ∧ x2 = zx2 ∧ (34 : Nat) = zx3 ∧ B 0 257 zx4 ∧ B 0 256 zx5 ∧ B 0 513 zx6 ∧ ∃ (T7 : cF) (LT7 : cL), zS = (T7, LT7, PC a false P) ∧ IMc T7 ∧ agc [] [29, 31] F T7 ∧ ((zx4.toInt + zx5.toInt) = zx6.toInt) ∧ (zx4.toInt ≤ (T7 27 1).toInt) ∧ (zx5.toInt ≤ zx2.toInt)) → (513 - zx6.toInt).toNat < (513 - x6_6.toInt).toNat → R9 zx1 zx2 zx3 zx4 zx5 zx6 zS) → b_Li_makeLine_9 UL 27 x1 x2 34 x4_4 x5_5 x6_6 (T7, LT7, PC a false P) R9 K from hs _ (fun _ _ _ _ _ _ _ h1 h2 => ⟨h1, h2⟩)
  intro R9 hR90
  have hR9 := fun {zx1} {zx2} {zx3} {zx4} {zx5} {zx6} {zS} => hR90 zx1 zx2 zx3 zx4 zx5 zx6 zS
  have q18 : (0) ≤ (x4_4).toInt ∧ (x4_4).toInt ≤ (257) := (show B 0 257 (x4_4) from B_w b8 (by decide +kernel) (by decide +kernel))
  have q19 : (0) ≤ (x5_5).toInt ∧ (x5_5).toInt ≤ (256) := (show B 0 256 (x5_5) from B_w b9 (by decide +kernel) (by decide +kernel))
  have q20 : (0) ≤ (x6_6).toInt ∧ (x6_6).toInt ≤ (513) := (show B 0 513 (x6_6) from B_w b10 (by decide +kernel) (by decide +kernel))
  have q21 : (0) ≤ (F 27 1).toInt ∧ (F 27 1).toInt ≤ (257) := (show B 0 257 (F 27 1) from hI 27 1)
  have e22 : (T7 27 1).toInt = (F 27 1).toInt := (congrArg Int32.toInt (g12.1 27 1 rfl rfl)).trans rfl
  have q23 : (0) ≤ (x2).toInt ∧ (x2).toInt ≤ (256) := (show B 0 256 (x2) from B_w b_x2 (by decide +kernel) (by decide +kernel))
  unfold b_Li_makeLine_9
  refine ⟨fun hc => ?_, fun hc => ?_⟩
  · have hq24 := hc
    have e25 : ((T7 27 1) + x2).toInt = ((F 27 1).toInt + (x2).toInt) := (t_add (B_eq (g12.1 27 1 rfl rfl) (show B 0 257 (F 27 1) from hI 27 1)) b_x2 (by decide +kernel) (by decide +kernel)).trans (by rw [e22])
    have q26 : (0) ≤ ((T7 27 1) + x2).toInt ∧ ((T7 27 1) + x2).toInt ≤ (513) := (show B 0 513 ((T7 27 1) + x2) from B_w (B_add (B_eq (g12.1 27 1 rfl rfl) (show B 0 257 (F 27 1) from hI 27 1)) b_x2 (by decide +kernel) (by decide +kernel)) (by decide +kernel) (by decide +kernel))
    have i27 : ((T7 27 1) + x2).toInt ≤ (x6_6).toInt := i_le hq24
    refine ⟨(show ¬ ((30 : Nat) = NU) from by decide +kernel), ?_⟩
    refine ⟨(show ¬ ((31 : Nat) = NU) from by decide +kernel), ?_⟩
    refine ⟨(show ¬ ((31 : Nat) = NU) from by decide +kernel), ?_⟩
    refine ⟨(show ¬ ((30 : Nat) = NU) from by decide +kernel), ?_⟩
    have g28 := agc_tr (agc_refl (fs := []) (rs := [29, 31]) (F := F)) g12 (by decide +kernel) (by decide +kernel)
    rw [pc_swap]
    exact hK (B_w (B_add (B_eq (g12.1 27 1 rfl rfl) (show B 0 257 (F 27 1) from hI 27 1)) b_x2 (by decide +kernel) (by decide +kernel)) (by decide +kernel) (by decide +kernel)) hI11 g28
  · have hq29 := (nle_lt hc)
    have b30 : B 0 512 (x6_6) := B_w (B_ltL b10 (B_add (B_eq (g12.1 27 1 rfl rfl) (show B 0 257 (F 27 1) from hI 27 1)) b_x2 (by decide +kernel) (by decide +kernel)) hq29) (by decide +kernel) (by decide +kernel)
    have q31 : (0) ≤ (x6_6).toInt ∧ (x6_6).toInt ≤ (512) := (show B 0 512 (x6_6) from B_w b30 (by decide +kernel) (by decide +kernel))
    have b32 : B 1 513 ((T7 27 1) + x2) := B_w (B_ltR b10 (B_add (B_eq (g12.1 27 1 rfl rfl) (show B 0 257 (F 27 1) from hI 27 1)) b_x2 (by decide +kernel) (by decide +kernel)) hq29) (by decide +kernel) (by decide +kernel)
    have e33 : ((T7 27 1) + x2).toInt = ((F 27 1).toInt + (x2).toInt) := (t_add (B_eq (g12.1 27 1 rfl rfl) (show B 0 257 (F 27 1) from hI 27 1)) b_x2 (by decide +kernel) (by decide +kernel)).trans (by rw [e22])
    have q34 : (1) ≤ ((T7 27 1) + x2).toInt ∧ ((T7 27 1) + x2).toInt ≤ (513) := (show B 1 513 ((T7 27 1) + x2) from B_w b32 (by decide +kernel) (by decide +kernel))
    have i35 : (x6_6).toInt < ((T7 27 1) + x2).toInt := i_lt hq29
    refine ⟨fun hc => ?_, fun hc => ?_⟩
    · have hq36 := hc
      have i37 : (x2).toInt ≤ (x5_5).toInt := i_le hq36
      unfold b_Li_makeLine_51
      refine ⟨fun hc => ?_, fun hc => ?_⟩
      · have i38 : (x4_4).toInt = (T7 27 1).toInt := congrArg Int32.toInt hc
        unfold b_Li_makeLine_82
        unfold b_Li_makeLine_87
        refine ⟨(show ¬ ((29 : Nat) = NU) from by decide +kernel), ?_⟩
        refine ⟨(show c_cl UL 29 = 903 from cl_29), ?_⟩
        refine ⟨(show vp_in ((514 * x1) + x6_6) 8224 from vp_B (B_add (B_mul cqb_514_514_514 b_x1 (by decide +kernel) (by decide +kernel) (by decide +kernel)) b30 (by decide +kernel) (by decide +kernel)) (by decide +kernel) (by decide +kernel)), ?_⟩
        refine ⟨fun hc => ?_, fun hc => ?_⟩
        · exact (B_dis cqb_1_1_1 cqb_0_0_0 hc (by decide +kernel)).elim
        · have i39 : (1 : Int32).toInt ≠ (0 : Int32).toInt := i_ne hc
          have n40 : (1 : Int32).toInt = 1 := cqn_1
          have n41 : (0 : Int32).toInt = 0 := cqn_0
          refine ⟨(show ¬ ((31 : Nat) = NU) from by decide +kernel), ?_⟩
          refine ⟨(show c_cl UL 31 = 902 from cl_31), ?_⟩
          refine ⟨(show vp_in (x6_6) 514 from vp_B b30 (by decide +kernel) (by decide +kernel)), ?_⟩
          unfold b_Li_makeLine_143
          have e42 : (x5_5 + 1).toInt = ((x5_5).toInt + 1) := (t_add b9 cqb_1_1_1 (by decide +kernel) (by decide +kernel)).trans (by rw [cqn_1])
          have q43 : (1) ≤ (x5_5 + 1).toInt ∧ (x5_5 + 1).toInt ≤ (257) := (show B 1 257 (x5_5 + 1) from B_w (B_add b9 cqb_1_1_1 (by decide +kernel) (by decide +kernel)) (by decide +kernel) (by decide +kernel))
          have hI44 := IMc_u (u := 29) (i := ((514 * x1) + x6_6).toNatClampNeg) (v := vp_nar .boolean 1) hI11 (show B 0 1 (vp_nar .boolean 1) from (B_w (show B 1 1 (vp_nar .boolean 1) from ⟨by decide +kernel, by decide +kernel⟩) (by decide +kernel) (by decide +kernel)))
          have hI45 := IMc_u (u := 31) (i := x6_6.toNatClampNeg) (v := 0) hI44 (show B (-2147483648) 2147483647 (0) from (B_w cqb_0_0_0 (by decide +kernel) (by decide +kernel)))
          have g48 := agc_tr (agc_refl (fs := []) (rs := [29, 31]) (F := F)) g12 (by decide +kernel) (by decide +kernel)
          have g47 := agc_r (u := 29) (w := upd (T7 29) ((514 * x1) + x6_6).toNatClampNeg (vp_nar .boolean 1)) g48 rfl (by decide +kernel)
          have g46 := agc_r (u := 31) (w := upd (T7 31) x6_6.toNatClampNeg 0) g47 rfl (by decide +kernel)
          have e49 : (x6_6 + 1).toInt = ((x6_6).toInt + 1) := (t_add b30 cqb_1_1_1 (by decide +kernel) (by decide +kernel)).trans (by rw [cqn_1])
          have q50 : (1) ≤ (x6_6 + 1).toInt ∧ (x6_6 + 1).toInt ≤ (513) := (show B 1 513 (x6_6 + 1) from B_w (B_add b30 cqb_1_1_1 (by decide +kernel) (by decide +kernel)) (by decide +kernel) (by decide +kernel))
          exact hR9 ⟨rfl, rfl, rfl, b8, (show B 0 256 (x5_5 + 1) from ⟨by omega, by omega⟩), (B_w (B_add b30 cqb_1_1_1 (by decide +kernel) (by decide +kernel)) (by decide +kernel) (by decide +kernel)), _, _, rfl, hI45, g46, (by show (x4_4.toInt + (x5_5 + 1).toInt) = (x6_6 + 1).toInt; first | with_reducible assumption | omega), (by show x4_4.toInt ≤ (T7 27 1).toInt; first | with_reducible assumption | omega), (by show (x5_5 + 1).toInt ≤ x2.toInt; first | with_reducible assumption | omega)⟩ (by show (513 - (x6_6 + 1).toInt).toNat < (513 - x6_6.toInt).toNat; omega)
      · have i51 : (x4_4).toInt ≠ (T7 27 1).toInt := i_ne hc
        refine ⟨fun hc => ?_, fun hc => ?_⟩
        · have hq52 := hc
          have i53 : (x2).toInt ≤ (x5_5).toInt := i_le hq52
          unfold b_Li_makeLine_86
          unfold b_Li_makeLine_87
          refine ⟨(show ¬ ((29 : Nat) = NU) from by decide +kernel), ?_⟩
          refine ⟨(show c_cl UL 29 = 903 from cl_29), ?_⟩
          refine ⟨(show vp_in ((514 * x1) + x6_6) 8224 from vp_B (B_add (B_mul cqb_514_514_514 b_x1 (by decide +kernel) (by decide +kernel) (by decide +kernel)) b30 (by decide +kernel) (by decide +kernel)) (by decide +kernel) (by decide +kernel)), ?_⟩
          refine ⟨fun hc => ?_, fun hc => ?_⟩
          · have i54 : (0 : Int32).toInt = (0 : Int32).toInt := congrArg Int32.toInt hc
            have n55 : (0 : Int32).toInt = 0 := cqn_0
            have n56 : (0 : Int32).toInt = 0 := cqn_0
            refine ⟨(show ¬ ((31 : Nat) = NU) from by decide +kernel), ?_⟩
            refine ⟨(show ¬ ((28 : Nat) = NU) from by decide +kernel), ?_⟩
            refine ⟨(show c_cl UL 28 = 902 from cl_28), ?_⟩
            refine ⟨(show vp_in (x4_4) 257 from vp_om (x := x4_4) (by omega) (by omega)), ?_⟩
            have b57 : B 0 256 (x4_4) := ⟨by omega, by omega⟩
            refine ⟨(show c_cl UL 34 = 902 from cl_34), ?_⟩
            refine ⟨(show vp_in (T7 28 x4_4.toNatClampNeg) 257 from vp_B (B_eq (congrFun (g12.2 28 rfl rfl) x4_4.toNatClampNeg) (show B 0 256 (F 28 x4_4.toNatClampNeg) from hI 28 x4_4.toNatClampNeg)) (by decide +kernel) (by decide +kernel)), ?_⟩
            refine ⟨(show c_cl UL 31 = 902 from cl_31), ?_⟩
            refine ⟨(show vp_in (x6_6) 514 from vp_B b30 (by decide +kernel) (by decide +kernel)), ?_⟩
            unfold b_Li_makeLine_143
            have hI58 := IMc_u (u := 29) (i := ((514 * x1) + x6_6).toNatClampNeg) (v := vp_nar .boolean 0) hI11 (show B 0 1 (vp_nar .boolean 0) from (B_w (show B 0 0 (vp_nar .boolean 0) from ⟨by decide +kernel, by decide +kernel⟩) (by decide +kernel) (by decide +kernel)))
            have hI59 := IMc_u (u := 31) (i := x6_6.toNatClampNeg) (v := T7 34 (T7 28 x4_4.toNatClampNeg).toNatClampNeg) hI58 (show B (-2147483648) 2147483647 (T7 34 (T7 28 x4_4.toNatClampNeg).toNatClampNeg) from (B_w (B_eq (congrFun (g12.2 34 rfl rfl) (T7 28 x4_4.toNatClampNeg).toNatClampNeg) (B_any _)) (by decide +kernel) (by decide +kernel)))
            have g62 := agc_tr (agc_refl (fs := []) (rs := [29, 31]) (F := F)) g12 (by decide +kernel) (by decide +kernel)
            have g61 := agc_r (u := 29) (w := upd (T7 29) ((514 * x1) + x6_6).toNatClampNeg (vp_nar .boolean 0)) g62 rfl (by decide +kernel)
            have g60 := agc_r (u := 31) (w := upd (T7 31) x6_6.toNatClampNeg (T7 34 (T7 28 x4_4.toNatClampNeg).toNatClampNeg)) g61 rfl (by decide +kernel)
            have e63 : (x4_4 + 1).toInt = ((x4_4).toInt + 1) := (t_add b57 cqb_1_1_1 (by decide +kernel) (by decide +kernel)).trans (by rw [cqn_1])
            have q64 : (1) ≤ (x4_4 + 1).toInt ∧ (x4_4 + 1).toInt ≤ (257) := (show B 1 257 (x4_4 + 1) from B_w (B_add b57 cqb_1_1_1 (by decide +kernel) (by decide +kernel)) (by decide +kernel) (by decide +kernel))
            have e65 : (x6_6 + 1).toInt = ((x6_6).toInt + 1) := (t_add b30 cqb_1_1_1 (by decide +kernel) (by decide +kernel)).trans (by rw [cqn_1])
            have q66 : (1) ≤ (x6_6 + 1).toInt ∧ (x6_6 + 1).toInt ≤ (513) := (show B 1 513 (x6_6 + 1) from B_w (B_add b30 cqb_1_1_1 (by decide +kernel) (by decide +kernel)) (by decide +kernel) (by decide +kernel))
            exact hR9 ⟨rfl, rfl, rfl, (B_w (B_add b57 cqb_1_1_1 (by decide +kernel) (by decide +kernel)) (by decide +kernel) (by decide +kernel)), b9, (B_w (B_add b30 cqb_1_1_1 (by decide +kernel) (by decide +kernel)) (by decide +kernel) (by decide +kernel)), _, _, rfl, hI59, g60, (by show ((x4_4 + 1).toInt + x5_5.toInt) = (x6_6 + 1).toInt; first | with_reducible assumption | omega), (by show (x4_4 + 1).toInt ≤ (T7 27 1).toInt; first | with_reducible assumption | omega), (by show x5_5.toInt ≤ x2.toInt; first | with_reducible assumption | omega)⟩ (by show (513 - (x6_6 + 1).toInt).toNat < (513 - x6_6.toInt).toNat; omega)
          · exact (hc (B_z cqb_0_0_0)).elim
        · have hq67 := (nle_lt hc)
          have b68 : B 0 255 (x5_5) := B_w (B_ltL b9 b_x2 hq67) (by decide +kernel) (by decide +kernel)
          have q69 : (0) ≤ (x5_5).toInt ∧ (x5_5).toInt ≤ (255) := (show B 0 255 (x5_5) from B_w b68 (by decide +kernel) (by decide +kernel))
          have b70 : B 1 256 (x2) := B_w (B_ltR b9 b_x2 hq67) (by decide +kernel) (by decide +kernel)
          have q71 : (1) ≤ (x2).toInt ∧ (x2).toInt ≤ (256) := (show B 1 256 (x2) from B_w b70 (by decide +kernel) (by decide +kernel))
          have i72 : (x5_5).toInt < (x2).toInt := i_lt hq67
          refine ⟨(show ¬ ((28 : Nat) = NU) from by decide +kernel), ?_⟩
          refine ⟨(show c_cl UL 28 = 902 from cl_28), ?_⟩
          refine ⟨(show vp_in (x4_4) 257 from vp_om (x := x4_4) (by omega) (by omega)), ?_⟩
          have b73 : B 0 256 (x4_4) := ⟨by omega, by omega⟩
          refine ⟨(show c_cl UL 34 = 902 from cl_34), ?_⟩
          refine ⟨(show vp_in (T7 28 x4_4.toNatClampNeg) 257 from vp_B (B_eq (congrFun (g12.2 28 rfl rfl) x4_4.toNatClampNeg) (show B 0 256 (F 28 x4_4.toNatClampNeg) from hI 28 x4_4.toNatClampNeg)) (by decide +kernel) (by decide +kernel)), ?_⟩
          refine ⟨fun hc => ?_, fun hc => ?_⟩
          · have hq74 := hc
            have b75 : B (-2147483648) 0 (F 34 (T7 28 x4_4.toNatClampNeg).toNatClampNeg) := B_w (B_eq (Eq.symm (congrFun (g12.2 34 rfl rfl) (T7 28 x4_4.toNatClampNeg).toNatClampNeg)) (B_leL (B_eq (congrFun (g12.2 34 rfl rfl) (T7 28 x4_4.toNatClampNeg).toNatClampNeg) (B_any _)) cqb_0_0_0 hq74)) (by decide +kernel) (by decide +kernel)
            unfold b_Li_makeLine_86
            unfold b_Li_makeLine_87
            refine ⟨(show ¬ ((29 : Nat) = NU) from by decide +kernel), ?_⟩
            refine ⟨(show c_cl UL 29 = 903 from cl_29), ?_⟩
            refine ⟨(show vp_in ((514 * x1) + x6_6) 8224 from vp_B (B_add (B_mul cqb_514_514_514 b_x1 (by decide +kernel) (by decide +kernel) (by decide +kernel)) b30 (by decide +kernel) (by decide +kernel)) (by decide +kernel) (by decide +kernel)), ?_⟩
            refine ⟨fun hc => ?_, fun hc => ?_⟩
            · have i76 : (0 : Int32).toInt = (0 : Int32).toInt := congrArg Int32.toInt hc
              have n77 : (0 : Int32).toInt = 0 := cqn_0
              have n78 : (0 : Int32).toInt = 0 := cqn_0
              refine ⟨(show ¬ ((31 : Nat) = NU) from by decide +kernel), ?_⟩
              refine ⟨(show ¬ ((28 : Nat) = NU) from by decide +kernel), ?_⟩
              refine ⟨(show c_cl UL 28 = 902 from cl_28), ?_⟩
              refine ⟨(show vp_in (x4_4) 257 from vp_B b73 (by decide +kernel) (by decide +kernel)), ?_⟩
              refine ⟨(show c_cl UL 34 = 902 from cl_34), ?_⟩
              refine ⟨(show vp_in (T7 28 x4_4.toNatClampNeg) 257 from vp_B (B_eq (congrFun (g12.2 28 rfl rfl) x4_4.toNatClampNeg) (show B 0 256 (F 28 x4_4.toNatClampNeg) from hI 28 x4_4.toNatClampNeg)) (by decide +kernel) (by decide +kernel)), ?_⟩
              refine ⟨(show c_cl UL 31 = 902 from cl_31), ?_⟩
              refine ⟨(show vp_in (x6_6) 514 from vp_B b30 (by decide +kernel) (by decide +kernel)), ?_⟩
              unfold b_Li_makeLine_143
              have hI79 := IMc_u (u := 29) (i := ((514 * x1) + x6_6).toNatClampNeg) (v := vp_nar .boolean 0) hI11 (show B 0 1 (vp_nar .boolean 0) from (B_w (show B 0 0 (vp_nar .boolean 0) from ⟨by decide +kernel, by decide +kernel⟩) (by decide +kernel) (by decide +kernel)))
              have hI80 := IMc_u (u := 31) (i := x6_6.toNatClampNeg) (v := T7 34 (T7 28 x4_4.toNatClampNeg).toNatClampNeg) hI79 (show B (-2147483648) 2147483647 (T7 34 (T7 28 x4_4.toNatClampNeg).toNatClampNeg) from (B_w (B_eq (congrFun (g12.2 34 rfl rfl) (T7 28 x4_4.toNatClampNeg).toNatClampNeg) b75) (by decide +kernel) (by decide +kernel)))
              have g83 := agc_tr (agc_refl (fs := []) (rs := [29, 31]) (F := F)) g12 (by decide +kernel) (by decide +kernel)
              have g82 := agc_r (u := 29) (w := upd (T7 29) ((514 * x1) + x6_6).toNatClampNeg (vp_nar .boolean 0)) g83 rfl (by decide +kernel)
              have g81 := agc_r (u := 31) (w := upd (T7 31) x6_6.toNatClampNeg (T7 34 (T7 28 x4_4.toNatClampNeg).toNatClampNeg)) g82 rfl (by decide +kernel)
              have e84 : (x4_4 + 1).toInt = ((x4_4).toInt + 1) := (t_add b73 cqb_1_1_1 (by decide +kernel) (by decide +kernel)).trans (by rw [cqn_1])
              have q85 : (1) ≤ (x4_4 + 1).toInt ∧ (x4_4 + 1).toInt ≤ (257) := (show B 1 257 (x4_4 + 1) from B_w (B_add b73 cqb_1_1_1 (by decide +kernel) (by decide +kernel)) (by decide +kernel) (by decide +kernel))
              have e86 : (x6_6 + 1).toInt = ((x6_6).toInt + 1) := (t_add b30 cqb_1_1_1 (by decide +kernel) (by decide +kernel)).trans (by rw [cqn_1])
              have q87 : (1) ≤ (x6_6 + 1).toInt ∧ (x6_6 + 1).toInt ≤ (513) := (show B 1 513 (x6_6 + 1) from B_w (B_add b30 cqb_1_1_1 (by decide +kernel) (by decide +kernel)) (by decide +kernel) (by decide +kernel))
              exact hR9 ⟨rfl, rfl, rfl, (B_w (B_add b73 cqb_1_1_1 (by decide +kernel) (by decide +kernel)) (by decide +kernel) (by decide +kernel)), (B_w b68 (by decide +kernel) (by decide +kernel)), (B_w (B_add b30 cqb_1_1_1 (by decide +kernel) (by decide +kernel)) (by decide +kernel) (by decide +kernel)), _, _, rfl, hI80, g81, (by show ((x4_4 + 1).toInt + x5_5.toInt) = (x6_6 + 1).toInt; first | with_reducible assumption | omega), (by show (x4_4 + 1).toInt ≤ (T7 27 1).toInt; first | with_reducible assumption | omega), (by show x5_5.toInt ≤ x2.toInt; first | with_reducible assumption | omega)⟩ (by show (513 - (x6_6 + 1).toInt).toNat < (513 - x6_6.toInt).toNat; omega)
            · exact (hc (B_z cqb_0_0_0)).elim
          · have hq88 := (nle_lt hc)
            have b89 : B 1 2147483647 (F 34 (T7 28 x4_4.toNatClampNeg).toNatClampNeg) := B_w (B_eq (Eq.symm (congrFun (g12.2 34 rfl rfl) (T7 28 x4_4.toNatClampNeg).toNatClampNeg)) (B_ltR cqb_0_0_0 (B_eq (congrFun (g12.2 34 rfl rfl) (T7 28 x4_4.toNatClampNeg).toNatClampNeg) (B_any _)) hq88)) (by decide +kernel) (by decide +kernel)
            unfold b_Li_makeLine_82
            unfold b_Li_makeLine_87
            refine ⟨(show ¬ ((29 : Nat) = NU) from by decide +kernel), ?_⟩
            refine ⟨(show c_cl UL 29 = 903 from cl_29), ?_⟩
            refine ⟨(show vp_in ((514 * x1) + x6_6) 8224 from vp_B (B_add (B_mul cqb_514_514_514 b_x1 (by decide +kernel) (by decide +kernel) (by decide +kernel)) b30 (by decide +kernel) (by decide +kernel)) (by decide +kernel) (by decide +kernel)), ?_⟩
            refine ⟨fun hc => ?_, fun hc => ?_⟩
            · exact (B_dis cqb_1_1_1 cqb_0_0_0 hc (by decide +kernel)).elim
            · have i90 : (1 : Int32).toInt ≠ (0 : Int32).toInt := i_ne hc
              have n91 : (1 : Int32).toInt = 1 := cqn_1
              have n92 : (0 : Int32).toInt = 0 := cqn_0
              refine ⟨(show ¬ ((31 : Nat) = NU) from by decide +kernel), ?_⟩
              refine ⟨(show c_cl UL 31 = 902 from cl_31), ?_⟩
              refine ⟨(show vp_in (x6_6) 514 from vp_B b30 (by decide +kernel) (by decide +kernel)), ?_⟩
              unfold b_Li_makeLine_143
              have hI93 := IMc_u (u := 29) (i := ((514 * x1) + x6_6).toNatClampNeg) (v := vp_nar .boolean 1) hI11 (show B 0 1 (vp_nar .boolean 1) from (B_w (show B 1 1 (vp_nar .boolean 1) from ⟨by decide +kernel, by decide +kernel⟩) (by decide +kernel) (by decide +kernel)))
              have hI94 := IMc_u (u := 31) (i := x6_6.toNatClampNeg) (v := 0) hI93 (show B (-2147483648) 2147483647 (0) from (B_w cqb_0_0_0 (by decide +kernel) (by decide +kernel)))
              have g97 := agc_tr (agc_refl (fs := []) (rs := [29, 31]) (F := F)) g12 (by decide +kernel) (by decide +kernel)
              have g96 := agc_r (u := 29) (w := upd (T7 29) ((514 * x1) + x6_6).toNatClampNeg (vp_nar .boolean 1)) g97 rfl (by decide +kernel)
              have g95 := agc_r (u := 31) (w := upd (T7 31) x6_6.toNatClampNeg 0) g96 rfl (by decide +kernel)
              have e98 : (x5_5 + 1).toInt = ((x5_5).toInt + 1) := (t_add b68 cqb_1_1_1 (by decide +kernel) (by decide +kernel)).trans (by rw [cqn_1])
              have q99 : (1) ≤ (x5_5 + 1).toInt ∧ (x5_5 + 1).toInt ≤ (256) := (show B 1 256 (x5_5 + 1) from B_w (B_add b68 cqb_1_1_1 (by decide +kernel) (by decide +kernel)) (by decide +kernel) (by decide +kernel))
              have e100 : (x6_6 + 1).toInt = ((x6_6).toInt + 1) := (t_add b30 cqb_1_1_1 (by decide +kernel) (by decide +kernel)).trans (by rw [cqn_1])
              have q101 : (1) ≤ (x6_6 + 1).toInt ∧ (x6_6 + 1).toInt ≤ (513) := (show B 1 513 (x6_6 + 1) from B_w (B_add b30 cqb_1_1_1 (by decide +kernel) (by decide +kernel)) (by decide +kernel) (by decide +kernel))
              exact hR9 ⟨rfl, rfl, rfl, (B_w b73 (by decide +kernel) (by decide +kernel)), (B_w (B_add b68 cqb_1_1_1 (by decide +kernel) (by decide +kernel)) (by decide +kernel) (by decide +kernel)), (B_w (B_add b30 cqb_1_1_1 (by decide +kernel) (by decide +kernel)) (by decide +kernel) (by decide +kernel)), _, _, rfl, hI94, g95, (by show (x4_4.toInt + (x5_5 + 1).toInt) = (x6_6 + 1).toInt; first | with_reducible assumption | omega), (by show x4_4.toInt ≤ (T7 27 1).toInt; first | with_reducible assumption | omega), (by show (x5_5 + 1).toInt ≤ x2.toInt; first | with_reducible assumption | omega)⟩ (by show (513 - (x6_6 + 1).toInt).toNat < (513 - x6_6.toInt).toNat; omega)
    · have hq102 := (nle_lt hc)
      have b103 : B 0 255 (x5_5) := B_w (B_ltL b9 b_x2 hq102) (by decide +kernel) (by decide +kernel)
      have q104 : (0) ≤ (x5_5).toInt ∧ (x5_5).toInt ≤ (255) := (show B 0 255 (x5_5) from B_w b103 (by decide +kernel) (by decide +kernel))
      have b105 : B 1 256 (x2) := B_w (B_ltR b9 b_x2 hq102) (by decide +kernel) (by decide +kernel)
      have q106 : (1) ≤ (x2).toInt ∧ (x2).toInt ≤ (256) := (show B 1 256 (x2) from B_w b105 (by decide +kernel) (by decide +kernel))
      have i107 : (x5_5).toInt < (x2).toInt := i_lt hq102
      refine ⟨(show ¬ ((30 : Nat) = NU) from by decide +kernel), ?_⟩
      refine ⟨(show c_cl UL 30 = 902 from cl_30), ?_⟩
      refine ⟨(show vp_in (2 * x5_5) 514 from vp_B (B_mul cqb_2_2_2 b103 (by decide +kernel) (by decide +kernel) (by decide +kernel)) (by decide +kernel) (by decide +kernel)), ?_⟩
      refine ⟨(show ¬ ((30 : Nat) = NU) from by decide +kernel), ?_⟩
      refine ⟨(show vp_in ((2 * x5_5) + 1) 514 from vp_B (B_add (B_mul cqb_2_2_2 b103 (by decide +kernel) (by decide +kernel) (by decide +kernel)) cqb_1_1_1 (by decide +kernel) (by decide +kernel)) (by decide +kernel) (by decide +kernel)), ?_⟩
      unfold b_Li_makeLine_51
      refine ⟨fun hc => ?_, fun hc => ?_⟩
      · have i108 : (x4_4).toInt = (T7 27 1).toInt := congrArg Int32.toInt hc
        unfold b_Li_makeLine_82
        unfold b_Li_makeLine_87
        refine ⟨(show ¬ ((29 : Nat) = NU) from by decide +kernel), ?_⟩
        refine ⟨(show c_cl UL 29 = 903 from cl_29), ?_⟩
        refine ⟨(show vp_in ((514 * x1) + x6_6) 8224 from vp_B (B_add (B_mul cqb_514_514_514 b_x1 (by decide +kernel) (by decide +kernel) (by decide +kernel)) b30 (by decide +kernel) (by decide +kernel)) (by decide +kernel) (by decide +kernel)), ?_⟩
        refine ⟨fun hc => ?_, fun hc => ?_⟩
        · exact (B_dis cqb_1_1_1 cqb_0_0_0 hc (by decide +kernel)).elim
        · have i109 : (1 : Int32).toInt ≠ (0 : Int32).toInt := i_ne hc
          have n110 : (1 : Int32).toInt = 1 := cqn_1
          have n111 : (0 : Int32).toInt = 0 := cqn_0
          refine ⟨(show ¬ ((31 : Nat) = NU) from by decide +kernel), ?_⟩
          refine ⟨(show c_cl UL 31 = 902 from cl_31), ?_⟩
          refine ⟨(show vp_in (x6_6) 514 from vp_B b30 (by decide +kernel) (by decide +kernel)), ?_⟩
          unfold b_Li_makeLine_143
          have hI112 := IMc_u (u := 29) (i := ((514 * x1) + x6_6).toNatClampNeg) (v := vp_nar .boolean 1) hI11 (show B 0 1 (vp_nar .boolean 1) from (B_w (show B 1 1 (vp_nar .boolean 1) from ⟨by decide +kernel, by decide +kernel⟩) (by decide +kernel) (by decide +kernel)))
          have hI113 := IMc_u (u := 31) (i := x6_6.toNatClampNeg) (v := (T7 30 (2 * x5_5).toNatClampNeg) + (T7 30 ((2 * x5_5) + 1).toNatClampNeg)) hI112 (show B (-2147483648) 2147483647 ((T7 30 (2 * x5_5).toNatClampNeg) + (T7 30 ((2 * x5_5) + 1).toNatClampNeg)) from (B_w (B_any _) (by decide +kernel) (by decide +kernel)))
          have g116 := agc_tr (agc_refl (fs := []) (rs := [29, 31]) (F := F)) g12 (by decide +kernel) (by decide +kernel)
          have g115 := agc_r (u := 29) (w := upd (T7 29) ((514 * x1) + x6_6).toNatClampNeg (vp_nar .boolean 1)) g116 rfl (by decide +kernel)
          have g114 := agc_r (u := 31) (w := upd (T7 31) x6_6.toNatClampNeg ((T7 30 (2 * x5_5).toNatClampNeg) + (T7 30 ((2 * x5_5) + 1).toNatClampNeg))) g115 rfl (by decide +kernel)
          have e117 : (x5_5 + 1).toInt = ((x5_5).toInt + 1) := (t_add b103 cqb_1_1_1 (by decide +kernel) (by decide +kernel)).trans (by rw [cqn_1])
          have q118 : (1) ≤ (x5_5 + 1).toInt ∧ (x5_5 + 1).toInt ≤ (256) := (show B 1 256 (x5_5 + 1) from B_w (B_add b103 cqb_1_1_1 (by decide +kernel) (by decide +kernel)) (by decide +kernel) (by decide +kernel))
          have e119 : (x6_6 + 1).toInt = ((x6_6).toInt + 1) := (t_add b30 cqb_1_1_1 (by decide +kernel) (by decide +kernel)).trans (by rw [cqn_1])
          have q120 : (1) ≤ (x6_6 + 1).toInt ∧ (x6_6 + 1).toInt ≤ (513) := (show B 1 513 (x6_6 + 1) from B_w (B_add b30 cqb_1_1_1 (by decide +kernel) (by decide +kernel)) (by decide +kernel) (by decide +kernel))
          exact hR9 ⟨rfl, rfl, rfl, b8, (B_w (B_add b103 cqb_1_1_1 (by decide +kernel) (by decide +kernel)) (by decide +kernel) (by decide +kernel)), (B_w (B_add b30 cqb_1_1_1 (by decide +kernel) (by decide +kernel)) (by decide +kernel) (by decide +kernel)), _, _, rfl, hI113, g114, (by show (x4_4.toInt + (x5_5 + 1).toInt) = (x6_6 + 1).toInt; first | with_reducible assumption | omega), (by show x4_4.toInt ≤ (T7 27 1).toInt; first | with_reducible assumption | omega), (by show (x5_5 + 1).toInt ≤ x2.toInt; first | with_reducible assumption | omega)⟩ (by show (513 - (x6_6 + 1).toInt).toNat < (513 - x6_6.toInt).toNat; omega)
      · have i121 : (x4_4).toInt ≠ (T7 27 1).toInt := i_ne hc
        refine ⟨fun hc => ?_, fun hc => ?_⟩
        · have hq122 := hc
          have b123 : B 1 255 (x2) := B_w (B_leL b105 b103 hq122) (by decide +kernel) (by decide +kernel)
          have q124 : (1) ≤ (x2).toInt ∧ (x2).toInt ≤ (255) := (show B 1 255 (x2) from B_w b123 (by decide +kernel) (by decide +kernel))
          have b125 : B 1 255 (x5_5) := B_w (B_leR b105 b103 hq122) (by decide +kernel) (by decide +kernel)
          have q126 : (1) ≤ (x5_5).toInt ∧ (x5_5).toInt ≤ (255) := (show B 1 255 (x5_5) from B_w b125 (by decide +kernel) (by decide +kernel))
          have i127 : (x2).toInt ≤ (x5_5).toInt := i_le hq122
          unfold b_Li_makeLine_86
          unfold b_Li_makeLine_87
          refine ⟨(show ¬ ((29 : Nat) = NU) from by decide +kernel), ?_⟩
          refine ⟨(show c_cl UL 29 = 903 from cl_29), ?_⟩
          refine ⟨(show vp_in ((514 * x1) + x6_6) 8224 from vp_B (B_add (B_mul cqb_514_514_514 b_x1 (by decide +kernel) (by decide +kernel) (by decide +kernel)) b30 (by decide +kernel) (by decide +kernel)) (by decide +kernel) (by decide +kernel)), ?_⟩
          refine ⟨fun hc => ?_, fun hc => ?_⟩
          · have i128 : (0 : Int32).toInt = (0 : Int32).toInt := congrArg Int32.toInt hc
            have n129 : (0 : Int32).toInt = 0 := cqn_0
            have n130 : (0 : Int32).toInt = 0 := cqn_0
            refine ⟨(show ¬ ((31 : Nat) = NU) from by decide +kernel), ?_⟩
            refine ⟨(show ¬ ((28 : Nat) = NU) from by decide +kernel), ?_⟩
            refine ⟨(show c_cl UL 28 = 902 from cl_28), ?_⟩
            refine ⟨(show vp_in (x4_4) 257 from vp_om (x := x4_4) (by omega) (by omega)), ?_⟩
            have b131 : B 0 256 (x4_4) := ⟨by omega, by omega⟩
            refine ⟨(show c_cl UL 34 = 902 from cl_34), ?_⟩
            refine ⟨(show vp_in (T7 28 x4_4.toNatClampNeg) 257 from vp_B (B_eq (congrFun (g12.2 28 rfl rfl) x4_4.toNatClampNeg) (show B 0 256 (F 28 x4_4.toNatClampNeg) from hI 28 x4_4.toNatClampNeg)) (by decide +kernel) (by decide +kernel)), ?_⟩
            refine ⟨(show c_cl UL 31 = 902 from cl_31), ?_⟩
            refine ⟨(show vp_in (x6_6) 514 from vp_B b30 (by decide +kernel) (by decide +kernel)), ?_⟩
            unfold b_Li_makeLine_143
            have hI132 := IMc_u (u := 29) (i := ((514 * x1) + x6_6).toNatClampNeg) (v := vp_nar .boolean 0) hI11 (show B 0 1 (vp_nar .boolean 0) from (B_w (show B 0 0 (vp_nar .boolean 0) from ⟨by decide +kernel, by decide +kernel⟩) (by decide +kernel) (by decide +kernel)))
            have hI133 := IMc_u (u := 31) (i := x6_6.toNatClampNeg) (v := T7 34 (T7 28 x4_4.toNatClampNeg).toNatClampNeg) hI132 (show B (-2147483648) 2147483647 (T7 34 (T7 28 x4_4.toNatClampNeg).toNatClampNeg) from (B_w (B_eq (congrFun (g12.2 34 rfl rfl) (T7 28 x4_4.toNatClampNeg).toNatClampNeg) (B_any _)) (by decide +kernel) (by decide +kernel)))
            have g136 := agc_tr (agc_refl (fs := []) (rs := [29, 31]) (F := F)) g12 (by decide +kernel) (by decide +kernel)
            have g135 := agc_r (u := 29) (w := upd (T7 29) ((514 * x1) + x6_6).toNatClampNeg (vp_nar .boolean 0)) g136 rfl (by decide +kernel)
            have g134 := agc_r (u := 31) (w := upd (T7 31) x6_6.toNatClampNeg (T7 34 (T7 28 x4_4.toNatClampNeg).toNatClampNeg)) g135 rfl (by decide +kernel)
            have e137 : (x4_4 + 1).toInt = ((x4_4).toInt + 1) := (t_add b131 cqb_1_1_1 (by decide +kernel) (by decide +kernel)).trans (by rw [cqn_1])
            have q138 : (1) ≤ (x4_4 + 1).toInt ∧ (x4_4 + 1).toInt ≤ (257) := (show B 1 257 (x4_4 + 1) from B_w (B_add b131 cqb_1_1_1 (by decide +kernel) (by decide +kernel)) (by decide +kernel) (by decide +kernel))
            have e139 : (x6_6 + 1).toInt = ((x6_6).toInt + 1) := (t_add b30 cqb_1_1_1 (by decide +kernel) (by decide +kernel)).trans (by rw [cqn_1])
            have q140 : (1) ≤ (x6_6 + 1).toInt ∧ (x6_6 + 1).toInt ≤ (513) := (show B 1 513 (x6_6 + 1) from B_w (B_add b30 cqb_1_1_1 (by decide +kernel) (by decide +kernel)) (by decide +kernel) (by decide +kernel))
            exact hR9 ⟨rfl, rfl, rfl, (B_w (B_add b131 cqb_1_1_1 (by decide +kernel) (by decide +kernel)) (by decide +kernel) (by decide +kernel)), (B_w b125 (by decide +kernel) (by decide +kernel)), (B_w (B_add b30 cqb_1_1_1 (by decide +kernel) (by decide +kernel)) (by decide +kernel) (by decide +kernel)), _, _, rfl, hI133, g134, (by show ((x4_4 + 1).toInt + x5_5.toInt) = (x6_6 + 1).toInt; first | with_reducible assumption | omega), (by show (x4_4 + 1).toInt ≤ (T7 27 1).toInt; first | with_reducible assumption | omega), (by show x5_5.toInt ≤ x2.toInt; first | with_reducible assumption | omega)⟩ (by show (513 - (x6_6 + 1).toInt).toNat < (513 - x6_6.toInt).toNat; omega)
          · exact (hc (B_z cqb_0_0_0)).elim
        · have hq141 := (nle_lt hc)
          have i142 : (x5_5).toInt < (x2).toInt := i_lt hq141
          refine ⟨(show ¬ ((28 : Nat) = NU) from by decide +kernel), ?_⟩
          refine ⟨(show c_cl UL 28 = 902 from cl_28), ?_⟩
          refine ⟨(show vp_in (x4_4) 257 from vp_om (x := x4_4) (by omega) (by omega)), ?_⟩
          have b143 : B 0 256 (x4_4) := ⟨by omega, by omega⟩
          refine ⟨(show c_cl UL 34 = 902 from cl_34), ?_⟩
          refine ⟨(show vp_in (T7 28 x4_4.toNatClampNeg) 257 from vp_B (B_eq (congrFun (g12.2 28 rfl rfl) x4_4.toNatClampNeg) (show B 0 256 (F 28 x4_4.toNatClampNeg) from hI 28 x4_4.toNatClampNeg)) (by decide +kernel) (by decide +kernel)), ?_⟩
          refine ⟨fun hc => ?_, fun hc => ?_⟩
          · have hq144 := hc
            have e145 : (T7 34 (T7 28 x4_4.toNatClampNeg).toNatClampNeg).toInt = (F 34 (T7 28 x4_4.toNatClampNeg).toNatClampNeg).toInt := (congrArg Int32.toInt (congrFun (g12.2 34 rfl rfl) (T7 28 x4_4.toNatClampNeg).toNatClampNeg)).trans rfl
            have i146 : (T7 34 (T7 28 x4_4.toNatClampNeg).toNatClampNeg).toInt ≤ ((T7 30 (2 * x5_5).toNatClampNeg) + (T7 30 ((2 * x5_5) + 1).toNatClampNeg)).toInt := i_le hq144
            unfold b_Li_makeLine_86
            unfold b_Li_makeLine_87
            refine ⟨(show ¬ ((29 : Nat) = NU) from by decide +kernel), ?_⟩
            refine ⟨(show c_cl UL 29 = 903 from cl_29), ?_⟩
            refine ⟨(show vp_in ((514 * x1) + x6_6) 8224 from vp_B (B_add (B_mul cqb_514_514_514 b_x1 (by decide +kernel) (by decide +kernel) (by decide +kernel)) b30 (by decide +kernel) (by decide +kernel)) (by decide +kernel) (by decide +kernel)), ?_⟩
            refine ⟨fun hc => ?_, fun hc => ?_⟩
            · have i147 : (0 : Int32).toInt = (0 : Int32).toInt := congrArg Int32.toInt hc
              have n148 : (0 : Int32).toInt = 0 := cqn_0
              have n149 : (0 : Int32).toInt = 0 := cqn_0
              refine ⟨(show ¬ ((31 : Nat) = NU) from by decide +kernel), ?_⟩
              refine ⟨(show ¬ ((28 : Nat) = NU) from by decide +kernel), ?_⟩
              refine ⟨(show c_cl UL 28 = 902 from cl_28), ?_⟩
              refine ⟨(show vp_in (x4_4) 257 from vp_B b143 (by decide +kernel) (by decide +kernel)), ?_⟩
              refine ⟨(show c_cl UL 34 = 902 from cl_34), ?_⟩
              refine ⟨(show vp_in (T7 28 x4_4.toNatClampNeg) 257 from vp_B (B_eq (congrFun (g12.2 28 rfl rfl) x4_4.toNatClampNeg) (show B 0 256 (F 28 x4_4.toNatClampNeg) from hI 28 x4_4.toNatClampNeg)) (by decide +kernel) (by decide +kernel)), ?_⟩
              refine ⟨(show c_cl UL 31 = 902 from cl_31), ?_⟩
              refine ⟨(show vp_in (x6_6) 514 from vp_B b30 (by decide +kernel) (by decide +kernel)), ?_⟩
              unfold b_Li_makeLine_143
              have hI150 := IMc_u (u := 29) (i := ((514 * x1) + x6_6).toNatClampNeg) (v := vp_nar .boolean 0) hI11 (show B 0 1 (vp_nar .boolean 0) from (B_w (show B 0 0 (vp_nar .boolean 0) from ⟨by decide +kernel, by decide +kernel⟩) (by decide +kernel) (by decide +kernel)))
              have hI151 := IMc_u (u := 31) (i := x6_6.toNatClampNeg) (v := T7 34 (T7 28 x4_4.toNatClampNeg).toNatClampNeg) hI150 (show B (-2147483648) 2147483647 (T7 34 (T7 28 x4_4.toNatClampNeg).toNatClampNeg) from (B_w (B_eq (congrFun (g12.2 34 rfl rfl) (T7 28 x4_4.toNatClampNeg).toNatClampNeg) (B_any _)) (by decide +kernel) (by decide +kernel)))
              have g154 := agc_tr (agc_refl (fs := []) (rs := [29, 31]) (F := F)) g12 (by decide +kernel) (by decide +kernel)
              have g153 := agc_r (u := 29) (w := upd (T7 29) ((514 * x1) + x6_6).toNatClampNeg (vp_nar .boolean 0)) g154 rfl (by decide +kernel)
              have g152 := agc_r (u := 31) (w := upd (T7 31) x6_6.toNatClampNeg (T7 34 (T7 28 x4_4.toNatClampNeg).toNatClampNeg)) g153 rfl (by decide +kernel)
              have e155 : (x4_4 + 1).toInt = ((x4_4).toInt + 1) := (t_add b143 cqb_1_1_1 (by decide +kernel) (by decide +kernel)).trans (by rw [cqn_1])
              have q156 : (1) ≤ (x4_4 + 1).toInt ∧ (x4_4 + 1).toInt ≤ (257) := (show B 1 257 (x4_4 + 1) from B_w (B_add b143 cqb_1_1_1 (by decide +kernel) (by decide +kernel)) (by decide +kernel) (by decide +kernel))
              have e157 : (x6_6 + 1).toInt = ((x6_6).toInt + 1) := (t_add b30 cqb_1_1_1 (by decide +kernel) (by decide +kernel)).trans (by rw [cqn_1])
              have q158 : (1) ≤ (x6_6 + 1).toInt ∧ (x6_6 + 1).toInt ≤ (513) := (show B 1 513 (x6_6 + 1) from B_w (B_add b30 cqb_1_1_1 (by decide +kernel) (by decide +kernel)) (by decide +kernel) (by decide +kernel))
              exact hR9 ⟨rfl, rfl, rfl, (B_w (B_add b143 cqb_1_1_1 (by decide +kernel) (by decide +kernel)) (by decide +kernel) (by decide +kernel)), (B_w b103 (by decide +kernel) (by decide +kernel)), (B_w (B_add b30 cqb_1_1_1 (by decide +kernel) (by decide +kernel)) (by decide +kernel) (by decide +kernel)), _, _, rfl, hI151, g152, (by show ((x4_4 + 1).toInt + x5_5.toInt) = (x6_6 + 1).toInt; first | with_reducible assumption | omega), (by show (x4_4 + 1).toInt ≤ (T7 27 1).toInt; first | with_reducible assumption | omega), (by show x5_5.toInt ≤ x2.toInt; first | with_reducible assumption | omega)⟩ (by show (513 - (x6_6 + 1).toInt).toNat < (513 - x6_6.toInt).toNat; omega)
            · exact (hc (B_z cqb_0_0_0)).elim
          · have hq159 := (nle_lt hc)
            have b160 : B (-2147483648) 2147483646 ((T7 30 (2 * x5_5).toNatClampNeg) + (T7 30 ((2 * x5_5) + 1).toNatClampNeg)) := B_w (B_ltL (B_any _) (B_eq (congrFun (g12.2 34 rfl rfl) (T7 28 x4_4.toNatClampNeg).toNatClampNeg) (B_any _)) hq159) (by decide +kernel) (by decide +kernel)
            have b161 : B (-2147483647) 2147483647 (F 34 (T7 28 x4_4.toNatClampNeg).toNatClampNeg) := B_w (B_eq (Eq.symm (congrFun (g12.2 34 rfl rfl) (T7 28 x4_4.toNatClampNeg).toNatClampNeg)) (B_ltR (B_any _) (B_eq (congrFun (g12.2 34 rfl rfl) (T7 28 x4_4.toNatClampNeg).toNatClampNeg) (B_any _)) hq159)) (by decide +kernel) (by decide +kernel)
            have q162 : (-2147483648) ≤ ((T7 30 (2 * x5_5).toNatClampNeg) + (T7 30 ((2 * x5_5) + 1).toNatClampNeg)).toInt ∧ ((T7 30 (2 * x5_5).toNatClampNeg) + (T7 30 ((2 * x5_5) + 1).toNatClampNeg)).toInt ≤ (2147483646) := (show B (-2147483648) 2147483646 ((T7 30 (2 * x5_5).toNatClampNeg) + (T7 30 ((2 * x5_5) + 1).toNatClampNeg)) from B_w b160 (by decide +kernel) (by decide +kernel))
            have q163 : (-2147483647) ≤ (F 34 (T7 28 x4_4.toNatClampNeg).toNatClampNeg).toInt ∧ (F 34 (T7 28 x4_4.toNatClampNeg).toNatClampNeg).toInt ≤ (2147483647) := (show B (-2147483647) 2147483647 (F 34 (T7 28 x4_4.toNatClampNeg).toNatClampNeg) from B_w b161 (by decide +kernel) (by decide +kernel))
            have e164 : (T7 34 (T7 28 x4_4.toNatClampNeg).toNatClampNeg).toInt = (F 34 (T7 28 x4_4.toNatClampNeg).toNatClampNeg).toInt := (congrArg Int32.toInt (congrFun (g12.2 34 rfl rfl) (T7 28 x4_4.toNatClampNeg).toNatClampNeg)).trans rfl
            have i165 : ((T7 30 (2 * x5_5).toNatClampNeg) + (T7 30 ((2 * x5_5) + 1).toNatClampNeg)).toInt < (T7 34 (T7 28 x4_4.toNatClampNeg).toNatClampNeg).toInt := i_lt hq159
            unfold b_Li_makeLine_82
            unfold b_Li_makeLine_87
            refine ⟨(show ¬ ((29 : Nat) = NU) from by decide +kernel), ?_⟩
            refine ⟨(show c_cl UL 29 = 903 from cl_29), ?_⟩
            refine ⟨(show vp_in ((514 * x1) + x6_6) 8224 from vp_B (B_add (B_mul cqb_514_514_514 b_x1 (by decide +kernel) (by decide +kernel) (by decide +kernel)) b30 (by decide +kernel) (by decide +kernel)) (by decide +kernel) (by decide +kernel)), ?_⟩
            refine ⟨fun hc => ?_, fun hc => ?_⟩
            · exact (B_dis cqb_1_1_1 cqb_0_0_0 hc (by decide +kernel)).elim
            · have i166 : (1 : Int32).toInt ≠ (0 : Int32).toInt := i_ne hc
              have n167 : (1 : Int32).toInt = 1 := cqn_1
              have n168 : (0 : Int32).toInt = 0 := cqn_0
              refine ⟨(show ¬ ((31 : Nat) = NU) from by decide +kernel), ?_⟩
              refine ⟨(show c_cl UL 31 = 902 from cl_31), ?_⟩
              refine ⟨(show vp_in (x6_6) 514 from vp_B b30 (by decide +kernel) (by decide +kernel)), ?_⟩
              unfold b_Li_makeLine_143
              have hI169 := IMc_u (u := 29) (i := ((514 * x1) + x6_6).toNatClampNeg) (v := vp_nar .boolean 1) hI11 (show B 0 1 (vp_nar .boolean 1) from (B_w (show B 1 1 (vp_nar .boolean 1) from ⟨by decide +kernel, by decide +kernel⟩) (by decide +kernel) (by decide +kernel)))
              have hI170 := IMc_u (u := 31) (i := x6_6.toNatClampNeg) (v := (T7 30 (2 * x5_5).toNatClampNeg) + (T7 30 ((2 * x5_5) + 1).toNatClampNeg)) hI169 (show B (-2147483648) 2147483647 ((T7 30 (2 * x5_5).toNatClampNeg) + (T7 30 ((2 * x5_5) + 1).toNatClampNeg)) from (B_w b160 (by decide +kernel) (by decide +kernel)))
              have g173 := agc_tr (agc_refl (fs := []) (rs := [29, 31]) (F := F)) g12 (by decide +kernel) (by decide +kernel)
              have g172 := agc_r (u := 29) (w := upd (T7 29) ((514 * x1) + x6_6).toNatClampNeg (vp_nar .boolean 1)) g173 rfl (by decide +kernel)
              have g171 := agc_r (u := 31) (w := upd (T7 31) x6_6.toNatClampNeg ((T7 30 (2 * x5_5).toNatClampNeg) + (T7 30 ((2 * x5_5) + 1).toNatClampNeg))) g172 rfl (by decide +kernel)
              have e174 : (x5_5 + 1).toInt = ((x5_5).toInt + 1) := (t_add b103 cqb_1_1_1 (by decide +kernel) (by decide +kernel)).trans (by rw [cqn_1])
              have q175 : (1) ≤ (x5_5 + 1).toInt ∧ (x5_5 + 1).toInt ≤ (256) := (show B 1 256 (x5_5 + 1) from B_w (B_add b103 cqb_1_1_1 (by decide +kernel) (by decide +kernel)) (by decide +kernel) (by decide +kernel))
              have e176 : (x6_6 + 1).toInt = ((x6_6).toInt + 1) := (t_add b30 cqb_1_1_1 (by decide +kernel) (by decide +kernel)).trans (by rw [cqn_1])
              have q177 : (1) ≤ (x6_6 + 1).toInt ∧ (x6_6 + 1).toInt ≤ (513) := (show B 1 513 (x6_6 + 1) from B_w (B_add b30 cqb_1_1_1 (by decide +kernel) (by decide +kernel)) (by decide +kernel) (by decide +kernel))
              exact hR9 ⟨rfl, rfl, rfl, (B_w b143 (by decide +kernel) (by decide +kernel)), (B_w (B_add b103 cqb_1_1_1 (by decide +kernel) (by decide +kernel)) (by decide +kernel) (by decide +kernel)), (B_w (B_add b30 cqb_1_1_1 (by decide +kernel) (by decide +kernel)) (by decide +kernel) (by decide +kernel)), _, _, rfl, hI170, g171, (by show (x4_4.toInt + (x5_5 + 1).toInt) = (x6_6 + 1).toInt; first | with_reducible assumption | omega), (by show x4_4.toInt ≤ (T7 27 1).toInt; first | with_reducible assumption | omega), (by show (x5_5 + 1).toInt ≤ x2.toInt; first | with_reducible assumption | omega)⟩ (by show (513 - (x6_6 + 1).toInt).toNat < (513 - x6_6.toInt).toNat; omega)
set_option maxRecDepth 20000 in
set_option maxHeartbeats 4000000 in
theorem h_Li_makeLine_u27_x334_b1 {a : Bool} {P : Nat → Nat → Nat} {x1 : Int32} {x2 : Int32} {F : cF} {L : cL} {K : Int32 → cs → Prop} (b_x1 : B 1 15 x1) (b_x2 : B 0 256 x2) (hI : IMc F) (hK : ∀ {v : Int32} {Z : cF} {LZ : cL}, B 0 513 v → IMc Z → agc [] [29, 30] F Z → K v (Z, LZ, PC a (!true) P)) : p_Li_makeLine UL 27 x1 x2 34 (F, L, PC a true P) K := by
  unfold p_Li_makeLine
  have q14 : (0) ≤ (F 27 1).toInt ∧ (F 27 1).toInt ≤ (257) := (show B 0 257 (F 27 1) from hI 27 1)
  have q16 : (0) ≤ (x2).toInt ∧ (x2).toInt ≤ (256) := (show B 0 256 (x2) from B_w b_x2 (by decide +kernel) (by decide +kernel))
  refine ⟨fun yx1 yx2 yx3 yx4 yx5 yx6 yS => x1 = yx1 ∧ x2 = yx2 ∧ (34 : Nat) = yx3 ∧ B 0 257 yx4 ∧ B 0 256 yx5 ∧ B 0 513 yx6 ∧ ∃ (T7 : cF) (LT7 : cL), yS = (T7, LT7, PC a true P) ∧ IMc T7 ∧ agc [] [29, 30] F T7 ∧ ((yx4.toInt + yx5.toInt) = yx6.toInt) ∧ (yx4.toInt ≤ (T7 27 1).toInt) ∧ (yx5.toInt ≤ yx2.toInt), fun yx1 yx2 yx3 yx4 yx5 yx6 yS => (513 - yx6.toInt).toNat, ⟨rfl, rfl, rfl, (B_w cqb_0_0_0 (by decide +kernel) (by decide +kernel)), (B_w cqb_0_0_0 (by decide +kernel) (by decide +kernel)), (B_w cqb_0_0_0 (by decide +kernel) (by decide +kernel)), _, _, rfl, hI, (agc_refl (fs := []) (rs := [29, 30]) (F := F)), (by show (0 + 0) = 0; first | with_reducible assumption | omega), (by show 0 ≤ (F 27 1).toInt; first | with_reducible assumption | omega), (by show 0 ≤ x2.toInt; first | with_reducible assumption | omega)⟩, fun x1_1 x2_2 x3_3 x4_4 x5_5 x6_6 ST7 hIv => ?_⟩
  obtain ⟨rfl, rfl, rfl, b8, b9, b10, T7, LT7, rfl, hI11, g12, r13, r15, r17⟩ := hIv
  suffices hs : ∀ (R9 : Int32 → Int32 → Nat → Int32 → Int32 → Int32 → cs → Prop), (∀ zx1 zx2 zx3 zx4 zx5 zx6 zS, (x1 = zx1 ∧ x2 = zx2 ∧ (34 : Nat) = zx3 ∧ B 0 257 zx4 ∧ B 0 256 zx5 ∧ B 0 513 zx6 ∧ ∃ (T7 : cF) (LT7 : cL), zS = (T7, LT7, PC a true P) ∧ IMc T7 ∧ agc [] [29, 30] F T7 ∧ ((zx4.toInt + zx5.toInt) = zx6.toInt) ∧ (zx4.toInt ≤ (T7 27 1).toInt) ∧ (zx5.toInt ≤ zx2.toInt)) → (513 - zx6.toInt).toNat < (513 - x6_6.toInt).toNat → R9 zx1 zx2 zx3 zx4 zx5 zx6 zS) → b_Li_makeLine_9 UL 27 x1 x2 34 x4_4 x5_5 x6_6 (T7, LT7, PC a true P) R9 K from hs _ (fun _ _ _ _ _ _ _ h1 h2 => ⟨h1, h2⟩)
  intro R9 hR90
  have hR9 := fun {zx1} {zx2} {zx3} {zx4} {zx5} {zx6} {zS} => hR90 zx1 zx2 zx3 zx4 zx5 zx6 zS
  have q18 : (0) ≤ (x4_4).toInt ∧ (x4_4).toInt ≤ (257) := (show B 0 257 (x4_4) from B_w b8 (by decide +kernel) (by decide +kernel))
  have q19 : (0) ≤ (x5_5).toInt ∧ (x5_5).toInt ≤ (256) := (show B 0 256 (x5_5) from B_w b9 (by decide +kernel) (by decide +kernel))
  have q20 : (0) ≤ (x6_6).toInt ∧ (x6_6).toInt ≤ (513) := (show B 0 513 (x6_6) from B_w b10 (by decide +kernel) (by decide +kernel))
  have q21 : (0) ≤ (F 27 1).toInt ∧ (F 27 1).toInt ≤ (257) := (show B 0 257 (F 27 1) from hI 27 1)
  have e22 : (T7 27 1).toInt = (F 27 1).toInt := (congrArg Int32.toInt (g12.1 27 1 rfl rfl)).trans rfl
  have q23 : (0) ≤ (x2).toInt ∧ (x2).toInt ≤ (256) := (show B 0 256 (x2) from B_w b_x2 (by decide +kernel) (by decide +kernel))
  unfold b_Li_makeLine_9
  refine ⟨fun hc => ?_, fun hc => ?_⟩
  · have hq24 := hc
    have e25 : ((T7 27 1) + x2).toInt = ((F 27 1).toInt + (x2).toInt) := (t_add (B_eq (g12.1 27 1 rfl rfl) (show B 0 257 (F 27 1) from hI 27 1)) b_x2 (by decide +kernel) (by decide +kernel)).trans (by rw [e22])
    have q26 : (0) ≤ ((T7 27 1) + x2).toInt ∧ ((T7 27 1) + x2).toInt ≤ (513) := (show B 0 513 ((T7 27 1) + x2) from B_w (B_add (B_eq (g12.1 27 1 rfl rfl) (show B 0 257 (F 27 1) from hI 27 1)) b_x2 (by decide +kernel) (by decide +kernel)) (by decide +kernel) (by decide +kernel))
    have i27 : ((T7 27 1) + x2).toInt ≤ (x6_6).toInt := i_le hq24
    refine ⟨(show ¬ ((31 : Nat) = NU) from by decide +kernel), ?_⟩
    refine ⟨(show ¬ ((30 : Nat) = NU) from by decide +kernel), ?_⟩
    refine ⟨(show ¬ ((30 : Nat) = NU) from by decide +kernel), ?_⟩
    refine ⟨(show ¬ ((31 : Nat) = NU) from by decide +kernel), ?_⟩
    have g28 := agc_tr (agc_refl (fs := []) (rs := [29, 30]) (F := F)) g12 (by decide +kernel) (by decide +kernel)
    rw [pc_swap]
    exact hK (B_w (B_add (B_eq (g12.1 27 1 rfl rfl) (show B 0 257 (F 27 1) from hI 27 1)) b_x2 (by decide +kernel) (by decide +kernel)) (by decide +kernel) (by decide +kernel)) hI11 g28
  · have hq29 := (nle_lt hc)
    have b30 : B 0 512 (x6_6) := B_w (B_ltL b10 (B_add (B_eq (g12.1 27 1 rfl rfl) (show B 0 257 (F 27 1) from hI 27 1)) b_x2 (by decide +kernel) (by decide +kernel)) hq29) (by decide +kernel) (by decide +kernel)
    have q31 : (0) ≤ (x6_6).toInt ∧ (x6_6).toInt ≤ (512) := (show B 0 512 (x6_6) from B_w b30 (by decide +kernel) (by decide +kernel))
    have b32 : B 1 513 ((T7 27 1) + x2) := B_w (B_ltR b10 (B_add (B_eq (g12.1 27 1 rfl rfl) (show B 0 257 (F 27 1) from hI 27 1)) b_x2 (by decide +kernel) (by decide +kernel)) hq29) (by decide +kernel) (by decide +kernel)
    have e33 : ((T7 27 1) + x2).toInt = ((F 27 1).toInt + (x2).toInt) := (t_add (B_eq (g12.1 27 1 rfl rfl) (show B 0 257 (F 27 1) from hI 27 1)) b_x2 (by decide +kernel) (by decide +kernel)).trans (by rw [e22])
    have q34 : (1) ≤ ((T7 27 1) + x2).toInt ∧ ((T7 27 1) + x2).toInt ≤ (513) := (show B 1 513 ((T7 27 1) + x2) from B_w b32 (by decide +kernel) (by decide +kernel))
    have i35 : (x6_6).toInt < ((T7 27 1) + x2).toInt := i_lt hq29
    refine ⟨fun hc => ?_, fun hc => ?_⟩
    · have hq36 := hc
      have i37 : (x2).toInt ≤ (x5_5).toInt := i_le hq36
      unfold b_Li_makeLine_51
      refine ⟨fun hc => ?_, fun hc => ?_⟩
      · have i38 : (x4_4).toInt = (T7 27 1).toInt := congrArg Int32.toInt hc
        unfold b_Li_makeLine_82
        unfold b_Li_makeLine_87
        refine ⟨(show ¬ ((29 : Nat) = NU) from by decide +kernel), ?_⟩
        refine ⟨(show c_cl UL 29 = 903 from cl_29), ?_⟩
        refine ⟨(show vp_in ((514 * x1) + x6_6) 8224 from vp_B (B_add (B_mul cqb_514_514_514 b_x1 (by decide +kernel) (by decide +kernel) (by decide +kernel)) b30 (by decide +kernel) (by decide +kernel)) (by decide +kernel) (by decide +kernel)), ?_⟩
        refine ⟨fun hc => ?_, fun hc => ?_⟩
        · exact (B_dis cqb_1_1_1 cqb_0_0_0 hc (by decide +kernel)).elim
        · have i39 : (1 : Int32).toInt ≠ (0 : Int32).toInt := i_ne hc
          have n40 : (1 : Int32).toInt = 1 := cqn_1
          have n41 : (0 : Int32).toInt = 0 := cqn_0
          refine ⟨(show ¬ ((30 : Nat) = NU) from by decide +kernel), ?_⟩
          refine ⟨(show c_cl UL 30 = 902 from cl_30), ?_⟩
          refine ⟨(show vp_in (x6_6) 514 from vp_B b30 (by decide +kernel) (by decide +kernel)), ?_⟩
          unfold b_Li_makeLine_143
          have e42 : (x5_5 + 1).toInt = ((x5_5).toInt + 1) := (t_add b9 cqb_1_1_1 (by decide +kernel) (by decide +kernel)).trans (by rw [cqn_1])
          have q43 : (1) ≤ (x5_5 + 1).toInt ∧ (x5_5 + 1).toInt ≤ (257) := (show B 1 257 (x5_5 + 1) from B_w (B_add b9 cqb_1_1_1 (by decide +kernel) (by decide +kernel)) (by decide +kernel) (by decide +kernel))
          have hI44 := IMc_u (u := 29) (i := ((514 * x1) + x6_6).toNatClampNeg) (v := vp_nar .boolean 1) hI11 (show B 0 1 (vp_nar .boolean 1) from (B_w (show B 1 1 (vp_nar .boolean 1) from ⟨by decide +kernel, by decide +kernel⟩) (by decide +kernel) (by decide +kernel)))
          have hI45 := IMc_u (u := 30) (i := x6_6.toNatClampNeg) (v := 0) hI44 (show B (-2147483648) 2147483647 (0) from (B_w cqb_0_0_0 (by decide +kernel) (by decide +kernel)))
          have g48 := agc_tr (agc_refl (fs := []) (rs := [29, 30]) (F := F)) g12 (by decide +kernel) (by decide +kernel)
          have g47 := agc_r (u := 29) (w := upd (T7 29) ((514 * x1) + x6_6).toNatClampNeg (vp_nar .boolean 1)) g48 rfl (by decide +kernel)
          have g46 := agc_r (u := 30) (w := upd (T7 30) x6_6.toNatClampNeg 0) g47 rfl (by decide +kernel)
          have e49 : (x6_6 + 1).toInt = ((x6_6).toInt + 1) := (t_add b30 cqb_1_1_1 (by decide +kernel) (by decide +kernel)).trans (by rw [cqn_1])
          have q50 : (1) ≤ (x6_6 + 1).toInt ∧ (x6_6 + 1).toInt ≤ (513) := (show B 1 513 (x6_6 + 1) from B_w (B_add b30 cqb_1_1_1 (by decide +kernel) (by decide +kernel)) (by decide +kernel) (by decide +kernel))
          exact hR9 ⟨rfl, rfl, rfl, b8, (show B 0 256 (x5_5 + 1) from ⟨by omega, by omega⟩), (B_w (B_add b30 cqb_1_1_1 (by decide +kernel) (by decide +kernel)) (by decide +kernel) (by decide +kernel)), _, _, rfl, hI45, g46, (by show (x4_4.toInt + (x5_5 + 1).toInt) = (x6_6 + 1).toInt; first | with_reducible assumption | omega), (by show x4_4.toInt ≤ (T7 27 1).toInt; first | with_reducible assumption | omega), (by show (x5_5 + 1).toInt ≤ x2.toInt; first | with_reducible assumption | omega)⟩ (by show (513 - (x6_6 + 1).toInt).toNat < (513 - x6_6.toInt).toNat; omega)
      · have i51 : (x4_4).toInt ≠ (T7 27 1).toInt := i_ne hc
        refine ⟨fun hc => ?_, fun hc => ?_⟩
        · have hq52 := hc
          have i53 : (x2).toInt ≤ (x5_5).toInt := i_le hq52
          unfold b_Li_makeLine_86
          unfold b_Li_makeLine_87
          refine ⟨(show ¬ ((29 : Nat) = NU) from by decide +kernel), ?_⟩
          refine ⟨(show c_cl UL 29 = 903 from cl_29), ?_⟩
          refine ⟨(show vp_in ((514 * x1) + x6_6) 8224 from vp_B (B_add (B_mul cqb_514_514_514 b_x1 (by decide +kernel) (by decide +kernel) (by decide +kernel)) b30 (by decide +kernel) (by decide +kernel)) (by decide +kernel) (by decide +kernel)), ?_⟩
          refine ⟨fun hc => ?_, fun hc => ?_⟩
          · have i54 : (0 : Int32).toInt = (0 : Int32).toInt := congrArg Int32.toInt hc
            have n55 : (0 : Int32).toInt = 0 := cqn_0
            have n56 : (0 : Int32).toInt = 0 := cqn_0
            refine ⟨(show ¬ ((30 : Nat) = NU) from by decide +kernel), ?_⟩
            refine ⟨(show ¬ ((28 : Nat) = NU) from by decide +kernel), ?_⟩
            refine ⟨(show c_cl UL 28 = 902 from cl_28), ?_⟩
            refine ⟨(show vp_in (x4_4) 257 from vp_om (x := x4_4) (by omega) (by omega)), ?_⟩
            have b57 : B 0 256 (x4_4) := ⟨by omega, by omega⟩
            refine ⟨(show c_cl UL 34 = 902 from cl_34), ?_⟩
            refine ⟨(show vp_in (T7 28 x4_4.toNatClampNeg) 257 from vp_B (B_eq (congrFun (g12.2 28 rfl rfl) x4_4.toNatClampNeg) (show B 0 256 (F 28 x4_4.toNatClampNeg) from hI 28 x4_4.toNatClampNeg)) (by decide +kernel) (by decide +kernel)), ?_⟩
            refine ⟨(show c_cl UL 30 = 902 from cl_30), ?_⟩
            refine ⟨(show vp_in (x6_6) 514 from vp_B b30 (by decide +kernel) (by decide +kernel)), ?_⟩
            unfold b_Li_makeLine_143
            have hI58 := IMc_u (u := 29) (i := ((514 * x1) + x6_6).toNatClampNeg) (v := vp_nar .boolean 0) hI11 (show B 0 1 (vp_nar .boolean 0) from (B_w (show B 0 0 (vp_nar .boolean 0) from ⟨by decide +kernel, by decide +kernel⟩) (by decide +kernel) (by decide +kernel)))
            have hI59 := IMc_u (u := 30) (i := x6_6.toNatClampNeg) (v := T7 34 (T7 28 x4_4.toNatClampNeg).toNatClampNeg) hI58 (show B (-2147483648) 2147483647 (T7 34 (T7 28 x4_4.toNatClampNeg).toNatClampNeg) from (B_w (B_eq (congrFun (g12.2 34 rfl rfl) (T7 28 x4_4.toNatClampNeg).toNatClampNeg) (B_any _)) (by decide +kernel) (by decide +kernel)))
            have g62 := agc_tr (agc_refl (fs := []) (rs := [29, 30]) (F := F)) g12 (by decide +kernel) (by decide +kernel)
            have g61 := agc_r (u := 29) (w := upd (T7 29) ((514 * x1) + x6_6).toNatClampNeg (vp_nar .boolean 0)) g62 rfl (by decide +kernel)
            have g60 := agc_r (u := 30) (w := upd (T7 30) x6_6.toNatClampNeg (T7 34 (T7 28 x4_4.toNatClampNeg).toNatClampNeg)) g61 rfl (by decide +kernel)
            have e63 : (x4_4 + 1).toInt = ((x4_4).toInt + 1) := (t_add b57 cqb_1_1_1 (by decide +kernel) (by decide +kernel)).trans (by rw [cqn_1])
            have q64 : (1) ≤ (x4_4 + 1).toInt ∧ (x4_4 + 1).toInt ≤ (257) := (show B 1 257 (x4_4 + 1) from B_w (B_add b57 cqb_1_1_1 (by decide +kernel) (by decide +kernel)) (by decide +kernel) (by decide +kernel))
            have e65 : (x6_6 + 1).toInt = ((x6_6).toInt + 1) := (t_add b30 cqb_1_1_1 (by decide +kernel) (by decide +kernel)).trans (by rw [cqn_1])
            have q66 : (1) ≤ (x6_6 + 1).toInt ∧ (x6_6 + 1).toInt ≤ (513) := (show B 1 513 (x6_6 + 1) from B_w (B_add b30 cqb_1_1_1 (by decide +kernel) (by decide +kernel)) (by decide +kernel) (by decide +kernel))
            exact hR9 ⟨rfl, rfl, rfl, (B_w (B_add b57 cqb_1_1_1 (by decide +kernel) (by decide +kernel)) (by decide +kernel) (by decide +kernel)), b9, (B_w (B_add b30 cqb_1_1_1 (by decide +kernel) (by decide +kernel)) (by decide +kernel) (by decide +kernel)), _, _, rfl, hI59, g60, (by show ((x4_4 + 1).toInt + x5_5.toInt) = (x6_6 + 1).toInt; first | with_reducible assumption | omega), (by show (x4_4 + 1).toInt ≤ (T7 27 1).toInt; first | with_reducible assumption | omega), (by show x5_5.toInt ≤ x2.toInt; first | with_reducible assumption | omega)⟩ (by show (513 - (x6_6 + 1).toInt).toNat < (513 - x6_6.toInt).toNat; omega)
          · exact (hc (B_z cqb_0_0_0)).elim
        · have hq67 := (nle_lt hc)
          have b68 : B 0 255 (x5_5) := B_w (B_ltL b9 b_x2 hq67) (by decide +kernel) (by decide +kernel)
          have q69 : (0) ≤ (x5_5).toInt ∧ (x5_5).toInt ≤ (255) := (show B 0 255 (x5_5) from B_w b68 (by decide +kernel) (by decide +kernel))
          have b70 : B 1 256 (x2) := B_w (B_ltR b9 b_x2 hq67) (by decide +kernel) (by decide +kernel)
          have q71 : (1) ≤ (x2).toInt ∧ (x2).toInt ≤ (256) := (show B 1 256 (x2) from B_w b70 (by decide +kernel) (by decide +kernel))
          have i72 : (x5_5).toInt < (x2).toInt := i_lt hq67
          refine ⟨(show ¬ ((28 : Nat) = NU) from by decide +kernel), ?_⟩
          refine ⟨(show c_cl UL 28 = 902 from cl_28), ?_⟩
          refine ⟨(show vp_in (x4_4) 257 from vp_om (x := x4_4) (by omega) (by omega)), ?_⟩
          have b73 : B 0 256 (x4_4) := ⟨by omega, by omega⟩
          refine ⟨(show c_cl UL 34 = 902 from cl_34), ?_⟩
          refine ⟨(show vp_in (T7 28 x4_4.toNatClampNeg) 257 from vp_B (B_eq (congrFun (g12.2 28 rfl rfl) x4_4.toNatClampNeg) (show B 0 256 (F 28 x4_4.toNatClampNeg) from hI 28 x4_4.toNatClampNeg)) (by decide +kernel) (by decide +kernel)), ?_⟩
          refine ⟨fun hc => ?_, fun hc => ?_⟩
          · have hq74 := hc
            have b75 : B (-2147483648) 0 (F 34 (T7 28 x4_4.toNatClampNeg).toNatClampNeg) := B_w (B_eq (Eq.symm (congrFun (g12.2 34 rfl rfl) (T7 28 x4_4.toNatClampNeg).toNatClampNeg)) (B_leL (B_eq (congrFun (g12.2 34 rfl rfl) (T7 28 x4_4.toNatClampNeg).toNatClampNeg) (B_any _)) cqb_0_0_0 hq74)) (by decide +kernel) (by decide +kernel)
            unfold b_Li_makeLine_86
            unfold b_Li_makeLine_87
            refine ⟨(show ¬ ((29 : Nat) = NU) from by decide +kernel), ?_⟩
            refine ⟨(show c_cl UL 29 = 903 from cl_29), ?_⟩
            refine ⟨(show vp_in ((514 * x1) + x6_6) 8224 from vp_B (B_add (B_mul cqb_514_514_514 b_x1 (by decide +kernel) (by decide +kernel) (by decide +kernel)) b30 (by decide +kernel) (by decide +kernel)) (by decide +kernel) (by decide +kernel)), ?_⟩
            refine ⟨fun hc => ?_, fun hc => ?_⟩
            · have i76 : (0 : Int32).toInt = (0 : Int32).toInt := congrArg Int32.toInt hc
              have n77 : (0 : Int32).toInt = 0 := cqn_0
              have n78 : (0 : Int32).toInt = 0 := cqn_0
              refine ⟨(show ¬ ((30 : Nat) = NU) from by decide +kernel), ?_⟩
              refine ⟨(show ¬ ((28 : Nat) = NU) from by decide +kernel), ?_⟩
              refine ⟨(show c_cl UL 28 = 902 from cl_28), ?_⟩
              refine ⟨(show vp_in (x4_4) 257 from vp_B b73 (by decide +kernel) (by decide +kernel)), ?_⟩
              refine ⟨(show c_cl UL 34 = 902 from cl_34), ?_⟩
              refine ⟨(show vp_in (T7 28 x4_4.toNatClampNeg) 257 from vp_B (B_eq (congrFun (g12.2 28 rfl rfl) x4_4.toNatClampNeg) (show B 0 256 (F 28 x4_4.toNatClampNeg) from hI 28 x4_4.toNatClampNeg)) (by decide +kernel) (by decide +kernel)), ?_⟩
              refine ⟨(show c_cl UL 30 = 902 from cl_30), ?_⟩
              refine ⟨(show vp_in (x6_6) 514 from vp_B b30 (by decide +kernel) (by decide +kernel)), ?_⟩
              unfold b_Li_makeLine_143
              have hI79 := IMc_u (u := 29) (i := ((514 * x1) + x6_6).toNatClampNeg) (v := vp_nar .boolean 0) hI11 (show B 0 1 (vp_nar .boolean 0) from (B_w (show B 0 0 (vp_nar .boolean 0) from ⟨by decide +kernel, by decide +kernel⟩) (by decide +kernel) (by decide +kernel)))
              have hI80 := IMc_u (u := 30) (i := x6_6.toNatClampNeg) (v := T7 34 (T7 28 x4_4.toNatClampNeg).toNatClampNeg) hI79 (show B (-2147483648) 2147483647 (T7 34 (T7 28 x4_4.toNatClampNeg).toNatClampNeg) from (B_w (B_eq (congrFun (g12.2 34 rfl rfl) (T7 28 x4_4.toNatClampNeg).toNatClampNeg) b75) (by decide +kernel) (by decide +kernel)))
              have g83 := agc_tr (agc_refl (fs := []) (rs := [29, 30]) (F := F)) g12 (by decide +kernel) (by decide +kernel)
              have g82 := agc_r (u := 29) (w := upd (T7 29) ((514 * x1) + x6_6).toNatClampNeg (vp_nar .boolean 0)) g83 rfl (by decide +kernel)
              have g81 := agc_r (u := 30) (w := upd (T7 30) x6_6.toNatClampNeg (T7 34 (T7 28 x4_4.toNatClampNeg).toNatClampNeg)) g82 rfl (by decide +kernel)
              have e84 : (x4_4 + 1).toInt = ((x4_4).toInt + 1) := (t_add b73 cqb_1_1_1 (by decide +kernel) (by decide +kernel)).trans (by rw [cqn_1])
              have q85 : (1) ≤ (x4_4 + 1).toInt ∧ (x4_4 + 1).toInt ≤ (257) := (show B 1 257 (x4_4 + 1) from B_w (B_add b73 cqb_1_1_1 (by decide +kernel) (by decide +kernel)) (by decide +kernel) (by decide +kernel))
              have e86 : (x6_6 + 1).toInt = ((x6_6).toInt + 1) := (t_add b30 cqb_1_1_1 (by decide +kernel) (by decide +kernel)).trans (by rw [cqn_1])
              have q87 : (1) ≤ (x6_6 + 1).toInt ∧ (x6_6 + 1).toInt ≤ (513) := (show B 1 513 (x6_6 + 1) from B_w (B_add b30 cqb_1_1_1 (by decide +kernel) (by decide +kernel)) (by decide +kernel) (by decide +kernel))
              exact hR9 ⟨rfl, rfl, rfl, (B_w (B_add b73 cqb_1_1_1 (by decide +kernel) (by decide +kernel)) (by decide +kernel) (by decide +kernel)), (B_w b68 (by decide +kernel) (by decide +kernel)), (B_w (B_add b30 cqb_1_1_1 (by decide +kernel) (by decide +kernel)) (by decide +kernel) (by decide +kernel)), _, _, rfl, hI80, g81, (by show ((x4_4 + 1).toInt + x5_5.toInt) = (x6_6 + 1).toInt; first | with_reducible assumption | omega), (by show (x4_4 + 1).toInt ≤ (T7 27 1).toInt; first | with_reducible assumption | omega), (by show x5_5.toInt ≤ x2.toInt; first | with_reducible assumption | omega)⟩ (by show (513 - (x6_6 + 1).toInt).toNat < (513 - x6_6.toInt).toNat; omega)
            · exact (hc (B_z cqb_0_0_0)).elim
          · have hq88 := (nle_lt hc)
            have b89 : B 1 2147483647 (F 34 (T7 28 x4_4.toNatClampNeg).toNatClampNeg) := B_w (B_eq (Eq.symm (congrFun (g12.2 34 rfl rfl) (T7 28 x4_4.toNatClampNeg).toNatClampNeg)) (B_ltR cqb_0_0_0 (B_eq (congrFun (g12.2 34 rfl rfl) (T7 28 x4_4.toNatClampNeg).toNatClampNeg) (B_any _)) hq88)) (by decide +kernel) (by decide +kernel)
            unfold b_Li_makeLine_82
            unfold b_Li_makeLine_87
            refine ⟨(show ¬ ((29 : Nat) = NU) from by decide +kernel), ?_⟩
            refine ⟨(show c_cl UL 29 = 903 from cl_29), ?_⟩
            refine ⟨(show vp_in ((514 * x1) + x6_6) 8224 from vp_B (B_add (B_mul cqb_514_514_514 b_x1 (by decide +kernel) (by decide +kernel) (by decide +kernel)) b30 (by decide +kernel) (by decide +kernel)) (by decide +kernel) (by decide +kernel)), ?_⟩
            refine ⟨fun hc => ?_, fun hc => ?_⟩
            · exact (B_dis cqb_1_1_1 cqb_0_0_0 hc (by decide +kernel)).elim
            · have i90 : (1 : Int32).toInt ≠ (0 : Int32).toInt := i_ne hc
              have n91 : (1 : Int32).toInt = 1 := cqn_1
              have n92 : (0 : Int32).toInt = 0 := cqn_0
              refine ⟨(show ¬ ((30 : Nat) = NU) from by decide +kernel), ?_⟩
              refine ⟨(show c_cl UL 30 = 902 from cl_30), ?_⟩
              refine ⟨(show vp_in (x6_6) 514 from vp_B b30 (by decide +kernel) (by decide +kernel)), ?_⟩
              unfold b_Li_makeLine_143
              have hI93 := IMc_u (u := 29) (i := ((514 * x1) + x6_6).toNatClampNeg) (v := vp_nar .boolean 1) hI11 (show B 0 1 (vp_nar .boolean 1) from (B_w (show B 1 1 (vp_nar .boolean 1) from ⟨by decide +kernel, by decide +kernel⟩) (by decide +kernel) (by decide +kernel)))
              have hI94 := IMc_u (u := 30) (i := x6_6.toNatClampNeg) (v := 0) hI93 (show B (-2147483648) 2147483647 (0) from (B_w cqb_0_0_0 (by decide +kernel) (by decide +kernel)))
              have g97 := agc_tr (agc_refl (fs := []) (rs := [29, 30]) (F := F)) g12 (by decide +kernel) (by decide +kernel)
              have g96 := agc_r (u := 29) (w := upd (T7 29) ((514 * x1) + x6_6).toNatClampNeg (vp_nar .boolean 1)) g97 rfl (by decide +kernel)
              have g95 := agc_r (u := 30) (w := upd (T7 30) x6_6.toNatClampNeg 0) g96 rfl (by decide +kernel)
              have e98 : (x5_5 + 1).toInt = ((x5_5).toInt + 1) := (t_add b68 cqb_1_1_1 (by decide +kernel) (by decide +kernel)).trans (by rw [cqn_1])
              have q99 : (1) ≤ (x5_5 + 1).toInt ∧ (x5_5 + 1).toInt ≤ (256) := (show B 1 256 (x5_5 + 1) from B_w (B_add b68 cqb_1_1_1 (by decide +kernel) (by decide +kernel)) (by decide +kernel) (by decide +kernel))
              have e100 : (x6_6 + 1).toInt = ((x6_6).toInt + 1) := (t_add b30 cqb_1_1_1 (by decide +kernel) (by decide +kernel)).trans (by rw [cqn_1])
              have q101 : (1) ≤ (x6_6 + 1).toInt ∧ (x6_6 + 1).toInt ≤ (513) := (show B 1 513 (x6_6 + 1) from B_w (B_add b30 cqb_1_1_1 (by decide +kernel) (by decide +kernel)) (by decide +kernel) (by decide +kernel))
              exact hR9 ⟨rfl, rfl, rfl, (B_w b73 (by decide +kernel) (by decide +kernel)), (B_w (B_add b68 cqb_1_1_1 (by decide +kernel) (by decide +kernel)) (by decide +kernel) (by decide +kernel)), (B_w (B_add b30 cqb_1_1_1 (by decide +kernel) (by decide +kernel)) (by decide +kernel) (by decide +kernel)), _, _, rfl, hI94, g95, (by show (x4_4.toInt + (x5_5 + 1).toInt) = (x6_6 + 1).toInt; first | with_reducible assumption | omega), (by show x4_4.toInt ≤ (T7 27 1).toInt; first | with_reducible assumption | omega), (by show (x5_5 + 1).toInt ≤ x2.toInt; first | with_reducible assumption | omega)⟩ (by show (513 - (x6_6 + 1).toInt).toNat < (513 - x6_6.toInt).toNat; omega)
    · have hq102 := (nle_lt hc)
      have b103 : B 0 255 (x5_5) := B_w (B_ltL b9 b_x2 hq102) (by decide +kernel) (by decide +kernel)
      have q104 : (0) ≤ (x5_5).toInt ∧ (x5_5).toInt ≤ (255) := (show B 0 255 (x5_5) from B_w b103 (by decide +kernel) (by decide +kernel))
      have b105 : B 1 256 (x2) := B_w (B_ltR b9 b_x2 hq102) (by decide +kernel) (by decide +kernel)
      have q106 : (1) ≤ (x2).toInt ∧ (x2).toInt ≤ (256) := (show B 1 256 (x2) from B_w b105 (by decide +kernel) (by decide +kernel))
      have i107 : (x5_5).toInt < (x2).toInt := i_lt hq102
      refine ⟨(show ¬ ((31 : Nat) = NU) from by decide +kernel), ?_⟩
      refine ⟨(show c_cl UL 31 = 902 from cl_31), ?_⟩
      refine ⟨(show vp_in (2 * x5_5) 514 from vp_B (B_mul cqb_2_2_2 b103 (by decide +kernel) (by decide +kernel) (by decide +kernel)) (by decide +kernel) (by decide +kernel)), ?_⟩
      refine ⟨(show ¬ ((31 : Nat) = NU) from by decide +kernel), ?_⟩
      refine ⟨(show vp_in ((2 * x5_5) + 1) 514 from vp_B (B_add (B_mul cqb_2_2_2 b103 (by decide +kernel) (by decide +kernel) (by decide +kernel)) cqb_1_1_1 (by decide +kernel) (by decide +kernel)) (by decide +kernel) (by decide +kernel)), ?_⟩
      unfold b_Li_makeLine_51
      refine ⟨fun hc => ?_, fun hc => ?_⟩
      · have i108 : (x4_4).toInt = (T7 27 1).toInt := congrArg Int32.toInt hc
        unfold b_Li_makeLine_82
        unfold b_Li_makeLine_87
        refine ⟨(show ¬ ((29 : Nat) = NU) from by decide +kernel), ?_⟩
        refine ⟨(show c_cl UL 29 = 903 from cl_29), ?_⟩
        refine ⟨(show vp_in ((514 * x1) + x6_6) 8224 from vp_B (B_add (B_mul cqb_514_514_514 b_x1 (by decide +kernel) (by decide +kernel) (by decide +kernel)) b30 (by decide +kernel) (by decide +kernel)) (by decide +kernel) (by decide +kernel)), ?_⟩
        refine ⟨fun hc => ?_, fun hc => ?_⟩
        · exact (B_dis cqb_1_1_1 cqb_0_0_0 hc (by decide +kernel)).elim
        · have i109 : (1 : Int32).toInt ≠ (0 : Int32).toInt := i_ne hc
          have n110 : (1 : Int32).toInt = 1 := cqn_1
          have n111 : (0 : Int32).toInt = 0 := cqn_0
          refine ⟨(show ¬ ((30 : Nat) = NU) from by decide +kernel), ?_⟩
          refine ⟨(show c_cl UL 30 = 902 from cl_30), ?_⟩
          refine ⟨(show vp_in (x6_6) 514 from vp_B b30 (by decide +kernel) (by decide +kernel)), ?_⟩
          unfold b_Li_makeLine_143
          have hI112 := IMc_u (u := 29) (i := ((514 * x1) + x6_6).toNatClampNeg) (v := vp_nar .boolean 1) hI11 (show B 0 1 (vp_nar .boolean 1) from (B_w (show B 1 1 (vp_nar .boolean 1) from ⟨by decide +kernel, by decide +kernel⟩) (by decide +kernel) (by decide +kernel)))
          have hI113 := IMc_u (u := 30) (i := x6_6.toNatClampNeg) (v := (T7 31 (2 * x5_5).toNatClampNeg) + (T7 31 ((2 * x5_5) + 1).toNatClampNeg)) hI112 (show B (-2147483648) 2147483647 ((T7 31 (2 * x5_5).toNatClampNeg) + (T7 31 ((2 * x5_5) + 1).toNatClampNeg)) from (B_w (B_any _) (by decide +kernel) (by decide +kernel)))
          have g116 := agc_tr (agc_refl (fs := []) (rs := [29, 30]) (F := F)) g12 (by decide +kernel) (by decide +kernel)
          have g115 := agc_r (u := 29) (w := upd (T7 29) ((514 * x1) + x6_6).toNatClampNeg (vp_nar .boolean 1)) g116 rfl (by decide +kernel)
          have g114 := agc_r (u := 30) (w := upd (T7 30) x6_6.toNatClampNeg ((T7 31 (2 * x5_5).toNatClampNeg) + (T7 31 ((2 * x5_5) + 1).toNatClampNeg))) g115 rfl (by decide +kernel)
          have e117 : (x5_5 + 1).toInt = ((x5_5).toInt + 1) := (t_add b103 cqb_1_1_1 (by decide +kernel) (by decide +kernel)).trans (by rw [cqn_1])
          have q118 : (1) ≤ (x5_5 + 1).toInt ∧ (x5_5 + 1).toInt ≤ (256) := (show B 1 256 (x5_5 + 1) from B_w (B_add b103 cqb_1_1_1 (by decide +kernel) (by decide +kernel)) (by decide +kernel) (by decide +kernel))
          have e119 : (x6_6 + 1).toInt = ((x6_6).toInt + 1) := (t_add b30 cqb_1_1_1 (by decide +kernel) (by decide +kernel)).trans (by rw [cqn_1])
          have q120 : (1) ≤ (x6_6 + 1).toInt ∧ (x6_6 + 1).toInt ≤ (513) := (show B 1 513 (x6_6 + 1) from B_w (B_add b30 cqb_1_1_1 (by decide +kernel) (by decide +kernel)) (by decide +kernel) (by decide +kernel))
          exact hR9 ⟨rfl, rfl, rfl, b8, (B_w (B_add b103 cqb_1_1_1 (by decide +kernel) (by decide +kernel)) (by decide +kernel) (by decide +kernel)), (B_w (B_add b30 cqb_1_1_1 (by decide +kernel) (by decide +kernel)) (by decide +kernel) (by decide +kernel)), _, _, rfl, hI113, g114, (by show (x4_4.toInt + (x5_5 + 1).toInt) = (x6_6 + 1).toInt; first | with_reducible assumption | omega), (by show x4_4.toInt ≤ (T7 27 1).toInt; first | with_reducible assumption | omega), (by show (x5_5 + 1).toInt ≤ x2.toInt; first | with_reducible assumption | omega)⟩ (by show (513 - (x6_6 + 1).toInt).toNat < (513 - x6_6.toInt).toNat; omega)
      · have i121 : (x4_4).toInt ≠ (T7 27 1).toInt := i_ne hc
        refine ⟨fun hc => ?_, fun hc => ?_⟩
        · have hq122 := hc
          have b123 : B 1 255 (x2) := B_w (B_leL b105 b103 hq122) (by decide +kernel) (by decide +kernel)
          have q124 : (1) ≤ (x2).toInt ∧ (x2).toInt ≤ (255) := (show B 1 255 (x2) from B_w b123 (by decide +kernel) (by decide +kernel))
          have b125 : B 1 255 (x5_5) := B_w (B_leR b105 b103 hq122) (by decide +kernel) (by decide +kernel)
          have q126 : (1) ≤ (x5_5).toInt ∧ (x5_5).toInt ≤ (255) := (show B 1 255 (x5_5) from B_w b125 (by decide +kernel) (by decide +kernel))
          have i127 : (x2).toInt ≤ (x5_5).toInt := i_le hq122
          unfold b_Li_makeLine_86
          unfold b_Li_makeLine_87
          refine ⟨(show ¬ ((29 : Nat) = NU) from by decide +kernel), ?_⟩
          refine ⟨(show c_cl UL 29 = 903 from cl_29), ?_⟩
          refine ⟨(show vp_in ((514 * x1) + x6_6) 8224 from vp_B (B_add (B_mul cqb_514_514_514 b_x1 (by decide +kernel) (by decide +kernel) (by decide +kernel)) b30 (by decide +kernel) (by decide +kernel)) (by decide +kernel) (by decide +kernel)), ?_⟩
          refine ⟨fun hc => ?_, fun hc => ?_⟩
          · have i128 : (0 : Int32).toInt = (0 : Int32).toInt := congrArg Int32.toInt hc
            have n129 : (0 : Int32).toInt = 0 := cqn_0
            have n130 : (0 : Int32).toInt = 0 := cqn_0
            refine ⟨(show ¬ ((30 : Nat) = NU) from by decide +kernel), ?_⟩
            refine ⟨(show ¬ ((28 : Nat) = NU) from by decide +kernel), ?_⟩
            refine ⟨(show c_cl UL 28 = 902 from cl_28), ?_⟩
            refine ⟨(show vp_in (x4_4) 257 from vp_om (x := x4_4) (by omega) (by omega)), ?_⟩
            have b131 : B 0 256 (x4_4) := ⟨by omega, by omega⟩
            refine ⟨(show c_cl UL 34 = 902 from cl_34), ?_⟩
            refine ⟨(show vp_in (T7 28 x4_4.toNatClampNeg) 257 from vp_B (B_eq (congrFun (g12.2 28 rfl rfl) x4_4.toNatClampNeg) (show B 0 256 (F 28 x4_4.toNatClampNeg) from hI 28 x4_4.toNatClampNeg)) (by decide +kernel) (by decide +kernel)), ?_⟩
            refine ⟨(show c_cl UL 30 = 902 from cl_30), ?_⟩
            refine ⟨(show vp_in (x6_6) 514 from vp_B b30 (by decide +kernel) (by decide +kernel)), ?_⟩
            unfold b_Li_makeLine_143
            have hI132 := IMc_u (u := 29) (i := ((514 * x1) + x6_6).toNatClampNeg) (v := vp_nar .boolean 0) hI11 (show B 0 1 (vp_nar .boolean 0) from (B_w (show B 0 0 (vp_nar .boolean 0) from ⟨by decide +kernel, by decide +kernel⟩) (by decide +kernel) (by decide +kernel)))
            have hI133 := IMc_u (u := 30) (i := x6_6.toNatClampNeg) (v := T7 34 (T7 28 x4_4.toNatClampNeg).toNatClampNeg) hI132 (show B (-2147483648) 2147483647 (T7 34 (T7 28 x4_4.toNatClampNeg).toNatClampNeg) from (B_w (B_eq (congrFun (g12.2 34 rfl rfl) (T7 28 x4_4.toNatClampNeg).toNatClampNeg) (B_any _)) (by decide +kernel) (by decide +kernel)))
            have g136 := agc_tr (agc_refl (fs := []) (rs := [29, 30]) (F := F)) g12 (by decide +kernel) (by decide +kernel)
            have g135 := agc_r (u := 29) (w := upd (T7 29) ((514 * x1) + x6_6).toNatClampNeg (vp_nar .boolean 0)) g136 rfl (by decide +kernel)
            have g134 := agc_r (u := 30) (w := upd (T7 30) x6_6.toNatClampNeg (T7 34 (T7 28 x4_4.toNatClampNeg).toNatClampNeg)) g135 rfl (by decide +kernel)
            have e137 : (x4_4 + 1).toInt = ((x4_4).toInt + 1) := (t_add b131 cqb_1_1_1 (by decide +kernel) (by decide +kernel)).trans (by rw [cqn_1])
            have q138 : (1) ≤ (x4_4 + 1).toInt ∧ (x4_4 + 1).toInt ≤ (257) := (show B 1 257 (x4_4 + 1) from B_w (B_add b131 cqb_1_1_1 (by decide +kernel) (by decide +kernel)) (by decide +kernel) (by decide +kernel))
            have e139 : (x6_6 + 1).toInt = ((x6_6).toInt + 1) := (t_add b30 cqb_1_1_1 (by decide +kernel) (by decide +kernel)).trans (by rw [cqn_1])
            have q140 : (1) ≤ (x6_6 + 1).toInt ∧ (x6_6 + 1).toInt ≤ (513) := (show B 1 513 (x6_6 + 1) from B_w (B_add b30 cqb_1_1_1 (by decide +kernel) (by decide +kernel)) (by decide +kernel) (by decide +kernel))
            exact hR9 ⟨rfl, rfl, rfl, (B_w (B_add b131 cqb_1_1_1 (by decide +kernel) (by decide +kernel)) (by decide +kernel) (by decide +kernel)), (B_w b125 (by decide +kernel) (by decide +kernel)), (B_w (B_add b30 cqb_1_1_1 (by decide +kernel) (by decide +kernel)) (by decide +kernel) (by decide +kernel)), _, _, rfl, hI133, g134, (by show ((x4_4 + 1).toInt + x5_5.toInt) = (x6_6 + 1).toInt; first | with_reducible assumption | omega), (by show (x4_4 + 1).toInt ≤ (T7 27 1).toInt; first | with_reducible assumption | omega), (by show x5_5.toInt ≤ x2.toInt; first | with_reducible assumption | omega)⟩ (by show (513 - (x6_6 + 1).toInt).toNat < (513 - x6_6.toInt).toNat; omega)
          · exact (hc (B_z cqb_0_0_0)).elim
        · have hq141 := (nle_lt hc)
          have i142 : (x5_5).toInt < (x2).toInt := i_lt hq141
          refine ⟨(show ¬ ((28 : Nat) = NU) from by decide +kernel), ?_⟩
          refine ⟨(show c_cl UL 28 = 902 from cl_28), ?_⟩
          refine ⟨(show vp_in (x4_4) 257 from vp_om (x := x4_4) (by omega) (by omega)), ?_⟩
          have b143 : B 0 256 (x4_4) := ⟨by omega, by omega⟩
          refine ⟨(show c_cl UL 34 = 902 from cl_34), ?_⟩
          refine ⟨(show vp_in (T7 28 x4_4.toNatClampNeg) 257 from vp_B (B_eq (congrFun (g12.2 28 rfl rfl) x4_4.toNatClampNeg) (show B 0 256 (F 28 x4_4.toNatClampNeg) from hI 28 x4_4.toNatClampNeg)) (by decide +kernel) (by decide +kernel)), ?_⟩
          refine ⟨fun hc => ?_, fun hc => ?_⟩
          · have hq144 := hc
            have e145 : (T7 34 (T7 28 x4_4.toNatClampNeg).toNatClampNeg).toInt = (F 34 (T7 28 x4_4.toNatClampNeg).toNatClampNeg).toInt := (congrArg Int32.toInt (congrFun (g12.2 34 rfl rfl) (T7 28 x4_4.toNatClampNeg).toNatClampNeg)).trans rfl
            have i146 : (T7 34 (T7 28 x4_4.toNatClampNeg).toNatClampNeg).toInt ≤ ((T7 31 (2 * x5_5).toNatClampNeg) + (T7 31 ((2 * x5_5) + 1).toNatClampNeg)).toInt := i_le hq144
            unfold b_Li_makeLine_86
            unfold b_Li_makeLine_87
            refine ⟨(show ¬ ((29 : Nat) = NU) from by decide +kernel), ?_⟩
            refine ⟨(show c_cl UL 29 = 903 from cl_29), ?_⟩
            refine ⟨(show vp_in ((514 * x1) + x6_6) 8224 from vp_B (B_add (B_mul cqb_514_514_514 b_x1 (by decide +kernel) (by decide +kernel) (by decide +kernel)) b30 (by decide +kernel) (by decide +kernel)) (by decide +kernel) (by decide +kernel)), ?_⟩
            refine ⟨fun hc => ?_, fun hc => ?_⟩
            · have i147 : (0 : Int32).toInt = (0 : Int32).toInt := congrArg Int32.toInt hc
              have n148 : (0 : Int32).toInt = 0 := cqn_0
              have n149 : (0 : Int32).toInt = 0 := cqn_0
              refine ⟨(show ¬ ((30 : Nat) = NU) from by decide +kernel), ?_⟩
              refine ⟨(show ¬ ((28 : Nat) = NU) from by decide +kernel), ?_⟩
              refine ⟨(show c_cl UL 28 = 902 from cl_28), ?_⟩
              refine ⟨(show vp_in (x4_4) 257 from vp_B b143 (by decide +kernel) (by decide +kernel)), ?_⟩
              refine ⟨(show c_cl UL 34 = 902 from cl_34), ?_⟩
              refine ⟨(show vp_in (T7 28 x4_4.toNatClampNeg) 257 from vp_B (B_eq (congrFun (g12.2 28 rfl rfl) x4_4.toNatClampNeg) (show B 0 256 (F 28 x4_4.toNatClampNeg) from hI 28 x4_4.toNatClampNeg)) (by decide +kernel) (by decide +kernel)), ?_⟩
              refine ⟨(show c_cl UL 30 = 902 from cl_30), ?_⟩
              refine ⟨(show vp_in (x6_6) 514 from vp_B b30 (by decide +kernel) (by decide +kernel)), ?_⟩
              unfold b_Li_makeLine_143
              have hI150 := IMc_u (u := 29) (i := ((514 * x1) + x6_6).toNatClampNeg) (v := vp_nar .boolean 0) hI11 (show B 0 1 (vp_nar .boolean 0) from (B_w (show B 0 0 (vp_nar .boolean 0) from ⟨by decide +kernel, by decide +kernel⟩) (by decide +kernel) (by decide +kernel)))
              have hI151 := IMc_u (u := 30) (i := x6_6.toNatClampNeg) (v := T7 34 (T7 28 x4_4.toNatClampNeg).toNatClampNeg) hI150 (show B (-2147483648) 2147483647 (T7 34 (T7 28 x4_4.toNatClampNeg).toNatClampNeg) from (B_w (B_eq (congrFun (g12.2 34 rfl rfl) (T7 28 x4_4.toNatClampNeg).toNatClampNeg) (B_any _)) (by decide +kernel) (by decide +kernel)))
              have g154 := agc_tr (agc_refl (fs := []) (rs := [29, 30]) (F := F)) g12 (by decide +kernel) (by decide +kernel)
              have g153 := agc_r (u := 29) (w := upd (T7 29) ((514 * x1) + x6_6).toNatClampNeg (vp_nar .boolean 0)) g154 rfl (by decide +kernel)
              have g152 := agc_r (u := 30) (w := upd (T7 30) x6_6.toNatClampNeg (T7 34 (T7 28 x4_4.toNatClampNeg).toNatClampNeg)) g153 rfl (by decide +kernel)
              have e155 : (x4_4 + 1).toInt = ((x4_4).toInt + 1) := (t_add b143 cqb_1_1_1 (by decide +kernel) (by decide +kernel)).trans (by rw [cqn_1])
              have q156 : (1) ≤ (x4_4 + 1).toInt ∧ (x4_4 + 1).toInt ≤ (257) := (show B 1 257 (x4_4 + 1) from B_w (B_add b143 cqb_1_1_1 (by decide +kernel) (by decide +kernel)) (by decide +kernel) (by decide +kernel))
              have e157 : (x6_6 + 1).toInt = ((x6_6).toInt + 1) := (t_add b30 cqb_1_1_1 (by decide +kernel) (by decide +kernel)).trans (by rw [cqn_1])
              have q158 : (1) ≤ (x6_6 + 1).toInt ∧ (x6_6 + 1).toInt ≤ (513) := (show B 1 513 (x6_6 + 1) from B_w (B_add b30 cqb_1_1_1 (by decide +kernel) (by decide +kernel)) (by decide +kernel) (by decide +kernel))
              exact hR9 ⟨rfl, rfl, rfl, (B_w (B_add b143 cqb_1_1_1 (by decide +kernel) (by decide +kernel)) (by decide +kernel) (by decide +kernel)), (B_w b103 (by decide +kernel) (by decide +kernel)), (B_w (B_add b30 cqb_1_1_1 (by decide +kernel) (by decide +kernel)) (by decide +kernel) (by decide +kernel)), _, _, rfl, hI151, g152, (by show ((x4_4 + 1).toInt + x5_5.toInt) = (x6_6 + 1).toInt; first | with_reducible assumption | omega), (by show (x4_4 + 1).toInt ≤ (T7 27 1).toInt; first | with_reducible assumption | omega), (by show x5_5.toInt ≤ x2.toInt; first | with_reducible assumption | omega)⟩ (by show (513 - (x6_6 + 1).toInt).toNat < (513 - x6_6.toInt).toNat; omega)
            · exact (hc (B_z cqb_0_0_0)).elim
          · have hq159 := (nle_lt hc)
            have b160 : B (-2147483648) 2147483646 ((T7 31 (2 * x5_5).toNatClampNeg) + (T7 31 ((2 * x5_5) + 1).toNatClampNeg)) := B_w (B_ltL (B_any _) (B_eq (congrFun (g12.2 34 rfl rfl) (T7 28 x4_4.toNatClampNeg).toNatClampNeg) (B_any _)) hq159) (by decide +kernel) (by decide +kernel)
            have b161 : B (-2147483647) 2147483647 (F 34 (T7 28 x4_4.toNatClampNeg).toNatClampNeg) := B_w (B_eq (Eq.symm (congrFun (g12.2 34 rfl rfl) (T7 28 x4_4.toNatClampNeg).toNatClampNeg)) (B_ltR (B_any _) (B_eq (congrFun (g12.2 34 rfl rfl) (T7 28 x4_4.toNatClampNeg).toNatClampNeg) (B_any _)) hq159)) (by decide +kernel) (by decide +kernel)
            have q162 : (-2147483648) ≤ ((T7 31 (2 * x5_5).toNatClampNeg) + (T7 31 ((2 * x5_5) + 1).toNatClampNeg)).toInt ∧ ((T7 31 (2 * x5_5).toNatClampNeg) + (T7 31 ((2 * x5_5) + 1).toNatClampNeg)).toInt ≤ (2147483646) := (show B (-2147483648) 2147483646 ((T7 31 (2 * x5_5).toNatClampNeg) + (T7 31 ((2 * x5_5) + 1).toNatClampNeg)) from B_w b160 (by decide +kernel) (by decide +kernel))
            have q163 : (-2147483647) ≤ (F 34 (T7 28 x4_4.toNatClampNeg).toNatClampNeg).toInt ∧ (F 34 (T7 28 x4_4.toNatClampNeg).toNatClampNeg).toInt ≤ (2147483647) := (show B (-2147483647) 2147483647 (F 34 (T7 28 x4_4.toNatClampNeg).toNatClampNeg) from B_w b161 (by decide +kernel) (by decide +kernel))
            have e164 : (T7 34 (T7 28 x4_4.toNatClampNeg).toNatClampNeg).toInt = (F 34 (T7 28 x4_4.toNatClampNeg).toNatClampNeg).toInt := (congrArg Int32.toInt (congrFun (g12.2 34 rfl rfl) (T7 28 x4_4.toNatClampNeg).toNatClampNeg)).trans rfl
            have i165 : ((T7 31 (2 * x5_5).toNatClampNeg) + (T7 31 ((2 * x5_5) + 1).toNatClampNeg)).toInt < (T7 34 (T7 28 x4_4.toNatClampNeg).toNatClampNeg).toInt := i_lt hq159
            unfold b_Li_makeLine_82
            unfold b_Li_makeLine_87
            refine ⟨(show ¬ ((29 : Nat) = NU) from by decide +kernel), ?_⟩
            refine ⟨(show c_cl UL 29 = 903 from cl_29), ?_⟩
            refine ⟨(show vp_in ((514 * x1) + x6_6) 8224 from vp_B (B_add (B_mul cqb_514_514_514 b_x1 (by decide +kernel) (by decide +kernel) (by decide +kernel)) b30 (by decide +kernel) (by decide +kernel)) (by decide +kernel) (by decide +kernel)), ?_⟩
            refine ⟨fun hc => ?_, fun hc => ?_⟩
            · exact (B_dis cqb_1_1_1 cqb_0_0_0 hc (by decide +kernel)).elim
            · have i166 : (1 : Int32).toInt ≠ (0 : Int32).toInt := i_ne hc
              have n167 : (1 : Int32).toInt = 1 := cqn_1
              have n168 : (0 : Int32).toInt = 0 := cqn_0
              refine ⟨(show ¬ ((30 : Nat) = NU) from by decide +kernel), ?_⟩
              refine ⟨(show c_cl UL 30 = 902 from cl_30), ?_⟩
              refine ⟨(show vp_in (x6_6) 514 from vp_B b30 (by decide +kernel) (by decide +kernel)), ?_⟩
              unfold b_Li_makeLine_143
              have hI169 := IMc_u (u := 29) (i := ((514 * x1) + x6_6).toNatClampNeg) (v := vp_nar .boolean 1) hI11 (show B 0 1 (vp_nar .boolean 1) from (B_w (show B 1 1 (vp_nar .boolean 1) from ⟨by decide +kernel, by decide +kernel⟩) (by decide +kernel) (by decide +kernel)))
              have hI170 := IMc_u (u := 30) (i := x6_6.toNatClampNeg) (v := (T7 31 (2 * x5_5).toNatClampNeg) + (T7 31 ((2 * x5_5) + 1).toNatClampNeg)) hI169 (show B (-2147483648) 2147483647 ((T7 31 (2 * x5_5).toNatClampNeg) + (T7 31 ((2 * x5_5) + 1).toNatClampNeg)) from (B_w b160 (by decide +kernel) (by decide +kernel)))
              have g173 := agc_tr (agc_refl (fs := []) (rs := [29, 30]) (F := F)) g12 (by decide +kernel) (by decide +kernel)
              have g172 := agc_r (u := 29) (w := upd (T7 29) ((514 * x1) + x6_6).toNatClampNeg (vp_nar .boolean 1)) g173 rfl (by decide +kernel)
              have g171 := agc_r (u := 30) (w := upd (T7 30) x6_6.toNatClampNeg ((T7 31 (2 * x5_5).toNatClampNeg) + (T7 31 ((2 * x5_5) + 1).toNatClampNeg))) g172 rfl (by decide +kernel)
              have e174 : (x5_5 + 1).toInt = ((x5_5).toInt + 1) := (t_add b103 cqb_1_1_1 (by decide +kernel) (by decide +kernel)).trans (by rw [cqn_1])
              have q175 : (1) ≤ (x5_5 + 1).toInt ∧ (x5_5 + 1).toInt ≤ (256) := (show B 1 256 (x5_5 + 1) from B_w (B_add b103 cqb_1_1_1 (by decide +kernel) (by decide +kernel)) (by decide +kernel) (by decide +kernel))
              have e176 : (x6_6 + 1).toInt = ((x6_6).toInt + 1) := (t_add b30 cqb_1_1_1 (by decide +kernel) (by decide +kernel)).trans (by rw [cqn_1])
              have q177 : (1) ≤ (x6_6 + 1).toInt ∧ (x6_6 + 1).toInt ≤ (513) := (show B 1 513 (x6_6 + 1) from B_w (B_add b30 cqb_1_1_1 (by decide +kernel) (by decide +kernel)) (by decide +kernel) (by decide +kernel))
              exact hR9 ⟨rfl, rfl, rfl, (B_w b143 (by decide +kernel) (by decide +kernel)), (B_w (B_add b103 cqb_1_1_1 (by decide +kernel) (by decide +kernel)) (by decide +kernel) (by decide +kernel)), (B_w (B_add b30 cqb_1_1_1 (by decide +kernel) (by decide +kernel)) (by decide +kernel) (by decide +kernel)), _, _, rfl, hI170, g171, (by show (x4_4.toInt + (x5_5 + 1).toInt) = (x6_6 + 1).toInt; first | with_reducible assumption | omega), (by show x4_4.toInt ≤ (T7 27 1).toInt; first | with_reducible assumption | omega), (by show (x5_5 + 1).toInt ≤ x2.toInt; first | with_reducible assumption | omega)⟩ (by show (513 - (x6_6 + 1).toInt).toNat < (513 - x6_6.toInt).toNat; omega)
theorem h_Li_makeLine_u27_x334 {a : Bool} {b : Bool} {P : Nat → Nat → Nat} {x1 : Int32} {x2 : Int32} {F : cF} {L : cL} {K : Int32 → cs → Prop} (b_x1 : B 1 15 x1) (b_x2 : B 0 256 x2) (hI : IMc F) (hK : ∀ {v : Int32} {bZ : Bool} {Z : cF} {LZ : cL}, B 0 513 v → IMc Z → agc [] [29, 30, 31] F Z → K v (Z, LZ, PC a bZ P)) : p_Li_makeLine UL 27 x1 x2 34 (F, L, PC a b P) K := by
  cases b
  · exact h_Li_makeLine_u27_x334_b0 b_x1 b_x2 hI (fun bv hI g => hK bv hI (agc_tr agc_refl g (by decide +kernel) (by decide +kernel)))
  · exact h_Li_makeLine_u27_x334_b1 b_x1 b_x2 hI (fun bv hI g => hK bv hI (agc_tr agc_refl g (by decide +kernel) (by decide +kernel)))
set_option maxRecDepth 20000 in
set_option maxHeartbeats 4000000 in
theorem h_Li_setLengths_u27_x133_b0 {a : Bool} {P : Nat → Nat → Nat} {F : cF} {L : cL} {K : cs → Prop} (hI : IMc F) (hK : ∀ {bZ : Bool} {Z : cF} {LZ : cL}, IMc Z → agc [2701] [28, 29, 30, 31, 35, 999] F Z → K (Z, LZ, PC a bZ P)) : p_Li_setLengths UL 27 33 (F, L, PC a false P) K := by
  unfold p_Li_setLengths
  refine ⟨(show c_cl UL 33 = 5 from cl_33), ?_⟩
  refine ⟨(show ¬ ((34 : Nat) = NU) from by decide +kernel), ?_⟩
  refine h_Li_sortSymbols_u27_x134 hI (fun {FS5_1} {LFS5_1} hI2 g3 => ?_)
  refine ⟨fun yx1 yx2 yx3 yS => (33 : Nat) = yx1 ∧ (FS5_1 27 1) = yx2 ∧ B 0 257 yx3 ∧ ∃ (T7 : cF) (LT7 : cL), yS = (T7, LT7, PC a false P) ∧ IMc T7 ∧ agc [] [30] FS5_1 T7, fun yx1 yx2 yx3 yS => (257 - yx3.toInt).toNat, ⟨rfl, rfl, (B_w cqb_0_0_0 (by decide +kernel) (by decide +kernel)), _, _, rfl, hI2, (agc_refl (fs := []) (rs := [30]) (F := FS5_1))⟩, fun x1_4 x2_5 x3_6 ST7 hIv => ?_⟩
  obtain ⟨rfl, rfl, b8, T7, LT7, rfl, hI9, g10⟩ := hIv
  suffices hs : ∀ (R15 : Nat → Int32 → Int32 → cs → Prop), (∀ zx1 zx2 zx3 zS, ((33 : Nat) = zx1 ∧ (FS5_1 27 1) = zx2 ∧ B 0 257 zx3 ∧ ∃ (T7 : cF) (LT7 : cL), zS = (T7, LT7, PC a false P) ∧ IMc T7 ∧ agc [] [30] FS5_1 T7) → (257 - zx3.toInt).toNat < (257 - x3_6.toInt).toNat → R15 zx1 zx2 zx3 zS) → b_Li_setLengths_15 UL 27 33 (FS5_1 27 1) x3_6 (T7, LT7, PC a false P) R15 K from hs _ (fun _ _ _ _ h1 h2 => ⟨h1, h2⟩)
  intro R15 hR150
  have hR15 := fun {zx1} {zx2} {zx3} {zS} => hR150 zx1 zx2 zx3 zS
  unfold b_Li_setLengths_15
  refine ⟨fun hc => ?_, fun hc => ?_⟩
  · have hq11 := hc
    have q12 : (0) ≤ (FS5_1 27 1).toInt ∧ (FS5_1 27 1).toInt ≤ (257) := (show B 0 257 (FS5_1 27 1) from hI2 27 1)
    have e13 : (T7 27 1).toInt = (FS5_1 27 1).toInt := (congrArg Int32.toInt (g10.1 27 1 rfl rfl)).trans rfl
    have q14 : (0) ≤ (x3_6).toInt ∧ (x3_6).toInt ≤ (257) := (show B 0 257 (x3_6) from B_w b8 (by decide +kernel) (by decide +kernel))
    have i15 : (T7 27 1).toInt ≤ (x3_6).toInt := i_le hq11
    refine ⟨fun yx1 yx2 yx3 yS => (33 : Nat) = yx1 ∧ B 0 513 yx2 ∧ B 1 16 yx3 ∧ ∃ (bT19 : Bool) (T19 : cF) (LT19 : cL), yS = (T19, LT19, PC a bT19 P) ∧ IMc T19 ∧ agc [] [29, 30, 31, 999] T7 T19, fun yx1 yx2 yx3 yS => (16 - yx3.toInt).toNat, ⟨rfl, (B_w (show B 0 257 (FS5_1 27 1) from hI2 27 1) (by decide +kernel) (by decide +kernel)), (B_w cqb_1_1_1 (by decide +kernel) (by decide +kernel)), _, _, _, rfl, hI9, (agc_refl (fs := []) (rs := [29, 30, 31, 999]) (F := T7))⟩, fun x1_16 x2_17 x3_18 ST19 hIv => ?_⟩
    obtain ⟨rfl, b20, b21, bT19, T19, LT19, rfl, hI22, g23⟩ := hIv
    suffices hs : ∀ (R48 : Nat → Int32 → Int32 → cs → Prop), (∀ zx1 zx2 zx3 zS, ((33 : Nat) = zx1 ∧ B 0 513 zx2 ∧ B 1 16 zx3 ∧ ∃ (bT19 : Bool) (T19 : cF) (LT19 : cL), zS = (T19, LT19, PC a bT19 P) ∧ IMc T19 ∧ agc [] [29, 30, 31, 999] T7 T19) → (16 - zx3.toInt).toNat < (16 - x3_18.toInt).toNat → R48 zx1 zx2 zx3 zS) → b_Li_setLengths_48 UL 27 33 x2_17 x3_18 (T19, LT19, PC a bT19 P) R48 K from hs _ (fun _ _ _ _ h1 h2 => ⟨h1, h2⟩)
    intro R48 hR480
    have hR48 := fun {zx1} {zx2} {zx3} {zS} => hR480 zx1 zx2 zx3 zS
    unfold b_Li_setLengths_48
    refine ⟨fun hc => ?_, fun hc => ?_⟩
    · have hq24 := hc
      have b25 : B 16 16 (x3_18) := B_w (B_leR cqb_16_16_16 b21 hq24) (by decide +kernel) (by decide +kernel)
      refine ⟨fun yx1 yx3 yx4 yS => (33 : Nat) = yx1 ∧ B (-2147483648) 2147483647 yx3 ∧ B (-1) 15 yx4 ∧ ∃ (T29 : cF) (LT29 : cL), yS = (T29, LT29, PC a bT19 P) ∧ IMc T29 ∧ agc [] [35, 999] T19 T29, fun yx1 yx3 yx4 yS => (yx4.toInt - (-1)).toNat, ⟨rfl, (B_w (B_sub (B_mul cqb_2_2_2 (B_eq ((g23.1 27 1 rfl rfl).trans (g10.1 27 1 rfl rfl)) (show B 0 257 (FS5_1 27 1) from hI2 27 1)) (by decide +kernel) (by decide +kernel) (by decide +kernel)) cqb_2_2_2 (by decide +kernel) (by decide +kernel)) (by decide +kernel) (by decide +kernel)), (B_w cqb_15_15_15 (by decide +kernel) (by decide +kernel)), _, _, rfl, hI22, (agc_refl (fs := []) (rs := [35, 999]) (F := T19))⟩, fun x1_26 x3_27 x4_28 ST29 hIv => ?_⟩
      obtain ⟨rfl, b30, b31, T29, LT29, rfl, hI32, g33⟩ := hIv
      suffices hs : ∀ (R86 : Nat → Int32 → Int32 → cs → Prop), (∀ zx1 zx3 zx4 zS, ((33 : Nat) = zx1 ∧ B (-2147483648) 2147483647 zx3 ∧ B (-1) 15 zx4 ∧ ∃ (T29 : cF) (LT29 : cL), zS = (T29, LT29, PC a bT19 P) ∧ IMc T29 ∧ agc [] [35, 999] T19 T29) → (zx4.toInt - (-1)).toNat < (x4_28.toInt - (-1)).toNat → R86 zx1 zx3 zx4 zS) → b_Li_setLengths_86 UL 27 33 x3_27 x4_28 (T29, LT29, PC a bT19 P) R86 K from hs _ (fun _ _ _ _ h1 h2 => ⟨h1, h2⟩)
      intro R86 hR860
      have hR86 := fun {zx1} {zx3} {zx4} {zS} => hR860 zx1 zx3 zx4 zS
      unfold b_Li_setLengths_86
      refine ⟨fun hc => ?_, fun hc => ?_⟩
      · have hq34 := hc
        have b35 : B (-1) (-1) (x4_28) := B_w (B_ltL b31 cqb_0_0_0 hq34) (by decide +kernel) (by decide +kernel)
        have g39 := agc_tr (agc_refl (fs := [2701]) (rs := [28, 29, 30, 31, 35, 999]) (F := F)) g3 (by decide +kernel) (by decide +kernel)
        have g38 := agc_tr g39 g10 (by decide +kernel) (by decide +kernel)
        have g37 := agc_tr g38 g23 (by decide +kernel) (by decide +kernel)
        have g36 := agc_tr g37 g33 (by decide +kernel) (by decide +kernel)
        exact hK hI32 g36
      · have hq40 := (nlt_le hc)
        have b41 : B 0 15 (x4_28) := B_w (B_leR cqb_0_0_0 b31 hq40) (by decide +kernel) (by decide +kernel)
        refine ⟨(show c_cl UL 33 = 5 from cl_33), ?_⟩
        refine ⟨(show ¬ ((35 : Nat) = NU) from by decide +kernel), ?_⟩
        refine h_Li_takeThings_u27_x335 b41 hI32 (fun {v100_42} {FS100_43} {LFS100_43} b44 hI45 g46 => ?_)
        have g48 := agc_tr (agc_refl (fs := []) (rs := [35, 999]) (F := T19)) g33 (by decide +kernel) (by decide +kernel)
        have g47 := agc_tr g48 g46 (by decide +kernel) (by decide +kernel)
        have q49 : (0) ≤ (x4_28).toInt ∧ (x4_28).toInt ≤ (15) := (show B 0 15 (x4_28) from B_w b41 (by decide +kernel) (by decide +kernel))
        have e50 : (x4_28 + (-1)).toInt = ((x4_28).toInt + (-1)) := (t_add b41 cqb_m1_m1_m1 (by decide +kernel) (by decide +kernel)).trans (by rw [cqn_m1])
        have q51 : (-1) ≤ (x4_28 + (-1)).toInt ∧ (x4_28 + (-1)).toInt ≤ (14) := (show B (-1) 14 (x4_28 + (-1)) from B_w (B_add b41 cqb_m1_m1_m1 (by decide +kernel) (by decide +kernel)) (by decide +kernel) (by decide +kernel))
        exact hR86 ⟨rfl, (B_w (B_mul cqb_2_2_2 b44 (by decide +kernel) (by decide +kernel) (by decide +kernel)) (by decide +kernel) (by decide +kernel)), (B_w (B_add b41 cqb_m1_m1_m1 (by decide +kernel) (by decide +kernel)) (by decide +kernel) (by decide +kernel)), _, _, rfl, hI45, g47⟩ (by show ((x4_28 + (-1)).toInt - (-1)).toNat < (x4_28.toInt - (-1)).toNat; revert e50 q51; generalize (x4_28 + (-1)).toInt = dd0; intros; omega)
    · have hq52 := (nle_lt hc)
      have b53 : B 1 15 (x3_18) := B_w (B_ltL b21 cqb_16_16_16 hq52) (by decide +kernel) (by decide +kernel)
      refine ⟨(show c_cl UL 33 = 5 from cl_33), ?_⟩
      refine ⟨(show ¬ ((34 : Nat) = NU) from by decide +kernel), ?_⟩
      refine h_Li_makeLine_u27_x334 b53 (B_w (show B 0 256 (x2_17 / 2) from B_div2 b20 cqb_2_2_2 (by decide +kernel) (by decide +kernel) (by decide +kernel) (by decide +kernel)) (by decide +kernel) (by decide +kernel)) hI22 (fun {v63_54} {bFS63_55} {FS63_55} {LFS63_55} b56 hI57 g58 => ?_)
      have g60 := agc_tr (agc_refl (fs := []) (rs := [29, 30, 31, 999]) (F := T7)) g23 (by decide +kernel) (by decide +kernel)
      have g59 := agc_tr g60 g58 (by decide +kernel) (by decide +kernel)
      have q61 : (1) ≤ (x3_18).toInt ∧ (x3_18).toInt ≤ (15) := (show B 1 15 (x3_18) from B_w b53 (by decide +kernel) (by decide +kernel))
      have e62 : (x3_18 + 1).toInt = ((x3_18).toInt + 1) := (t_add b53 cqb_1_1_1 (by decide +kernel) (by decide +kernel)).trans (by rw [cqn_1])
      have q63 : (2) ≤ (x3_18 + 1).toInt ∧ (x3_18 + 1).toInt ≤ (16) := (show B 2 16 (x3_18 + 1) from B_w (B_add b53 cqb_1_1_1 (by decide +kernel) (by decide +kernel)) (by decide +kernel) (by decide +kernel))
      exact hR48 ⟨rfl, b56, (B_w (B_add b53 cqb_1_1_1 (by decide +kernel) (by decide +kernel)) (by decide +kernel) (by decide +kernel)), _, _, _, rfl, hI57, g59⟩ (by show (16 - (x3_18 + 1).toInt).toNat < (16 - x3_18.toInt).toNat; omega)
  · have hq64 := (nle_lt hc)
    have b65 : B 0 256 (x3_6) := B_w (B_ltL b8 (B_eq (g10.1 27 1 rfl rfl) (show B 0 257 (FS5_1 27 1) from hI2 27 1)) hq64) (by decide +kernel) (by decide +kernel)
    have b66 : B 1 257 (FS5_1 27 1) := B_w (B_eq (Eq.symm (g10.1 27 1 rfl rfl)) (B_ltR b8 (B_eq (g10.1 27 1 rfl rfl) (show B 0 257 (FS5_1 27 1) from hI2 27 1)) hq64)) (by decide +kernel) (by decide +kernel)
    have q67 : (0) ≤ (x3_6).toInt ∧ (x3_6).toInt ≤ (256) := (show B 0 256 (x3_6) from B_w b65 (by decide +kernel) (by decide +kernel))
    have q68 : (1) ≤ (FS5_1 27 1).toInt ∧ (FS5_1 27 1).toInt ≤ (257) := (show B 1 257 (FS5_1 27 1) from B_w b66 (by decide +kernel) (by decide +kernel))
    have e69 : (T7 27 1).toInt = (FS5_1 27 1).toInt := (congrArg Int32.toInt (g10.1 27 1 rfl rfl)).trans rfl
    have i70 : (x3_6).toInt < (T7 27 1).toInt := i_lt hq64
    refine ⟨(show ¬ ((30 : Nat) = NU) from by decide +kernel), ?_⟩
    refine ⟨(show c_cl UL 33 = 5 from cl_33), ?_⟩
    refine ⟨(show ¬ ((34 : Nat) = NU) from by decide +kernel), ?_⟩
    refine ⟨(show ¬ ((28 : Nat) = NU) from by decide +kernel), ?_⟩
    refine ⟨(show c_cl UL 28 = 902 from cl_28), ?_⟩
    refine ⟨(show vp_in (x3_6) 257 from vp_B b65 (by decide +kernel) (by decide +kernel)), ?_⟩
    refine ⟨(show c_cl UL 34 = 902 from cl_34), ?_⟩
    refine ⟨(show vp_in (T7 28 x3_6.toNatClampNeg) 257 from vp_B (B_eq (congrFun (g10.2 28 rfl rfl) x3_6.toNatClampNeg) (show B 0 256 (FS5_1 28 x3_6.toNatClampNeg) from hI2 28 x3_6.toNatClampNeg)) (by decide +kernel) (by decide +kernel)), ?_⟩
    refine ⟨(show c_cl UL 30 = 902 from cl_30), ?_⟩
    refine ⟨(show vp_in (x3_6) 514 from vp_B b65 (by decide +kernel) (by decide +kernel)), ?_⟩
    have hI71 := IMc_u (u := 30) (i := x3_6.toNatClampNeg) (v := T7 34 (T7 28 x3_6.toNatClampNeg).toNatClampNeg) hI9 (show B (-2147483648) 2147483647 (T7 34 (T7 28 x3_6.toNatClampNeg).toNatClampNeg) from (B_w (B_eq ((congrFun (g10.2 34 rfl rfl) (T7 28 x3_6.toNatClampNeg).toNatClampNeg).trans (congrFun (g3.2 34 rfl rfl) (T7 28 x3_6.toNatClampNeg).toNatClampNeg)) (B_any _)) (by decide +kernel) (by decide +kernel)))
    have g73 := agc_tr (agc_refl (fs := []) (rs := [30]) (F := FS5_1)) g10 (by decide +kernel) (by decide +kernel)
    have g72 := agc_r (u := 30) (w := upd (T7 30) x3_6.toNatClampNeg (T7 34 (T7 28 x3_6.toNatClampNeg).toNatClampNeg)) g73 rfl (by decide +kernel)
    have e74 : (x3_6 + 1).toInt = ((x3_6).toInt + 1) := (t_add b65 cqb_1_1_1 (by decide +kernel) (by decide +kernel)).trans (by rw [cqn_1])
    have q75 : (1) ≤ (x3_6 + 1).toInt ∧ (x3_6 + 1).toInt ≤ (257) := (show B 1 257 (x3_6 + 1) from B_w (B_add b65 cqb_1_1_1 (by decide +kernel) (by decide +kernel)) (by decide +kernel) (by decide +kernel))
    exact hR15 ⟨rfl, rfl, (B_w (B_add b65 cqb_1_1_1 (by decide +kernel) (by decide +kernel)) (by decide +kernel) (by decide +kernel)), _, _, rfl, hI71, g72⟩ (by show (257 - (x3_6 + 1).toInt).toNat < (257 - x3_6.toInt).toNat; omega)
set_option maxRecDepth 20000 in
set_option maxHeartbeats 4000000 in
theorem h_Li_setLengths_u27_x133_b1 {a : Bool} {P : Nat → Nat → Nat} {F : cF} {L : cL} {K : cs → Prop} (hI : IMc F) (hK : ∀ {bZ : Bool} {Z : cF} {LZ : cL}, IMc Z → agc [2701] [28, 29, 30, 31, 35, 999] F Z → K (Z, LZ, PC a bZ P)) : p_Li_setLengths UL 27 33 (F, L, PC a true P) K := by
  unfold p_Li_setLengths
  refine ⟨(show c_cl UL 33 = 5 from cl_33), ?_⟩
  refine ⟨(show ¬ ((34 : Nat) = NU) from by decide +kernel), ?_⟩
  refine h_Li_sortSymbols_u27_x134 hI (fun {FS5_1} {LFS5_1} hI2 g3 => ?_)
  refine ⟨fun yx1 yx2 yx3 yS => (33 : Nat) = yx1 ∧ (FS5_1 27 1) = yx2 ∧ B 0 257 yx3 ∧ ∃ (T7 : cF) (LT7 : cL), yS = (T7, LT7, PC a true P) ∧ IMc T7 ∧ agc [] [31] FS5_1 T7, fun yx1 yx2 yx3 yS => (257 - yx3.toInt).toNat, ⟨rfl, rfl, (B_w cqb_0_0_0 (by decide +kernel) (by decide +kernel)), _, _, rfl, hI2, (agc_refl (fs := []) (rs := [31]) (F := FS5_1))⟩, fun x1_4 x2_5 x3_6 ST7 hIv => ?_⟩
  obtain ⟨rfl, rfl, b8, T7, LT7, rfl, hI9, g10⟩ := hIv
  suffices hs : ∀ (R15 : Nat → Int32 → Int32 → cs → Prop), (∀ zx1 zx2 zx3 zS, ((33 : Nat) = zx1 ∧ (FS5_1 27 1) = zx2 ∧ B 0 257 zx3 ∧ ∃ (T7 : cF) (LT7 : cL), zS = (T7, LT7, PC a true P) ∧ IMc T7 ∧ agc [] [31] FS5_1 T7) → (257 - zx3.toInt).toNat < (257 - x3_6.toInt).toNat → R15 zx1 zx2 zx3 zS) → b_Li_setLengths_15 UL 27 33 (FS5_1 27 1) x3_6 (T7, LT7, PC a true P) R15 K from hs _ (fun _ _ _ _ h1 h2 => ⟨h1, h2⟩)
  intro R15 hR150
  have hR15 := fun {zx1} {zx2} {zx3} {zS} => hR150 zx1 zx2 zx3 zS
  unfold b_Li_setLengths_15
  refine ⟨fun hc => ?_, fun hc => ?_⟩
  · have hq11 := hc
    have q12 : (0) ≤ (FS5_1 27 1).toInt ∧ (FS5_1 27 1).toInt ≤ (257) := (show B 0 257 (FS5_1 27 1) from hI2 27 1)
    have e13 : (T7 27 1).toInt = (FS5_1 27 1).toInt := (congrArg Int32.toInt (g10.1 27 1 rfl rfl)).trans rfl
    have q14 : (0) ≤ (x3_6).toInt ∧ (x3_6).toInt ≤ (257) := (show B 0 257 (x3_6) from B_w b8 (by decide +kernel) (by decide +kernel))
    have i15 : (T7 27 1).toInt ≤ (x3_6).toInt := i_le hq11
    refine ⟨fun yx1 yx2 yx3 yS => (33 : Nat) = yx1 ∧ B 0 513 yx2 ∧ B 1 16 yx3 ∧ ∃ (bT19 : Bool) (T19 : cF) (LT19 : cL), yS = (T19, LT19, PC a bT19 P) ∧ IMc T19 ∧ agc [] [29, 30, 31, 999] T7 T19, fun yx1 yx2 yx3 yS => (16 - yx3.toInt).toNat, ⟨rfl, (B_w (show B 0 257 (FS5_1 27 1) from hI2 27 1) (by decide +kernel) (by decide +kernel)), (B_w cqb_1_1_1 (by decide +kernel) (by decide +kernel)), _, _, _, rfl, hI9, (agc_refl (fs := []) (rs := [29, 30, 31, 999]) (F := T7))⟩, fun x1_16 x2_17 x3_18 ST19 hIv => ?_⟩
    obtain ⟨rfl, b20, b21, bT19, T19, LT19, rfl, hI22, g23⟩ := hIv
    suffices hs : ∀ (R48 : Nat → Int32 → Int32 → cs → Prop), (∀ zx1 zx2 zx3 zS, ((33 : Nat) = zx1 ∧ B 0 513 zx2 ∧ B 1 16 zx3 ∧ ∃ (bT19 : Bool) (T19 : cF) (LT19 : cL), zS = (T19, LT19, PC a bT19 P) ∧ IMc T19 ∧ agc [] [29, 30, 31, 999] T7 T19) → (16 - zx3.toInt).toNat < (16 - x3_18.toInt).toNat → R48 zx1 zx2 zx3 zS) → b_Li_setLengths_48 UL 27 33 x2_17 x3_18 (T19, LT19, PC a bT19 P) R48 K from hs _ (fun _ _ _ _ h1 h2 => ⟨h1, h2⟩)
    intro R48 hR480
    have hR48 := fun {zx1} {zx2} {zx3} {zS} => hR480 zx1 zx2 zx3 zS
    unfold b_Li_setLengths_48
    refine ⟨fun hc => ?_, fun hc => ?_⟩
    · have hq24 := hc
      have b25 : B 16 16 (x3_18) := B_w (B_leR cqb_16_16_16 b21 hq24) (by decide +kernel) (by decide +kernel)
      refine ⟨fun yx1 yx3 yx4 yS => (33 : Nat) = yx1 ∧ B (-2147483648) 2147483647 yx3 ∧ B (-1) 15 yx4 ∧ ∃ (T29 : cF) (LT29 : cL), yS = (T29, LT29, PC a bT19 P) ∧ IMc T29 ∧ agc [] [35, 999] T19 T29, fun yx1 yx3 yx4 yS => (yx4.toInt - (-1)).toNat, ⟨rfl, (B_w (B_sub (B_mul cqb_2_2_2 (B_eq ((g23.1 27 1 rfl rfl).trans (g10.1 27 1 rfl rfl)) (show B 0 257 (FS5_1 27 1) from hI2 27 1)) (by decide +kernel) (by decide +kernel) (by decide +kernel)) cqb_2_2_2 (by decide +kernel) (by decide +kernel)) (by decide +kernel) (by decide +kernel)), (B_w cqb_15_15_15 (by decide +kernel) (by decide +kernel)), _, _, rfl, hI22, (agc_refl (fs := []) (rs := [35, 999]) (F := T19))⟩, fun x1_26 x3_27 x4_28 ST29 hIv => ?_⟩
      obtain ⟨rfl, b30, b31, T29, LT29, rfl, hI32, g33⟩ := hIv
      suffices hs : ∀ (R86 : Nat → Int32 → Int32 → cs → Prop), (∀ zx1 zx3 zx4 zS, ((33 : Nat) = zx1 ∧ B (-2147483648) 2147483647 zx3 ∧ B (-1) 15 zx4 ∧ ∃ (T29 : cF) (LT29 : cL), zS = (T29, LT29, PC a bT19 P) ∧ IMc T29 ∧ agc [] [35, 999] T19 T29) → (zx4.toInt - (-1)).toNat < (x4_28.toInt - (-1)).toNat → R86 zx1 zx3 zx4 zS) → b_Li_setLengths_86 UL 27 33 x3_27 x4_28 (T29, LT29, PC a bT19 P) R86 K from hs _ (fun _ _ _ _ h1 h2 => ⟨h1, h2⟩)
      intro R86 hR860
      have hR86 := fun {zx1} {zx3} {zx4} {zS} => hR860 zx1 zx3 zx4 zS
      unfold b_Li_setLengths_86
      refine ⟨fun hc => ?_, fun hc => ?_⟩
      · have hq34 := hc
        have b35 : B (-1) (-1) (x4_28) := B_w (B_ltL b31 cqb_0_0_0 hq34) (by decide +kernel) (by decide +kernel)
        have g39 := agc_tr (agc_refl (fs := [2701]) (rs := [28, 29, 30, 31, 35, 999]) (F := F)) g3 (by decide +kernel) (by decide +kernel)
        have g38 := agc_tr g39 g10 (by decide +kernel) (by decide +kernel)
        have g37 := agc_tr g38 g23 (by decide +kernel) (by decide +kernel)
        have g36 := agc_tr g37 g33 (by decide +kernel) (by decide +kernel)
        exact hK hI32 g36
      · have hq40 := (nlt_le hc)
        have b41 : B 0 15 (x4_28) := B_w (B_leR cqb_0_0_0 b31 hq40) (by decide +kernel) (by decide +kernel)
        refine ⟨(show c_cl UL 33 = 5 from cl_33), ?_⟩
        refine ⟨(show ¬ ((35 : Nat) = NU) from by decide +kernel), ?_⟩
        refine h_Li_takeThings_u27_x335 b41 hI32 (fun {v100_42} {FS100_43} {LFS100_43} b44 hI45 g46 => ?_)
        have g48 := agc_tr (agc_refl (fs := []) (rs := [35, 999]) (F := T19)) g33 (by decide +kernel) (by decide +kernel)
        have g47 := agc_tr g48 g46 (by decide +kernel) (by decide +kernel)
        have q49 : (0) ≤ (x4_28).toInt ∧ (x4_28).toInt ≤ (15) := (show B 0 15 (x4_28) from B_w b41 (by decide +kernel) (by decide +kernel))
        have e50 : (x4_28 + (-1)).toInt = ((x4_28).toInt + (-1)) := (t_add b41 cqb_m1_m1_m1 (by decide +kernel) (by decide +kernel)).trans (by rw [cqn_m1])
        have q51 : (-1) ≤ (x4_28 + (-1)).toInt ∧ (x4_28 + (-1)).toInt ≤ (14) := (show B (-1) 14 (x4_28 + (-1)) from B_w (B_add b41 cqb_m1_m1_m1 (by decide +kernel) (by decide +kernel)) (by decide +kernel) (by decide +kernel))
        exact hR86 ⟨rfl, (B_w (B_mul cqb_2_2_2 b44 (by decide +kernel) (by decide +kernel) (by decide +kernel)) (by decide +kernel) (by decide +kernel)), (B_w (B_add b41 cqb_m1_m1_m1 (by decide +kernel) (by decide +kernel)) (by decide +kernel) (by decide +kernel)), _, _, rfl, hI45, g47⟩ (by show ((x4_28 + (-1)).toInt - (-1)).toNat < (x4_28.toInt - (-1)).toNat; revert e50 q51; generalize (x4_28 + (-1)).toInt = dd0; intros; omega)
    · have hq52 := (nle_lt hc)
      have b53 : B 1 15 (x3_18) := B_w (B_ltL b21 cqb_16_16_16 hq52) (by decide +kernel) (by decide +kernel)
      refine ⟨(show c_cl UL 33 = 5 from cl_33), ?_⟩
      refine ⟨(show ¬ ((34 : Nat) = NU) from by decide +kernel), ?_⟩
      refine h_Li_makeLine_u27_x334 b53 (B_w (show B 0 256 (x2_17 / 2) from B_div2 b20 cqb_2_2_2 (by decide +kernel) (by decide +kernel) (by decide +kernel) (by decide +kernel)) (by decide +kernel) (by decide +kernel)) hI22 (fun {v63_54} {bFS63_55} {FS63_55} {LFS63_55} b56 hI57 g58 => ?_)
      have g60 := agc_tr (agc_refl (fs := []) (rs := [29, 30, 31, 999]) (F := T7)) g23 (by decide +kernel) (by decide +kernel)
      have g59 := agc_tr g60 g58 (by decide +kernel) (by decide +kernel)
      have q61 : (1) ≤ (x3_18).toInt ∧ (x3_18).toInt ≤ (15) := (show B 1 15 (x3_18) from B_w b53 (by decide +kernel) (by decide +kernel))
      have e62 : (x3_18 + 1).toInt = ((x3_18).toInt + 1) := (t_add b53 cqb_1_1_1 (by decide +kernel) (by decide +kernel)).trans (by rw [cqn_1])
      have q63 : (2) ≤ (x3_18 + 1).toInt ∧ (x3_18 + 1).toInt ≤ (16) := (show B 2 16 (x3_18 + 1) from B_w (B_add b53 cqb_1_1_1 (by decide +kernel) (by decide +kernel)) (by decide +kernel) (by decide +kernel))
      exact hR48 ⟨rfl, b56, (B_w (B_add b53 cqb_1_1_1 (by decide +kernel) (by decide +kernel)) (by decide +kernel) (by decide +kernel)), _, _, _, rfl, hI57, g59⟩ (by show (16 - (x3_18 + 1).toInt).toNat < (16 - x3_18.toInt).toNat; omega)
  · have hq64 := (nle_lt hc)
    have b65 : B 0 256 (x3_6) := B_w (B_ltL b8 (B_eq (g10.1 27 1 rfl rfl) (show B 0 257 (FS5_1 27 1) from hI2 27 1)) hq64) (by decide +kernel) (by decide +kernel)
    have b66 : B 1 257 (FS5_1 27 1) := B_w (B_eq (Eq.symm (g10.1 27 1 rfl rfl)) (B_ltR b8 (B_eq (g10.1 27 1 rfl rfl) (show B 0 257 (FS5_1 27 1) from hI2 27 1)) hq64)) (by decide +kernel) (by decide +kernel)
    have q67 : (0) ≤ (x3_6).toInt ∧ (x3_6).toInt ≤ (256) := (show B 0 256 (x3_6) from B_w b65 (by decide +kernel) (by decide +kernel))
    have q68 : (1) ≤ (FS5_1 27 1).toInt ∧ (FS5_1 27 1).toInt ≤ (257) := (show B 1 257 (FS5_1 27 1) from B_w b66 (by decide +kernel) (by decide +kernel))
    have e69 : (T7 27 1).toInt = (FS5_1 27 1).toInt := (congrArg Int32.toInt (g10.1 27 1 rfl rfl)).trans rfl
    have i70 : (x3_6).toInt < (T7 27 1).toInt := i_lt hq64
    refine ⟨(show ¬ ((31 : Nat) = NU) from by decide +kernel), ?_⟩
    refine ⟨(show c_cl UL 33 = 5 from cl_33), ?_⟩
    refine ⟨(show ¬ ((34 : Nat) = NU) from by decide +kernel), ?_⟩
    refine ⟨(show ¬ ((28 : Nat) = NU) from by decide +kernel), ?_⟩
    refine ⟨(show c_cl UL 28 = 902 from cl_28), ?_⟩
    refine ⟨(show vp_in (x3_6) 257 from vp_B b65 (by decide +kernel) (by decide +kernel)), ?_⟩
    refine ⟨(show c_cl UL 34 = 902 from cl_34), ?_⟩
    refine ⟨(show vp_in (T7 28 x3_6.toNatClampNeg) 257 from vp_B (B_eq (congrFun (g10.2 28 rfl rfl) x3_6.toNatClampNeg) (show B 0 256 (FS5_1 28 x3_6.toNatClampNeg) from hI2 28 x3_6.toNatClampNeg)) (by decide +kernel) (by decide +kernel)), ?_⟩
    refine ⟨(show c_cl UL 31 = 902 from cl_31), ?_⟩
    refine ⟨(show vp_in (x3_6) 514 from vp_B b65 (by decide +kernel) (by decide +kernel)), ?_⟩
    have hI71 := IMc_u (u := 31) (i := x3_6.toNatClampNeg) (v := T7 34 (T7 28 x3_6.toNatClampNeg).toNatClampNeg) hI9 (show B (-2147483648) 2147483647 (T7 34 (T7 28 x3_6.toNatClampNeg).toNatClampNeg) from (B_w (B_eq ((congrFun (g10.2 34 rfl rfl) (T7 28 x3_6.toNatClampNeg).toNatClampNeg).trans (congrFun (g3.2 34 rfl rfl) (T7 28 x3_6.toNatClampNeg).toNatClampNeg)) (B_any _)) (by decide +kernel) (by decide +kernel)))
    have g73 := agc_tr (agc_refl (fs := []) (rs := [31]) (F := FS5_1)) g10 (by decide +kernel) (by decide +kernel)
    have g72 := agc_r (u := 31) (w := upd (T7 31) x3_6.toNatClampNeg (T7 34 (T7 28 x3_6.toNatClampNeg).toNatClampNeg)) g73 rfl (by decide +kernel)
    have e74 : (x3_6 + 1).toInt = ((x3_6).toInt + 1) := (t_add b65 cqb_1_1_1 (by decide +kernel) (by decide +kernel)).trans (by rw [cqn_1])
    have q75 : (1) ≤ (x3_6 + 1).toInt ∧ (x3_6 + 1).toInt ≤ (257) := (show B 1 257 (x3_6 + 1) from B_w (B_add b65 cqb_1_1_1 (by decide +kernel) (by decide +kernel)) (by decide +kernel) (by decide +kernel))
    exact hR15 ⟨rfl, rfl, (B_w (B_add b65 cqb_1_1_1 (by decide +kernel) (by decide +kernel)) (by decide +kernel) (by decide +kernel)), _, _, rfl, hI71, g72⟩ (by show (257 - (x3_6 + 1).toInt).toNat < (257 - x3_6.toInt).toNat; omega)
theorem h_Li_setLengths_u27_x133 {a : Bool} {b : Bool} {P : Nat → Nat → Nat} {F : cF} {L : cL} {K : cs → Prop} (hI : IMc F) (hK : ∀ {bZ : Bool} {Z : cF} {LZ : cL}, IMc Z → agc [2701] [28, 29, 30, 31, 35, 999] F Z → K (Z, LZ, PC a bZ P)) : p_Li_setLengths UL 27 33 (F, L, PC a b P) K := by
  cases b
  · exact h_Li_setLengths_u27_x133_b0 hI (fun hI g => hK hI (agc_tr agc_refl g (by decide +kernel) (by decide +kernel)))
  · exact h_Li_setLengths_u27_x133_b1 hI (fun hI g => hK hI (agc_tr agc_refl g (by decide +kernel) (by decide +kernel)))
set_option maxRecDepth 20000 in
set_option maxHeartbeats 4000000 in
theorem h_Li_sortSymbols_u27_x140 {a : Bool} {b : Bool} {P : Nat → Nat → Nat} {F : cF} {L : cL} {K : cs → Prop} (hI : IMc F) (hK : ∀ {Z : cF} {LZ : cL}, IMc Z → agc [2701] [28, 999] F Z → K (Z, LZ, PC a b P)) : p_Li_sortSymbols UL 27 40 (F, L, PC a b P) K := by
  unfold p_Li_sortSymbols
  have hI7 := IMc_u (u := 27) (i := 1) (v := 0) hI (show B 0 257 (0) from (B_w cqb_0_0_0 (by decide +kernel) (by decide +kernel)))
  refine ⟨fun yx1 yx2 yS => (40 : Nat) = yx1 ∧ B 0 257 yx2 ∧ ∃ (T3 : cF) (LT3 : cL), yS = (T3, LT3, PC a b P) ∧ IMc T3 ∧ agc [2701] [28, 999] (va_up F 27 (upd (F 27) 1 0)) T3 ∧ ((T3 27 1).toInt ≤ yx2.toInt), fun yx1 yx2 yS => (257 - yx2.toInt).toNat, ⟨rfl, (B_w cqb_0_0_0 (by decide +kernel) (by decide +kernel)), _, _, rfl, hI7, (agc_refl (fs := [2701]) (rs := [28, 999]) (F := va_up F 27 (upd (F 27) 1 0))), (by show (0 : Int) ≤ 0; first | with_reducible assumption | omega)⟩, fun x1_1 x2_2 ST3 hIv => ?_⟩
  obtain ⟨rfl, b4, T3, LT3, rfl, hI5, g6, r8⟩ := hIv
  suffices hs : ∀ (R7 : Nat → Int32 → cs → Prop), (∀ zx1 zx2 zS, ((40 : Nat) = zx1 ∧ B 0 257 zx2 ∧ ∃ (T3 : cF) (LT3 : cL), zS = (T3, LT3, PC a b P) ∧ IMc T3 ∧ agc [2701] [28, 999] (va_up F 27 (upd (F 27) 1 0)) T3 ∧ ((T3 27 1).toInt ≤ zx2.toInt)) → (257 - zx2.toInt).toNat < (257 - x2_2.toInt).toNat → R7 zx1 zx2 zS) → b_Li_sortSymbols_7 UL 27 40 x2_2 (T3, LT3, PC a b P) R7 K from hs _ (fun _ _ _ h1 h2 => ⟨h1, h2⟩)
  intro R7 hR70
  have hR7 := fun {zx1} {zx2} {zS} => hR70 zx1 zx2 zS
  have q9 : (0) ≤ (T3 27 1).toInt ∧ (T3 27 1).toInt ≤ (257) := (show B 0 257 (T3 27 1) from hI5 27 1)
  have q10 : (0) ≤ (x2_2).toInt ∧ (x2_2).toInt ≤ (257) := (show B 0 257 (x2_2) from B_w b4 (by decide +kernel) (by decide +kernel))
  unfold b_Li_sortSymbols_7
  refine ⟨fun hc => ?_, fun hc => ?_⟩
  · have hq11 := hc
    have b12 : B 257 257 (x2_2) := B_w (B_leR cqb_257_257_257 b4 hq11) (by decide +kernel) (by decide +kernel)
    have q13 : (257) ≤ (x2_2).toInt ∧ (x2_2).toInt ≤ (257) := (show B 257 257 (x2_2) from B_w b12 (by decide +kernel) (by decide +kernel))
    have g15 := agc_f (u := 27) (k := 1) (v := 0) (agc_refl (fs := [2701]) (rs := [28, 999]) (F := F)) rfl (by decide +kernel)
    have g14 := agc_tr g15 g6 (by decide +kernel) (by decide +kernel)
    exact hK hI5 g14
  · have hq16 := (nle_lt hc)
    have b17 : B 0 256 (x2_2) := B_w (B_ltL b4 cqb_257_257_257 hq16) (by decide +kernel) (by decide +kernel)
    have q18 : (0) ≤ (x2_2).toInt ∧ (x2_2).toInt ≤ (256) := (show B 0 256 (x2_2) from B_w b17 (by decide +kernel) (by decide +kernel))
    refine ⟨(show c_cl UL 40 = 902 from cl_40), ?_⟩
    refine ⟨(show vp_in (x2_2) 257 from vp_B b17 (by decide +kernel) (by decide +kernel)), ?_⟩
    have hj19 : ((T3 27 1).toInt ≤ x2_2.toInt) → b_Li_sortSymbols_27 UL 27 40 x2_2 (T3, LT3, PC a b P) R7 K := by
      intro r20
      unfold b_Li_sortSymbols_27
      refine ⟨fun yx1 yx2 yx3 yS => (40 : Nat) = yx1 ∧ x2_2 = yx2 ∧ B 0 256 yx3 ∧ ∃ (T24 : cF) (LT24 : cL), yS = (T24, LT24, PC a b P) ∧ IMc T24 ∧ agc [] [28] T3 T24, fun yx1 yx2 yx3 yS => (yx3.toInt - 0).toNat, ⟨rfl, rfl, (show B 0 256 (T3 27 1) from ⟨by omega, by omega⟩), _, _, rfl, hI5, (agc_refl (fs := []) (rs := [28]) (F := T3))⟩, fun x1_21 x2_22 x3_23 ST24 hIv => ?_⟩
      obtain ⟨rfl, rfl, b25, T24, LT24, rfl, hI26, g27⟩ := hIv
      suffices hs : ∀ (R32 : Nat → Int32 → Int32 → cs → Prop), (∀ zx1 zx2 zx3 zS, ((40 : Nat) = zx1 ∧ x2_2 = zx2 ∧ B 0 256 zx3 ∧ ∃ (T24 : cF) (LT24 : cL), zS = (T24, LT24, PC a b P) ∧ IMc T24 ∧ agc [] [28] T3 T24) → (zx3.toInt - 0).toNat < (x3_23.toInt - 0).toNat → R32 zx1 zx2 zx3 zS) → b_Li_sortSymbols_32 UL 27 40 x2_2 x3_23 (T24, LT24, PC a b P) R7 R32 K from hs _ (fun _ _ _ _ h1 h2 => ⟨h1, h2⟩)
      intro R32 hR320
      have hR32 := fun {zx1} {zx2} {zx3} {zS} => hR320 zx1 zx2 zx3 zS
      unfold b_Li_sortSymbols_32
      refine ⟨fun hc => ?_, fun hc => ?_⟩
      · have hq28 := hc
        have b29 : B 0 0 (x3_23) := B_w (B_leL b25 cqb_0_0_0 hq28) (by decide +kernel) (by decide +kernel)
        unfold b_Li_sortSymbols_72
        refine ⟨(show ¬ ((28 : Nat) = NU) from by decide +kernel), ?_⟩
        refine ⟨(show c_cl UL 28 = 902 from cl_28), ?_⟩
        refine ⟨(show vp_in (x3_23) 257 from vp_B b29 (by decide +kernel) (by decide +kernel)), ?_⟩
        unfold b_Li_sortSymbols_89
        have hI30 := IMc_u (u := 28) (i := x3_23.toNatClampNeg) (v := x2_2) hI26 (show B 0 256 (x2_2) from (B_w b17 (by decide +kernel) (by decide +kernel)))
        have e31 : (T24 27 1).toInt = (T3 27 1).toInt := (congrArg Int32.toInt (g27.1 27 1 rfl rfl)).trans rfl
        have e32 : ((T24 27 1) + 1).toInt = ((T3 27 1).toInt + 1) := (t_add (B_eq (g27.1 27 1 rfl rfl) (show B 0 257 (T3 27 1) from hI5 27 1)) cqb_1_1_1 (by decide +kernel) (by decide +kernel)).trans (by rw [e31, cqn_1])
        have q33 : (1) ≤ ((T24 27 1) + 1).toInt ∧ ((T24 27 1) + 1).toInt ≤ (258) := (show B 1 258 ((T24 27 1) + 1) from B_w (B_add (B_eq (g27.1 27 1 rfl rfl) (show B 0 257 (T3 27 1) from hI5 27 1)) cqb_1_1_1 (by decide +kernel) (by decide +kernel)) (by decide +kernel) (by decide +kernel))
        have hI34 := IMc_u (u := 27) (i := 1) (v := (T24 27 1) + 1) hI30 (show B 0 257 ((T24 27 1) + 1) from (show B 0 257 ((T24 27 1) + 1) from ⟨by omega, by omega⟩))
        have g38 := agc_tr (agc_refl (fs := [2701]) (rs := [28, 999]) (F := va_up F 27 (upd (F 27) 1 0))) g6 (by decide +kernel) (by decide +kernel)
        have g37 := agc_tr g38 g27 (by decide +kernel) (by decide +kernel)
        have g36 := agc_r (u := 28) (w := upd (T24 28) x3_23.toNatClampNeg x2_2) g37 rfl (by decide +kernel)
        have g35 := agc_f (u := 27) (k := 1) (v := (T24 27 1) + 1) g36 rfl (by decide +kernel)
        have e39 : (x2_2 + 1).toInt = ((x2_2).toInt + 1) := (t_add b17 cqb_1_1_1 (by decide +kernel) (by decide +kernel)).trans (by rw [cqn_1])
        have q40 : (1) ≤ (x2_2 + 1).toInt ∧ (x2_2 + 1).toInt ≤ (257) := (show B 1 257 (x2_2 + 1) from B_w (B_add b17 cqb_1_1_1 (by decide +kernel) (by decide +kernel)) (by decide +kernel) (by decide +kernel))
        exact hR7 ⟨rfl, (B_w (B_add b17 cqb_1_1_1 (by decide +kernel) (by decide +kernel)) (by decide +kernel) (by decide +kernel)), _, _, rfl, hI34, g35, (by show ((T24 27 1) + 1).toInt ≤ (x2_2 + 1).toInt; first | with_reducible assumption | omega)⟩ (by show (257 - (x2_2 + 1).toInt).toNat < (257 - x2_2.toInt).toNat; omega)
      · have hq41 := (nle_lt hc)
        have b42 : B 1 256 (x3_23) := B_w (B_ltR cqb_0_0_0 b25 hq41) (by decide +kernel) (by decide +kernel)
        refine ⟨(show ¬ ((28 : Nat) = NU) from by decide +kernel), ?_⟩
        refine ⟨(show c_cl UL 28 = 902 from cl_28), ?_⟩
        refine ⟨(show vp_in (x3_23 - 1) 257 from vp_B (B_sub b42 cqb_1_1_1 (by decide +kernel) (by decide +kernel)) (by decide +kernel) (by decide +kernel)), ?_⟩
        refine ⟨(show c_cl UL 40 = 902 from cl_40), ?_⟩
        refine ⟨(show vp_in (T24 28 (x3_23 - 1).toNatClampNeg) 257 from vp_B (show B 0 256 (T24 28 (x3_23 - 1).toNatClampNeg) from hI26 28 (x3_23 - 1).toNatClampNeg) (by decide +kernel) (by decide +kernel)), ?_⟩
        refine ⟨(show vp_in (x2_2) 257 from vp_B b17 (by decide +kernel) (by decide +kernel)), ?_⟩
        refine ⟨fun hc => ?_, fun hc => ?_⟩
        · have hq43 := hc
          have e44 : (T24 40 (T24 28 (x3_23 - 1).toNatClampNeg).toNatClampNeg).toInt = (F 40 (T24 28 (x3_23 - 1).toNatClampNeg).toNatClampNeg).toInt := (congrArg Int32.toInt ((congrFun (g27.2 40 rfl rfl) (T24 28 (x3_23 - 1).toNatClampNeg).toNatClampNeg).trans (congrFun (g6.2 40 rfl rfl) (T24 28 (x3_23 - 1).toNatClampNeg).toNatClampNeg))).trans rfl
          have e45 : (T24 40 x2_2.toNatClampNeg).toInt = (F 40 x2_2.toNatClampNeg).toInt := (congrArg Int32.toInt ((congrFun (g27.2 40 rfl rfl) x2_2.toNatClampNeg).trans (congrFun (g6.2 40 rfl rfl) x2_2.toNatClampNeg))).trans rfl
          have i46 : (T24 40 (T24 28 (x3_23 - 1).toNatClampNeg).toNatClampNeg).toInt ≤ (T24 40 x2_2.toNatClampNeg).toInt := i_le hq43
          unfold b_Li_sortSymbols_72
          refine ⟨(show ¬ ((28 : Nat) = NU) from by decide +kernel), ?_⟩
          refine ⟨(show c_cl UL 28 = 902 from cl_28), ?_⟩
          refine ⟨(show vp_in (x3_23) 257 from vp_B b42 (by decide +kernel) (by decide +kernel)), ?_⟩
          unfold b_Li_sortSymbols_89
          have hI47 := IMc_u (u := 28) (i := x3_23.toNatClampNeg) (v := x2_2) hI26 (show B 0 256 (x2_2) from (B_w b17 (by decide +kernel) (by decide +kernel)))
          have e48 : (T24 27 1).toInt = (T3 27 1).toInt := (congrArg Int32.toInt (g27.1 27 1 rfl rfl)).trans rfl
          have e49 : ((T24 27 1) + 1).toInt = ((T3 27 1).toInt + 1) := (t_add (B_eq (g27.1 27 1 rfl rfl) (show B 0 257 (T3 27 1) from hI5 27 1)) cqb_1_1_1 (by decide +kernel) (by decide +kernel)).trans (by rw [e48, cqn_1])
          have q50 : (1) ≤ ((T24 27 1) + 1).toInt ∧ ((T24 27 1) + 1).toInt ≤ (258) := (show B 1 258 ((T24 27 1) + 1) from B_w (B_add (B_eq (g27.1 27 1 rfl rfl) (show B 0 257 (T3 27 1) from hI5 27 1)) cqb_1_1_1 (by decide +kernel) (by decide +kernel)) (by decide +kernel) (by decide +kernel))
          have hI51 := IMc_u (u := 27) (i := 1) (v := (T24 27 1) + 1) hI47 (show B 0 257 ((T24 27 1) + 1) from (show B 0 257 ((T24 27 1) + 1) from ⟨by omega, by omega⟩))
          have g55 := agc_tr (agc_refl (fs := [2701]) (rs := [28, 999]) (F := va_up F 27 (upd (F 27) 1 0))) g6 (by decide +kernel) (by decide +kernel)
          have g54 := agc_tr g55 g27 (by decide +kernel) (by decide +kernel)
          have g53 := agc_r (u := 28) (w := upd (T24 28) x3_23.toNatClampNeg x2_2) g54 rfl (by decide +kernel)
          have g52 := agc_f (u := 27) (k := 1) (v := (T24 27 1) + 1) g53 rfl (by decide +kernel)
          have e56 : (x2_2 + 1).toInt = ((x2_2).toInt + 1) := (t_add b17 cqb_1_1_1 (by decide +kernel) (by decide +kernel)).trans (by rw [cqn_1])
          have q57 : (1) ≤ (x2_2 + 1).toInt ∧ (x2_2 + 1).toInt ≤ (257) := (show B 1 257 (x2_2 + 1) from B_w (B_add b17 cqb_1_1_1 (by decide +kernel) (by decide +kernel)) (by decide +kernel) (by decide +kernel))
          exact hR7 ⟨rfl, (B_w (B_add b17 cqb_1_1_1 (by decide +kernel) (by decide +kernel)) (by decide +kernel) (by decide +kernel)), _, _, rfl, hI51, g52, (by show ((T24 27 1) + 1).toInt ≤ (x2_2 + 1).toInt; first | with_reducible assumption | omega)⟩ (by show (257 - (x2_2 + 1).toInt).toNat < (257 - x2_2.toInt).toNat; omega)
        · have hq58 := (nle_lt hc)
          have b59 : B (-2147483648) 2147483646 (F 40 x2_2.toNatClampNeg) := B_w (B_eq (Eq.symm ((congrFun (g27.2 40 rfl rfl) x2_2.toNatClampNeg).trans (congrFun (g6.2 40 rfl rfl) x2_2.toNatClampNeg))) (B_ltL (B_eq ((congrFun (g27.2 40 rfl rfl) x2_2.toNatClampNeg).trans (congrFun (g6.2 40 rfl rfl) x2_2.toNatClampNeg)) (B_any _)) (B_eq ((congrFun (g27.2 40 rfl rfl) (T24 28 (x3_23 - 1).toNatClampNeg).toNatClampNeg).trans (congrFun (g6.2 40 rfl rfl) (T24 28 (x3_23 - 1).toNatClampNeg).toNatClampNeg)) (B_any _)) hq58)) (by decide +kernel) (by decide +kernel)
          have b60 : B (-2147483647) 2147483647 (F 40 (T24 28 (x3_23 - 1).toNatClampNeg).toNatClampNeg) := B_w (B_eq (Eq.symm ((congrFun (g27.2 40 rfl rfl) (T24 28 (x3_23 - 1).toNatClampNeg).toNatClampNeg).trans (congrFun (g6.2 40 rfl rfl) (T24 28 (x3_23 - 1).toNatClampNeg).toNatClampNeg))) (B_ltR (B_eq ((congrFun (g27.2 40 rfl rfl) x2_2.toNatClampNeg).trans (congrFun (g6.2 40 rfl rfl) x2_2.toNatClampNeg)) (B_any _)) (B_eq ((congrFun (g27.2 40 rfl rfl) (T24 28 (x3_23 - 1).toNatClampNeg).toNatClampNeg).trans (congrFun (g6.2 40 rfl rfl) (T24 28 (x3_23 - 1).toNatClampNeg).toNatClampNeg)) (B_any _)) hq58)) (by decide +kernel) (by decide +kernel)
          have q61 : (-2147483648) ≤ (F 40 x2_2.toNatClampNeg).toInt ∧ (F 40 x2_2.toNatClampNeg).toInt ≤ (2147483646) := (show B (-2147483648) 2147483646 (F 40 x2_2.toNatClampNeg) from B_w b59 (by decide +kernel) (by decide +kernel))
          have e62 : (T24 40 x2_2.toNatClampNeg).toInt = (F 40 x2_2.toNatClampNeg).toInt := (congrArg Int32.toInt ((congrFun (g27.2 40 rfl rfl) x2_2.toNatClampNeg).trans (congrFun (g6.2 40 rfl rfl) x2_2.toNatClampNeg))).trans rfl
          have q63 : (-2147483647) ≤ (F 40 (T24 28 (x3_23 - 1).toNatClampNeg).toNatClampNeg).toInt ∧ (F 40 (T24 28 (x3_23 - 1).toNatClampNeg).toNatClampNeg).toInt ≤ (2147483647) := (show B (-2147483647) 2147483647 (F 40 (T24 28 (x3_23 - 1).toNatClampNeg).toNatClampNeg) from B_w b60 (by decide +kernel) (by decide +kernel))
          have e64 : (T24 40 (T24 28 (x3_23 - 1).toNatClampNeg).toNatClampNeg).toInt = (F 40 (T24 28 (x3_23 - 1).toNatClampNeg).toNatClampNeg).toInt := (congrArg Int32.toInt ((congrFun (g27.2 40 rfl rfl) (T24 28 (x3_23 - 1).toNatClampNeg).toNatClampNeg).trans (congrFun (g6.2 40 rfl rfl) (T24 28 (x3_23 - 1).toNatClampNeg).toNatClampNeg))).trans rfl
          have i65 : (T24 40 x2_2.toNatClampNeg).toInt < (T24 40 (T24 28 (x3_23 - 1).toNatClampNeg).toNatClampNeg).toInt := i_lt hq58
          refine ⟨(show ¬ ((28 : Nat) = NU) from by decide +kernel), ?_⟩
          refine ⟨(show ¬ ((28 : Nat) = NU) from by decide +kernel), ?_⟩
          refine ⟨(show vp_in (x3_23 - 1) 257 from vp_B (B_sub b42 cqb_1_1_1 (by decide +kernel) (by decide +kernel)) (by decide +kernel) (by decide +kernel)), ?_⟩
          refine ⟨(show vp_in (x3_23) 257 from vp_B b42 (by decide +kernel) (by decide +kernel)), ?_⟩
          have hI66 := IMc_u (u := 28) (i := x3_23.toNatClampNeg) (v := T24 28 (x3_23 - 1).toNatClampNeg) hI26 (show B 0 256 (T24 28 (x3_23 - 1).toNatClampNeg) from (B_w (show B 0 256 (T24 28 (x3_23 - 1).toNatClampNeg) from hI26 28 (x3_23 - 1).toNatClampNeg) (by decide +kernel) (by decide +kernel)))
          have g68 := agc_tr (agc_refl (fs := []) (rs := [28]) (F := T3)) g27 (by decide +kernel) (by decide +kernel)
          have g67 := agc_r (u := 28) (w := upd (T24 28) x3_23.toNatClampNeg (T24 28 (x3_23 - 1).toNatClampNeg)) g68 rfl (by decide +kernel)
          have q69 : (1) ≤ (x3_23).toInt ∧ (x3_23).toInt ≤ (256) := (show B 1 256 (x3_23) from B_w b42 (by decide +kernel) (by decide +kernel))
          have e70 : (x3_23 + (-1)).toInt = ((x3_23).toInt + (-1)) := (t_add b42 cqb_m1_m1_m1 (by decide +kernel) (by decide +kernel)).trans (by rw [cqn_m1])
          have q71 : (0) ≤ (x3_23 + (-1)).toInt ∧ (x3_23 + (-1)).toInt ≤ (255) := (show B 0 255 (x3_23 + (-1)) from B_w (B_add b42 cqb_m1_m1_m1 (by decide +kernel) (by decide +kernel)) (by decide +kernel) (by decide +kernel))
          exact hR32 ⟨rfl, rfl, (B_w (B_add b42 cqb_m1_m1_m1 (by decide +kernel) (by decide +kernel)) (by decide +kernel) (by decide +kernel)), _, _, rfl, hI66, g67⟩ (by show ((x3_23 + (-1)).toInt - 0).toNat < (x3_23.toInt - 0).toNat; revert e70 q71; generalize (x3_23 + (-1)).toInt = dd0; intros; omega)
    refine ⟨fun hc => ?_, fun hc => ?_⟩
    · have hq72 := hc
      have b73 : B 1 2147483647 (F 40 x2_2.toNatClampNeg) := B_w (B_eq (Eq.symm (congrFun (g6.2 40 rfl rfl) x2_2.toNatClampNeg)) (B_ltR cqb_0_0_0 (B_eq (congrFun (g6.2 40 rfl rfl) x2_2.toNatClampNeg) (B_any _)) hq72)) (by decide +kernel) (by decide +kernel)
      exact hj19 (by show (T3 27 1).toInt ≤ x2_2.toInt; first | with_reducible assumption | omega)
    · have hq74 := (nlt_le hc)
      have b75 : B (-2147483648) 0 (F 40 x2_2.toNatClampNeg) := B_w (B_eq (Eq.symm (congrFun (g6.2 40 rfl rfl) x2_2.toNatClampNeg)) (B_leL (B_eq (congrFun (g6.2 40 rfl rfl) x2_2.toNatClampNeg) (B_any _)) cqb_0_0_0 hq74)) (by decide +kernel) (by decide +kernel)
      refine ⟨fun hc => ?_, fun hc => ?_⟩
      · have i76 : (x2_2).toInt ≠ (256 : Int32).toInt := i_ne hc
        have n77 : (256 : Int32).toInt = 256 := cqn_256
        unfold b_Li_sortSymbols_89
        have g78 := agc_tr (agc_refl (fs := [2701]) (rs := [28, 999]) (F := va_up F 27 (upd (F 27) 1 0))) g6 (by decide +kernel) (by decide +kernel)
        have e79 : (x2_2 + 1).toInt = ((x2_2).toInt + 1) := (t_add b17 cqb_1_1_1 (by decide +kernel) (by decide +kernel)).trans (by rw [cqn_1])
        have q80 : (1) ≤ (x2_2 + 1).toInt ∧ (x2_2 + 1).toInt ≤ (257) := (show B 1 257 (x2_2 + 1) from B_w (B_add b17 cqb_1_1_1 (by decide +kernel) (by decide +kernel)) (by decide +kernel) (by decide +kernel))
        exact hR7 ⟨rfl, (B_w (B_add b17 cqb_1_1_1 (by decide +kernel) (by decide +kernel)) (by decide +kernel) (by decide +kernel)), _, _, rfl, hI5, g78, (by show (T3 27 1).toInt ≤ (x2_2 + 1).toInt; first | with_reducible assumption | omega)⟩ (by show (257 - (x2_2 + 1).toInt).toNat < (257 - x2_2.toInt).toNat; omega)
      · have b81 : B 256 256 (x2_2) := B_w (B_eq hc cqb_256_256_256) (by decide +kernel) (by decide +kernel)
        have q82 : (256) ≤ (x2_2).toInt ∧ (x2_2).toInt ≤ (256) := (show B 256 256 (x2_2) from B_w b81 (by decide +kernel) (by decide +kernel))
        have i83 : (x2_2).toInt = (256 : Int32).toInt := congrArg Int32.toInt hc
        have n84 : (256 : Int32).toInt = 256 := cqn_256
        exact hj19 (by show (T3 27 1).toInt ≤ x2_2.toInt; first | with_reducible assumption | omega)
set_option maxRecDepth 20000 in
set_option maxHeartbeats 4000000 in
theorem h_Li_takeThings_u27_x341 {a : Bool} {b : Bool} {P : Nat → Nat → Nat} {x1 : Int32} {x2 : Int32} {F : cF} {L : cL} {K : Int32 → cs → Prop} (b_x1 : B 0 15 x1) (hI : IMc F) (hK : ∀ {v : Int32} {Z : cF} {LZ : cL}, B 0 514 v → IMc Z → agc [] [41] F Z → K v (Z, LZ, PC a b P)) : p_Li_takeThings UL 27 x1 x2 41 (F, L, PC a b P) K := by
  unfold p_Li_takeThings
  refine ⟨fun yx1 yx2 yx3 yx4 yx5 yS => x1 = yx1 ∧ x2 = yx2 ∧ (41 : Nat) = yx3 ∧ B 0 514 yx4 ∧ B 0 514 yx5 ∧ ∃ (T6 : cF) (LT6 : cL), yS = (T6, LT6, PC a b P) ∧ IMc T6 ∧ agc [] [41] F T6 ∧ (yx4.toInt ≤ yx5.toInt), fun yx1 yx2 yx3 yx4 yx5 yS => (514 - yx5.toInt).toNat, ⟨rfl, rfl, rfl, (B_w cqb_0_0_0 (by decide +kernel) (by decide +kernel)), (B_w cqb_0_0_0 (by decide +kernel) (by decide +kernel)), _, _, rfl, hI, (agc_refl (fs := []) (rs := [41]) (F := F)), (by show (0 : Int) ≤ 0; first | with_reducible assumption | omega)⟩, fun x1_1 x2_2 x3_3 x4_4 x5_5 ST6 hIv => ?_⟩
  obtain ⟨rfl, rfl, rfl, b7, b8, T6, LT6, rfl, hI9, g10, r11⟩ := hIv
  suffices hs : ∀ (R6 : Int32 → Int32 → Nat → Int32 → Int32 → cs → Prop), (∀ zx1 zx2 zx3 zx4 zx5 zS, (x1 = zx1 ∧ x2 = zx2 ∧ (41 : Nat) = zx3 ∧ B 0 514 zx4 ∧ B 0 514 zx5 ∧ ∃ (T6 : cF) (LT6 : cL), zS = (T6, LT6, PC a b P) ∧ IMc T6 ∧ agc [] [41] F T6 ∧ (zx4.toInt ≤ zx5.toInt)) → (514 - zx5.toInt).toNat < (514 - x5_5.toInt).toNat → R6 zx1 zx2 zx3 zx4 zx5 zS) → b_Li_takeThings_6 UL 27 x1 x2 41 x4_4 x5_5 (T6, LT6, PC a b P) R6 K from hs _ (fun _ _ _ _ _ _ h1 h2 => ⟨h1, h2⟩)
  intro R6 hR60
  have hR6 := fun {zx1} {zx2} {zx3} {zx4} {zx5} {zS} => hR60 zx1 zx2 zx3 zx4 zx5 zS
  have q12 : (0) ≤ (x4_4).toInt ∧ (x4_4).toInt ≤ (514) := (show B 0 514 (x4_4) from B_w b7 (by decide +kernel) (by decide +kernel))
  have q13 : (0) ≤ (x5_5).toInt ∧ (x5_5).toInt ≤ (514) := (show B 0 514 (x5_5) from B_w b8 (by decide +kernel) (by decide +kernel))
  unfold b_Li_takeThings_6
  refine ⟨fun hc => ?_, fun hc => ?_⟩
  · have hq14 := hc
    have b15 : B (-2147483648) 514 (x2) := B_w (B_leL (B_any _) b8 hq14) (by decide +kernel) (by decide +kernel)
    have q16 : (-2147483648) ≤ (x2).toInt ∧ (x2).toInt ≤ (514) := (show B (-2147483648) 514 (x2) from B_w b15 (by decide +kernel) (by decide +kernel))
    have i17 : (x2).toInt ≤ (x5_5).toInt := i_le hq14
    unfold b_Li_takeThings_76
    have g18 := agc_tr (agc_refl (fs := []) (rs := [41]) (F := F)) g10 (by decide +kernel) (by decide +kernel)
    exact hK b7 hI9 g18
  · have hq19 := (nle_lt hc)
    have b20 : B 1 2147483647 (x2) := B_w (B_ltR b8 (B_any _) hq19) (by decide +kernel) (by decide +kernel)
    have q21 : (1) ≤ (x2).toInt ∧ (x2).toInt ≤ (2147483647) := (show B 1 2147483647 (x2) from B_w b20 (by decide +kernel) (by decide +kernel))
    have i22 : (x5_5).toInt < (x2).toInt := i_lt hq19
    refine ⟨fun hc => ?_, fun hc => ?_⟩
    · have hq23 := hc
      have b24 : B 514 514 (x5_5) := B_w (B_leR cqb_514_514_514 b8 hq23) (by decide +kernel) (by decide +kernel)
      have q25 : (514) ≤ (x5_5).toInt ∧ (x5_5).toInt ≤ (514) := (show B 514 514 (x5_5) from B_w b24 (by decide +kernel) (by decide +kernel))
      unfold b_Li_takeThings_76
      have g26 := agc_tr (agc_refl (fs := []) (rs := [41]) (F := F)) g10 (by decide +kernel) (by decide +kernel)
      exact hK b7 hI9 g26
    · have hq27 := (nle_lt hc)
      have b28 : B 0 513 (x5_5) := B_w (B_ltL b8 cqb_514_514_514 hq27) (by decide +kernel) (by decide +kernel)
      have q29 : (0) ≤ (x5_5).toInt ∧ (x5_5).toInt ≤ (513) := (show B 0 513 (x5_5) from B_w b28 (by decide +kernel) (by decide +kernel))
      refine ⟨(show ¬ ((29 : Nat) = NU) from by decide +kernel), ?_⟩
      refine ⟨(show c_cl UL 29 = 903 from cl_29), ?_⟩
      refine ⟨(show vp_in ((514 * x1) + x5_5) 8224 from vp_B (B_add (B_mul cqb_514_514_514 b_x1 (by decide +kernel) (by decide +kernel) (by decide +kernel)) b28 (by decide +kernel) (by decide +kernel)) (by decide +kernel) (by decide +kernel)), ?_⟩
      refine ⟨fun hc => ?_, fun hc => ?_⟩
      · have b30 : B 0 0 (F 29 ((514 * x1) + x5_5).toNatClampNeg) := B_w (B_eq (Eq.symm (congrFun (g10.2 29 rfl rfl) ((514 * x1) + x5_5).toNatClampNeg)) (B_eq hc cqb_0_0_0)) (by decide +kernel) (by decide +kernel)
        have q31 : (0) ≤ (F 29 ((514 * x1) + x5_5).toNatClampNeg).toInt ∧ (F 29 ((514 * x1) + x5_5).toNatClampNeg).toInt ≤ (0) := (show B 0 0 (F 29 ((514 * x1) + x5_5).toNatClampNeg) from B_w b30 (by decide +kernel) (by decide +kernel))
        have e32 : (T6 29 ((514 * x1) + x5_5).toNatClampNeg).toInt = (F 29 ((514 * x1) + x5_5).toNatClampNeg).toInt := (congrArg Int32.toInt (congrFun (g10.2 29 rfl rfl) ((514 * x1) + x5_5).toNatClampNeg)).trans rfl
        have i33 : (T6 29 ((514 * x1) + x5_5).toNatClampNeg).toInt = (0 : Int32).toInt := congrArg Int32.toInt hc
        have n34 : (0 : Int32).toInt = 0 := cqn_0
        refine ⟨fun hc => ?_, fun hc => ?_⟩
        · have hq35 := hc
          have b36 : B 0 513 (x5_5 - x4_4) := B_w (B_leR (B_eq (g10.1 27 1 rfl rfl) (show B 0 257 (F 27 1) from hI 27 1)) (B_sub b28 b7 (by decide +kernel) (by decide +kernel)) hq35) (by decide +kernel) (by decide +kernel)
          have q37 : (0) ≤ (F 27 1).toInt ∧ (F 27 1).toInt ≤ (257) := (show B 0 257 (F 27 1) from hI 27 1)
          have e38 : (T6 27 1).toInt = (F 27 1).toInt := (congrArg Int32.toInt (g10.1 27 1 rfl rfl)).trans rfl
          have e39 : (x5_5 - x4_4).toInt = ((x5_5).toInt - (x4_4).toInt) := (t_sub b28 b7 (by decide +kernel) (by decide +kernel)).trans (by rfl)
          have q40 : (0) ≤ (x5_5 - x4_4).toInt ∧ (x5_5 - x4_4).toInt ≤ (513) := (show B 0 513 (x5_5 - x4_4) from B_w b36 (by decide +kernel) (by decide +kernel))
          have i41 : (T6 27 1).toInt ≤ (x5_5 - x4_4).toInt := i_le hq35
          unfold b_Li_takeThings_70
          have g42 := agc_tr (agc_refl (fs := []) (rs := [41]) (F := F)) g10 (by decide +kernel) (by decide +kernel)
          have e43 : (x5_5 + 1).toInt = ((x5_5).toInt + 1) := (t_add b28 cqb_1_1_1 (by decide +kernel) (by decide +kernel)).trans (by rw [cqn_1])
          have q44 : (1) ≤ (x5_5 + 1).toInt ∧ (x5_5 + 1).toInt ≤ (514) := (show B 1 514 (x5_5 + 1) from B_w (B_add b28 cqb_1_1_1 (by decide +kernel) (by decide +kernel)) (by decide +kernel) (by decide +kernel))
          exact hR6 ⟨rfl, rfl, rfl, b7, (B_w (B_add b28 cqb_1_1_1 (by decide +kernel) (by decide +kernel)) (by decide +kernel) (by decide +kernel)), _, _, rfl, hI9, g42, (by show x4_4.toInt ≤ (x5_5 + 1).toInt; first | with_reducible assumption | omega)⟩ (by show (514 - (x5_5 + 1).toInt).toNat < (514 - x5_5.toInt).toNat; omega)
        · have hq45 := (nle_lt hc)
          have b46 : B (-514) 256 (x5_5 - x4_4) := B_w (B_ltL (B_sub b28 b7 (by decide +kernel) (by decide +kernel)) (B_eq (g10.1 27 1 rfl rfl) (show B 0 257 (F 27 1) from hI 27 1)) hq45) (by decide +kernel) (by decide +kernel)
          have e47 : (x5_5 - x4_4).toInt = ((x5_5).toInt - (x4_4).toInt) := (t_sub b28 b7 (by decide +kernel) (by decide +kernel)).trans (by rfl)
          have q48 : (-514) ≤ (x5_5 - x4_4).toInt ∧ (x5_5 - x4_4).toInt ≤ (256) := (show B (-514) 256 (x5_5 - x4_4) from B_w b46 (by decide +kernel) (by decide +kernel))
          have q49 : (0) ≤ (F 27 1).toInt ∧ (F 27 1).toInt ≤ (257) := (show B 0 257 (F 27 1) from hI 27 1)
          have e50 : (T6 27 1).toInt = (F 27 1).toInt := (congrArg Int32.toInt (g10.1 27 1 rfl rfl)).trans rfl
          have i51 : (x5_5 - x4_4).toInt < (T6 27 1).toInt := i_lt hq45
          refine ⟨(show ¬ ((28 : Nat) = NU) from by decide +kernel), ?_⟩
          refine ⟨(show c_cl UL 28 = 902 from cl_28), ?_⟩
          refine ⟨(show vp_in (x5_5 - x4_4) 257 from vp_om (x := x5_5 - x4_4) (by omega) (by omega)), ?_⟩
          have b52 : B 0 256 (x5_5 - x4_4) := ⟨by omega, by omega⟩
          refine ⟨(show c_cl UL 41 = 902 from cl_41), ?_⟩
          refine ⟨(show vp_in (T6 28 (x5_5 - x4_4).toNatClampNeg) 257 from vp_B (B_eq (congrFun (g10.2 28 rfl rfl) (x5_5 - x4_4).toNatClampNeg) (show B 0 256 (F 28 (x5_5 - x4_4).toNatClampNeg) from hI 28 (x5_5 - x4_4).toNatClampNeg)) (by decide +kernel) (by decide +kernel)), ?_⟩
          refine ⟨(show vp_in (T6 28 (x5_5 - x4_4).toNatClampNeg) 257 from vp_B (B_eq (congrFun (g10.2 28 rfl rfl) (x5_5 - x4_4).toNatClampNeg) (show B 0 256 (F 28 (x5_5 - x4_4).toNatClampNeg) from hI 28 (x5_5 - x4_4).toNatClampNeg)) (by decide +kernel) (by decide +kernel)), ?_⟩
          unfold b_Li_takeThings_70
          have hI53 := IMc_u (u := 41) (i := (T6 28 (x5_5 - x4_4).toNatClampNeg).toNatClampNeg) (v := (T6 41 (T6 28 (x5_5 - x4_4).toNatClampNeg).toNatClampNeg) + 1) hI9 (show B (-2147483648) 2147483647 ((T6 41 (T6 28 (x5_5 - x4_4).toNatClampNeg).toNatClampNeg) + 1) from (B_w (B_any _) (by decide +kernel) (by decide +kernel)))
          have g55 := agc_tr (agc_refl (fs := []) (rs := [41]) (F := F)) g10 (by decide +kernel) (by decide +kernel)
          have g54 := agc_r (u := 41) (w := upd (T6 41) (T6 28 (x5_5 - x4_4).toNatClampNeg).toNatClampNeg ((T6 41 (T6 28 (x5_5 - x4_4).toNatClampNeg).toNatClampNeg) + 1)) g55 rfl (by decide +kernel)
          have e56 : (x5_5 + 1).toInt = ((x5_5).toInt + 1) := (t_add b28 cqb_1_1_1 (by decide +kernel) (by decide +kernel)).trans (by rw [cqn_1])
          have q57 : (1) ≤ (x5_5 + 1).toInt ∧ (x5_5 + 1).toInt ≤ (514) := (show B 1 514 (x5_5 + 1) from B_w (B_add b28 cqb_1_1_1 (by decide +kernel) (by decide +kernel)) (by decide +kernel) (by decide +kernel))
          exact hR6 ⟨rfl, rfl, rfl, b7, (B_w (B_add b28 cqb_1_1_1 (by decide +kernel) (by decide +kernel)) (by decide +kernel) (by decide +kernel)), _, _, rfl, hI53, g54, (by show x4_4.toInt ≤ (x5_5 + 1).toInt; first | with_reducible assumption | omega)⟩ (by show (514 - (x5_5 + 1).toInt).toNat < (514 - x5_5.toInt).toNat; omega)
      · have b58 : B 1 1 (F 29 ((514 * x1) + x5_5).toNatClampNeg) := B_w (B_eq (Eq.symm (congrFun (g10.2 29 rfl rfl) ((514 * x1) + x5_5).toNatClampNeg)) (B_n0 (B_eq (congrFun (g10.2 29 rfl rfl) ((514 * x1) + x5_5).toNatClampNeg) (show B 0 1 (F 29 ((514 * x1) + x5_5).toNatClampNeg) from hI 29 ((514 * x1) + x5_5).toNatClampNeg)) hc)) (by decide +kernel) (by decide +kernel)
        unfold b_Li_takeThings_70
        have e59 : (x4_4 + 1).toInt = ((x4_4).toInt + 1) := (t_add b7 cqb_1_1_1 (by decide +kernel) (by decide +kernel)).trans (by rw [cqn_1])
        have q60 : (1) ≤ (x4_4 + 1).toInt ∧ (x4_4 + 1).toInt ≤ (515) := (show B 1 515 (x4_4 + 1) from B_w (B_add b7 cqb_1_1_1 (by decide +kernel) (by decide +kernel)) (by decide +kernel) (by decide +kernel))
        have g61 := agc_tr (agc_refl (fs := []) (rs := [41]) (F := F)) g10 (by decide +kernel) (by decide +kernel)
        have e62 : (x5_5 + 1).toInt = ((x5_5).toInt + 1) := (t_add b28 cqb_1_1_1 (by decide +kernel) (by decide +kernel)).trans (by rw [cqn_1])
        have q63 : (1) ≤ (x5_5 + 1).toInt ∧ (x5_5 + 1).toInt ≤ (514) := (show B 1 514 (x5_5 + 1) from B_w (B_add b28 cqb_1_1_1 (by decide +kernel) (by decide +kernel)) (by decide +kernel) (by decide +kernel))
        exact hR6 ⟨rfl, rfl, rfl, (show B 0 514 (x4_4 + 1) from ⟨by omega, by omega⟩), (B_w (B_add b28 cqb_1_1_1 (by decide +kernel) (by decide +kernel)) (by decide +kernel) (by decide +kernel)), _, _, rfl, hI9, g61, (by show (x4_4 + 1).toInt ≤ (x5_5 + 1).toInt; first | with_reducible assumption | omega)⟩ (by show (514 - (x5_5 + 1).toInt).toNat < (514 - x5_5.toInt).toNat; omega)
set_option maxRecDepth 20000 in
set_option maxHeartbeats 4000000 in
theorem h_Li_makeLine_u27_x340_b0 {a : Bool} {P : Nat → Nat → Nat} {x1 : Int32} {x2 : Int32} {F : cF} {L : cL} {K : Int32 → cs → Prop} (b_x1 : B 1 15 x1) (b_x2 : B 0 256 x2) (hI : IMc F) (hK : ∀ {v : Int32} {Z : cF} {LZ : cL}, B 0 513 v → IMc Z → agc [] [29, 31] F Z → K v (Z, LZ, PC a (!false) P)) : p_Li_makeLine UL 27 x1 x2 40 (F, L, PC a false P) K := by
  unfold p_Li_makeLine
  have q14 : (0) ≤ (F 27 1).toInt ∧ (F 27 1).toInt ≤ (257) := (show B 0 257 (F 27 1) from hI 27 1)
  have q16 : (0) ≤ (x2).toInt ∧ (x2).toInt ≤ (256) := (show B 0 256 (x2) from B_w b_x2 (by decide +kernel) (by decide +kernel))
  refine ⟨fun yx1 yx2 yx3 yx4 yx5 yx6 yS => x1 = yx1 ∧ x2 = yx2 ∧ (40 : Nat) = yx3 ∧ B 0 257 yx4 ∧ B 0 256 yx5 ∧ B 0 513 yx6 ∧ ∃ (T7 : cF) (LT7 : cL), yS = (T7, LT7, PC a false P) ∧ IMc T7 ∧ agc [] [29, 31] F T7 ∧ ((yx4.toInt + yx5.toInt) = yx6.toInt) ∧ (yx4.toInt ≤ (T7 27 1).toInt) ∧ (yx5.toInt ≤ yx2.toInt), fun yx1 yx2 yx3 yx4 yx5 yx6 yS => (513 - yx6.toInt).toNat, ⟨rfl, rfl, rfl, (B_w cqb_0_0_0 (by decide +kernel) (by decide +kernel)), (B_w cqb_0_0_0 (by decide +kernel) (by decide +kernel)), (B_w cqb_0_0_0 (by decide +kernel) (by decide +kernel)), _, _, rfl, hI, (agc_refl (fs := []) (rs := [29, 31]) (F := F)), (by show (0 + 0) = 0; first | with_reducible assumption | omega), (by show 0 ≤ (F 27 1).toInt; first | with_reducible assumption | omega), (by show 0 ≤ x2.toInt; first | with_reducible assumption | omega)⟩, fun x1_1 x2_2 x3_3 x4_4 x5_5 x6_6 ST7 hIv => ?_⟩
  obtain ⟨rfl, rfl, rfl, b8, b9, b10, T7, LT7, rfl, hI11, g12, r13, r15, r17⟩ := hIv
  suffices hs : ∀ (R9 : Int32 → Int32 → Nat → Int32 → Int32 → Int32 → cs → Prop), (∀ zx1 zx2 zx3 zx4 zx5 zx6 zS, (x1 = zx1 ∧ x2 = zx2 ∧ (40 : Nat) = zx3 ∧ B 0 257 zx4 ∧ B 0 256 zx5 ∧ B 0 513 zx6 ∧ ∃ (T7 : cF) (LT7 : cL), zS = (T7, LT7, PC a false P) ∧ IMc T7 ∧ agc [] [29, 31] F T7 ∧ ((zx4.toInt + zx5.toInt) = zx6.toInt) ∧ (zx4.toInt ≤ (T7 27 1).toInt) ∧ (zx5.toInt ≤ zx2.toInt)) → (513 - zx6.toInt).toNat < (513 - x6_6.toInt).toNat → R9 zx1 zx2 zx3 zx4 zx5 zx6 zS) → b_Li_makeLine_9 UL 27 x1 x2 40 x4_4 x5_5 x6_6 (T7, LT7, PC a false P) R9 K from hs _ (fun _ _ _ _ _ _ _ h1 h2 => ⟨h1, h2⟩)
  intro R9 hR90
  have hR9 := fun {zx1} {zx2} {zx3} {zx4} {zx5} {zx6} {zS} => hR90 zx1 zx2 zx3 zx4 zx5 zx6 zS
  have q18 : (0) ≤ (x4_4).toInt ∧ (x4_4).toInt ≤ (257) := (show B 0 257 (x4_4) from B_w b8 (by decide +kernel) (by decide +kernel))
  have q19 : (0) ≤ (x5_5).toInt ∧ (x5_5).toInt ≤ (256) := (show B 0 256 (x5_5) from B_w b9 (by decide +kernel) (by decide +kernel))
  have q20 : (0) ≤ (x6_6).toInt ∧ (x6_6).toInt ≤ (513) := (show B 0 513 (x6_6) from B_w b10 (by decide +kernel) (by decide +kernel))
  have q21 : (0) ≤ (F 27 1).toInt ∧ (F 27 1).toInt ≤ (257) := (show B 0 257 (F 27 1) from hI 27 1)
  have e22 : (T7 27 1).toInt = (F 27 1).toInt := (congrArg Int32.toInt (g12.1 27 1 rfl rfl)).trans rfl
  have q23 : (0) ≤ (x2).toInt ∧ (x2).toInt ≤ (256) := (show B 0 256 (x2) from B_w b_x2 (by decide +kernel) (by decide +kernel))
  unfold b_Li_makeLine_9
  refine ⟨fun hc => ?_, fun hc => ?_⟩
  · have hq24 := hc
    have e25 : ((T7 27 1) + x2).toInt = ((F 27 1).toInt + (x2).toInt) := (t_add (B_eq (g12.1 27 1 rfl rfl) (show B 0 257 (F 27 1) from hI 27 1)) b_x2 (by decide +kernel) (by decide +kernel)).trans (by rw [e22])
    have q26 : (0) ≤ ((T7 27 1) + x2).toInt ∧ ((T7 27 1) + x2).toInt ≤ (513) := (show B 0 513 ((T7 27 1) + x2) from B_w (B_add (B_eq (g12.1 27 1 rfl rfl) (show B 0 257 (F 27 1) from hI 27 1)) b_x2 (by decide +kernel) (by decide +kernel)) (by decide +kernel) (by decide +kernel))
    have i27 : ((T7 27 1) + x2).toInt ≤ (x6_6).toInt := i_le hq24
    refine ⟨(show ¬ ((30 : Nat) = NU) from by decide +kernel), ?_⟩
    refine ⟨(show ¬ ((31 : Nat) = NU) from by decide +kernel), ?_⟩
    refine ⟨(show ¬ ((31 : Nat) = NU) from by decide +kernel), ?_⟩
    refine ⟨(show ¬ ((30 : Nat) = NU) from by decide +kernel), ?_⟩
    have g28 := agc_tr (agc_refl (fs := []) (rs := [29, 31]) (F := F)) g12 (by decide +kernel) (by decide +kernel)
    rw [pc_swap]
    exact hK (B_w (B_add (B_eq (g12.1 27 1 rfl rfl) (show B 0 257 (F 27 1) from hI 27 1)) b_x2 (by decide +kernel) (by decide +kernel)) (by decide +kernel) (by decide +kernel)) hI11 g28
  · have hq29 := (nle_lt hc)
    have b30 : B 0 512 (x6_6) := B_w (B_ltL b10 (B_add (B_eq (g12.1 27 1 rfl rfl) (show B 0 257 (F 27 1) from hI 27 1)) b_x2 (by decide +kernel) (by decide +kernel)) hq29) (by decide +kernel) (by decide +kernel)
    have q31 : (0) ≤ (x6_6).toInt ∧ (x6_6).toInt ≤ (512) := (show B 0 512 (x6_6) from B_w b30 (by decide +kernel) (by decide +kernel))
    have b32 : B 1 513 ((T7 27 1) + x2) := B_w (B_ltR b10 (B_add (B_eq (g12.1 27 1 rfl rfl) (show B 0 257 (F 27 1) from hI 27 1)) b_x2 (by decide +kernel) (by decide +kernel)) hq29) (by decide +kernel) (by decide +kernel)
    have e33 : ((T7 27 1) + x2).toInt = ((F 27 1).toInt + (x2).toInt) := (t_add (B_eq (g12.1 27 1 rfl rfl) (show B 0 257 (F 27 1) from hI 27 1)) b_x2 (by decide +kernel) (by decide +kernel)).trans (by rw [e22])
    have q34 : (1) ≤ ((T7 27 1) + x2).toInt ∧ ((T7 27 1) + x2).toInt ≤ (513) := (show B 1 513 ((T7 27 1) + x2) from B_w b32 (by decide +kernel) (by decide +kernel))
    have i35 : (x6_6).toInt < ((T7 27 1) + x2).toInt := i_lt hq29
    refine ⟨fun hc => ?_, fun hc => ?_⟩
    · have hq36 := hc
      have i37 : (x2).toInt ≤ (x5_5).toInt := i_le hq36
      unfold b_Li_makeLine_51
      refine ⟨fun hc => ?_, fun hc => ?_⟩
      · have i38 : (x4_4).toInt = (T7 27 1).toInt := congrArg Int32.toInt hc
        unfold b_Li_makeLine_82
        unfold b_Li_makeLine_87
        refine ⟨(show ¬ ((29 : Nat) = NU) from by decide +kernel), ?_⟩
        refine ⟨(show c_cl UL 29 = 903 from cl_29), ?_⟩
        refine ⟨(show vp_in ((514 * x1) + x6_6) 8224 from vp_B (B_add (B_mul cqb_514_514_514 b_x1 (by decide +kernel) (by decide +kernel) (by decide +kernel)) b30 (by decide +kernel) (by decide +kernel)) (by decide +kernel) (by decide +kernel)), ?_⟩
        refine ⟨fun hc => ?_, fun hc => ?_⟩
        · exact (B_dis cqb_1_1_1 cqb_0_0_0 hc (by decide +kernel)).elim
        · have i39 : (1 : Int32).toInt ≠ (0 : Int32).toInt := i_ne hc
          have n40 : (1 : Int32).toInt = 1 := cqn_1
          have n41 : (0 : Int32).toInt = 0 := cqn_0
          refine ⟨(show ¬ ((31 : Nat) = NU) from by decide +kernel), ?_⟩
          refine ⟨(show c_cl UL 31 = 902 from cl_31), ?_⟩
          refine ⟨(show vp_in (x6_6) 514 from vp_B b30 (by decide +kernel) (by decide +kernel)), ?_⟩
          unfold b_Li_makeLine_143
          have e42 : (x5_5 + 1).toInt = ((x5_5).toInt + 1) := (t_add b9 cqb_1_1_1 (by decide +kernel) (by decide +kernel)).trans (by rw [cqn_1])
          have q43 : (1) ≤ (x5_5 + 1).toInt ∧ (x5_5 + 1).toInt ≤ (257) := (show B 1 257 (x5_5 + 1) from B_w (B_add b9 cqb_1_1_1 (by decide +kernel) (by decide +kernel)) (by decide +kernel) (by decide +kernel))
          have hI44 := IMc_u (u := 29) (i := ((514 * x1) + x6_6).toNatClampNeg) (v := vp_nar .boolean 1) hI11 (show B 0 1 (vp_nar .boolean 1) from (B_w (show B 1 1 (vp_nar .boolean 1) from ⟨by decide +kernel, by decide +kernel⟩) (by decide +kernel) (by decide +kernel)))
          have hI45 := IMc_u (u := 31) (i := x6_6.toNatClampNeg) (v := 0) hI44 (show B (-2147483648) 2147483647 (0) from (B_w cqb_0_0_0 (by decide +kernel) (by decide +kernel)))
          have g48 := agc_tr (agc_refl (fs := []) (rs := [29, 31]) (F := F)) g12 (by decide +kernel) (by decide +kernel)
          have g47 := agc_r (u := 29) (w := upd (T7 29) ((514 * x1) + x6_6).toNatClampNeg (vp_nar .boolean 1)) g48 rfl (by decide +kernel)
          have g46 := agc_r (u := 31) (w := upd (T7 31) x6_6.toNatClampNeg 0) g47 rfl (by decide +kernel)
          have e49 : (x6_6 + 1).toInt = ((x6_6).toInt + 1) := (t_add b30 cqb_1_1_1 (by decide +kernel) (by decide +kernel)).trans (by rw [cqn_1])
          have q50 : (1) ≤ (x6_6 + 1).toInt ∧ (x6_6 + 1).toInt ≤ (513) := (show B 1 513 (x6_6 + 1) from B_w (B_add b30 cqb_1_1_1 (by decide +kernel) (by decide +kernel)) (by decide +kernel) (by decide +kernel))
          exact hR9 ⟨rfl, rfl, rfl, b8, (show B 0 256 (x5_5 + 1) from ⟨by omega, by omega⟩), (B_w (B_add b30 cqb_1_1_1 (by decide +kernel) (by decide +kernel)) (by decide +kernel) (by decide +kernel)), _, _, rfl, hI45, g46, (by show (x4_4.toInt + (x5_5 + 1).toInt) = (x6_6 + 1).toInt; first | with_reducible assumption | omega), (by show x4_4.toInt ≤ (T7 27 1).toInt; first | with_reducible assumption | omega), (by show (x5_5 + 1).toInt ≤ x2.toInt; first | with_reducible assumption | omega)⟩ (by show (513 - (x6_6 + 1).toInt).toNat < (513 - x6_6.toInt).toNat; omega)
      · have i51 : (x4_4).toInt ≠ (T7 27 1).toInt := i_ne hc
        refine ⟨fun hc => ?_, fun hc => ?_⟩
        · have hq52 := hc
          have i53 : (x2).toInt ≤ (x5_5).toInt := i_le hq52
          unfold b_Li_makeLine_86
          unfold b_Li_makeLine_87
          refine ⟨(show ¬ ((29 : Nat) = NU) from by decide +kernel), ?_⟩
          refine ⟨(show c_cl UL 29 = 903 from cl_29), ?_⟩
          refine ⟨(show vp_in ((514 * x1) + x6_6) 8224 from vp_B (B_add (B_mul cqb_514_514_514 b_x1 (by decide +kernel) (by decide +kernel) (by decide +kernel)) b30 (by decide +kernel) (by decide +kernel)) (by decide +kernel) (by decide +kernel)), ?_⟩
          refine ⟨fun hc => ?_, fun hc => ?_⟩
          · have i54 : (0 : Int32).toInt = (0 : Int32).toInt := congrArg Int32.toInt hc
            have n55 : (0 : Int32).toInt = 0 := cqn_0
            have n56 : (0 : Int32).toInt = 0 := cqn_0
            refine ⟨(show ¬ ((31 : Nat) = NU) from by decide +kernel), ?_⟩
            refine ⟨(show ¬ ((28 : Nat) = NU) from by decide +kernel), ?_⟩
            refine ⟨(show c_cl UL 28 = 902 from cl_28), ?_⟩
            refine ⟨(show vp_in (x4_4) 257 from vp_om (x := x4_4) (by omega) (by omega)), ?_⟩
            have b57 : B 0 256 (x4_4) := ⟨by omega, by omega⟩
            refine ⟨(show c_cl UL 40 = 902 from cl_40), ?_⟩
            refine ⟨(show vp_in (T7 28 x4_4.toNatClampNeg) 257 from vp_B (B_eq (congrFun (g12.2 28 rfl rfl) x4_4.toNatClampNeg) (show B 0 256 (F 28 x4_4.toNatClampNeg) from hI 28 x4_4.toNatClampNeg)) (by decide +kernel) (by decide +kernel)), ?_⟩
            refine ⟨(show c_cl UL 31 = 902 from cl_31), ?_⟩
            refine ⟨(show vp_in (x6_6) 514 from vp_B b30 (by decide +kernel) (by decide +kernel)), ?_⟩
            unfold b_Li_makeLine_143
            have hI58 := IMc_u (u := 29) (i := ((514 * x1) + x6_6).toNatClampNeg) (v := vp_nar .boolean 0) hI11 (show B 0 1 (vp_nar .boolean 0) from (B_w (show B 0 0 (vp_nar .boolean 0) from ⟨by decide +kernel, by decide +kernel⟩) (by decide +kernel) (by decide +kernel)))
            have hI59 := IMc_u (u := 31) (i := x6_6.toNatClampNeg) (v := T7 40 (T7 28 x4_4.toNatClampNeg).toNatClampNeg) hI58 (show B (-2147483648) 2147483647 (T7 40 (T7 28 x4_4.toNatClampNeg).toNatClampNeg) from (B_w (B_eq (congrFun (g12.2 40 rfl rfl) (T7 28 x4_4.toNatClampNeg).toNatClampNeg) (B_any _)) (by decide +kernel) (by decide +kernel)))
            have g62 := agc_tr (agc_refl (fs := []) (rs := [29, 31]) (F := F)) g12 (by decide +kernel) (by decide +kernel)
            have g61 := agc_r (u := 29) (w := upd (T7 29) ((514 * x1) + x6_6).toNatClampNeg (vp_nar .boolean 0)) g62 rfl (by decide +kernel)
            have g60 := agc_r (u := 31) (w := upd (T7 31) x6_6.toNatClampNeg (T7 40 (T7 28 x4_4.toNatClampNeg).toNatClampNeg)) g61 rfl (by decide +kernel)
            have e63 : (x4_4 + 1).toInt = ((x4_4).toInt + 1) := (t_add b57 cqb_1_1_1 (by decide +kernel) (by decide +kernel)).trans (by rw [cqn_1])
            have q64 : (1) ≤ (x4_4 + 1).toInt ∧ (x4_4 + 1).toInt ≤ (257) := (show B 1 257 (x4_4 + 1) from B_w (B_add b57 cqb_1_1_1 (by decide +kernel) (by decide +kernel)) (by decide +kernel) (by decide +kernel))
            have e65 : (x6_6 + 1).toInt = ((x6_6).toInt + 1) := (t_add b30 cqb_1_1_1 (by decide +kernel) (by decide +kernel)).trans (by rw [cqn_1])
            have q66 : (1) ≤ (x6_6 + 1).toInt ∧ (x6_6 + 1).toInt ≤ (513) := (show B 1 513 (x6_6 + 1) from B_w (B_add b30 cqb_1_1_1 (by decide +kernel) (by decide +kernel)) (by decide +kernel) (by decide +kernel))
            exact hR9 ⟨rfl, rfl, rfl, (B_w (B_add b57 cqb_1_1_1 (by decide +kernel) (by decide +kernel)) (by decide +kernel) (by decide +kernel)), b9, (B_w (B_add b30 cqb_1_1_1 (by decide +kernel) (by decide +kernel)) (by decide +kernel) (by decide +kernel)), _, _, rfl, hI59, g60, (by show ((x4_4 + 1).toInt + x5_5.toInt) = (x6_6 + 1).toInt; first | with_reducible assumption | omega), (by show (x4_4 + 1).toInt ≤ (T7 27 1).toInt; first | with_reducible assumption | omega), (by show x5_5.toInt ≤ x2.toInt; first | with_reducible assumption | omega)⟩ (by show (513 - (x6_6 + 1).toInt).toNat < (513 - x6_6.toInt).toNat; omega)
          · exact (hc (B_z cqb_0_0_0)).elim
        · have hq67 := (nle_lt hc)
          have b68 : B 0 255 (x5_5) := B_w (B_ltL b9 b_x2 hq67) (by decide +kernel) (by decide +kernel)
          have q69 : (0) ≤ (x5_5).toInt ∧ (x5_5).toInt ≤ (255) := (show B 0 255 (x5_5) from B_w b68 (by decide +kernel) (by decide +kernel))
          have b70 : B 1 256 (x2) := B_w (B_ltR b9 b_x2 hq67) (by decide +kernel) (by decide +kernel)
          have q71 : (1) ≤ (x2).toInt ∧ (x2).toInt ≤ (256) := (show B 1 256 (x2) from B_w b70 (by decide +kernel) (by decide +kernel))
          have i72 : (x5_5).toInt < (x2).toInt := i_lt hq67
          refine ⟨(show ¬ ((28 : Nat) = NU) from by decide +kernel), ?_⟩
          refine ⟨(show c_cl UL 28 = 902 from cl_28), ?_⟩
          refine ⟨(show vp_in (x4_4) 257 from vp_om (x := x4_4) (by omega) (by omega)), ?_⟩
          have b73 : B 0 256 (x4_4) := ⟨by omega, by omega⟩
          refine ⟨(show c_cl UL 40 = 902 from cl_40), ?_⟩
          refine ⟨(show vp_in (T7 28 x4_4.toNatClampNeg) 257 from vp_B (B_eq (congrFun (g12.2 28 rfl rfl) x4_4.toNatClampNeg) (show B 0 256 (F 28 x4_4.toNatClampNeg) from hI 28 x4_4.toNatClampNeg)) (by decide +kernel) (by decide +kernel)), ?_⟩
          refine ⟨fun hc => ?_, fun hc => ?_⟩
          · have hq74 := hc
            have b75 : B (-2147483648) 0 (F 40 (T7 28 x4_4.toNatClampNeg).toNatClampNeg) := B_w (B_eq (Eq.symm (congrFun (g12.2 40 rfl rfl) (T7 28 x4_4.toNatClampNeg).toNatClampNeg)) (B_leL (B_eq (congrFun (g12.2 40 rfl rfl) (T7 28 x4_4.toNatClampNeg).toNatClampNeg) (B_any _)) cqb_0_0_0 hq74)) (by decide +kernel) (by decide +kernel)
            unfold b_Li_makeLine_86
            unfold b_Li_makeLine_87
            refine ⟨(show ¬ ((29 : Nat) = NU) from by decide +kernel), ?_⟩
            refine ⟨(show c_cl UL 29 = 903 from cl_29), ?_⟩
            refine ⟨(show vp_in ((514 * x1) + x6_6) 8224 from vp_B (B_add (B_mul cqb_514_514_514 b_x1 (by decide +kernel) (by decide +kernel) (by decide +kernel)) b30 (by decide +kernel) (by decide +kernel)) (by decide +kernel) (by decide +kernel)), ?_⟩
            refine ⟨fun hc => ?_, fun hc => ?_⟩
            · have i76 : (0 : Int32).toInt = (0 : Int32).toInt := congrArg Int32.toInt hc
              have n77 : (0 : Int32).toInt = 0 := cqn_0
              have n78 : (0 : Int32).toInt = 0 := cqn_0
              refine ⟨(show ¬ ((31 : Nat) = NU) from by decide +kernel), ?_⟩
              refine ⟨(show ¬ ((28 : Nat) = NU) from by decide +kernel), ?_⟩
              refine ⟨(show c_cl UL 28 = 902 from cl_28), ?_⟩
              refine ⟨(show vp_in (x4_4) 257 from vp_B b73 (by decide +kernel) (by decide +kernel)), ?_⟩
              refine ⟨(show c_cl UL 40 = 902 from cl_40), ?_⟩
              refine ⟨(show vp_in (T7 28 x4_4.toNatClampNeg) 257 from vp_B (B_eq (congrFun (g12.2 28 rfl rfl) x4_4.toNatClampNeg) (show B 0 256 (F 28 x4_4.toNatClampNeg) from hI 28 x4_4.toNatClampNeg)) (by decide +kernel) (by decide +kernel)), ?_⟩
              refine ⟨(show c_cl UL 31 = 902 from cl_31), ?_⟩
              refine ⟨(show vp_in (x6_6) 514 from vp_B b30 (by decide +kernel) (by decide +kernel)), ?_⟩
              unfold b_Li_makeLine_143
              have hI79 := IMc_u (u := 29) (i := ((514 * x1) + x6_6).toNatClampNeg) (v := vp_nar .boolean 0) hI11 (show B 0 1 (vp_nar .boolean 0) from (B_w (show B 0 0 (vp_nar .boolean 0) from ⟨by decide +kernel, by decide +kernel⟩) (by decide +kernel) (by decide +kernel)))
              have hI80 := IMc_u (u := 31) (i := x6_6.toNatClampNeg) (v := T7 40 (T7 28 x4_4.toNatClampNeg).toNatClampNeg) hI79 (show B (-2147483648) 2147483647 (T7 40 (T7 28 x4_4.toNatClampNeg).toNatClampNeg) from (B_w (B_eq (congrFun (g12.2 40 rfl rfl) (T7 28 x4_4.toNatClampNeg).toNatClampNeg) b75) (by decide +kernel) (by decide +kernel)))
              have g83 := agc_tr (agc_refl (fs := []) (rs := [29, 31]) (F := F)) g12 (by decide +kernel) (by decide +kernel)
              have g82 := agc_r (u := 29) (w := upd (T7 29) ((514 * x1) + x6_6).toNatClampNeg (vp_nar .boolean 0)) g83 rfl (by decide +kernel)
              have g81 := agc_r (u := 31) (w := upd (T7 31) x6_6.toNatClampNeg (T7 40 (T7 28 x4_4.toNatClampNeg).toNatClampNeg)) g82 rfl (by decide +kernel)
              have e84 : (x4_4 + 1).toInt = ((x4_4).toInt + 1) := (t_add b73 cqb_1_1_1 (by decide +kernel) (by decide +kernel)).trans (by rw [cqn_1])
              have q85 : (1) ≤ (x4_4 + 1).toInt ∧ (x4_4 + 1).toInt ≤ (257) := (show B 1 257 (x4_4 + 1) from B_w (B_add b73 cqb_1_1_1 (by decide +kernel) (by decide +kernel)) (by decide +kernel) (by decide +kernel))
              have e86 : (x6_6 + 1).toInt = ((x6_6).toInt + 1) := (t_add b30 cqb_1_1_1 (by decide +kernel) (by decide +kernel)).trans (by rw [cqn_1])
              have q87 : (1) ≤ (x6_6 + 1).toInt ∧ (x6_6 + 1).toInt ≤ (513) := (show B 1 513 (x6_6 + 1) from B_w (B_add b30 cqb_1_1_1 (by decide +kernel) (by decide +kernel)) (by decide +kernel) (by decide +kernel))
              exact hR9 ⟨rfl, rfl, rfl, (B_w (B_add b73 cqb_1_1_1 (by decide +kernel) (by decide +kernel)) (by decide +kernel) (by decide +kernel)), (B_w b68 (by decide +kernel) (by decide +kernel)), (B_w (B_add b30 cqb_1_1_1 (by decide +kernel) (by decide +kernel)) (by decide +kernel) (by decide +kernel)), _, _, rfl, hI80, g81, (by show ((x4_4 + 1).toInt + x5_5.toInt) = (x6_6 + 1).toInt; first | with_reducible assumption | omega), (by show (x4_4 + 1).toInt ≤ (T7 27 1).toInt; first | with_reducible assumption | omega), (by show x5_5.toInt ≤ x2.toInt; first | with_reducible assumption | omega)⟩ (by show (513 - (x6_6 + 1).toInt).toNat < (513 - x6_6.toInt).toNat; omega)
            · exact (hc (B_z cqb_0_0_0)).elim
          · have hq88 := (nle_lt hc)
            have b89 : B 1 2147483647 (F 40 (T7 28 x4_4.toNatClampNeg).toNatClampNeg) := B_w (B_eq (Eq.symm (congrFun (g12.2 40 rfl rfl) (T7 28 x4_4.toNatClampNeg).toNatClampNeg)) (B_ltR cqb_0_0_0 (B_eq (congrFun (g12.2 40 rfl rfl) (T7 28 x4_4.toNatClampNeg).toNatClampNeg) (B_any _)) hq88)) (by decide +kernel) (by decide +kernel)
            unfold b_Li_makeLine_82
            unfold b_Li_makeLine_87
            refine ⟨(show ¬ ((29 : Nat) = NU) from by decide +kernel), ?_⟩
            refine ⟨(show c_cl UL 29 = 903 from cl_29), ?_⟩
            refine ⟨(show vp_in ((514 * x1) + x6_6) 8224 from vp_B (B_add (B_mul cqb_514_514_514 b_x1 (by decide +kernel) (by decide +kernel) (by decide +kernel)) b30 (by decide +kernel) (by decide +kernel)) (by decide +kernel) (by decide +kernel)), ?_⟩
            refine ⟨fun hc => ?_, fun hc => ?_⟩
            · exact (B_dis cqb_1_1_1 cqb_0_0_0 hc (by decide +kernel)).elim
            · have i90 : (1 : Int32).toInt ≠ (0 : Int32).toInt := i_ne hc
              have n91 : (1 : Int32).toInt = 1 := cqn_1
              have n92 : (0 : Int32).toInt = 0 := cqn_0
              refine ⟨(show ¬ ((31 : Nat) = NU) from by decide +kernel), ?_⟩
              refine ⟨(show c_cl UL 31 = 902 from cl_31), ?_⟩
              refine ⟨(show vp_in (x6_6) 514 from vp_B b30 (by decide +kernel) (by decide +kernel)), ?_⟩
              unfold b_Li_makeLine_143
              have hI93 := IMc_u (u := 29) (i := ((514 * x1) + x6_6).toNatClampNeg) (v := vp_nar .boolean 1) hI11 (show B 0 1 (vp_nar .boolean 1) from (B_w (show B 1 1 (vp_nar .boolean 1) from ⟨by decide +kernel, by decide +kernel⟩) (by decide +kernel) (by decide +kernel)))
              have hI94 := IMc_u (u := 31) (i := x6_6.toNatClampNeg) (v := 0) hI93 (show B (-2147483648) 2147483647 (0) from (B_w cqb_0_0_0 (by decide +kernel) (by decide +kernel)))
              have g97 := agc_tr (agc_refl (fs := []) (rs := [29, 31]) (F := F)) g12 (by decide +kernel) (by decide +kernel)
              have g96 := agc_r (u := 29) (w := upd (T7 29) ((514 * x1) + x6_6).toNatClampNeg (vp_nar .boolean 1)) g97 rfl (by decide +kernel)
              have g95 := agc_r (u := 31) (w := upd (T7 31) x6_6.toNatClampNeg 0) g96 rfl (by decide +kernel)
              have e98 : (x5_5 + 1).toInt = ((x5_5).toInt + 1) := (t_add b68 cqb_1_1_1 (by decide +kernel) (by decide +kernel)).trans (by rw [cqn_1])
              have q99 : (1) ≤ (x5_5 + 1).toInt ∧ (x5_5 + 1).toInt ≤ (256) := (show B 1 256 (x5_5 + 1) from B_w (B_add b68 cqb_1_1_1 (by decide +kernel) (by decide +kernel)) (by decide +kernel) (by decide +kernel))
              have e100 : (x6_6 + 1).toInt = ((x6_6).toInt + 1) := (t_add b30 cqb_1_1_1 (by decide +kernel) (by decide +kernel)).trans (by rw [cqn_1])
              have q101 : (1) ≤ (x6_6 + 1).toInt ∧ (x6_6 + 1).toInt ≤ (513) := (show B 1 513 (x6_6 + 1) from B_w (B_add b30 cqb_1_1_1 (by decide +kernel) (by decide +kernel)) (by decide +kernel) (by decide +kernel))
              exact hR9 ⟨rfl, rfl, rfl, (B_w b73 (by decide +kernel) (by decide +kernel)), (B_w (B_add b68 cqb_1_1_1 (by decide +kernel) (by decide +kernel)) (by decide +kernel) (by decide +kernel)), (B_w (B_add b30 cqb_1_1_1 (by decide +kernel) (by decide +kernel)) (by decide +kernel) (by decide +kernel)), _, _, rfl, hI94, g95, (by show (x4_4.toInt + (x5_5 + 1).toInt) = (x6_6 + 1).toInt; first | with_reducible assumption | omega), (by show x4_4.toInt ≤ (T7 27 1).toInt; first | with_reducible assumption | omega), (by show (x5_5 + 1).toInt ≤ x2.toInt; first | with_reducible assumption | omega)⟩ (by show (513 - (x6_6 + 1).toInt).toNat < (513 - x6_6.toInt).toNat; omega)
    · have hq102 := (nle_lt hc)
      have b103 : B 0 255 (x5_5) := B_w (B_ltL b9 b_x2 hq102) (by decide +kernel) (by decide +kernel)
      have q104 : (0) ≤ (x5_5).toInt ∧ (x5_5).toInt ≤ (255) := (show B 0 255 (x5_5) from B_w b103 (by decide +kernel) (by decide +kernel))
      have b105 : B 1 256 (x2) := B_w (B_ltR b9 b_x2 hq102) (by decide +kernel) (by decide +kernel)
      have q106 : (1) ≤ (x2).toInt ∧ (x2).toInt ≤ (256) := (show B 1 256 (x2) from B_w b105 (by decide +kernel) (by decide +kernel))
      have i107 : (x5_5).toInt < (x2).toInt := i_lt hq102
      refine ⟨(show ¬ ((30 : Nat) = NU) from by decide +kernel), ?_⟩
      refine ⟨(show c_cl UL 30 = 902 from cl_30), ?_⟩
      refine ⟨(show vp_in (2 * x5_5) 514 from vp_B (B_mul cqb_2_2_2 b103 (by decide +kernel) (by decide +kernel) (by decide +kernel)) (by decide +kernel) (by decide +kernel)), ?_⟩
      refine ⟨(show ¬ ((30 : Nat) = NU) from by decide +kernel), ?_⟩
      refine ⟨(show vp_in ((2 * x5_5) + 1) 514 from vp_B (B_add (B_mul cqb_2_2_2 b103 (by decide +kernel) (by decide +kernel) (by decide +kernel)) cqb_1_1_1 (by decide +kernel) (by decide +kernel)) (by decide +kernel) (by decide +kernel)), ?_⟩
      unfold b_Li_makeLine_51
      refine ⟨fun hc => ?_, fun hc => ?_⟩
      · have i108 : (x4_4).toInt = (T7 27 1).toInt := congrArg Int32.toInt hc
        unfold b_Li_makeLine_82
        unfold b_Li_makeLine_87
        refine ⟨(show ¬ ((29 : Nat) = NU) from by decide +kernel), ?_⟩
        refine ⟨(show c_cl UL 29 = 903 from cl_29), ?_⟩
        refine ⟨(show vp_in ((514 * x1) + x6_6) 8224 from vp_B (B_add (B_mul cqb_514_514_514 b_x1 (by decide +kernel) (by decide +kernel) (by decide +kernel)) b30 (by decide +kernel) (by decide +kernel)) (by decide +kernel) (by decide +kernel)), ?_⟩
        refine ⟨fun hc => ?_, fun hc => ?_⟩
        · exact (B_dis cqb_1_1_1 cqb_0_0_0 hc (by decide +kernel)).elim
        · have i109 : (1 : Int32).toInt ≠ (0 : Int32).toInt := i_ne hc
          have n110 : (1 : Int32).toInt = 1 := cqn_1
          have n111 : (0 : Int32).toInt = 0 := cqn_0
          refine ⟨(show ¬ ((31 : Nat) = NU) from by decide +kernel), ?_⟩
          refine ⟨(show c_cl UL 31 = 902 from cl_31), ?_⟩
          refine ⟨(show vp_in (x6_6) 514 from vp_B b30 (by decide +kernel) (by decide +kernel)), ?_⟩
          unfold b_Li_makeLine_143
          have hI112 := IMc_u (u := 29) (i := ((514 * x1) + x6_6).toNatClampNeg) (v := vp_nar .boolean 1) hI11 (show B 0 1 (vp_nar .boolean 1) from (B_w (show B 1 1 (vp_nar .boolean 1) from ⟨by decide +kernel, by decide +kernel⟩) (by decide +kernel) (by decide +kernel)))
          have hI113 := IMc_u (u := 31) (i := x6_6.toNatClampNeg) (v := (T7 30 (2 * x5_5).toNatClampNeg) + (T7 30 ((2 * x5_5) + 1).toNatClampNeg)) hI112 (show B (-2147483648) 2147483647 ((T7 30 (2 * x5_5).toNatClampNeg) + (T7 30 ((2 * x5_5) + 1).toNatClampNeg)) from (B_w (B_any _) (by decide +kernel) (by decide +kernel)))
          have g116 := agc_tr (agc_refl (fs := []) (rs := [29, 31]) (F := F)) g12 (by decide +kernel) (by decide +kernel)
          have g115 := agc_r (u := 29) (w := upd (T7 29) ((514 * x1) + x6_6).toNatClampNeg (vp_nar .boolean 1)) g116 rfl (by decide +kernel)
          have g114 := agc_r (u := 31) (w := upd (T7 31) x6_6.toNatClampNeg ((T7 30 (2 * x5_5).toNatClampNeg) + (T7 30 ((2 * x5_5) + 1).toNatClampNeg))) g115 rfl (by decide +kernel)
          have e117 : (x5_5 + 1).toInt = ((x5_5).toInt + 1) := (t_add b103 cqb_1_1_1 (by decide +kernel) (by decide +kernel)).trans (by rw [cqn_1])
          have q118 : (1) ≤ (x5_5 + 1).toInt ∧ (x5_5 + 1).toInt ≤ (256) := (show B 1 256 (x5_5 + 1) from B_w (B_add b103 cqb_1_1_1 (by decide +kernel) (by decide +kernel)) (by decide +kernel) (by decide +kernel))
          have e119 : (x6_6 + 1).toInt = ((x6_6).toInt + 1) := (t_add b30 cqb_1_1_1 (by decide +kernel) (by decide +kernel)).trans (by rw [cqn_1])
          have q120 : (1) ≤ (x6_6 + 1).toInt ∧ (x6_6 + 1).toInt ≤ (513) := (show B 1 513 (x6_6 + 1) from B_w (B_add b30 cqb_1_1_1 (by decide +kernel) (by decide +kernel)) (by decide +kernel) (by decide +kernel))
          exact hR9 ⟨rfl, rfl, rfl, b8, (B_w (B_add b103 cqb_1_1_1 (by decide +kernel) (by decide +kernel)) (by decide +kernel) (by decide +kernel)), (B_w (B_add b30 cqb_1_1_1 (by decide +kernel) (by decide +kernel)) (by decide +kernel) (by decide +kernel)), _, _, rfl, hI113, g114, (by show (x4_4.toInt + (x5_5 + 1).toInt) = (x6_6 + 1).toInt; first | with_reducible assumption | omega), (by show x4_4.toInt ≤ (T7 27 1).toInt; first | with_reducible assumption | omega), (by show (x5_5 + 1).toInt ≤ x2.toInt; first | with_reducible assumption | omega)⟩ (by show (513 - (x6_6 + 1).toInt).toNat < (513 - x6_6.toInt).toNat; omega)
      · have i121 : (x4_4).toInt ≠ (T7 27 1).toInt := i_ne hc
        refine ⟨fun hc => ?_, fun hc => ?_⟩
        · have hq122 := hc
          have b123 : B 1 255 (x2) := B_w (B_leL b105 b103 hq122) (by decide +kernel) (by decide +kernel)
          have q124 : (1) ≤ (x2).toInt ∧ (x2).toInt ≤ (255) := (show B 1 255 (x2) from B_w b123 (by decide +kernel) (by decide +kernel))
          have b125 : B 1 255 (x5_5) := B_w (B_leR b105 b103 hq122) (by decide +kernel) (by decide +kernel)
          have q126 : (1) ≤ (x5_5).toInt ∧ (x5_5).toInt ≤ (255) := (show B 1 255 (x5_5) from B_w b125 (by decide +kernel) (by decide +kernel))
          have i127 : (x2).toInt ≤ (x5_5).toInt := i_le hq122
          unfold b_Li_makeLine_86
          unfold b_Li_makeLine_87
          refine ⟨(show ¬ ((29 : Nat) = NU) from by decide +kernel), ?_⟩
          refine ⟨(show c_cl UL 29 = 903 from cl_29), ?_⟩
          refine ⟨(show vp_in ((514 * x1) + x6_6) 8224 from vp_B (B_add (B_mul cqb_514_514_514 b_x1 (by decide +kernel) (by decide +kernel) (by decide +kernel)) b30 (by decide +kernel) (by decide +kernel)) (by decide +kernel) (by decide +kernel)), ?_⟩
          refine ⟨fun hc => ?_, fun hc => ?_⟩
          · have i128 : (0 : Int32).toInt = (0 : Int32).toInt := congrArg Int32.toInt hc
            have n129 : (0 : Int32).toInt = 0 := cqn_0
            have n130 : (0 : Int32).toInt = 0 := cqn_0
            refine ⟨(show ¬ ((31 : Nat) = NU) from by decide +kernel), ?_⟩
            refine ⟨(show ¬ ((28 : Nat) = NU) from by decide +kernel), ?_⟩
            refine ⟨(show c_cl UL 28 = 902 from cl_28), ?_⟩
            refine ⟨(show vp_in (x4_4) 257 from vp_om (x := x4_4) (by omega) (by omega)), ?_⟩
            have b131 : B 0 256 (x4_4) := ⟨by omega, by omega⟩
            refine ⟨(show c_cl UL 40 = 902 from cl_40), ?_⟩
            refine ⟨(show vp_in (T7 28 x4_4.toNatClampNeg) 257 from vp_B (B_eq (congrFun (g12.2 28 rfl rfl) x4_4.toNatClampNeg) (show B 0 256 (F 28 x4_4.toNatClampNeg) from hI 28 x4_4.toNatClampNeg)) (by decide +kernel) (by decide +kernel)), ?_⟩
            refine ⟨(show c_cl UL 31 = 902 from cl_31), ?_⟩
            refine ⟨(show vp_in (x6_6) 514 from vp_B b30 (by decide +kernel) (by decide +kernel)), ?_⟩
            unfold b_Li_makeLine_143
            have hI132 := IMc_u (u := 29) (i := ((514 * x1) + x6_6).toNatClampNeg) (v := vp_nar .boolean 0) hI11 (show B 0 1 (vp_nar .boolean 0) from (B_w (show B 0 0 (vp_nar .boolean 0) from ⟨by decide +kernel, by decide +kernel⟩) (by decide +kernel) (by decide +kernel)))
            have hI133 := IMc_u (u := 31) (i := x6_6.toNatClampNeg) (v := T7 40 (T7 28 x4_4.toNatClampNeg).toNatClampNeg) hI132 (show B (-2147483648) 2147483647 (T7 40 (T7 28 x4_4.toNatClampNeg).toNatClampNeg) from (B_w (B_eq (congrFun (g12.2 40 rfl rfl) (T7 28 x4_4.toNatClampNeg).toNatClampNeg) (B_any _)) (by decide +kernel) (by decide +kernel)))
            have g136 := agc_tr (agc_refl (fs := []) (rs := [29, 31]) (F := F)) g12 (by decide +kernel) (by decide +kernel)
            have g135 := agc_r (u := 29) (w := upd (T7 29) ((514 * x1) + x6_6).toNatClampNeg (vp_nar .boolean 0)) g136 rfl (by decide +kernel)
            have g134 := agc_r (u := 31) (w := upd (T7 31) x6_6.toNatClampNeg (T7 40 (T7 28 x4_4.toNatClampNeg).toNatClampNeg)) g135 rfl (by decide +kernel)
            have e137 : (x4_4 + 1).toInt = ((x4_4).toInt + 1) := (t_add b131 cqb_1_1_1 (by decide +kernel) (by decide +kernel)).trans (by rw [cqn_1])
            have q138 : (1) ≤ (x4_4 + 1).toInt ∧ (x4_4 + 1).toInt ≤ (257) := (show B 1 257 (x4_4 + 1) from B_w (B_add b131 cqb_1_1_1 (by decide +kernel) (by decide +kernel)) (by decide +kernel) (by decide +kernel))
            have e139 : (x6_6 + 1).toInt = ((x6_6).toInt + 1) := (t_add b30 cqb_1_1_1 (by decide +kernel) (by decide +kernel)).trans (by rw [cqn_1])
            have q140 : (1) ≤ (x6_6 + 1).toInt ∧ (x6_6 + 1).toInt ≤ (513) := (show B 1 513 (x6_6 + 1) from B_w (B_add b30 cqb_1_1_1 (by decide +kernel) (by decide +kernel)) (by decide +kernel) (by decide +kernel))
            exact hR9 ⟨rfl, rfl, rfl, (B_w (B_add b131 cqb_1_1_1 (by decide +kernel) (by decide +kernel)) (by decide +kernel) (by decide +kernel)), (B_w b125 (by decide +kernel) (by decide +kernel)), (B_w (B_add b30 cqb_1_1_1 (by decide +kernel) (by decide +kernel)) (by decide +kernel) (by decide +kernel)), _, _, rfl, hI133, g134, (by show ((x4_4 + 1).toInt + x5_5.toInt) = (x6_6 + 1).toInt; first | with_reducible assumption | omega), (by show (x4_4 + 1).toInt ≤ (T7 27 1).toInt; first | with_reducible assumption | omega), (by show x5_5.toInt ≤ x2.toInt; first | with_reducible assumption | omega)⟩ (by show (513 - (x6_6 + 1).toInt).toNat < (513 - x6_6.toInt).toNat; omega)
          · exact (hc (B_z cqb_0_0_0)).elim
        · have hq141 := (nle_lt hc)
          have i142 : (x5_5).toInt < (x2).toInt := i_lt hq141
          refine ⟨(show ¬ ((28 : Nat) = NU) from by decide +kernel), ?_⟩
          refine ⟨(show c_cl UL 28 = 902 from cl_28), ?_⟩
          refine ⟨(show vp_in (x4_4) 257 from vp_om (x := x4_4) (by omega) (by omega)), ?_⟩
          have b143 : B 0 256 (x4_4) := ⟨by omega, by omega⟩
          refine ⟨(show c_cl UL 40 = 902 from cl_40), ?_⟩
          refine ⟨(show vp_in (T7 28 x4_4.toNatClampNeg) 257 from vp_B (B_eq (congrFun (g12.2 28 rfl rfl) x4_4.toNatClampNeg) (show B 0 256 (F 28 x4_4.toNatClampNeg) from hI 28 x4_4.toNatClampNeg)) (by decide +kernel) (by decide +kernel)), ?_⟩
          refine ⟨fun hc => ?_, fun hc => ?_⟩
          · have hq144 := hc
            have e145 : (T7 40 (T7 28 x4_4.toNatClampNeg).toNatClampNeg).toInt = (F 40 (T7 28 x4_4.toNatClampNeg).toNatClampNeg).toInt := (congrArg Int32.toInt (congrFun (g12.2 40 rfl rfl) (T7 28 x4_4.toNatClampNeg).toNatClampNeg)).trans rfl
            have i146 : (T7 40 (T7 28 x4_4.toNatClampNeg).toNatClampNeg).toInt ≤ ((T7 30 (2 * x5_5).toNatClampNeg) + (T7 30 ((2 * x5_5) + 1).toNatClampNeg)).toInt := i_le hq144
            unfold b_Li_makeLine_86
            unfold b_Li_makeLine_87
            refine ⟨(show ¬ ((29 : Nat) = NU) from by decide +kernel), ?_⟩
            refine ⟨(show c_cl UL 29 = 903 from cl_29), ?_⟩
            refine ⟨(show vp_in ((514 * x1) + x6_6) 8224 from vp_B (B_add (B_mul cqb_514_514_514 b_x1 (by decide +kernel) (by decide +kernel) (by decide +kernel)) b30 (by decide +kernel) (by decide +kernel)) (by decide +kernel) (by decide +kernel)), ?_⟩
            refine ⟨fun hc => ?_, fun hc => ?_⟩
            · have i147 : (0 : Int32).toInt = (0 : Int32).toInt := congrArg Int32.toInt hc
              have n148 : (0 : Int32).toInt = 0 := cqn_0
              have n149 : (0 : Int32).toInt = 0 := cqn_0
              refine ⟨(show ¬ ((31 : Nat) = NU) from by decide +kernel), ?_⟩
              refine ⟨(show ¬ ((28 : Nat) = NU) from by decide +kernel), ?_⟩
              refine ⟨(show c_cl UL 28 = 902 from cl_28), ?_⟩
              refine ⟨(show vp_in (x4_4) 257 from vp_B b143 (by decide +kernel) (by decide +kernel)), ?_⟩
              refine ⟨(show c_cl UL 40 = 902 from cl_40), ?_⟩
              refine ⟨(show vp_in (T7 28 x4_4.toNatClampNeg) 257 from vp_B (B_eq (congrFun (g12.2 28 rfl rfl) x4_4.toNatClampNeg) (show B 0 256 (F 28 x4_4.toNatClampNeg) from hI 28 x4_4.toNatClampNeg)) (by decide +kernel) (by decide +kernel)), ?_⟩
              refine ⟨(show c_cl UL 31 = 902 from cl_31), ?_⟩
              refine ⟨(show vp_in (x6_6) 514 from vp_B b30 (by decide +kernel) (by decide +kernel)), ?_⟩
              unfold b_Li_makeLine_143
              have hI150 := IMc_u (u := 29) (i := ((514 * x1) + x6_6).toNatClampNeg) (v := vp_nar .boolean 0) hI11 (show B 0 1 (vp_nar .boolean 0) from (B_w (show B 0 0 (vp_nar .boolean 0) from ⟨by decide +kernel, by decide +kernel⟩) (by decide +kernel) (by decide +kernel)))
              have hI151 := IMc_u (u := 31) (i := x6_6.toNatClampNeg) (v := T7 40 (T7 28 x4_4.toNatClampNeg).toNatClampNeg) hI150 (show B (-2147483648) 2147483647 (T7 40 (T7 28 x4_4.toNatClampNeg).toNatClampNeg) from (B_w (B_eq (congrFun (g12.2 40 rfl rfl) (T7 28 x4_4.toNatClampNeg).toNatClampNeg) (B_any _)) (by decide +kernel) (by decide +kernel)))
              have g154 := agc_tr (agc_refl (fs := []) (rs := [29, 31]) (F := F)) g12 (by decide +kernel) (by decide +kernel)
              have g153 := agc_r (u := 29) (w := upd (T7 29) ((514 * x1) + x6_6).toNatClampNeg (vp_nar .boolean 0)) g154 rfl (by decide +kernel)
              have g152 := agc_r (u := 31) (w := upd (T7 31) x6_6.toNatClampNeg (T7 40 (T7 28 x4_4.toNatClampNeg).toNatClampNeg)) g153 rfl (by decide +kernel)
              have e155 : (x4_4 + 1).toInt = ((x4_4).toInt + 1) := (t_add b143 cqb_1_1_1 (by decide +kernel) (by decide +kernel)).trans (by rw [cqn_1])
              have q156 : (1) ≤ (x4_4 + 1).toInt ∧ (x4_4 + 1).toInt ≤ (257) := (show B 1 257 (x4_4 + 1) from B_w (B_add b143 cqb_1_1_1 (by decide +kernel) (by decide +kernel)) (by decide +kernel) (by decide +kernel))
              have e157 : (x6_6 + 1).toInt = ((x6_6).toInt + 1) := (t_add b30 cqb_1_1_1 (by decide +kernel) (by decide +kernel)).trans (by rw [cqn_1])
              have q158 : (1) ≤ (x6_6 + 1).toInt ∧ (x6_6 + 1).toInt ≤ (513) := (show B 1 513 (x6_6 + 1) from B_w (B_add b30 cqb_1_1_1 (by decide +kernel) (by decide +kernel)) (by decide +kernel) (by decide +kernel))
              exact hR9 ⟨rfl, rfl, rfl, (B_w (B_add b143 cqb_1_1_1 (by decide +kernel) (by decide +kernel)) (by decide +kernel) (by decide +kernel)), (B_w b103 (by decide +kernel) (by decide +kernel)), (B_w (B_add b30 cqb_1_1_1 (by decide +kernel) (by decide +kernel)) (by decide +kernel) (by decide +kernel)), _, _, rfl, hI151, g152, (by show ((x4_4 + 1).toInt + x5_5.toInt) = (x6_6 + 1).toInt; first | with_reducible assumption | omega), (by show (x4_4 + 1).toInt ≤ (T7 27 1).toInt; first | with_reducible assumption | omega), (by show x5_5.toInt ≤ x2.toInt; first | with_reducible assumption | omega)⟩ (by show (513 - (x6_6 + 1).toInt).toNat < (513 - x6_6.toInt).toNat; omega)
            · exact (hc (B_z cqb_0_0_0)).elim
          · have hq159 := (nle_lt hc)
            have b160 : B (-2147483648) 2147483646 ((T7 30 (2 * x5_5).toNatClampNeg) + (T7 30 ((2 * x5_5) + 1).toNatClampNeg)) := B_w (B_ltL (B_any _) (B_eq (congrFun (g12.2 40 rfl rfl) (T7 28 x4_4.toNatClampNeg).toNatClampNeg) (B_any _)) hq159) (by decide +kernel) (by decide +kernel)
            have b161 : B (-2147483647) 2147483647 (F 40 (T7 28 x4_4.toNatClampNeg).toNatClampNeg) := B_w (B_eq (Eq.symm (congrFun (g12.2 40 rfl rfl) (T7 28 x4_4.toNatClampNeg).toNatClampNeg)) (B_ltR (B_any _) (B_eq (congrFun (g12.2 40 rfl rfl) (T7 28 x4_4.toNatClampNeg).toNatClampNeg) (B_any _)) hq159)) (by decide +kernel) (by decide +kernel)
            have q162 : (-2147483648) ≤ ((T7 30 (2 * x5_5).toNatClampNeg) + (T7 30 ((2 * x5_5) + 1).toNatClampNeg)).toInt ∧ ((T7 30 (2 * x5_5).toNatClampNeg) + (T7 30 ((2 * x5_5) + 1).toNatClampNeg)).toInt ≤ (2147483646) := (show B (-2147483648) 2147483646 ((T7 30 (2 * x5_5).toNatClampNeg) + (T7 30 ((2 * x5_5) + 1).toNatClampNeg)) from B_w b160 (by decide +kernel) (by decide +kernel))
            have q163 : (-2147483647) ≤ (F 40 (T7 28 x4_4.toNatClampNeg).toNatClampNeg).toInt ∧ (F 40 (T7 28 x4_4.toNatClampNeg).toNatClampNeg).toInt ≤ (2147483647) := (show B (-2147483647) 2147483647 (F 40 (T7 28 x4_4.toNatClampNeg).toNatClampNeg) from B_w b161 (by decide +kernel) (by decide +kernel))
            have e164 : (T7 40 (T7 28 x4_4.toNatClampNeg).toNatClampNeg).toInt = (F 40 (T7 28 x4_4.toNatClampNeg).toNatClampNeg).toInt := (congrArg Int32.toInt (congrFun (g12.2 40 rfl rfl) (T7 28 x4_4.toNatClampNeg).toNatClampNeg)).trans rfl
            have i165 : ((T7 30 (2 * x5_5).toNatClampNeg) + (T7 30 ((2 * x5_5) + 1).toNatClampNeg)).toInt < (T7 40 (T7 28 x4_4.toNatClampNeg).toNatClampNeg).toInt := i_lt hq159
            unfold b_Li_makeLine_82
            unfold b_Li_makeLine_87
            refine ⟨(show ¬ ((29 : Nat) = NU) from by decide +kernel), ?_⟩
            refine ⟨(show c_cl UL 29 = 903 from cl_29), ?_⟩
            refine ⟨(show vp_in ((514 * x1) + x6_6) 8224 from vp_B (B_add (B_mul cqb_514_514_514 b_x1 (by decide +kernel) (by decide +kernel) (by decide +kernel)) b30 (by decide +kernel) (by decide +kernel)) (by decide +kernel) (by decide +kernel)), ?_⟩
            refine ⟨fun hc => ?_, fun hc => ?_⟩
            · exact (B_dis cqb_1_1_1 cqb_0_0_0 hc (by decide +kernel)).elim
            · have i166 : (1 : Int32).toInt ≠ (0 : Int32).toInt := i_ne hc
              have n167 : (1 : Int32).toInt = 1 := cqn_1
              have n168 : (0 : Int32).toInt = 0 := cqn_0
              refine ⟨(show ¬ ((31 : Nat) = NU) from by decide +kernel), ?_⟩
              refine ⟨(show c_cl UL 31 = 902 from cl_31), ?_⟩
              refine ⟨(show vp_in (x6_6) 514 from vp_B b30 (by decide +kernel) (by decide +kernel)), ?_⟩
              unfold b_Li_makeLine_143
              have hI169 := IMc_u (u := 29) (i := ((514 * x1) + x6_6).toNatClampNeg) (v := vp_nar .boolean 1) hI11 (show B 0 1 (vp_nar .boolean 1) from (B_w (show B 1 1 (vp_nar .boolean 1) from ⟨by decide +kernel, by decide +kernel⟩) (by decide +kernel) (by decide +kernel)))
              have hI170 := IMc_u (u := 31) (i := x6_6.toNatClampNeg) (v := (T7 30 (2 * x5_5).toNatClampNeg) + (T7 30 ((2 * x5_5) + 1).toNatClampNeg)) hI169 (show B (-2147483648) 2147483647 ((T7 30 (2 * x5_5).toNatClampNeg) + (T7 30 ((2 * x5_5) + 1).toNatClampNeg)) from (B_w b160 (by decide +kernel) (by decide +kernel)))
              have g173 := agc_tr (agc_refl (fs := []) (rs := [29, 31]) (F := F)) g12 (by decide +kernel) (by decide +kernel)
              have g172 := agc_r (u := 29) (w := upd (T7 29) ((514 * x1) + x6_6).toNatClampNeg (vp_nar .boolean 1)) g173 rfl (by decide +kernel)
              have g171 := agc_r (u := 31) (w := upd (T7 31) x6_6.toNatClampNeg ((T7 30 (2 * x5_5).toNatClampNeg) + (T7 30 ((2 * x5_5) + 1).toNatClampNeg))) g172 rfl (by decide +kernel)
              have e174 : (x5_5 + 1).toInt = ((x5_5).toInt + 1) := (t_add b103 cqb_1_1_1 (by decide +kernel) (by decide +kernel)).trans (by rw [cqn_1])
              have q175 : (1) ≤ (x5_5 + 1).toInt ∧ (x5_5 + 1).toInt ≤ (256) := (show B 1 256 (x5_5 + 1) from B_w (B_add b103 cqb_1_1_1 (by decide +kernel) (by decide +kernel)) (by decide +kernel) (by decide +kernel))
              have e176 : (x6_6 + 1).toInt = ((x6_6).toInt + 1) := (t_add b30 cqb_1_1_1 (by decide +kernel) (by decide +kernel)).trans (by rw [cqn_1])
              have q177 : (1) ≤ (x6_6 + 1).toInt ∧ (x6_6 + 1).toInt ≤ (513) := (show B 1 513 (x6_6 + 1) from B_w (B_add b30 cqb_1_1_1 (by decide +kernel) (by decide +kernel)) (by decide +kernel) (by decide +kernel))
              exact hR9 ⟨rfl, rfl, rfl, (B_w b143 (by decide +kernel) (by decide +kernel)), (B_w (B_add b103 cqb_1_1_1 (by decide +kernel) (by decide +kernel)) (by decide +kernel) (by decide +kernel)), (B_w (B_add b30 cqb_1_1_1 (by decide +kernel) (by decide +kernel)) (by decide +kernel) (by decide +kernel)), _, _, rfl, hI170, g171, (by show (x4_4.toInt + (x5_5 + 1).toInt) = (x6_6 + 1).toInt; first | with_reducible assumption | omega), (by show x4_4.toInt ≤ (T7 27 1).toInt; first | with_reducible assumption | omega), (by show (x5_5 + 1).toInt ≤ x2.toInt; first | with_reducible assumption | omega)⟩ (by show (513 - (x6_6 + 1).toInt).toNat < (513 - x6_6.toInt).toNat; omega)
set_option maxRecDepth 20000 in
set_option maxHeartbeats 4000000 in
theorem h_Li_makeLine_u27_x340_b1 {a : Bool} {P : Nat → Nat → Nat} {x1 : Int32} {x2 : Int32} {F : cF} {L : cL} {K : Int32 → cs → Prop} (b_x1 : B 1 15 x1) (b_x2 : B 0 256 x2) (hI : IMc F) (hK : ∀ {v : Int32} {Z : cF} {LZ : cL}, B 0 513 v → IMc Z → agc [] [29, 30] F Z → K v (Z, LZ, PC a (!true) P)) : p_Li_makeLine UL 27 x1 x2 40 (F, L, PC a true P) K := by
  unfold p_Li_makeLine
  have q14 : (0) ≤ (F 27 1).toInt ∧ (F 27 1).toInt ≤ (257) := (show B 0 257 (F 27 1) from hI 27 1)
  have q16 : (0) ≤ (x2).toInt ∧ (x2).toInt ≤ (256) := (show B 0 256 (x2) from B_w b_x2 (by decide +kernel) (by decide +kernel))
  refine ⟨fun yx1 yx2 yx3 yx4 yx5 yx6 yS => x1 = yx1 ∧ x2 = yx2 ∧ (40 : Nat) = yx3 ∧ B 0 257 yx4 ∧ B 0 256 yx5 ∧ B 0 513 yx6 ∧ ∃ (T7 : cF) (LT7 : cL), yS = (T7, LT7, PC a true P) ∧ IMc T7 ∧ agc [] [29, 30] F T7 ∧ ((yx4.toInt + yx5.toInt) = yx6.toInt) ∧ (yx4.toInt ≤ (T7 27 1).toInt) ∧ (yx5.toInt ≤ yx2.toInt), fun yx1 yx2 yx3 yx4 yx5 yx6 yS => (513 - yx6.toInt).toNat, ⟨rfl, rfl, rfl, (B_w cqb_0_0_0 (by decide +kernel) (by decide +kernel)), (B_w cqb_0_0_0 (by decide +kernel) (by decide +kernel)), (B_w cqb_0_0_0 (by decide +kernel) (by decide +kernel)), _, _, rfl, hI, (agc_refl (fs := []) (rs := [29, 30]) (F := F)), (by show (0 + 0) = 0; first | with_reducible assumption | omega), (by show 0 ≤ (F 27 1).toInt; first | with_reducible assumption | omega), (by show 0 ≤ x2.toInt; first | with_reducible assumption | omega)⟩, fun x1_1 x2_2 x3_3 x4_4 x5_5 x6_6 ST7 hIv => ?_⟩
  obtain ⟨rfl, rfl, rfl, b8, b9, b10, T7, LT7, rfl, hI11, g12, r13, r15, r17⟩ := hIv
  suffices hs : ∀ (R9 : Int32 → Int32 → Nat → Int32 → Int32 → Int32 → cs → Prop), (∀ zx1 zx2 zx3 zx4 zx5 zx6 zS, (x1 = zx1 ∧ x2 = zx2 ∧ (40 : Nat) = zx3 ∧ B 0 257 zx4 ∧ B 0 256 zx5 ∧ B 0 513 zx6 ∧ ∃ (T7 : cF) (LT7 : cL), zS = (T7, LT7, PC a true P) ∧ IMc T7 ∧ agc [] [29, 30] F T7 ∧ ((zx4.toInt + zx5.toInt) = zx6.toInt) ∧ (zx4.toInt ≤ (T7 27 1).toInt) ∧ (zx5.toInt ≤ zx2.toInt)) → (513 - zx6.toInt).toNat < (513 - x6_6.toInt).toNat → R9 zx1 zx2 zx3 zx4 zx5 zx6 zS) → b_Li_makeLine_9 UL 27 x1 x2 40 x4_4 x5_5 x6_6 (T7, LT7, PC a true P) R9 K from hs _ (fun _ _ _ _ _ _ _ h1 h2 => ⟨h1, h2⟩)
  intro R9 hR90
  have hR9 := fun {zx1} {zx2} {zx3} {zx4} {zx5} {zx6} {zS} => hR90 zx1 zx2 zx3 zx4 zx5 zx6 zS
  have q18 : (0) ≤ (x4_4).toInt ∧ (x4_4).toInt ≤ (257) := (show B 0 257 (x4_4) from B_w b8 (by decide +kernel) (by decide +kernel))
  have q19 : (0) ≤ (x5_5).toInt ∧ (x5_5).toInt ≤ (256) := (show B 0 256 (x5_5) from B_w b9 (by decide +kernel) (by decide +kernel))
  have q20 : (0) ≤ (x6_6).toInt ∧ (x6_6).toInt ≤ (513) := (show B 0 513 (x6_6) from B_w b10 (by decide +kernel) (by decide +kernel))
  have q21 : (0) ≤ (F 27 1).toInt ∧ (F 27 1).toInt ≤ (257) := (show B 0 257 (F 27 1) from hI 27 1)
  have e22 : (T7 27 1).toInt = (F 27 1).toInt := (congrArg Int32.toInt (g12.1 27 1 rfl rfl)).trans rfl
  have q23 : (0) ≤ (x2).toInt ∧ (x2).toInt ≤ (256) := (show B 0 256 (x2) from B_w b_x2 (by decide +kernel) (by decide +kernel))
  unfold b_Li_makeLine_9
  refine ⟨fun hc => ?_, fun hc => ?_⟩
  · have hq24 := hc
    have e25 : ((T7 27 1) + x2).toInt = ((F 27 1).toInt + (x2).toInt) := (t_add (B_eq (g12.1 27 1 rfl rfl) (show B 0 257 (F 27 1) from hI 27 1)) b_x2 (by decide +kernel) (by decide +kernel)).trans (by rw [e22])
    have q26 : (0) ≤ ((T7 27 1) + x2).toInt ∧ ((T7 27 1) + x2).toInt ≤ (513) := (show B 0 513 ((T7 27 1) + x2) from B_w (B_add (B_eq (g12.1 27 1 rfl rfl) (show B 0 257 (F 27 1) from hI 27 1)) b_x2 (by decide +kernel) (by decide +kernel)) (by decide +kernel) (by decide +kernel))
    have i27 : ((T7 27 1) + x2).toInt ≤ (x6_6).toInt := i_le hq24
    refine ⟨(show ¬ ((31 : Nat) = NU) from by decide +kernel), ?_⟩
    refine ⟨(show ¬ ((30 : Nat) = NU) from by decide +kernel), ?_⟩
    refine ⟨(show ¬ ((30 : Nat) = NU) from by decide +kernel), ?_⟩
    refine ⟨(show ¬ ((31 : Nat) = NU) from by decide +kernel), ?_⟩
    have g28 := agc_tr (agc_refl (fs := []) (rs := [29, 30]) (F := F)) g12 (by decide +kernel) (by decide +kernel)
    rw [pc_swap]
    exact hK (B_w (B_add (B_eq (g12.1 27 1 rfl rfl) (show B 0 257 (F 27 1) from hI 27 1)) b_x2 (by decide +kernel) (by decide +kernel)) (by decide +kernel) (by decide +kernel)) hI11 g28
  · have hq29 := (nle_lt hc)
    have b30 : B 0 512 (x6_6) := B_w (B_ltL b10 (B_add (B_eq (g12.1 27 1 rfl rfl) (show B 0 257 (F 27 1) from hI 27 1)) b_x2 (by decide +kernel) (by decide +kernel)) hq29) (by decide +kernel) (by decide +kernel)
    have q31 : (0) ≤ (x6_6).toInt ∧ (x6_6).toInt ≤ (512) := (show B 0 512 (x6_6) from B_w b30 (by decide +kernel) (by decide +kernel))
    have b32 : B 1 513 ((T7 27 1) + x2) := B_w (B_ltR b10 (B_add (B_eq (g12.1 27 1 rfl rfl) (show B 0 257 (F 27 1) from hI 27 1)) b_x2 (by decide +kernel) (by decide +kernel)) hq29) (by decide +kernel) (by decide +kernel)
    have e33 : ((T7 27 1) + x2).toInt = ((F 27 1).toInt + (x2).toInt) := (t_add (B_eq (g12.1 27 1 rfl rfl) (show B 0 257 (F 27 1) from hI 27 1)) b_x2 (by decide +kernel) (by decide +kernel)).trans (by rw [e22])
    have q34 : (1) ≤ ((T7 27 1) + x2).toInt ∧ ((T7 27 1) + x2).toInt ≤ (513) := (show B 1 513 ((T7 27 1) + x2) from B_w b32 (by decide +kernel) (by decide +kernel))
    have i35 : (x6_6).toInt < ((T7 27 1) + x2).toInt := i_lt hq29
    refine ⟨fun hc => ?_, fun hc => ?_⟩
    · have hq36 := hc
      have i37 : (x2).toInt ≤ (x5_5).toInt := i_le hq36
      unfold b_Li_makeLine_51
      refine ⟨fun hc => ?_, fun hc => ?_⟩
      · have i38 : (x4_4).toInt = (T7 27 1).toInt := congrArg Int32.toInt hc
        unfold b_Li_makeLine_82
        unfold b_Li_makeLine_87
        refine ⟨(show ¬ ((29 : Nat) = NU) from by decide +kernel), ?_⟩
        refine ⟨(show c_cl UL 29 = 903 from cl_29), ?_⟩
        refine ⟨(show vp_in ((514 * x1) + x6_6) 8224 from vp_B (B_add (B_mul cqb_514_514_514 b_x1 (by decide +kernel) (by decide +kernel) (by decide +kernel)) b30 (by decide +kernel) (by decide +kernel)) (by decide +kernel) (by decide +kernel)), ?_⟩
        refine ⟨fun hc => ?_, fun hc => ?_⟩
        · exact (B_dis cqb_1_1_1 cqb_0_0_0 hc (by decide +kernel)).elim
        · have i39 : (1 : Int32).toInt ≠ (0 : Int32).toInt := i_ne hc
          have n40 : (1 : Int32).toInt = 1 := cqn_1
          have n41 : (0 : Int32).toInt = 0 := cqn_0
          refine ⟨(show ¬ ((30 : Nat) = NU) from by decide +kernel), ?_⟩
          refine ⟨(show c_cl UL 30 = 902 from cl_30), ?_⟩
          refine ⟨(show vp_in (x6_6) 514 from vp_B b30 (by decide +kernel) (by decide +kernel)), ?_⟩
          unfold b_Li_makeLine_143
          have e42 : (x5_5 + 1).toInt = ((x5_5).toInt + 1) := (t_add b9 cqb_1_1_1 (by decide +kernel) (by decide +kernel)).trans (by rw [cqn_1])
          have q43 : (1) ≤ (x5_5 + 1).toInt ∧ (x5_5 + 1).toInt ≤ (257) := (show B 1 257 (x5_5 + 1) from B_w (B_add b9 cqb_1_1_1 (by decide +kernel) (by decide +kernel)) (by decide +kernel) (by decide +kernel))
          have hI44 := IMc_u (u := 29) (i := ((514 * x1) + x6_6).toNatClampNeg) (v := vp_nar .boolean 1) hI11 (show B 0 1 (vp_nar .boolean 1) from (B_w (show B 1 1 (vp_nar .boolean 1) from ⟨by decide +kernel, by decide +kernel⟩) (by decide +kernel) (by decide +kernel)))
          have hI45 := IMc_u (u := 30) (i := x6_6.toNatClampNeg) (v := 0) hI44 (show B (-2147483648) 2147483647 (0) from (B_w cqb_0_0_0 (by decide +kernel) (by decide +kernel)))
          have g48 := agc_tr (agc_refl (fs := []) (rs := [29, 30]) (F := F)) g12 (by decide +kernel) (by decide +kernel)
          have g47 := agc_r (u := 29) (w := upd (T7 29) ((514 * x1) + x6_6).toNatClampNeg (vp_nar .boolean 1)) g48 rfl (by decide +kernel)
          have g46 := agc_r (u := 30) (w := upd (T7 30) x6_6.toNatClampNeg 0) g47 rfl (by decide +kernel)
          have e49 : (x6_6 + 1).toInt = ((x6_6).toInt + 1) := (t_add b30 cqb_1_1_1 (by decide +kernel) (by decide +kernel)).trans (by rw [cqn_1])
          have q50 : (1) ≤ (x6_6 + 1).toInt ∧ (x6_6 + 1).toInt ≤ (513) := (show B 1 513 (x6_6 + 1) from B_w (B_add b30 cqb_1_1_1 (by decide +kernel) (by decide +kernel)) (by decide +kernel) (by decide +kernel))
          exact hR9 ⟨rfl, rfl, rfl, b8, (show B 0 256 (x5_5 + 1) from ⟨by omega, by omega⟩), (B_w (B_add b30 cqb_1_1_1 (by decide +kernel) (by decide +kernel)) (by decide +kernel) (by decide +kernel)), _, _, rfl, hI45, g46, (by show (x4_4.toInt + (x5_5 + 1).toInt) = (x6_6 + 1).toInt; first | with_reducible assumption | omega), (by show x4_4.toInt ≤ (T7 27 1).toInt; first | with_reducible assumption | omega), (by show (x5_5 + 1).toInt ≤ x2.toInt; first | with_reducible assumption | omega)⟩ (by show (513 - (x6_6 + 1).toInt).toNat < (513 - x6_6.toInt).toNat; omega)
      · have i51 : (x4_4).toInt ≠ (T7 27 1).toInt := i_ne hc
        refine ⟨fun hc => ?_, fun hc => ?_⟩
        · have hq52 := hc
          have i53 : (x2).toInt ≤ (x5_5).toInt := i_le hq52
          unfold b_Li_makeLine_86
          unfold b_Li_makeLine_87
          refine ⟨(show ¬ ((29 : Nat) = NU) from by decide +kernel), ?_⟩
          refine ⟨(show c_cl UL 29 = 903 from cl_29), ?_⟩
          refine ⟨(show vp_in ((514 * x1) + x6_6) 8224 from vp_B (B_add (B_mul cqb_514_514_514 b_x1 (by decide +kernel) (by decide +kernel) (by decide +kernel)) b30 (by decide +kernel) (by decide +kernel)) (by decide +kernel) (by decide +kernel)), ?_⟩
          refine ⟨fun hc => ?_, fun hc => ?_⟩
          · have i54 : (0 : Int32).toInt = (0 : Int32).toInt := congrArg Int32.toInt hc
            have n55 : (0 : Int32).toInt = 0 := cqn_0
            have n56 : (0 : Int32).toInt = 0 := cqn_0
            refine ⟨(show ¬ ((30 : Nat) = NU) from by decide +kernel), ?_⟩
            refine ⟨(show ¬ ((28 : Nat) = NU) from by decide +kernel), ?_⟩
            refine ⟨(show c_cl UL 28 = 902 from cl_28), ?_⟩
            refine ⟨(show vp_in (x4_4) 257 from vp_om (x := x4_4) (by omega) (by omega)), ?_⟩
            have b57 : B 0 256 (x4_4) := ⟨by omega, by omega⟩
            refine ⟨(show c_cl UL 40 = 902 from cl_40), ?_⟩
            refine ⟨(show vp_in (T7 28 x4_4.toNatClampNeg) 257 from vp_B (B_eq (congrFun (g12.2 28 rfl rfl) x4_4.toNatClampNeg) (show B 0 256 (F 28 x4_4.toNatClampNeg) from hI 28 x4_4.toNatClampNeg)) (by decide +kernel) (by decide +kernel)), ?_⟩
            refine ⟨(show c_cl UL 30 = 902 from cl_30), ?_⟩
            refine ⟨(show vp_in (x6_6) 514 from vp_B b30 (by decide +kernel) (by decide +kernel)), ?_⟩
            unfold b_Li_makeLine_143
            have hI58 := IMc_u (u := 29) (i := ((514 * x1) + x6_6).toNatClampNeg) (v := vp_nar .boolean 0) hI11 (show B 0 1 (vp_nar .boolean 0) from (B_w (show B 0 0 (vp_nar .boolean 0) from ⟨by decide +kernel, by decide +kernel⟩) (by decide +kernel) (by decide +kernel)))
            have hI59 := IMc_u (u := 30) (i := x6_6.toNatClampNeg) (v := T7 40 (T7 28 x4_4.toNatClampNeg).toNatClampNeg) hI58 (show B (-2147483648) 2147483647 (T7 40 (T7 28 x4_4.toNatClampNeg).toNatClampNeg) from (B_w (B_eq (congrFun (g12.2 40 rfl rfl) (T7 28 x4_4.toNatClampNeg).toNatClampNeg) (B_any _)) (by decide +kernel) (by decide +kernel)))
            have g62 := agc_tr (agc_refl (fs := []) (rs := [29, 30]) (F := F)) g12 (by decide +kernel) (by decide +kernel)
            have g61 := agc_r (u := 29) (w := upd (T7 29) ((514 * x1) + x6_6).toNatClampNeg (vp_nar .boolean 0)) g62 rfl (by decide +kernel)
            have g60 := agc_r (u := 30) (w := upd (T7 30) x6_6.toNatClampNeg (T7 40 (T7 28 x4_4.toNatClampNeg).toNatClampNeg)) g61 rfl (by decide +kernel)
            have e63 : (x4_4 + 1).toInt = ((x4_4).toInt + 1) := (t_add b57 cqb_1_1_1 (by decide +kernel) (by decide +kernel)).trans (by rw [cqn_1])
            have q64 : (1) ≤ (x4_4 + 1).toInt ∧ (x4_4 + 1).toInt ≤ (257) := (show B 1 257 (x4_4 + 1) from B_w (B_add b57 cqb_1_1_1 (by decide +kernel) (by decide +kernel)) (by decide +kernel) (by decide +kernel))
            have e65 : (x6_6 + 1).toInt = ((x6_6).toInt + 1) := (t_add b30 cqb_1_1_1 (by decide +kernel) (by decide +kernel)).trans (by rw [cqn_1])
            have q66 : (1) ≤ (x6_6 + 1).toInt ∧ (x6_6 + 1).toInt ≤ (513) := (show B 1 513 (x6_6 + 1) from B_w (B_add b30 cqb_1_1_1 (by decide +kernel) (by decide +kernel)) (by decide +kernel) (by decide +kernel))
            exact hR9 ⟨rfl, rfl, rfl, (B_w (B_add b57 cqb_1_1_1 (by decide +kernel) (by decide +kernel)) (by decide +kernel) (by decide +kernel)), b9, (B_w (B_add b30 cqb_1_1_1 (by decide +kernel) (by decide +kernel)) (by decide +kernel) (by decide +kernel)), _, _, rfl, hI59, g60, (by show ((x4_4 + 1).toInt + x5_5.toInt) = (x6_6 + 1).toInt; first | with_reducible assumption | omega), (by show (x4_4 + 1).toInt ≤ (T7 27 1).toInt; first | with_reducible assumption | omega), (by show x5_5.toInt ≤ x2.toInt; first | with_reducible assumption | omega)⟩ (by show (513 - (x6_6 + 1).toInt).toNat < (513 - x6_6.toInt).toNat; omega)
          · exact (hc (B_z cqb_0_0_0)).elim
        · have hq67 := (nle_lt hc)
          have b68 : B 0 255 (x5_5) := B_w (B_ltL b9 b_x2 hq67) (by decide +kernel) (by decide +kernel)
          have q69 : (0) ≤ (x5_5).toInt ∧ (x5_5).toInt ≤ (255) := (show B 0 255 (x5_5) from B_w b68 (by decide +kernel) (by decide +kernel))
          have b70 : B 1 256 (x2) := B_w (B_ltR b9 b_x2 hq67) (by decide +kernel) (by decide +kernel)
          have q71 : (1) ≤ (x2).toInt ∧ (x2).toInt ≤ (256) := (show B 1 256 (x2) from B_w b70 (by decide +kernel) (by decide +kernel))
          have i72 : (x5_5).toInt < (x2).toInt := i_lt hq67
          refine ⟨(show ¬ ((28 : Nat) = NU) from by decide +kernel), ?_⟩
          refine ⟨(show c_cl UL 28 = 902 from cl_28), ?_⟩
          refine ⟨(show vp_in (x4_4) 257 from vp_om (x := x4_4) (by omega) (by omega)), ?_⟩
          have b73 : B 0 256 (x4_4) := ⟨by omega, by omega⟩
          refine ⟨(show c_cl UL 40 = 902 from cl_40), ?_⟩
          refine ⟨(show vp_in (T7 28 x4_4.toNatClampNeg) 257 from vp_B (B_eq (congrFun (g12.2 28 rfl rfl) x4_4.toNatClampNeg) (show B 0 256 (F 28 x4_4.toNatClampNeg) from hI 28 x4_4.toNatClampNeg)) (by decide +kernel) (by decide +kernel)), ?_⟩
          refine ⟨fun hc => ?_, fun hc => ?_⟩
          · have hq74 := hc
            have b75 : B (-2147483648) 0 (F 40 (T7 28 x4_4.toNatClampNeg).toNatClampNeg) := B_w (B_eq (Eq.symm (congrFun (g12.2 40 rfl rfl) (T7 28 x4_4.toNatClampNeg).toNatClampNeg)) (B_leL (B_eq (congrFun (g12.2 40 rfl rfl) (T7 28 x4_4.toNatClampNeg).toNatClampNeg) (B_any _)) cqb_0_0_0 hq74)) (by decide +kernel) (by decide +kernel)
            unfold b_Li_makeLine_86
            unfold b_Li_makeLine_87
            refine ⟨(show ¬ ((29 : Nat) = NU) from by decide +kernel), ?_⟩
            refine ⟨(show c_cl UL 29 = 903 from cl_29), ?_⟩
            refine ⟨(show vp_in ((514 * x1) + x6_6) 8224 from vp_B (B_add (B_mul cqb_514_514_514 b_x1 (by decide +kernel) (by decide +kernel) (by decide +kernel)) b30 (by decide +kernel) (by decide +kernel)) (by decide +kernel) (by decide +kernel)), ?_⟩
            refine ⟨fun hc => ?_, fun hc => ?_⟩
            · have i76 : (0 : Int32).toInt = (0 : Int32).toInt := congrArg Int32.toInt hc
              have n77 : (0 : Int32).toInt = 0 := cqn_0
              have n78 : (0 : Int32).toInt = 0 := cqn_0
              refine ⟨(show ¬ ((30 : Nat) = NU) from by decide +kernel), ?_⟩
              refine ⟨(show ¬ ((28 : Nat) = NU) from by decide +kernel), ?_⟩
              refine ⟨(show c_cl UL 28 = 902 from cl_28), ?_⟩
              refine ⟨(show vp_in (x4_4) 257 from vp_B b73 (by decide +kernel) (by decide +kernel)), ?_⟩
              refine ⟨(show c_cl UL 40 = 902 from cl_40), ?_⟩
              refine ⟨(show vp_in (T7 28 x4_4.toNatClampNeg) 257 from vp_B (B_eq (congrFun (g12.2 28 rfl rfl) x4_4.toNatClampNeg) (show B 0 256 (F 28 x4_4.toNatClampNeg) from hI 28 x4_4.toNatClampNeg)) (by decide +kernel) (by decide +kernel)), ?_⟩
              refine ⟨(show c_cl UL 30 = 902 from cl_30), ?_⟩
              refine ⟨(show vp_in (x6_6) 514 from vp_B b30 (by decide +kernel) (by decide +kernel)), ?_⟩
              unfold b_Li_makeLine_143
              have hI79 := IMc_u (u := 29) (i := ((514 * x1) + x6_6).toNatClampNeg) (v := vp_nar .boolean 0) hI11 (show B 0 1 (vp_nar .boolean 0) from (B_w (show B 0 0 (vp_nar .boolean 0) from ⟨by decide +kernel, by decide +kernel⟩) (by decide +kernel) (by decide +kernel)))
              have hI80 := IMc_u (u := 30) (i := x6_6.toNatClampNeg) (v := T7 40 (T7 28 x4_4.toNatClampNeg).toNatClampNeg) hI79 (show B (-2147483648) 2147483647 (T7 40 (T7 28 x4_4.toNatClampNeg).toNatClampNeg) from (B_w (B_eq (congrFun (g12.2 40 rfl rfl) (T7 28 x4_4.toNatClampNeg).toNatClampNeg) b75) (by decide +kernel) (by decide +kernel)))
              have g83 := agc_tr (agc_refl (fs := []) (rs := [29, 30]) (F := F)) g12 (by decide +kernel) (by decide +kernel)
              have g82 := agc_r (u := 29) (w := upd (T7 29) ((514 * x1) + x6_6).toNatClampNeg (vp_nar .boolean 0)) g83 rfl (by decide +kernel)
              have g81 := agc_r (u := 30) (w := upd (T7 30) x6_6.toNatClampNeg (T7 40 (T7 28 x4_4.toNatClampNeg).toNatClampNeg)) g82 rfl (by decide +kernel)
              have e84 : (x4_4 + 1).toInt = ((x4_4).toInt + 1) := (t_add b73 cqb_1_1_1 (by decide +kernel) (by decide +kernel)).trans (by rw [cqn_1])
              have q85 : (1) ≤ (x4_4 + 1).toInt ∧ (x4_4 + 1).toInt ≤ (257) := (show B 1 257 (x4_4 + 1) from B_w (B_add b73 cqb_1_1_1 (by decide +kernel) (by decide +kernel)) (by decide +kernel) (by decide +kernel))
              have e86 : (x6_6 + 1).toInt = ((x6_6).toInt + 1) := (t_add b30 cqb_1_1_1 (by decide +kernel) (by decide +kernel)).trans (by rw [cqn_1])
              have q87 : (1) ≤ (x6_6 + 1).toInt ∧ (x6_6 + 1).toInt ≤ (513) := (show B 1 513 (x6_6 + 1) from B_w (B_add b30 cqb_1_1_1 (by decide +kernel) (by decide +kernel)) (by decide +kernel) (by decide +kernel))
              exact hR9 ⟨rfl, rfl, rfl, (B_w (B_add b73 cqb_1_1_1 (by decide +kernel) (by decide +kernel)) (by decide +kernel) (by decide +kernel)), (B_w b68 (by decide +kernel) (by decide +kernel)), (B_w (B_add b30 cqb_1_1_1 (by decide +kernel) (by decide +kernel)) (by decide +kernel) (by decide +kernel)), _, _, rfl, hI80, g81, (by show ((x4_4 + 1).toInt + x5_5.toInt) = (x6_6 + 1).toInt; first | with_reducible assumption | omega), (by show (x4_4 + 1).toInt ≤ (T7 27 1).toInt; first | with_reducible assumption | omega), (by show x5_5.toInt ≤ x2.toInt; first | with_reducible assumption | omega)⟩ (by show (513 - (x6_6 + 1).toInt).toNat < (513 - x6_6.toInt).toNat; omega)
            · exact (hc (B_z cqb_0_0_0)).elim
          · have hq88 := (nle_lt hc)
            have b89 : B 1 2147483647 (F 40 (T7 28 x4_4.toNatClampNeg).toNatClampNeg) := B_w (B_eq (Eq.symm (congrFun (g12.2 40 rfl rfl) (T7 28 x4_4.toNatClampNeg).toNatClampNeg)) (B_ltR cqb_0_0_0 (B_eq (congrFun (g12.2 40 rfl rfl) (T7 28 x4_4.toNatClampNeg).toNatClampNeg) (B_any _)) hq88)) (by decide +kernel) (by decide +kernel)
            unfold b_Li_makeLine_82
            unfold b_Li_makeLine_87
            refine ⟨(show ¬ ((29 : Nat) = NU) from by decide +kernel), ?_⟩
            refine ⟨(show c_cl UL 29 = 903 from cl_29), ?_⟩
            refine ⟨(show vp_in ((514 * x1) + x6_6) 8224 from vp_B (B_add (B_mul cqb_514_514_514 b_x1 (by decide +kernel) (by decide +kernel) (by decide +kernel)) b30 (by decide +kernel) (by decide +kernel)) (by decide +kernel) (by decide +kernel)), ?_⟩
            refine ⟨fun hc => ?_, fun hc => ?_⟩
            · exact (B_dis cqb_1_1_1 cqb_0_0_0 hc (by decide +kernel)).elim
            · have i90 : (1 : Int32).toInt ≠ (0 : Int32).toInt := i_ne hc
              have n91 : (1 : Int32).toInt = 1 := cqn_1
              have n92 : (0 : Int32).toInt = 0 := cqn_0
              refine ⟨(show ¬ ((30 : Nat) = NU) from by decide +kernel), ?_⟩
              refine ⟨(show c_cl UL 30 = 902 from cl_30), ?_⟩
              refine ⟨(show vp_in (x6_6) 514 from vp_B b30 (by decide +kernel) (by decide +kernel)), ?_⟩
              unfold b_Li_makeLine_143
              have hI93 := IMc_u (u := 29) (i := ((514 * x1) + x6_6).toNatClampNeg) (v := vp_nar .boolean 1) hI11 (show B 0 1 (vp_nar .boolean 1) from (B_w (show B 1 1 (vp_nar .boolean 1) from ⟨by decide +kernel, by decide +kernel⟩) (by decide +kernel) (by decide +kernel)))
              have hI94 := IMc_u (u := 30) (i := x6_6.toNatClampNeg) (v := 0) hI93 (show B (-2147483648) 2147483647 (0) from (B_w cqb_0_0_0 (by decide +kernel) (by decide +kernel)))
              have g97 := agc_tr (agc_refl (fs := []) (rs := [29, 30]) (F := F)) g12 (by decide +kernel) (by decide +kernel)
              have g96 := agc_r (u := 29) (w := upd (T7 29) ((514 * x1) + x6_6).toNatClampNeg (vp_nar .boolean 1)) g97 rfl (by decide +kernel)
              have g95 := agc_r (u := 30) (w := upd (T7 30) x6_6.toNatClampNeg 0) g96 rfl (by decide +kernel)
              have e98 : (x5_5 + 1).toInt = ((x5_5).toInt + 1) := (t_add b68 cqb_1_1_1 (by decide +kernel) (by decide +kernel)).trans (by rw [cqn_1])
              have q99 : (1) ≤ (x5_5 + 1).toInt ∧ (x5_5 + 1).toInt ≤ (256) := (show B 1 256 (x5_5 + 1) from B_w (B_add b68 cqb_1_1_1 (by decide +kernel) (by decide +kernel)) (by decide +kernel) (by decide +kernel))
              have e100 : (x6_6 + 1).toInt = ((x6_6).toInt + 1) := (t_add b30 cqb_1_1_1 (by decide +kernel) (by decide +kernel)).trans (by rw [cqn_1])
              have q101 : (1) ≤ (x6_6 + 1).toInt ∧ (x6_6 + 1).toInt ≤ (513) := (show B 1 513 (x6_6 + 1) from B_w (B_add b30 cqb_1_1_1 (by decide +kernel) (by decide +kernel)) (by decide +kernel) (by decide +kernel))
              exact hR9 ⟨rfl, rfl, rfl, (B_w b73 (by decide +kernel) (by decide +kernel)), (B_w (B_add b68 cqb_1_1_1 (by decide +kernel) (by decide +kernel)) (by decide +kernel) (by decide +kernel)), (B_w (B_add b30 cqb_1_1_1 (by decide +kernel) (by decide +kernel)) (by decide +kernel) (by decide +kernel)), _, _, rfl, hI94, g95, (by show (x4_4.toInt + (x5_5 + 1).toInt) = (x6_6 + 1).toInt; first | with_reducible assumption | omega), (by show x4_4.toInt ≤ (T7 27 1).toInt; first | with_reducible assumption | omega), (by show (x5_5 + 1).toInt ≤ x2.toInt; first | with_reducible assumption | omega)⟩ (by show (513 - (x6_6 + 1).toInt).toNat < (513 - x6_6.toInt).toNat; omega)
    · have hq102 := (nle_lt hc)
      have b103 : B 0 255 (x5_5) := B_w (B_ltL b9 b_x2 hq102) (by decide +kernel) (by decide +kernel)
      have q104 : (0) ≤ (x5_5).toInt ∧ (x5_5).toInt ≤ (255) := (show B 0 255 (x5_5) from B_w b103 (by decide +kernel) (by decide +kernel))
      have b105 : B 1 256 (x2) := B_w (B_ltR b9 b_x2 hq102) (by decide +kernel) (by decide +kernel)
      have q106 : (1) ≤ (x2).toInt ∧ (x2).toInt ≤ (256) := (show B 1 256 (x2) from B_w b105 (by decide +kernel) (by decide +kernel))
      have i107 : (x5_5).toInt < (x2).toInt := i_lt hq102
      refine ⟨(show ¬ ((31 : Nat) = NU) from by decide +kernel), ?_⟩
      refine ⟨(show c_cl UL 31 = 902 from cl_31), ?_⟩
      refine ⟨(show vp_in (2 * x5_5) 514 from vp_B (B_mul cqb_2_2_2 b103 (by decide +kernel) (by decide +kernel) (by decide +kernel)) (by decide +kernel) (by decide +kernel)), ?_⟩
      refine ⟨(show ¬ ((31 : Nat) = NU) from by decide +kernel), ?_⟩
      refine ⟨(show vp_in ((2 * x5_5) + 1) 514 from vp_B (B_add (B_mul cqb_2_2_2 b103 (by decide +kernel) (by decide +kernel) (by decide +kernel)) cqb_1_1_1 (by decide +kernel) (by decide +kernel)) (by decide +kernel) (by decide +kernel)), ?_⟩
      unfold b_Li_makeLine_51
      refine ⟨fun hc => ?_, fun hc => ?_⟩
      · have i108 : (x4_4).toInt = (T7 27 1).toInt := congrArg Int32.toInt hc
        unfold b_Li_makeLine_82
        unfold b_Li_makeLine_87
        refine ⟨(show ¬ ((29 : Nat) = NU) from by decide +kernel), ?_⟩
        refine ⟨(show c_cl UL 29 = 903 from cl_29), ?_⟩
        refine ⟨(show vp_in ((514 * x1) + x6_6) 8224 from vp_B (B_add (B_mul cqb_514_514_514 b_x1 (by decide +kernel) (by decide +kernel) (by decide +kernel)) b30 (by decide +kernel) (by decide +kernel)) (by decide +kernel) (by decide +kernel)), ?_⟩
        refine ⟨fun hc => ?_, fun hc => ?_⟩
        · exact (B_dis cqb_1_1_1 cqb_0_0_0 hc (by decide +kernel)).elim
        · have i109 : (1 : Int32).toInt ≠ (0 : Int32).toInt := i_ne hc
          have n110 : (1 : Int32).toInt = 1 := cqn_1
          have n111 : (0 : Int32).toInt = 0 := cqn_0
          refine ⟨(show ¬ ((30 : Nat) = NU) from by decide +kernel), ?_⟩
          refine ⟨(show c_cl UL 30 = 902 from cl_30), ?_⟩
          refine ⟨(show vp_in (x6_6) 514 from vp_B b30 (by decide +kernel) (by decide +kernel)), ?_⟩
          unfold b_Li_makeLine_143
          have hI112 := IMc_u (u := 29) (i := ((514 * x1) + x6_6).toNatClampNeg) (v := vp_nar .boolean 1) hI11 (show B 0 1 (vp_nar .boolean 1) from (B_w (show B 1 1 (vp_nar .boolean 1) from ⟨by decide +kernel, by decide +kernel⟩) (by decide +kernel) (by decide +kernel)))
          have hI113 := IMc_u (u := 30) (i := x6_6.toNatClampNeg) (v := (T7 31 (2 * x5_5).toNatClampNeg) + (T7 31 ((2 * x5_5) + 1).toNatClampNeg)) hI112 (show B (-2147483648) 2147483647 ((T7 31 (2 * x5_5).toNatClampNeg) + (T7 31 ((2 * x5_5) + 1).toNatClampNeg)) from (B_w (B_any _) (by decide +kernel) (by decide +kernel)))
          have g116 := agc_tr (agc_refl (fs := []) (rs := [29, 30]) (F := F)) g12 (by decide +kernel) (by decide +kernel)
          have g115 := agc_r (u := 29) (w := upd (T7 29) ((514 * x1) + x6_6).toNatClampNeg (vp_nar .boolean 1)) g116 rfl (by decide +kernel)
          have g114 := agc_r (u := 30) (w := upd (T7 30) x6_6.toNatClampNeg ((T7 31 (2 * x5_5).toNatClampNeg) + (T7 31 ((2 * x5_5) + 1).toNatClampNeg))) g115 rfl (by decide +kernel)
          have e117 : (x5_5 + 1).toInt = ((x5_5).toInt + 1) := (t_add b103 cqb_1_1_1 (by decide +kernel) (by decide +kernel)).trans (by rw [cqn_1])
          have q118 : (1) ≤ (x5_5 + 1).toInt ∧ (x5_5 + 1).toInt ≤ (256) := (show B 1 256 (x5_5 + 1) from B_w (B_add b103 cqb_1_1_1 (by decide +kernel) (by decide +kernel)) (by decide +kernel) (by decide +kernel))
          have e119 : (x6_6 + 1).toInt = ((x6_6).toInt + 1) := (t_add b30 cqb_1_1_1 (by decide +kernel) (by decide +kernel)).trans (by rw [cqn_1])
          have q120 : (1) ≤ (x6_6 + 1).toInt ∧ (x6_6 + 1).toInt ≤ (513) := (show B 1 513 (x6_6 + 1) from B_w (B_add b30 cqb_1_1_1 (by decide +kernel) (by decide +kernel)) (by decide +kernel) (by decide +kernel))
          exact hR9 ⟨rfl, rfl, rfl, b8, (B_w (B_add b103 cqb_1_1_1 (by decide +kernel) (by decide +kernel)) (by decide +kernel) (by decide +kernel)), (B_w (B_add b30 cqb_1_1_1 (by decide +kernel) (by decide +kernel)) (by decide +kernel) (by decide +kernel)), _, _, rfl, hI113, g114, (by show (x4_4.toInt + (x5_5 + 1).toInt) = (x6_6 + 1).toInt; first | with_reducible assumption | omega), (by show x4_4.toInt ≤ (T7 27 1).toInt; first | with_reducible assumption | omega), (by show (x5_5 + 1).toInt ≤ x2.toInt; first | with_reducible assumption | omega)⟩ (by show (513 - (x6_6 + 1).toInt).toNat < (513 - x6_6.toInt).toNat; omega)
      · have i121 : (x4_4).toInt ≠ (T7 27 1).toInt := i_ne hc
        refine ⟨fun hc => ?_, fun hc => ?_⟩
        · have hq122 := hc
          have b123 : B 1 255 (x2) := B_w (B_leL b105 b103 hq122) (by decide +kernel) (by decide +kernel)
          have q124 : (1) ≤ (x2).toInt ∧ (x2).toInt ≤ (255) := (show B 1 255 (x2) from B_w b123 (by decide +kernel) (by decide +kernel))
          have b125 : B 1 255 (x5_5) := B_w (B_leR b105 b103 hq122) (by decide +kernel) (by decide +kernel)
          have q126 : (1) ≤ (x5_5).toInt ∧ (x5_5).toInt ≤ (255) := (show B 1 255 (x5_5) from B_w b125 (by decide +kernel) (by decide +kernel))
          have i127 : (x2).toInt ≤ (x5_5).toInt := i_le hq122
          unfold b_Li_makeLine_86
          unfold b_Li_makeLine_87
          refine ⟨(show ¬ ((29 : Nat) = NU) from by decide +kernel), ?_⟩
          refine ⟨(show c_cl UL 29 = 903 from cl_29), ?_⟩
          refine ⟨(show vp_in ((514 * x1) + x6_6) 8224 from vp_B (B_add (B_mul cqb_514_514_514 b_x1 (by decide +kernel) (by decide +kernel) (by decide +kernel)) b30 (by decide +kernel) (by decide +kernel)) (by decide +kernel) (by decide +kernel)), ?_⟩
          refine ⟨fun hc => ?_, fun hc => ?_⟩
          · have i128 : (0 : Int32).toInt = (0 : Int32).toInt := congrArg Int32.toInt hc
            have n129 : (0 : Int32).toInt = 0 := cqn_0
            have n130 : (0 : Int32).toInt = 0 := cqn_0
            refine ⟨(show ¬ ((30 : Nat) = NU) from by decide +kernel), ?_⟩
            refine ⟨(show ¬ ((28 : Nat) = NU) from by decide +kernel), ?_⟩
            refine ⟨(show c_cl UL 28 = 902 from cl_28), ?_⟩
            refine ⟨(show vp_in (x4_4) 257 from vp_om (x := x4_4) (by omega) (by omega)), ?_⟩
            have b131 : B 0 256 (x4_4) := ⟨by omega, by omega⟩
            refine ⟨(show c_cl UL 40 = 902 from cl_40), ?_⟩
            refine ⟨(show vp_in (T7 28 x4_4.toNatClampNeg) 257 from vp_B (B_eq (congrFun (g12.2 28 rfl rfl) x4_4.toNatClampNeg) (show B 0 256 (F 28 x4_4.toNatClampNeg) from hI 28 x4_4.toNatClampNeg)) (by decide +kernel) (by decide +kernel)), ?_⟩
            refine ⟨(show c_cl UL 30 = 902 from cl_30), ?_⟩
            refine ⟨(show vp_in (x6_6) 514 from vp_B b30 (by decide +kernel) (by decide +kernel)), ?_⟩
            unfold b_Li_makeLine_143
            have hI132 := IMc_u (u := 29) (i := ((514 * x1) + x6_6).toNatClampNeg) (v := vp_nar .boolean 0) hI11 (show B 0 1 (vp_nar .boolean 0) from (B_w (show B 0 0 (vp_nar .boolean 0) from ⟨by decide +kernel, by decide +kernel⟩) (by decide +kernel) (by decide +kernel)))
            have hI133 := IMc_u (u := 30) (i := x6_6.toNatClampNeg) (v := T7 40 (T7 28 x4_4.toNatClampNeg).toNatClampNeg) hI132 (show B (-2147483648) 2147483647 (T7 40 (T7 28 x4_4.toNatClampNeg).toNatClampNeg) from (B_w (B_eq (congrFun (g12.2 40 rfl rfl) (T7 28 x4_4.toNatClampNeg).toNatClampNeg) (B_any _)) (by decide +kernel) (by decide +kernel)))
            have g136 := agc_tr (agc_refl (fs := []) (rs := [29, 30]) (F := F)) g12 (by decide +kernel) (by decide +kernel)
            have g135 := agc_r (u := 29) (w := upd (T7 29) ((514 * x1) + x6_6).toNatClampNeg (vp_nar .boolean 0)) g136 rfl (by decide +kernel)
            have g134 := agc_r (u := 30) (w := upd (T7 30) x6_6.toNatClampNeg (T7 40 (T7 28 x4_4.toNatClampNeg).toNatClampNeg)) g135 rfl (by decide +kernel)
            have e137 : (x4_4 + 1).toInt = ((x4_4).toInt + 1) := (t_add b131 cqb_1_1_1 (by decide +kernel) (by decide +kernel)).trans (by rw [cqn_1])
            have q138 : (1) ≤ (x4_4 + 1).toInt ∧ (x4_4 + 1).toInt ≤ (257) := (show B 1 257 (x4_4 + 1) from B_w (B_add b131 cqb_1_1_1 (by decide +kernel) (by decide +kernel)) (by decide +kernel) (by decide +kernel))
            have e139 : (x6_6 + 1).toInt = ((x6_6).toInt + 1) := (t_add b30 cqb_1_1_1 (by decide +kernel) (by decide +kernel)).trans (by rw [cqn_1])
            have q140 : (1) ≤ (x6_6 + 1).toInt ∧ (x6_6 + 1).toInt ≤ (513) := (show B 1 513 (x6_6 + 1) from B_w (B_add b30 cqb_1_1_1 (by decide +kernel) (by decide +kernel)) (by decide +kernel) (by decide +kernel))
            exact hR9 ⟨rfl, rfl, rfl, (B_w (B_add b131 cqb_1_1_1 (by decide +kernel) (by decide +kernel)) (by decide +kernel) (by decide +kernel)), (B_w b125 (by decide +kernel) (by decide +kernel)), (B_w (B_add b30 cqb_1_1_1 (by decide +kernel) (by decide +kernel)) (by decide +kernel) (by decide +kernel)), _, _, rfl, hI133, g134, (by show ((x4_4 + 1).toInt + x5_5.toInt) = (x6_6 + 1).toInt; first | with_reducible assumption | omega), (by show (x4_4 + 1).toInt ≤ (T7 27 1).toInt; first | with_reducible assumption | omega), (by show x5_5.toInt ≤ x2.toInt; first | with_reducible assumption | omega)⟩ (by show (513 - (x6_6 + 1).toInt).toNat < (513 - x6_6.toInt).toNat; omega)
          · exact (hc (B_z cqb_0_0_0)).elim
        · have hq141 := (nle_lt hc)
          have i142 : (x5_5).toInt < (x2).toInt := i_lt hq141
          refine ⟨(show ¬ ((28 : Nat) = NU) from by decide +kernel), ?_⟩
          refine ⟨(show c_cl UL 28 = 902 from cl_28), ?_⟩
          refine ⟨(show vp_in (x4_4) 257 from vp_om (x := x4_4) (by omega) (by omega)), ?_⟩
          have b143 : B 0 256 (x4_4) := ⟨by omega, by omega⟩
          refine ⟨(show c_cl UL 40 = 902 from cl_40), ?_⟩
          refine ⟨(show vp_in (T7 28 x4_4.toNatClampNeg) 257 from vp_B (B_eq (congrFun (g12.2 28 rfl rfl) x4_4.toNatClampNeg) (show B 0 256 (F 28 x4_4.toNatClampNeg) from hI 28 x4_4.toNatClampNeg)) (by decide +kernel) (by decide +kernel)), ?_⟩
          refine ⟨fun hc => ?_, fun hc => ?_⟩
          · have hq144 := hc
            have e145 : (T7 40 (T7 28 x4_4.toNatClampNeg).toNatClampNeg).toInt = (F 40 (T7 28 x4_4.toNatClampNeg).toNatClampNeg).toInt := (congrArg Int32.toInt (congrFun (g12.2 40 rfl rfl) (T7 28 x4_4.toNatClampNeg).toNatClampNeg)).trans rfl
            have i146 : (T7 40 (T7 28 x4_4.toNatClampNeg).toNatClampNeg).toInt ≤ ((T7 31 (2 * x5_5).toNatClampNeg) + (T7 31 ((2 * x5_5) + 1).toNatClampNeg)).toInt := i_le hq144
            unfold b_Li_makeLine_86
            unfold b_Li_makeLine_87
            refine ⟨(show ¬ ((29 : Nat) = NU) from by decide +kernel), ?_⟩
            refine ⟨(show c_cl UL 29 = 903 from cl_29), ?_⟩
            refine ⟨(show vp_in ((514 * x1) + x6_6) 8224 from vp_B (B_add (B_mul cqb_514_514_514 b_x1 (by decide +kernel) (by decide +kernel) (by decide +kernel)) b30 (by decide +kernel) (by decide +kernel)) (by decide +kernel) (by decide +kernel)), ?_⟩
            refine ⟨fun hc => ?_, fun hc => ?_⟩
            · have i147 : (0 : Int32).toInt = (0 : Int32).toInt := congrArg Int32.toInt hc
              have n148 : (0 : Int32).toInt = 0 := cqn_0
              have n149 : (0 : Int32).toInt = 0 := cqn_0
              refine ⟨(show ¬ ((30 : Nat) = NU) from by decide +kernel), ?_⟩
              refine ⟨(show ¬ ((28 : Nat) = NU) from by decide +kernel), ?_⟩
              refine ⟨(show c_cl UL 28 = 902 from cl_28), ?_⟩
              refine ⟨(show vp_in (x4_4) 257 from vp_B b143 (by decide +kernel) (by decide +kernel)), ?_⟩
              refine ⟨(show c_cl UL 40 = 902 from cl_40), ?_⟩
              refine ⟨(show vp_in (T7 28 x4_4.toNatClampNeg) 257 from vp_B (B_eq (congrFun (g12.2 28 rfl rfl) x4_4.toNatClampNeg) (show B 0 256 (F 28 x4_4.toNatClampNeg) from hI 28 x4_4.toNatClampNeg)) (by decide +kernel) (by decide +kernel)), ?_⟩
              refine ⟨(show c_cl UL 30 = 902 from cl_30), ?_⟩
              refine ⟨(show vp_in (x6_6) 514 from vp_B b30 (by decide +kernel) (by decide +kernel)), ?_⟩
              unfold b_Li_makeLine_143
              have hI150 := IMc_u (u := 29) (i := ((514 * x1) + x6_6).toNatClampNeg) (v := vp_nar .boolean 0) hI11 (show B 0 1 (vp_nar .boolean 0) from (B_w (show B 0 0 (vp_nar .boolean 0) from ⟨by decide +kernel, by decide +kernel⟩) (by decide +kernel) (by decide +kernel)))
              have hI151 := IMc_u (u := 30) (i := x6_6.toNatClampNeg) (v := T7 40 (T7 28 x4_4.toNatClampNeg).toNatClampNeg) hI150 (show B (-2147483648) 2147483647 (T7 40 (T7 28 x4_4.toNatClampNeg).toNatClampNeg) from (B_w (B_eq (congrFun (g12.2 40 rfl rfl) (T7 28 x4_4.toNatClampNeg).toNatClampNeg) (B_any _)) (by decide +kernel) (by decide +kernel)))
              have g154 := agc_tr (agc_refl (fs := []) (rs := [29, 30]) (F := F)) g12 (by decide +kernel) (by decide +kernel)
              have g153 := agc_r (u := 29) (w := upd (T7 29) ((514 * x1) + x6_6).toNatClampNeg (vp_nar .boolean 0)) g154 rfl (by decide +kernel)
              have g152 := agc_r (u := 30) (w := upd (T7 30) x6_6.toNatClampNeg (T7 40 (T7 28 x4_4.toNatClampNeg).toNatClampNeg)) g153 rfl (by decide +kernel)
              have e155 : (x4_4 + 1).toInt = ((x4_4).toInt + 1) := (t_add b143 cqb_1_1_1 (by decide +kernel) (by decide +kernel)).trans (by rw [cqn_1])
              have q156 : (1) ≤ (x4_4 + 1).toInt ∧ (x4_4 + 1).toInt ≤ (257) := (show B 1 257 (x4_4 + 1) from B_w (B_add b143 cqb_1_1_1 (by decide +kernel) (by decide +kernel)) (by decide +kernel) (by decide +kernel))
              have e157 : (x6_6 + 1).toInt = ((x6_6).toInt + 1) := (t_add b30 cqb_1_1_1 (by decide +kernel) (by decide +kernel)).trans (by rw [cqn_1])
              have q158 : (1) ≤ (x6_6 + 1).toInt ∧ (x6_6 + 1).toInt ≤ (513) := (show B 1 513 (x6_6 + 1) from B_w (B_add b30 cqb_1_1_1 (by decide +kernel) (by decide +kernel)) (by decide +kernel) (by decide +kernel))
              exact hR9 ⟨rfl, rfl, rfl, (B_w (B_add b143 cqb_1_1_1 (by decide +kernel) (by decide +kernel)) (by decide +kernel) (by decide +kernel)), (B_w b103 (by decide +kernel) (by decide +kernel)), (B_w (B_add b30 cqb_1_1_1 (by decide +kernel) (by decide +kernel)) (by decide +kernel) (by decide +kernel)), _, _, rfl, hI151, g152, (by show ((x4_4 + 1).toInt + x5_5.toInt) = (x6_6 + 1).toInt; first | with_reducible assumption | omega), (by show (x4_4 + 1).toInt ≤ (T7 27 1).toInt; first | with_reducible assumption | omega), (by show x5_5.toInt ≤ x2.toInt; first | with_reducible assumption | omega)⟩ (by show (513 - (x6_6 + 1).toInt).toNat < (513 - x6_6.toInt).toNat; omega)
            · exact (hc (B_z cqb_0_0_0)).elim
          · have hq159 := (nle_lt hc)
            have b160 : B (-2147483648) 2147483646 ((T7 31 (2 * x5_5).toNatClampNeg) + (T7 31 ((2 * x5_5) + 1).toNatClampNeg)) := B_w (B_ltL (B_any _) (B_eq (congrFun (g12.2 40 rfl rfl) (T7 28 x4_4.toNatClampNeg).toNatClampNeg) (B_any _)) hq159) (by decide +kernel) (by decide +kernel)
            have b161 : B (-2147483647) 2147483647 (F 40 (T7 28 x4_4.toNatClampNeg).toNatClampNeg) := B_w (B_eq (Eq.symm (congrFun (g12.2 40 rfl rfl) (T7 28 x4_4.toNatClampNeg).toNatClampNeg)) (B_ltR (B_any _) (B_eq (congrFun (g12.2 40 rfl rfl) (T7 28 x4_4.toNatClampNeg).toNatClampNeg) (B_any _)) hq159)) (by decide +kernel) (by decide +kernel)
            have q162 : (-2147483648) ≤ ((T7 31 (2 * x5_5).toNatClampNeg) + (T7 31 ((2 * x5_5) + 1).toNatClampNeg)).toInt ∧ ((T7 31 (2 * x5_5).toNatClampNeg) + (T7 31 ((2 * x5_5) + 1).toNatClampNeg)).toInt ≤ (2147483646) := (show B (-2147483648) 2147483646 ((T7 31 (2 * x5_5).toNatClampNeg) + (T7 31 ((2 * x5_5) + 1).toNatClampNeg)) from B_w b160 (by decide +kernel) (by decide +kernel))
            have q163 : (-2147483647) ≤ (F 40 (T7 28 x4_4.toNatClampNeg).toNatClampNeg).toInt ∧ (F 40 (T7 28 x4_4.toNatClampNeg).toNatClampNeg).toInt ≤ (2147483647) := (show B (-2147483647) 2147483647 (F 40 (T7 28 x4_4.toNatClampNeg).toNatClampNeg) from B_w b161 (by decide +kernel) (by decide +kernel))
            have e164 : (T7 40 (T7 28 x4_4.toNatClampNeg).toNatClampNeg).toInt = (F 40 (T7 28 x4_4.toNatClampNeg).toNatClampNeg).toInt := (congrArg Int32.toInt (congrFun (g12.2 40 rfl rfl) (T7 28 x4_4.toNatClampNeg).toNatClampNeg)).trans rfl
            have i165 : ((T7 31 (2 * x5_5).toNatClampNeg) + (T7 31 ((2 * x5_5) + 1).toNatClampNeg)).toInt < (T7 40 (T7 28 x4_4.toNatClampNeg).toNatClampNeg).toInt := i_lt hq159
            unfold b_Li_makeLine_82
            unfold b_Li_makeLine_87
            refine ⟨(show ¬ ((29 : Nat) = NU) from by decide +kernel), ?_⟩
            refine ⟨(show c_cl UL 29 = 903 from cl_29), ?_⟩
            refine ⟨(show vp_in ((514 * x1) + x6_6) 8224 from vp_B (B_add (B_mul cqb_514_514_514 b_x1 (by decide +kernel) (by decide +kernel) (by decide +kernel)) b30 (by decide +kernel) (by decide +kernel)) (by decide +kernel) (by decide +kernel)), ?_⟩
            refine ⟨fun hc => ?_, fun hc => ?_⟩
            · exact (B_dis cqb_1_1_1 cqb_0_0_0 hc (by decide +kernel)).elim
            · have i166 : (1 : Int32).toInt ≠ (0 : Int32).toInt := i_ne hc
              have n167 : (1 : Int32).toInt = 1 := cqn_1
              have n168 : (0 : Int32).toInt = 0 := cqn_0
              refine ⟨(show ¬ ((30 : Nat) = NU) from by decide +kernel), ?_⟩
              refine ⟨(show c_cl UL 30 = 902 from cl_30), ?_⟩
              refine ⟨(show vp_in (x6_6) 514 from vp_B b30 (by decide +kernel) (by decide +kernel)), ?_⟩
              unfold b_Li_makeLine_143
              have hI169 := IMc_u (u := 29) (i := ((514 * x1) + x6_6).toNatClampNeg) (v := vp_nar .boolean 1) hI11 (show B 0 1 (vp_nar .boolean 1) from (B_w (show B 1 1 (vp_nar .boolean 1) from ⟨by decide +kernel, by decide +kernel⟩) (by decide +kernel) (by decide +kernel)))
              have hI170 := IMc_u (u := 30) (i := x6_6.toNatClampNeg) (v := (T7 31 (2 * x5_5).toNatClampNeg) + (T7 31 ((2 * x5_5) + 1).toNatClampNeg)) hI169 (show B (-2147483648) 2147483647 ((T7 31 (2 * x5_5).toNatClampNeg) + (T7 31 ((2 * x5_5) + 1).toNatClampNeg)) from (B_w b160 (by decide +kernel) (by decide +kernel)))
              have g173 := agc_tr (agc_refl (fs := []) (rs := [29, 30]) (F := F)) g12 (by decide +kernel) (by decide +kernel)
              have g172 := agc_r (u := 29) (w := upd (T7 29) ((514 * x1) + x6_6).toNatClampNeg (vp_nar .boolean 1)) g173 rfl (by decide +kernel)
              have g171 := agc_r (u := 30) (w := upd (T7 30) x6_6.toNatClampNeg ((T7 31 (2 * x5_5).toNatClampNeg) + (T7 31 ((2 * x5_5) + 1).toNatClampNeg))) g172 rfl (by decide +kernel)
              have e174 : (x5_5 + 1).toInt = ((x5_5).toInt + 1) := (t_add b103 cqb_1_1_1 (by decide +kernel) (by decide +kernel)).trans (by rw [cqn_1])
              have q175 : (1) ≤ (x5_5 + 1).toInt ∧ (x5_5 + 1).toInt ≤ (256) := (show B 1 256 (x5_5 + 1) from B_w (B_add b103 cqb_1_1_1 (by decide +kernel) (by decide +kernel)) (by decide +kernel) (by decide +kernel))
              have e176 : (x6_6 + 1).toInt = ((x6_6).toInt + 1) := (t_add b30 cqb_1_1_1 (by decide +kernel) (by decide +kernel)).trans (by rw [cqn_1])
              have q177 : (1) ≤ (x6_6 + 1).toInt ∧ (x6_6 + 1).toInt ≤ (513) := (show B 1 513 (x6_6 + 1) from B_w (B_add b30 cqb_1_1_1 (by decide +kernel) (by decide +kernel)) (by decide +kernel) (by decide +kernel))
              exact hR9 ⟨rfl, rfl, rfl, (B_w b143 (by decide +kernel) (by decide +kernel)), (B_w (B_add b103 cqb_1_1_1 (by decide +kernel) (by decide +kernel)) (by decide +kernel) (by decide +kernel)), (B_w (B_add b30 cqb_1_1_1 (by decide +kernel) (by decide +kernel)) (by decide +kernel) (by decide +kernel)), _, _, rfl, hI170, g171, (by show (x4_4.toInt + (x5_5 + 1).toInt) = (x6_6 + 1).toInt; first | with_reducible assumption | omega), (by show x4_4.toInt ≤ (T7 27 1).toInt; first | with_reducible assumption | omega), (by show (x5_5 + 1).toInt ≤ x2.toInt; first | with_reducible assumption | omega)⟩ (by show (513 - (x6_6 + 1).toInt).toNat < (513 - x6_6.toInt).toNat; omega)
theorem h_Li_makeLine_u27_x340 {a : Bool} {b : Bool} {P : Nat → Nat → Nat} {x1 : Int32} {x2 : Int32} {F : cF} {L : cL} {K : Int32 → cs → Prop} (b_x1 : B 1 15 x1) (b_x2 : B 0 256 x2) (hI : IMc F) (hK : ∀ {v : Int32} {bZ : Bool} {Z : cF} {LZ : cL}, B 0 513 v → IMc Z → agc [] [29, 30, 31] F Z → K v (Z, LZ, PC a bZ P)) : p_Li_makeLine UL 27 x1 x2 40 (F, L, PC a b P) K := by
  cases b
  · exact h_Li_makeLine_u27_x340_b0 b_x1 b_x2 hI (fun bv hI g => hK bv hI (agc_tr agc_refl g (by decide +kernel) (by decide +kernel)))
  · exact h_Li_makeLine_u27_x340_b1 b_x1 b_x2 hI (fun bv hI g => hK bv hI (agc_tr agc_refl g (by decide +kernel) (by decide +kernel)))
set_option maxRecDepth 20000 in
set_option maxHeartbeats 4000000 in
theorem h_Li_setLengths_u27_x139_b0 {a : Bool} {P : Nat → Nat → Nat} {F : cF} {L : cL} {K : cs → Prop} (hI : IMc F) (hK : ∀ {bZ : Bool} {Z : cF} {LZ : cL}, IMc Z → agc [2701] [28, 29, 30, 31, 41, 999] F Z → K (Z, LZ, PC a bZ P)) : p_Li_setLengths UL 27 39 (F, L, PC a false P) K := by
  unfold p_Li_setLengths
  refine ⟨(show c_cl UL 39 = 5 from cl_39), ?_⟩
  refine ⟨(show ¬ ((40 : Nat) = NU) from by decide +kernel), ?_⟩
  refine h_Li_sortSymbols_u27_x140 hI (fun {FS5_1} {LFS5_1} hI2 g3 => ?_)
  refine ⟨fun yx1 yx2 yx3 yS => (39 : Nat) = yx1 ∧ (FS5_1 27 1) = yx2 ∧ B 0 257 yx3 ∧ ∃ (T7 : cF) (LT7 : cL), yS = (T7, LT7, PC a false P) ∧ IMc T7 ∧ agc [] [30] FS5_1 T7, fun yx1 yx2 yx3 yS => (257 - yx3.toInt).toNat, ⟨rfl, rfl, (B_w cqb_0_0_0 (by decide +kernel) (by decide +kernel)), _, _, rfl, hI2, (agc_refl (fs := []) (rs := [30]) (F := FS5_1))⟩, fun x1_4 x2_5 x3_6 ST7 hIv => ?_⟩
  obtain ⟨rfl, rfl, b8, T7, LT7, rfl, hI9, g10⟩ := hIv
  suffices hs : ∀ (R15 : Nat → Int32 → Int32 → cs → Prop), (∀ zx1 zx2 zx3 zS, ((39 : Nat) = zx1 ∧ (FS5_1 27 1) = zx2 ∧ B 0 257 zx3 ∧ ∃ (T7 : cF) (LT7 : cL), zS = (T7, LT7, PC a false P) ∧ IMc T7 ∧ agc [] [30] FS5_1 T7) → (257 - zx3.toInt).toNat < (257 - x3_6.toInt).toNat → R15 zx1 zx2 zx3 zS) → b_Li_setLengths_15 UL 27 39 (FS5_1 27 1) x3_6 (T7, LT7, PC a false P) R15 K from hs _ (fun _ _ _ _ h1 h2 => ⟨h1, h2⟩)
  intro R15 hR150
  have hR15 := fun {zx1} {zx2} {zx3} {zS} => hR150 zx1 zx2 zx3 zS
  unfold b_Li_setLengths_15
  refine ⟨fun hc => ?_, fun hc => ?_⟩
  · have hq11 := hc
    have q12 : (0) ≤ (FS5_1 27 1).toInt ∧ (FS5_1 27 1).toInt ≤ (257) := (show B 0 257 (FS5_1 27 1) from hI2 27 1)
    have e13 : (T7 27 1).toInt = (FS5_1 27 1).toInt := (congrArg Int32.toInt (g10.1 27 1 rfl rfl)).trans rfl
    have q14 : (0) ≤ (x3_6).toInt ∧ (x3_6).toInt ≤ (257) := (show B 0 257 (x3_6) from B_w b8 (by decide +kernel) (by decide +kernel))
    have i15 : (T7 27 1).toInt ≤ (x3_6).toInt := i_le hq11
    refine ⟨fun yx1 yx2 yx3 yS => (39 : Nat) = yx1 ∧ B 0 513 yx2 ∧ B 1 16 yx3 ∧ ∃ (bT19 : Bool) (T19 : cF) (LT19 : cL), yS = (T19, LT19, PC a bT19 P) ∧ IMc T19 ∧ agc [] [29, 30, 31, 999] T7 T19, fun yx1 yx2 yx3 yS => (16 - yx3.toInt).toNat, ⟨rfl, (B_w (show B 0 257 (FS5_1 27 1) from hI2 27 1) (by decide +kernel) (by decide +kernel)), (B_w cqb_1_1_1 (by decide +kernel) (by decide +kernel)), _, _, _, rfl, hI9, (agc_refl (fs := []) (rs := [29, 30, 31, 999]) (F := T7))⟩, fun x1_16 x2_17 x3_18 ST19 hIv => ?_⟩
    obtain ⟨rfl, b20, b21, bT19, T19, LT19, rfl, hI22, g23⟩ := hIv
    suffices hs : ∀ (R48 : Nat → Int32 → Int32 → cs → Prop), (∀ zx1 zx2 zx3 zS, ((39 : Nat) = zx1 ∧ B 0 513 zx2 ∧ B 1 16 zx3 ∧ ∃ (bT19 : Bool) (T19 : cF) (LT19 : cL), zS = (T19, LT19, PC a bT19 P) ∧ IMc T19 ∧ agc [] [29, 30, 31, 999] T7 T19) → (16 - zx3.toInt).toNat < (16 - x3_18.toInt).toNat → R48 zx1 zx2 zx3 zS) → b_Li_setLengths_48 UL 27 39 x2_17 x3_18 (T19, LT19, PC a bT19 P) R48 K from hs _ (fun _ _ _ _ h1 h2 => ⟨h1, h2⟩)
    intro R48 hR480
    have hR48 := fun {zx1} {zx2} {zx3} {zS} => hR480 zx1 zx2 zx3 zS
    unfold b_Li_setLengths_48
    refine ⟨fun hc => ?_, fun hc => ?_⟩
    · have hq24 := hc
      have b25 : B 16 16 (x3_18) := B_w (B_leR cqb_16_16_16 b21 hq24) (by decide +kernel) (by decide +kernel)
      refine ⟨fun yx1 yx3 yx4 yS => (39 : Nat) = yx1 ∧ B (-2147483648) 2147483647 yx3 ∧ B (-1) 15 yx4 ∧ ∃ (T29 : cF) (LT29 : cL), yS = (T29, LT29, PC a bT19 P) ∧ IMc T29 ∧ agc [] [41, 999] T19 T29, fun yx1 yx3 yx4 yS => (yx4.toInt - (-1)).toNat, ⟨rfl, (B_w (B_sub (B_mul cqb_2_2_2 (B_eq ((g23.1 27 1 rfl rfl).trans (g10.1 27 1 rfl rfl)) (show B 0 257 (FS5_1 27 1) from hI2 27 1)) (by decide +kernel) (by decide +kernel) (by decide +kernel)) cqb_2_2_2 (by decide +kernel) (by decide +kernel)) (by decide +kernel) (by decide +kernel)), (B_w cqb_15_15_15 (by decide +kernel) (by decide +kernel)), _, _, rfl, hI22, (agc_refl (fs := []) (rs := [41, 999]) (F := T19))⟩, fun x1_26 x3_27 x4_28 ST29 hIv => ?_⟩
      obtain ⟨rfl, b30, b31, T29, LT29, rfl, hI32, g33⟩ := hIv
      suffices hs : ∀ (R86 : Nat → Int32 → Int32 → cs → Prop), (∀ zx1 zx3 zx4 zS, ((39 : Nat) = zx1 ∧ B (-2147483648) 2147483647 zx3 ∧ B (-1) 15 zx4 ∧ ∃ (T29 : cF) (LT29 : cL), zS = (T29, LT29, PC a bT19 P) ∧ IMc T29 ∧ agc [] [41, 999] T19 T29) → (zx4.toInt - (-1)).toNat < (x4_28.toInt - (-1)).toNat → R86 zx1 zx3 zx4 zS) → b_Li_setLengths_86 UL 27 39 x3_27 x4_28 (T29, LT29, PC a bT19 P) R86 K from hs _ (fun _ _ _ _ h1 h2 => ⟨h1, h2⟩)
      intro R86 hR860
      have hR86 := fun {zx1} {zx3} {zx4} {zS} => hR860 zx1 zx3 zx4 zS
      unfold b_Li_setLengths_86
      refine ⟨fun hc => ?_, fun hc => ?_⟩
      · have hq34 := hc
        have b35 : B (-1) (-1) (x4_28) := B_w (B_ltL b31 cqb_0_0_0 hq34) (by decide +kernel) (by decide +kernel)
        have g39 := agc_tr (agc_refl (fs := [2701]) (rs := [28, 29, 30, 31, 41, 999]) (F := F)) g3 (by decide +kernel) (by decide +kernel)
        have g38 := agc_tr g39 g10 (by decide +kernel) (by decide +kernel)
        have g37 := agc_tr g38 g23 (by decide +kernel) (by decide +kernel)
        have g36 := agc_tr g37 g33 (by decide +kernel) (by decide +kernel)
        exact hK hI32 g36
      · have hq40 := (nlt_le hc)
        have b41 : B 0 15 (x4_28) := B_w (B_leR cqb_0_0_0 b31 hq40) (by decide +kernel) (by decide +kernel)
        refine ⟨(show c_cl UL 39 = 5 from cl_39), ?_⟩
        refine ⟨(show ¬ ((41 : Nat) = NU) from by decide +kernel), ?_⟩
        refine h_Li_takeThings_u27_x341 b41 hI32 (fun {v100_42} {FS100_43} {LFS100_43} b44 hI45 g46 => ?_)
        have g48 := agc_tr (agc_refl (fs := []) (rs := [41, 999]) (F := T19)) g33 (by decide +kernel) (by decide +kernel)
        have g47 := agc_tr g48 g46 (by decide +kernel) (by decide +kernel)
        have q49 : (0) ≤ (x4_28).toInt ∧ (x4_28).toInt ≤ (15) := (show B 0 15 (x4_28) from B_w b41 (by decide +kernel) (by decide +kernel))
        have e50 : (x4_28 + (-1)).toInt = ((x4_28).toInt + (-1)) := (t_add b41 cqb_m1_m1_m1 (by decide +kernel) (by decide +kernel)).trans (by rw [cqn_m1])
        have q51 : (-1) ≤ (x4_28 + (-1)).toInt ∧ (x4_28 + (-1)).toInt ≤ (14) := (show B (-1) 14 (x4_28 + (-1)) from B_w (B_add b41 cqb_m1_m1_m1 (by decide +kernel) (by decide +kernel)) (by decide +kernel) (by decide +kernel))
        exact hR86 ⟨rfl, (B_w (B_mul cqb_2_2_2 b44 (by decide +kernel) (by decide +kernel) (by decide +kernel)) (by decide +kernel) (by decide +kernel)), (B_w (B_add b41 cqb_m1_m1_m1 (by decide +kernel) (by decide +kernel)) (by decide +kernel) (by decide +kernel)), _, _, rfl, hI45, g47⟩ (by show ((x4_28 + (-1)).toInt - (-1)).toNat < (x4_28.toInt - (-1)).toNat; revert e50 q51; generalize (x4_28 + (-1)).toInt = dd0; intros; omega)
    · have hq52 := (nle_lt hc)
      have b53 : B 1 15 (x3_18) := B_w (B_ltL b21 cqb_16_16_16 hq52) (by decide +kernel) (by decide +kernel)
      refine ⟨(show c_cl UL 39 = 5 from cl_39), ?_⟩
      refine ⟨(show ¬ ((40 : Nat) = NU) from by decide +kernel), ?_⟩
      refine h_Li_makeLine_u27_x340 b53 (B_w (show B 0 256 (x2_17 / 2) from B_div2 b20 cqb_2_2_2 (by decide +kernel) (by decide +kernel) (by decide +kernel) (by decide +kernel)) (by decide +kernel) (by decide +kernel)) hI22 (fun {v63_54} {bFS63_55} {FS63_55} {LFS63_55} b56 hI57 g58 => ?_)
      have g60 := agc_tr (agc_refl (fs := []) (rs := [29, 30, 31, 999]) (F := T7)) g23 (by decide +kernel) (by decide +kernel)
      have g59 := agc_tr g60 g58 (by decide +kernel) (by decide +kernel)
      have q61 : (1) ≤ (x3_18).toInt ∧ (x3_18).toInt ≤ (15) := (show B 1 15 (x3_18) from B_w b53 (by decide +kernel) (by decide +kernel))
      have e62 : (x3_18 + 1).toInt = ((x3_18).toInt + 1) := (t_add b53 cqb_1_1_1 (by decide +kernel) (by decide +kernel)).trans (by rw [cqn_1])
      have q63 : (2) ≤ (x3_18 + 1).toInt ∧ (x3_18 + 1).toInt ≤ (16) := (show B 2 16 (x3_18 + 1) from B_w (B_add b53 cqb_1_1_1 (by decide +kernel) (by decide +kernel)) (by decide +kernel) (by decide +kernel))
      exact hR48 ⟨rfl, b56, (B_w (B_add b53 cqb_1_1_1 (by decide +kernel) (by decide +kernel)) (by decide +kernel) (by decide +kernel)), _, _, _, rfl, hI57, g59⟩ (by show (16 - (x3_18 + 1).toInt).toNat < (16 - x3_18.toInt).toNat; omega)
  · have hq64 := (nle_lt hc)
    have b65 : B 0 256 (x3_6) := B_w (B_ltL b8 (B_eq (g10.1 27 1 rfl rfl) (show B 0 257 (FS5_1 27 1) from hI2 27 1)) hq64) (by decide +kernel) (by decide +kernel)
    have b66 : B 1 257 (FS5_1 27 1) := B_w (B_eq (Eq.symm (g10.1 27 1 rfl rfl)) (B_ltR b8 (B_eq (g10.1 27 1 rfl rfl) (show B 0 257 (FS5_1 27 1) from hI2 27 1)) hq64)) (by decide +kernel) (by decide +kernel)
    have q67 : (0) ≤ (x3_6).toInt ∧ (x3_6).toInt ≤ (256) := (show B 0 256 (x3_6) from B_w b65 (by decide +kernel) (by decide +kernel))
    have q68 : (1) ≤ (FS5_1 27 1).toInt ∧ (FS5_1 27 1).toInt ≤ (257) := (show B 1 257 (FS5_1 27 1) from B_w b66 (by decide +kernel) (by decide +kernel))
    have e69 : (T7 27 1).toInt = (FS5_1 27 1).toInt := (congrArg Int32.toInt (g10.1 27 1 rfl rfl)).trans rfl
    have i70 : (x3_6).toInt < (T7 27 1).toInt := i_lt hq64
    refine ⟨(show ¬ ((30 : Nat) = NU) from by decide +kernel), ?_⟩
    refine ⟨(show c_cl UL 39 = 5 from cl_39), ?_⟩
    refine ⟨(show ¬ ((40 : Nat) = NU) from by decide +kernel), ?_⟩
    refine ⟨(show ¬ ((28 : Nat) = NU) from by decide +kernel), ?_⟩
    refine ⟨(show c_cl UL 28 = 902 from cl_28), ?_⟩
    refine ⟨(show vp_in (x3_6) 257 from vp_B b65 (by decide +kernel) (by decide +kernel)), ?_⟩
    refine ⟨(show c_cl UL 40 = 902 from cl_40), ?_⟩
    refine ⟨(show vp_in (T7 28 x3_6.toNatClampNeg) 257 from vp_B (B_eq (congrFun (g10.2 28 rfl rfl) x3_6.toNatClampNeg) (show B 0 256 (FS5_1 28 x3_6.toNatClampNeg) from hI2 28 x3_6.toNatClampNeg)) (by decide +kernel) (by decide +kernel)), ?_⟩
    refine ⟨(show c_cl UL 30 = 902 from cl_30), ?_⟩
    refine ⟨(show vp_in (x3_6) 514 from vp_B b65 (by decide +kernel) (by decide +kernel)), ?_⟩
    have hI71 := IMc_u (u := 30) (i := x3_6.toNatClampNeg) (v := T7 40 (T7 28 x3_6.toNatClampNeg).toNatClampNeg) hI9 (show B (-2147483648) 2147483647 (T7 40 (T7 28 x3_6.toNatClampNeg).toNatClampNeg) from (B_w (B_eq ((congrFun (g10.2 40 rfl rfl) (T7 28 x3_6.toNatClampNeg).toNatClampNeg).trans (congrFun (g3.2 40 rfl rfl) (T7 28 x3_6.toNatClampNeg).toNatClampNeg)) (B_any _)) (by decide +kernel) (by decide +kernel)))
    have g73 := agc_tr (agc_refl (fs := []) (rs := [30]) (F := FS5_1)) g10 (by decide +kernel) (by decide +kernel)
    have g72 := agc_r (u := 30) (w := upd (T7 30) x3_6.toNatClampNeg (T7 40 (T7 28 x3_6.toNatClampNeg).toNatClampNeg)) g73 rfl (by decide +kernel)
    have e74 : (x3_6 + 1).toInt = ((x3_6).toInt + 1) := (t_add b65 cqb_1_1_1 (by decide +kernel) (by decide +kernel)).trans (by rw [cqn_1])
    have q75 : (1) ≤ (x3_6 + 1).toInt ∧ (x3_6 + 1).toInt ≤ (257) := (show B 1 257 (x3_6 + 1) from B_w (B_add b65 cqb_1_1_1 (by decide +kernel) (by decide +kernel)) (by decide +kernel) (by decide +kernel))
    exact hR15 ⟨rfl, rfl, (B_w (B_add b65 cqb_1_1_1 (by decide +kernel) (by decide +kernel)) (by decide +kernel) (by decide +kernel)), _, _, rfl, hI71, g72⟩ (by show (257 - (x3_6 + 1).toInt).toNat < (257 - x3_6.toInt).toNat; omega)
set_option maxRecDepth 20000 in
set_option maxHeartbeats 4000000 in
theorem h_Li_setLengths_u27_x139_b1 {a : Bool} {P : Nat → Nat → Nat} {F : cF} {L : cL} {K : cs → Prop} (hI : IMc F) (hK : ∀ {bZ : Bool} {Z : cF} {LZ : cL}, IMc Z → agc [2701] [28, 29, 30, 31, 41, 999] F Z → K (Z, LZ, PC a bZ P)) : p_Li_setLengths UL 27 39 (F, L, PC a true P) K := by
  unfold p_Li_setLengths
  refine ⟨(show c_cl UL 39 = 5 from cl_39), ?_⟩
  refine ⟨(show ¬ ((40 : Nat) = NU) from by decide +kernel), ?_⟩
  refine h_Li_sortSymbols_u27_x140 hI (fun {FS5_1} {LFS5_1} hI2 g3 => ?_)
  refine ⟨fun yx1 yx2 yx3 yS => (39 : Nat) = yx1 ∧ (FS5_1 27 1) = yx2 ∧ B 0 257 yx3 ∧ ∃ (T7 : cF) (LT7 : cL), yS = (T7, LT7, PC a true P) ∧ IMc T7 ∧ agc [] [31] FS5_1 T7, fun yx1 yx2 yx3 yS => (257 - yx3.toInt).toNat, ⟨rfl, rfl, (B_w cqb_0_0_0 (by decide +kernel) (by decide +kernel)), _, _, rfl, hI2, (agc_refl (fs := []) (rs := [31]) (F := FS5_1))⟩, fun x1_4 x2_5 x3_6 ST7 hIv => ?_⟩
  obtain ⟨rfl, rfl, b8, T7, LT7, rfl, hI9, g10⟩ := hIv
  suffices hs : ∀ (R15 : Nat → Int32 → Int32 → cs → Prop), (∀ zx1 zx2 zx3 zS, ((39 : Nat) = zx1 ∧ (FS5_1 27 1) = zx2 ∧ B 0 257 zx3 ∧ ∃ (T7 : cF) (LT7 : cL), zS = (T7, LT7, PC a true P) ∧ IMc T7 ∧ agc [] [31] FS5_1 T7) → (257 - zx3.toInt).toNat < (257 - x3_6.toInt).toNat → R15 zx1 zx2 zx3 zS) → b_Li_setLengths_15 UL 27 39 (FS5_1 27 1) x3_6 (T7, LT7, PC a true P) R15 K from hs _ (fun _ _ _ _ h1 h2 => ⟨h1, h2⟩)
  intro R15 hR150
  have hR15 := fun {zx1} {zx2} {zx3} {zS} => hR150 zx1 zx2 zx3 zS
  unfold b_Li_setLengths_15
  refine ⟨fun hc => ?_, fun hc => ?_⟩
  · have hq11 := hc
    have q12 : (0) ≤ (FS5_1 27 1).toInt ∧ (FS5_1 27 1).toInt ≤ (257) := (show B 0 257 (FS5_1 27 1) from hI2 27 1)
    have e13 : (T7 27 1).toInt = (FS5_1 27 1).toInt := (congrArg Int32.toInt (g10.1 27 1 rfl rfl)).trans rfl
    have q14 : (0) ≤ (x3_6).toInt ∧ (x3_6).toInt ≤ (257) := (show B 0 257 (x3_6) from B_w b8 (by decide +kernel) (by decide +kernel))
    have i15 : (T7 27 1).toInt ≤ (x3_6).toInt := i_le hq11
    refine ⟨fun yx1 yx2 yx3 yS => (39 : Nat) = yx1 ∧ B 0 513 yx2 ∧ B 1 16 yx3 ∧ ∃ (bT19 : Bool) (T19 : cF) (LT19 : cL), yS = (T19, LT19, PC a bT19 P) ∧ IMc T19 ∧ agc [] [29, 30, 31, 999] T7 T19, fun yx1 yx2 yx3 yS => (16 - yx3.toInt).toNat, ⟨rfl, (B_w (show B 0 257 (FS5_1 27 1) from hI2 27 1) (by decide +kernel) (by decide +kernel)), (B_w cqb_1_1_1 (by decide +kernel) (by decide +kernel)), _, _, _, rfl, hI9, (agc_refl (fs := []) (rs := [29, 30, 31, 999]) (F := T7))⟩, fun x1_16 x2_17 x3_18 ST19 hIv => ?_⟩
    obtain ⟨rfl, b20, b21, bT19, T19, LT19, rfl, hI22, g23⟩ := hIv
    suffices hs : ∀ (R48 : Nat → Int32 → Int32 → cs → Prop), (∀ zx1 zx2 zx3 zS, ((39 : Nat) = zx1 ∧ B 0 513 zx2 ∧ B 1 16 zx3 ∧ ∃ (bT19 : Bool) (T19 : cF) (LT19 : cL), zS = (T19, LT19, PC a bT19 P) ∧ IMc T19 ∧ agc [] [29, 30, 31, 999] T7 T19) → (16 - zx3.toInt).toNat < (16 - x3_18.toInt).toNat → R48 zx1 zx2 zx3 zS) → b_Li_setLengths_48 UL 27 39 x2_17 x3_18 (T19, LT19, PC a bT19 P) R48 K from hs _ (fun _ _ _ _ h1 h2 => ⟨h1, h2⟩)
    intro R48 hR480
    have hR48 := fun {zx1} {zx2} {zx3} {zS} => hR480 zx1 zx2 zx3 zS
    unfold b_Li_setLengths_48
    refine ⟨fun hc => ?_, fun hc => ?_⟩
    · have hq24 := hc
      have b25 : B 16 16 (x3_18) := B_w (B_leR cqb_16_16_16 b21 hq24) (by decide +kernel) (by decide +kernel)
      refine ⟨fun yx1 yx3 yx4 yS => (39 : Nat) = yx1 ∧ B (-2147483648) 2147483647 yx3 ∧ B (-1) 15 yx4 ∧ ∃ (T29 : cF) (LT29 : cL), yS = (T29, LT29, PC a bT19 P) ∧ IMc T29 ∧ agc [] [41, 999] T19 T29, fun yx1 yx3 yx4 yS => (yx4.toInt - (-1)).toNat, ⟨rfl, (B_w (B_sub (B_mul cqb_2_2_2 (B_eq ((g23.1 27 1 rfl rfl).trans (g10.1 27 1 rfl rfl)) (show B 0 257 (FS5_1 27 1) from hI2 27 1)) (by decide +kernel) (by decide +kernel) (by decide +kernel)) cqb_2_2_2 (by decide +kernel) (by decide +kernel)) (by decide +kernel) (by decide +kernel)), (B_w cqb_15_15_15 (by decide +kernel) (by decide +kernel)), _, _, rfl, hI22, (agc_refl (fs := []) (rs := [41, 999]) (F := T19))⟩, fun x1_26 x3_27 x4_28 ST29 hIv => ?_⟩
      obtain ⟨rfl, b30, b31, T29, LT29, rfl, hI32, g33⟩ := hIv
      suffices hs : ∀ (R86 : Nat → Int32 → Int32 → cs → Prop), (∀ zx1 zx3 zx4 zS, ((39 : Nat) = zx1 ∧ B (-2147483648) 2147483647 zx3 ∧ B (-1) 15 zx4 ∧ ∃ (T29 : cF) (LT29 : cL), zS = (T29, LT29, PC a bT19 P) ∧ IMc T29 ∧ agc [] [41, 999] T19 T29) → (zx4.toInt - (-1)).toNat < (x4_28.toInt - (-1)).toNat → R86 zx1 zx3 zx4 zS) → b_Li_setLengths_86 UL 27 39 x3_27 x4_28 (T29, LT29, PC a bT19 P) R86 K from hs _ (fun _ _ _ _ h1 h2 => ⟨h1, h2⟩)
      intro R86 hR860
      have hR86 := fun {zx1} {zx3} {zx4} {zS} => hR860 zx1 zx3 zx4 zS
      unfold b_Li_setLengths_86
      refine ⟨fun hc => ?_, fun hc => ?_⟩
      · have hq34 := hc
        have b35 : B (-1) (-1) (x4_28) := B_w (B_ltL b31 cqb_0_0_0 hq34) (by decide +kernel) (by decide +kernel)
        have g39 := agc_tr (agc_refl (fs := [2701]) (rs := [28, 29, 30, 31, 41, 999]) (F := F)) g3 (by decide +kernel) (by decide +kernel)
        have g38 := agc_tr g39 g10 (by decide +kernel) (by decide +kernel)
        have g37 := agc_tr g38 g23 (by decide +kernel) (by decide +kernel)
        have g36 := agc_tr g37 g33 (by decide +kernel) (by decide +kernel)
        exact hK hI32 g36
      · have hq40 := (nlt_le hc)
        have b41 : B 0 15 (x4_28) := B_w (B_leR cqb_0_0_0 b31 hq40) (by decide +kernel) (by decide +kernel)
        refine ⟨(show c_cl UL 39 = 5 from cl_39), ?_⟩
        refine ⟨(show ¬ ((41 : Nat) = NU) from by decide +kernel), ?_⟩
        refine h_Li_takeThings_u27_x341 b41 hI32 (fun {v100_42} {FS100_43} {LFS100_43} b44 hI45 g46 => ?_)
        have g48 := agc_tr (agc_refl (fs := []) (rs := [41, 999]) (F := T19)) g33 (by decide +kernel) (by decide +kernel)
        have g47 := agc_tr g48 g46 (by decide +kernel) (by decide +kernel)
        have q49 : (0) ≤ (x4_28).toInt ∧ (x4_28).toInt ≤ (15) := (show B 0 15 (x4_28) from B_w b41 (by decide +kernel) (by decide +kernel))
        have e50 : (x4_28 + (-1)).toInt = ((x4_28).toInt + (-1)) := (t_add b41 cqb_m1_m1_m1 (by decide +kernel) (by decide +kernel)).trans (by rw [cqn_m1])
        have q51 : (-1) ≤ (x4_28 + (-1)).toInt ∧ (x4_28 + (-1)).toInt ≤ (14) := (show B (-1) 14 (x4_28 + (-1)) from B_w (B_add b41 cqb_m1_m1_m1 (by decide +kernel) (by decide +kernel)) (by decide +kernel) (by decide +kernel))
        exact hR86 ⟨rfl, (B_w (B_mul cqb_2_2_2 b44 (by decide +kernel) (by decide +kernel) (by decide +kernel)) (by decide +kernel) (by decide +kernel)), (B_w (B_add b41 cqb_m1_m1_m1 (by decide +kernel) (by decide +kernel)) (by decide +kernel) (by decide +kernel)), _, _, rfl, hI45, g47⟩ (by show ((x4_28 + (-1)).toInt - (-1)).toNat < (x4_28.toInt - (-1)).toNat; revert e50 q51; generalize (x4_28 + (-1)).toInt = dd0; intros; omega)
    · have hq52 := (nle_lt hc)
      have b53 : B 1 15 (x3_18) := B_w (B_ltL b21 cqb_16_16_16 hq52) (by decide +kernel) (by decide +kernel)
      refine ⟨(show c_cl UL 39 = 5 from cl_39), ?_⟩
      refine ⟨(show ¬ ((40 : Nat) = NU) from by decide +kernel), ?_⟩
      refine h_Li_makeLine_u27_x340 b53 (B_w (show B 0 256 (x2_17 / 2) from B_div2 b20 cqb_2_2_2 (by decide +kernel) (by decide +kernel) (by decide +kernel) (by decide +kernel)) (by decide +kernel) (by decide +kernel)) hI22 (fun {v63_54} {bFS63_55} {FS63_55} {LFS63_55} b56 hI57 g58 => ?_)
      have g60 := agc_tr (agc_refl (fs := []) (rs := [29, 30, 31, 999]) (F := T7)) g23 (by decide +kernel) (by decide +kernel)
      have g59 := agc_tr g60 g58 (by decide +kernel) (by decide +kernel)
      have q61 : (1) ≤ (x3_18).toInt ∧ (x3_18).toInt ≤ (15) := (show B 1 15 (x3_18) from B_w b53 (by decide +kernel) (by decide +kernel))
      have e62 : (x3_18 + 1).toInt = ((x3_18).toInt + 1) := (t_add b53 cqb_1_1_1 (by decide +kernel) (by decide +kernel)).trans (by rw [cqn_1])
      have q63 : (2) ≤ (x3_18 + 1).toInt ∧ (x3_18 + 1).toInt ≤ (16) := (show B 2 16 (x3_18 + 1) from B_w (B_add b53 cqb_1_1_1 (by decide +kernel) (by decide +kernel)) (by decide +kernel) (by decide +kernel))
      exact hR48 ⟨rfl, b56, (B_w (B_add b53 cqb_1_1_1 (by decide +kernel) (by decide +kernel)) (by decide +kernel) (by decide +kernel)), _, _, _, rfl, hI57, g59⟩ (by show (16 - (x3_18 + 1).toInt).toNat < (16 - x3_18.toInt).toNat; omega)
  · have hq64 := (nle_lt hc)
    have b65 : B 0 256 (x3_6) := B_w (B_ltL b8 (B_eq (g10.1 27 1 rfl rfl) (show B 0 257 (FS5_1 27 1) from hI2 27 1)) hq64) (by decide +kernel) (by decide +kernel)
    have b66 : B 1 257 (FS5_1 27 1) := B_w (B_eq (Eq.symm (g10.1 27 1 rfl rfl)) (B_ltR b8 (B_eq (g10.1 27 1 rfl rfl) (show B 0 257 (FS5_1 27 1) from hI2 27 1)) hq64)) (by decide +kernel) (by decide +kernel)
    have q67 : (0) ≤ (x3_6).toInt ∧ (x3_6).toInt ≤ (256) := (show B 0 256 (x3_6) from B_w b65 (by decide +kernel) (by decide +kernel))
    have q68 : (1) ≤ (FS5_1 27 1).toInt ∧ (FS5_1 27 1).toInt ≤ (257) := (show B 1 257 (FS5_1 27 1) from B_w b66 (by decide +kernel) (by decide +kernel))
    have e69 : (T7 27 1).toInt = (FS5_1 27 1).toInt := (congrArg Int32.toInt (g10.1 27 1 rfl rfl)).trans rfl
    have i70 : (x3_6).toInt < (T7 27 1).toInt := i_lt hq64
    refine ⟨(show ¬ ((31 : Nat) = NU) from by decide +kernel), ?_⟩
    refine ⟨(show c_cl UL 39 = 5 from cl_39), ?_⟩
    refine ⟨(show ¬ ((40 : Nat) = NU) from by decide +kernel), ?_⟩
    refine ⟨(show ¬ ((28 : Nat) = NU) from by decide +kernel), ?_⟩
    refine ⟨(show c_cl UL 28 = 902 from cl_28), ?_⟩
    refine ⟨(show vp_in (x3_6) 257 from vp_B b65 (by decide +kernel) (by decide +kernel)), ?_⟩
    refine ⟨(show c_cl UL 40 = 902 from cl_40), ?_⟩
    refine ⟨(show vp_in (T7 28 x3_6.toNatClampNeg) 257 from vp_B (B_eq (congrFun (g10.2 28 rfl rfl) x3_6.toNatClampNeg) (show B 0 256 (FS5_1 28 x3_6.toNatClampNeg) from hI2 28 x3_6.toNatClampNeg)) (by decide +kernel) (by decide +kernel)), ?_⟩
    refine ⟨(show c_cl UL 31 = 902 from cl_31), ?_⟩
    refine ⟨(show vp_in (x3_6) 514 from vp_B b65 (by decide +kernel) (by decide +kernel)), ?_⟩
    have hI71 := IMc_u (u := 31) (i := x3_6.toNatClampNeg) (v := T7 40 (T7 28 x3_6.toNatClampNeg).toNatClampNeg) hI9 (show B (-2147483648) 2147483647 (T7 40 (T7 28 x3_6.toNatClampNeg).toNatClampNeg) from (B_w (B_eq ((congrFun (g10.2 40 rfl rfl) (T7 28 x3_6.toNatClampNeg).toNatClampNeg).trans (congrFun (g3.2 40 rfl rfl) (T7 28 x3_6.toNatClampNeg).toNatClampNeg)) (B_any _)) (by decide +kernel) (by decide +kernel)))
    have g73 := agc_tr (agc_refl (fs := []) (rs := [31]) (F := FS5_1)) g10 (by decide +kernel) (by decide +kernel)
    have g72 := agc_r (u := 31) (w := upd (T7 31) x3_6.toNatClampNeg (T7 40 (T7 28 x3_6.toNatClampNeg).toNatClampNeg)) g73 rfl (by decide +kernel)
    have e74 : (x3_6 + 1).toInt = ((x3_6).toInt + 1) := (t_add b65 cqb_1_1_1 (by decide +kernel) (by decide +kernel)).trans (by rw [cqn_1])
    have q75 : (1) ≤ (x3_6 + 1).toInt ∧ (x3_6 + 1).toInt ≤ (257) := (show B 1 257 (x3_6 + 1) from B_w (B_add b65 cqb_1_1_1 (by decide +kernel) (by decide +kernel)) (by decide +kernel) (by decide +kernel))
    exact hR15 ⟨rfl, rfl, (B_w (B_add b65 cqb_1_1_1 (by decide +kernel) (by decide +kernel)) (by decide +kernel) (by decide +kernel)), _, _, rfl, hI71, g72⟩ (by show (257 - (x3_6 + 1).toInt).toNat < (257 - x3_6.toInt).toNat; omega)
theorem h_Li_setLengths_u27_x139 {a : Bool} {b : Bool} {P : Nat → Nat → Nat} {F : cF} {L : cL} {K : cs → Prop} (hI : IMc F) (hK : ∀ {bZ : Bool} {Z : cF} {LZ : cL}, IMc Z → agc [2701] [28, 29, 30, 31, 41, 999] F Z → K (Z, LZ, PC a bZ P)) : p_Li_setLengths UL 27 39 (F, L, PC a b P) K := by
  cases b
  · exact h_Li_setLengths_u27_x139_b0 hI (fun hI g => hK hI (agc_tr agc_refl g (by decide +kernel) (by decide +kernel)))
  · exact h_Li_setLengths_u27_x139_b1 hI (fun hI g => hK hI (agc_tr agc_refl g (by decide +kernel) (by decide +kernel)))
set_option maxRecDepth 20000 in
set_option maxHeartbeats 4000000 in
theorem h_Li_sortSymbols_u27_x147 {a : Bool} {b : Bool} {P : Nat → Nat → Nat} {F : cF} {L : cL} {K : cs → Prop} (hI : IMc F) (hK : ∀ {Z : cF} {LZ : cL}, IMc Z → agc [2701] [28, 999] F Z → K (Z, LZ, PC a b P)) : p_Li_sortSymbols UL 27 47 (F, L, PC a b P) K := by
  unfold p_Li_sortSymbols
  have hI7 := IMc_u (u := 27) (i := 1) (v := 0) hI (show B 0 257 (0) from (B_w cqb_0_0_0 (by decide +kernel) (by decide +kernel)))
  refine ⟨fun yx1 yx2 yS => (47 : Nat) = yx1 ∧ B 0 257 yx2 ∧ ∃ (T3 : cF) (LT3 : cL), yS = (T3, LT3, PC a b P) ∧ IMc T3 ∧ agc [2701] [28, 999] (va_up F 27 (upd (F 27) 1 0)) T3 ∧ ((T3 27 1).toInt ≤ yx2.toInt), fun yx1 yx2 yS => (257 - yx2.toInt).toNat, ⟨rfl, (B_w cqb_0_0_0 (by decide +kernel) (by decide +kernel)), _, _, rfl, hI7, (agc_refl (fs := [2701]) (rs := [28, 999]) (F := va_up F 27 (upd (F 27) 1 0))), (by show (0 : Int) ≤ 0; first | with_reducible assumption | omega)⟩, fun x1_1 x2_2 ST3 hIv => ?_⟩
  obtain ⟨rfl, b4, T3, LT3, rfl, hI5, g6, r8⟩ := hIv
  suffices hs : ∀ (R7 : Nat → Int32 → cs → Prop), (∀ zx1 zx2 zS, ((47 : Nat) = zx1 ∧ B 0 257 zx2 ∧ ∃ (T3 : cF) (LT3 : cL), zS = (T3, LT3, PC a b P) ∧ IMc T3 ∧ agc [2701] [28, 999] (va_up F 27 (upd (F 27) 1 0)) T3 ∧ ((T3 27 1).toInt ≤ zx2.toInt)) → (257 - zx2.toInt).toNat < (257 - x2_2.toInt).toNat → R7 zx1 zx2 zS) → b_Li_sortSymbols_7 UL 27 47 x2_2 (T3, LT3, PC a b P) R7 K from hs _ (fun _ _ _ h1 h2 => ⟨h1, h2⟩)
  intro R7 hR70
  have hR7 := fun {zx1} {zx2} {zS} => hR70 zx1 zx2 zS
  have q9 : (0) ≤ (T3 27 1).toInt ∧ (T3 27 1).toInt ≤ (257) := (show B 0 257 (T3 27 1) from hI5 27 1)
  have q10 : (0) ≤ (x2_2).toInt ∧ (x2_2).toInt ≤ (257) := (show B 0 257 (x2_2) from B_w b4 (by decide +kernel) (by decide +kernel))
  unfold b_Li_sortSymbols_7
  refine ⟨fun hc => ?_, fun hc => ?_⟩
  · have hq11 := hc
    have b12 : B 257 257 (x2_2) := B_w (B_leR cqb_257_257_257 b4 hq11) (by decide +kernel) (by decide +kernel)
    have q13 : (257) ≤ (x2_2).toInt ∧ (x2_2).toInt ≤ (257) := (show B 257 257 (x2_2) from B_w b12 (by decide +kernel) (by decide +kernel))
    have g15 := agc_f (u := 27) (k := 1) (v := 0) (agc_refl (fs := [2701]) (rs := [28, 999]) (F := F)) rfl (by decide +kernel)
    have g14 := agc_tr g15 g6 (by decide +kernel) (by decide +kernel)
    exact hK hI5 g14
  · have hq16 := (nle_lt hc)
    have b17 : B 0 256 (x2_2) := B_w (B_ltL b4 cqb_257_257_257 hq16) (by decide +kernel) (by decide +kernel)
    have q18 : (0) ≤ (x2_2).toInt ∧ (x2_2).toInt ≤ (256) := (show B 0 256 (x2_2) from B_w b17 (by decide +kernel) (by decide +kernel))
    refine ⟨(show c_cl UL 47 = 902 from cl_47), ?_⟩
    refine ⟨(show vp_in (x2_2) 257 from vp_B b17 (by decide +kernel) (by decide +kernel)), ?_⟩
    have hj19 : ((T3 27 1).toInt ≤ x2_2.toInt) → b_Li_sortSymbols_27 UL 27 47 x2_2 (T3, LT3, PC a b P) R7 K := by
      intro r20
      unfold b_Li_sortSymbols_27
      refine ⟨fun yx1 yx2 yx3 yS => (47 : Nat) = yx1 ∧ x2_2 = yx2 ∧ B 0 256 yx3 ∧ ∃ (T24 : cF) (LT24 : cL), yS = (T24, LT24, PC a b P) ∧ IMc T24 ∧ agc [] [28] T3 T24, fun yx1 yx2 yx3 yS => (yx3.toInt - 0).toNat, ⟨rfl, rfl, (show B 0 256 (T3 27 1) from ⟨by omega, by omega⟩), _, _, rfl, hI5, (agc_refl (fs := []) (rs := [28]) (F := T3))⟩, fun x1_21 x2_22 x3_23 ST24 hIv => ?_⟩
      obtain ⟨rfl, rfl, b25, T24, LT24, rfl, hI26, g27⟩ := hIv
      suffices hs : ∀ (R32 : Nat → Int32 → Int32 → cs → Prop), (∀ zx1 zx2 zx3 zS, ((47 : Nat) = zx1 ∧ x2_2 = zx2 ∧ B 0 256 zx3 ∧ ∃ (T24 : cF) (LT24 : cL), zS = (T24, LT24, PC a b P) ∧ IMc T24 ∧ agc [] [28] T3 T24) → (zx3.toInt - 0).toNat < (x3_23.toInt - 0).toNat → R32 zx1 zx2 zx3 zS) → b_Li_sortSymbols_32 UL 27 47 x2_2 x3_23 (T24, LT24, PC a b P) R7 R32 K from hs _ (fun _ _ _ _ h1 h2 => ⟨h1, h2⟩)
      intro R32 hR320
      have hR32 := fun {zx1} {zx2} {zx3} {zS} => hR320 zx1 zx2 zx3 zS
      unfold b_Li_sortSymbols_32
      refine ⟨fun hc => ?_, fun hc => ?_⟩
      · have hq28 := hc
        have b29 : B 0 0 (x3_23) := B_w (B_leL b25 cqb_0_0_0 hq28) (by decide +kernel) (by decide +kernel)
        unfold b_Li_sortSymbols_72
        refine ⟨(show ¬ ((28 : Nat) = NU) from by decide +kernel), ?_⟩
        refine ⟨(show c_cl UL 28 = 902 from cl_28), ?_⟩
        refine ⟨(show vp_in (x3_23) 257 from vp_B b29 (by decide +kernel) (by decide +kernel)), ?_⟩
        unfold b_Li_sortSymbols_89
        have hI30 := IMc_u (u := 28) (i := x3_23.toNatClampNeg) (v := x2_2) hI26 (show B 0 256 (x2_2) from (B_w b17 (by decide +kernel) (by decide +kernel)))
        have e31 : (T24 27 1).toInt = (T3 27 1).toInt := (congrArg Int32.toInt (g27.1 27 1 rfl rfl)).trans rfl
        have e32 : ((T24 27 1) + 1).toInt = ((T3 27 1).toInt + 1) := (t_add (B_eq (g27.1 27 1 rfl rfl) (show B 0 257 (T3 27 1) from hI5 27 1)) cqb_1_1_1 (by decide +kernel) (by decide +kernel)).trans (by rw [e31, cqn_1])
        have q33 : (1) ≤ ((T24 27 1) + 1).toInt ∧ ((T24 27 1) + 1).toInt ≤ (258) := (show B 1 258 ((T24 27 1) + 1) from B_w (B_add (B_eq (g27.1 27 1 rfl rfl) (show B 0 257 (T3 27 1) from hI5 27 1)) cqb_1_1_1 (by decide +kernel) (by decide +kernel)) (by decide +kernel) (by decide +kernel))
        have hI34 := IMc_u (u := 27) (i := 1) (v := (T24 27 1) + 1) hI30 (show B 0 257 ((T24 27 1) + 1) from (show B 0 257 ((T24 27 1) + 1) from ⟨by omega, by omega⟩))
        have g38 := agc_tr (agc_refl (fs := [2701]) (rs := [28, 999]) (F := va_up F 27 (upd (F 27) 1 0))) g6 (by decide +kernel) (by decide +kernel)
        have g37 := agc_tr g38 g27 (by decide +kernel) (by decide +kernel)
        have g36 := agc_r (u := 28) (w := upd (T24 28) x3_23.toNatClampNeg x2_2) g37 rfl (by decide +kernel)
        have g35 := agc_f (u := 27) (k := 1) (v := (T24 27 1) + 1) g36 rfl (by decide +kernel)
        have e39 : (x2_2 + 1).toInt = ((x2_2).toInt + 1) := (t_add b17 cqb_1_1_1 (by decide +kernel) (by decide +kernel)).trans (by rw [cqn_1])
        have q40 : (1) ≤ (x2_2 + 1).toInt ∧ (x2_2 + 1).toInt ≤ (257) := (show B 1 257 (x2_2 + 1) from B_w (B_add b17 cqb_1_1_1 (by decide +kernel) (by decide +kernel)) (by decide +kernel) (by decide +kernel))
        exact hR7 ⟨rfl, (B_w (B_add b17 cqb_1_1_1 (by decide +kernel) (by decide +kernel)) (by decide +kernel) (by decide +kernel)), _, _, rfl, hI34, g35, (by show ((T24 27 1) + 1).toInt ≤ (x2_2 + 1).toInt; first | with_reducible assumption | omega)⟩ (by show (257 - (x2_2 + 1).toInt).toNat < (257 - x2_2.toInt).toNat; omega)
      · have hq41 := (nle_lt hc)
        have b42 : B 1 256 (x3_23) := B_w (B_ltR cqb_0_0_0 b25 hq41) (by decide +kernel) (by decide +kernel)
        refine ⟨(show ¬ ((28 : Nat) = NU) from by decide +kernel), ?_⟩
        refine ⟨(show c_cl UL 28 = 902 from cl_28), ?_⟩
        refine ⟨(show vp_in (x3_23 - 1) 257 from vp_B (B_sub b42 cqb_1_1_1 (by decide +kernel) (by decide +kernel)) (by decide +kernel) (by decide +kernel)), ?_⟩
        refine ⟨(show c_cl UL 47 = 902 from cl_47), ?_⟩
        refine ⟨(show vp_in (T24 28 (x3_23 - 1).toNatClampNeg) 257 from vp_B (show B 0 256 (T24 28 (x3_23 - 1).toNatClampNeg) from hI26 28 (x3_23 - 1).toNatClampNeg) (by decide +kernel) (by decide +kernel)), ?_⟩
        refine ⟨(show vp_in (x2_2) 257 from vp_B b17 (by decide +kernel) (by decide +kernel)), ?_⟩
        refine ⟨fun hc => ?_, fun hc => ?_⟩
        · have hq43 := hc
          have e44 : (T24 47 (T24 28 (x3_23 - 1).toNatClampNeg).toNatClampNeg).toInt = (F 47 (T24 28 (x3_23 - 1).toNatClampNeg).toNatClampNeg).toInt := (congrArg Int32.toInt ((congrFun (g27.2 47 rfl rfl) (T24 28 (x3_23 - 1).toNatClampNeg).toNatClampNeg).trans (congrFun (g6.2 47 rfl rfl) (T24 28 (x3_23 - 1).toNatClampNeg).toNatClampNeg))).trans rfl
          have e45 : (T24 47 x2_2.toNatClampNeg).toInt = (F 47 x2_2.toNatClampNeg).toInt := (congrArg Int32.toInt ((congrFun (g27.2 47 rfl rfl) x2_2.toNatClampNeg).trans (congrFun (g6.2 47 rfl rfl) x2_2.toNatClampNeg))).trans rfl
          have i46 : (T24 47 (T24 28 (x3_23 - 1).toNatClampNeg).toNatClampNeg).toInt ≤ (T24 47 x2_2.toNatClampNeg).toInt := i_le hq43
          unfold b_Li_sortSymbols_72
          refine ⟨(show ¬ ((28 : Nat) = NU) from by decide +kernel), ?_⟩
          refine ⟨(show c_cl UL 28 = 902 from cl_28), ?_⟩
          refine ⟨(show vp_in (x3_23) 257 from vp_B b42 (by decide +kernel) (by decide +kernel)), ?_⟩
          unfold b_Li_sortSymbols_89
          have hI47 := IMc_u (u := 28) (i := x3_23.toNatClampNeg) (v := x2_2) hI26 (show B 0 256 (x2_2) from (B_w b17 (by decide +kernel) (by decide +kernel)))
          have e48 : (T24 27 1).toInt = (T3 27 1).toInt := (congrArg Int32.toInt (g27.1 27 1 rfl rfl)).trans rfl
          have e49 : ((T24 27 1) + 1).toInt = ((T3 27 1).toInt + 1) := (t_add (B_eq (g27.1 27 1 rfl rfl) (show B 0 257 (T3 27 1) from hI5 27 1)) cqb_1_1_1 (by decide +kernel) (by decide +kernel)).trans (by rw [e48, cqn_1])
          have q50 : (1) ≤ ((T24 27 1) + 1).toInt ∧ ((T24 27 1) + 1).toInt ≤ (258) := (show B 1 258 ((T24 27 1) + 1) from B_w (B_add (B_eq (g27.1 27 1 rfl rfl) (show B 0 257 (T3 27 1) from hI5 27 1)) cqb_1_1_1 (by decide +kernel) (by decide +kernel)) (by decide +kernel) (by decide +kernel))
          have hI51 := IMc_u (u := 27) (i := 1) (v := (T24 27 1) + 1) hI47 (show B 0 257 ((T24 27 1) + 1) from (show B 0 257 ((T24 27 1) + 1) from ⟨by omega, by omega⟩))
          have g55 := agc_tr (agc_refl (fs := [2701]) (rs := [28, 999]) (F := va_up F 27 (upd (F 27) 1 0))) g6 (by decide +kernel) (by decide +kernel)
          have g54 := agc_tr g55 g27 (by decide +kernel) (by decide +kernel)
          have g53 := agc_r (u := 28) (w := upd (T24 28) x3_23.toNatClampNeg x2_2) g54 rfl (by decide +kernel)
          have g52 := agc_f (u := 27) (k := 1) (v := (T24 27 1) + 1) g53 rfl (by decide +kernel)
          have e56 : (x2_2 + 1).toInt = ((x2_2).toInt + 1) := (t_add b17 cqb_1_1_1 (by decide +kernel) (by decide +kernel)).trans (by rw [cqn_1])
          have q57 : (1) ≤ (x2_2 + 1).toInt ∧ (x2_2 + 1).toInt ≤ (257) := (show B 1 257 (x2_2 + 1) from B_w (B_add b17 cqb_1_1_1 (by decide +kernel) (by decide +kernel)) (by decide +kernel) (by decide +kernel))
          exact hR7 ⟨rfl, (B_w (B_add b17 cqb_1_1_1 (by decide +kernel) (by decide +kernel)) (by decide +kernel) (by decide +kernel)), _, _, rfl, hI51, g52, (by show ((T24 27 1) + 1).toInt ≤ (x2_2 + 1).toInt; first | with_reducible assumption | omega)⟩ (by show (257 - (x2_2 + 1).toInt).toNat < (257 - x2_2.toInt).toNat; omega)
        · have hq58 := (nle_lt hc)
          have b59 : B (-2147483648) 2147483646 (F 47 x2_2.toNatClampNeg) := B_w (B_eq (Eq.symm ((congrFun (g27.2 47 rfl rfl) x2_2.toNatClampNeg).trans (congrFun (g6.2 47 rfl rfl) x2_2.toNatClampNeg))) (B_ltL (B_eq ((congrFun (g27.2 47 rfl rfl) x2_2.toNatClampNeg).trans (congrFun (g6.2 47 rfl rfl) x2_2.toNatClampNeg)) (B_any _)) (B_eq ((congrFun (g27.2 47 rfl rfl) (T24 28 (x3_23 - 1).toNatClampNeg).toNatClampNeg).trans (congrFun (g6.2 47 rfl rfl) (T24 28 (x3_23 - 1).toNatClampNeg).toNatClampNeg)) (B_any _)) hq58)) (by decide +kernel) (by decide +kernel)
          have b60 : B (-2147483647) 2147483647 (F 47 (T24 28 (x3_23 - 1).toNatClampNeg).toNatClampNeg) := B_w (B_eq (Eq.symm ((congrFun (g27.2 47 rfl rfl) (T24 28 (x3_23 - 1).toNatClampNeg).toNatClampNeg).trans (congrFun (g6.2 47 rfl rfl) (T24 28 (x3_23 - 1).toNatClampNeg).toNatClampNeg))) (B_ltR (B_eq ((congrFun (g27.2 47 rfl rfl) x2_2.toNatClampNeg).trans (congrFun (g6.2 47 rfl rfl) x2_2.toNatClampNeg)) (B_any _)) (B_eq ((congrFun (g27.2 47 rfl rfl) (T24 28 (x3_23 - 1).toNatClampNeg).toNatClampNeg).trans (congrFun (g6.2 47 rfl rfl) (T24 28 (x3_23 - 1).toNatClampNeg).toNatClampNeg)) (B_any _)) hq58)) (by decide +kernel) (by decide +kernel)
          have q61 : (-2147483648) ≤ (F 47 x2_2.toNatClampNeg).toInt ∧ (F 47 x2_2.toNatClampNeg).toInt ≤ (2147483646) := (show B (-2147483648) 2147483646 (F 47 x2_2.toNatClampNeg) from B_w b59 (by decide +kernel) (by decide +kernel))
          have e62 : (T24 47 x2_2.toNatClampNeg).toInt = (F 47 x2_2.toNatClampNeg).toInt := (congrArg Int32.toInt ((congrFun (g27.2 47 rfl rfl) x2_2.toNatClampNeg).trans (congrFun (g6.2 47 rfl rfl) x2_2.toNatClampNeg))).trans rfl
          have q63 : (-2147483647) ≤ (F 47 (T24 28 (x3_23 - 1).toNatClampNeg).toNatClampNeg).toInt ∧ (F 47 (T24 28 (x3_23 - 1).toNatClampNeg).toNatClampNeg).toInt ≤ (2147483647) := (show B (-2147483647) 2147483647 (F 47 (T24 28 (x3_23 - 1).toNatClampNeg).toNatClampNeg) from B_w b60 (by decide +kernel) (by decide +kernel))
          have e64 : (T24 47 (T24 28 (x3_23 - 1).toNatClampNeg).toNatClampNeg).toInt = (F 47 (T24 28 (x3_23 - 1).toNatClampNeg).toNatClampNeg).toInt := (congrArg Int32.toInt ((congrFun (g27.2 47 rfl rfl) (T24 28 (x3_23 - 1).toNatClampNeg).toNatClampNeg).trans (congrFun (g6.2 47 rfl rfl) (T24 28 (x3_23 - 1).toNatClampNeg).toNatClampNeg))).trans rfl
          have i65 : (T24 47 x2_2.toNatClampNeg).toInt < (T24 47 (T24 28 (x3_23 - 1).toNatClampNeg).toNatClampNeg).toInt := i_lt hq58
          refine ⟨(show ¬ ((28 : Nat) = NU) from by decide +kernel), ?_⟩
          refine ⟨(show ¬ ((28 : Nat) = NU) from by decide +kernel), ?_⟩
          refine ⟨(show vp_in (x3_23 - 1) 257 from vp_B (B_sub b42 cqb_1_1_1 (by decide +kernel) (by decide +kernel)) (by decide +kernel) (by decide +kernel)), ?_⟩
          refine ⟨(show vp_in (x3_23) 257 from vp_B b42 (by decide +kernel) (by decide +kernel)), ?_⟩
          have hI66 := IMc_u (u := 28) (i := x3_23.toNatClampNeg) (v := T24 28 (x3_23 - 1).toNatClampNeg) hI26 (show B 0 256 (T24 28 (x3_23 - 1).toNatClampNeg) from (B_w (show B 0 256 (T24 28 (x3_23 - 1).toNatClampNeg) from hI26 28 (x3_23 - 1).toNatClampNeg) (by decide +kernel) (by decide +kernel)))
          have g68 := agc_tr (agc_refl (fs := []) (rs := [28]) (F := T3)) g27 (by decide +kernel) (by decide +kernel)
          have g67 := agc_r (u := 28) (w := upd (T24 28) x3_23.toNatClampNeg (T24 28 (x3_23 - 1).toNatClampNeg)) g68 rfl (by decide +kernel)
          have q69 : (1) ≤ (x3_23).toInt ∧ (x3_23).toInt ≤ (256) := (show B 1 256 (x3_23) from B_w b42 (by decide +kernel) (by decide +kernel))
          have e70 : (x3_23 + (-1)).toInt = ((x3_23).toInt + (-1)) := (t_add b42 cqb_m1_m1_m1 (by decide +kernel) (by decide +kernel)).trans (by rw [cqn_m1])
          have q71 : (0) ≤ (x3_23 + (-1)).toInt ∧ (x3_23 + (-1)).toInt ≤ (255) := (show B 0 255 (x3_23 + (-1)) from B_w (B_add b42 cqb_m1_m1_m1 (by decide +kernel) (by decide +kernel)) (by decide +kernel) (by decide +kernel))
          exact hR32 ⟨rfl, rfl, (B_w (B_add b42 cqb_m1_m1_m1 (by decide +kernel) (by decide +kernel)) (by decide +kernel) (by decide +kernel)), _, _, rfl, hI66, g67⟩ (by show ((x3_23 + (-1)).toInt - 0).toNat < (x3_23.toInt - 0).toNat; revert e70 q71; generalize (x3_23 + (-1)).toInt = dd0; intros; omega)
    refine ⟨fun hc => ?_, fun hc => ?_⟩
    · have hq72 := hc
      have b73 : B 1 2147483647 (F 47 x2_2.toNatClampNeg) := B_w (B_eq (Eq.symm (congrFun (g6.2 47 rfl rfl) x2_2.toNatClampNeg)) (B_ltR cqb_0_0_0 (B_eq (congrFun (g6.2 47 rfl rfl) x2_2.toNatClampNeg) (B_any _)) hq72)) (by decide +kernel) (by decide +kernel)
      exact hj19 (by show (T3 27 1).toInt ≤ x2_2.toInt; first | with_reducible assumption | omega)
    · have hq74 := (nlt_le hc)
      have b75 : B (-2147483648) 0 (F 47 x2_2.toNatClampNeg) := B_w (B_eq (Eq.symm (congrFun (g6.2 47 rfl rfl) x2_2.toNatClampNeg)) (B_leL (B_eq (congrFun (g6.2 47 rfl rfl) x2_2.toNatClampNeg) (B_any _)) cqb_0_0_0 hq74)) (by decide +kernel) (by decide +kernel)
      refine ⟨fun hc => ?_, fun hc => ?_⟩
      · have i76 : (x2_2).toInt ≠ (256 : Int32).toInt := i_ne hc
        have n77 : (256 : Int32).toInt = 256 := cqn_256
        unfold b_Li_sortSymbols_89
        have g78 := agc_tr (agc_refl (fs := [2701]) (rs := [28, 999]) (F := va_up F 27 (upd (F 27) 1 0))) g6 (by decide +kernel) (by decide +kernel)
        have e79 : (x2_2 + 1).toInt = ((x2_2).toInt + 1) := (t_add b17 cqb_1_1_1 (by decide +kernel) (by decide +kernel)).trans (by rw [cqn_1])
        have q80 : (1) ≤ (x2_2 + 1).toInt ∧ (x2_2 + 1).toInt ≤ (257) := (show B 1 257 (x2_2 + 1) from B_w (B_add b17 cqb_1_1_1 (by decide +kernel) (by decide +kernel)) (by decide +kernel) (by decide +kernel))
        exact hR7 ⟨rfl, (B_w (B_add b17 cqb_1_1_1 (by decide +kernel) (by decide +kernel)) (by decide +kernel) (by decide +kernel)), _, _, rfl, hI5, g78, (by show (T3 27 1).toInt ≤ (x2_2 + 1).toInt; first | with_reducible assumption | omega)⟩ (by show (257 - (x2_2 + 1).toInt).toNat < (257 - x2_2.toInt).toNat; omega)
      · have b81 : B 256 256 (x2_2) := B_w (B_eq hc cqb_256_256_256) (by decide +kernel) (by decide +kernel)
        have q82 : (256) ≤ (x2_2).toInt ∧ (x2_2).toInt ≤ (256) := (show B 256 256 (x2_2) from B_w b81 (by decide +kernel) (by decide +kernel))
        have i83 : (x2_2).toInt = (256 : Int32).toInt := congrArg Int32.toInt hc
        have n84 : (256 : Int32).toInt = 256 := cqn_256
        exact hj19 (by show (T3 27 1).toInt ≤ x2_2.toInt; first | with_reducible assumption | omega)
set_option maxRecDepth 20000 in
set_option maxHeartbeats 4000000 in
theorem h_Li_takeThings_u27_x348 {a : Bool} {b : Bool} {P : Nat → Nat → Nat} {x1 : Int32} {x2 : Int32} {F : cF} {L : cL} {K : Int32 → cs → Prop} (b_x1 : B 0 15 x1) (hI : IMc F) (hK : ∀ {v : Int32} {Z : cF} {LZ : cL}, B 0 514 v → IMc Z → agc [] [48] F Z → K v (Z, LZ, PC a b P)) : p_Li_takeThings UL 27 x1 x2 48 (F, L, PC a b P) K := by
  unfold p_Li_takeThings
  refine ⟨fun yx1 yx2 yx3 yx4 yx5 yS => x1 = yx1 ∧ x2 = yx2 ∧ (48 : Nat) = yx3 ∧ B 0 514 yx4 ∧ B 0 514 yx5 ∧ ∃ (T6 : cF) (LT6 : cL), yS = (T6, LT6, PC a b P) ∧ IMc T6 ∧ agc [] [48] F T6 ∧ (yx4.toInt ≤ yx5.toInt), fun yx1 yx2 yx3 yx4 yx5 yS => (514 - yx5.toInt).toNat, ⟨rfl, rfl, rfl, (B_w cqb_0_0_0 (by decide +kernel) (by decide +kernel)), (B_w cqb_0_0_0 (by decide +kernel) (by decide +kernel)), _, _, rfl, hI, (agc_refl (fs := []) (rs := [48]) (F := F)), (by show (0 : Int) ≤ 0; first | with_reducible assumption | omega)⟩, fun x1_1 x2_2 x3_3 x4_4 x5_5 ST6 hIv => ?_⟩
  obtain ⟨rfl, rfl, rfl, b7, b8, T6, LT6, rfl, hI9, g10, r11⟩ := hIv
  suffices hs : ∀ (R6 : Int32 → Int32 → Nat → Int32 → Int32 → cs → Prop), (∀ zx1 zx2 zx3 zx4 zx5 zS, (x1 = zx1 ∧ x2 = zx2 ∧ (48 : Nat) = zx3 ∧ B 0 514 zx4 ∧ B 0 514 zx5 ∧ ∃ (T6 : cF) (LT6 : cL), zS = (T6, LT6, PC a b P) ∧ IMc T6 ∧ agc [] [48] F T6 ∧ (zx4.toInt ≤ zx5.toInt)) → (514 - zx5.toInt).toNat < (514 - x5_5.toInt).toNat → R6 zx1 zx2 zx3 zx4 zx5 zS) → b_Li_takeThings_6 UL 27 x1 x2 48 x4_4 x5_5 (T6, LT6, PC a b P) R6 K from hs _ (fun _ _ _ _ _ _ h1 h2 => ⟨h1, h2⟩)
  intro R6 hR60
  have hR6 := fun {zx1} {zx2} {zx3} {zx4} {zx5} {zS} => hR60 zx1 zx2 zx3 zx4 zx5 zS
  have q12 : (0) ≤ (x4_4).toInt ∧ (x4_4).toInt ≤ (514) := (show B 0 514 (x4_4) from B_w b7 (by decide +kernel) (by decide +kernel))
  have q13 : (0) ≤ (x5_5).toInt ∧ (x5_5).toInt ≤ (514) := (show B 0 514 (x5_5) from B_w b8 (by decide +kernel) (by decide +kernel))
  unfold b_Li_takeThings_6
  refine ⟨fun hc => ?_, fun hc => ?_⟩
  · have hq14 := hc
    have b15 : B (-2147483648) 514 (x2) := B_w (B_leL (B_any _) b8 hq14) (by decide +kernel) (by decide +kernel)
    have q16 : (-2147483648) ≤ (x2).toInt ∧ (x2).toInt ≤ (514) := (show B (-2147483648) 514 (x2) from B_w b15 (by decide +kernel) (by decide +kernel))
    have i17 : (x2).toInt ≤ (x5_5).toInt := i_le hq14
    unfold b_Li_takeThings_76
    have g18 := agc_tr (agc_refl (fs := []) (rs := [48]) (F := F)) g10 (by decide +kernel) (by decide +kernel)
    exact hK b7 hI9 g18
  · have hq19 := (nle_lt hc)
    have b20 : B 1 2147483647 (x2) := B_w (B_ltR b8 (B_any _) hq19) (by decide +kernel) (by decide +kernel)
    have q21 : (1) ≤ (x2).toInt ∧ (x2).toInt ≤ (2147483647) := (show B 1 2147483647 (x2) from B_w b20 (by decide +kernel) (by decide +kernel))
    have i22 : (x5_5).toInt < (x2).toInt := i_lt hq19
    refine ⟨fun hc => ?_, fun hc => ?_⟩
    · have hq23 := hc
      have b24 : B 514 514 (x5_5) := B_w (B_leR cqb_514_514_514 b8 hq23) (by decide +kernel) (by decide +kernel)
      have q25 : (514) ≤ (x5_5).toInt ∧ (x5_5).toInt ≤ (514) := (show B 514 514 (x5_5) from B_w b24 (by decide +kernel) (by decide +kernel))
      unfold b_Li_takeThings_76
      have g26 := agc_tr (agc_refl (fs := []) (rs := [48]) (F := F)) g10 (by decide +kernel) (by decide +kernel)
      exact hK b7 hI9 g26
    · have hq27 := (nle_lt hc)
      have b28 : B 0 513 (x5_5) := B_w (B_ltL b8 cqb_514_514_514 hq27) (by decide +kernel) (by decide +kernel)
      have q29 : (0) ≤ (x5_5).toInt ∧ (x5_5).toInt ≤ (513) := (show B 0 513 (x5_5) from B_w b28 (by decide +kernel) (by decide +kernel))
      refine ⟨(show ¬ ((29 : Nat) = NU) from by decide +kernel), ?_⟩
      refine ⟨(show c_cl UL 29 = 903 from cl_29), ?_⟩
      refine ⟨(show vp_in ((514 * x1) + x5_5) 8224 from vp_B (B_add (B_mul cqb_514_514_514 b_x1 (by decide +kernel) (by decide +kernel) (by decide +kernel)) b28 (by decide +kernel) (by decide +kernel)) (by decide +kernel) (by decide +kernel)), ?_⟩
      refine ⟨fun hc => ?_, fun hc => ?_⟩
      · have b30 : B 0 0 (F 29 ((514 * x1) + x5_5).toNatClampNeg) := B_w (B_eq (Eq.symm (congrFun (g10.2 29 rfl rfl) ((514 * x1) + x5_5).toNatClampNeg)) (B_eq hc cqb_0_0_0)) (by decide +kernel) (by decide +kernel)
        have q31 : (0) ≤ (F 29 ((514 * x1) + x5_5).toNatClampNeg).toInt ∧ (F 29 ((514 * x1) + x5_5).toNatClampNeg).toInt ≤ (0) := (show B 0 0 (F 29 ((514 * x1) + x5_5).toNatClampNeg) from B_w b30 (by decide +kernel) (by decide +kernel))
        have e32 : (T6 29 ((514 * x1) + x5_5).toNatClampNeg).toInt = (F 29 ((514 * x1) + x5_5).toNatClampNeg).toInt := (congrArg Int32.toInt (congrFun (g10.2 29 rfl rfl) ((514 * x1) + x5_5).toNatClampNeg)).trans rfl
        have i33 : (T6 29 ((514 * x1) + x5_5).toNatClampNeg).toInt = (0 : Int32).toInt := congrArg Int32.toInt hc
        have n34 : (0 : Int32).toInt = 0 := cqn_0
        refine ⟨fun hc => ?_, fun hc => ?_⟩
        · have hq35 := hc
          have b36 : B 0 513 (x5_5 - x4_4) := B_w (B_leR (B_eq (g10.1 27 1 rfl rfl) (show B 0 257 (F 27 1) from hI 27 1)) (B_sub b28 b7 (by decide +kernel) (by decide +kernel)) hq35) (by decide +kernel) (by decide +kernel)
          have q37 : (0) ≤ (F 27 1).toInt ∧ (F 27 1).toInt ≤ (257) := (show B 0 257 (F 27 1) from hI 27 1)
          have e38 : (T6 27 1).toInt = (F 27 1).toInt := (congrArg Int32.toInt (g10.1 27 1 rfl rfl)).trans rfl
          have e39 : (x5_5 - x4_4).toInt = ((x5_5).toInt - (x4_4).toInt) := (t_sub b28 b7 (by decide +kernel) (by decide +kernel)).trans (by rfl)
          have q40 : (0) ≤ (x5_5 - x4_4).toInt ∧ (x5_5 - x4_4).toInt ≤ (513) := (show B 0 513 (x5_5 - x4_4) from B_w b36 (by decide +kernel) (by decide +kernel))
          have i41 : (T6 27 1).toInt ≤ (x5_5 - x4_4).toInt := i_le hq35
          unfold b_Li_takeThings_70
          have g42 := agc_tr (agc_refl (fs := []) (rs := [48]) (F := F)) g10 (by decide +kernel) (by decide +kernel)
          have e43 : (x5_5 + 1).toInt = ((x5_5).toInt + 1) := (t_add b28 cqb_1_1_1 (by decide +kernel) (by decide +kernel)).trans (by rw [cqn_1])
          have q44 : (1) ≤ (x5_5 + 1).toInt ∧ (x5_5 + 1).toInt ≤ (514) := (show B 1 514 (x5_5 + 1) from B_w (B_add b28 cqb_1_1_1 (by decide +kernel) (by decide +kernel)) (by decide +kernel) (by decide +kernel))
          exact hR6 ⟨rfl, rfl, rfl, b7, (B_w (B_add b28 cqb_1_1_1 (by decide +kernel) (by decide +kernel)) (by decide +kernel) (by decide +kernel)), _, _, rfl, hI9, g42, (by show x4_4.toInt ≤ (x5_5 + 1).toInt; first | with_reducible assumption | omega)⟩ (by show (514 - (x5_5 + 1).toInt).toNat < (514 - x5_5.toInt).toNat; omega)
        · have hq45 := (nle_lt hc)
          have b46 : B (-514) 256 (x5_5 - x4_4) := B_w (B_ltL (B_sub b28 b7 (by decide +kernel) (by decide +kernel)) (B_eq (g10.1 27 1 rfl rfl) (show B 0 257 (F 27 1) from hI 27 1)) hq45) (by decide +kernel) (by decide +kernel)
          have e47 : (x5_5 - x4_4).toInt = ((x5_5).toInt - (x4_4).toInt) := (t_sub b28 b7 (by decide +kernel) (by decide +kernel)).trans (by rfl)
          have q48 : (-514) ≤ (x5_5 - x4_4).toInt ∧ (x5_5 - x4_4).toInt ≤ (256) := (show B (-514) 256 (x5_5 - x4_4) from B_w b46 (by decide +kernel) (by decide +kernel))
          have q49 : (0) ≤ (F 27 1).toInt ∧ (F 27 1).toInt ≤ (257) := (show B 0 257 (F 27 1) from hI 27 1)
          have e50 : (T6 27 1).toInt = (F 27 1).toInt := (congrArg Int32.toInt (g10.1 27 1 rfl rfl)).trans rfl
          have i51 : (x5_5 - x4_4).toInt < (T6 27 1).toInt := i_lt hq45
          refine ⟨(show ¬ ((28 : Nat) = NU) from by decide +kernel), ?_⟩
          refine ⟨(show c_cl UL 28 = 902 from cl_28), ?_⟩
          refine ⟨(show vp_in (x5_5 - x4_4) 257 from vp_om (x := x5_5 - x4_4) (by omega) (by omega)), ?_⟩
          have b52 : B 0 256 (x5_5 - x4_4) := ⟨by omega, by omega⟩
          refine ⟨(show c_cl UL 48 = 902 from cl_48), ?_⟩
          refine ⟨(show vp_in (T6 28 (x5_5 - x4_4).toNatClampNeg) 257 from vp_B (B_eq (congrFun (g10.2 28 rfl rfl) (x5_5 - x4_4).toNatClampNeg) (show B 0 256 (F 28 (x5_5 - x4_4).toNatClampNeg) from hI 28 (x5_5 - x4_4).toNatClampNeg)) (by decide +kernel) (by decide +kernel)), ?_⟩
          refine ⟨(show vp_in (T6 28 (x5_5 - x4_4).toNatClampNeg) 257 from vp_B (B_eq (congrFun (g10.2 28 rfl rfl) (x5_5 - x4_4).toNatClampNeg) (show B 0 256 (F 28 (x5_5 - x4_4).toNatClampNeg) from hI 28 (x5_5 - x4_4).toNatClampNeg)) (by decide +kernel) (by decide +kernel)), ?_⟩
          unfold b_Li_takeThings_70
          have hI53 := IMc_u (u := 48) (i := (T6 28 (x5_5 - x4_4).toNatClampNeg).toNatClampNeg) (v := (T6 48 (T6 28 (x5_5 - x4_4).toNatClampNeg).toNatClampNeg) + 1) hI9 (show B (-2147483648) 2147483647 ((T6 48 (T6 28 (x5_5 - x4_4).toNatClampNeg).toNatClampNeg) + 1) from (B_w (B_any _) (by decide +kernel) (by decide +kernel)))
          have g55 := agc_tr (agc_refl (fs := []) (rs := [48]) (F := F)) g10 (by decide +kernel) (by decide +kernel)
          have g54 := agc_r (u := 48) (w := upd (T6 48) (T6 28 (x5_5 - x4_4).toNatClampNeg).toNatClampNeg ((T6 48 (T6 28 (x5_5 - x4_4).toNatClampNeg).toNatClampNeg) + 1)) g55 rfl (by decide +kernel)
          have e56 : (x5_5 + 1).toInt = ((x5_5).toInt + 1) := (t_add b28 cqb_1_1_1 (by decide +kernel) (by decide +kernel)).trans (by rw [cqn_1])
          have q57 : (1) ≤ (x5_5 + 1).toInt ∧ (x5_5 + 1).toInt ≤ (514) := (show B 1 514 (x5_5 + 1) from B_w (B_add b28 cqb_1_1_1 (by decide +kernel) (by decide +kernel)) (by decide +kernel) (by decide +kernel))
          exact hR6 ⟨rfl, rfl, rfl, b7, (B_w (B_add b28 cqb_1_1_1 (by decide +kernel) (by decide +kernel)) (by decide +kernel) (by decide +kernel)), _, _, rfl, hI53, g54, (by show x4_4.toInt ≤ (x5_5 + 1).toInt; first | with_reducible assumption | omega)⟩ (by show (514 - (x5_5 + 1).toInt).toNat < (514 - x5_5.toInt).toNat; omega)
      · have b58 : B 1 1 (F 29 ((514 * x1) + x5_5).toNatClampNeg) := B_w (B_eq (Eq.symm (congrFun (g10.2 29 rfl rfl) ((514 * x1) + x5_5).toNatClampNeg)) (B_n0 (B_eq (congrFun (g10.2 29 rfl rfl) ((514 * x1) + x5_5).toNatClampNeg) (show B 0 1 (F 29 ((514 * x1) + x5_5).toNatClampNeg) from hI 29 ((514 * x1) + x5_5).toNatClampNeg)) hc)) (by decide +kernel) (by decide +kernel)
        unfold b_Li_takeThings_70
        have e59 : (x4_4 + 1).toInt = ((x4_4).toInt + 1) := (t_add b7 cqb_1_1_1 (by decide +kernel) (by decide +kernel)).trans (by rw [cqn_1])
        have q60 : (1) ≤ (x4_4 + 1).toInt ∧ (x4_4 + 1).toInt ≤ (515) := (show B 1 515 (x4_4 + 1) from B_w (B_add b7 cqb_1_1_1 (by decide +kernel) (by decide +kernel)) (by decide +kernel) (by decide +kernel))
        have g61 := agc_tr (agc_refl (fs := []) (rs := [48]) (F := F)) g10 (by decide +kernel) (by decide +kernel)
        have e62 : (x5_5 + 1).toInt = ((x5_5).toInt + 1) := (t_add b28 cqb_1_1_1 (by decide +kernel) (by decide +kernel)).trans (by rw [cqn_1])
        have q63 : (1) ≤ (x5_5 + 1).toInt ∧ (x5_5 + 1).toInt ≤ (514) := (show B 1 514 (x5_5 + 1) from B_w (B_add b28 cqb_1_1_1 (by decide +kernel) (by decide +kernel)) (by decide +kernel) (by decide +kernel))
        exact hR6 ⟨rfl, rfl, rfl, (show B 0 514 (x4_4 + 1) from ⟨by omega, by omega⟩), (B_w (B_add b28 cqb_1_1_1 (by decide +kernel) (by decide +kernel)) (by decide +kernel) (by decide +kernel)), _, _, rfl, hI9, g61, (by show (x4_4 + 1).toInt ≤ (x5_5 + 1).toInt; first | with_reducible assumption | omega)⟩ (by show (514 - (x5_5 + 1).toInt).toNat < (514 - x5_5.toInt).toNat; omega)
set_option maxRecDepth 20000 in
set_option maxHeartbeats 4000000 in
theorem h_Li_makeLine_u27_x347_b0 {a : Bool} {P : Nat → Nat → Nat} {x1 : Int32} {x2 : Int32} {F : cF} {L : cL} {K : Int32 → cs → Prop} (b_x1 : B 1 15 x1) (b_x2 : B 0 256 x2) (hI : IMc F) (hK : ∀ {v : Int32} {Z : cF} {LZ : cL}, B 0 513 v → IMc Z → agc [] [29, 31] F Z → K v (Z, LZ, PC a (!false) P)) : p_Li_makeLine UL 27 x1 x2 47 (F, L, PC a false P) K := by
  unfold p_Li_makeLine
  have q14 : (0) ≤ (F 27 1).toInt ∧ (F 27 1).toInt ≤ (257) := (show B 0 257 (F 27 1) from hI 27 1)
  have q16 : (0) ≤ (x2).toInt ∧ (x2).toInt ≤ (256) := (show B 0 256 (x2) from B_w b_x2 (by decide +kernel) (by decide +kernel))
  refine ⟨fun yx1 yx2 yx3 yx4 yx5 yx6 yS => x1 = yx1 ∧ x2 = yx2 ∧ (47 : Nat) = yx3 ∧ B 0 257 yx4 ∧ B 0 256 yx5 ∧ B 0 513 yx6 ∧ ∃ (T7 : cF) (LT7 : cL), yS = (T7, LT7, PC a false P) ∧ IMc T7 ∧ agc [] [29, 31] F T7 ∧ ((yx4.toInt + yx5.toInt) = yx6.toInt) ∧ (yx4.toInt ≤ (T7 27 1).toInt) ∧ (yx5.toInt ≤ yx2.toInt), fun yx1 yx2 yx3 yx4 yx5 yx6 yS => (513 - yx6.toInt).toNat, ⟨rfl, rfl, rfl, (B_w cqb_0_0_0 (by decide +kernel) (by decide +kernel)), (B_w cqb_0_0_0 (by decide +kernel) (by decide +kernel)), (B_w cqb_0_0_0 (by decide +kernel) (by decide +kernel)), _, _, rfl, hI, (agc_refl (fs := []) (rs := [29, 31]) (F := F)), (by show (0 + 0) = 0; first | with_reducible assumption | omega), (by show 0 ≤ (F 27 1).toInt; first | with_reducible assumption | omega), (by show 0 ≤ x2.toInt; first | with_reducible assumption | omega)⟩, fun x1_1 x2_2 x3_3 x4_4 x5_5 x6_6 ST7 hIv => ?_⟩
  obtain ⟨rfl, rfl, rfl, b8, b9, b10, T7, LT7, rfl, hI11, g12, r13, r15, r17⟩ := hIv
  suffices hs : ∀ (R9 : Int32 → Int32 → Nat → Int32 → Int32 → Int32 → cs → Prop), (∀ zx1 zx2 zx3 zx4 zx5 zx6 zS, (x1 = zx1 ∧ x2 = zx2 ∧ (47 : Nat) = zx3 ∧ B 0 257 zx4 ∧ B 0 256 zx5 ∧ B 0 513 zx6 ∧ ∃ (T7 : cF) (LT7 : cL), zS = (T7, LT7, PC a false P) ∧ IMc T7 ∧ agc [] [29, 31] F T7 ∧ ((zx4.toInt + zx5.toInt) = zx6.toInt) ∧ (zx4.toInt ≤ (T7 27 1).toInt) ∧ (zx5.toInt ≤ zx2.toInt)) → (513 - zx6.toInt).toNat < (513 - x6_6.toInt).toNat → R9 zx1 zx2 zx3 zx4 zx5 zx6 zS) → b_Li_makeLine_9 UL 27 x1 x2 47 x4_4 x5_5 x6_6 (T7, LT7, PC a false P) R9 K from hs _ (fun _ _ _ _ _ _ _ h1 h2 => ⟨h1, h2⟩)
  intro R9 hR90
  have hR9 := fun {zx1} {zx2} {zx3} {zx4} {zx5} {zx6} {zS} => hR90 zx1 zx2 zx3 zx4 zx5 zx6 zS
  have q18 : (0) ≤ (x4_4).toInt ∧ (x4_4).toInt ≤ (257) := (show B 0 257 (x4_4) from B_w b8 (by decide +kernel) (by decide +kernel))
  have q19 : (0) ≤ (x5_5).toInt ∧ (x5_5).toInt ≤ (256) := (show B 0 256 (x5_5) from B_w b9 (by decide +kernel) (by decide +kernel))
  have q20 : (0) ≤ (x6_6).toInt ∧ (x6_6).toInt ≤ (513) := (show B 0 513 (x6_6) from B_w b10 (by decide +kernel) (by decide +kernel))
  have q21 : (0) ≤ (F 27 1).toInt ∧ (F 27 1).toInt ≤ (257) := (show B 0 257 (F 27 1) from hI 27 1)
  have e22 : (T7 27 1).toInt = (F 27 1).toInt := (congrArg Int32.toInt (g12.1 27 1 rfl rfl)).trans rfl
  have q23 : (0) ≤ (x2).toInt ∧ (x2).toInt ≤ (256) := (show B 0 256 (x2) from B_w b_x2 (by decide +kernel) (by decide +kernel))
  unfold b_Li_makeLine_9
  refine ⟨fun hc => ?_, fun hc => ?_⟩
  · have hq24 := hc
    have e25 : ((T7 27 1) + x2).toInt = ((F 27 1).toInt + (x2).toInt) := (t_add (B_eq (g12.1 27 1 rfl rfl) (show B 0 257 (F 27 1) from hI 27 1)) b_x2 (by decide +kernel) (by decide +kernel)).trans (by rw [e22])
    have q26 : (0) ≤ ((T7 27 1) + x2).toInt ∧ ((T7 27 1) + x2).toInt ≤ (513) := (show B 0 513 ((T7 27 1) + x2) from B_w (B_add (B_eq (g12.1 27 1 rfl rfl) (show B 0 257 (F 27 1) from hI 27 1)) b_x2 (by decide +kernel) (by decide +kernel)) (by decide +kernel) (by decide +kernel))
    have i27 : ((T7 27 1) + x2).toInt ≤ (x6_6).toInt := i_le hq24
    refine ⟨(show ¬ ((30 : Nat) = NU) from by decide +kernel), ?_⟩
    refine ⟨(show ¬ ((31 : Nat) = NU) from by decide +kernel), ?_⟩
    refine ⟨(show ¬ ((31 : Nat) = NU) from by decide +kernel), ?_⟩
    refine ⟨(show ¬ ((30 : Nat) = NU) from by decide +kernel), ?_⟩
    have g28 := agc_tr (agc_refl (fs := []) (rs := [29, 31]) (F := F)) g12 (by decide +kernel) (by decide +kernel)
    rw [pc_swap]
    exact hK (B_w (B_add (B_eq (g12.1 27 1 rfl rfl) (show B 0 257 (F 27 1) from hI 27 1)) b_x2 (by decide +kernel) (by decide +kernel)) (by decide +kernel) (by decide +kernel)) hI11 g28
  · have hq29 := (nle_lt hc)
    have b30 : B 0 512 (x6_6) := B_w (B_ltL b10 (B_add (B_eq (g12.1 27 1 rfl rfl) (show B 0 257 (F 27 1) from hI 27 1)) b_x2 (by decide +kernel) (by decide +kernel)) hq29) (by decide +kernel) (by decide +kernel)
    have q31 : (0) ≤ (x6_6).toInt ∧ (x6_6).toInt ≤ (512) := (show B 0 512 (x6_6) from B_w b30 (by decide +kernel) (by decide +kernel))
    have b32 : B 1 513 ((T7 27 1) + x2) := B_w (B_ltR b10 (B_add (B_eq (g12.1 27 1 rfl rfl) (show B 0 257 (F 27 1) from hI 27 1)) b_x2 (by decide +kernel) (by decide +kernel)) hq29) (by decide +kernel) (by decide +kernel)
    have e33 : ((T7 27 1) + x2).toInt = ((F 27 1).toInt + (x2).toInt) := (t_add (B_eq (g12.1 27 1 rfl rfl) (show B 0 257 (F 27 1) from hI 27 1)) b_x2 (by decide +kernel) (by decide +kernel)).trans (by rw [e22])
    have q34 : (1) ≤ ((T7 27 1) + x2).toInt ∧ ((T7 27 1) + x2).toInt ≤ (513) := (show B 1 513 ((T7 27 1) + x2) from B_w b32 (by decide +kernel) (by decide +kernel))
    have i35 : (x6_6).toInt < ((T7 27 1) + x2).toInt := i_lt hq29
    refine ⟨fun hc => ?_, fun hc => ?_⟩
    · have hq36 := hc
      have i37 : (x2).toInt ≤ (x5_5).toInt := i_le hq36
      unfold b_Li_makeLine_51
      refine ⟨fun hc => ?_, fun hc => ?_⟩
      · have i38 : (x4_4).toInt = (T7 27 1).toInt := congrArg Int32.toInt hc
        unfold b_Li_makeLine_82
        unfold b_Li_makeLine_87
        refine ⟨(show ¬ ((29 : Nat) = NU) from by decide +kernel), ?_⟩
        refine ⟨(show c_cl UL 29 = 903 from cl_29), ?_⟩
        refine ⟨(show vp_in ((514 * x1) + x6_6) 8224 from vp_B (B_add (B_mul cqb_514_514_514 b_x1 (by decide +kernel) (by decide +kernel) (by decide +kernel)) b30 (by decide +kernel) (by decide +kernel)) (by decide +kernel) (by decide +kernel)), ?_⟩
        refine ⟨fun hc => ?_, fun hc => ?_⟩
        · exact (B_dis cqb_1_1_1 cqb_0_0_0 hc (by decide +kernel)).elim
        · have i39 : (1 : Int32).toInt ≠ (0 : Int32).toInt := i_ne hc
          have n40 : (1 : Int32).toInt = 1 := cqn_1
          have n41 : (0 : Int32).toInt = 0 := cqn_0
          refine ⟨(show ¬ ((31 : Nat) = NU) from by decide +kernel), ?_⟩
          refine ⟨(show c_cl UL 31 = 902 from cl_31), ?_⟩
          refine ⟨(show vp_in (x6_6) 514 from vp_B b30 (by decide +kernel) (by decide +kernel)), ?_⟩
          unfold b_Li_makeLine_143
          have e42 : (x5_5 + 1).toInt = ((x5_5).toInt + 1) := (t_add b9 cqb_1_1_1 (by decide +kernel) (by decide +kernel)).trans (by rw [cqn_1])
          have q43 : (1) ≤ (x5_5 + 1).toInt ∧ (x5_5 + 1).toInt ≤ (257) := (show B 1 257 (x5_5 + 1) from B_w (B_add b9 cqb_1_1_1 (by decide +kernel) (by decide +kernel)) (by decide +kernel) (by decide +kernel))
          have hI44 := IMc_u (u := 29) (i := ((514 * x1) + x6_6).toNatClampNeg) (v := vp_nar .boolean 1) hI11 (show B 0 1 (vp_nar .boolean 1) from (B_w (show B 1 1 (vp_nar .boolean 1) from ⟨by decide +kernel, by decide +kernel⟩) (by decide +kernel) (by decide +kernel)))
          have hI45 := IMc_u (u := 31) (i := x6_6.toNatClampNeg) (v := 0) hI44 (show B (-2147483648) 2147483647 (0) from (B_w cqb_0_0_0 (by decide +kernel) (by decide +kernel)))
          have g48 := agc_tr (agc_refl (fs := []) (rs := [29, 31]) (F := F)) g12 (by decide +kernel) (by decide +kernel)
          have g47 := agc_r (u := 29) (w := upd (T7 29) ((514 * x1) + x6_6).toNatClampNeg (vp_nar .boolean 1)) g48 rfl (by decide +kernel)
          have g46 := agc_r (u := 31) (w := upd (T7 31) x6_6.toNatClampNeg 0) g47 rfl (by decide +kernel)
          have e49 : (x6_6 + 1).toInt = ((x6_6).toInt + 1) := (t_add b30 cqb_1_1_1 (by decide +kernel) (by decide +kernel)).trans (by rw [cqn_1])
          have q50 : (1) ≤ (x6_6 + 1).toInt ∧ (x6_6 + 1).toInt ≤ (513) := (show B 1 513 (x6_6 + 1) from B_w (B_add b30 cqb_1_1_1 (by decide +kernel) (by decide +kernel)) (by decide +kernel) (by decide +kernel))
          exact hR9 ⟨rfl, rfl, rfl, b8, (show B 0 256 (x5_5 + 1) from ⟨by omega, by omega⟩), (B_w (B_add b30 cqb_1_1_1 (by decide +kernel) (by decide +kernel)) (by decide +kernel) (by decide +kernel)), _, _, rfl, hI45, g46, (by show (x4_4.toInt + (x5_5 + 1).toInt) = (x6_6 + 1).toInt; first | with_reducible assumption | omega), (by show x4_4.toInt ≤ (T7 27 1).toInt; first | with_reducible assumption | omega), (by show (x5_5 + 1).toInt ≤ x2.toInt; first | with_reducible assumption | omega)⟩ (by show (513 - (x6_6 + 1).toInt).toNat < (513 - x6_6.toInt).toNat; omega)
      · have i51 : (x4_4).toInt ≠ (T7 27 1).toInt := i_ne hc
        refine ⟨fun hc => ?_, fun hc => ?_⟩
        · have hq52 := hc
          have i53 : (x2).toInt ≤ (x5_5).toInt := i_le hq52
          unfold b_Li_makeLine_86
          unfold b_Li_makeLine_87
          refine ⟨(show ¬ ((29 : Nat) = NU) from by decide +kernel), ?_⟩
          refine ⟨(show c_cl UL 29 = 903 from cl_29), ?_⟩
          refine ⟨(show vp_in ((514 * x1) + x6_6) 8224 from vp_B (B_add (B_mul cqb_514_514_514 b_x1 (by decide +kernel) (by decide +kernel) (by decide +kernel)) b30 (by decide +kernel) (by decide +kernel)) (by decide +kernel) (by decide +kernel)), ?_⟩
          refine ⟨fun hc => ?_, fun hc => ?_⟩
          · have i54 : (0 : Int32).toInt = (0 : Int32).toInt := congrArg Int32.toInt hc
            have n55 : (0 : Int32).toInt = 0 := cqn_0
            have n56 : (0 : Int32).toInt = 0 := cqn_0
            refine ⟨(show ¬ ((31 : Nat) = NU) from by decide +kernel), ?_⟩
            refine ⟨(show ¬ ((28 : Nat) = NU) from by decide +kernel), ?_⟩
            refine ⟨(show c_cl UL 28 = 902 from cl_28), ?_⟩
            refine ⟨(show vp_in (x4_4) 257 from vp_om (x := x4_4) (by omega) (by omega)), ?_⟩
            have b57 : B 0 256 (x4_4) := ⟨by omega, by omega⟩
            refine ⟨(show c_cl UL 47 = 902 from cl_47), ?_⟩
            refine ⟨(show vp_in (T7 28 x4_4.toNatClampNeg) 257 from vp_B (B_eq (congrFun (g12.2 28 rfl rfl) x4_4.toNatClampNeg) (show B 0 256 (F 28 x4_4.toNatClampNeg) from hI 28 x4_4.toNatClampNeg)) (by decide +kernel) (by decide +kernel)), ?_⟩
            refine ⟨(show c_cl UL 31 = 902 from cl_31), ?_⟩
            refine ⟨(show vp_in (x6_6) 514 from vp_B b30 (by decide +kernel) (by decide +kernel)), ?_⟩
            unfold b_Li_makeLine_143
            have hI58 := IMc_u (u := 29) (i := ((514 * x1) + x6_6).toNatClampNeg) (v := vp_nar .boolean 0) hI11 (show B 0 1 (vp_nar .boolean 0) from (B_w (show B 0 0 (vp_nar .boolean 0) from ⟨by decide +kernel, by decide +kernel⟩) (by decide +kernel) (by decide +kernel)))
            have hI59 := IMc_u (u := 31) (i := x6_6.toNatClampNeg) (v := T7 47 (T7 28 x4_4.toNatClampNeg).toNatClampNeg) hI58 (show B (-2147483648) 2147483647 (T7 47 (T7 28 x4_4.toNatClampNeg).toNatClampNeg) from (B_w (B_eq (congrFun (g12.2 47 rfl rfl) (T7 28 x4_4.toNatClampNeg).toNatClampNeg) (B_any _)) (by decide +kernel) (by decide +kernel)))
            have g62 := agc_tr (agc_refl (fs := []) (rs := [29, 31]) (F := F)) g12 (by decide +kernel) (by decide +kernel)
            have g61 := agc_r (u := 29) (w := upd (T7 29) ((514 * x1) + x6_6).toNatClampNeg (vp_nar .boolean 0)) g62 rfl (by decide +kernel)
            have g60 := agc_r (u := 31) (w := upd (T7 31) x6_6.toNatClampNeg (T7 47 (T7 28 x4_4.toNatClampNeg).toNatClampNeg)) g61 rfl (by decide +kernel)
            have e63 : (x4_4 + 1).toInt = ((x4_4).toInt + 1) := (t_add b57 cqb_1_1_1 (by decide +kernel) (by decide +kernel)).trans (by rw [cqn_1])
            have q64 : (1) ≤ (x4_4 + 1).toInt ∧ (x4_4 + 1).toInt ≤ (257) := (show B 1 257 (x4_4 + 1) from B_w (B_add b57 cqb_1_1_1 (by decide +kernel) (by decide +kernel)) (by decide +kernel) (by decide +kernel))
            have e65 : (x6_6 + 1).toInt = ((x6_6).toInt + 1) := (t_add b30 cqb_1_1_1 (by decide +kernel) (by decide +kernel)).trans (by rw [cqn_1])
            have q66 : (1) ≤ (x6_6 + 1).toInt ∧ (x6_6 + 1).toInt ≤ (513) := (show B 1 513 (x6_6 + 1) from B_w (B_add b30 cqb_1_1_1 (by decide +kernel) (by decide +kernel)) (by decide +kernel) (by decide +kernel))
            exact hR9 ⟨rfl, rfl, rfl, (B_w (B_add b57 cqb_1_1_1 (by decide +kernel) (by decide +kernel)) (by decide +kernel) (by decide +kernel)), b9, (B_w (B_add b30 cqb_1_1_1 (by decide +kernel) (by decide +kernel)) (by decide +kernel) (by decide +kernel)), _, _, rfl, hI59, g60, (by show ((x4_4 + 1).toInt + x5_5.toInt) = (x6_6 + 1).toInt; first | with_reducible assumption | omega), (by show (x4_4 + 1).toInt ≤ (T7 27 1).toInt; first | with_reducible assumption | omega), (by show x5_5.toInt ≤ x2.toInt; first | with_reducible assumption | omega)⟩ (by show (513 - (x6_6 + 1).toInt).toNat < (513 - x6_6.toInt).toNat; omega)
          · exact (hc (B_z cqb_0_0_0)).elim
        · have hq67 := (nle_lt hc)
          have b68 : B 0 255 (x5_5) := B_w (B_ltL b9 b_x2 hq67) (by decide +kernel) (by decide +kernel)
          have q69 : (0) ≤ (x5_5).toInt ∧ (x5_5).toInt ≤ (255) := (show B 0 255 (x5_5) from B_w b68 (by decide +kernel) (by decide +kernel))
          have b70 : B 1 256 (x2) := B_w (B_ltR b9 b_x2 hq67) (by decide +kernel) (by decide +kernel)
          have q71 : (1) ≤ (x2).toInt ∧ (x2).toInt ≤ (256) := (show B 1 256 (x2) from B_w b70 (by decide +kernel) (by decide +kernel))
          have i72 : (x5_5).toInt < (x2).toInt := i_lt hq67
          refine ⟨(show ¬ ((28 : Nat) = NU) from by decide +kernel), ?_⟩
          refine ⟨(show c_cl UL 28 = 902 from cl_28), ?_⟩
          refine ⟨(show vp_in (x4_4) 257 from vp_om (x := x4_4) (by omega) (by omega)), ?_⟩
          have b73 : B 0 256 (x4_4) := ⟨by omega, by omega⟩
          refine ⟨(show c_cl UL 47 = 902 from cl_47), ?_⟩
          refine ⟨(show vp_in (T7 28 x4_4.toNatClampNeg) 257 from vp_B (B_eq (congrFun (g12.2 28 rfl rfl) x4_4.toNatClampNeg) (show B 0 256 (F 28 x4_4.toNatClampNeg) from hI 28 x4_4.toNatClampNeg)) (by decide +kernel) (by decide +kernel)), ?_⟩
          refine ⟨fun hc => ?_, fun hc => ?_⟩
          · have hq74 := hc
            have b75 : B (-2147483648) 0 (F 47 (T7 28 x4_4.toNatClampNeg).toNatClampNeg) := B_w (B_eq (Eq.symm (congrFun (g12.2 47 rfl rfl) (T7 28 x4_4.toNatClampNeg).toNatClampNeg)) (B_leL (B_eq (congrFun (g12.2 47 rfl rfl) (T7 28 x4_4.toNatClampNeg).toNatClampNeg) (B_any _)) cqb_0_0_0 hq74)) (by decide +kernel) (by decide +kernel)
            unfold b_Li_makeLine_86
            unfold b_Li_makeLine_87
            refine ⟨(show ¬ ((29 : Nat) = NU) from by decide +kernel), ?_⟩
            refine ⟨(show c_cl UL 29 = 903 from cl_29), ?_⟩
            refine ⟨(show vp_in ((514 * x1) + x6_6) 8224 from vp_B (B_add (B_mul cqb_514_514_514 b_x1 (by decide +kernel) (by decide +kernel) (by decide +kernel)) b30 (by decide +kernel) (by decide +kernel)) (by decide +kernel) (by decide +kernel)), ?_⟩
            refine ⟨fun hc => ?_, fun hc => ?_⟩
            · have i76 : (0 : Int32).toInt = (0 : Int32).toInt := congrArg Int32.toInt hc
              have n77 : (0 : Int32).toInt = 0 := cqn_0
              have n78 : (0 : Int32).toInt = 0 := cqn_0
              refine ⟨(show ¬ ((31 : Nat) = NU) from by decide +kernel), ?_⟩
              refine ⟨(show ¬ ((28 : Nat) = NU) from by decide +kernel), ?_⟩
              refine ⟨(show c_cl UL 28 = 902 from cl_28), ?_⟩
              refine ⟨(show vp_in (x4_4) 257 from vp_B b73 (by decide +kernel) (by decide +kernel)), ?_⟩
              refine ⟨(show c_cl UL 47 = 902 from cl_47), ?_⟩
              refine ⟨(show vp_in (T7 28 x4_4.toNatClampNeg) 257 from vp_B (B_eq (congrFun (g12.2 28 rfl rfl) x4_4.toNatClampNeg) (show B 0 256 (F 28 x4_4.toNatClampNeg) from hI 28 x4_4.toNatClampNeg)) (by decide +kernel) (by decide +kernel)), ?_⟩
              refine ⟨(show c_cl UL 31 = 902 from cl_31), ?_⟩
              refine ⟨(show vp_in (x6_6) 514 from vp_B b30 (by decide +kernel) (by decide +kernel)), ?_⟩
              unfold b_Li_makeLine_143
              have hI79 := IMc_u (u := 29) (i := ((514 * x1) + x6_6).toNatClampNeg) (v := vp_nar .boolean 0) hI11 (show B 0 1 (vp_nar .boolean 0) from (B_w (show B 0 0 (vp_nar .boolean 0) from ⟨by decide +kernel, by decide +kernel⟩) (by decide +kernel) (by decide +kernel)))
              have hI80 := IMc_u (u := 31) (i := x6_6.toNatClampNeg) (v := T7 47 (T7 28 x4_4.toNatClampNeg).toNatClampNeg) hI79 (show B (-2147483648) 2147483647 (T7 47 (T7 28 x4_4.toNatClampNeg).toNatClampNeg) from (B_w (B_eq (congrFun (g12.2 47 rfl rfl) (T7 28 x4_4.toNatClampNeg).toNatClampNeg) b75) (by decide +kernel) (by decide +kernel)))
              have g83 := agc_tr (agc_refl (fs := []) (rs := [29, 31]) (F := F)) g12 (by decide +kernel) (by decide +kernel)
              have g82 := agc_r (u := 29) (w := upd (T7 29) ((514 * x1) + x6_6).toNatClampNeg (vp_nar .boolean 0)) g83 rfl (by decide +kernel)
              have g81 := agc_r (u := 31) (w := upd (T7 31) x6_6.toNatClampNeg (T7 47 (T7 28 x4_4.toNatClampNeg).toNatClampNeg)) g82 rfl (by decide +kernel)
              have e84 : (x4_4 + 1).toInt = ((x4_4).toInt + 1) := (t_add b73 cqb_1_1_1 (by decide +kernel) (by decide +kernel)).trans (by rw [cqn_1])
              have q85 : (1) ≤ (x4_4 + 1).toInt ∧ (x4_4 + 1).toInt ≤ (257) := (show B 1 257 (x4_4 + 1) from B_w (B_add b73 cqb_1_1_1 (by decide +kernel) (by decide +kernel)) (by decide +kernel) (by decide +kernel))
              have e86 : (x6_6 + 1).toInt = ((x6_6).toInt + 1) := (t_add b30 cqb_1_1_1 (by decide +kernel) (by decide +kernel)).trans (by rw [cqn_1])
              have q87 : (1) ≤ (x6_6 + 1).toInt ∧ (x6_6 + 1).toInt ≤ (513) := (show B 1 513 (x6_6 + 1) from B_w (B_add b30 cqb_1_1_1 (by decide +kernel) (by decide +kernel)) (by decide +kernel) (by decide +kernel))
              exact hR9 ⟨rfl, rfl, rfl, (B_w (B_add b73 cqb_1_1_1 (by decide +kernel) (by decide +kernel)) (by decide +kernel) (by decide +kernel)), (B_w b68 (by decide +kernel) (by decide +kernel)), (B_w (B_add b30 cqb_1_1_1 (by decide +kernel) (by decide +kernel)) (by decide +kernel) (by decide +kernel)), _, _, rfl, hI80, g81, (by show ((x4_4 + 1).toInt + x5_5.toInt) = (x6_6 + 1).toInt; first | with_reducible assumption | omega), (by show (x4_4 + 1).toInt ≤ (T7 27 1).toInt; first | with_reducible assumption | omega), (by show x5_5.toInt ≤ x2.toInt; first | with_reducible assumption | omega)⟩ (by show (513 - (x6_6 + 1).toInt).toNat < (513 - x6_6.toInt).toNat; omega)
            · exact (hc (B_z cqb_0_0_0)).elim
          · have hq88 := (nle_lt hc)
            have b89 : B 1 2147483647 (F 47 (T7 28 x4_4.toNatClampNeg).toNatClampNeg) := B_w (B_eq (Eq.symm (congrFun (g12.2 47 rfl rfl) (T7 28 x4_4.toNatClampNeg).toNatClampNeg)) (B_ltR cqb_0_0_0 (B_eq (congrFun (g12.2 47 rfl rfl) (T7 28 x4_4.toNatClampNeg).toNatClampNeg) (B_any _)) hq88)) (by decide +kernel) (by decide +kernel)
            unfold b_Li_makeLine_82
            unfold b_Li_makeLine_87
            refine ⟨(show ¬ ((29 : Nat) = NU) from by decide +kernel), ?_⟩
            refine ⟨(show c_cl UL 29 = 903 from cl_29), ?_⟩
            refine ⟨(show vp_in ((514 * x1) + x6_6) 8224 from vp_B (B_add (B_mul cqb_514_514_514 b_x1 (by decide +kernel) (by decide +kernel) (by decide +kernel)) b30 (by decide +kernel) (by decide +kernel)) (by decide +kernel) (by decide +kernel)), ?_⟩
            refine ⟨fun hc => ?_, fun hc => ?_⟩
            · exact (B_dis cqb_1_1_1 cqb_0_0_0 hc (by decide +kernel)).elim
            · have i90 : (1 : Int32).toInt ≠ (0 : Int32).toInt := i_ne hc
              have n91 : (1 : Int32).toInt = 1 := cqn_1
              have n92 : (0 : Int32).toInt = 0 := cqn_0
              refine ⟨(show ¬ ((31 : Nat) = NU) from by decide +kernel), ?_⟩
              refine ⟨(show c_cl UL 31 = 902 from cl_31), ?_⟩
              refine ⟨(show vp_in (x6_6) 514 from vp_B b30 (by decide +kernel) (by decide +kernel)), ?_⟩
              unfold b_Li_makeLine_143
              have hI93 := IMc_u (u := 29) (i := ((514 * x1) + x6_6).toNatClampNeg) (v := vp_nar .boolean 1) hI11 (show B 0 1 (vp_nar .boolean 1) from (B_w (show B 1 1 (vp_nar .boolean 1) from ⟨by decide +kernel, by decide +kernel⟩) (by decide +kernel) (by decide +kernel)))
              have hI94 := IMc_u (u := 31) (i := x6_6.toNatClampNeg) (v := 0) hI93 (show B (-2147483648) 2147483647 (0) from (B_w cqb_0_0_0 (by decide +kernel) (by decide +kernel)))
              have g97 := agc_tr (agc_refl (fs := []) (rs := [29, 31]) (F := F)) g12 (by decide +kernel) (by decide +kernel)
              have g96 := agc_r (u := 29) (w := upd (T7 29) ((514 * x1) + x6_6).toNatClampNeg (vp_nar .boolean 1)) g97 rfl (by decide +kernel)
              have g95 := agc_r (u := 31) (w := upd (T7 31) x6_6.toNatClampNeg 0) g96 rfl (by decide +kernel)
              have e98 : (x5_5 + 1).toInt = ((x5_5).toInt + 1) := (t_add b68 cqb_1_1_1 (by decide +kernel) (by decide +kernel)).trans (by rw [cqn_1])
              have q99 : (1) ≤ (x5_5 + 1).toInt ∧ (x5_5 + 1).toInt ≤ (256) := (show B 1 256 (x5_5 + 1) from B_w (B_add b68 cqb_1_1_1 (by decide +kernel) (by decide +kernel)) (by decide +kernel) (by decide +kernel))
              have e100 : (x6_6 + 1).toInt = ((x6_6).toInt + 1) := (t_add b30 cqb_1_1_1 (by decide +kernel) (by decide +kernel)).trans (by rw [cqn_1])
              have q101 : (1) ≤ (x6_6 + 1).toInt ∧ (x6_6 + 1).toInt ≤ (513) := (show B 1 513 (x6_6 + 1) from B_w (B_add b30 cqb_1_1_1 (by decide +kernel) (by decide +kernel)) (by decide +kernel) (by decide +kernel))
              exact hR9 ⟨rfl, rfl, rfl, (B_w b73 (by decide +kernel) (by decide +kernel)), (B_w (B_add b68 cqb_1_1_1 (by decide +kernel) (by decide +kernel)) (by decide +kernel) (by decide +kernel)), (B_w (B_add b30 cqb_1_1_1 (by decide +kernel) (by decide +kernel)) (by decide +kernel) (by decide +kernel)), _, _, rfl, hI94, g95, (by show (x4_4.toInt + (x5_5 + 1).toInt) = (x6_6 + 1).toInt; first | with_reducible assumption | omega), (by show x4_4.toInt ≤ (T7 27 1).toInt; first | with_reducible assumption | omega), (by show (x5_5 + 1).toInt ≤ x2.toInt; first | with_reducible assumption | omega)⟩ (by show (513 - (x6_6 + 1).toInt).toNat < (513 - x6_6.toInt).toNat; omega)
    · have hq102 := (nle_lt hc)
      have b103 : B 0 255 (x5_5) := B_w (B_ltL b9 b_x2 hq102) (by decide +kernel) (by decide +kernel)
      have q104 : (0) ≤ (x5_5).toInt ∧ (x5_5).toInt ≤ (255) := (show B 0 255 (x5_5) from B_w b103 (by decide +kernel) (by decide +kernel))
      have b105 : B 1 256 (x2) := B_w (B_ltR b9 b_x2 hq102) (by decide +kernel) (by decide +kernel)
      have q106 : (1) ≤ (x2).toInt ∧ (x2).toInt ≤ (256) := (show B 1 256 (x2) from B_w b105 (by decide +kernel) (by decide +kernel))
      have i107 : (x5_5).toInt < (x2).toInt := i_lt hq102
      refine ⟨(show ¬ ((30 : Nat) = NU) from by decide +kernel), ?_⟩
      refine ⟨(show c_cl UL 30 = 902 from cl_30), ?_⟩
      refine ⟨(show vp_in (2 * x5_5) 514 from vp_B (B_mul cqb_2_2_2 b103 (by decide +kernel) (by decide +kernel) (by decide +kernel)) (by decide +kernel) (by decide +kernel)), ?_⟩
      refine ⟨(show ¬ ((30 : Nat) = NU) from by decide +kernel), ?_⟩
      refine ⟨(show vp_in ((2 * x5_5) + 1) 514 from vp_B (B_add (B_mul cqb_2_2_2 b103 (by decide +kernel) (by decide +kernel) (by decide +kernel)) cqb_1_1_1 (by decide +kernel) (by decide +kernel)) (by decide +kernel) (by decide +kernel)), ?_⟩
      unfold b_Li_makeLine_51
      refine ⟨fun hc => ?_, fun hc => ?_⟩
      · have i108 : (x4_4).toInt = (T7 27 1).toInt := congrArg Int32.toInt hc
        unfold b_Li_makeLine_82
        unfold b_Li_makeLine_87
        refine ⟨(show ¬ ((29 : Nat) = NU) from by decide +kernel), ?_⟩
        refine ⟨(show c_cl UL 29 = 903 from cl_29), ?_⟩
        refine ⟨(show vp_in ((514 * x1) + x6_6) 8224 from vp_B (B_add (B_mul cqb_514_514_514 b_x1 (by decide +kernel) (by decide +kernel) (by decide +kernel)) b30 (by decide +kernel) (by decide +kernel)) (by decide +kernel) (by decide +kernel)), ?_⟩
        refine ⟨fun hc => ?_, fun hc => ?_⟩
        · exact (B_dis cqb_1_1_1 cqb_0_0_0 hc (by decide +kernel)).elim
        · have i109 : (1 : Int32).toInt ≠ (0 : Int32).toInt := i_ne hc
          have n110 : (1 : Int32).toInt = 1 := cqn_1
          have n111 : (0 : Int32).toInt = 0 := cqn_0
          refine ⟨(show ¬ ((31 : Nat) = NU) from by decide +kernel), ?_⟩
          refine ⟨(show c_cl UL 31 = 902 from cl_31), ?_⟩
          refine ⟨(show vp_in (x6_6) 514 from vp_B b30 (by decide +kernel) (by decide +kernel)), ?_⟩
          unfold b_Li_makeLine_143
          have hI112 := IMc_u (u := 29) (i := ((514 * x1) + x6_6).toNatClampNeg) (v := vp_nar .boolean 1) hI11 (show B 0 1 (vp_nar .boolean 1) from (B_w (show B 1 1 (vp_nar .boolean 1) from ⟨by decide +kernel, by decide +kernel⟩) (by decide +kernel) (by decide +kernel)))
          have hI113 := IMc_u (u := 31) (i := x6_6.toNatClampNeg) (v := (T7 30 (2 * x5_5).toNatClampNeg) + (T7 30 ((2 * x5_5) + 1).toNatClampNeg)) hI112 (show B (-2147483648) 2147483647 ((T7 30 (2 * x5_5).toNatClampNeg) + (T7 30 ((2 * x5_5) + 1).toNatClampNeg)) from (B_w (B_any _) (by decide +kernel) (by decide +kernel)))
          have g116 := agc_tr (agc_refl (fs := []) (rs := [29, 31]) (F := F)) g12 (by decide +kernel) (by decide +kernel)
          have g115 := agc_r (u := 29) (w := upd (T7 29) ((514 * x1) + x6_6).toNatClampNeg (vp_nar .boolean 1)) g116 rfl (by decide +kernel)
          have g114 := agc_r (u := 31) (w := upd (T7 31) x6_6.toNatClampNeg ((T7 30 (2 * x5_5).toNatClampNeg) + (T7 30 ((2 * x5_5) + 1).toNatClampNeg))) g115 rfl (by decide +kernel)
          have e117 : (x5_5 + 1).toInt = ((x5_5).toInt + 1) := (t_add b103 cqb_1_1_1 (by decide +kernel) (by decide +kernel)).trans (by rw [cqn_1])
          have q118 : (1) ≤ (x5_5 + 1).toInt ∧ (x5_5 + 1).toInt ≤ (256) := (show B 1 256 (x5_5 + 1) from B_w (B_add b103 cqb_1_1_1 (by decide +kernel) (by decide +kernel)) (by decide +kernel) (by decide +kernel))
          have e119 : (x6_6 + 1).toInt = ((x6_6).toInt + 1) := (t_add b30 cqb_1_1_1 (by decide +kernel) (by decide +kernel)).trans (by rw [cqn_1])
          have q120 : (1) ≤ (x6_6 + 1).toInt ∧ (x6_6 + 1).toInt ≤ (513) := (show B 1 513 (x6_6 + 1) from B_w (B_add b30 cqb_1_1_1 (by decide +kernel) (by decide +kernel)) (by decide +kernel) (by decide +kernel))
          exact hR9 ⟨rfl, rfl, rfl, b8, (B_w (B_add b103 cqb_1_1_1 (by decide +kernel) (by decide +kernel)) (by decide +kernel) (by decide +kernel)), (B_w (B_add b30 cqb_1_1_1 (by decide +kernel) (by decide +kernel)) (by decide +kernel) (by decide +kernel)), _, _, rfl, hI113, g114, (by show (x4_4.toInt + (x5_5 + 1).toInt) = (x6_6 + 1).toInt; first | with_reducible assumption | omega), (by show x4_4.toInt ≤ (T7 27 1).toInt; first | with_reducible assumption | omega), (by show (x5_5 + 1).toInt ≤ x2.toInt; first | with_reducible assumption | omega)⟩ (by show (513 - (x6_6 + 1).toInt).toNat < (513 - x6_6.toInt).toNat; omega)
      · have i121 : (x4_4).toInt ≠ (T7 27 1).toInt := i_ne hc
        refine ⟨fun hc => ?_, fun hc => ?_⟩
        · have hq122 := hc
          have b123 : B 1 255 (x2) := B_w (B_leL b105 b103 hq122) (by decide +kernel) (by decide +kernel)
          have q124 : (1) ≤ (x2).toInt ∧ (x2).toInt ≤ (255) := (show B 1 255 (x2) from B_w b123 (by decide +kernel) (by decide +kernel))
          have b125 : B 1 255 (x5_5) := B_w (B_leR b105 b103 hq122) (by decide +kernel) (by decide +kernel)
          have q126 : (1) ≤ (x5_5).toInt ∧ (x5_5).toInt ≤ (255) := (show B 1 255 (x5_5) from B_w b125 (by decide +kernel) (by decide +kernel))
          have i127 : (x2).toInt ≤ (x5_5).toInt := i_le hq122
          unfold b_Li_makeLine_86
          unfold b_Li_makeLine_87
          refine ⟨(show ¬ ((29 : Nat) = NU) from by decide +kernel), ?_⟩
          refine ⟨(show c_cl UL 29 = 903 from cl_29), ?_⟩
          refine ⟨(show vp_in ((514 * x1) + x6_6) 8224 from vp_B (B_add (B_mul cqb_514_514_514 b_x1 (by decide +kernel) (by decide +kernel) (by decide +kernel)) b30 (by decide +kernel) (by decide +kernel)) (by decide +kernel) (by decide +kernel)), ?_⟩
          refine ⟨fun hc => ?_, fun hc => ?_⟩
          · have i128 : (0 : Int32).toInt = (0 : Int32).toInt := congrArg Int32.toInt hc
            have n129 : (0 : Int32).toInt = 0 := cqn_0
            have n130 : (0 : Int32).toInt = 0 := cqn_0
            refine ⟨(show ¬ ((31 : Nat) = NU) from by decide +kernel), ?_⟩
            refine ⟨(show ¬ ((28 : Nat) = NU) from by decide +kernel), ?_⟩
            refine ⟨(show c_cl UL 28 = 902 from cl_28), ?_⟩
            refine ⟨(show vp_in (x4_4) 257 from vp_om (x := x4_4) (by omega) (by omega)), ?_⟩
            have b131 : B 0 256 (x4_4) := ⟨by omega, by omega⟩
            refine ⟨(show c_cl UL 47 = 902 from cl_47), ?_⟩
            refine ⟨(show vp_in (T7 28 x4_4.toNatClampNeg) 257 from vp_B (B_eq (congrFun (g12.2 28 rfl rfl) x4_4.toNatClampNeg) (show B 0 256 (F 28 x4_4.toNatClampNeg) from hI 28 x4_4.toNatClampNeg)) (by decide +kernel) (by decide +kernel)), ?_⟩
            refine ⟨(show c_cl UL 31 = 902 from cl_31), ?_⟩
            refine ⟨(show vp_in (x6_6) 514 from vp_B b30 (by decide +kernel) (by decide +kernel)), ?_⟩
            unfold b_Li_makeLine_143
            have hI132 := IMc_u (u := 29) (i := ((514 * x1) + x6_6).toNatClampNeg) (v := vp_nar .boolean 0) hI11 (show B 0 1 (vp_nar .boolean 0) from (B_w (show B 0 0 (vp_nar .boolean 0) from ⟨by decide +kernel, by decide +kernel⟩) (by decide +kernel) (by decide +kernel)))
            have hI133 := IMc_u (u := 31) (i := x6_6.toNatClampNeg) (v := T7 47 (T7 28 x4_4.toNatClampNeg).toNatClampNeg) hI132 (show B (-2147483648) 2147483647 (T7 47 (T7 28 x4_4.toNatClampNeg).toNatClampNeg) from (B_w (B_eq (congrFun (g12.2 47 rfl rfl) (T7 28 x4_4.toNatClampNeg).toNatClampNeg) (B_any _)) (by decide +kernel) (by decide +kernel)))
            have g136 := agc_tr (agc_refl (fs := []) (rs := [29, 31]) (F := F)) g12 (by decide +kernel) (by decide +kernel)
            have g135 := agc_r (u := 29) (w := upd (T7 29) ((514 * x1) + x6_6).toNatClampNeg (vp_nar .boolean 0)) g136 rfl (by decide +kernel)
            have g134 := agc_r (u := 31) (w := upd (T7 31) x6_6.toNatClampNeg (T7 47 (T7 28 x4_4.toNatClampNeg).toNatClampNeg)) g135 rfl (by decide +kernel)
            have e137 : (x4_4 + 1).toInt = ((x4_4).toInt + 1) := (t_add b131 cqb_1_1_1 (by decide +kernel) (by decide +kernel)).trans (by rw [cqn_1])
            have q138 : (1) ≤ (x4_4 + 1).toInt ∧ (x4_4 + 1).toInt ≤ (257) := (show B 1 257 (x4_4 + 1) from B_w (B_add b131 cqb_1_1_1 (by decide +kernel) (by decide +kernel)) (by decide +kernel) (by decide +kernel))
            have e139 : (x6_6 + 1).toInt = ((x6_6).toInt + 1) := (t_add b30 cqb_1_1_1 (by decide +kernel) (by decide +kernel)).trans (by rw [cqn_1])
            have q140 : (1) ≤ (x6_6 + 1).toInt ∧ (x6_6 + 1).toInt ≤ (513) := (show B 1 513 (x6_6 + 1) from B_w (B_add b30 cqb_1_1_1 (by decide +kernel) (by decide +kernel)) (by decide +kernel) (by decide +kernel))
            exact hR9 ⟨rfl, rfl, rfl, (B_w (B_add b131 cqb_1_1_1 (by decide +kernel) (by decide +kernel)) (by decide +kernel) (by decide +kernel)), (B_w b125 (by decide +kernel) (by decide +kernel)), (B_w (B_add b30 cqb_1_1_1 (by decide +kernel) (by decide +kernel)) (by decide +kernel) (by decide +kernel)), _, _, rfl, hI133, g134, (by show ((x4_4 + 1).toInt + x5_5.toInt) = (x6_6 + 1).toInt; first | with_reducible assumption | omega), (by show (x4_4 + 1).toInt ≤ (T7 27 1).toInt; first | with_reducible assumption | omega), (by show x5_5.toInt ≤ x2.toInt; first | with_reducible assumption | omega)⟩ (by show (513 - (x6_6 + 1).toInt).toNat < (513 - x6_6.toInt).toNat; omega)
          · exact (hc (B_z cqb_0_0_0)).elim
        · have hq141 := (nle_lt hc)
          have i142 : (x5_5).toInt < (x2).toInt := i_lt hq141
          refine ⟨(show ¬ ((28 : Nat) = NU) from by decide +kernel), ?_⟩
          refine ⟨(show c_cl UL 28 = 902 from cl_28), ?_⟩
          refine ⟨(show vp_in (x4_4) 257 from vp_om (x := x4_4) (by omega) (by omega)), ?_⟩
          have b143 : B 0 256 (x4_4) := ⟨by omega, by omega⟩
          refine ⟨(show c_cl UL 47 = 902 from cl_47), ?_⟩
          refine ⟨(show vp_in (T7 28 x4_4.toNatClampNeg) 257 from vp_B (B_eq (congrFun (g12.2 28 rfl rfl) x4_4.toNatClampNeg) (show B 0 256 (F 28 x4_4.toNatClampNeg) from hI 28 x4_4.toNatClampNeg)) (by decide +kernel) (by decide +kernel)), ?_⟩
          refine ⟨fun hc => ?_, fun hc => ?_⟩
          · have hq144 := hc
            have e145 : (T7 47 (T7 28 x4_4.toNatClampNeg).toNatClampNeg).toInt = (F 47 (T7 28 x4_4.toNatClampNeg).toNatClampNeg).toInt := (congrArg Int32.toInt (congrFun (g12.2 47 rfl rfl) (T7 28 x4_4.toNatClampNeg).toNatClampNeg)).trans rfl
            have i146 : (T7 47 (T7 28 x4_4.toNatClampNeg).toNatClampNeg).toInt ≤ ((T7 30 (2 * x5_5).toNatClampNeg) + (T7 30 ((2 * x5_5) + 1).toNatClampNeg)).toInt := i_le hq144
            unfold b_Li_makeLine_86
            unfold b_Li_makeLine_87
            refine ⟨(show ¬ ((29 : Nat) = NU) from by decide +kernel), ?_⟩
            refine ⟨(show c_cl UL 29 = 903 from cl_29), ?_⟩
            refine ⟨(show vp_in ((514 * x1) + x6_6) 8224 from vp_B (B_add (B_mul cqb_514_514_514 b_x1 (by decide +kernel) (by decide +kernel) (by decide +kernel)) b30 (by decide +kernel) (by decide +kernel)) (by decide +kernel) (by decide +kernel)), ?_⟩
            refine ⟨fun hc => ?_, fun hc => ?_⟩
            · have i147 : (0 : Int32).toInt = (0 : Int32).toInt := congrArg Int32.toInt hc
              have n148 : (0 : Int32).toInt = 0 := cqn_0
              have n149 : (0 : Int32).toInt = 0 := cqn_0
              refine ⟨(show ¬ ((31 : Nat) = NU) from by decide +kernel), ?_⟩
              refine ⟨(show ¬ ((28 : Nat) = NU) from by decide +kernel), ?_⟩
              refine ⟨(show c_cl UL 28 = 902 from cl_28), ?_⟩
              refine ⟨(show vp_in (x4_4) 257 from vp_B b143 (by decide +kernel) (by decide +kernel)), ?_⟩
              refine ⟨(show c_cl UL 47 = 902 from cl_47), ?_⟩
              refine ⟨(show vp_in (T7 28 x4_4.toNatClampNeg) 257 from vp_B (B_eq (congrFun (g12.2 28 rfl rfl) x4_4.toNatClampNeg) (show B 0 256 (F 28 x4_4.toNatClampNeg) from hI 28 x4_4.toNatClampNeg)) (by decide +kernel) (by decide +kernel)), ?_⟩
              refine ⟨(show c_cl UL 31 = 902 from cl_31), ?_⟩
              refine ⟨(show vp_in (x6_6) 514 from vp_B b30 (by decide +kernel) (by decide +kernel)), ?_⟩
              unfold b_Li_makeLine_143
              have hI150 := IMc_u (u := 29) (i := ((514 * x1) + x6_6).toNatClampNeg) (v := vp_nar .boolean 0) hI11 (show B 0 1 (vp_nar .boolean 0) from (B_w (show B 0 0 (vp_nar .boolean 0) from ⟨by decide +kernel, by decide +kernel⟩) (by decide +kernel) (by decide +kernel)))
              have hI151 := IMc_u (u := 31) (i := x6_6.toNatClampNeg) (v := T7 47 (T7 28 x4_4.toNatClampNeg).toNatClampNeg) hI150 (show B (-2147483648) 2147483647 (T7 47 (T7 28 x4_4.toNatClampNeg).toNatClampNeg) from (B_w (B_eq (congrFun (g12.2 47 rfl rfl) (T7 28 x4_4.toNatClampNeg).toNatClampNeg) (B_any _)) (by decide +kernel) (by decide +kernel)))
              have g154 := agc_tr (agc_refl (fs := []) (rs := [29, 31]) (F := F)) g12 (by decide +kernel) (by decide +kernel)
              have g153 := agc_r (u := 29) (w := upd (T7 29) ((514 * x1) + x6_6).toNatClampNeg (vp_nar .boolean 0)) g154 rfl (by decide +kernel)
              have g152 := agc_r (u := 31) (w := upd (T7 31) x6_6.toNatClampNeg (T7 47 (T7 28 x4_4.toNatClampNeg).toNatClampNeg)) g153 rfl (by decide +kernel)
              have e155 : (x4_4 + 1).toInt = ((x4_4).toInt + 1) := (t_add b143 cqb_1_1_1 (by decide +kernel) (by decide +kernel)).trans (by rw [cqn_1])
              have q156 : (1) ≤ (x4_4 + 1).toInt ∧ (x4_4 + 1).toInt ≤ (257) := (show B 1 257 (x4_4 + 1) from B_w (B_add b143 cqb_1_1_1 (by decide +kernel) (by decide +kernel)) (by decide +kernel) (by decide +kernel))
              have e157 : (x6_6 + 1).toInt = ((x6_6).toInt + 1) := (t_add b30 cqb_1_1_1 (by decide +kernel) (by decide +kernel)).trans (by rw [cqn_1])
              have q158 : (1) ≤ (x6_6 + 1).toInt ∧ (x6_6 + 1).toInt ≤ (513) := (show B 1 513 (x6_6 + 1) from B_w (B_add b30 cqb_1_1_1 (by decide +kernel) (by decide +kernel)) (by decide +kernel) (by decide +kernel))
              exact hR9 ⟨rfl, rfl, rfl, (B_w (B_add b143 cqb_1_1_1 (by decide +kernel) (by decide +kernel)) (by decide +kernel) (by decide +kernel)), (B_w b103 (by decide +kernel) (by decide +kernel)), (B_w (B_add b30 cqb_1_1_1 (by decide +kernel) (by decide +kernel)) (by decide +kernel) (by decide +kernel)), _, _, rfl, hI151, g152, (by show ((x4_4 + 1).toInt + x5_5.toInt) = (x6_6 + 1).toInt; first | with_reducible assumption | omega), (by show (x4_4 + 1).toInt ≤ (T7 27 1).toInt; first | with_reducible assumption | omega), (by show x5_5.toInt ≤ x2.toInt; first | with_reducible assumption | omega)⟩ (by show (513 - (x6_6 + 1).toInt).toNat < (513 - x6_6.toInt).toNat; omega)
            · exact (hc (B_z cqb_0_0_0)).elim
          · have hq159 := (nle_lt hc)
            have b160 : B (-2147483648) 2147483646 ((T7 30 (2 * x5_5).toNatClampNeg) + (T7 30 ((2 * x5_5) + 1).toNatClampNeg)) := B_w (B_ltL (B_any _) (B_eq (congrFun (g12.2 47 rfl rfl) (T7 28 x4_4.toNatClampNeg).toNatClampNeg) (B_any _)) hq159) (by decide +kernel) (by decide +kernel)
            have b161 : B (-2147483647) 2147483647 (F 47 (T7 28 x4_4.toNatClampNeg).toNatClampNeg) := B_w (B_eq (Eq.symm (congrFun (g12.2 47 rfl rfl) (T7 28 x4_4.toNatClampNeg).toNatClampNeg)) (B_ltR (B_any _) (B_eq (congrFun (g12.2 47 rfl rfl) (T7 28 x4_4.toNatClampNeg).toNatClampNeg) (B_any _)) hq159)) (by decide +kernel) (by decide +kernel)
            have q162 : (-2147483648) ≤ ((T7 30 (2 * x5_5).toNatClampNeg) + (T7 30 ((2 * x5_5) + 1).toNatClampNeg)).toInt ∧ ((T7 30 (2 * x5_5).toNatClampNeg) + (T7 30 ((2 * x5_5) + 1).toNatClampNeg)).toInt ≤ (2147483646) := (show B (-2147483648) 2147483646 ((T7 30 (2 * x5_5).toNatClampNeg) + (T7 30 ((2 * x5_5) + 1).toNatClampNeg)) from B_w b160 (by decide +kernel) (by decide +kernel))
            have q163 : (-2147483647) ≤ (F 47 (T7 28 x4_4.toNatClampNeg).toNatClampNeg).toInt ∧ (F 47 (T7 28 x4_4.toNatClampNeg).toNatClampNeg).toInt ≤ (2147483647) := (show B (-2147483647) 2147483647 (F 47 (T7 28 x4_4.toNatClampNeg).toNatClampNeg) from B_w b161 (by decide +kernel) (by decide +kernel))
            have e164 : (T7 47 (T7 28 x4_4.toNatClampNeg).toNatClampNeg).toInt = (F 47 (T7 28 x4_4.toNatClampNeg).toNatClampNeg).toInt := (congrArg Int32.toInt (congrFun (g12.2 47 rfl rfl) (T7 28 x4_4.toNatClampNeg).toNatClampNeg)).trans rfl
            have i165 : ((T7 30 (2 * x5_5).toNatClampNeg) + (T7 30 ((2 * x5_5) + 1).toNatClampNeg)).toInt < (T7 47 (T7 28 x4_4.toNatClampNeg).toNatClampNeg).toInt := i_lt hq159
            unfold b_Li_makeLine_82
            unfold b_Li_makeLine_87
            refine ⟨(show ¬ ((29 : Nat) = NU) from by decide +kernel), ?_⟩
            refine ⟨(show c_cl UL 29 = 903 from cl_29), ?_⟩
            refine ⟨(show vp_in ((514 * x1) + x6_6) 8224 from vp_B (B_add (B_mul cqb_514_514_514 b_x1 (by decide +kernel) (by decide +kernel) (by decide +kernel)) b30 (by decide +kernel) (by decide +kernel)) (by decide +kernel) (by decide +kernel)), ?_⟩
            refine ⟨fun hc => ?_, fun hc => ?_⟩
            · exact (B_dis cqb_1_1_1 cqb_0_0_0 hc (by decide +kernel)).elim
            · have i166 : (1 : Int32).toInt ≠ (0 : Int32).toInt := i_ne hc
              have n167 : (1 : Int32).toInt = 1 := cqn_1
              have n168 : (0 : Int32).toInt = 0 := cqn_0
              refine ⟨(show ¬ ((31 : Nat) = NU) from by decide +kernel), ?_⟩
              refine ⟨(show c_cl UL 31 = 902 from cl_31), ?_⟩
              refine ⟨(show vp_in (x6_6) 514 from vp_B b30 (by decide +kernel) (by decide +kernel)), ?_⟩
              unfold b_Li_makeLine_143
              have hI169 := IMc_u (u := 29) (i := ((514 * x1) + x6_6).toNatClampNeg) (v := vp_nar .boolean 1) hI11 (show B 0 1 (vp_nar .boolean 1) from (B_w (show B 1 1 (vp_nar .boolean 1) from ⟨by decide +kernel, by decide +kernel⟩) (by decide +kernel) (by decide +kernel)))
              have hI170 := IMc_u (u := 31) (i := x6_6.toNatClampNeg) (v := (T7 30 (2 * x5_5).toNatClampNeg) + (T7 30 ((2 * x5_5) + 1).toNatClampNeg)) hI169 (show B (-2147483648) 2147483647 ((T7 30 (2 * x5_5).toNatClampNeg) + (T7 30 ((2 * x5_5) + 1).toNatClampNeg)) from (B_w b160 (by decide +kernel) (by decide +kernel)))
              have g173 := agc_tr (agc_refl (fs := []) (rs := [29, 31]) (F := F)) g12 (by decide +kernel) (by decide +kernel)
              have g172 := agc_r (u := 29) (w := upd (T7 29) ((514 * x1) + x6_6).toNatClampNeg (vp_nar .boolean 1)) g173 rfl (by decide +kernel)
              have g171 := agc_r (u := 31) (w := upd (T7 31) x6_6.toNatClampNeg ((T7 30 (2 * x5_5).toNatClampNeg) + (T7 30 ((2 * x5_5) + 1).toNatClampNeg))) g172 rfl (by decide +kernel)
              have e174 : (x5_5 + 1).toInt = ((x5_5).toInt + 1) := (t_add b103 cqb_1_1_1 (by decide +kernel) (by decide +kernel)).trans (by rw [cqn_1])
              have q175 : (1) ≤ (x5_5 + 1).toInt ∧ (x5_5 + 1).toInt ≤ (256) := (show B 1 256 (x5_5 + 1) from B_w (B_add b103 cqb_1_1_1 (by decide +kernel) (by decide +kernel)) (by decide +kernel) (by decide +kernel))
              have e176 : (x6_6 + 1).toInt = ((x6_6).toInt + 1) := (t_add b30 cqb_1_1_1 (by decide +kernel) (by decide +kernel)).trans (by rw [cqn_1])
              have q177 : (1) ≤ (x6_6 + 1).toInt ∧ (x6_6 + 1).toInt ≤ (513) := (show B 1 513 (x6_6 + 1) from B_w (B_add b30 cqb_1_1_1 (by decide +kernel) (by decide +kernel)) (by decide +kernel) (by decide +kernel))
              exact hR9 ⟨rfl, rfl, rfl, (B_w b143 (by decide +kernel) (by decide +kernel)), (B_w (B_add b103 cqb_1_1_1 (by decide +kernel) (by decide +kernel)) (by decide +kernel) (by decide +kernel)), (B_w (B_add b30 cqb_1_1_1 (by decide +kernel) (by decide +kernel)) (by decide +kernel) (by decide +kernel)), _, _, rfl, hI170, g171, (by show (x4_4.toInt + (x5_5 + 1).toInt) = (x6_6 + 1).toInt; first | with_reducible assumption | omega), (by show x4_4.toInt ≤ (T7 27 1).toInt; first | with_reducible assumption | omega), (by show (x5_5 + 1).toInt ≤ x2.toInt; first | with_reducible assumption | omega)⟩ (by show (513 - (x6_6 + 1).toInt).toNat < (513 - x6_6.toInt).toNat; omega)
set_option maxRecDepth 20000 in
set_option maxHeartbeats 4000000 in
theorem h_Li_makeLine_u27_x347_b1 {a : Bool} {P : Nat → Nat → Nat} {x1 : Int32} {x2 : Int32} {F : cF} {L : cL} {K : Int32 → cs → Prop} (b_x1 : B 1 15 x1) (b_x2 : B 0 256 x2) (hI : IMc F) (hK : ∀ {v : Int32} {Z : cF} {LZ : cL}, B 0 513 v → IMc Z → agc [] [29, 30] F Z → K v (Z, LZ, PC a (!true) P)) : p_Li_makeLine UL 27 x1 x2 47 (F, L, PC a true P) K := by
  unfold p_Li_makeLine
  have q14 : (0) ≤ (F 27 1).toInt ∧ (F 27 1).toInt ≤ (257) := (show B 0 257 (F 27 1) from hI 27 1)
  have q16 : (0) ≤ (x2).toInt ∧ (x2).toInt ≤ (256) := (show B 0 256 (x2) from B_w b_x2 (by decide +kernel) (by decide +kernel))
  refine ⟨fun yx1 yx2 yx3 yx4 yx5 yx6 yS => x1 = yx1 ∧ x2 = yx2 ∧ (47 : Nat) = yx3 ∧ B 0 257 yx4 ∧ B 0 256 yx5 ∧ B 0 513 yx6 ∧ ∃ (T7 : cF) (LT7 : cL), yS = (T7, LT7, PC a true P) ∧ IMc T7 ∧ agc [] [29, 30] F T7 ∧ ((yx4.toInt + yx5.toInt) = yx6.toInt) ∧ (yx4.toInt ≤ (T7 27 1).toInt) ∧ (yx5.toInt ≤ yx2.toInt), fun yx1 yx2 yx3 yx4 yx5 yx6 yS => (513 - yx6.toInt).toNat, ⟨rfl, rfl, rfl, (B_w cqb_0_0_0 (by decide +kernel) (by decide +kernel)), (B_w cqb_0_0_0 (by decide +kernel) (by decide +kernel)), (B_w cqb_0_0_0 (by decide +kernel) (by decide +kernel)), _, _, rfl, hI, (agc_refl (fs := []) (rs := [29, 30]) (F := F)), (by show (0 + 0) = 0; first | with_reducible assumption | omega), (by show 0 ≤ (F 27 1).toInt; first | with_reducible assumption | omega), (by show 0 ≤ x2.toInt; first | with_reducible assumption | omega)⟩, fun x1_1 x2_2 x3_3 x4_4 x5_5 x6_6 ST7 hIv => ?_⟩
  obtain ⟨rfl, rfl, rfl, b8, b9, b10, T7, LT7, rfl, hI11, g12, r13, r15, r17⟩ := hIv
  suffices hs : ∀ (R9 : Int32 → Int32 → Nat → Int32 → Int32 → Int32 → cs → Prop), (∀ zx1 zx2 zx3 zx4 zx5 zx6 zS, (x1 = zx1 ∧ x2 = zx2 ∧ (47 : Nat) = zx3 ∧ B 0 257 zx4 ∧ B 0 256 zx5 ∧ B 0 513 zx6 ∧ ∃ (T7 : cF) (LT7 : cL), zS = (T7, LT7, PC a true P) ∧ IMc T7 ∧ agc [] [29, 30] F T7 ∧ ((zx4.toInt + zx5.toInt) = zx6.toInt) ∧ (zx4.toInt ≤ (T7 27 1).toInt) ∧ (zx5.toInt ≤ zx2.toInt)) → (513 - zx6.toInt).toNat < (513 - x6_6.toInt).toNat → R9 zx1 zx2 zx3 zx4 zx5 zx6 zS) → b_Li_makeLine_9 UL 27 x1 x2 47 x4_4 x5_5 x6_6 (T7, LT7, PC a true P) R9 K from hs _ (fun _ _ _ _ _ _ _ h1 h2 => ⟨h1, h2⟩)
  intro R9 hR90
  have hR9 := fun {zx1} {zx2} {zx3} {zx4} {zx5} {zx6} {zS} => hR90 zx1 zx2 zx3 zx4 zx5 zx6 zS
  have q18 : (0) ≤ (x4_4).toInt ∧ (x4_4).toInt ≤ (257) := (show B 0 257 (x4_4) from B_w b8 (by decide +kernel) (by decide +kernel))
  have q19 : (0) ≤ (x5_5).toInt ∧ (x5_5).toInt ≤ (256) := (show B 0 256 (x5_5) from B_w b9 (by decide +kernel) (by decide +kernel))
  have q20 : (0) ≤ (x6_6).toInt ∧ (x6_6).toInt ≤ (513) := (show B 0 513 (x6_6) from B_w b10 (by decide +kernel) (by decide +kernel))
  have q21 : (0) ≤ (F 27 1).toInt ∧ (F 27 1).toInt ≤ (257) := (show B 0 257 (F 27 1) from hI 27 1)
  have e22 : (T7 27 1).toInt = (F 27 1).toInt := (congrArg Int32.toInt (g12.1 27 1 rfl rfl)).trans rfl
  have q23 : (0) ≤ (x2).toInt ∧ (x2).toInt ≤ (256) := (show B 0 256 (x2) from B_w b_x2 (by decide +kernel) (by decide +kernel))
  unfold b_Li_makeLine_9
  refine ⟨fun hc => ?_, fun hc => ?_⟩
  · have hq24 := hc
    have e25 : ((T7 27 1) + x2).toInt = ((F 27 1).toInt + (x2).toInt) := (t_add (B_eq (g12.1 27 1 rfl rfl) (show B 0 257 (F 27 1) from hI 27 1)) b_x2 (by decide +kernel) (by decide +kernel)).trans (by rw [e22])
    have q26 : (0) ≤ ((T7 27 1) + x2).toInt ∧ ((T7 27 1) + x2).toInt ≤ (513) := (show B 0 513 ((T7 27 1) + x2) from B_w (B_add (B_eq (g12.1 27 1 rfl rfl) (show B 0 257 (F 27 1) from hI 27 1)) b_x2 (by decide +kernel) (by decide +kernel)) (by decide +kernel) (by decide +kernel))
    have i27 : ((T7 27 1) + x2).toInt ≤ (x6_6).toInt := i_le hq24
    refine ⟨(show ¬ ((31 : Nat) = NU) from by decide +kernel), ?_⟩
    refine ⟨(show ¬ ((30 : Nat) = NU) from by decide +kernel), ?_⟩
    refine ⟨(show ¬ ((30 : Nat) = NU) from by decide +kernel), ?_⟩
    refine ⟨(show ¬ ((31 : Nat) = NU) from by decide +kernel), ?_⟩
    have g28 := agc_tr (agc_refl (fs := []) (rs := [29, 30]) (F := F)) g12 (by decide +kernel) (by decide +kernel)
    rw [pc_swap]
    exact hK (B_w (B_add (B_eq (g12.1 27 1 rfl rfl) (show B 0 257 (F 27 1) from hI 27 1)) b_x2 (by decide +kernel) (by decide +kernel)) (by decide +kernel) (by decide +kernel)) hI11 g28
  · have hq29 := (nle_lt hc)
    have b30 : B 0 512 (x6_6) := B_w (B_ltL b10 (B_add (B_eq (g12.1 27 1 rfl rfl) (show B 0 257 (F 27 1) from hI 27 1)) b_x2 (by decide +kernel) (by decide +kernel)) hq29) (by decide +kernel) (by decide +kernel)
    have q31 : (0) ≤ (x6_6).toInt ∧ (x6_6).toInt ≤ (512) := (show B 0 512 (x6_6) from B_w b30 (by decide +kernel) (by decide +kernel))
    have b32 : B 1 513 ((T7 27 1) + x2) := B_w (B_ltR b10 (B_add (B_eq (g12.1 27 1 rfl rfl) (show B 0 257 (F 27 1) from hI 27 1)) b_x2 (by decide +kernel) (by decide +kernel)) hq29) (by decide +kernel) (by decide +kernel)
    have e33 : ((T7 27 1) + x2).toInt = ((F 27 1).toInt + (x2).toInt) := (t_add (B_eq (g12.1 27 1 rfl rfl) (show B 0 257 (F 27 1) from hI 27 1)) b_x2 (by decide +kernel) (by decide +kernel)).trans (by rw [e22])
    have q34 : (1) ≤ ((T7 27 1) + x2).toInt ∧ ((T7 27 1) + x2).toInt ≤ (513) := (show B 1 513 ((T7 27 1) + x2) from B_w b32 (by decide +kernel) (by decide +kernel))
    have i35 : (x6_6).toInt < ((T7 27 1) + x2).toInt := i_lt hq29
    refine ⟨fun hc => ?_, fun hc => ?_⟩
    · have hq36 := hc
      have i37 : (x2).toInt ≤ (x5_5).toInt := i_le hq36
      unfold b_Li_makeLine_51
      refine ⟨fun hc => ?_, fun hc => ?_⟩
      · have i38 : (x4_4).toInt = (T7 27 1).toInt := congrArg Int32.toInt hc
        unfold b_Li_makeLine_82
        unfold b_Li_makeLine_87
        refine ⟨(show ¬ ((29 : Nat) = NU) from by decide +kernel), ?_⟩
        refine ⟨(show c_cl UL 29 = 903 from cl_29), ?_⟩
        refine ⟨(show vp_in ((514 * x1) + x6_6) 8224 from vp_B (B_add (B_mul cqb_514_514_514 b_x1 (by decide +kernel) (by decide +kernel) (by decide +kernel)) b30 (by decide +kernel) (by decide +kernel)) (by decide +kernel) (by decide +kernel)), ?_⟩
        refine ⟨fun hc => ?_, fun hc => ?_⟩
        · exact (B_dis cqb_1_1_1 cqb_0_0_0 hc (by decide +kernel)).elim
        · have i39 : (1 : Int32).toInt ≠ (0 : Int32).toInt := i_ne hc
          have n40 : (1 : Int32).toInt = 1 := cqn_1
          have n41 : (0 : Int32).toInt = 0 := cqn_0
          refine ⟨(show ¬ ((30 : Nat) = NU) from by decide +kernel), ?_⟩
          refine ⟨(show c_cl UL 30 = 902 from cl_30), ?_⟩
          refine ⟨(show vp_in (x6_6) 514 from vp_B b30 (by decide +kernel) (by decide +kernel)), ?_⟩
          unfold b_Li_makeLine_143
          have e42 : (x5_5 + 1).toInt = ((x5_5).toInt + 1) := (t_add b9 cqb_1_1_1 (by decide +kernel) (by decide +kernel)).trans (by rw [cqn_1])
          have q43 : (1) ≤ (x5_5 + 1).toInt ∧ (x5_5 + 1).toInt ≤ (257) := (show B 1 257 (x5_5 + 1) from B_w (B_add b9 cqb_1_1_1 (by decide +kernel) (by decide +kernel)) (by decide +kernel) (by decide +kernel))
          have hI44 := IMc_u (u := 29) (i := ((514 * x1) + x6_6).toNatClampNeg) (v := vp_nar .boolean 1) hI11 (show B 0 1 (vp_nar .boolean 1) from (B_w (show B 1 1 (vp_nar .boolean 1) from ⟨by decide +kernel, by decide +kernel⟩) (by decide +kernel) (by decide +kernel)))
          have hI45 := IMc_u (u := 30) (i := x6_6.toNatClampNeg) (v := 0) hI44 (show B (-2147483648) 2147483647 (0) from (B_w cqb_0_0_0 (by decide +kernel) (by decide +kernel)))
          have g48 := agc_tr (agc_refl (fs := []) (rs := [29, 30]) (F := F)) g12 (by decide +kernel) (by decide +kernel)
          have g47 := agc_r (u := 29) (w := upd (T7 29) ((514 * x1) + x6_6).toNatClampNeg (vp_nar .boolean 1)) g48 rfl (by decide +kernel)
          have g46 := agc_r (u := 30) (w := upd (T7 30) x6_6.toNatClampNeg 0) g47 rfl (by decide +kernel)
          have e49 : (x6_6 + 1).toInt = ((x6_6).toInt + 1) := (t_add b30 cqb_1_1_1 (by decide +kernel) (by decide +kernel)).trans (by rw [cqn_1])
          have q50 : (1) ≤ (x6_6 + 1).toInt ∧ (x6_6 + 1).toInt ≤ (513) := (show B 1 513 (x6_6 + 1) from B_w (B_add b30 cqb_1_1_1 (by decide +kernel) (by decide +kernel)) (by decide +kernel) (by decide +kernel))
          exact hR9 ⟨rfl, rfl, rfl, b8, (show B 0 256 (x5_5 + 1) from ⟨by omega, by omega⟩), (B_w (B_add b30 cqb_1_1_1 (by decide +kernel) (by decide +kernel)) (by decide +kernel) (by decide +kernel)), _, _, rfl, hI45, g46, (by show (x4_4.toInt + (x5_5 + 1).toInt) = (x6_6 + 1).toInt; first | with_reducible assumption | omega), (by show x4_4.toInt ≤ (T7 27 1).toInt; first | with_reducible assumption | omega), (by show (x5_5 + 1).toInt ≤ x2.toInt; first | with_reducible assumption | omega)⟩ (by show (513 - (x6_6 + 1).toInt).toNat < (513 - x6_6.toInt).toNat; omega)
      · have i51 : (x4_4).toInt ≠ (T7 27 1).toInt := i_ne hc
        refine ⟨fun hc => ?_, fun hc => ?_⟩
        · have hq52 := hc
          have i53 : (x2).toInt ≤ (x5_5).toInt := i_le hq52
          unfold b_Li_makeLine_86
          unfold b_Li_makeLine_87
          refine ⟨(show ¬ ((29 : Nat) = NU) from by decide +kernel), ?_⟩
          refine ⟨(show c_cl UL 29 = 903 from cl_29), ?_⟩
          refine ⟨(show vp_in ((514 * x1) + x6_6) 8224 from vp_B (B_add (B_mul cqb_514_514_514 b_x1 (by decide +kernel) (by decide +kernel) (by decide +kernel)) b30 (by decide +kernel) (by decide +kernel)) (by decide +kernel) (by decide +kernel)), ?_⟩
          refine ⟨fun hc => ?_, fun hc => ?_⟩
          · have i54 : (0 : Int32).toInt = (0 : Int32).toInt := congrArg Int32.toInt hc
            have n55 : (0 : Int32).toInt = 0 := cqn_0
            have n56 : (0 : Int32).toInt = 0 := cqn_0
            refine ⟨(show ¬ ((30 : Nat) = NU) from by decide +kernel), ?_⟩
            refine ⟨(show ¬ ((28 : Nat) = NU) from by decide +kernel), ?_⟩
            refine ⟨(show c_cl UL 28 = 902 from cl_28), ?_⟩
            refine ⟨(show vp_in (x4_4) 257 from vp_om (x := x4_4) (by omega) (by omega)), ?_⟩
            have b57 : B 0 256 (x4_4) := ⟨by omega, by omega⟩
            refine ⟨(show c_cl UL 47 = 902 from cl_47), ?_⟩
            refine ⟨(show vp_in (T7 28 x4_4.toNatClampNeg) 257 from vp_B (B_eq (congrFun (g12.2 28 rfl rfl) x4_4.toNatClampNeg) (show B 0 256 (F 28 x4_4.toNatClampNeg) from hI 28 x4_4.toNatClampNeg)) (by decide +kernel) (by decide +kernel)), ?_⟩
            refine ⟨(show c_cl UL 30 = 902 from cl_30), ?_⟩
            refine ⟨(show vp_in (x6_6) 514 from vp_B b30 (by decide +kernel) (by decide +kernel)), ?_⟩
            unfold b_Li_makeLine_143
            have hI58 := IMc_u (u := 29) (i := ((514 * x1) + x6_6).toNatClampNeg) (v := vp_nar .boolean 0) hI11 (show B 0 1 (vp_nar .boolean 0) from (B_w (show B 0 0 (vp_nar .boolean 0) from ⟨by decide +kernel, by decide +kernel⟩) (by decide +kernel) (by decide +kernel)))
            have hI59 := IMc_u (u := 30) (i := x6_6.toNatClampNeg) (v := T7 47 (T7 28 x4_4.toNatClampNeg).toNatClampNeg) hI58 (show B (-2147483648) 2147483647 (T7 47 (T7 28 x4_4.toNatClampNeg).toNatClampNeg) from (B_w (B_eq (congrFun (g12.2 47 rfl rfl) (T7 28 x4_4.toNatClampNeg).toNatClampNeg) (B_any _)) (by decide +kernel) (by decide +kernel)))
            have g62 := agc_tr (agc_refl (fs := []) (rs := [29, 30]) (F := F)) g12 (by decide +kernel) (by decide +kernel)
            have g61 := agc_r (u := 29) (w := upd (T7 29) ((514 * x1) + x6_6).toNatClampNeg (vp_nar .boolean 0)) g62 rfl (by decide +kernel)
            have g60 := agc_r (u := 30) (w := upd (T7 30) x6_6.toNatClampNeg (T7 47 (T7 28 x4_4.toNatClampNeg).toNatClampNeg)) g61 rfl (by decide +kernel)
            have e63 : (x4_4 + 1).toInt = ((x4_4).toInt + 1) := (t_add b57 cqb_1_1_1 (by decide +kernel) (by decide +kernel)).trans (by rw [cqn_1])
            have q64 : (1) ≤ (x4_4 + 1).toInt ∧ (x4_4 + 1).toInt ≤ (257) := (show B 1 257 (x4_4 + 1) from B_w (B_add b57 cqb_1_1_1 (by decide +kernel) (by decide +kernel)) (by decide +kernel) (by decide +kernel))
            have e65 : (x6_6 + 1).toInt = ((x6_6).toInt + 1) := (t_add b30 cqb_1_1_1 (by decide +kernel) (by decide +kernel)).trans (by rw [cqn_1])
            have q66 : (1) ≤ (x6_6 + 1).toInt ∧ (x6_6 + 1).toInt ≤ (513) := (show B 1 513 (x6_6 + 1) from B_w (B_add b30 cqb_1_1_1 (by decide +kernel) (by decide +kernel)) (by decide +kernel) (by decide +kernel))
            exact hR9 ⟨rfl, rfl, rfl, (B_w (B_add b57 cqb_1_1_1 (by decide +kernel) (by decide +kernel)) (by decide +kernel) (by decide +kernel)), b9, (B_w (B_add b30 cqb_1_1_1 (by decide +kernel) (by decide +kernel)) (by decide +kernel) (by decide +kernel)), _, _, rfl, hI59, g60, (by show ((x4_4 + 1).toInt + x5_5.toInt) = (x6_6 + 1).toInt; first | with_reducible assumption | omega), (by show (x4_4 + 1).toInt ≤ (T7 27 1).toInt; first | with_reducible assumption | omega), (by show x5_5.toInt ≤ x2.toInt; first | with_reducible assumption | omega)⟩ (by show (513 - (x6_6 + 1).toInt).toNat < (513 - x6_6.toInt).toNat; omega)
          · exact (hc (B_z cqb_0_0_0)).elim
        · have hq67 := (nle_lt hc)
          have b68 : B 0 255 (x5_5) := B_w (B_ltL b9 b_x2 hq67) (by decide +kernel) (by decide +kernel)
          have q69 : (0) ≤ (x5_5).toInt ∧ (x5_5).toInt ≤ (255) := (show B 0 255 (x5_5) from B_w b68 (by decide +kernel) (by decide +kernel))
          have b70 : B 1 256 (x2) := B_w (B_ltR b9 b_x2 hq67) (by decide +kernel) (by decide +kernel)
          have q71 : (1) ≤ (x2).toInt ∧ (x2).toInt ≤ (256) := (show B 1 256 (x2) from B_w b70 (by decide +kernel) (by decide +kernel))
          have i72 : (x5_5).toInt < (x2).toInt := i_lt hq67
          refine ⟨(show ¬ ((28 : Nat) = NU) from by decide +kernel), ?_⟩
          refine ⟨(show c_cl UL 28 = 902 from cl_28), ?_⟩
          refine ⟨(show vp_in (x4_4) 257 from vp_om (x := x4_4) (by omega) (by omega)), ?_⟩
          have b73 : B 0 256 (x4_4) := ⟨by omega, by omega⟩
          refine ⟨(show c_cl UL 47 = 902 from cl_47), ?_⟩
          refine ⟨(show vp_in (T7 28 x4_4.toNatClampNeg) 257 from vp_B (B_eq (congrFun (g12.2 28 rfl rfl) x4_4.toNatClampNeg) (show B 0 256 (F 28 x4_4.toNatClampNeg) from hI 28 x4_4.toNatClampNeg)) (by decide +kernel) (by decide +kernel)), ?_⟩
          refine ⟨fun hc => ?_, fun hc => ?_⟩
          · have hq74 := hc
            have b75 : B (-2147483648) 0 (F 47 (T7 28 x4_4.toNatClampNeg).toNatClampNeg) := B_w (B_eq (Eq.symm (congrFun (g12.2 47 rfl rfl) (T7 28 x4_4.toNatClampNeg).toNatClampNeg)) (B_leL (B_eq (congrFun (g12.2 47 rfl rfl) (T7 28 x4_4.toNatClampNeg).toNatClampNeg) (B_any _)) cqb_0_0_0 hq74)) (by decide +kernel) (by decide +kernel)
            unfold b_Li_makeLine_86
            unfold b_Li_makeLine_87
            refine ⟨(show ¬ ((29 : Nat) = NU) from by decide +kernel), ?_⟩
            refine ⟨(show c_cl UL 29 = 903 from cl_29), ?_⟩
            refine ⟨(show vp_in ((514 * x1) + x6_6) 8224 from vp_B (B_add (B_mul cqb_514_514_514 b_x1 (by decide +kernel) (by decide +kernel) (by decide +kernel)) b30 (by decide +kernel) (by decide +kernel)) (by decide +kernel) (by decide +kernel)), ?_⟩
            refine ⟨fun hc => ?_, fun hc => ?_⟩
            · have i76 : (0 : Int32).toInt = (0 : Int32).toInt := congrArg Int32.toInt hc
              have n77 : (0 : Int32).toInt = 0 := cqn_0
              have n78 : (0 : Int32).toInt = 0 := cqn_0
              refine ⟨(show ¬ ((30 : Nat) = NU) from by decide +kernel), ?_⟩
              refine ⟨(show ¬ ((28 : Nat) = NU) from by decide +kernel), ?_⟩
              refine ⟨(show c_cl UL 28 = 902 from cl_28), ?_⟩
              refine ⟨(show vp_in (x4_4) 257 from vp_B b73 (by decide +kernel) (by decide +kernel)), ?_⟩
              refine ⟨(show c_cl UL 47 = 902 from cl_47), ?_⟩
              refine ⟨(show vp_in (T7 28 x4_4.toNatClampNeg) 257 from vp_B (B_eq (congrFun (g12.2 28 rfl rfl) x4_4.toNatClampNeg) (show B 0 256 (F 28 x4_4.toNatClampNeg) from hI 28 x4_4.toNatClampNeg)) (by decide +kernel) (by decide +kernel)), ?_⟩
              refine ⟨(show c_cl UL 30 = 902 from cl_30), ?_⟩
              refine ⟨(show vp_in (x6_6) 514 from vp_B b30 (by decide +kernel) (by decide +kernel)), ?_⟩
              unfold b_Li_makeLine_143
              have hI79 := IMc_u (u := 29) (i := ((514 * x1) + x6_6).toNatClampNeg) (v := vp_nar .boolean 0) hI11 (show B 0 1 (vp_nar .boolean 0) from (B_w (show B 0 0 (vp_nar .boolean 0) from ⟨by decide +kernel, by decide +kernel⟩) (by decide +kernel) (by decide +kernel)))
              have hI80 := IMc_u (u := 30) (i := x6_6.toNatClampNeg) (v := T7 47 (T7 28 x4_4.toNatClampNeg).toNatClampNeg) hI79 (show B (-2147483648) 2147483647 (T7 47 (T7 28 x4_4.toNatClampNeg).toNatClampNeg) from (B_w (B_eq (congrFun (g12.2 47 rfl rfl) (T7 28 x4_4.toNatClampNeg).toNatClampNeg) b75) (by decide +kernel) (by decide +kernel)))
              have g83 := agc_tr (agc_refl (fs := []) (rs := [29, 30]) (F := F)) g12 (by decide +kernel) (by decide +kernel)
              have g82 := agc_r (u := 29) (w := upd (T7 29) ((514 * x1) + x6_6).toNatClampNeg (vp_nar .boolean 0)) g83 rfl (by decide +kernel)
              have g81 := agc_r (u := 30) (w := upd (T7 30) x6_6.toNatClampNeg (T7 47 (T7 28 x4_4.toNatClampNeg).toNatClampNeg)) g82 rfl (by decide +kernel)
              have e84 : (x4_4 + 1).toInt = ((x4_4).toInt + 1) := (t_add b73 cqb_1_1_1 (by decide +kernel) (by decide +kernel)).trans (by rw [cqn_1])
              have q85 : (1) ≤ (x4_4 + 1).toInt ∧ (x4_4 + 1).toInt ≤ (257) := (show B 1 257 (x4_4 + 1) from B_w (B_add b73 cqb_1_1_1 (by decide +kernel) (by decide +kernel)) (by decide +kernel) (by decide +kernel))
              have e86 : (x6_6 + 1).toInt = ((x6_6).toInt + 1) := (t_add b30 cqb_1_1_1 (by decide +kernel) (by decide +kernel)).trans (by rw [cqn_1])
              have q87 : (1) ≤ (x6_6 + 1).toInt ∧ (x6_6 + 1).toInt ≤ (513) := (show B 1 513 (x6_6 + 1) from B_w (B_add b30 cqb_1_1_1 (by decide +kernel) (by decide +kernel)) (by decide +kernel) (by decide +kernel))
              exact hR9 ⟨rfl, rfl, rfl, (B_w (B_add b73 cqb_1_1_1 (by decide +kernel) (by decide +kernel)) (by decide +kernel) (by decide +kernel)), (B_w b68 (by decide +kernel) (by decide +kernel)), (B_w (B_add b30 cqb_1_1_1 (by decide +kernel) (by decide +kernel)) (by decide +kernel) (by decide +kernel)), _, _, rfl, hI80, g81, (by show ((x4_4 + 1).toInt + x5_5.toInt) = (x6_6 + 1).toInt; first | with_reducible assumption | omega), (by show (x4_4 + 1).toInt ≤ (T7 27 1).toInt; first | with_reducible assumption | omega), (by show x5_5.toInt ≤ x2.toInt; first | with_reducible assumption | omega)⟩ (by show (513 - (x6_6 + 1).toInt).toNat < (513 - x6_6.toInt).toNat; omega)
            · exact (hc (B_z cqb_0_0_0)).elim
          · have hq88 := (nle_lt hc)
            have b89 : B 1 2147483647 (F 47 (T7 28 x4_4.toNatClampNeg).toNatClampNeg) := B_w (B_eq (Eq.symm (congrFun (g12.2 47 rfl rfl) (T7 28 x4_4.toNatClampNeg).toNatClampNeg)) (B_ltR cqb_0_0_0 (B_eq (congrFun (g12.2 47 rfl rfl) (T7 28 x4_4.toNatClampNeg).toNatClampNeg) (B_any _)) hq88)) (by decide +kernel) (by decide +kernel)
            unfold b_Li_makeLine_82
            unfold b_Li_makeLine_87
            refine ⟨(show ¬ ((29 : Nat) = NU) from by decide +kernel), ?_⟩
            refine ⟨(show c_cl UL 29 = 903 from cl_29), ?_⟩
            refine ⟨(show vp_in ((514 * x1) + x6_6) 8224 from vp_B (B_add (B_mul cqb_514_514_514 b_x1 (by decide +kernel) (by decide +kernel) (by decide +kernel)) b30 (by decide +kernel) (by decide +kernel)) (by decide +kernel) (by decide +kernel)), ?_⟩
            refine ⟨fun hc => ?_, fun hc => ?_⟩
            · exact (B_dis cqb_1_1_1 cqb_0_0_0 hc (by decide +kernel)).elim
            · have i90 : (1 : Int32).toInt ≠ (0 : Int32).toInt := i_ne hc
              have n91 : (1 : Int32).toInt = 1 := cqn_1
              have n92 : (0 : Int32).toInt = 0 := cqn_0
              refine ⟨(show ¬ ((30 : Nat) = NU) from by decide +kernel), ?_⟩
              refine ⟨(show c_cl UL 30 = 902 from cl_30), ?_⟩
              refine ⟨(show vp_in (x6_6) 514 from vp_B b30 (by decide +kernel) (by decide +kernel)), ?_⟩
              unfold b_Li_makeLine_143
              have hI93 := IMc_u (u := 29) (i := ((514 * x1) + x6_6).toNatClampNeg) (v := vp_nar .boolean 1) hI11 (show B 0 1 (vp_nar .boolean 1) from (B_w (show B 1 1 (vp_nar .boolean 1) from ⟨by decide +kernel, by decide +kernel⟩) (by decide +kernel) (by decide +kernel)))
              have hI94 := IMc_u (u := 30) (i := x6_6.toNatClampNeg) (v := 0) hI93 (show B (-2147483648) 2147483647 (0) from (B_w cqb_0_0_0 (by decide +kernel) (by decide +kernel)))
              have g97 := agc_tr (agc_refl (fs := []) (rs := [29, 30]) (F := F)) g12 (by decide +kernel) (by decide +kernel)
              have g96 := agc_r (u := 29) (w := upd (T7 29) ((514 * x1) + x6_6).toNatClampNeg (vp_nar .boolean 1)) g97 rfl (by decide +kernel)
              have g95 := agc_r (u := 30) (w := upd (T7 30) x6_6.toNatClampNeg 0) g96 rfl (by decide +kernel)
              have e98 : (x5_5 + 1).toInt = ((x5_5).toInt + 1) := (t_add b68 cqb_1_1_1 (by decide +kernel) (by decide +kernel)).trans (by rw [cqn_1])
              have q99 : (1) ≤ (x5_5 + 1).toInt ∧ (x5_5 + 1).toInt ≤ (256) := (show B 1 256 (x5_5 + 1) from B_w (B_add b68 cqb_1_1_1 (by decide +kernel) (by decide +kernel)) (by decide +kernel) (by decide +kernel))
              have e100 : (x6_6 + 1).toInt = ((x6_6).toInt + 1) := (t_add b30 cqb_1_1_1 (by decide +kernel) (by decide +kernel)).trans (by rw [cqn_1])
              have q101 : (1) ≤ (x6_6 + 1).toInt ∧ (x6_6 + 1).toInt ≤ (513) := (show B 1 513 (x6_6 + 1) from B_w (B_add b30 cqb_1_1_1 (by decide +kernel) (by decide +kernel)) (by decide +kernel) (by decide +kernel))
              exact hR9 ⟨rfl, rfl, rfl, (B_w b73 (by decide +kernel) (by decide +kernel)), (B_w (B_add b68 cqb_1_1_1 (by decide +kernel) (by decide +kernel)) (by decide +kernel) (by decide +kernel)), (B_w (B_add b30 cqb_1_1_1 (by decide +kernel) (by decide +kernel)) (by decide +kernel) (by decide +kernel)), _, _, rfl, hI94, g95, (by show (x4_4.toInt + (x5_5 + 1).toInt) = (x6_6 + 1).toInt; first | with_reducible assumption | omega), (by show x4_4.toInt ≤ (T7 27 1).toInt; first | with_reducible assumption | omega), (by show (x5_5 + 1).toInt ≤ x2.toInt; first | with_reducible assumption | omega)⟩ (by show (513 - (x6_6 + 1).toInt).toNat < (513 - x6_6.toInt).toNat; omega)
    · have hq102 := (nle_lt hc)
      have b103 : B 0 255 (x5_5) := B_w (B_ltL b9 b_x2 hq102) (by decide +kernel) (by decide +kernel)
      have q104 : (0) ≤ (x5_5).toInt ∧ (x5_5).toInt ≤ (255) := (show B 0 255 (x5_5) from B_w b103 (by decide +kernel) (by decide +kernel))
      have b105 : B 1 256 (x2) := B_w (B_ltR b9 b_x2 hq102) (by decide +kernel) (by decide +kernel)
      have q106 : (1) ≤ (x2).toInt ∧ (x2).toInt ≤ (256) := (show B 1 256 (x2) from B_w b105 (by decide +kernel) (by decide +kernel))
      have i107 : (x5_5).toInt < (x2).toInt := i_lt hq102
      refine ⟨(show ¬ ((31 : Nat) = NU) from by decide +kernel), ?_⟩
      refine ⟨(show c_cl UL 31 = 902 from cl_31), ?_⟩
      refine ⟨(show vp_in (2 * x5_5) 514 from vp_B (B_mul cqb_2_2_2 b103 (by decide +kernel) (by decide +kernel) (by decide +kernel)) (by decide +kernel) (by decide +kernel)), ?_⟩
      refine ⟨(show ¬ ((31 : Nat) = NU) from by decide +kernel), ?_⟩
      refine ⟨(show vp_in ((2 * x5_5) + 1) 514 from vp_B (B_add (B_mul cqb_2_2_2 b103 (by decide +kernel) (by decide +kernel) (by decide +kernel)) cqb_1_1_1 (by decide +kernel) (by decide +kernel)) (by decide +kernel) (by decide +kernel)), ?_⟩
      unfold b_Li_makeLine_51
      refine ⟨fun hc => ?_, fun hc => ?_⟩
      · have i108 : (x4_4).toInt = (T7 27 1).toInt := congrArg Int32.toInt hc
        unfold b_Li_makeLine_82
        unfold b_Li_makeLine_87
        refine ⟨(show ¬ ((29 : Nat) = NU) from by decide +kernel), ?_⟩
        refine ⟨(show c_cl UL 29 = 903 from cl_29), ?_⟩
        refine ⟨(show vp_in ((514 * x1) + x6_6) 8224 from vp_B (B_add (B_mul cqb_514_514_514 b_x1 (by decide +kernel) (by decide +kernel) (by decide +kernel)) b30 (by decide +kernel) (by decide +kernel)) (by decide +kernel) (by decide +kernel)), ?_⟩
        refine ⟨fun hc => ?_, fun hc => ?_⟩
        · exact (B_dis cqb_1_1_1 cqb_0_0_0 hc (by decide +kernel)).elim
        · have i109 : (1 : Int32).toInt ≠ (0 : Int32).toInt := i_ne hc
          have n110 : (1 : Int32).toInt = 1 := cqn_1
          have n111 : (0 : Int32).toInt = 0 := cqn_0
          refine ⟨(show ¬ ((30 : Nat) = NU) from by decide +kernel), ?_⟩
          refine ⟨(show c_cl UL 30 = 902 from cl_30), ?_⟩
          refine ⟨(show vp_in (x6_6) 514 from vp_B b30 (by decide +kernel) (by decide +kernel)), ?_⟩
          unfold b_Li_makeLine_143
          have hI112 := IMc_u (u := 29) (i := ((514 * x1) + x6_6).toNatClampNeg) (v := vp_nar .boolean 1) hI11 (show B 0 1 (vp_nar .boolean 1) from (B_w (show B 1 1 (vp_nar .boolean 1) from ⟨by decide +kernel, by decide +kernel⟩) (by decide +kernel) (by decide +kernel)))
          have hI113 := IMc_u (u := 30) (i := x6_6.toNatClampNeg) (v := (T7 31 (2 * x5_5).toNatClampNeg) + (T7 31 ((2 * x5_5) + 1).toNatClampNeg)) hI112 (show B (-2147483648) 2147483647 ((T7 31 (2 * x5_5).toNatClampNeg) + (T7 31 ((2 * x5_5) + 1).toNatClampNeg)) from (B_w (B_any _) (by decide +kernel) (by decide +kernel)))
          have g116 := agc_tr (agc_refl (fs := []) (rs := [29, 30]) (F := F)) g12 (by decide +kernel) (by decide +kernel)
          have g115 := agc_r (u := 29) (w := upd (T7 29) ((514 * x1) + x6_6).toNatClampNeg (vp_nar .boolean 1)) g116 rfl (by decide +kernel)
          have g114 := agc_r (u := 30) (w := upd (T7 30) x6_6.toNatClampNeg ((T7 31 (2 * x5_5).toNatClampNeg) + (T7 31 ((2 * x5_5) + 1).toNatClampNeg))) g115 rfl (by decide +kernel)
          have e117 : (x5_5 + 1).toInt = ((x5_5).toInt + 1) := (t_add b103 cqb_1_1_1 (by decide +kernel) (by decide +kernel)).trans (by rw [cqn_1])
          have q118 : (1) ≤ (x5_5 + 1).toInt ∧ (x5_5 + 1).toInt ≤ (256) := (show B 1 256 (x5_5 + 1) from B_w (B_add b103 cqb_1_1_1 (by decide +kernel) (by decide +kernel)) (by decide +kernel) (by decide +kernel))
          have e119 : (x6_6 + 1).toInt = ((x6_6).toInt + 1) := (t_add b30 cqb_1_1_1 (by decide +kernel) (by decide +kernel)).trans (by rw [cqn_1])
          have q120 : (1) ≤ (x6_6 + 1).toInt ∧ (x6_6 + 1).toInt ≤ (513) := (show B 1 513 (x6_6 + 1) from B_w (B_add b30 cqb_1_1_1 (by decide +kernel) (by decide +kernel)) (by decide +kernel) (by decide +kernel))
          exact hR9 ⟨rfl, rfl, rfl, b8, (B_w (B_add b103 cqb_1_1_1 (by decide +kernel) (by decide +kernel)) (by decide +kernel) (by decide +kernel)), (B_w (B_add b30 cqb_1_1_1 (by decide +kernel) (by decide +kernel)) (by decide +kernel) (by decide +kernel)), _, _, rfl, hI113, g114, (by show (x4_4.toInt + (x5_5 + 1).toInt) = (x6_6 + 1).toInt; first | with_reducible assumption | omega), (by show x4_4.toInt ≤ (T7 27 1).toInt; first | with_reducible assumption | omega), (by show (x5_5 + 1).toInt ≤ x2.toInt; first | with_reducible assumption | omega)⟩ (by show (513 - (x6_6 + 1).toInt).toNat < (513 - x6_6.toInt).toNat; omega)
      · have i121 : (x4_4).toInt ≠ (T7 27 1).toInt := i_ne hc
        refine ⟨fun hc => ?_, fun hc => ?_⟩
        · have hq122 := hc
          have b123 : B 1 255 (x2) := B_w (B_leL b105 b103 hq122) (by decide +kernel) (by decide +kernel)
          have q124 : (1) ≤ (x2).toInt ∧ (x2).toInt ≤ (255) := (show B 1 255 (x2) from B_w b123 (by decide +kernel) (by decide +kernel))
          have b125 : B 1 255 (x5_5) := B_w (B_leR b105 b103 hq122) (by decide +kernel) (by decide +kernel)
          have q126 : (1) ≤ (x5_5).toInt ∧ (x5_5).toInt ≤ (255) := (show B 1 255 (x5_5) from B_w b125 (by decide +kernel) (by decide +kernel))
          have i127 : (x2).toInt ≤ (x5_5).toInt := i_le hq122
          unfold b_Li_makeLine_86
          unfold b_Li_makeLine_87
          refine ⟨(show ¬ ((29 : Nat) = NU) from by decide +kernel), ?_⟩
          refine ⟨(show c_cl UL 29 = 903 from cl_29), ?_⟩
          refine ⟨(show vp_in ((514 * x1) + x6_6) 8224 from vp_B (B_add (B_mul cqb_514_514_514 b_x1 (by decide +kernel) (by decide +kernel) (by decide +kernel)) b30 (by decide +kernel) (by decide +kernel)) (by decide +kernel) (by decide +kernel)), ?_⟩
          refine ⟨fun hc => ?_, fun hc => ?_⟩
          · have i128 : (0 : Int32).toInt = (0 : Int32).toInt := congrArg Int32.toInt hc
            have n129 : (0 : Int32).toInt = 0 := cqn_0
            have n130 : (0 : Int32).toInt = 0 := cqn_0
            refine ⟨(show ¬ ((30 : Nat) = NU) from by decide +kernel), ?_⟩
            refine ⟨(show ¬ ((28 : Nat) = NU) from by decide +kernel), ?_⟩
            refine ⟨(show c_cl UL 28 = 902 from cl_28), ?_⟩
            refine ⟨(show vp_in (x4_4) 257 from vp_om (x := x4_4) (by omega) (by omega)), ?_⟩
            have b131 : B 0 256 (x4_4) := ⟨by omega, by omega⟩
            refine ⟨(show c_cl UL 47 = 902 from cl_47), ?_⟩
            refine ⟨(show vp_in (T7 28 x4_4.toNatClampNeg) 257 from vp_B (B_eq (congrFun (g12.2 28 rfl rfl) x4_4.toNatClampNeg) (show B 0 256 (F 28 x4_4.toNatClampNeg) from hI 28 x4_4.toNatClampNeg)) (by decide +kernel) (by decide +kernel)), ?_⟩
            refine ⟨(show c_cl UL 30 = 902 from cl_30), ?_⟩
            refine ⟨(show vp_in (x6_6) 514 from vp_B b30 (by decide +kernel) (by decide +kernel)), ?_⟩
            unfold b_Li_makeLine_143
            have hI132 := IMc_u (u := 29) (i := ((514 * x1) + x6_6).toNatClampNeg) (v := vp_nar .boolean 0) hI11 (show B 0 1 (vp_nar .boolean 0) from (B_w (show B 0 0 (vp_nar .boolean 0) from ⟨by decide +kernel, by decide +kernel⟩) (by decide +kernel) (by decide +kernel)))
            have hI133 := IMc_u (u := 30) (i := x6_6.toNatClampNeg) (v := T7 47 (T7 28 x4_4.toNatClampNeg).toNatClampNeg) hI132 (show B (-2147483648) 2147483647 (T7 47 (T7 28 x4_4.toNatClampNeg).toNatClampNeg) from (B_w (B_eq (congrFun (g12.2 47 rfl rfl) (T7 28 x4_4.toNatClampNeg).toNatClampNeg) (B_any _)) (by decide +kernel) (by decide +kernel)))
            have g136 := agc_tr (agc_refl (fs := []) (rs := [29, 30]) (F := F)) g12 (by decide +kernel) (by decide +kernel)
            have g135 := agc_r (u := 29) (w := upd (T7 29) ((514 * x1) + x6_6).toNatClampNeg (vp_nar .boolean 0)) g136 rfl (by decide +kernel)
            have g134 := agc_r (u := 30) (w := upd (T7 30) x6_6.toNatClampNeg (T7 47 (T7 28 x4_4.toNatClampNeg).toNatClampNeg)) g135 rfl (by decide +kernel)
            have e137 : (x4_4 + 1).toInt = ((x4_4).toInt + 1) := (t_add b131 cqb_1_1_1 (by decide +kernel) (by decide +kernel)).trans (by rw [cqn_1])
            have q138 : (1) ≤ (x4_4 + 1).toInt ∧ (x4_4 + 1).toInt ≤ (257) := (show B 1 257 (x4_4 + 1) from B_w (B_add b131 cqb_1_1_1 (by decide +kernel) (by decide +kernel)) (by decide +kernel) (by decide +kernel))
            have e139 : (x6_6 + 1).toInt = ((x6_6).toInt + 1) := (t_add b30 cqb_1_1_1 (by decide +kernel) (by decide +kernel)).trans (by rw [cqn_1])
            have q140 : (1) ≤ (x6_6 + 1).toInt ∧ (x6_6 + 1).toInt ≤ (513) := (show B 1 513 (x6_6 + 1) from B_w (B_add b30 cqb_1_1_1 (by decide +kernel) (by decide +kernel)) (by decide +kernel) (by decide +kernel))
            exact hR9 ⟨rfl, rfl, rfl, (B_w (B_add b131 cqb_1_1_1 (by decide +kernel) (by decide +kernel)) (by decide +kernel) (by decide +kernel)), (B_w b125 (by decide +kernel) (by decide +kernel)), (B_w (B_add b30 cqb_1_1_1 (by decide +kernel) (by decide +kernel)) (by decide +kernel) (by decide +kernel)), _, _, rfl, hI133, g134, (by show ((x4_4 + 1).toInt + x5_5.toInt) = (x6_6 + 1).toInt; first | with_reducible assumption | omega), (by show (x4_4 + 1).toInt ≤ (T7 27 1).toInt; first | with_reducible assumption | omega), (by show x5_5.toInt ≤ x2.toInt; first | with_reducible assumption | omega)⟩ (by show (513 - (x6_6 + 1).toInt).toNat < (513 - x6_6.toInt).toNat; omega)
          · exact (hc (B_z cqb_0_0_0)).elim
        · have hq141 := (nle_lt hc)
          have i142 : (x5_5).toInt < (x2).toInt := i_lt hq141
          refine ⟨(show ¬ ((28 : Nat) = NU) from by decide +kernel), ?_⟩
          refine ⟨(show c_cl UL 28 = 902 from cl_28), ?_⟩
          refine ⟨(show vp_in (x4_4) 257 from vp_om (x := x4_4) (by omega) (by omega)), ?_⟩
          have b143 : B 0 256 (x4_4) := ⟨by omega, by omega⟩
          refine ⟨(show c_cl UL 47 = 902 from cl_47), ?_⟩
          refine ⟨(show vp_in (T7 28 x4_4.toNatClampNeg) 257 from vp_B (B_eq (congrFun (g12.2 28 rfl rfl) x4_4.toNatClampNeg) (show B 0 256 (F 28 x4_4.toNatClampNeg) from hI 28 x4_4.toNatClampNeg)) (by decide +kernel) (by decide +kernel)), ?_⟩
          refine ⟨fun hc => ?_, fun hc => ?_⟩
          · have hq144 := hc
            have e145 : (T7 47 (T7 28 x4_4.toNatClampNeg).toNatClampNeg).toInt = (F 47 (T7 28 x4_4.toNatClampNeg).toNatClampNeg).toInt := (congrArg Int32.toInt (congrFun (g12.2 47 rfl rfl) (T7 28 x4_4.toNatClampNeg).toNatClampNeg)).trans rfl
            have i146 : (T7 47 (T7 28 x4_4.toNatClampNeg).toNatClampNeg).toInt ≤ ((T7 31 (2 * x5_5).toNatClampNeg) + (T7 31 ((2 * x5_5) + 1).toNatClampNeg)).toInt := i_le hq144
            unfold b_Li_makeLine_86
            unfold b_Li_makeLine_87
            refine ⟨(show ¬ ((29 : Nat) = NU) from by decide +kernel), ?_⟩
            refine ⟨(show c_cl UL 29 = 903 from cl_29), ?_⟩
            refine ⟨(show vp_in ((514 * x1) + x6_6) 8224 from vp_B (B_add (B_mul cqb_514_514_514 b_x1 (by decide +kernel) (by decide +kernel) (by decide +kernel)) b30 (by decide +kernel) (by decide +kernel)) (by decide +kernel) (by decide +kernel)), ?_⟩
            refine ⟨fun hc => ?_, fun hc => ?_⟩
            · have i147 : (0 : Int32).toInt = (0 : Int32).toInt := congrArg Int32.toInt hc
              have n148 : (0 : Int32).toInt = 0 := cqn_0
              have n149 : (0 : Int32).toInt = 0 := cqn_0
              refine ⟨(show ¬ ((30 : Nat) = NU) from by decide +kernel), ?_⟩
              refine ⟨(show ¬ ((28 : Nat) = NU) from by decide +kernel), ?_⟩
              refine ⟨(show c_cl UL 28 = 902 from cl_28), ?_⟩
              refine ⟨(show vp_in (x4_4) 257 from vp_B b143 (by decide +kernel) (by decide +kernel)), ?_⟩
              refine ⟨(show c_cl UL 47 = 902 from cl_47), ?_⟩
              refine ⟨(show vp_in (T7 28 x4_4.toNatClampNeg) 257 from vp_B (B_eq (congrFun (g12.2 28 rfl rfl) x4_4.toNatClampNeg) (show B 0 256 (F 28 x4_4.toNatClampNeg) from hI 28 x4_4.toNatClampNeg)) (by decide +kernel) (by decide +kernel)), ?_⟩
              refine ⟨(show c_cl UL 30 = 902 from cl_30), ?_⟩
              refine ⟨(show vp_in (x6_6) 514 from vp_B b30 (by decide +kernel) (by decide +kernel)), ?_⟩
              unfold b_Li_makeLine_143
              have hI150 := IMc_u (u := 29) (i := ((514 * x1) + x6_6).toNatClampNeg) (v := vp_nar .boolean 0) hI11 (show B 0 1 (vp_nar .boolean 0) from (B_w (show B 0 0 (vp_nar .boolean 0) from ⟨by decide +kernel, by decide +kernel⟩) (by decide +kernel) (by decide +kernel)))
              have hI151 := IMc_u (u := 30) (i := x6_6.toNatClampNeg) (v := T7 47 (T7 28 x4_4.toNatClampNeg).toNatClampNeg) hI150 (show B (-2147483648) 2147483647 (T7 47 (T7 28 x4_4.toNatClampNeg).toNatClampNeg) from (B_w (B_eq (congrFun (g12.2 47 rfl rfl) (T7 28 x4_4.toNatClampNeg).toNatClampNeg) (B_any _)) (by decide +kernel) (by decide +kernel)))
              have g154 := agc_tr (agc_refl (fs := []) (rs := [29, 30]) (F := F)) g12 (by decide +kernel) (by decide +kernel)
              have g153 := agc_r (u := 29) (w := upd (T7 29) ((514 * x1) + x6_6).toNatClampNeg (vp_nar .boolean 0)) g154 rfl (by decide +kernel)
              have g152 := agc_r (u := 30) (w := upd (T7 30) x6_6.toNatClampNeg (T7 47 (T7 28 x4_4.toNatClampNeg).toNatClampNeg)) g153 rfl (by decide +kernel)
              have e155 : (x4_4 + 1).toInt = ((x4_4).toInt + 1) := (t_add b143 cqb_1_1_1 (by decide +kernel) (by decide +kernel)).trans (by rw [cqn_1])
              have q156 : (1) ≤ (x4_4 + 1).toInt ∧ (x4_4 + 1).toInt ≤ (257) := (show B 1 257 (x4_4 + 1) from B_w (B_add b143 cqb_1_1_1 (by decide +kernel) (by decide +kernel)) (by decide +kernel) (by decide +kernel))
              have e157 : (x6_6 + 1).toInt = ((x6_6).toInt + 1) := (t_add b30 cqb_1_1_1 (by decide +kernel) (by decide +kernel)).trans (by rw [cqn_1])
              have q158 : (1) ≤ (x6_6 + 1).toInt ∧ (x6_6 + 1).toInt ≤ (513) := (show B 1 513 (x6_6 + 1) from B_w (B_add b30 cqb_1_1_1 (by decide +kernel) (by decide +kernel)) (by decide +kernel) (by decide +kernel))
              exact hR9 ⟨rfl, rfl, rfl, (B_w (B_add b143 cqb_1_1_1 (by decide +kernel) (by decide +kernel)) (by decide +kernel) (by decide +kernel)), (B_w b103 (by decide +kernel) (by decide +kernel)), (B_w (B_add b30 cqb_1_1_1 (by decide +kernel) (by decide +kernel)) (by decide +kernel) (by decide +kernel)), _, _, rfl, hI151, g152, (by show ((x4_4 + 1).toInt + x5_5.toInt) = (x6_6 + 1).toInt; first | with_reducible assumption | omega), (by show (x4_4 + 1).toInt ≤ (T7 27 1).toInt; first | with_reducible assumption | omega), (by show x5_5.toInt ≤ x2.toInt; first | with_reducible assumption | omega)⟩ (by show (513 - (x6_6 + 1).toInt).toNat < (513 - x6_6.toInt).toNat; omega)
            · exact (hc (B_z cqb_0_0_0)).elim
          · have hq159 := (nle_lt hc)
            have b160 : B (-2147483648) 2147483646 ((T7 31 (2 * x5_5).toNatClampNeg) + (T7 31 ((2 * x5_5) + 1).toNatClampNeg)) := B_w (B_ltL (B_any _) (B_eq (congrFun (g12.2 47 rfl rfl) (T7 28 x4_4.toNatClampNeg).toNatClampNeg) (B_any _)) hq159) (by decide +kernel) (by decide +kernel)
            have b161 : B (-2147483647) 2147483647 (F 47 (T7 28 x4_4.toNatClampNeg).toNatClampNeg) := B_w (B_eq (Eq.symm (congrFun (g12.2 47 rfl rfl) (T7 28 x4_4.toNatClampNeg).toNatClampNeg)) (B_ltR (B_any _) (B_eq (congrFun (g12.2 47 rfl rfl) (T7 28 x4_4.toNatClampNeg).toNatClampNeg) (B_any _)) hq159)) (by decide +kernel) (by decide +kernel)
            have q162 : (-2147483648) ≤ ((T7 31 (2 * x5_5).toNatClampNeg) + (T7 31 ((2 * x5_5) + 1).toNatClampNeg)).toInt ∧ ((T7 31 (2 * x5_5).toNatClampNeg) + (T7 31 ((2 * x5_5) + 1).toNatClampNeg)).toInt ≤ (2147483646) := (show B (-2147483648) 2147483646 ((T7 31 (2 * x5_5).toNatClampNeg) + (T7 31 ((2 * x5_5) + 1).toNatClampNeg)) from B_w b160 (by decide +kernel) (by decide +kernel))
            have q163 : (-2147483647) ≤ (F 47 (T7 28 x4_4.toNatClampNeg).toNatClampNeg).toInt ∧ (F 47 (T7 28 x4_4.toNatClampNeg).toNatClampNeg).toInt ≤ (2147483647) := (show B (-2147483647) 2147483647 (F 47 (T7 28 x4_4.toNatClampNeg).toNatClampNeg) from B_w b161 (by decide +kernel) (by decide +kernel))
            have e164 : (T7 47 (T7 28 x4_4.toNatClampNeg).toNatClampNeg).toInt = (F 47 (T7 28 x4_4.toNatClampNeg).toNatClampNeg).toInt := (congrArg Int32.toInt (congrFun (g12.2 47 rfl rfl) (T7 28 x4_4.toNatClampNeg).toNatClampNeg)).trans rfl
            have i165 : ((T7 31 (2 * x5_5).toNatClampNeg) + (T7 31 ((2 * x5_5) + 1).toNatClampNeg)).toInt < (T7 47 (T7 28 x4_4.toNatClampNeg).toNatClampNeg).toInt := i_lt hq159
            unfold b_Li_makeLine_82
            unfold b_Li_makeLine_87
            refine ⟨(show ¬ ((29 : Nat) = NU) from by decide +kernel), ?_⟩
            refine ⟨(show c_cl UL 29 = 903 from cl_29), ?_⟩
            refine ⟨(show vp_in ((514 * x1) + x6_6) 8224 from vp_B (B_add (B_mul cqb_514_514_514 b_x1 (by decide +kernel) (by decide +kernel) (by decide +kernel)) b30 (by decide +kernel) (by decide +kernel)) (by decide +kernel) (by decide +kernel)), ?_⟩
            refine ⟨fun hc => ?_, fun hc => ?_⟩
            · exact (B_dis cqb_1_1_1 cqb_0_0_0 hc (by decide +kernel)).elim
            · have i166 : (1 : Int32).toInt ≠ (0 : Int32).toInt := i_ne hc
              have n167 : (1 : Int32).toInt = 1 := cqn_1
              have n168 : (0 : Int32).toInt = 0 := cqn_0
              refine ⟨(show ¬ ((30 : Nat) = NU) from by decide +kernel), ?_⟩
              refine ⟨(show c_cl UL 30 = 902 from cl_30), ?_⟩
              refine ⟨(show vp_in (x6_6) 514 from vp_B b30 (by decide +kernel) (by decide +kernel)), ?_⟩
              unfold b_Li_makeLine_143
              have hI169 := IMc_u (u := 29) (i := ((514 * x1) + x6_6).toNatClampNeg) (v := vp_nar .boolean 1) hI11 (show B 0 1 (vp_nar .boolean 1) from (B_w (show B 1 1 (vp_nar .boolean 1) from ⟨by decide +kernel, by decide +kernel⟩) (by decide +kernel) (by decide +kernel)))
              have hI170 := IMc_u (u := 30) (i := x6_6.toNatClampNeg) (v := (T7 31 (2 * x5_5).toNatClampNeg) + (T7 31 ((2 * x5_5) + 1).toNatClampNeg)) hI169 (show B (-2147483648) 2147483647 ((T7 31 (2 * x5_5).toNatClampNeg) + (T7 31 ((2 * x5_5) + 1).toNatClampNeg)) from (B_w b160 (by decide +kernel) (by decide +kernel)))
              have g173 := agc_tr (agc_refl (fs := []) (rs := [29, 30]) (F := F)) g12 (by decide +kernel) (by decide +kernel)
              have g172 := agc_r (u := 29) (w := upd (T7 29) ((514 * x1) + x6_6).toNatClampNeg (vp_nar .boolean 1)) g173 rfl (by decide +kernel)
              have g171 := agc_r (u := 30) (w := upd (T7 30) x6_6.toNatClampNeg ((T7 31 (2 * x5_5).toNatClampNeg) + (T7 31 ((2 * x5_5) + 1).toNatClampNeg))) g172 rfl (by decide +kernel)
              have e174 : (x5_5 + 1).toInt = ((x5_5).toInt + 1) := (t_add b103 cqb_1_1_1 (by decide +kernel) (by decide +kernel)).trans (by rw [cqn_1])
              have q175 : (1) ≤ (x5_5 + 1).toInt ∧ (x5_5 + 1).toInt ≤ (256) := (show B 1 256 (x5_5 + 1) from B_w (B_add b103 cqb_1_1_1 (by decide +kernel) (by decide +kernel)) (by decide +kernel) (by decide +kernel))
              have e176 : (x6_6 + 1).toInt = ((x6_6).toInt + 1) := (t_add b30 cqb_1_1_1 (by decide +kernel) (by decide +kernel)).trans (by rw [cqn_1])
              have q177 : (1) ≤ (x6_6 + 1).toInt ∧ (x6_6 + 1).toInt ≤ (513) := (show B 1 513 (x6_6 + 1) from B_w (B_add b30 cqb_1_1_1 (by decide +kernel) (by decide +kernel)) (by decide +kernel) (by decide +kernel))
              exact hR9 ⟨rfl, rfl, rfl, (B_w b143 (by decide +kernel) (by decide +kernel)), (B_w (B_add b103 cqb_1_1_1 (by decide +kernel) (by decide +kernel)) (by decide +kernel) (by decide +kernel)), (B_w (B_add b30 cqb_1_1_1 (by decide +kernel) (by decide +kernel)) (by decide +kernel) (by decide +kernel)), _, _, rfl, hI170, g171, (by show (x4_4.toInt + (x5_5 + 1).toInt) = (x6_6 + 1).toInt; first | with_reducible assumption | omega), (by show x4_4.toInt ≤ (T7 27 1).toInt; first | with_reducible assumption | omega), (by show (x5_5 + 1).toInt ≤ x2.toInt; first | with_reducible assumption | omega)⟩ (by show (513 - (x6_6 + 1).toInt).toNat < (513 - x6_6.toInt).toNat; omega)
theorem h_Li_makeLine_u27_x347 {a : Bool} {b : Bool} {P : Nat → Nat → Nat} {x1 : Int32} {x2 : Int32} {F : cF} {L : cL} {K : Int32 → cs → Prop} (b_x1 : B 1 15 x1) (b_x2 : B 0 256 x2) (hI : IMc F) (hK : ∀ {v : Int32} {bZ : Bool} {Z : cF} {LZ : cL}, B 0 513 v → IMc Z → agc [] [29, 30, 31] F Z → K v (Z, LZ, PC a bZ P)) : p_Li_makeLine UL 27 x1 x2 47 (F, L, PC a b P) K := by
  cases b
  · exact h_Li_makeLine_u27_x347_b0 b_x1 b_x2 hI (fun bv hI g => hK bv hI (agc_tr agc_refl g (by decide +kernel) (by decide +kernel)))
  · exact h_Li_makeLine_u27_x347_b1 b_x1 b_x2 hI (fun bv hI g => hK bv hI (agc_tr agc_refl g (by decide +kernel) (by decide +kernel)))
set_option maxRecDepth 20000 in
set_option maxHeartbeats 4000000 in
theorem h_Li_setLengths_u27_x146_b0 {a : Bool} {P : Nat → Nat → Nat} {F : cF} {L : cL} {K : cs → Prop} (hI : IMc F) (hK : ∀ {bZ : Bool} {Z : cF} {LZ : cL}, IMc Z → agc [2701] [28, 29, 30, 31, 48, 999] F Z → K (Z, LZ, PC a bZ P)) : p_Li_setLengths UL 27 46 (F, L, PC a false P) K := by
  unfold p_Li_setLengths
  refine ⟨(show c_cl UL 46 = 5 from cl_46), ?_⟩
  refine ⟨(show ¬ ((47 : Nat) = NU) from by decide +kernel), ?_⟩
  refine h_Li_sortSymbols_u27_x147 hI (fun {FS5_1} {LFS5_1} hI2 g3 => ?_)
  refine ⟨fun yx1 yx2 yx3 yS => (46 : Nat) = yx1 ∧ (FS5_1 27 1) = yx2 ∧ B 0 257 yx3 ∧ ∃ (T7 : cF) (LT7 : cL), yS = (T7, LT7, PC a false P) ∧ IMc T7 ∧ agc [] [30] FS5_1 T7, fun yx1 yx2 yx3 yS => (257 - yx3.toInt).toNat, ⟨rfl, rfl, (B_w cqb_0_0_0 (by decide +kernel) (by decide +kernel)), _, _, rfl, hI2, (agc_refl (fs := []) (rs := [30]) (F := FS5_1))⟩, fun x1_4 x2_5 x3_6 ST7 hIv => ?_⟩
  obtain ⟨rfl, rfl, b8, T7, LT7, rfl, hI9, g10⟩ := hIv
  suffices hs : ∀ (R15 : Nat → Int32 → Int32 → cs → Prop), (∀ zx1 zx2 zx3 zS, ((46 : Nat) = zx1 ∧ (FS5_1 27 1) = zx2 ∧ B 0 257 zx3 ∧ ∃ (T7 : cF) (LT7 : cL), zS = (T7, LT7, PC a false P) ∧ IMc T7 ∧ agc [] [30] FS5_1 T7) → (257 - zx3.toInt).toNat < (257 - x3_6.toInt).toNat → R15 zx1 zx2 zx3 zS) → b_Li_setLengths_15 UL 27 46 (FS5_1 27 1) x3_6 (T7, LT7, PC a false P) R15 K from hs _ (fun _ _ _ _ h1 h2 => ⟨h1, h2⟩)
  intro R15 hR150
  have hR15 := fun {zx1} {zx2} {zx3} {zS} => hR150 zx1 zx2 zx3 zS
  unfold b_Li_setLengths_15
  refine ⟨fun hc => ?_, fun hc => ?_⟩
  · have hq11 := hc
    have q12 : (0) ≤ (FS5_1 27 1).toInt ∧ (FS5_1 27 1).toInt ≤ (257) := (show B 0 257 (FS5_1 27 1) from hI2 27 1)
    have e13 : (T7 27 1).toInt = (FS5_1 27 1).toInt := (congrArg Int32.toInt (g10.1 27 1 rfl rfl)).trans rfl
    have q14 : (0) ≤ (x3_6).toInt ∧ (x3_6).toInt ≤ (257) := (show B 0 257 (x3_6) from B_w b8 (by decide +kernel) (by decide +kernel))
    have i15 : (T7 27 1).toInt ≤ (x3_6).toInt := i_le hq11
    refine ⟨fun yx1 yx2 yx3 yS => (46 : Nat) = yx1 ∧ B 0 513 yx2 ∧ B 1 16 yx3 ∧ ∃ (bT19 : Bool) (T19 : cF) (LT19 : cL), yS = (T19, LT19, PC a bT19 P) ∧ IMc T19 ∧ agc [] [29, 30, 31, 999] T7 T19, fun yx1 yx2 yx3 yS => (16 - yx3.toInt).toNat, ⟨rfl, (B_w (show B 0 257 (FS5_1 27 1) from hI2 27 1) (by decide +kernel) (by decide +kernel)), (B_w cqb_1_1_1 (by decide +kernel) (by decide +kernel)), _, _, _, rfl, hI9, (agc_refl (fs := []) (rs := [29, 30, 31, 999]) (F := T7))⟩, fun x1_16 x2_17 x3_18 ST19 hIv => ?_⟩
    obtain ⟨rfl, b20, b21, bT19, T19, LT19, rfl, hI22, g23⟩ := hIv
    suffices hs : ∀ (R48 : Nat → Int32 → Int32 → cs → Prop), (∀ zx1 zx2 zx3 zS, ((46 : Nat) = zx1 ∧ B 0 513 zx2 ∧ B 1 16 zx3 ∧ ∃ (bT19 : Bool) (T19 : cF) (LT19 : cL), zS = (T19, LT19, PC a bT19 P) ∧ IMc T19 ∧ agc [] [29, 30, 31, 999] T7 T19) → (16 - zx3.toInt).toNat < (16 - x3_18.toInt).toNat → R48 zx1 zx2 zx3 zS) → b_Li_setLengths_48 UL 27 46 x2_17 x3_18 (T19, LT19, PC a bT19 P) R48 K from hs _ (fun _ _ _ _ h1 h2 => ⟨h1, h2⟩)
    intro R48 hR480
    have hR48 := fun {zx1} {zx2} {zx3} {zS} => hR480 zx1 zx2 zx3 zS
    unfold b_Li_setLengths_48
    refine ⟨fun hc => ?_, fun hc => ?_⟩
    · have hq24 := hc
      have b25 : B 16 16 (x3_18) := B_w (B_leR cqb_16_16_16 b21 hq24) (by decide +kernel) (by decide +kernel)
      refine ⟨fun yx1 yx3 yx4 yS => (46 : Nat) = yx1 ∧ B (-2147483648) 2147483647 yx3 ∧ B (-1) 15 yx4 ∧ ∃ (T29 : cF) (LT29 : cL), yS = (T29, LT29, PC a bT19 P) ∧ IMc T29 ∧ agc [] [48, 999] T19 T29, fun yx1 yx3 yx4 yS => (yx4.toInt - (-1)).toNat, ⟨rfl, (B_w (B_sub (B_mul cqb_2_2_2 (B_eq ((g23.1 27 1 rfl rfl).trans (g10.1 27 1 rfl rfl)) (show B 0 257 (FS5_1 27 1) from hI2 27 1)) (by decide +kernel) (by decide +kernel) (by decide +kernel)) cqb_2_2_2 (by decide +kernel) (by decide +kernel)) (by decide +kernel) (by decide +kernel)), (B_w cqb_15_15_15 (by decide +kernel) (by decide +kernel)), _, _, rfl, hI22, (agc_refl (fs := []) (rs := [48, 999]) (F := T19))⟩, fun x1_26 x3_27 x4_28 ST29 hIv => ?_⟩
      obtain ⟨rfl, b30, b31, T29, LT29, rfl, hI32, g33⟩ := hIv
      suffices hs : ∀ (R86 : Nat → Int32 → Int32 → cs → Prop), (∀ zx1 zx3 zx4 zS, ((46 : Nat) = zx1 ∧ B (-2147483648) 2147483647 zx3 ∧ B (-1) 15 zx4 ∧ ∃ (T29 : cF) (LT29 : cL), zS = (T29, LT29, PC a bT19 P) ∧ IMc T29 ∧ agc [] [48, 999] T19 T29) → (zx4.toInt - (-1)).toNat < (x4_28.toInt - (-1)).toNat → R86 zx1 zx3 zx4 zS) → b_Li_setLengths_86 UL 27 46 x3_27 x4_28 (T29, LT29, PC a bT19 P) R86 K from hs _ (fun _ _ _ _ h1 h2 => ⟨h1, h2⟩)
      intro R86 hR860
      have hR86 := fun {zx1} {zx3} {zx4} {zS} => hR860 zx1 zx3 zx4 zS
      unfold b_Li_setLengths_86
      refine ⟨fun hc => ?_, fun hc => ?_⟩
      · have hq34 := hc
        have b35 : B (-1) (-1) (x4_28) := B_w (B_ltL b31 cqb_0_0_0 hq34) (by decide +kernel) (by decide +kernel)
        have g39 := agc_tr (agc_refl (fs := [2701]) (rs := [28, 29, 30, 31, 48, 999]) (F := F)) g3 (by decide +kernel) (by decide +kernel)
        have g38 := agc_tr g39 g10 (by decide +kernel) (by decide +kernel)
        have g37 := agc_tr g38 g23 (by decide +kernel) (by decide +kernel)
        have g36 := agc_tr g37 g33 (by decide +kernel) (by decide +kernel)
        exact hK hI32 g36
      · have hq40 := (nlt_le hc)
        have b41 : B 0 15 (x4_28) := B_w (B_leR cqb_0_0_0 b31 hq40) (by decide +kernel) (by decide +kernel)
        refine ⟨(show c_cl UL 46 = 5 from cl_46), ?_⟩
        refine ⟨(show ¬ ((48 : Nat) = NU) from by decide +kernel), ?_⟩
        refine h_Li_takeThings_u27_x348 b41 hI32 (fun {v100_42} {FS100_43} {LFS100_43} b44 hI45 g46 => ?_)
        have g48 := agc_tr (agc_refl (fs := []) (rs := [48, 999]) (F := T19)) g33 (by decide +kernel) (by decide +kernel)
        have g47 := agc_tr g48 g46 (by decide +kernel) (by decide +kernel)
        have q49 : (0) ≤ (x4_28).toInt ∧ (x4_28).toInt ≤ (15) := (show B 0 15 (x4_28) from B_w b41 (by decide +kernel) (by decide +kernel))
        have e50 : (x4_28 + (-1)).toInt = ((x4_28).toInt + (-1)) := (t_add b41 cqb_m1_m1_m1 (by decide +kernel) (by decide +kernel)).trans (by rw [cqn_m1])
        have q51 : (-1) ≤ (x4_28 + (-1)).toInt ∧ (x4_28 + (-1)).toInt ≤ (14) := (show B (-1) 14 (x4_28 + (-1)) from B_w (B_add b41 cqb_m1_m1_m1 (by decide +kernel) (by decide +kernel)) (by decide +kernel) (by decide +kernel))
        exact hR86 ⟨rfl, (B_w (B_mul cqb_2_2_2 b44 (by decide +kernel) (by decide +kernel) (by decide +kernel)) (by decide +kernel) (by decide +kernel)), (B_w (B_add b41 cqb_m1_m1_m1 (by decide +kernel) (by decide +kernel)) (by decide +kernel) (by decide +kernel)), _, _, rfl, hI45, g47⟩ (by show ((x4_28 + (-1)).toInt - (-1)).toNat < (x4_28.toInt - (-1)).toNat; revert e50 q51; generalize (x4_28 + (-1)).toInt = dd0; intros; omega)
    · have hq52 := (nle_lt hc)
      have b53 : B 1 15 (x3_18) := B_w (B_ltL b21 cqb_16_16_16 hq52) (by decide +kernel) (by decide +kernel)
      refine ⟨(show c_cl UL 46 = 5 from cl_46), ?_⟩
      refine ⟨(show ¬ ((47 : Nat) = NU) from by decide +kernel), ?_⟩
      refine h_Li_makeLine_u27_x347 b53 (B_w (show B 0 256 (x2_17 / 2) from B_div2 b20 cqb_2_2_2 (by decide +kernel) (by decide +kernel) (by decide +kernel) (by decide +kernel)) (by decide +kernel) (by decide +kernel)) hI22 (fun {v63_54} {bFS63_55} {FS63_55} {LFS63_55} b56 hI57 g58 => ?_)
      have g60 := agc_tr (agc_refl (fs := []) (rs := [29, 30, 31, 999]) (F := T7)) g23 (by decide +kernel) (by decide +kernel)
      have g59 := agc_tr g60 g58 (by decide +kernel) (by decide +kernel)
      have q61 : (1) ≤ (x3_18).toInt ∧ (x3_18).toInt ≤ (15) := (show B 1 15 (x3_18) from B_w b53 (by decide +kernel) (by decide +kernel))
      have e62 : (x3_18 + 1).toInt = ((x3_18).toInt + 1) := (t_add b53 cqb_1_1_1 (by decide +kernel) (by decide +kernel)).trans (by rw [cqn_1])
      have q63 : (2) ≤ (x3_18 + 1).toInt ∧ (x3_18 + 1).toInt ≤ (16) := (show B 2 16 (x3_18 + 1) from B_w (B_add b53 cqb_1_1_1 (by decide +kernel) (by decide +kernel)) (by decide +kernel) (by decide +kernel))
      exact hR48 ⟨rfl, b56, (B_w (B_add b53 cqb_1_1_1 (by decide +kernel) (by decide +kernel)) (by decide +kernel) (by decide +kernel)), _, _, _, rfl, hI57, g59⟩ (by show (16 - (x3_18 + 1).toInt).toNat < (16 - x3_18.toInt).toNat; omega)
  · have hq64 := (nle_lt hc)
    have b65 : B 0 256 (x3_6) := B_w (B_ltL b8 (B_eq (g10.1 27 1 rfl rfl) (show B 0 257 (FS5_1 27 1) from hI2 27 1)) hq64) (by decide +kernel) (by decide +kernel)
    have b66 : B 1 257 (FS5_1 27 1) := B_w (B_eq (Eq.symm (g10.1 27 1 rfl rfl)) (B_ltR b8 (B_eq (g10.1 27 1 rfl rfl) (show B 0 257 (FS5_1 27 1) from hI2 27 1)) hq64)) (by decide +kernel) (by decide +kernel)
    have q67 : (0) ≤ (x3_6).toInt ∧ (x3_6).toInt ≤ (256) := (show B 0 256 (x3_6) from B_w b65 (by decide +kernel) (by decide +kernel))
    have q68 : (1) ≤ (FS5_1 27 1).toInt ∧ (FS5_1 27 1).toInt ≤ (257) := (show B 1 257 (FS5_1 27 1) from B_w b66 (by decide +kernel) (by decide +kernel))
    have e69 : (T7 27 1).toInt = (FS5_1 27 1).toInt := (congrArg Int32.toInt (g10.1 27 1 rfl rfl)).trans rfl
    have i70 : (x3_6).toInt < (T7 27 1).toInt := i_lt hq64
    refine ⟨(show ¬ ((30 : Nat) = NU) from by decide +kernel), ?_⟩
    refine ⟨(show c_cl UL 46 = 5 from cl_46), ?_⟩
    refine ⟨(show ¬ ((47 : Nat) = NU) from by decide +kernel), ?_⟩
    refine ⟨(show ¬ ((28 : Nat) = NU) from by decide +kernel), ?_⟩
    refine ⟨(show c_cl UL 28 = 902 from cl_28), ?_⟩
    refine ⟨(show vp_in (x3_6) 257 from vp_B b65 (by decide +kernel) (by decide +kernel)), ?_⟩
    refine ⟨(show c_cl UL 47 = 902 from cl_47), ?_⟩
    refine ⟨(show vp_in (T7 28 x3_6.toNatClampNeg) 257 from vp_B (B_eq (congrFun (g10.2 28 rfl rfl) x3_6.toNatClampNeg) (show B 0 256 (FS5_1 28 x3_6.toNatClampNeg) from hI2 28 x3_6.toNatClampNeg)) (by decide +kernel) (by decide +kernel)), ?_⟩
    refine ⟨(show c_cl UL 30 = 902 from cl_30), ?_⟩
    refine ⟨(show vp_in (x3_6) 514 from vp_B b65 (by decide +kernel) (by decide +kernel)), ?_⟩
    have hI71 := IMc_u (u := 30) (i := x3_6.toNatClampNeg) (v := T7 47 (T7 28 x3_6.toNatClampNeg).toNatClampNeg) hI9 (show B (-2147483648) 2147483647 (T7 47 (T7 28 x3_6.toNatClampNeg).toNatClampNeg) from (B_w (B_eq ((congrFun (g10.2 47 rfl rfl) (T7 28 x3_6.toNatClampNeg).toNatClampNeg).trans (congrFun (g3.2 47 rfl rfl) (T7 28 x3_6.toNatClampNeg).toNatClampNeg)) (B_any _)) (by decide +kernel) (by decide +kernel)))
    have g73 := agc_tr (agc_refl (fs := []) (rs := [30]) (F := FS5_1)) g10 (by decide +kernel) (by decide +kernel)
    have g72 := agc_r (u := 30) (w := upd (T7 30) x3_6.toNatClampNeg (T7 47 (T7 28 x3_6.toNatClampNeg).toNatClampNeg)) g73 rfl (by decide +kernel)
    have e74 : (x3_6 + 1).toInt = ((x3_6).toInt + 1) := (t_add b65 cqb_1_1_1 (by decide +kernel) (by decide +kernel)).trans (by rw [cqn_1])
    have q75 : (1) ≤ (x3_6 + 1).toInt ∧ (x3_6 + 1).toInt ≤ (257) := (show B 1 257 (x3_6 + 1) from B_w (B_add b65 cqb_1_1_1 (by decide +kernel) (by decide +kernel)) (by decide +kernel) (by decide +kernel))
    exact hR15 ⟨rfl, rfl, (B_w (B_add b65 cqb_1_1_1 (by decide +kernel) (by decide +kernel)) (by decide +kernel) (by decide +kernel)), _, _, rfl, hI71, g72⟩ (by show (257 - (x3_6 + 1).toInt).toNat < (257 - x3_6.toInt).toNat; omega)
set_option maxRecDepth 20000 in
set_option maxHeartbeats 4000000 in
theorem h_Li_setLengths_u27_x146_b1 {a : Bool} {P : Nat → Nat → Nat} {F : cF} {L : cL} {K : cs → Prop} (hI : IMc F) (hK : ∀ {bZ : Bool} {Z : cF} {LZ : cL}, IMc Z → agc [2701] [28, 29, 30, 31, 48, 999] F Z → K (Z, LZ, PC a bZ P)) : p_Li_setLengths UL 27 46 (F, L, PC a true P) K := by
  unfold p_Li_setLengths
  refine ⟨(show c_cl UL 46 = 5 from cl_46), ?_⟩
  refine ⟨(show ¬ ((47 : Nat) = NU) from by decide +kernel), ?_⟩
  refine h_Li_sortSymbols_u27_x147 hI (fun {FS5_1} {LFS5_1} hI2 g3 => ?_)
  refine ⟨fun yx1 yx2 yx3 yS => (46 : Nat) = yx1 ∧ (FS5_1 27 1) = yx2 ∧ B 0 257 yx3 ∧ ∃ (T7 : cF) (LT7 : cL), yS = (T7, LT7, PC a true P) ∧ IMc T7 ∧ agc [] [31] FS5_1 T7, fun yx1 yx2 yx3 yS => (257 - yx3.toInt).toNat, ⟨rfl, rfl, (B_w cqb_0_0_0 (by decide +kernel) (by decide +kernel)), _, _, rfl, hI2, (agc_refl (fs := []) (rs := [31]) (F := FS5_1))⟩, fun x1_4 x2_5 x3_6 ST7 hIv => ?_⟩
  obtain ⟨rfl, rfl, b8, T7, LT7, rfl, hI9, g10⟩ := hIv
  suffices hs : ∀ (R15 : Nat → Int32 → Int32 → cs → Prop), (∀ zx1 zx2 zx3 zS, ((46 : Nat) = zx1 ∧ (FS5_1 27 1) = zx2 ∧ B 0 257 zx3 ∧ ∃ (T7 : cF) (LT7 : cL), zS = (T7, LT7, PC a true P) ∧ IMc T7 ∧ agc [] [31] FS5_1 T7) → (257 - zx3.toInt).toNat < (257 - x3_6.toInt).toNat → R15 zx1 zx2 zx3 zS) → b_Li_setLengths_15 UL 27 46 (FS5_1 27 1) x3_6 (T7, LT7, PC a true P) R15 K from hs _ (fun _ _ _ _ h1 h2 => ⟨h1, h2⟩)
  intro R15 hR150
  have hR15 := fun {zx1} {zx2} {zx3} {zS} => hR150 zx1 zx2 zx3 zS
  unfold b_Li_setLengths_15
  refine ⟨fun hc => ?_, fun hc => ?_⟩
  · have hq11 := hc
    have q12 : (0) ≤ (FS5_1 27 1).toInt ∧ (FS5_1 27 1).toInt ≤ (257) := (show B 0 257 (FS5_1 27 1) from hI2 27 1)
    have e13 : (T7 27 1).toInt = (FS5_1 27 1).toInt := (congrArg Int32.toInt (g10.1 27 1 rfl rfl)).trans rfl
    have q14 : (0) ≤ (x3_6).toInt ∧ (x3_6).toInt ≤ (257) := (show B 0 257 (x3_6) from B_w b8 (by decide +kernel) (by decide +kernel))
    have i15 : (T7 27 1).toInt ≤ (x3_6).toInt := i_le hq11
    refine ⟨fun yx1 yx2 yx3 yS => (46 : Nat) = yx1 ∧ B 0 513 yx2 ∧ B 1 16 yx3 ∧ ∃ (bT19 : Bool) (T19 : cF) (LT19 : cL), yS = (T19, LT19, PC a bT19 P) ∧ IMc T19 ∧ agc [] [29, 30, 31, 999] T7 T19, fun yx1 yx2 yx3 yS => (16 - yx3.toInt).toNat, ⟨rfl, (B_w (show B 0 257 (FS5_1 27 1) from hI2 27 1) (by decide +kernel) (by decide +kernel)), (B_w cqb_1_1_1 (by decide +kernel) (by decide +kernel)), _, _, _, rfl, hI9, (agc_refl (fs := []) (rs := [29, 30, 31, 999]) (F := T7))⟩, fun x1_16 x2_17 x3_18 ST19 hIv => ?_⟩
    obtain ⟨rfl, b20, b21, bT19, T19, LT19, rfl, hI22, g23⟩ := hIv
    suffices hs : ∀ (R48 : Nat → Int32 → Int32 → cs → Prop), (∀ zx1 zx2 zx3 zS, ((46 : Nat) = zx1 ∧ B 0 513 zx2 ∧ B 1 16 zx3 ∧ ∃ (bT19 : Bool) (T19 : cF) (LT19 : cL), zS = (T19, LT19, PC a bT19 P) ∧ IMc T19 ∧ agc [] [29, 30, 31, 999] T7 T19) → (16 - zx3.toInt).toNat < (16 - x3_18.toInt).toNat → R48 zx1 zx2 zx3 zS) → b_Li_setLengths_48 UL 27 46 x2_17 x3_18 (T19, LT19, PC a bT19 P) R48 K from hs _ (fun _ _ _ _ h1 h2 => ⟨h1, h2⟩)
    intro R48 hR480
    have hR48 := fun {zx1} {zx2} {zx3} {zS} => hR480 zx1 zx2 zx3 zS
    unfold b_Li_setLengths_48
    refine ⟨fun hc => ?_, fun hc => ?_⟩
    · have hq24 := hc
      have b25 : B 16 16 (x3_18) := B_w (B_leR cqb_16_16_16 b21 hq24) (by decide +kernel) (by decide +kernel)
      refine ⟨fun yx1 yx3 yx4 yS => (46 : Nat) = yx1 ∧ B (-2147483648) 2147483647 yx3 ∧ B (-1) 15 yx4 ∧ ∃ (T29 : cF) (LT29 : cL), yS = (T29, LT29, PC a bT19 P) ∧ IMc T29 ∧ agc [] [48, 999] T19 T29, fun yx1 yx3 yx4 yS => (yx4.toInt - (-1)).toNat, ⟨rfl, (B_w (B_sub (B_mul cqb_2_2_2 (B_eq ((g23.1 27 1 rfl rfl).trans (g10.1 27 1 rfl rfl)) (show B 0 257 (FS5_1 27 1) from hI2 27 1)) (by decide +kernel) (by decide +kernel) (by decide +kernel)) cqb_2_2_2 (by decide +kernel) (by decide +kernel)) (by decide +kernel) (by decide +kernel)), (B_w cqb_15_15_15 (by decide +kernel) (by decide +kernel)), _, _, rfl, hI22, (agc_refl (fs := []) (rs := [48, 999]) (F := T19))⟩, fun x1_26 x3_27 x4_28 ST29 hIv => ?_⟩
      obtain ⟨rfl, b30, b31, T29, LT29, rfl, hI32, g33⟩ := hIv
      suffices hs : ∀ (R86 : Nat → Int32 → Int32 → cs → Prop), (∀ zx1 zx3 zx4 zS, ((46 : Nat) = zx1 ∧ B (-2147483648) 2147483647 zx3 ∧ B (-1) 15 zx4 ∧ ∃ (T29 : cF) (LT29 : cL), zS = (T29, LT29, PC a bT19 P) ∧ IMc T29 ∧ agc [] [48, 999] T19 T29) → (zx4.toInt - (-1)).toNat < (x4_28.toInt - (-1)).toNat → R86 zx1 zx3 zx4 zS) → b_Li_setLengths_86 UL 27 46 x3_27 x4_28 (T29, LT29, PC a bT19 P) R86 K from hs _ (fun _ _ _ _ h1 h2 => ⟨h1, h2⟩)
      intro R86 hR860
      have hR86 := fun {zx1} {zx3} {zx4} {zS} => hR860 zx1 zx3 zx4 zS
      unfold b_Li_setLengths_86
      refine ⟨fun hc => ?_, fun hc => ?_⟩
      · have hq34 := hc
        have b35 : B (-1) (-1) (x4_28) := B_w (B_ltL b31 cqb_0_0_0 hq34) (by decide +kernel) (by decide +kernel)
        have g39 := agc_tr (agc_refl (fs := [2701]) (rs := [28, 29, 30, 31, 48, 999]) (F := F)) g3 (by decide +kernel) (by decide +kernel)
        have g38 := agc_tr g39 g10 (by decide +kernel) (by decide +kernel)
        have g37 := agc_tr g38 g23 (by decide +kernel) (by decide +kernel)
        have g36 := agc_tr g37 g33 (by decide +kernel) (by decide +kernel)
        exact hK hI32 g36
      · have hq40 := (nlt_le hc)
        have b41 : B 0 15 (x4_28) := B_w (B_leR cqb_0_0_0 b31 hq40) (by decide +kernel) (by decide +kernel)
        refine ⟨(show c_cl UL 46 = 5 from cl_46), ?_⟩
        refine ⟨(show ¬ ((48 : Nat) = NU) from by decide +kernel), ?_⟩
        refine h_Li_takeThings_u27_x348 b41 hI32 (fun {v100_42} {FS100_43} {LFS100_43} b44 hI45 g46 => ?_)
        have g48 := agc_tr (agc_refl (fs := []) (rs := [48, 999]) (F := T19)) g33 (by decide +kernel) (by decide +kernel)
        have g47 := agc_tr g48 g46 (by decide +kernel) (by decide +kernel)
        have q49 : (0) ≤ (x4_28).toInt ∧ (x4_28).toInt ≤ (15) := (show B 0 15 (x4_28) from B_w b41 (by decide +kernel) (by decide +kernel))
        have e50 : (x4_28 + (-1)).toInt = ((x4_28).toInt + (-1)) := (t_add b41 cqb_m1_m1_m1 (by decide +kernel) (by decide +kernel)).trans (by rw [cqn_m1])
        have q51 : (-1) ≤ (x4_28 + (-1)).toInt ∧ (x4_28 + (-1)).toInt ≤ (14) := (show B (-1) 14 (x4_28 + (-1)) from B_w (B_add b41 cqb_m1_m1_m1 (by decide +kernel) (by decide +kernel)) (by decide +kernel) (by decide +kernel))
        exact hR86 ⟨rfl, (B_w (B_mul cqb_2_2_2 b44 (by decide +kernel) (by decide +kernel) (by decide +kernel)) (by decide +kernel) (by decide +kernel)), (B_w (B_add b41 cqb_m1_m1_m1 (by decide +kernel) (by decide +kernel)) (by decide +kernel) (by decide +kernel)), _, _, rfl, hI45, g47⟩ (by show ((x4_28 + (-1)).toInt - (-1)).toNat < (x4_28.toInt - (-1)).toNat; revert e50 q51; generalize (x4_28 + (-1)).toInt = dd0; intros; omega)
    · have hq52 := (nle_lt hc)
      have b53 : B 1 15 (x3_18) := B_w (B_ltL b21 cqb_16_16_16 hq52) (by decide +kernel) (by decide +kernel)
      refine ⟨(show c_cl UL 46 = 5 from cl_46), ?_⟩
      refine ⟨(show ¬ ((47 : Nat) = NU) from by decide +kernel), ?_⟩
      refine h_Li_makeLine_u27_x347 b53 (B_w (show B 0 256 (x2_17 / 2) from B_div2 b20 cqb_2_2_2 (by decide +kernel) (by decide +kernel) (by decide +kernel) (by decide +kernel)) (by decide +kernel) (by decide +kernel)) hI22 (fun {v63_54} {bFS63_55} {FS63_55} {LFS63_55} b56 hI57 g58 => ?_)
      have g60 := agc_tr (agc_refl (fs := []) (rs := [29, 30, 31, 999]) (F := T7)) g23 (by decide +kernel) (by decide +kernel)
      have g59 := agc_tr g60 g58 (by decide +kernel) (by decide +kernel)
      have q61 : (1) ≤ (x3_18).toInt ∧ (x3_18).toInt ≤ (15) := (show B 1 15 (x3_18) from B_w b53 (by decide +kernel) (by decide +kernel))
      have e62 : (x3_18 + 1).toInt = ((x3_18).toInt + 1) := (t_add b53 cqb_1_1_1 (by decide +kernel) (by decide +kernel)).trans (by rw [cqn_1])
      have q63 : (2) ≤ (x3_18 + 1).toInt ∧ (x3_18 + 1).toInt ≤ (16) := (show B 2 16 (x3_18 + 1) from B_w (B_add b53 cqb_1_1_1 (by decide +kernel) (by decide +kernel)) (by decide +kernel) (by decide +kernel))
      exact hR48 ⟨rfl, b56, (B_w (B_add b53 cqb_1_1_1 (by decide +kernel) (by decide +kernel)) (by decide +kernel) (by decide +kernel)), _, _, _, rfl, hI57, g59⟩ (by show (16 - (x3_18 + 1).toInt).toNat < (16 - x3_18.toInt).toNat; omega)
  · have hq64 := (nle_lt hc)
    have b65 : B 0 256 (x3_6) := B_w (B_ltL b8 (B_eq (g10.1 27 1 rfl rfl) (show B 0 257 (FS5_1 27 1) from hI2 27 1)) hq64) (by decide +kernel) (by decide +kernel)
    have b66 : B 1 257 (FS5_1 27 1) := B_w (B_eq (Eq.symm (g10.1 27 1 rfl rfl)) (B_ltR b8 (B_eq (g10.1 27 1 rfl rfl) (show B 0 257 (FS5_1 27 1) from hI2 27 1)) hq64)) (by decide +kernel) (by decide +kernel)
    have q67 : (0) ≤ (x3_6).toInt ∧ (x3_6).toInt ≤ (256) := (show B 0 256 (x3_6) from B_w b65 (by decide +kernel) (by decide +kernel))
    have q68 : (1) ≤ (FS5_1 27 1).toInt ∧ (FS5_1 27 1).toInt ≤ (257) := (show B 1 257 (FS5_1 27 1) from B_w b66 (by decide +kernel) (by decide +kernel))
    have e69 : (T7 27 1).toInt = (FS5_1 27 1).toInt := (congrArg Int32.toInt (g10.1 27 1 rfl rfl)).trans rfl
    have i70 : (x3_6).toInt < (T7 27 1).toInt := i_lt hq64
    refine ⟨(show ¬ ((31 : Nat) = NU) from by decide +kernel), ?_⟩
    refine ⟨(show c_cl UL 46 = 5 from cl_46), ?_⟩
    refine ⟨(show ¬ ((47 : Nat) = NU) from by decide +kernel), ?_⟩
    refine ⟨(show ¬ ((28 : Nat) = NU) from by decide +kernel), ?_⟩
    refine ⟨(show c_cl UL 28 = 902 from cl_28), ?_⟩
    refine ⟨(show vp_in (x3_6) 257 from vp_B b65 (by decide +kernel) (by decide +kernel)), ?_⟩
    refine ⟨(show c_cl UL 47 = 902 from cl_47), ?_⟩
    refine ⟨(show vp_in (T7 28 x3_6.toNatClampNeg) 257 from vp_B (B_eq (congrFun (g10.2 28 rfl rfl) x3_6.toNatClampNeg) (show B 0 256 (FS5_1 28 x3_6.toNatClampNeg) from hI2 28 x3_6.toNatClampNeg)) (by decide +kernel) (by decide +kernel)), ?_⟩
    refine ⟨(show c_cl UL 31 = 902 from cl_31), ?_⟩
    refine ⟨(show vp_in (x3_6) 514 from vp_B b65 (by decide +kernel) (by decide +kernel)), ?_⟩
    have hI71 := IMc_u (u := 31) (i := x3_6.toNatClampNeg) (v := T7 47 (T7 28 x3_6.toNatClampNeg).toNatClampNeg) hI9 (show B (-2147483648) 2147483647 (T7 47 (T7 28 x3_6.toNatClampNeg).toNatClampNeg) from (B_w (B_eq ((congrFun (g10.2 47 rfl rfl) (T7 28 x3_6.toNatClampNeg).toNatClampNeg).trans (congrFun (g3.2 47 rfl rfl) (T7 28 x3_6.toNatClampNeg).toNatClampNeg)) (B_any _)) (by decide +kernel) (by decide +kernel)))
    have g73 := agc_tr (agc_refl (fs := []) (rs := [31]) (F := FS5_1)) g10 (by decide +kernel) (by decide +kernel)
    have g72 := agc_r (u := 31) (w := upd (T7 31) x3_6.toNatClampNeg (T7 47 (T7 28 x3_6.toNatClampNeg).toNatClampNeg)) g73 rfl (by decide +kernel)
    have e74 : (x3_6 + 1).toInt = ((x3_6).toInt + 1) := (t_add b65 cqb_1_1_1 (by decide +kernel) (by decide +kernel)).trans (by rw [cqn_1])
    have q75 : (1) ≤ (x3_6 + 1).toInt ∧ (x3_6 + 1).toInt ≤ (257) := (show B 1 257 (x3_6 + 1) from B_w (B_add b65 cqb_1_1_1 (by decide +kernel) (by decide +kernel)) (by decide +kernel) (by decide +kernel))
    exact hR15 ⟨rfl, rfl, (B_w (B_add b65 cqb_1_1_1 (by decide +kernel) (by decide +kernel)) (by decide +kernel) (by decide +kernel)), _, _, rfl, hI71, g72⟩ (by show (257 - (x3_6 + 1).toInt).toNat < (257 - x3_6.toInt).toNat; omega)
theorem h_Li_setLengths_u27_x146 {a : Bool} {b : Bool} {P : Nat → Nat → Nat} {F : cF} {L : cL} {K : cs → Prop} (hI : IMc F) (hK : ∀ {bZ : Bool} {Z : cF} {LZ : cL}, IMc Z → agc [2701] [28, 29, 30, 31, 48, 999] F Z → K (Z, LZ, PC a bZ P)) : p_Li_setLengths UL 27 46 (F, L, PC a b P) K := by
  cases b
  · exact h_Li_setLengths_u27_x146_b0 hI (fun hI g => hK hI (agc_tr agc_refl g (by decide +kernel) (by decide +kernel)))
  · exact h_Li_setLengths_u27_x146_b1 hI (fun hI g => hK hI (agc_tr agc_refl g (by decide +kernel) (by decide +kernel)))
set_option maxRecDepth 20000 in
set_option maxHeartbeats 4000000 in
theorem h_Li_sortSymbols_u27_x153 {a : Bool} {b : Bool} {P : Nat → Nat → Nat} {F : cF} {L : cL} {K : cs → Prop} (hI : IMc F) (hK : ∀ {Z : cF} {LZ : cL}, IMc Z → agc [2701] [28, 999] F Z → K (Z, LZ, PC a b P)) : p_Li_sortSymbols UL 27 53 (F, L, PC a b P) K := by
  unfold p_Li_sortSymbols
  have hI7 := IMc_u (u := 27) (i := 1) (v := 0) hI (show B 0 257 (0) from (B_w cqb_0_0_0 (by decide +kernel) (by decide +kernel)))
  refine ⟨fun yx1 yx2 yS => (53 : Nat) = yx1 ∧ B 0 257 yx2 ∧ ∃ (T3 : cF) (LT3 : cL), yS = (T3, LT3, PC a b P) ∧ IMc T3 ∧ agc [2701] [28, 999] (va_up F 27 (upd (F 27) 1 0)) T3 ∧ ((T3 27 1).toInt ≤ yx2.toInt), fun yx1 yx2 yS => (257 - yx2.toInt).toNat, ⟨rfl, (B_w cqb_0_0_0 (by decide +kernel) (by decide +kernel)), _, _, rfl, hI7, (agc_refl (fs := [2701]) (rs := [28, 999]) (F := va_up F 27 (upd (F 27) 1 0))), (by show (0 : Int) ≤ 0; first | with_reducible assumption | omega)⟩, fun x1_1 x2_2 ST3 hIv => ?_⟩
  obtain ⟨rfl, b4, T3, LT3, rfl, hI5, g6, r8⟩ := hIv
  suffices hs : ∀ (R7 : Nat → Int32 → cs → Prop), (∀ zx1 zx2 zS, ((53 : Nat) = zx1 ∧ B 0 257 zx2 ∧ ∃ (T3 : cF) (LT3 : cL), zS = (T3, LT3, PC a b P) ∧ IMc T3 ∧ agc [2701] [28, 999] (va_up F 27 (upd (F 27) 1 0)) T3 ∧ ((T3 27 1).toInt ≤ zx2.toInt)) → (257 - zx2.toInt).toNat < (257 - x2_2.toInt).toNat → R7 zx1 zx2 zS) → b_Li_sortSymbols_7 UL 27 53 x2_2 (T3, LT3, PC a b P) R7 K from hs _ (fun _ _ _ h1 h2 => ⟨h1, h2⟩)
  intro R7 hR70
  have hR7 := fun {zx1} {zx2} {zS} => hR70 zx1 zx2 zS
  have q9 : (0) ≤ (T3 27 1).toInt ∧ (T3 27 1).toInt ≤ (257) := (show B 0 257 (T3 27 1) from hI5 27 1)
  have q10 : (0) ≤ (x2_2).toInt ∧ (x2_2).toInt ≤ (257) := (show B 0 257 (x2_2) from B_w b4 (by decide +kernel) (by decide +kernel))
  unfold b_Li_sortSymbols_7
  refine ⟨fun hc => ?_, fun hc => ?_⟩
  · have hq11 := hc
    have b12 : B 257 257 (x2_2) := B_w (B_leR cqb_257_257_257 b4 hq11) (by decide +kernel) (by decide +kernel)
    have q13 : (257) ≤ (x2_2).toInt ∧ (x2_2).toInt ≤ (257) := (show B 257 257 (x2_2) from B_w b12 (by decide +kernel) (by decide +kernel))
    have g15 := agc_f (u := 27) (k := 1) (v := 0) (agc_refl (fs := [2701]) (rs := [28, 999]) (F := F)) rfl (by decide +kernel)
    have g14 := agc_tr g15 g6 (by decide +kernel) (by decide +kernel)
    exact hK hI5 g14
  · have hq16 := (nle_lt hc)
    have b17 : B 0 256 (x2_2) := B_w (B_ltL b4 cqb_257_257_257 hq16) (by decide +kernel) (by decide +kernel)
    have q18 : (0) ≤ (x2_2).toInt ∧ (x2_2).toInt ≤ (256) := (show B 0 256 (x2_2) from B_w b17 (by decide +kernel) (by decide +kernel))
    refine ⟨(show c_cl UL 53 = 902 from cl_53), ?_⟩
    refine ⟨(show vp_in (x2_2) 257 from vp_B b17 (by decide +kernel) (by decide +kernel)), ?_⟩
    have hj19 : ((T3 27 1).toInt ≤ x2_2.toInt) → b_Li_sortSymbols_27 UL 27 53 x2_2 (T3, LT3, PC a b P) R7 K := by
      intro r20
      unfold b_Li_sortSymbols_27
      refine ⟨fun yx1 yx2 yx3 yS => (53 : Nat) = yx1 ∧ x2_2 = yx2 ∧ B 0 256 yx3 ∧ ∃ (T24 : cF) (LT24 : cL), yS = (T24, LT24, PC a b P) ∧ IMc T24 ∧ agc [] [28] T3 T24, fun yx1 yx2 yx3 yS => (yx3.toInt - 0).toNat, ⟨rfl, rfl, (show B 0 256 (T3 27 1) from ⟨by omega, by omega⟩), _, _, rfl, hI5, (agc_refl (fs := []) (rs := [28]) (F := T3))⟩, fun x1_21 x2_22 x3_23 ST24 hIv => ?_⟩
      obtain ⟨rfl, rfl, b25, T24, LT24, rfl, hI26, g27⟩ := hIv
      suffices hs : ∀ (R32 : Nat → Int32 → Int32 → cs → Prop), (∀ zx1 zx2 zx3 zS, ((53 : Nat) = zx1 ∧ x2_2 = zx2 ∧ B 0 256 zx3 ∧ ∃ (T24 : cF) (LT24 : cL), zS = (T24, LT24, PC a b P) ∧ IMc T24 ∧ agc [] [28] T3 T24) → (zx3.toInt - 0).toNat < (x3_23.toInt - 0).toNat → R32 zx1 zx2 zx3 zS) → b_Li_sortSymbols_32 UL 27 53 x2_2 x3_23 (T24, LT24, PC a b P) R7 R32 K from hs _ (fun _ _ _ _ h1 h2 => ⟨h1, h2⟩)
      intro R32 hR320
      have hR32 := fun {zx1} {zx2} {zx3} {zS} => hR320 zx1 zx2 zx3 zS
      unfold b_Li_sortSymbols_32
      refine ⟨fun hc => ?_, fun hc => ?_⟩
      · have hq28 := hc
        have b29 : B 0 0 (x3_23) := B_w (B_leL b25 cqb_0_0_0 hq28) (by decide +kernel) (by decide +kernel)
        unfold b_Li_sortSymbols_72
        refine ⟨(show ¬ ((28 : Nat) = NU) from by decide +kernel), ?_⟩
        refine ⟨(show c_cl UL 28 = 902 from cl_28), ?_⟩
        refine ⟨(show vp_in (x3_23) 257 from vp_B b29 (by decide +kernel) (by decide +kernel)), ?_⟩
        unfold b_Li_sortSymbols_89
        have hI30 := IMc_u (u := 28) (i := x3_23.toNatClampNeg) (v := x2_2) hI26 (show B 0 256 (x2_2) from (B_w b17 (by decide +kernel) (by decide +kernel)))
        have e31 : (T24 27 1).toInt = (T3 27 1).toInt := (congrArg Int32.toInt (g27.1 27 1 rfl rfl)).trans rfl
        have e32 : ((T24 27 1) + 1).toInt = ((T3 27 1).toInt + 1) := (t_add (B_eq (g27.1 27 1 rfl rfl) (show B 0 257 (T3 27 1) from hI5 27 1)) cqb_1_1_1 (by decide +kernel) (by decide +kernel)).trans (by rw [e31, cqn_1])
        have q33 : (1) ≤ ((T24 27 1) + 1).toInt ∧ ((T24 27 1) + 1).toInt ≤ (258) := (show B 1 258 ((T24 27 1) + 1) from B_w (B_add (B_eq (g27.1 27 1 rfl rfl) (show B 0 257 (T3 27 1) from hI5 27 1)) cqb_1_1_1 (by decide +kernel) (by decide +kernel)) (by decide +kernel) (by decide +kernel))
        have hI34 := IMc_u (u := 27) (i := 1) (v := (T24 27 1) + 1) hI30 (show B 0 257 ((T24 27 1) + 1) from (show B 0 257 ((T24 27 1) + 1) from ⟨by omega, by omega⟩))
        have g38 := agc_tr (agc_refl (fs := [2701]) (rs := [28, 999]) (F := va_up F 27 (upd (F 27) 1 0))) g6 (by decide +kernel) (by decide +kernel)
        have g37 := agc_tr g38 g27 (by decide +kernel) (by decide +kernel)
        have g36 := agc_r (u := 28) (w := upd (T24 28) x3_23.toNatClampNeg x2_2) g37 rfl (by decide +kernel)
        have g35 := agc_f (u := 27) (k := 1) (v := (T24 27 1) + 1) g36 rfl (by decide +kernel)
        have e39 : (x2_2 + 1).toInt = ((x2_2).toInt + 1) := (t_add b17 cqb_1_1_1 (by decide +kernel) (by decide +kernel)).trans (by rw [cqn_1])
        have q40 : (1) ≤ (x2_2 + 1).toInt ∧ (x2_2 + 1).toInt ≤ (257) := (show B 1 257 (x2_2 + 1) from B_w (B_add b17 cqb_1_1_1 (by decide +kernel) (by decide +kernel)) (by decide +kernel) (by decide +kernel))
        exact hR7 ⟨rfl, (B_w (B_add b17 cqb_1_1_1 (by decide +kernel) (by decide +kernel)) (by decide +kernel) (by decide +kernel)), _, _, rfl, hI34, g35, (by show ((T24 27 1) + 1).toInt ≤ (x2_2 + 1).toInt; first | with_reducible assumption | omega)⟩ (by show (257 - (x2_2 + 1).toInt).toNat < (257 - x2_2.toInt).toNat; omega)
      · have hq41 := (nle_lt hc)
        have b42 : B 1 256 (x3_23) := B_w (B_ltR cqb_0_0_0 b25 hq41) (by decide +kernel) (by decide +kernel)
        refine ⟨(show ¬ ((28 : Nat) = NU) from by decide +kernel), ?_⟩
        refine ⟨(show c_cl UL 28 = 902 from cl_28), ?_⟩
        refine ⟨(show vp_in (x3_23 - 1) 257 from vp_B (B_sub b42 cqb_1_1_1 (by decide +kernel) (by decide +kernel)) (by decide +kernel) (by decide +kernel)), ?_⟩
        refine ⟨(show c_cl UL 53 = 902 from cl_53), ?_⟩
        refine ⟨(show vp_in (T24 28 (x3_23 - 1).toNatClampNeg) 257 from vp_B (show B 0 256 (T24 28 (x3_23 - 1).toNatClampNeg) from hI26 28 (x3_23 - 1).toNatClampNeg) (by decide +kernel) (by decide +kernel)), ?_⟩
        refine ⟨(show vp_in (x2_2) 257 from vp_B b17 (by decide +kernel) (by decide +kernel)), ?_⟩
        refine ⟨fun hc => ?_, fun hc => ?_⟩
        · have hq43 := hc
          have e44 : (T24 53 (T24 28 (x3_23 - 1).toNatClampNeg).toNatClampNeg).toInt = (F 53 (T24 28 (x3_23 - 1).toNatClampNeg).toNatClampNeg).toInt := (congrArg Int32.toInt ((congrFun (g27.2 53 rfl rfl) (T24 28 (x3_23 - 1).toNatClampNeg).toNatClampNeg).trans (congrFun (g6.2 53 rfl rfl) (T24 28 (x3_23 - 1).toNatClampNeg).toNatClampNeg))).trans rfl
          have e45 : (T24 53 x2_2.toNatClampNeg).toInt = (F 53 x2_2.toNatClampNeg).toInt := (congrArg Int32.toInt ((congrFun (g27.2 53 rfl rfl) x2_2.toNatClampNeg).trans (congrFun (g6.2 53 rfl rfl) x2_2.toNatClampNeg))).trans rfl
          have i46 : (T24 53 (T24 28 (x3_23 - 1).toNatClampNeg).toNatClampNeg).toInt ≤ (T24 53 x2_2.toNatClampNeg).toInt := i_le hq43
          unfold b_Li_sortSymbols_72
          refine ⟨(show ¬ ((28 : Nat) = NU) from by decide +kernel), ?_⟩
          refine ⟨(show c_cl UL 28 = 902 from cl_28), ?_⟩
          refine ⟨(show vp_in (x3_23) 257 from vp_B b42 (by decide +kernel) (by decide +kernel)), ?_⟩
          unfold b_Li_sortSymbols_89
          have hI47 := IMc_u (u := 28) (i := x3_23.toNatClampNeg) (v := x2_2) hI26 (show B 0 256 (x2_2) from (B_w b17 (by decide +kernel) (by decide +kernel)))
          have e48 : (T24 27 1).toInt = (T3 27 1).toInt := (congrArg Int32.toInt (g27.1 27 1 rfl rfl)).trans rfl
          have e49 : ((T24 27 1) + 1).toInt = ((T3 27 1).toInt + 1) := (t_add (B_eq (g27.1 27 1 rfl rfl) (show B 0 257 (T3 27 1) from hI5 27 1)) cqb_1_1_1 (by decide +kernel) (by decide +kernel)).trans (by rw [e48, cqn_1])
          have q50 : (1) ≤ ((T24 27 1) + 1).toInt ∧ ((T24 27 1) + 1).toInt ≤ (258) := (show B 1 258 ((T24 27 1) + 1) from B_w (B_add (B_eq (g27.1 27 1 rfl rfl) (show B 0 257 (T3 27 1) from hI5 27 1)) cqb_1_1_1 (by decide +kernel) (by decide +kernel)) (by decide +kernel) (by decide +kernel))
          have hI51 := IMc_u (u := 27) (i := 1) (v := (T24 27 1) + 1) hI47 (show B 0 257 ((T24 27 1) + 1) from (show B 0 257 ((T24 27 1) + 1) from ⟨by omega, by omega⟩))
          have g55 := agc_tr (agc_refl (fs := [2701]) (rs := [28, 999]) (F := va_up F 27 (upd (F 27) 1 0))) g6 (by decide +kernel) (by decide +kernel)
          have g54 := agc_tr g55 g27 (by decide +kernel) (by decide +kernel)
          have g53 := agc_r (u := 28) (w := upd (T24 28) x3_23.toNatClampNeg x2_2) g54 rfl (by decide +kernel)
          have g52 := agc_f (u := 27) (k := 1) (v := (T24 27 1) + 1) g53 rfl (by decide +kernel)
          have e56 : (x2_2 + 1).toInt = ((x2_2).toInt + 1) := (t_add b17 cqb_1_1_1 (by decide +kernel) (by decide +kernel)).trans (by rw [cqn_1])
          have q57 : (1) ≤ (x2_2 + 1).toInt ∧ (x2_2 + 1).toInt ≤ (257) := (show B 1 257 (x2_2 + 1) from B_w (B_add b17 cqb_1_1_1 (by decide +kernel) (by decide +kernel)) (by decide +kernel) (by decide +kernel))
          exact hR7 ⟨rfl, (B_w (B_add b17 cqb_1_1_1 (by decide +kernel) (by decide +kernel)) (by decide +kernel) (by decide +kernel)), _, _, rfl, hI51, g52, (by show ((T24 27 1) + 1).toInt ≤ (x2_2 + 1).toInt; first | with_reducible assumption | omega)⟩ (by show (257 - (x2_2 + 1).toInt).toNat < (257 - x2_2.toInt).toNat; omega)
        · have hq58 := (nle_lt hc)
          have b59 : B (-2147483648) 2147483646 (F 53 x2_2.toNatClampNeg) := B_w (B_eq (Eq.symm ((congrFun (g27.2 53 rfl rfl) x2_2.toNatClampNeg).trans (congrFun (g6.2 53 rfl rfl) x2_2.toNatClampNeg))) (B_ltL (B_eq ((congrFun (g27.2 53 rfl rfl) x2_2.toNatClampNeg).trans (congrFun (g6.2 53 rfl rfl) x2_2.toNatClampNeg)) (B_any _)) (B_eq ((congrFun (g27.2 53 rfl rfl) (T24 28 (x3_23 - 1).toNatClampNeg).toNatClampNeg).trans (congrFun (g6.2 53 rfl rfl) (T24 28 (x3_23 - 1).toNatClampNeg).toNatClampNeg)) (B_any _)) hq58)) (by decide +kernel) (by decide +kernel)
          have b60 : B (-2147483647) 2147483647 (F 53 (T24 28 (x3_23 - 1).toNatClampNeg).toNatClampNeg) := B_w (B_eq (Eq.symm ((congrFun (g27.2 53 rfl rfl) (T24 28 (x3_23 - 1).toNatClampNeg).toNatClampNeg).trans (congrFun (g6.2 53 rfl rfl) (T24 28 (x3_23 - 1).toNatClampNeg).toNatClampNeg))) (B_ltR (B_eq ((congrFun (g27.2 53 rfl rfl) x2_2.toNatClampNeg).trans (congrFun (g6.2 53 rfl rfl) x2_2.toNatClampNeg)) (B_any _)) (B_eq ((congrFun (g27.2 53 rfl rfl) (T24 28 (x3_23 - 1).toNatClampNeg).toNatClampNeg).trans (congrFun (g6.2 53 rfl rfl) (T24 28 (x3_23 - 1).toNatClampNeg).toNatClampNeg)) (B_any _)) hq58)) (by decide +kernel) (by decide +kernel)
          have q61 : (-2147483648) ≤ (F 53 x2_2.toNatClampNeg).toInt ∧ (F 53 x2_2.toNatClampNeg).toInt ≤ (2147483646) := (show B (-2147483648) 2147483646 (F 53 x2_2.toNatClampNeg) from B_w b59 (by decide +kernel) (by decide +kernel))
          have e62 : (T24 53 x2_2.toNatClampNeg).toInt = (F 53 x2_2.toNatClampNeg).toInt := (congrArg Int32.toInt ((congrFun (g27.2 53 rfl rfl) x2_2.toNatClampNeg).trans (congrFun (g6.2 53 rfl rfl) x2_2.toNatClampNeg))).trans rfl
          have q63 : (-2147483647) ≤ (F 53 (T24 28 (x3_23 - 1).toNatClampNeg).toNatClampNeg).toInt ∧ (F 53 (T24 28 (x3_23 - 1).toNatClampNeg).toNatClampNeg).toInt ≤ (2147483647) := (show B (-2147483647) 2147483647 (F 53 (T24 28 (x3_23 - 1).toNatClampNeg).toNatClampNeg) from B_w b60 (by decide +kernel) (by decide +kernel))
          have e64 : (T24 53 (T24 28 (x3_23 - 1).toNatClampNeg).toNatClampNeg).toInt = (F 53 (T24 28 (x3_23 - 1).toNatClampNeg).toNatClampNeg).toInt := (congrArg Int32.toInt ((congrFun (g27.2 53 rfl rfl) (T24 28 (x3_23 - 1).toNatClampNeg).toNatClampNeg).trans (congrFun (g6.2 53 rfl rfl) (T24 28 (x3_23 - 1).toNatClampNeg).toNatClampNeg))).trans rfl
          have i65 : (T24 53 x2_2.toNatClampNeg).toInt < (T24 53 (T24 28 (x3_23 - 1).toNatClampNeg).toNatClampNeg).toInt := i_lt hq58
          refine ⟨(show ¬ ((28 : Nat) = NU) from by decide +kernel), ?_⟩
          refine ⟨(show ¬ ((28 : Nat) = NU) from by decide +kernel), ?_⟩
          refine ⟨(show vp_in (x3_23 - 1) 257 from vp_B (B_sub b42 cqb_1_1_1 (by decide +kernel) (by decide +kernel)) (by decide +kernel) (by decide +kernel)), ?_⟩
          refine ⟨(show vp_in (x3_23) 257 from vp_B b42 (by decide +kernel) (by decide +kernel)), ?_⟩
          have hI66 := IMc_u (u := 28) (i := x3_23.toNatClampNeg) (v := T24 28 (x3_23 - 1).toNatClampNeg) hI26 (show B 0 256 (T24 28 (x3_23 - 1).toNatClampNeg) from (B_w (show B 0 256 (T24 28 (x3_23 - 1).toNatClampNeg) from hI26 28 (x3_23 - 1).toNatClampNeg) (by decide +kernel) (by decide +kernel)))
          have g68 := agc_tr (agc_refl (fs := []) (rs := [28]) (F := T3)) g27 (by decide +kernel) (by decide +kernel)
          have g67 := agc_r (u := 28) (w := upd (T24 28) x3_23.toNatClampNeg (T24 28 (x3_23 - 1).toNatClampNeg)) g68 rfl (by decide +kernel)
          have q69 : (1) ≤ (x3_23).toInt ∧ (x3_23).toInt ≤ (256) := (show B 1 256 (x3_23) from B_w b42 (by decide +kernel) (by decide +kernel))
          have e70 : (x3_23 + (-1)).toInt = ((x3_23).toInt + (-1)) := (t_add b42 cqb_m1_m1_m1 (by decide +kernel) (by decide +kernel)).trans (by rw [cqn_m1])
          have q71 : (0) ≤ (x3_23 + (-1)).toInt ∧ (x3_23 + (-1)).toInt ≤ (255) := (show B 0 255 (x3_23 + (-1)) from B_w (B_add b42 cqb_m1_m1_m1 (by decide +kernel) (by decide +kernel)) (by decide +kernel) (by decide +kernel))
          exact hR32 ⟨rfl, rfl, (B_w (B_add b42 cqb_m1_m1_m1 (by decide +kernel) (by decide +kernel)) (by decide +kernel) (by decide +kernel)), _, _, rfl, hI66, g67⟩ (by show ((x3_23 + (-1)).toInt - 0).toNat < (x3_23.toInt - 0).toNat; revert e70 q71; generalize (x3_23 + (-1)).toInt = dd0; intros; omega)
    refine ⟨fun hc => ?_, fun hc => ?_⟩
    · have hq72 := hc
      have b73 : B 1 2147483647 (F 53 x2_2.toNatClampNeg) := B_w (B_eq (Eq.symm (congrFun (g6.2 53 rfl rfl) x2_2.toNatClampNeg)) (B_ltR cqb_0_0_0 (B_eq (congrFun (g6.2 53 rfl rfl) x2_2.toNatClampNeg) (B_any _)) hq72)) (by decide +kernel) (by decide +kernel)
      exact hj19 (by show (T3 27 1).toInt ≤ x2_2.toInt; first | with_reducible assumption | omega)
    · have hq74 := (nlt_le hc)
      have b75 : B (-2147483648) 0 (F 53 x2_2.toNatClampNeg) := B_w (B_eq (Eq.symm (congrFun (g6.2 53 rfl rfl) x2_2.toNatClampNeg)) (B_leL (B_eq (congrFun (g6.2 53 rfl rfl) x2_2.toNatClampNeg) (B_any _)) cqb_0_0_0 hq74)) (by decide +kernel) (by decide +kernel)
      refine ⟨fun hc => ?_, fun hc => ?_⟩
      · have i76 : (x2_2).toInt ≠ (256 : Int32).toInt := i_ne hc
        have n77 : (256 : Int32).toInt = 256 := cqn_256
        unfold b_Li_sortSymbols_89
        have g78 := agc_tr (agc_refl (fs := [2701]) (rs := [28, 999]) (F := va_up F 27 (upd (F 27) 1 0))) g6 (by decide +kernel) (by decide +kernel)
        have e79 : (x2_2 + 1).toInt = ((x2_2).toInt + 1) := (t_add b17 cqb_1_1_1 (by decide +kernel) (by decide +kernel)).trans (by rw [cqn_1])
        have q80 : (1) ≤ (x2_2 + 1).toInt ∧ (x2_2 + 1).toInt ≤ (257) := (show B 1 257 (x2_2 + 1) from B_w (B_add b17 cqb_1_1_1 (by decide +kernel) (by decide +kernel)) (by decide +kernel) (by decide +kernel))
        exact hR7 ⟨rfl, (B_w (B_add b17 cqb_1_1_1 (by decide +kernel) (by decide +kernel)) (by decide +kernel) (by decide +kernel)), _, _, rfl, hI5, g78, (by show (T3 27 1).toInt ≤ (x2_2 + 1).toInt; first | with_reducible assumption | omega)⟩ (by show (257 - (x2_2 + 1).toInt).toNat < (257 - x2_2.toInt).toNat; omega)
      · have b81 : B 256 256 (x2_2) := B_w (B_eq hc cqb_256_256_256) (by decide +kernel) (by decide +kernel)
        have q82 : (256) ≤ (x2_2).toInt ∧ (x2_2).toInt ≤ (256) := (show B 256 256 (x2_2) from B_w b81 (by decide +kernel) (by decide +kernel))
        have i83 : (x2_2).toInt = (256 : Int32).toInt := congrArg Int32.toInt hc
        have n84 : (256 : Int32).toInt = 256 := cqn_256
        exact hj19 (by show (T3 27 1).toInt ≤ x2_2.toInt; first | with_reducible assumption | omega)
set_option maxRecDepth 20000 in
set_option maxHeartbeats 4000000 in
theorem h_Li_takeThings_u27_x354 {a : Bool} {b : Bool} {P : Nat → Nat → Nat} {x1 : Int32} {x2 : Int32} {F : cF} {L : cL} {K : Int32 → cs → Prop} (b_x1 : B 0 15 x1) (hI : IMc F) (hK : ∀ {v : Int32} {Z : cF} {LZ : cL}, B 0 514 v → IMc Z → agc [] [54] F Z → K v (Z, LZ, PC a b P)) : p_Li_takeThings UL 27 x1 x2 54 (F, L, PC a b P) K := by
  unfold p_Li_takeThings
  refine ⟨fun yx1 yx2 yx3 yx4 yx5 yS => x1 = yx1 ∧ x2 = yx2 ∧ (54 : Nat) = yx3 ∧ B 0 514 yx4 ∧ B 0 514 yx5 ∧ ∃ (T6 : cF) (LT6 : cL), yS = (T6, LT6, PC a b P) ∧ IMc T6 ∧ agc [] [54] F T6 ∧ (yx4.toInt ≤ yx5.toInt), fun yx1 yx2 yx3 yx4 yx5 yS => (514 - yx5.toInt).toNat, ⟨rfl, rfl, rfl, (B_w cqb_0_0_0 (by decide +kernel) (by decide +kernel)), (B_w cqb_0_0_0 (by decide +kernel) (by decide +kernel)), _, _, rfl, hI, (agc_refl (fs := []) (rs := [54]) (F := F)), (by show (0 : Int) ≤ 0; first | with_reducible assumption | omega)⟩, fun x1_1 x2_2 x3_3 x4_4 x5_5 ST6 hIv => ?_⟩
  obtain ⟨rfl, rfl, rfl, b7, b8, T6, LT6, rfl, hI9, g10, r11⟩ := hIv
  suffices hs : ∀ (R6 : Int32 → Int32 → Nat → Int32 → Int32 → cs → Prop), (∀ zx1 zx2 zx3 zx4 zx5 zS, (x1 = zx1 ∧ x2 = zx2 ∧ (54 : Nat) = zx3 ∧ B 0 514 zx4 ∧ B 0 514 zx5 ∧ ∃ (T6 : cF) (LT6 : cL), zS = (T6, LT6, PC a b P) ∧ IMc T6 ∧ agc [] [54] F T6 ∧ (zx4.toInt ≤ zx5.toInt)) → (514 - zx5.toInt).toNat < (514 - x5_5.toInt).toNat → R6 zx1 zx2 zx3 zx4 zx5 zS) → b_Li_takeThings_6 UL 27 x1 x2 54 x4_4 x5_5 (T6, LT6, PC a b P) R6 K from hs _ (fun _ _ _ _ _ _ h1 h2 => ⟨h1, h2⟩)
  intro R6 hR60
  have hR6 := fun {zx1} {zx2} {zx3} {zx4} {zx5} {zS} => hR60 zx1 zx2 zx3 zx4 zx5 zS
  have q12 : (0) ≤ (x4_4).toInt ∧ (x4_4).toInt ≤ (514) := (show B 0 514 (x4_4) from B_w b7 (by decide +kernel) (by decide +kernel))
  have q13 : (0) ≤ (x5_5).toInt ∧ (x5_5).toInt ≤ (514) := (show B 0 514 (x5_5) from B_w b8 (by decide +kernel) (by decide +kernel))
  unfold b_Li_takeThings_6
  refine ⟨fun hc => ?_, fun hc => ?_⟩
  · have hq14 := hc
    have b15 : B (-2147483648) 514 (x2) := B_w (B_leL (B_any _) b8 hq14) (by decide +kernel) (by decide +kernel)
    have q16 : (-2147483648) ≤ (x2).toInt ∧ (x2).toInt ≤ (514) := (show B (-2147483648) 514 (x2) from B_w b15 (by decide +kernel) (by decide +kernel))
    have i17 : (x2).toInt ≤ (x5_5).toInt := i_le hq14
    unfold b_Li_takeThings_76
    have g18 := agc_tr (agc_refl (fs := []) (rs := [54]) (F := F)) g10 (by decide +kernel) (by decide +kernel)
    exact hK b7 hI9 g18
  · have hq19 := (nle_lt hc)
    have b20 : B 1 2147483647 (x2) := B_w (B_ltR b8 (B_any _) hq19) (by decide +kernel) (by decide +kernel)
    have q21 : (1) ≤ (x2).toInt ∧ (x2).toInt ≤ (2147483647) := (show B 1 2147483647 (x2) from B_w b20 (by decide +kernel) (by decide +kernel))
    have i22 : (x5_5).toInt < (x2).toInt := i_lt hq19
    refine ⟨fun hc => ?_, fun hc => ?_⟩
    · have hq23 := hc
      have b24 : B 514 514 (x5_5) := B_w (B_leR cqb_514_514_514 b8 hq23) (by decide +kernel) (by decide +kernel)
      have q25 : (514) ≤ (x5_5).toInt ∧ (x5_5).toInt ≤ (514) := (show B 514 514 (x5_5) from B_w b24 (by decide +kernel) (by decide +kernel))
      unfold b_Li_takeThings_76
      have g26 := agc_tr (agc_refl (fs := []) (rs := [54]) (F := F)) g10 (by decide +kernel) (by decide +kernel)
      exact hK b7 hI9 g26
    · have hq27 := (nle_lt hc)
      have b28 : B 0 513 (x5_5) := B_w (B_ltL b8 cqb_514_514_514 hq27) (by decide +kernel) (by decide +kernel)
      have q29 : (0) ≤ (x5_5).toInt ∧ (x5_5).toInt ≤ (513) := (show B 0 513 (x5_5) from B_w b28 (by decide +kernel) (by decide +kernel))
      refine ⟨(show ¬ ((29 : Nat) = NU) from by decide +kernel), ?_⟩
      refine ⟨(show c_cl UL 29 = 903 from cl_29), ?_⟩
      refine ⟨(show vp_in ((514 * x1) + x5_5) 8224 from vp_B (B_add (B_mul cqb_514_514_514 b_x1 (by decide +kernel) (by decide +kernel) (by decide +kernel)) b28 (by decide +kernel) (by decide +kernel)) (by decide +kernel) (by decide +kernel)), ?_⟩
      refine ⟨fun hc => ?_, fun hc => ?_⟩
      · have b30 : B 0 0 (F 29 ((514 * x1) + x5_5).toNatClampNeg) := B_w (B_eq (Eq.symm (congrFun (g10.2 29 rfl rfl) ((514 * x1) + x5_5).toNatClampNeg)) (B_eq hc cqb_0_0_0)) (by decide +kernel) (by decide +kernel)
        have q31 : (0) ≤ (F 29 ((514 * x1) + x5_5).toNatClampNeg).toInt ∧ (F 29 ((514 * x1) + x5_5).toNatClampNeg).toInt ≤ (0) := (show B 0 0 (F 29 ((514 * x1) + x5_5).toNatClampNeg) from B_w b30 (by decide +kernel) (by decide +kernel))
        have e32 : (T6 29 ((514 * x1) + x5_5).toNatClampNeg).toInt = (F 29 ((514 * x1) + x5_5).toNatClampNeg).toInt := (congrArg Int32.toInt (congrFun (g10.2 29 rfl rfl) ((514 * x1) + x5_5).toNatClampNeg)).trans rfl
        have i33 : (T6 29 ((514 * x1) + x5_5).toNatClampNeg).toInt = (0 : Int32).toInt := congrArg Int32.toInt hc
        have n34 : (0 : Int32).toInt = 0 := cqn_0
        refine ⟨fun hc => ?_, fun hc => ?_⟩
        · have hq35 := hc
          have b36 : B 0 513 (x5_5 - x4_4) := B_w (B_leR (B_eq (g10.1 27 1 rfl rfl) (show B 0 257 (F 27 1) from hI 27 1)) (B_sub b28 b7 (by decide +kernel) (by decide +kernel)) hq35) (by decide +kernel) (by decide +kernel)
          have q37 : (0) ≤ (F 27 1).toInt ∧ (F 27 1).toInt ≤ (257) := (show B 0 257 (F 27 1) from hI 27 1)
          have e38 : (T6 27 1).toInt = (F 27 1).toInt := (congrArg Int32.toInt (g10.1 27 1 rfl rfl)).trans rfl
          have e39 : (x5_5 - x4_4).toInt = ((x5_5).toInt - (x4_4).toInt) := (t_sub b28 b7 (by decide +kernel) (by decide +kernel)).trans (by rfl)
          have q40 : (0) ≤ (x5_5 - x4_4).toInt ∧ (x5_5 - x4_4).toInt ≤ (513) := (show B 0 513 (x5_5 - x4_4) from B_w b36 (by decide +kernel) (by decide +kernel))
          have i41 : (T6 27 1).toInt ≤ (x5_5 - x4_4).toInt := i_le hq35
          unfold b_Li_takeThings_70
          have g42 := agc_tr (agc_refl (fs := []) (rs := [54]) (F := F)) g10 (by decide +kernel) (by decide +kernel)
          have e43 : (x5_5 + 1).toInt = ((x5_5).toInt + 1) := (t_add b28 cqb_1_1_1 (by decide +kernel) (by decide +kernel)).trans (by rw [cqn_1])
          have q44 : (1) ≤ (x5_5 + 1).toInt ∧ (x5_5 + 1).toInt ≤ (514) := (show B 1 514 (x5_5 + 1) from B_w (B_add b28 cqb_1_1_1 (by decide +kernel) (by decide +kernel)) (by decide +kernel) (by decide +kernel))
          exact hR6 ⟨rfl, rfl, rfl, b7, (B_w (B_add b28 cqb_1_1_1 (by decide +kernel) (by decide +kernel)) (by decide +kernel) (by decide +kernel)), _, _, rfl, hI9, g42, (by show x4_4.toInt ≤ (x5_5 + 1).toInt; first | with_reducible assumption | omega)⟩ (by show (514 - (x5_5 + 1).toInt).toNat < (514 - x5_5.toInt).toNat; omega)
        · have hq45 := (nle_lt hc)
          have b46 : B (-514) 256 (x5_5 - x4_4) := B_w (B_ltL (B_sub b28 b7 (by decide +kernel) (by decide +kernel)) (B_eq (g10.1 27 1 rfl rfl) (show B 0 257 (F 27 1) from hI 27 1)) hq45) (by decide +kernel) (by decide +kernel)
          have e47 : (x5_5 - x4_4).toInt = ((x5_5).toInt - (x4_4).toInt) := (t_sub b28 b7 (by decide +kernel) (by decide +kernel)).trans (by rfl)
          have q48 : (-514) ≤ (x5_5 - x4_4).toInt ∧ (x5_5 - x4_4).toInt ≤ (256) := (show B (-514) 256 (x5_5 - x4_4) from B_w b46 (by decide +kernel) (by decide +kernel))
          have q49 : (0) ≤ (F 27 1).toInt ∧ (F 27 1).toInt ≤ (257) := (show B 0 257 (F 27 1) from hI 27 1)
          have e50 : (T6 27 1).toInt = (F 27 1).toInt := (congrArg Int32.toInt (g10.1 27 1 rfl rfl)).trans rfl
          have i51 : (x5_5 - x4_4).toInt < (T6 27 1).toInt := i_lt hq45
          refine ⟨(show ¬ ((28 : Nat) = NU) from by decide +kernel), ?_⟩
          refine ⟨(show c_cl UL 28 = 902 from cl_28), ?_⟩
          refine ⟨(show vp_in (x5_5 - x4_4) 257 from vp_om (x := x5_5 - x4_4) (by omega) (by omega)), ?_⟩
          have b52 : B 0 256 (x5_5 - x4_4) := ⟨by omega, by omega⟩
          refine ⟨(show c_cl UL 54 = 902 from cl_54), ?_⟩
          refine ⟨(show vp_in (T6 28 (x5_5 - x4_4).toNatClampNeg) 257 from vp_B (B_eq (congrFun (g10.2 28 rfl rfl) (x5_5 - x4_4).toNatClampNeg) (show B 0 256 (F 28 (x5_5 - x4_4).toNatClampNeg) from hI 28 (x5_5 - x4_4).toNatClampNeg)) (by decide +kernel) (by decide +kernel)), ?_⟩
          refine ⟨(show vp_in (T6 28 (x5_5 - x4_4).toNatClampNeg) 257 from vp_B (B_eq (congrFun (g10.2 28 rfl rfl) (x5_5 - x4_4).toNatClampNeg) (show B 0 256 (F 28 (x5_5 - x4_4).toNatClampNeg) from hI 28 (x5_5 - x4_4).toNatClampNeg)) (by decide +kernel) (by decide +kernel)), ?_⟩
          unfold b_Li_takeThings_70
          have hI53 := IMc_u (u := 54) (i := (T6 28 (x5_5 - x4_4).toNatClampNeg).toNatClampNeg) (v := (T6 54 (T6 28 (x5_5 - x4_4).toNatClampNeg).toNatClampNeg) + 1) hI9 (show B (-2147483648) 2147483647 ((T6 54 (T6 28 (x5_5 - x4_4).toNatClampNeg).toNatClampNeg) + 1) from (B_w (B_any _) (by decide +kernel) (by decide +kernel)))
          have g55 := agc_tr (agc_refl (fs := []) (rs := [54]) (F := F)) g10 (by decide +kernel) (by decide +kernel)
          have g54 := agc_r (u := 54) (w := upd (T6 54) (T6 28 (x5_5 - x4_4).toNatClampNeg).toNatClampNeg ((T6 54 (T6 28 (x5_5 - x4_4).toNatClampNeg).toNatClampNeg) + 1)) g55 rfl (by decide +kernel)
          have e56 : (x5_5 + 1).toInt = ((x5_5).toInt + 1) := (t_add b28 cqb_1_1_1 (by decide +kernel) (by decide +kernel)).trans (by rw [cqn_1])
          have q57 : (1) ≤ (x5_5 + 1).toInt ∧ (x5_5 + 1).toInt ≤ (514) := (show B 1 514 (x5_5 + 1) from B_w (B_add b28 cqb_1_1_1 (by decide +kernel) (by decide +kernel)) (by decide +kernel) (by decide +kernel))
          exact hR6 ⟨rfl, rfl, rfl, b7, (B_w (B_add b28 cqb_1_1_1 (by decide +kernel) (by decide +kernel)) (by decide +kernel) (by decide +kernel)), _, _, rfl, hI53, g54, (by show x4_4.toInt ≤ (x5_5 + 1).toInt; first | with_reducible assumption | omega)⟩ (by show (514 - (x5_5 + 1).toInt).toNat < (514 - x5_5.toInt).toNat; omega)
      · have b58 : B 1 1 (F 29 ((514 * x1) + x5_5).toNatClampNeg) := B_w (B_eq (Eq.symm (congrFun (g10.2 29 rfl rfl) ((514 * x1) + x5_5).toNatClampNeg)) (B_n0 (B_eq (congrFun (g10.2 29 rfl rfl) ((514 * x1) + x5_5).toNatClampNeg) (show B 0 1 (F 29 ((514 * x1) + x5_5).toNatClampNeg) from hI 29 ((514 * x1) + x5_5).toNatClampNeg)) hc)) (by decide +kernel) (by decide +kernel)
        unfold b_Li_takeThings_70
        have e59 : (x4_4 + 1).toInt = ((x4_4).toInt + 1) := (t_add b7 cqb_1_1_1 (by decide +kernel) (by decide +kernel)).trans (by rw [cqn_1])
        have q60 : (1) ≤ (x4_4 + 1).toInt ∧ (x4_4 + 1).toInt ≤ (515) := (show B 1 515 (x4_4 + 1) from B_w (B_add b7 cqb_1_1_1 (by decide +kernel) (by decide +kernel)) (by decide +kernel) (by decide +kernel))
        have g61 := agc_tr (agc_refl (fs := []) (rs := [54]) (F := F)) g10 (by decide +kernel) (by decide +kernel)
        have e62 : (x5_5 + 1).toInt = ((x5_5).toInt + 1) := (t_add b28 cqb_1_1_1 (by decide +kernel) (by decide +kernel)).trans (by rw [cqn_1])
        have q63 : (1) ≤ (x5_5 + 1).toInt ∧ (x5_5 + 1).toInt ≤ (514) := (show B 1 514 (x5_5 + 1) from B_w (B_add b28 cqb_1_1_1 (by decide +kernel) (by decide +kernel)) (by decide +kernel) (by decide +kernel))
        exact hR6 ⟨rfl, rfl, rfl, (show B 0 514 (x4_4 + 1) from ⟨by omega, by omega⟩), (B_w (B_add b28 cqb_1_1_1 (by decide +kernel) (by decide +kernel)) (by decide +kernel) (by decide +kernel)), _, _, rfl, hI9, g61, (by show (x4_4 + 1).toInt ≤ (x5_5 + 1).toInt; first | with_reducible assumption | omega)⟩ (by show (514 - (x5_5 + 1).toInt).toNat < (514 - x5_5.toInt).toNat; omega)
set_option maxRecDepth 20000 in
set_option maxHeartbeats 4000000 in
theorem h_Li_makeLine_u27_x353_b0 {a : Bool} {P : Nat → Nat → Nat} {x1 : Int32} {x2 : Int32} {F : cF} {L : cL} {K : Int32 → cs → Prop} (b_x1 : B 1 15 x1) (b_x2 : B 0 256 x2) (hI : IMc F) (hK : ∀ {v : Int32} {Z : cF} {LZ : cL}, B 0 513 v → IMc Z → agc [] [29, 31] F Z → K v (Z, LZ, PC a (!false) P)) : p_Li_makeLine UL 27 x1 x2 53 (F, L, PC a false P) K := by
  unfold p_Li_makeLine
  have q14 : (0) ≤ (F 27 1).toInt ∧ (F 27 1).toInt ≤ (257) := (show B 0 257 (F 27 1) from hI 27 1)
  have q16 : (0) ≤ (x2).toInt ∧ (x2).toInt ≤ (256) := (show B 0 256 (x2) from B_w b_x2 (by decide +kernel) (by decide +kernel))
  refine ⟨fun yx1 yx2 yx3 yx4 yx5 yx6 yS => x1 = yx1 ∧ x2 = yx2 ∧ (53 : Nat) = yx3 ∧ B 0 257 yx4 ∧ B 0 256 yx5 ∧ B 0 513 yx6 ∧ ∃ (T7 : cF) (LT7 : cL), yS = (T7, LT7, PC a false P) ∧ IMc T7 ∧ agc [] [29, 31] F T7 ∧ ((yx4.toInt + yx5.toInt) = yx6.toInt) ∧ (yx4.toInt ≤ (T7 27 1).toInt) ∧ (yx5.toInt ≤ yx2.toInt), fun yx1 yx2 yx3 yx4 yx5 yx6 yS => (513 - yx6.toInt).toNat, ⟨rfl, rfl, rfl, (B_w cqb_0_0_0 (by decide +kernel) (by decide +kernel)), (B_w cqb_0_0_0 (by decide +kernel) (by decide +kernel)), (B_w cqb_0_0_0 (by decide +kernel) (by decide +kernel)), _, _, rfl, hI, (agc_refl (fs := []) (rs := [29, 31]) (F := F)), (by show (0 + 0) = 0; first | with_reducible assumption | omega), (by show 0 ≤ (F 27 1).toInt; first | with_reducible assumption | omega), (by show 0 ≤ x2.toInt; first | with_reducible assumption | omega)⟩, fun x1_1 x2_2 x3_3 x4_4 x5_5 x6_6 ST7 hIv => ?_⟩
  obtain ⟨rfl, rfl, rfl, b8, b9, b10, T7, LT7, rfl, hI11, g12, r13, r15, r17⟩ := hIv
  suffices hs : ∀ (R9 : Int32 → Int32 → Nat → Int32 → Int32 → Int32 → cs → Prop), (∀ zx1 zx2 zx3 zx4 zx5 zx6 zS, (x1 = zx1 ∧ x2 = zx2 ∧ (53 : Nat) = zx3 ∧ B 0 257 zx4 ∧ B 0 256 zx5 ∧ B 0 513 zx6 ∧ ∃ (T7 : cF) (LT7 : cL), zS = (T7, LT7, PC a false P) ∧ IMc T7 ∧ agc [] [29, 31] F T7 ∧ ((zx4.toInt + zx5.toInt) = zx6.toInt) ∧ (zx4.toInt ≤ (T7 27 1).toInt) ∧ (zx5.toInt ≤ zx2.toInt)) → (513 - zx6.toInt).toNat < (513 - x6_6.toInt).toNat → R9 zx1 zx2 zx3 zx4 zx5 zx6 zS) → b_Li_makeLine_9 UL 27 x1 x2 53 x4_4 x5_5 x6_6 (T7, LT7, PC a false P) R9 K from hs _ (fun _ _ _ _ _ _ _ h1 h2 => ⟨h1, h2⟩)
  intro R9 hR90
  have hR9 := fun {zx1} {zx2} {zx3} {zx4} {zx5} {zx6} {zS} => hR90 zx1 zx2 zx3 zx4 zx5 zx6 zS
  have q18 : (0) ≤ (x4_4).toInt ∧ (x4_4).toInt ≤ (257) := (show B 0 257 (x4_4) from B_w b8 (by decide +kernel) (by decide +kernel))
  have q19 : (0) ≤ (x5_5).toInt ∧ (x5_5).toInt ≤ (256) := (show B 0 256 (x5_5) from B_w b9 (by decide +kernel) (by decide +kernel))
  have q20 : (0) ≤ (x6_6).toInt ∧ (x6_6).toInt ≤ (513) := (show B 0 513 (x6_6) from B_w b10 (by decide +kernel) (by decide +kernel))
  have q21 : (0) ≤ (F 27 1).toInt ∧ (F 27 1).toInt ≤ (257) := (show B 0 257 (F 27 1) from hI 27 1)
  have e22 : (T7 27 1).toInt = (F 27 1).toInt := (congrArg Int32.toInt (g12.1 27 1 rfl rfl)).trans rfl
  have q23 : (0) ≤ (x2).toInt ∧ (x2).toInt ≤ (256) := (show B 0 256 (x2) from B_w b_x2 (by decide +kernel) (by decide +kernel))
  unfold b_Li_makeLine_9
  refine ⟨fun hc => ?_, fun hc => ?_⟩
  · have hq24 := hc
    have e25 : ((T7 27 1) + x2).toInt = ((F 27 1).toInt + (x2).toInt) := (t_add (B_eq (g12.1 27 1 rfl rfl) (show B 0 257 (F 27 1) from hI 27 1)) b_x2 (by decide +kernel) (by decide +kernel)).trans (by rw [e22])
    have q26 : (0) ≤ ((T7 27 1) + x2).toInt ∧ ((T7 27 1) + x2).toInt ≤ (513) := (show B 0 513 ((T7 27 1) + x2) from B_w (B_add (B_eq (g12.1 27 1 rfl rfl) (show B 0 257 (F 27 1) from hI 27 1)) b_x2 (by decide +kernel) (by decide +kernel)) (by decide +kernel) (by decide +kernel))
    have i27 : ((T7 27 1) + x2).toInt ≤ (x6_6).toInt := i_le hq24
    refine ⟨(show ¬ ((30 : Nat) = NU) from by decide +kernel), ?_⟩
    refine ⟨(show ¬ ((31 : Nat) = NU) from by decide +kernel), ?_⟩
    refine ⟨(show ¬ ((31 : Nat) = NU) from by decide +kernel), ?_⟩
    refine ⟨(show ¬ ((30 : Nat) = NU) from by decide +kernel), ?_⟩
    have g28 := agc_tr (agc_refl (fs := []) (rs := [29, 31]) (F := F)) g12 (by decide +kernel) (by decide +kernel)
    rw [pc_swap]
    exact hK (B_w (B_add (B_eq (g12.1 27 1 rfl rfl) (show B 0 257 (F 27 1) from hI 27 1)) b_x2 (by decide +kernel) (by decide +kernel)) (by decide +kernel) (by decide +kernel)) hI11 g28
  · have hq29 := (nle_lt hc)
    have b30 : B 0 512 (x6_6) := B_w (B_ltL b10 (B_add (B_eq (g12.1 27 1 rfl rfl) (show B 0 257 (F 27 1) from hI 27 1)) b_x2 (by decide +kernel) (by decide +kernel)) hq29) (by decide +kernel) (by decide +kernel)
    have q31 : (0) ≤ (x6_6).toInt ∧ (x6_6).toInt ≤ (512) := (show B 0 512 (x6_6) from B_w b30 (by decide +kernel) (by decide +kernel))
    have b32 : B 1 513 ((T7 27 1) + x2) := B_w (B_ltR b10 (B_add (B_eq (g12.1 27 1 rfl rfl) (show B 0 257 (F 27 1) from hI 27 1)) b_x2 (by decide +kernel) (by decide +kernel)) hq29) (by decide +kernel) (by decide +kernel)
    have e33 : ((T7 27 1) + x2).toInt = ((F 27 1).toInt + (x2).toInt) := (t_add (B_eq (g12.1 27 1 rfl rfl) (show B 0 257 (F 27 1) from hI 27 1)) b_x2 (by decide +kernel) (by decide +kernel)).trans (by rw [e22])
    have q34 : (1) ≤ ((T7 27 1) + x2).toInt ∧ ((T7 27 1) + x2).toInt ≤ (513) := (show B 1 513 ((T7 27 1) + x2) from B_w b32 (by decide +kernel) (by decide +kernel))
    have i35 : (x6_6).toInt < ((T7 27 1) + x2).toInt := i_lt hq29
    refine ⟨fun hc => ?_, fun hc => ?_⟩
    · have hq36 := hc
      have i37 : (x2).toInt ≤ (x5_5).toInt := i_le hq36
      unfold b_Li_makeLine_51
      refine ⟨fun hc => ?_, fun hc => ?_⟩
      · have i38 : (x4_4).toInt = (T7 27 1).toInt := congrArg Int32.toInt hc
        unfold b_Li_makeLine_82
        unfold b_Li_makeLine_87
        refine ⟨(show ¬ ((29 : Nat) = NU) from by decide +kernel), ?_⟩
        refine ⟨(show c_cl UL 29 = 903 from cl_29), ?_⟩
        refine ⟨(show vp_in ((514 * x1) + x6_6) 8224 from vp_B (B_add (B_mul cqb_514_514_514 b_x1 (by decide +kernel) (by decide +kernel) (by decide +kernel)) b30 (by decide +kernel) (by decide +kernel)) (by decide +kernel) (by decide +kernel)), ?_⟩
        refine ⟨fun hc => ?_, fun hc => ?_⟩
        · exact (B_dis cqb_1_1_1 cqb_0_0_0 hc (by decide +kernel)).elim
        · have i39 : (1 : Int32).toInt ≠ (0 : Int32).toInt := i_ne hc
          have n40 : (1 : Int32).toInt = 1 := cqn_1
          have n41 : (0 : Int32).toInt = 0 := cqn_0
          refine ⟨(show ¬ ((31 : Nat) = NU) from by decide +kernel), ?_⟩
          refine ⟨(show c_cl UL 31 = 902 from cl_31), ?_⟩
          refine ⟨(show vp_in (x6_6) 514 from vp_B b30 (by decide +kernel) (by decide +kernel)), ?_⟩
          unfold b_Li_makeLine_143
          have e42 : (x5_5 + 1).toInt = ((x5_5).toInt + 1) := (t_add b9 cqb_1_1_1 (by decide +kernel) (by decide +kernel)).trans (by rw [cqn_1])
          have q43 : (1) ≤ (x5_5 + 1).toInt ∧ (x5_5 + 1).toInt ≤ (257) := (show B 1 257 (x5_5 + 1) from B_w (B_add b9 cqb_1_1_1 (by decide +kernel) (by decide +kernel)) (by decide +kernel) (by decide +kernel))
          have hI44 := IMc_u (u := 29) (i := ((514 * x1) + x6_6).toNatClampNeg) (v := vp_nar .boolean 1) hI11 (show B 0 1 (vp_nar .boolean 1) from (B_w (show B 1 1 (vp_nar .boolean 1) from ⟨by decide +kernel, by decide +kernel⟩) (by decide +kernel) (by decide +kernel)))
          have hI45 := IMc_u (u := 31) (i := x6_6.toNatClampNeg) (v := 0) hI44 (show B (-2147483648) 2147483647 (0) from (B_w cqb_0_0_0 (by decide +kernel) (by decide +kernel)))
          have g48 := agc_tr (agc_refl (fs := []) (rs := [29, 31]) (F := F)) g12 (by decide +kernel) (by decide +kernel)
          have g47 := agc_r (u := 29) (w := upd (T7 29) ((514 * x1) + x6_6).toNatClampNeg (vp_nar .boolean 1)) g48 rfl (by decide +kernel)
          have g46 := agc_r (u := 31) (w := upd (T7 31) x6_6.toNatClampNeg 0) g47 rfl (by decide +kernel)
          have e49 : (x6_6 + 1).toInt = ((x6_6).toInt + 1) := (t_add b30 cqb_1_1_1 (by decide +kernel) (by decide +kernel)).trans (by rw [cqn_1])
          have q50 : (1) ≤ (x6_6 + 1).toInt ∧ (x6_6 + 1).toInt ≤ (513) := (show B 1 513 (x6_6 + 1) from B_w (B_add b30 cqb_1_1_1 (by decide +kernel) (by decide +kernel)) (by decide +kernel) (by decide +kernel))
          exact hR9 ⟨rfl, rfl, rfl, b8, (show B 0 256 (x5_5 + 1) from ⟨by omega, by omega⟩), (B_w (B_add b30 cqb_1_1_1 (by decide +kernel) (by decide +kernel)) (by decide +kernel) (by decide +kernel)), _, _, rfl, hI45, g46, (by show (x4_4.toInt + (x5_5 + 1).toInt) = (x6_6 + 1).toInt; first | with_reducible assumption | omega), (by show x4_4.toInt ≤ (T7 27 1).toInt; first | with_reducible assumption | omega), (by show (x5_5 + 1).toInt ≤ x2.toInt; first | with_reducible assumption | omega)⟩ (by show (513 - (x6_6 + 1).toInt).toNat < (513 - x6_6.toInt).toNat; omega)
      · have i51 : (x4_4).toInt ≠ (T7 27 1).toInt := i_ne hc
        refine ⟨fun hc => ?_, fun hc => ?_⟩
        · have hq52 := hc
          have i53 : (x2).toInt ≤ (x5_5).toInt := i_le hq52
          unfold b_Li_makeLine_86
          unfold b_Li_makeLine_87
          refine ⟨(show ¬ ((29 : Nat) = NU) from by decide +kernel), ?_⟩
          refine ⟨(show c_cl UL 29 = 903 from cl_29), ?_⟩
          refine ⟨(show vp_in ((514 * x1) + x6_6) 8224 from vp_B (B_add (B_mul cqb_514_514_514 b_x1 (by decide +kernel) (by decide +kernel) (by decide +kernel)) b30 (by decide +kernel) (by decide +kernel)) (by decide +kernel) (by decide +kernel)), ?_⟩
          refine ⟨fun hc => ?_, fun hc => ?_⟩
          · have i54 : (0 : Int32).toInt = (0 : Int32).toInt := congrArg Int32.toInt hc
            have n55 : (0 : Int32).toInt = 0 := cqn_0
            have n56 : (0 : Int32).toInt = 0 := cqn_0
            refine ⟨(show ¬ ((31 : Nat) = NU) from by decide +kernel), ?_⟩
            refine ⟨(show ¬ ((28 : Nat) = NU) from by decide +kernel), ?_⟩
            refine ⟨(show c_cl UL 28 = 902 from cl_28), ?_⟩
            refine ⟨(show vp_in (x4_4) 257 from vp_om (x := x4_4) (by omega) (by omega)), ?_⟩
            have b57 : B 0 256 (x4_4) := ⟨by omega, by omega⟩
            refine ⟨(show c_cl UL 53 = 902 from cl_53), ?_⟩
            refine ⟨(show vp_in (T7 28 x4_4.toNatClampNeg) 257 from vp_B (B_eq (congrFun (g12.2 28 rfl rfl) x4_4.toNatClampNeg) (show B 0 256 (F 28 x4_4.toNatClampNeg) from hI 28 x4_4.toNatClampNeg)) (by decide +kernel) (by decide +kernel)), ?_⟩
            refine ⟨(show c_cl UL 31 = 902 from cl_31), ?_⟩
            refine ⟨(show vp_in (x6_6) 514 from vp_B b30 (by decide +kernel) (by decide +kernel)), ?_⟩
            unfold b_Li_makeLine_143
            have hI58 := IMc_u (u := 29) (i := ((514 * x1) + x6_6).toNatClampNeg) (v := vp_nar .boolean 0) hI11 (show B 0 1 (vp_nar .boolean 0) from (B_w (show B 0 0 (vp_nar .boolean 0) from ⟨by decide +kernel, by decide +kernel⟩) (by decide +kernel) (by decide +kernel)))
            have hI59 := IMc_u (u := 31) (i := x6_6.toNatClampNeg) (v := T7 53 (T7 28 x4_4.toNatClampNeg).toNatClampNeg) hI58 (show B (-2147483648) 2147483647 (T7 53 (T7 28 x4_4.toNatClampNeg).toNatClampNeg) from (B_w (B_eq (congrFun (g12.2 53 rfl rfl) (T7 28 x4_4.toNatClampNeg).toNatClampNeg) (B_any _)) (by decide +kernel) (by decide +kernel)))
            have g62 := agc_tr (agc_refl (fs := []) (rs := [29, 31]) (F := F)) g12 (by decide +kernel) (by decide +kernel)
            have g61 := agc_r (u := 29) (w := upd (T7 29) ((514 * x1) + x6_6).toNatClampNeg (vp_nar .boolean 0)) g62 rfl (by decide +kernel)
            have g60 := agc_r (u := 31) (w := upd (T7 31) x6_6.toNatClampNeg (T7 53 (T7 28 x4_4.toNatClampNeg).toNatClampNeg)) g61 rfl (by decide +kernel)
            have e63 : (x4_4 + 1).toInt = ((x4_4).toInt + 1) := (t_add b57 cqb_1_1_1 (by decide +kernel) (by decide +kernel)).trans (by rw [cqn_1])
            have q64 : (1) ≤ (x4_4 + 1).toInt ∧ (x4_4 + 1).toInt ≤ (257) := (show B 1 257 (x4_4 + 1) from B_w (B_add b57 cqb_1_1_1 (by decide +kernel) (by decide +kernel)) (by decide +kernel) (by decide +kernel))
            have e65 : (x6_6 + 1).toInt = ((x6_6).toInt + 1) := (t_add b30 cqb_1_1_1 (by decide +kernel) (by decide +kernel)).trans (by rw [cqn_1])
            have q66 : (1) ≤ (x6_6 + 1).toInt ∧ (x6_6 + 1).toInt ≤ (513) := (show B 1 513 (x6_6 + 1) from B_w (B_add b30 cqb_1_1_1 (by decide +kernel) (by decide +kernel)) (by decide +kernel) (by decide +kernel))
            exact hR9 ⟨rfl, rfl, rfl, (B_w (B_add b57 cqb_1_1_1 (by decide +kernel) (by decide +kernel)) (by decide +kernel) (by decide +kernel)), b9, (B_w (B_add b30 cqb_1_1_1 (by decide +kernel) (by decide +kernel)) (by decide +kernel) (by decide +kernel)), _, _, rfl, hI59, g60, (by show ((x4_4 + 1).toInt + x5_5.toInt) = (x6_6 + 1).toInt; first | with_reducible assumption | omega), (by show (x4_4 + 1).toInt ≤ (T7 27 1).toInt; first | with_reducible assumption | omega), (by show x5_5.toInt ≤ x2.toInt; first | with_reducible assumption | omega)⟩ (by show (513 - (x6_6 + 1).toInt).toNat < (513 - x6_6.toInt).toNat; omega)
          · exact (hc (B_z cqb_0_0_0)).elim
        · have hq67 := (nle_lt hc)
          have b68 : B 0 255 (x5_5) := B_w (B_ltL b9 b_x2 hq67) (by decide +kernel) (by decide +kernel)
          have q69 : (0) ≤ (x5_5).toInt ∧ (x5_5).toInt ≤ (255) := (show B 0 255 (x5_5) from B_w b68 (by decide +kernel) (by decide +kernel))
          have b70 : B 1 256 (x2) := B_w (B_ltR b9 b_x2 hq67) (by decide +kernel) (by decide +kernel)
          have q71 : (1) ≤ (x2).toInt ∧ (x2).toInt ≤ (256) := (show B 1 256 (x2) from B_w b70 (by decide +kernel) (by decide +kernel))
          have i72 : (x5_5).toInt < (x2).toInt := i_lt hq67
          refine ⟨(show ¬ ((28 : Nat) = NU) from by decide +kernel), ?_⟩
          refine ⟨(show c_cl UL 28 = 902 from cl_28), ?_⟩
          refine ⟨(show vp_in (x4_4) 257 from vp_om (x := x4_4) (by omega) (by omega)), ?_⟩
          have b73 : B 0 256 (x4_4) := ⟨by omega, by omega⟩
          refine ⟨(show c_cl UL 53 = 902 from cl_53), ?_⟩
          refine ⟨(show vp_in (T7 28 x4_4.toNatClampNeg) 257 from vp_B (B_eq (congrFun (g12.2 28 rfl rfl) x4_4.toNatClampNeg) (show B 0 256 (F 28 x4_4.toNatClampNeg) from hI 28 x4_4.toNatClampNeg)) (by decide +kernel) (by decide +kernel)), ?_⟩
          refine ⟨fun hc => ?_, fun hc => ?_⟩
          · have hq74 := hc
            have b75 : B (-2147483648) 0 (F 53 (T7 28 x4_4.toNatClampNeg).toNatClampNeg) := B_w (B_eq (Eq.symm (congrFun (g12.2 53 rfl rfl) (T7 28 x4_4.toNatClampNeg).toNatClampNeg)) (B_leL (B_eq (congrFun (g12.2 53 rfl rfl) (T7 28 x4_4.toNatClampNeg).toNatClampNeg) (B_any _)) cqb_0_0_0 hq74)) (by decide +kernel) (by decide +kernel)
            unfold b_Li_makeLine_86
            unfold b_Li_makeLine_87
            refine ⟨(show ¬ ((29 : Nat) = NU) from by decide +kernel), ?_⟩
            refine ⟨(show c_cl UL 29 = 903 from cl_29), ?_⟩
            refine ⟨(show vp_in ((514 * x1) + x6_6) 8224 from vp_B (B_add (B_mul cqb_514_514_514 b_x1 (by decide +kernel) (by decide +kernel) (by decide +kernel)) b30 (by decide +kernel) (by decide +kernel)) (by decide +kernel) (by decide +kernel)), ?_⟩
            refine ⟨fun hc => ?_, fun hc => ?_⟩
            · have i76 : (0 : Int32).toInt = (0 : Int32).toInt := congrArg Int32.toInt hc
              have n77 : (0 : Int32).toInt = 0 := cqn_0
              have n78 : (0 : Int32).toInt = 0 := cqn_0
              refine ⟨(show ¬ ((31 : Nat) = NU) from by decide +kernel), ?_⟩
              refine ⟨(show ¬ ((28 : Nat) = NU) from by decide +kernel), ?_⟩
              refine ⟨(show c_cl UL 28 = 902 from cl_28), ?_⟩
              refine ⟨(show vp_in (x4_4) 257 from vp_B b73 (by decide +kernel) (by decide +kernel)), ?_⟩
              refine ⟨(show c_cl UL 53 = 902 from cl_53), ?_⟩
              refine ⟨(show vp_in (T7 28 x4_4.toNatClampNeg) 257 from vp_B (B_eq (congrFun (g12.2 28 rfl rfl) x4_4.toNatClampNeg) (show B 0 256 (F 28 x4_4.toNatClampNeg) from hI 28 x4_4.toNatClampNeg)) (by decide +kernel) (by decide +kernel)), ?_⟩
              refine ⟨(show c_cl UL 31 = 902 from cl_31), ?_⟩
              refine ⟨(show vp_in (x6_6) 514 from vp_B b30 (by decide +kernel) (by decide +kernel)), ?_⟩
              unfold b_Li_makeLine_143
              have hI79 := IMc_u (u := 29) (i := ((514 * x1) + x6_6).toNatClampNeg) (v := vp_nar .boolean 0) hI11 (show B 0 1 (vp_nar .boolean 0) from (B_w (show B 0 0 (vp_nar .boolean 0) from ⟨by decide +kernel, by decide +kernel⟩) (by decide +kernel) (by decide +kernel)))
              have hI80 := IMc_u (u := 31) (i := x6_6.toNatClampNeg) (v := T7 53 (T7 28 x4_4.toNatClampNeg).toNatClampNeg) hI79 (show B (-2147483648) 2147483647 (T7 53 (T7 28 x4_4.toNatClampNeg).toNatClampNeg) from (B_w (B_eq (congrFun (g12.2 53 rfl rfl) (T7 28 x4_4.toNatClampNeg).toNatClampNeg) b75) (by decide +kernel) (by decide +kernel)))
              have g83 := agc_tr (agc_refl (fs := []) (rs := [29, 31]) (F := F)) g12 (by decide +kernel) (by decide +kernel)
              have g82 := agc_r (u := 29) (w := upd (T7 29) ((514 * x1) + x6_6).toNatClampNeg (vp_nar .boolean 0)) g83 rfl (by decide +kernel)
              have g81 := agc_r (u := 31) (w := upd (T7 31) x6_6.toNatClampNeg (T7 53 (T7 28 x4_4.toNatClampNeg).toNatClampNeg)) g82 rfl (by decide +kernel)
              have e84 : (x4_4 + 1).toInt = ((x4_4).toInt + 1) := (t_add b73 cqb_1_1_1 (by decide +kernel) (by decide +kernel)).trans (by rw [cqn_1])
              have q85 : (1) ≤ (x4_4 + 1).toInt ∧ (x4_4 + 1).toInt ≤ (257) := (show B 1 257 (x4_4 + 1) from B_w (B_add b73 cqb_1_1_1 (by decide +kernel) (by decide +kernel)) (by decide +kernel) (by decide +kernel))
              have e86 : (x6_6 + 1).toInt = ((x6_6).toInt + 1) := (t_add b30 cqb_1_1_1 (by decide +kernel) (by decide +kernel)).trans (by rw [cqn_1])
              have q87 : (1) ≤ (x6_6 + 1).toInt ∧ (x6_6 + 1).toInt ≤ (513) := (show B 1 513 (x6_6 + 1) from B_w (B_add b30 cqb_1_1_1 (by decide +kernel) (by decide +kernel)) (by decide +kernel) (by decide +kernel))
              exact hR9 ⟨rfl, rfl, rfl, (B_w (B_add b73 cqb_1_1_1 (by decide +kernel) (by decide +kernel)) (by decide +kernel) (by decide +kernel)), (B_w b68 (by decide +kernel) (by decide +kernel)), (B_w (B_add b30 cqb_1_1_1 (by decide +kernel) (by decide +kernel)) (by decide +kernel) (by decide +kernel)), _, _, rfl, hI80, g81, (by show ((x4_4 + 1).toInt + x5_5.toInt) = (x6_6 + 1).toInt; first | with_reducible assumption | omega), (by show (x4_4 + 1).toInt ≤ (T7 27 1).toInt; first | with_reducible assumption | omega), (by show x5_5.toInt ≤ x2.toInt; first | with_reducible assumption | omega)⟩ (by show (513 - (x6_6 + 1).toInt).toNat < (513 - x6_6.toInt).toNat; omega)
            · exact (hc (B_z cqb_0_0_0)).elim
          · have hq88 := (nle_lt hc)
            have b89 : B 1 2147483647 (F 53 (T7 28 x4_4.toNatClampNeg).toNatClampNeg) := B_w (B_eq (Eq.symm (congrFun (g12.2 53 rfl rfl) (T7 28 x4_4.toNatClampNeg).toNatClampNeg)) (B_ltR cqb_0_0_0 (B_eq (congrFun (g12.2 53 rfl rfl) (T7 28 x4_4.toNatClampNeg).toNatClampNeg) (B_any _)) hq88)) (by decide +kernel) (by decide +kernel)
            unfold b_Li_makeLine_82
            unfold b_Li_makeLine_87
            refine ⟨(show ¬ ((29 : Nat) = NU) from by decide +kernel), ?_⟩
            refine ⟨(show c_cl UL 29 = 903 from cl_29), ?_⟩
            refine ⟨(show vp_in ((514 * x1) + x6_6) 8224 from vp_B (B_add (B_mul cqb_514_514_514 b_x1 (by decide +kernel) (by decide +kernel) (by decide +kernel)) b30 (by decide +kernel) (by decide +kernel)) (by decide +kernel) (by decide +kernel)), ?_⟩
            refine ⟨fun hc => ?_, fun hc => ?_⟩
            · exact (B_dis cqb_1_1_1 cqb_0_0_0 hc (by decide +kernel)).elim
            · have i90 : (1 : Int32).toInt ≠ (0 : Int32).toInt := i_ne hc
              have n91 : (1 : Int32).toInt = 1 := cqn_1
              have n92 : (0 : Int32).toInt = 0 := cqn_0
              refine ⟨(show ¬ ((31 : Nat) = NU) from by decide +kernel), ?_⟩
              refine ⟨(show c_cl UL 31 = 902 from cl_31), ?_⟩
              refine ⟨(show vp_in (x6_6) 514 from vp_B b30 (by decide +kernel) (by decide +kernel)), ?_⟩
              unfold b_Li_makeLine_143
              have hI93 := IMc_u (u := 29) (i := ((514 * x1) + x6_6).toNatClampNeg) (v := vp_nar .boolean 1) hI11 (show B 0 1 (vp_nar .boolean 1) from (B_w (show B 1 1 (vp_nar .boolean 1) from ⟨by decide +kernel, by decide +kernel⟩) (by decide +kernel) (by decide +kernel)))
              have hI94 := IMc_u (u := 31) (i := x6_6.toNatClampNeg) (v := 0) hI93 (show B (-2147483648) 2147483647 (0) from (B_w cqb_0_0_0 (by decide +kernel) (by decide +kernel)))
              have g97 := agc_tr (agc_refl (fs := []) (rs := [29, 31]) (F := F)) g12 (by decide +kernel) (by decide +kernel)
              have g96 := agc_r (u := 29) (w := upd (T7 29) ((514 * x1) + x6_6).toNatClampNeg (vp_nar .boolean 1)) g97 rfl (by decide +kernel)
              have g95 := agc_r (u := 31) (w := upd (T7 31) x6_6.toNatClampNeg 0) g96 rfl (by decide +kernel)
              have e98 : (x5_5 + 1).toInt = ((x5_5).toInt + 1) := (t_add b68 cqb_1_1_1 (by decide +kernel) (by decide +kernel)).trans (by rw [cqn_1])
              have q99 : (1) ≤ (x5_5 + 1).toInt ∧ (x5_5 + 1).toInt ≤ (256) := (show B 1 256 (x5_5 + 1) from B_w (B_add b68 cqb_1_1_1 (by decide +kernel) (by decide +kernel)) (by decide +kernel) (by decide +kernel))
              have e100 : (x6_6 + 1).toInt = ((x6_6).toInt + 1) := (t_add b30 cqb_1_1_1 (by decide +kernel) (by decide +kernel)).trans (by rw [cqn_1])
              have q101 : (1) ≤ (x6_6 + 1).toInt ∧ (x6_6 + 1).toInt ≤ (513) := (show B 1 513 (x6_6 + 1) from B_w (B_add b30 cqb_1_1_1 (by decide +kernel) (by decide +kernel)) (by decide +kernel) (by decide +kernel))
              exact hR9 ⟨rfl, rfl, rfl, (B_w b73 (by decide +kernel) (by decide +kernel)), (B_w (B_add b68 cqb_1_1_1 (by decide +kernel) (by decide +kernel)) (by decide +kernel) (by decide +kernel)), (B_w (B_add b30 cqb_1_1_1 (by decide +kernel) (by decide +kernel)) (by decide +kernel) (by decide +kernel)), _, _, rfl, hI94, g95, (by show (x4_4.toInt + (x5_5 + 1).toInt) = (x6_6 + 1).toInt; first | with_reducible assumption | omega), (by show x4_4.toInt ≤ (T7 27 1).toInt; first | with_reducible assumption | omega), (by show (x5_5 + 1).toInt ≤ x2.toInt; first | with_reducible assumption | omega)⟩ (by show (513 - (x6_6 + 1).toInt).toNat < (513 - x6_6.toInt).toNat; omega)
    · have hq102 := (nle_lt hc)
      have b103 : B 0 255 (x5_5) := B_w (B_ltL b9 b_x2 hq102) (by decide +kernel) (by decide +kernel)
      have q104 : (0) ≤ (x5_5).toInt ∧ (x5_5).toInt ≤ (255) := (show B 0 255 (x5_5) from B_w b103 (by decide +kernel) (by decide +kernel))
      have b105 : B 1 256 (x2) := B_w (B_ltR b9 b_x2 hq102) (by decide +kernel) (by decide +kernel)
      have q106 : (1) ≤ (x2).toInt ∧ (x2).toInt ≤ (256) := (show B 1 256 (x2) from B_w b105 (by decide +kernel) (by decide +kernel))
      have i107 : (x5_5).toInt < (x2).toInt := i_lt hq102
      refine ⟨(show ¬ ((30 : Nat) = NU) from by decide +kernel), ?_⟩
      refine ⟨(show c_cl UL 30 = 902 from cl_30), ?_⟩
      refine ⟨(show vp_in (2 * x5_5) 514 from vp_B (B_mul cqb_2_2_2 b103 (by decide +kernel) (by decide +kernel) (by decide +kernel)) (by decide +kernel) (by decide +kernel)), ?_⟩
      refine ⟨(show ¬ ((30 : Nat) = NU) from by decide +kernel), ?_⟩
      refine ⟨(show vp_in ((2 * x5_5) + 1) 514 from vp_B (B_add (B_mul cqb_2_2_2 b103 (by decide +kernel) (by decide +kernel) (by decide +kernel)) cqb_1_1_1 (by decide +kernel) (by decide +kernel)) (by decide +kernel) (by decide +kernel)), ?_⟩
      unfold b_Li_makeLine_51
      refine ⟨fun hc => ?_, fun hc => ?_⟩
      · have i108 : (x4_4).toInt = (T7 27 1).toInt := congrArg Int32.toInt hc
        unfold b_Li_makeLine_82
        unfold b_Li_makeLine_87
        refine ⟨(show ¬ ((29 : Nat) = NU) from by decide +kernel), ?_⟩
        refine ⟨(show c_cl UL 29 = 903 from cl_29), ?_⟩
        refine ⟨(show vp_in ((514 * x1) + x6_6) 8224 from vp_B (B_add (B_mul cqb_514_514_514 b_x1 (by decide +kernel) (by decide +kernel) (by decide +kernel)) b30 (by decide +kernel) (by decide +kernel)) (by decide +kernel) (by decide +kernel)), ?_⟩
        refine ⟨fun hc => ?_, fun hc => ?_⟩
        · exact (B_dis cqb_1_1_1 cqb_0_0_0 hc (by decide +kernel)).elim
        · have i109 : (1 : Int32).toInt ≠ (0 : Int32).toInt := i_ne hc
          have n110 : (1 : Int32).toInt = 1 := cqn_1
          have n111 : (0 : Int32).toInt = 0 := cqn_0
          refine ⟨(show ¬ ((31 : Nat) = NU) from by decide +kernel), ?_⟩
          refine ⟨(show c_cl UL 31 = 902 from cl_31), ?_⟩
          refine ⟨(show vp_in (x6_6) 514 from vp_B b30 (by decide +kernel) (by decide +kernel)), ?_⟩
          unfold b_Li_makeLine_143
          have hI112 := IMc_u (u := 29) (i := ((514 * x1) + x6_6).toNatClampNeg) (v := vp_nar .boolean 1) hI11 (show B 0 1 (vp_nar .boolean 1) from (B_w (show B 1 1 (vp_nar .boolean 1) from ⟨by decide +kernel, by decide +kernel⟩) (by decide +kernel) (by decide +kernel)))
          have hI113 := IMc_u (u := 31) (i := x6_6.toNatClampNeg) (v := (T7 30 (2 * x5_5).toNatClampNeg) + (T7 30 ((2 * x5_5) + 1).toNatClampNeg)) hI112 (show B (-2147483648) 2147483647 ((T7 30 (2 * x5_5).toNatClampNeg) + (T7 30 ((2 * x5_5) + 1).toNatClampNeg)) from (B_w (B_any _) (by decide +kernel) (by decide +kernel)))
          have g116 := agc_tr (agc_refl (fs := []) (rs := [29, 31]) (F := F)) g12 (by decide +kernel) (by decide +kernel)
          have g115 := agc_r (u := 29) (w := upd (T7 29) ((514 * x1) + x6_6).toNatClampNeg (vp_nar .boolean 1)) g116 rfl (by decide +kernel)
          have g114 := agc_r (u := 31) (w := upd (T7 31) x6_6.toNatClampNeg ((T7 30 (2 * x5_5).toNatClampNeg) + (T7 30 ((2 * x5_5) + 1).toNatClampNeg))) g115 rfl (by decide +kernel)
          have e117 : (x5_5 + 1).toInt = ((x5_5).toInt + 1) := (t_add b103 cqb_1_1_1 (by decide +kernel) (by decide +kernel)).trans (by rw [cqn_1])
          have q118 : (1) ≤ (x5_5 + 1).toInt ∧ (x5_5 + 1).toInt ≤ (256) := (show B 1 256 (x5_5 + 1) from B_w (B_add b103 cqb_1_1_1 (by decide +kernel) (by decide +kernel)) (by decide +kernel) (by decide +kernel))
          have e119 : (x6_6 + 1).toInt = ((x6_6).toInt + 1) := (t_add b30 cqb_1_1_1 (by decide +kernel) (by decide +kernel)).trans (by rw [cqn_1])
          have q120 : (1) ≤ (x6_6 + 1).toInt ∧ (x6_6 + 1).toInt ≤ (513) := (show B 1 513 (x6_6 + 1) from B_w (B_add b30 cqb_1_1_1 (by decide +kernel) (by decide +kernel)) (by decide +kernel) (by decide +kernel))
          exact hR9 ⟨rfl, rfl, rfl, b8, (B_w (B_add b103 cqb_1_1_1 (by decide +kernel) (by decide +kernel)) (by decide +kernel) (by decide +kernel)), (B_w (B_add b30 cqb_1_1_1 (by decide +kernel) (by decide +kernel)) (by decide +kernel) (by decide +kernel)), _, _, rfl, hI113, g114, (by show (x4_4.toInt + (x5_5 + 1).toInt) = (x6_6 + 1).toInt; first | with_reducible assumption | omega), (by show x4_4.toInt ≤ (T7 27 1).toInt; first | with_reducible assumption | omega), (by show (x5_5 + 1).toInt ≤ x2.toInt; first | with_reducible assumption | omega)⟩ (by show (513 - (x6_6 + 1).toInt).toNat < (513 - x6_6.toInt).toNat; omega)
      · have i121 : (x4_4).toInt ≠ (T7 27 1).toInt := i_ne hc
        refine ⟨fun hc => ?_, fun hc => ?_⟩
        · have hq122 := hc
          have b123 : B 1 255 (x2) := B_w (B_leL b105 b103 hq122) (by decide +kernel) (by decide +kernel)
          have q124 : (1) ≤ (x2).toInt ∧ (x2).toInt ≤ (255) := (show B 1 255 (x2) from B_w b123 (by decide +kernel) (by decide +kernel))
          have b125 : B 1 255 (x5_5) := B_w (B_leR b105 b103 hq122) (by decide +kernel) (by decide +kernel)
          have q126 : (1) ≤ (x5_5).toInt ∧ (x5_5).toInt ≤ (255) := (show B 1 255 (x5_5) from B_w b125 (by decide +kernel) (by decide +kernel))
          have i127 : (x2).toInt ≤ (x5_5).toInt := i_le hq122
          unfold b_Li_makeLine_86
          unfold b_Li_makeLine_87
          refine ⟨(show ¬ ((29 : Nat) = NU) from by decide +kernel), ?_⟩
          refine ⟨(show c_cl UL 29 = 903 from cl_29), ?_⟩
          refine ⟨(show vp_in ((514 * x1) + x6_6) 8224 from vp_B (B_add (B_mul cqb_514_514_514 b_x1 (by decide +kernel) (by decide +kernel) (by decide +kernel)) b30 (by decide +kernel) (by decide +kernel)) (by decide +kernel) (by decide +kernel)), ?_⟩
          refine ⟨fun hc => ?_, fun hc => ?_⟩
          · have i128 : (0 : Int32).toInt = (0 : Int32).toInt := congrArg Int32.toInt hc
            have n129 : (0 : Int32).toInt = 0 := cqn_0
            have n130 : (0 : Int32).toInt = 0 := cqn_0
            refine ⟨(show ¬ ((31 : Nat) = NU) from by decide +kernel), ?_⟩
            refine ⟨(show ¬ ((28 : Nat) = NU) from by decide +kernel), ?_⟩
            refine ⟨(show c_cl UL 28 = 902 from cl_28), ?_⟩
            refine ⟨(show vp_in (x4_4) 257 from vp_om (x := x4_4) (by omega) (by omega)), ?_⟩
            have b131 : B 0 256 (x4_4) := ⟨by omega, by omega⟩
            refine ⟨(show c_cl UL 53 = 902 from cl_53), ?_⟩
            refine ⟨(show vp_in (T7 28 x4_4.toNatClampNeg) 257 from vp_B (B_eq (congrFun (g12.2 28 rfl rfl) x4_4.toNatClampNeg) (show B 0 256 (F 28 x4_4.toNatClampNeg) from hI 28 x4_4.toNatClampNeg)) (by decide +kernel) (by decide +kernel)), ?_⟩
            refine ⟨(show c_cl UL 31 = 902 from cl_31), ?_⟩
            refine ⟨(show vp_in (x6_6) 514 from vp_B b30 (by decide +kernel) (by decide +kernel)), ?_⟩
            unfold b_Li_makeLine_143
            have hI132 := IMc_u (u := 29) (i := ((514 * x1) + x6_6).toNatClampNeg) (v := vp_nar .boolean 0) hI11 (show B 0 1 (vp_nar .boolean 0) from (B_w (show B 0 0 (vp_nar .boolean 0) from ⟨by decide +kernel, by decide +kernel⟩) (by decide +kernel) (by decide +kernel)))
            have hI133 := IMc_u (u := 31) (i := x6_6.toNatClampNeg) (v := T7 53 (T7 28 x4_4.toNatClampNeg).toNatClampNeg) hI132 (show B (-2147483648) 2147483647 (T7 53 (T7 28 x4_4.toNatClampNeg).toNatClampNeg) from (B_w (B_eq (congrFun (g12.2 53 rfl rfl) (T7 28 x4_4.toNatClampNeg).toNatClampNeg) (B_any _)) (by decide +kernel) (by decide +kernel)))
            have g136 := agc_tr (agc_refl (fs := []) (rs := [29, 31]) (F := F)) g12 (by decide +kernel) (by decide +kernel)
            have g135 := agc_r (u := 29) (w := upd (T7 29) ((514 * x1) + x6_6).toNatClampNeg (vp_nar .boolean 0)) g136 rfl (by decide +kernel)
            have g134 := agc_r (u := 31) (w := upd (T7 31) x6_6.toNatClampNeg (T7 53 (T7 28 x4_4.toNatClampNeg).toNatClampNeg)) g135 rfl (by decide +kernel)
            have e137 : (x4_4 + 1).toInt = ((x4_4).toInt + 1) := (t_add b131 cqb_1_1_1 (by decide +kernel) (by decide +kernel)).trans (by rw [cqn_1])
            have q138 : (1) ≤ (x4_4 + 1).toInt ∧ (x4_4 + 1).toInt ≤ (257) := (show B 1 257 (x4_4 + 1) from B_w (B_add b131 cqb_1_1_1 (by decide +kernel) (by decide +kernel)) (by decide +kernel) (by decide +kernel))
            have e139 : (x6_6 + 1).toInt = ((x6_6).toInt + 1) := (t_add b30 cqb_1_1_1 (by decide +kernel) (by decide +kernel)).trans (by rw [cqn_1])
            have q140 : (1) ≤ (x6_6 + 1).toInt ∧ (x6_6 + 1).toInt ≤ (513) := (show B 1 513 (x6_6 + 1) from B_w (B_add b30 cqb_1_1_1 (by decide +kernel) (by decide +kernel)) (by decide +kernel) (by decide +kernel))
            exact hR9 ⟨rfl, rfl, rfl, (B_w (B_add b131 cqb_1_1_1 (by decide +kernel) (by decide +kernel)) (by decide +kernel) (by decide +kernel)), (B_w b125 (by decide +kernel) (by decide +kernel)), (B_w (B_add b30 cqb_1_1_1 (by decide +kernel) (by decide +kernel)) (by decide +kernel) (by decide +kernel)), _, _, rfl, hI133, g134, (by show ((x4_4 + 1).toInt + x5_5.toInt) = (x6_6 + 1).toInt; first | with_reducible assumption | omega), (by show (x4_4 + 1).toInt ≤ (T7 27 1).toInt; first | with_reducible assumption | omega), (by show x5_5.toInt ≤ x2.toInt; first | with_reducible assumption | omega)⟩ (by show (513 - (x6_6 + 1).toInt).toNat < (513 - x6_6.toInt).toNat; omega)
          · exact (hc (B_z cqb_0_0_0)).elim
        · have hq141 := (nle_lt hc)
          have i142 : (x5_5).toInt < (x2).toInt := i_lt hq141
          refine ⟨(show ¬ ((28 : Nat) = NU) from by decide +kernel), ?_⟩
          refine ⟨(show c_cl UL 28 = 902 from cl_28), ?_⟩
          refine ⟨(show vp_in (x4_4) 257 from vp_om (x := x4_4) (by omega) (by omega)), ?_⟩
          have b143 : B 0 256 (x4_4) := ⟨by omega, by omega⟩
          refine ⟨(show c_cl UL 53 = 902 from cl_53), ?_⟩
          refine ⟨(show vp_in (T7 28 x4_4.toNatClampNeg) 257 from vp_B (B_eq (congrFun (g12.2 28 rfl rfl) x4_4.toNatClampNeg) (show B 0 256 (F 28 x4_4.toNatClampNeg) from hI 28 x4_4.toNatClampNeg)) (by decide +kernel) (by decide +kernel)), ?_⟩
          refine ⟨fun hc => ?_, fun hc => ?_⟩
          · have hq144 := hc
            have e145 : (T7 53 (T7 28 x4_4.toNatClampNeg).toNatClampNeg).toInt = (F 53 (T7 28 x4_4.toNatClampNeg).toNatClampNeg).toInt := (congrArg Int32.toInt (congrFun (g12.2 53 rfl rfl) (T7 28 x4_4.toNatClampNeg).toNatClampNeg)).trans rfl
            have i146 : (T7 53 (T7 28 x4_4.toNatClampNeg).toNatClampNeg).toInt ≤ ((T7 30 (2 * x5_5).toNatClampNeg) + (T7 30 ((2 * x5_5) + 1).toNatClampNeg)).toInt := i_le hq144
            unfold b_Li_makeLine_86
            unfold b_Li_makeLine_87
            refine ⟨(show ¬ ((29 : Nat) = NU) from by decide +kernel), ?_⟩
            refine ⟨(show c_cl UL 29 = 903 from cl_29), ?_⟩
            refine ⟨(show vp_in ((514 * x1) + x6_6) 8224 from vp_B (B_add (B_mul cqb_514_514_514 b_x1 (by decide +kernel) (by decide +kernel) (by decide +kernel)) b30 (by decide +kernel) (by decide +kernel)) (by decide +kernel) (by decide +kernel)), ?_⟩
            refine ⟨fun hc => ?_, fun hc => ?_⟩
            · have i147 : (0 : Int32).toInt = (0 : Int32).toInt := congrArg Int32.toInt hc
              have n148 : (0 : Int32).toInt = 0 := cqn_0
              have n149 : (0 : Int32).toInt = 0 := cqn_0
              refine ⟨(show ¬ ((31 : Nat) = NU) from by decide +kernel), ?_⟩
              refine ⟨(show ¬ ((28 : Nat) = NU) from by decide +kernel), ?_⟩
              refine ⟨(show c_cl UL 28 = 902 from cl_28), ?_⟩
              refine ⟨(show vp_in (x4_4) 257 from vp_B b143 (by decide +kernel) (by decide +kernel)), ?_⟩
              refine ⟨(show c_cl UL 53 = 902 from cl_53), ?_⟩
              refine ⟨(show vp_in (T7 28 x4_4.toNatClampNeg) 257 from vp_B (B_eq (congrFun (g12.2 28 rfl rfl) x4_4.toNatClampNeg) (show B 0 256 (F 28 x4_4.toNatClampNeg) from hI 28 x4_4.toNatClampNeg)) (by decide +kernel) (by decide +kernel)), ?_⟩
              refine ⟨(show c_cl UL 31 = 902 from cl_31), ?_⟩
              refine ⟨(show vp_in (x6_6) 514 from vp_B b30 (by decide +kernel) (by decide +kernel)), ?_⟩
              unfold b_Li_makeLine_143
              have hI150 := IMc_u (u := 29) (i := ((514 * x1) + x6_6).toNatClampNeg) (v := vp_nar .boolean 0) hI11 (show B 0 1 (vp_nar .boolean 0) from (B_w (show B 0 0 (vp_nar .boolean 0) from ⟨by decide +kernel, by decide +kernel⟩) (by decide +kernel) (by decide +kernel)))
              have hI151 := IMc_u (u := 31) (i := x6_6.toNatClampNeg) (v := T7 53 (T7 28 x4_4.toNatClampNeg).toNatClampNeg) hI150 (show B (-2147483648) 2147483647 (T7 53 (T7 28 x4_4.toNatClampNeg).toNatClampNeg) from (B_w (B_eq (congrFun (g12.2 53 rfl rfl) (T7 28 x4_4.toNatClampNeg).toNatClampNeg) (B_any _)) (by decide +kernel) (by decide +kernel)))
              have g154 := agc_tr (agc_refl (fs := []) (rs := [29, 31]) (F := F)) g12 (by decide +kernel) (by decide +kernel)
              have g153 := agc_r (u := 29) (w := upd (T7 29) ((514 * x1) + x6_6).toNatClampNeg (vp_nar .boolean 0)) g154 rfl (by decide +kernel)
              have g152 := agc_r (u := 31) (w := upd (T7 31) x6_6.toNatClampNeg (T7 53 (T7 28 x4_4.toNatClampNeg).toNatClampNeg)) g153 rfl (by decide +kernel)
              have e155 : (x4_4 + 1).toInt = ((x4_4).toInt + 1) := (t_add b143 cqb_1_1_1 (by decide +kernel) (by decide +kernel)).trans (by rw [cqn_1])
              have q156 : (1) ≤ (x4_4 + 1).toInt ∧ (x4_4 + 1).toInt ≤ (257) := (show B 1 257 (x4_4 + 1) from B_w (B_add b143 cqb_1_1_1 (by decide +kernel) (by decide +kernel)) (by decide +kernel) (by decide +kernel))
              have e157 : (x6_6 + 1).toInt = ((x6_6).toInt + 1) := (t_add b30 cqb_1_1_1 (by decide +kernel) (by decide +kernel)).trans (by rw [cqn_1])
              have q158 : (1) ≤ (x6_6 + 1).toInt ∧ (x6_6 + 1).toInt ≤ (513) := (show B 1 513 (x6_6 + 1) from B_w (B_add b30 cqb_1_1_1 (by decide +kernel) (by decide +kernel)) (by decide +kernel) (by decide +kernel))
              exact hR9 ⟨rfl, rfl, rfl, (B_w (B_add b143 cqb_1_1_1 (by decide +kernel) (by decide +kernel)) (by decide +kernel) (by decide +kernel)), (B_w b103 (by decide +kernel) (by decide +kernel)), (B_w (B_add b30 cqb_1_1_1 (by decide +kernel) (by decide +kernel)) (by decide +kernel) (by decide +kernel)), _, _, rfl, hI151, g152, (by show ((x4_4 + 1).toInt + x5_5.toInt) = (x6_6 + 1).toInt; first | with_reducible assumption | omega), (by show (x4_4 + 1).toInt ≤ (T7 27 1).toInt; first | with_reducible assumption | omega), (by show x5_5.toInt ≤ x2.toInt; first | with_reducible assumption | omega)⟩ (by show (513 - (x6_6 + 1).toInt).toNat < (513 - x6_6.toInt).toNat; omega)
            · exact (hc (B_z cqb_0_0_0)).elim
          · have hq159 := (nle_lt hc)
            have b160 : B (-2147483648) 2147483646 ((T7 30 (2 * x5_5).toNatClampNeg) + (T7 30 ((2 * x5_5) + 1).toNatClampNeg)) := B_w (B_ltL (B_any _) (B_eq (congrFun (g12.2 53 rfl rfl) (T7 28 x4_4.toNatClampNeg).toNatClampNeg) (B_any _)) hq159) (by decide +kernel) (by decide +kernel)
            have b161 : B (-2147483647) 2147483647 (F 53 (T7 28 x4_4.toNatClampNeg).toNatClampNeg) := B_w (B_eq (Eq.symm (congrFun (g12.2 53 rfl rfl) (T7 28 x4_4.toNatClampNeg).toNatClampNeg)) (B_ltR (B_any _) (B_eq (congrFun (g12.2 53 rfl rfl) (T7 28 x4_4.toNatClampNeg).toNatClampNeg) (B_any _)) hq159)) (by decide +kernel) (by decide +kernel)
            have q162 : (-2147483648) ≤ ((T7 30 (2 * x5_5).toNatClampNeg) + (T7 30 ((2 * x5_5) + 1).toNatClampNeg)).toInt ∧ ((T7 30 (2 * x5_5).toNatClampNeg) + (T7 30 ((2 * x5_5) + 1).toNatClampNeg)).toInt ≤ (2147483646) := (show B (-2147483648) 2147483646 ((T7 30 (2 * x5_5).toNatClampNeg) + (T7 30 ((2 * x5_5) + 1).toNatClampNeg)) from B_w b160 (by decide +kernel) (by decide +kernel))
            have q163 : (-2147483647) ≤ (F 53 (T7 28 x4_4.toNatClampNeg).toNatClampNeg).toInt ∧ (F 53 (T7 28 x4_4.toNatClampNeg).toNatClampNeg).toInt ≤ (2147483647) := (show B (-2147483647) 2147483647 (F 53 (T7 28 x4_4.toNatClampNeg).toNatClampNeg) from B_w b161 (by decide +kernel) (by decide +kernel))
            have e164 : (T7 53 (T7 28 x4_4.toNatClampNeg).toNatClampNeg).toInt = (F 53 (T7 28 x4_4.toNatClampNeg).toNatClampNeg).toInt := (congrArg Int32.toInt (congrFun (g12.2 53 rfl rfl) (T7 28 x4_4.toNatClampNeg).toNatClampNeg)).trans rfl
            have i165 : ((T7 30 (2 * x5_5).toNatClampNeg) + (T7 30 ((2 * x5_5) + 1).toNatClampNeg)).toInt < (T7 53 (T7 28 x4_4.toNatClampNeg).toNatClampNeg).toInt := i_lt hq159
            unfold b_Li_makeLine_82
            unfold b_Li_makeLine_87
            refine ⟨(show ¬ ((29 : Nat) = NU) from by decide +kernel), ?_⟩
            refine ⟨(show c_cl UL 29 = 903 from cl_29), ?_⟩
            refine ⟨(show vp_in ((514 * x1) + x6_6) 8224 from vp_B (B_add (B_mul cqb_514_514_514 b_x1 (by decide +kernel) (by decide +kernel) (by decide +kernel)) b30 (by decide +kernel) (by decide +kernel)) (by decide +kernel) (by decide +kernel)), ?_⟩
            refine ⟨fun hc => ?_, fun hc => ?_⟩
            · exact (B_dis cqb_1_1_1 cqb_0_0_0 hc (by decide +kernel)).elim
            · have i166 : (1 : Int32).toInt ≠ (0 : Int32).toInt := i_ne hc
              have n167 : (1 : Int32).toInt = 1 := cqn_1
              have n168 : (0 : Int32).toInt = 0 := cqn_0
              refine ⟨(show ¬ ((31 : Nat) = NU) from by decide +kernel), ?_⟩
              refine ⟨(show c_cl UL 31 = 902 from cl_31), ?_⟩
              refine ⟨(show vp_in (x6_6) 514 from vp_B b30 (by decide +kernel) (by decide +kernel)), ?_⟩
              unfold b_Li_makeLine_143
              have hI169 := IMc_u (u := 29) (i := ((514 * x1) + x6_6).toNatClampNeg) (v := vp_nar .boolean 1) hI11 (show B 0 1 (vp_nar .boolean 1) from (B_w (show B 1 1 (vp_nar .boolean 1) from ⟨by decide +kernel, by decide +kernel⟩) (by decide +kernel) (by decide +kernel)))
              have hI170 := IMc_u (u := 31) (i := x6_6.toNatClampNeg) (v := (T7 30 (2 * x5_5).toNatClampNeg) + (T7 30 ((2 * x5_5) + 1).toNatClampNeg)) hI169 (show B (-2147483648) 2147483647 ((T7 30 (2 * x5_5).toNatClampNeg) + (T7 30 ((2 * x5_5) + 1).toNatClampNeg)) from (B_w b160 (by decide +kernel) (by decide +kernel)))
              have g173 := agc_tr (agc_refl (fs := []) (rs := [29, 31]) (F := F)) g12 (by decide +kernel) (by decide +kernel)
              have g172 := agc_r (u := 29) (w := upd (T7 29) ((514 * x1) + x6_6).toNatClampNeg (vp_nar .boolean 1)) g173 rfl (by decide +kernel)
              have g171 := agc_r (u := 31) (w := upd (T7 31) x6_6.toNatClampNeg ((T7 30 (2 * x5_5).toNatClampNeg) + (T7 30 ((2 * x5_5) + 1).toNatClampNeg))) g172 rfl (by decide +kernel)
              have e174 : (x5_5 + 1).toInt = ((x5_5).toInt + 1) := (t_add b103 cqb_1_1_1 (by decide +kernel) (by decide +kernel)).trans (by rw [cqn_1])
              have q175 : (1) ≤ (x5_5 + 1).toInt ∧ (x5_5 + 1).toInt ≤ (256) := (show B 1 256 (x5_5 + 1) from B_w (B_add b103 cqb_1_1_1 (by decide +kernel) (by decide +kernel)) (by decide +kernel) (by decide +kernel))
              have e176 : (x6_6 + 1).toInt = ((x6_6).toInt + 1) := (t_add b30 cqb_1_1_1 (by decide +kernel) (by decide +kernel)).trans (by rw [cqn_1])
              have q177 : (1) ≤ (x6_6 + 1).toInt ∧ (x6_6 + 1).toInt ≤ (513) := (show B 1 513 (x6_6 + 1) from B_w (B_add b30 cqb_1_1_1 (by decide +kernel) (by decide +kernel)) (by decide +kernel) (by decide +kernel))
              exact hR9 ⟨rfl, rfl, rfl, (B_w b143 (by decide +kernel) (by decide +kernel)), (B_w (B_add b103 cqb_1_1_1 (by decide +kernel) (by decide +kernel)) (by decide +kernel) (by decide +kernel)), (B_w (B_add b30 cqb_1_1_1 (by decide +kernel) (by decide +kernel)) (by decide +kernel) (by decide +kernel)), _, _, rfl, hI170, g171, (by show (x4_4.toInt + (x5_5 + 1).toInt) = (x6_6 + 1).toInt; first | with_reducible assumption | omega), (by show x4_4.toInt ≤ (T7 27 1).toInt; first | with_reducible assumption | omega), (by show (x5_5 + 1).toInt ≤ x2.toInt; first | with_reducible assumption | omega)⟩ (by show (513 - (x6_6 + 1).toInt).toNat < (513 - x6_6.toInt).toNat; omega)
set_option maxRecDepth 20000 in
set_option maxHeartbeats 4000000 in
theorem h_Li_makeLine_u27_x353_b1 {a : Bool} {P : Nat → Nat → Nat} {x1 : Int32} {x2 : Int32} {F : cF} {L : cL} {K : Int32 → cs → Prop} (b_x1 : B 1 15 x1) (b_x2 : B 0 256 x2) (hI : IMc F) (hK : ∀ {v : Int32} {Z : cF} {LZ : cL}, B 0 513 v → IMc Z → agc [] [29, 30] F Z → K v (Z, LZ, PC a (!true) P)) : p_Li_makeLine UL 27 x1 x2 53 (F, L, PC a true P) K := by
  unfold p_Li_makeLine
  have q14 : (0) ≤ (F 27 1).toInt ∧ (F 27 1).toInt ≤ (257) := (show B 0 257 (F 27 1) from hI 27 1)
  have q16 : (0) ≤ (x2).toInt ∧ (x2).toInt ≤ (256) := (show B 0 256 (x2) from B_w b_x2 (by decide +kernel) (by decide +kernel))
  refine ⟨fun yx1 yx2 yx3 yx4 yx5 yx6 yS => x1 = yx1 ∧ x2 = yx2 ∧ (53 : Nat) = yx3 ∧ B 0 257 yx4 ∧ B 0 256 yx5 ∧ B 0 513 yx6 ∧ ∃ (T7 : cF) (LT7 : cL), yS = (T7, LT7, PC a true P) ∧ IMc T7 ∧ agc [] [29, 30] F T7 ∧ ((yx4.toInt + yx5.toInt) = yx6.toInt) ∧ (yx4.toInt ≤ (T7 27 1).toInt) ∧ (yx5.toInt ≤ yx2.toInt), fun yx1 yx2 yx3 yx4 yx5 yx6 yS => (513 - yx6.toInt).toNat, ⟨rfl, rfl, rfl, (B_w cqb_0_0_0 (by decide +kernel) (by decide +kernel)), (B_w cqb_0_0_0 (by decide +kernel) (by decide +kernel)), (B_w cqb_0_0_0 (by decide +kernel) (by decide +kernel)), _, _, rfl, hI, (agc_refl (fs := []) (rs := [29, 30]) (F := F)), (by show (0 + 0) = 0; first | with_reducible assumption | omega), (by show 0 ≤ (F 27 1).toInt; first | with_reducible assumption | omega), (by show 0 ≤ x2.toInt; first | with_reducible assumption | omega)⟩, fun x1_1 x2_2 x3_3 x4_4 x5_5 x6_6 ST7 hIv => ?_⟩
  obtain ⟨rfl, rfl, rfl, b8, b9, b10, T7, LT7, rfl, hI11, g12, r13, r15, r17⟩ := hIv
  suffices hs : ∀ (R9 : Int32 → Int32 → Nat → Int32 → Int32 → Int32 → cs → Prop), (∀ zx1 zx2 zx3 zx4 zx5 zx6 zS, (x1 = zx1 ∧ x2 = zx2 ∧ (53 : Nat) = zx3 ∧ B 0 257 zx4 ∧ B 0 256 zx5 ∧ B 0 513 zx6 ∧ ∃ (T7 : cF) (LT7 : cL), zS = (T7, LT7, PC a true P) ∧ IMc T7 ∧ agc [] [29, 30] F T7 ∧ ((zx4.toInt + zx5.toInt) = zx6.toInt) ∧ (zx4.toInt ≤ (T7 27 1).toInt) ∧ (zx5.toInt ≤ zx2.toInt)) → (513 - zx6.toInt).toNat < (513 - x6_6.toInt).toNat → R9 zx1 zx2 zx3 zx4 zx5 zx6 zS) → b_Li_makeLine_9 UL 27 x1 x2 53 x4_4 x5_5 x6_6 (T7, LT7, PC a true P) R9 K from hs _ (fun _ _ _ _ _ _ _ h1 h2 => ⟨h1, h2⟩)
  intro R9 hR90
  have hR9 := fun {zx1} {zx2} {zx3} {zx4} {zx5} {zx6} {zS} => hR90 zx1 zx2 zx3 zx4 zx5 zx6 zS
  have q18 : (0) ≤ (x4_4).toInt ∧ (x4_4).toInt ≤ (257) := (show B 0 257 (x4_4) from B_w b8 (by decide +kernel) (by decide +kernel))
  have q19 : (0) ≤ (x5_5).toInt ∧ (x5_5).toInt ≤ (256) := (show B 0 256 (x5_5) from B_w b9 (by decide +kernel) (by decide +kernel))
  have q20 : (0) ≤ (x6_6).toInt ∧ (x6_6).toInt ≤ (513) := (show B 0 513 (x6_6) from B_w b10 (by decide +kernel) (by decide +kernel))
  have q21 : (0) ≤ (F 27 1).toInt ∧ (F 27 1).toInt ≤ (257) := (show B 0 257 (F 27 1) from hI 27 1)
  have e22 : (T7 27 1).toInt = (F 27 1).toInt := (congrArg Int32.toInt (g12.1 27 1 rfl rfl)).trans rfl
  have q23 : (0) ≤ (x2).toInt ∧ (x2).toInt ≤ (256) := (show B 0 256 (x2) from B_w b_x2 (by decide +kernel) (by decide +kernel))
  unfold b_Li_makeLine_9
  refine ⟨fun hc => ?_, fun hc => ?_⟩
  · have hq24 := hc
    have e25 : ((T7 27 1) + x2).toInt = ((F 27 1).toInt + (x2).toInt) := (t_add (B_eq (g12.1 27 1 rfl rfl) (show B 0 257 (F 27 1) from hI 27 1)) b_x2 (by decide +kernel) (by decide +kernel)).trans (by rw [e22])
    have q26 : (0) ≤ ((T7 27 1) + x2).toInt ∧ ((T7 27 1) + x2).toInt ≤ (513) := (show B 0 513 ((T7 27 1) + x2) from B_w (B_add (B_eq (g12.1 27 1 rfl rfl) (show B 0 257 (F 27 1) from hI 27 1)) b_x2 (by decide +kernel) (by decide +kernel)) (by decide +kernel) (by decide +kernel))
    have i27 : ((T7 27 1) + x2).toInt ≤ (x6_6).toInt := i_le hq24
    refine ⟨(show ¬ ((31 : Nat) = NU) from by decide +kernel), ?_⟩
    refine ⟨(show ¬ ((30 : Nat) = NU) from by decide +kernel), ?_⟩
    refine ⟨(show ¬ ((30 : Nat) = NU) from by decide +kernel), ?_⟩
    refine ⟨(show ¬ ((31 : Nat) = NU) from by decide +kernel), ?_⟩
    have g28 := agc_tr (agc_refl (fs := []) (rs := [29, 30]) (F := F)) g12 (by decide +kernel) (by decide +kernel)
    rw [pc_swap]
    exact hK (B_w (B_add (B_eq (g12.1 27 1 rfl rfl) (show B 0 257 (F 27 1) from hI 27 1)) b_x2 (by decide +kernel) (by decide +kernel)) (by decide +kernel) (by decide +kernel)) hI11 g28
  · have hq29 := (nle_lt hc)
    have b30 : B 0 512 (x6_6) := B_w (B_ltL b10 (B_add (B_eq (g12.1 27 1 rfl rfl) (show B 0 257 (F 27 1) from hI 27 1)) b_x2 (by decide +kernel) (by decide +kernel)) hq29) (by decide +kernel) (by decide +kernel)
    have q31 : (0) ≤ (x6_6).toInt ∧ (x6_6).toInt ≤ (512) := (show B 0 512 (x6_6) from B_w b30 (by decide +kernel) (by decide +kernel))
    have b32 : B 1 513 ((T7 27 1) + x2) := B_w (B_ltR b10 (B_add (B_eq (g12.1 27 1 rfl rfl) (show B 0 257 (F 27 1) from hI 27 1)) b_x2 (by decide +kernel) (by decide +kernel)) hq29) (by decide +kernel) (by decide +kernel)
    have e33 : ((T7 27 1) + x2).toInt = ((F 27 1).toInt + (x2).toInt) := (t_add (B_eq (g12.1 27 1 rfl rfl) (show B 0 257 (F 27 1) from hI 27 1)) b_x2 (by decide +kernel) (by decide +kernel)).trans (by rw [e22])
    have q34 : (1) ≤ ((T7 27 1) + x2).toInt ∧ ((T7 27 1) + x2).toInt ≤ (513) := (show B 1 513 ((T7 27 1) + x2) from B_w b32 (by decide +kernel) (by decide +kernel))
    have i35 : (x6_6).toInt < ((T7 27 1) + x2).toInt := i_lt hq29
    refine ⟨fun hc => ?_, fun hc => ?_⟩
    · have hq36 := hc
      have i37 : (x2).toInt ≤ (x5_5).toInt := i_le hq36
      unfold b_Li_makeLine_51
      refine ⟨fun hc => ?_, fun hc => ?_⟩
      · have i38 : (x4_4).toInt = (T7 27 1).toInt := congrArg Int32.toInt hc
        unfold b_Li_makeLine_82
        unfold b_Li_makeLine_87
        refine ⟨(show ¬ ((29 : Nat) = NU) from by decide +kernel), ?_⟩
        refine ⟨(show c_cl UL 29 = 903 from cl_29), ?_⟩
        refine ⟨(show vp_in ((514 * x1) + x6_6) 8224 from vp_B (B_add (B_mul cqb_514_514_514 b_x1 (by decide +kernel) (by decide +kernel) (by decide +kernel)) b30 (by decide +kernel) (by decide +kernel)) (by decide +kernel) (by decide +kernel)), ?_⟩
        refine ⟨fun hc => ?_, fun hc => ?_⟩
        · exact (B_dis cqb_1_1_1 cqb_0_0_0 hc (by decide +kernel)).elim
        · have i39 : (1 : Int32).toInt ≠ (0 : Int32).toInt := i_ne hc
          have n40 : (1 : Int32).toInt = 1 := cqn_1
          have n41 : (0 : Int32).toInt = 0 := cqn_0
          refine ⟨(show ¬ ((30 : Nat) = NU) from by decide +kernel), ?_⟩
          refine ⟨(show c_cl UL 30 = 902 from cl_30), ?_⟩
          refine ⟨(show vp_in (x6_6) 514 from vp_B b30 (by decide +kernel) (by decide +kernel)), ?_⟩
          unfold b_Li_makeLine_143
          have e42 : (x5_5 + 1).toInt = ((x5_5).toInt + 1) := (t_add b9 cqb_1_1_1 (by decide +kernel) (by decide +kernel)).trans (by rw [cqn_1])
          have q43 : (1) ≤ (x5_5 + 1).toInt ∧ (x5_5 + 1).toInt ≤ (257) := (show B 1 257 (x5_5 + 1) from B_w (B_add b9 cqb_1_1_1 (by decide +kernel) (by decide +kernel)) (by decide +kernel) (by decide +kernel))
          have hI44 := IMc_u (u := 29) (i := ((514 * x1) + x6_6).toNatClampNeg) (v := vp_nar .boolean 1) hI11 (show B 0 1 (vp_nar .boolean 1) from (B_w (show B 1 1 (vp_nar .boolean 1) from ⟨by decide +kernel, by decide +kernel⟩) (by decide +kernel) (by decide +kernel)))
          have hI45 := IMc_u (u := 30) (i := x6_6.toNatClampNeg) (v := 0) hI44 (show B (-2147483648) 2147483647 (0) from (B_w cqb_0_0_0 (by decide +kernel) (by decide +kernel)))
          have g48 := agc_tr (agc_refl (fs := []) (rs := [29, 30]) (F := F)) g12 (by decide +kernel) (by decide +kernel)
          have g47 := agc_r (u := 29) (w := upd (T7 29) ((514 * x1) + x6_6).toNatClampNeg (vp_nar .boolean 1)) g48 rfl (by decide +kernel)
          have g46 := agc_r (u := 30) (w := upd (T7 30) x6_6.toNatClampNeg 0) g47 rfl (by decide +kernel)
          have e49 : (x6_6 + 1).toInt = ((x6_6).toInt + 1) := (t_add b30 cqb_1_1_1 (by decide +kernel) (by decide +kernel)).trans (by rw [cqn_1])
          have q50 : (1) ≤ (x6_6 + 1).toInt ∧ (x6_6 + 1).toInt ≤ (513) := (show B 1 513 (x6_6 + 1) from B_w (B_add b30 cqb_1_1_1 (by decide +kernel) (by decide +kernel)) (by decide +kernel) (by decide +kernel))
          exact hR9 ⟨rfl, rfl, rfl, b8, (show B 0 256 (x5_5 + 1) from ⟨by omega, by omega⟩), (B_w (B_add b30 cqb_1_1_1 (by decide +kernel) (by decide +kernel)) (by decide +kernel) (by decide +kernel)), _, _, rfl, hI45, g46, (by show (x4_4.toInt + (x5_5 + 1).toInt) = (x6_6 + 1).toInt; first | with_reducible assumption | omega), (by show x4_4.toInt ≤ (T7 27 1).toInt; first | with_reducible assumption | omega), (by show (x5_5 + 1).toInt ≤ x2.toInt; first | with_reducible assumption | omega)⟩ (by show (513 - (x6_6 + 1).toInt).toNat < (513 - x6_6.toInt).toNat; omega)
      · have i51 : (x4_4).toInt ≠ (T7 27 1).toInt := i_ne hc
        refine ⟨fun hc => ?_, fun hc => ?_⟩
        · have hq52 := hc
          have i53 : (x2).toInt ≤ (x5_5).toInt := i_le hq52
          unfold b_Li_makeLine_86
          unfold b_Li_makeLine_87
          refine ⟨(show ¬ ((29 : Nat) = NU) from by decide +kernel), ?_⟩
          refine ⟨(show c_cl UL 29 = 903 from cl_29), ?_⟩
          refine ⟨(show vp_in ((514 * x1) + x6_6) 8224 from vp_B (B_add (B_mul cqb_514_514_514 b_x1 (by decide +kernel) (by decide +kernel) (by decide +kernel)) b30 (by decide +kernel) (by decide +kernel)) (by decide +kernel) (by decide +kernel)), ?_⟩
          refine ⟨fun hc => ?_, fun hc => ?_⟩
          · have i54 : (0 : Int32).toInt = (0 : Int32).toInt := congrArg Int32.toInt hc
            have n55 : (0 : Int32).toInt = 0 := cqn_0
            have n56 : (0 : Int32).toInt = 0 := cqn_0
            refine ⟨(show ¬ ((30 : Nat) = NU) from by decide +kernel), ?_⟩
            refine ⟨(show ¬ ((28 : Nat) = NU) from by decide +kernel), ?_⟩
            refine ⟨(show c_cl UL 28 = 902 from cl_28), ?_⟩
            refine ⟨(show vp_in (x4_4) 257 from vp_om (x := x4_4) (by omega) (by omega)), ?_⟩
            have b57 : B 0 256 (x4_4) := ⟨by omega, by omega⟩
            refine ⟨(show c_cl UL 53 = 902 from cl_53), ?_⟩
            refine ⟨(show vp_in (T7 28 x4_4.toNatClampNeg) 257 from vp_B (B_eq (congrFun (g12.2 28 rfl rfl) x4_4.toNatClampNeg) (show B 0 256 (F 28 x4_4.toNatClampNeg) from hI 28 x4_4.toNatClampNeg)) (by decide +kernel) (by decide +kernel)), ?_⟩
            refine ⟨(show c_cl UL 30 = 902 from cl_30), ?_⟩
            refine ⟨(show vp_in (x6_6) 514 from vp_B b30 (by decide +kernel) (by decide +kernel)), ?_⟩
            unfold b_Li_makeLine_143
            have hI58 := IMc_u (u := 29) (i := ((514 * x1) + x6_6).toNatClampNeg) (v := vp_nar .boolean 0) hI11 (show B 0 1 (vp_nar .boolean 0) from (B_w (show B 0 0 (vp_nar .boolean 0) from ⟨by decide +kernel, by decide +kernel⟩) (by decide +kernel) (by decide +kernel)))
            have hI59 := IMc_u (u := 30) (i := x6_6.toNatClampNeg) (v := T7 53 (T7 28 x4_4.toNatClampNeg).toNatClampNeg) hI58 (show B (-2147483648) 2147483647 (T7 53 (T7 28 x4_4.toNatClampNeg).toNatClampNeg) from (B_w (B_eq (congrFun (g12.2 53 rfl rfl) (T7 28 x4_4.toNatClampNeg).toNatClampNeg) (B_any _)) (by decide +kernel) (by decide +kernel)))
            have g62 := agc_tr (agc_refl (fs := []) (rs := [29, 30]) (F := F)) g12 (by decide +kernel) (by decide +kernel)
            have g61 := agc_r (u := 29) (w := upd (T7 29) ((514 * x1) + x6_6).toNatClampNeg (vp_nar .boolean 0)) g62 rfl (by decide +kernel)
            have g60 := agc_r (u := 30) (w := upd (T7 30) x6_6.toNatClampNeg (T7 53 (T7 28 x4_4.toNatClampNeg).toNatClampNeg)) g61 rfl (by decide +kernel)
            have e63 : (x4_4 + 1).toInt = ((x4_4).toInt + 1) := (t_add b57 cqb_1_1_1 (by decide +kernel) (by decide +kernel)).trans (by rw [cqn_1])
            have q64 : (1) ≤ (x4_4 + 1).toInt ∧ (x4_4 + 1).toInt ≤ (257) := (show B 1 257 (x4_4 + 1) from B_w (B_add b57 cqb_1_1_1 (by decide +kernel) (by decide +kernel)) (by decide +kernel) (by decide +kernel))
            have e65 : (x6_6 + 1).toInt = ((x6_6).toInt + 1) := (t_add b30 cqb_1_1_1 (by decide +kernel) (by decide +kernel)).trans (by rw [cqn_1])
            have q66 : (1) ≤ (x6_6 + 1).toInt ∧ (x6_6 + 1).toInt ≤ (513) := (show B 1 513 (x6_6 + 1) from B_w (B_add b30 cqb_1_1_1 (by decide +kernel) (by decide +kernel)) (by decide +kernel) (by decide +kernel))
            exact hR9 ⟨rfl, rfl, rfl, (B_w (B_add b57 cqb_1_1_1 (by decide +kernel) (by decide +kernel)) (by decide +kernel) (by decide +kernel)), b9, (B_w (B_add b30 cqb_1_1_1 (by decide +kernel) (by decide +kernel)) (by decide +kernel) (by decide +kernel)), _, _, rfl, hI59, g60, (by show ((x4_4 + 1).toInt + x5_5.toInt) = (x6_6 + 1).toInt; first | with_reducible assumption | omega), (by show (x4_4 + 1).toInt ≤ (T7 27 1).toInt; first | with_reducible assumption | omega), (by show x5_5.toInt ≤ x2.toInt; first | with_reducible assumption | omega)⟩ (by show (513 - (x6_6 + 1).toInt).toNat < (513 - x6_6.toInt).toNat; omega)
          · exact (hc (B_z cqb_0_0_0)).elim
        · have hq67 := (nle_lt hc)
          have b68 : B 0 255 (x5_5) := B_w (B_ltL b9 b_x2 hq67) (by decide +kernel) (by decide +kernel)
          have q69 : (0) ≤ (x5_5).toInt ∧ (x5_5).toInt ≤ (255) := (show B 0 255 (x5_5) from B_w b68 (by decide +kernel) (by decide +kernel))
          have b70 : B 1 256 (x2) := B_w (B_ltR b9 b_x2 hq67) (by decide +kernel) (by decide +kernel)
          have q71 : (1) ≤ (x2).toInt ∧ (x2).toInt ≤ (256) := (show B 1 256 (x2) from B_w b70 (by decide +kernel) (by decide +kernel))
          have i72 : (x5_5).toInt < (x2).toInt := i_lt hq67
          refine ⟨(show ¬ ((28 : Nat) = NU) from by decide +kernel), ?_⟩
          refine ⟨(show c_cl UL 28 = 902 from cl_28), ?_⟩
          refine ⟨(show vp_in (x4_4) 257 from vp_om (x := x4_4) (by omega) (by omega)), ?_⟩
          have b73 : B 0 256 (x4_4) := ⟨by omega, by omega⟩
          refine ⟨(show c_cl UL 53 = 902 from cl_53), ?_⟩
          refine ⟨(show vp_in (T7 28 x4_4.toNatClampNeg) 257 from vp_B (B_eq (congrFun (g12.2 28 rfl rfl) x4_4.toNatClampNeg) (show B 0 256 (F 28 x4_4.toNatClampNeg) from hI 28 x4_4.toNatClampNeg)) (by decide +kernel) (by decide +kernel)), ?_⟩
          refine ⟨fun hc => ?_, fun hc => ?_⟩
          · have hq74 := hc
            have b75 : B (-2147483648) 0 (F 53 (T7 28 x4_4.toNatClampNeg).toNatClampNeg) := B_w (B_eq (Eq.symm (congrFun (g12.2 53 rfl rfl) (T7 28 x4_4.toNatClampNeg).toNatClampNeg)) (B_leL (B_eq (congrFun (g12.2 53 rfl rfl) (T7 28 x4_4.toNatClampNeg).toNatClampNeg) (B_any _)) cqb_0_0_0 hq74)) (by decide +kernel) (by decide +kernel)
            unfold b_Li_makeLine_86
            unfold b_Li_makeLine_87
            refine ⟨(show ¬ ((29 : Nat) = NU) from by decide +kernel), ?_⟩
            refine ⟨(show c_cl UL 29 = 903 from cl_29), ?_⟩
            refine ⟨(show vp_in ((514 * x1) + x6_6) 8224 from vp_B (B_add (B_mul cqb_514_514_514 b_x1 (by decide +kernel) (by decide +kernel) (by decide +kernel)) b30 (by decide +kernel) (by decide +kernel)) (by decide +kernel) (by decide +kernel)), ?_⟩
            refine ⟨fun hc => ?_, fun hc => ?_⟩
            · have i76 : (0 : Int32).toInt = (0 : Int32).toInt := congrArg Int32.toInt hc
              have n77 : (0 : Int32).toInt = 0 := cqn_0
              have n78 : (0 : Int32).toInt = 0 := cqn_0
              refine ⟨(show ¬ ((30 : Nat) = NU) from by decide +kernel), ?_⟩
              refine ⟨(show ¬ ((28 : Nat) = NU) from by decide +kernel), ?_⟩
              refine ⟨(show c_cl UL 28 = 902 from cl_28), ?_⟩
              refine ⟨(show vp_in (x4_4) 257 from vp_B b73 (by decide +kernel) (by decide +kernel)), ?_⟩
              refine ⟨(show c_cl UL 53 = 902 from cl_53), ?_⟩
              refine ⟨(show vp_in (T7 28 x4_4.toNatClampNeg) 257 from vp_B (B_eq (congrFun (g12.2 28 rfl rfl) x4_4.toNatClampNeg) (show B 0 256 (F 28 x4_4.toNatClampNeg) from hI 28 x4_4.toNatClampNeg)) (by decide +kernel) (by decide +kernel)), ?_⟩
              refine ⟨(show c_cl UL 30 = 902 from cl_30), ?_⟩
              refine ⟨(show vp_in (x6_6) 514 from vp_B b30 (by decide +kernel) (by decide +kernel)), ?_⟩
              unfold b_Li_makeLine_143
              have hI79 := IMc_u (u := 29) (i := ((514 * x1) + x6_6).toNatClampNeg) (v := vp_nar .boolean 0) hI11 (show B 0 1 (vp_nar .boolean 0) from (B_w (show B 0 0 (vp_nar .boolean 0) from ⟨by decide +kernel, by decide +kernel⟩) (by decide +kernel) (by decide +kernel)))
              have hI80 := IMc_u (u := 30) (i := x6_6.toNatClampNeg) (v := T7 53 (T7 28 x4_4.toNatClampNeg).toNatClampNeg) hI79 (show B (-2147483648) 2147483647 (T7 53 (T7 28 x4_4.toNatClampNeg).toNatClampNeg) from (B_w (B_eq (congrFun (g12.2 53 rfl rfl) (T7 28 x4_4.toNatClampNeg).toNatClampNeg) b75) (by decide +kernel) (by decide +kernel)))
              have g83 := agc_tr (agc_refl (fs := []) (rs := [29, 30]) (F := F)) g12 (by decide +kernel) (by decide +kernel)
              have g82 := agc_r (u := 29) (w := upd (T7 29) ((514 * x1) + x6_6).toNatClampNeg (vp_nar .boolean 0)) g83 rfl (by decide +kernel)
              have g81 := agc_r (u := 30) (w := upd (T7 30) x6_6.toNatClampNeg (T7 53 (T7 28 x4_4.toNatClampNeg).toNatClampNeg)) g82 rfl (by decide +kernel)
              have e84 : (x4_4 + 1).toInt = ((x4_4).toInt + 1) := (t_add b73 cqb_1_1_1 (by decide +kernel) (by decide +kernel)).trans (by rw [cqn_1])
              have q85 : (1) ≤ (x4_4 + 1).toInt ∧ (x4_4 + 1).toInt ≤ (257) := (show B 1 257 (x4_4 + 1) from B_w (B_add b73 cqb_1_1_1 (by decide +kernel) (by decide +kernel)) (by decide +kernel) (by decide +kernel))
              have e86 : (x6_6 + 1).toInt = ((x6_6).toInt + 1) := (t_add b30 cqb_1_1_1 (by decide +kernel) (by decide +kernel)).trans (by rw [cqn_1])
              have q87 : (1) ≤ (x6_6 + 1).toInt ∧ (x6_6 + 1).toInt ≤ (513) := (show B 1 513 (x6_6 + 1) from B_w (B_add b30 cqb_1_1_1 (by decide +kernel) (by decide +kernel)) (by decide +kernel) (by decide +kernel))
              exact hR9 ⟨rfl, rfl, rfl, (B_w (B_add b73 cqb_1_1_1 (by decide +kernel) (by decide +kernel)) (by decide +kernel) (by decide +kernel)), (B_w b68 (by decide +kernel) (by decide +kernel)), (B_w (B_add b30 cqb_1_1_1 (by decide +kernel) (by decide +kernel)) (by decide +kernel) (by decide +kernel)), _, _, rfl, hI80, g81, (by show ((x4_4 + 1).toInt + x5_5.toInt) = (x6_6 + 1).toInt; first | with_reducible assumption | omega), (by show (x4_4 + 1).toInt ≤ (T7 27 1).toInt; first | with_reducible assumption | omega), (by show x5_5.toInt ≤ x2.toInt; first | with_reducible assumption | omega)⟩ (by show (513 - (x6_6 + 1).toInt).toNat < (513 - x6_6.toInt).toNat; omega)
            · exact (hc (B_z cqb_0_0_0)).elim
          · have hq88 := (nle_lt hc)
            have b89 : B 1 2147483647 (F 53 (T7 28 x4_4.toNatClampNeg).toNatClampNeg) := B_w (B_eq (Eq.symm (congrFun (g12.2 53 rfl rfl) (T7 28 x4_4.toNatClampNeg).toNatClampNeg)) (B_ltR cqb_0_0_0 (B_eq (congrFun (g12.2 53 rfl rfl) (T7 28 x4_4.toNatClampNeg).toNatClampNeg) (B_any _)) hq88)) (by decide +kernel) (by decide +kernel)
            unfold b_Li_makeLine_82
            unfold b_Li_makeLine_87
            refine ⟨(show ¬ ((29 : Nat) = NU) from by decide +kernel), ?_⟩
            refine ⟨(show c_cl UL 29 = 903 from cl_29), ?_⟩
            refine ⟨(show vp_in ((514 * x1) + x6_6) 8224 from vp_B (B_add (B_mul cqb_514_514_514 b_x1 (by decide +kernel) (by decide +kernel) (by decide +kernel)) b30 (by decide +kernel) (by decide +kernel)) (by decide +kernel) (by decide +kernel)), ?_⟩
            refine ⟨fun hc => ?_, fun hc => ?_⟩
            · exact (B_dis cqb_1_1_1 cqb_0_0_0 hc (by decide +kernel)).elim
            · have i90 : (1 : Int32).toInt ≠ (0 : Int32).toInt := i_ne hc
              have n91 : (1 : Int32).toInt = 1 := cqn_1
              have n92 : (0 : Int32).toInt = 0 := cqn_0
              refine ⟨(show ¬ ((30 : Nat) = NU) from by decide +kernel), ?_⟩
              refine ⟨(show c_cl UL 30 = 902 from cl_30), ?_⟩
              refine ⟨(show vp_in (x6_6) 514 from vp_B b30 (by decide +kernel) (by decide +kernel)), ?_⟩
              unfold b_Li_makeLine_143
              have hI93 := IMc_u (u := 29) (i := ((514 * x1) + x6_6).toNatClampNeg) (v := vp_nar .boolean 1) hI11 (show B 0 1 (vp_nar .boolean 1) from (B_w (show B 1 1 (vp_nar .boolean 1) from ⟨by decide +kernel, by decide +kernel⟩) (by decide +kernel) (by decide +kernel)))
              have hI94 := IMc_u (u := 30) (i := x6_6.toNatClampNeg) (v := 0) hI93 (show B (-2147483648) 2147483647 (0) from (B_w cqb_0_0_0 (by decide +kernel) (by decide +kernel)))
              have g97 := agc_tr (agc_refl (fs := []) (rs := [29, 30]) (F := F)) g12 (by decide +kernel) (by decide +kernel)
              have g96 := agc_r (u := 29) (w := upd (T7 29) ((514 * x1) + x6_6).toNatClampNeg (vp_nar .boolean 1)) g97 rfl (by decide +kernel)
              have g95 := agc_r (u := 30) (w := upd (T7 30) x6_6.toNatClampNeg 0) g96 rfl (by decide +kernel)
              have e98 : (x5_5 + 1).toInt = ((x5_5).toInt + 1) := (t_add b68 cqb_1_1_1 (by decide +kernel) (by decide +kernel)).trans (by rw [cqn_1])
              have q99 : (1) ≤ (x5_5 + 1).toInt ∧ (x5_5 + 1).toInt ≤ (256) := (show B 1 256 (x5_5 + 1) from B_w (B_add b68 cqb_1_1_1 (by decide +kernel) (by decide +kernel)) (by decide +kernel) (by decide +kernel))
              have e100 : (x6_6 + 1).toInt = ((x6_6).toInt + 1) := (t_add b30 cqb_1_1_1 (by decide +kernel) (by decide +kernel)).trans (by rw [cqn_1])
              have q101 : (1) ≤ (x6_6 + 1).toInt ∧ (x6_6 + 1).toInt ≤ (513) := (show B 1 513 (x6_6 + 1) from B_w (B_add b30 cqb_1_1_1 (by decide +kernel) (by decide +kernel)) (by decide +kernel) (by decide +kernel))
              exact hR9 ⟨rfl, rfl, rfl, (B_w b73 (by decide +kernel) (by decide +kernel)), (B_w (B_add b68 cqb_1_1_1 (by decide +kernel) (by decide +kernel)) (by decide +kernel) (by decide +kernel)), (B_w (B_add b30 cqb_1_1_1 (by decide +kernel) (by decide +kernel)) (by decide +kernel) (by decide +kernel)), _, _, rfl, hI94, g95, (by show (x4_4.toInt + (x5_5 + 1).toInt) = (x6_6 + 1).toInt; first | with_reducible assumption | omega), (by show x4_4.toInt ≤ (T7 27 1).toInt; first | with_reducible assumption | omega), (by show (x5_5 + 1).toInt ≤ x2.toInt; first | with_reducible assumption | omega)⟩ (by show (513 - (x6_6 + 1).toInt).toNat < (513 - x6_6.toInt).toNat; omega)
    · have hq102 := (nle_lt hc)
      have b103 : B 0 255 (x5_5) := B_w (B_ltL b9 b_x2 hq102) (by decide +kernel) (by decide +kernel)
      have q104 : (0) ≤ (x5_5).toInt ∧ (x5_5).toInt ≤ (255) := (show B 0 255 (x5_5) from B_w b103 (by decide +kernel) (by decide +kernel))
      have b105 : B 1 256 (x2) := B_w (B_ltR b9 b_x2 hq102) (by decide +kernel) (by decide +kernel)
      have q106 : (1) ≤ (x2).toInt ∧ (x2).toInt ≤ (256) := (show B 1 256 (x2) from B_w b105 (by decide +kernel) (by decide +kernel))
      have i107 : (x5_5).toInt < (x2).toInt := i_lt hq102
      refine ⟨(show ¬ ((31 : Nat) = NU) from by decide +kernel), ?_⟩
      refine ⟨(show c_cl UL 31 = 902 from cl_31), ?_⟩
      refine ⟨(show vp_in (2 * x5_5) 514 from vp_B (B_mul cqb_2_2_2 b103 (by decide +kernel) (by decide +kernel) (by decide +kernel)) (by decide +kernel) (by decide +kernel)), ?_⟩
      refine ⟨(show ¬ ((31 : Nat) = NU) from by decide +kernel), ?_⟩
      refine ⟨(show vp_in ((2 * x5_5) + 1) 514 from vp_B (B_add (B_mul cqb_2_2_2 b103 (by decide +kernel) (by decide +kernel) (by decide +kernel)) cqb_1_1_1 (by decide +kernel) (by decide +kernel)) (by decide +kernel) (by decide +kernel)), ?_⟩
      unfold b_Li_makeLine_51
      refine ⟨fun hc => ?_, fun hc => ?_⟩
      · have i108 : (x4_4).toInt = (T7 27 1).toInt := congrArg Int32.toInt hc
        unfold b_Li_makeLine_82
        unfold b_Li_makeLine_87
        refine ⟨(show ¬ ((29 : Nat) = NU) from by decide +kernel), ?_⟩
        refine ⟨(show c_cl UL 29 = 903 from cl_29), ?_⟩
        refine ⟨(show vp_in ((514 * x1) + x6_6) 8224 from vp_B (B_add (B_mul cqb_514_514_514 b_x1 (by decide +kernel) (by decide +kernel) (by decide +kernel)) b30 (by decide +kernel) (by decide +kernel)) (by decide +kernel) (by decide +kernel)), ?_⟩
        refine ⟨fun hc => ?_, fun hc => ?_⟩
        · exact (B_dis cqb_1_1_1 cqb_0_0_0 hc (by decide +kernel)).elim
        · have i109 : (1 : Int32).toInt ≠ (0 : Int32).toInt := i_ne hc
          have n110 : (1 : Int32).toInt = 1 := cqn_1
          have n111 : (0 : Int32).toInt = 0 := cqn_0
          refine ⟨(show ¬ ((30 : Nat) = NU) from by decide +kernel), ?_⟩
          refine ⟨(show c_cl UL 30 = 902 from cl_30), ?_⟩
          refine ⟨(show vp_in (x6_6) 514 from vp_B b30 (by decide +kernel) (by decide +kernel)), ?_⟩
          unfold b_Li_makeLine_143
          have hI112 := IMc_u (u := 29) (i := ((514 * x1) + x6_6).toNatClampNeg) (v := vp_nar .boolean 1) hI11 (show B 0 1 (vp_nar .boolean 1) from (B_w (show B 1 1 (vp_nar .boolean 1) from ⟨by decide +kernel, by decide +kernel⟩) (by decide +kernel) (by decide +kernel)))
          have hI113 := IMc_u (u := 30) (i := x6_6.toNatClampNeg) (v := (T7 31 (2 * x5_5).toNatClampNeg) + (T7 31 ((2 * x5_5) + 1).toNatClampNeg)) hI112 (show B (-2147483648) 2147483647 ((T7 31 (2 * x5_5).toNatClampNeg) + (T7 31 ((2 * x5_5) + 1).toNatClampNeg)) from (B_w (B_any _) (by decide +kernel) (by decide +kernel)))
          have g116 := agc_tr (agc_refl (fs := []) (rs := [29, 30]) (F := F)) g12 (by decide +kernel) (by decide +kernel)
          have g115 := agc_r (u := 29) (w := upd (T7 29) ((514 * x1) + x6_6).toNatClampNeg (vp_nar .boolean 1)) g116 rfl (by decide +kernel)
          have g114 := agc_r (u := 30) (w := upd (T7 30) x6_6.toNatClampNeg ((T7 31 (2 * x5_5).toNatClampNeg) + (T7 31 ((2 * x5_5) + 1).toNatClampNeg))) g115 rfl (by decide +kernel)
          have e117 : (x5_5 + 1).toInt = ((x5_5).toInt + 1) := (t_add b103 cqb_1_1_1 (by decide +kernel) (by decide +kernel)).trans (by rw [cqn_1])
          have q118 : (1) ≤ (x5_5 + 1).toInt ∧ (x5_5 + 1).toInt ≤ (256) := (show B 1 256 (x5_5 + 1) from B_w (B_add b103 cqb_1_1_1 (by decide +kernel) (by decide +kernel)) (by decide +kernel) (by decide +kernel))
          have e119 : (x6_6 + 1).toInt = ((x6_6).toInt + 1) := (t_add b30 cqb_1_1_1 (by decide +kernel) (by decide +kernel)).trans (by rw [cqn_1])
          have q120 : (1) ≤ (x6_6 + 1).toInt ∧ (x6_6 + 1).toInt ≤ (513) := (show B 1 513 (x6_6 + 1) from B_w (B_add b30 cqb_1_1_1 (by decide +kernel) (by decide +kernel)) (by decide +kernel) (by decide +kernel))
          exact hR9 ⟨rfl, rfl, rfl, b8, (B_w (B_add b103 cqb_1_1_1 (by decide +kernel) (by decide +kernel)) (by decide +kernel) (by decide +kernel)), (B_w (B_add b30 cqb_1_1_1 (by decide +kernel) (by decide +kernel)) (by decide +kernel) (by decide +kernel)), _, _, rfl, hI113, g114, (by show (x4_4.toInt + (x5_5 + 1).toInt) = (x6_6 + 1).toInt; first | with_reducible assumption | omega), (by show x4_4.toInt ≤ (T7 27 1).toInt; first | with_reducible assumption | omega), (by show (x5_5 + 1).toInt ≤ x2.toInt; first | with_reducible assumption | omega)⟩ (by show (513 - (x6_6 + 1).toInt).toNat < (513 - x6_6.toInt).toNat; omega)
      · have i121 : (x4_4).toInt ≠ (T7 27 1).toInt := i_ne hc
        refine ⟨fun hc => ?_, fun hc => ?_⟩
        · have hq122 := hc
          have b123 : B 1 255 (x2) := B_w (B_leL b105 b103 hq122) (by decide +kernel) (by decide +kernel)
          have q124 : (1) ≤ (x2).toInt ∧ (x2).toInt ≤ (255) := (show B 1 255 (x2) from B_w b123 (by decide +kernel) (by decide +kernel))
          have b125 : B 1 255 (x5_5) := B_w (B_leR b105 b103 hq122) (by decide +kernel) (by decide +kernel)
          have q126 : (1) ≤ (x5_5).toInt ∧ (x5_5).toInt ≤ (255) := (show B 1 255 (x5_5) from B_w b125 (by decide +kernel) (by decide +kernel))
          have i127 : (x2).toInt ≤ (x5_5).toInt := i_le hq122
          unfold b_Li_makeLine_86
          unfold b_Li_makeLine_87
          refine ⟨(show ¬ ((29 : Nat) = NU) from by decide +kernel), ?_⟩
          refine ⟨(show c_cl UL 29 = 903 from cl_29), ?_⟩
          refine ⟨(show vp_in ((514 * x1) + x6_6) 8224 from vp_B (B_add (B_mul cqb_514_514_514 b_x1 (by decide +kernel) (by decide +kernel) (by decide +kernel)) b30 (by decide +kernel) (by decide +kernel)) (by decide +kernel) (by decide +kernel)), ?_⟩
          refine ⟨fun hc => ?_, fun hc => ?_⟩
          · have i128 : (0 : Int32).toInt = (0 : Int32).toInt := congrArg Int32.toInt hc
            have n129 : (0 : Int32).toInt = 0 := cqn_0
            have n130 : (0 : Int32).toInt = 0 := cqn_0
            refine ⟨(show ¬ ((30 : Nat) = NU) from by decide +kernel), ?_⟩
            refine ⟨(show ¬ ((28 : Nat) = NU) from by decide +kernel), ?_⟩
            refine ⟨(show c_cl UL 28 = 902 from cl_28), ?_⟩
            refine ⟨(show vp_in (x4_4) 257 from vp_om (x := x4_4) (by omega) (by omega)), ?_⟩
            have b131 : B 0 256 (x4_4) := ⟨by omega, by omega⟩
            refine ⟨(show c_cl UL 53 = 902 from cl_53), ?_⟩
            refine ⟨(show vp_in (T7 28 x4_4.toNatClampNeg) 257 from vp_B (B_eq (congrFun (g12.2 28 rfl rfl) x4_4.toNatClampNeg) (show B 0 256 (F 28 x4_4.toNatClampNeg) from hI 28 x4_4.toNatClampNeg)) (by decide +kernel) (by decide +kernel)), ?_⟩
            refine ⟨(show c_cl UL 30 = 902 from cl_30), ?_⟩
            refine ⟨(show vp_in (x6_6) 514 from vp_B b30 (by decide +kernel) (by decide +kernel)), ?_⟩
            unfold b_Li_makeLine_143
            have hI132 := IMc_u (u := 29) (i := ((514 * x1) + x6_6).toNatClampNeg) (v := vp_nar .boolean 0) hI11 (show B 0 1 (vp_nar .boolean 0) from (B_w (show B 0 0 (vp_nar .boolean 0) from ⟨by decide +kernel, by decide +kernel⟩) (by decide +kernel) (by decide +kernel)))
            have hI133 := IMc_u (u := 30) (i := x6_6.toNatClampNeg) (v := T7 53 (T7 28 x4_4.toNatClampNeg).toNatClampNeg) hI132 (show B (-2147483648) 2147483647 (T7 53 (T7 28 x4_4.toNatClampNeg).toNatClampNeg) from (B_w (B_eq (congrFun (g12.2 53 rfl rfl) (T7 28 x4_4.toNatClampNeg).toNatClampNeg) (B_any _)) (by decide +kernel) (by decide +kernel)))
            have g136 := agc_tr (agc_refl (fs := []) (rs := [29, 30]) (F := F)) g12 (by decide +kernel) (by decide +kernel)
            have g135 := agc_r (u := 29) (w := upd (T7 29) ((514 * x1) + x6_6).toNatClampNeg (vp_nar .boolean 0)) g136 rfl (by decide +kernel)
            have g134 := agc_r (u := 30) (w := upd (T7 30) x6_6.toNatClampNeg (T7 53 (T7 28 x4_4.toNatClampNeg).toNatClampNeg)) g135 rfl (by decide +kernel)
            have e137 : (x4_4 + 1).toInt = ((x4_4).toInt + 1) := (t_add b131 cqb_1_1_1 (by decide +kernel) (by decide +kernel)).trans (by rw [cqn_1])
            have q138 : (1) ≤ (x4_4 + 1).toInt ∧ (x4_4 + 1).toInt ≤ (257) := (show B 1 257 (x4_4 + 1) from B_w (B_add b131 cqb_1_1_1 (by decide +kernel) (by decide +kernel)) (by decide +kernel) (by decide +kernel))
            have e139 : (x6_6 + 1).toInt = ((x6_6).toInt + 1) := (t_add b30 cqb_1_1_1 (by decide +kernel) (by decide +kernel)).trans (by rw [cqn_1])
            have q140 : (1) ≤ (x6_6 + 1).toInt ∧ (x6_6 + 1).toInt ≤ (513) := (show B 1 513 (x6_6 + 1) from B_w (B_add b30 cqb_1_1_1 (by decide +kernel) (by decide +kernel)) (by decide +kernel) (by decide +kernel))
            exact hR9 ⟨rfl, rfl, rfl, (B_w (B_add b131 cqb_1_1_1 (by decide +kernel) (by decide +kernel)) (by decide +kernel) (by decide +kernel)), (B_w b125 (by decide +kernel) (by decide +kernel)), (B_w (B_add b30 cqb_1_1_1 (by decide +kernel) (by decide +kernel)) (by decide +kernel) (by decide +kernel)), _, _, rfl, hI133, g134, (by show ((x4_4 + 1).toInt + x5_5.toInt) = (x6_6 + 1).toInt; first | with_reducible assumption | omega), (by show (x4_4 + 1).toInt ≤ (T7 27 1).toInt; first | with_reducible assumption | omega), (by show x5_5.toInt ≤ x2.toInt; first | with_reducible assumption | omega)⟩ (by show (513 - (x6_6 + 1).toInt).toNat < (513 - x6_6.toInt).toNat; omega)
          · exact (hc (B_z cqb_0_0_0)).elim
        · have hq141 := (nle_lt hc)
          have i142 : (x5_5).toInt < (x2).toInt := i_lt hq141
          refine ⟨(show ¬ ((28 : Nat) = NU) from by decide +kernel), ?_⟩
          refine ⟨(show c_cl UL 28 = 902 from cl_28), ?_⟩
          refine ⟨(show vp_in (x4_4) 257 from vp_om (x := x4_4) (by omega) (by omega)), ?_⟩
          have b143 : B 0 256 (x4_4) := ⟨by omega, by omega⟩
          refine ⟨(show c_cl UL 53 = 902 from cl_53), ?_⟩
          refine ⟨(show vp_in (T7 28 x4_4.toNatClampNeg) 257 from vp_B (B_eq (congrFun (g12.2 28 rfl rfl) x4_4.toNatClampNeg) (show B 0 256 (F 28 x4_4.toNatClampNeg) from hI 28 x4_4.toNatClampNeg)) (by decide +kernel) (by decide +kernel)), ?_⟩
          refine ⟨fun hc => ?_, fun hc => ?_⟩
          · have hq144 := hc
            have e145 : (T7 53 (T7 28 x4_4.toNatClampNeg).toNatClampNeg).toInt = (F 53 (T7 28 x4_4.toNatClampNeg).toNatClampNeg).toInt := (congrArg Int32.toInt (congrFun (g12.2 53 rfl rfl) (T7 28 x4_4.toNatClampNeg).toNatClampNeg)).trans rfl
            have i146 : (T7 53 (T7 28 x4_4.toNatClampNeg).toNatClampNeg).toInt ≤ ((T7 31 (2 * x5_5).toNatClampNeg) + (T7 31 ((2 * x5_5) + 1).toNatClampNeg)).toInt := i_le hq144
            unfold b_Li_makeLine_86
            unfold b_Li_makeLine_87
            refine ⟨(show ¬ ((29 : Nat) = NU) from by decide +kernel), ?_⟩
            refine ⟨(show c_cl UL 29 = 903 from cl_29), ?_⟩
            refine ⟨(show vp_in ((514 * x1) + x6_6) 8224 from vp_B (B_add (B_mul cqb_514_514_514 b_x1 (by decide +kernel) (by decide +kernel) (by decide +kernel)) b30 (by decide +kernel) (by decide +kernel)) (by decide +kernel) (by decide +kernel)), ?_⟩
            refine ⟨fun hc => ?_, fun hc => ?_⟩
            · have i147 : (0 : Int32).toInt = (0 : Int32).toInt := congrArg Int32.toInt hc
              have n148 : (0 : Int32).toInt = 0 := cqn_0
              have n149 : (0 : Int32).toInt = 0 := cqn_0
              refine ⟨(show ¬ ((30 : Nat) = NU) from by decide +kernel), ?_⟩
              refine ⟨(show ¬ ((28 : Nat) = NU) from by decide +kernel), ?_⟩
              refine ⟨(show c_cl UL 28 = 902 from cl_28), ?_⟩
              refine ⟨(show vp_in (x4_4) 257 from vp_B b143 (by decide +kernel) (by decide +kernel)), ?_⟩
              refine ⟨(show c_cl UL 53 = 902 from cl_53), ?_⟩
              refine ⟨(show vp_in (T7 28 x4_4.toNatClampNeg) 257 from vp_B (B_eq (congrFun (g12.2 28 rfl rfl) x4_4.toNatClampNeg) (show B 0 256 (F 28 x4_4.toNatClampNeg) from hI 28 x4_4.toNatClampNeg)) (by decide +kernel) (by decide +kernel)), ?_⟩
              refine ⟨(show c_cl UL 30 = 902 from cl_30), ?_⟩
              refine ⟨(show vp_in (x6_6) 514 from vp_B b30 (by decide +kernel) (by decide +kernel)), ?_⟩
              unfold b_Li_makeLine_143
              have hI150 := IMc_u (u := 29) (i := ((514 * x1) + x6_6).toNatClampNeg) (v := vp_nar .boolean 0) hI11 (show B 0 1 (vp_nar .boolean 0) from (B_w (show B 0 0 (vp_nar .boolean 0) from ⟨by decide +kernel, by decide +kernel⟩) (by decide +kernel) (by decide +kernel)))
              have hI151 := IMc_u (u := 30) (i := x6_6.toNatClampNeg) (v := T7 53 (T7 28 x4_4.toNatClampNeg).toNatClampNeg) hI150 (show B (-2147483648) 2147483647 (T7 53 (T7 28 x4_4.toNatClampNeg).toNatClampNeg) from (B_w (B_eq (congrFun (g12.2 53 rfl rfl) (T7 28 x4_4.toNatClampNeg).toNatClampNeg) (B_any _)) (by decide +kernel) (by decide +kernel)))
              have g154 := agc_tr (agc_refl (fs := []) (rs := [29, 30]) (F := F)) g12 (by decide +kernel) (by decide +kernel)
              have g153 := agc_r (u := 29) (w := upd (T7 29) ((514 * x1) + x6_6).toNatClampNeg (vp_nar .boolean 0)) g154 rfl (by decide +kernel)
              have g152 := agc_r (u := 30) (w := upd (T7 30) x6_6.toNatClampNeg (T7 53 (T7 28 x4_4.toNatClampNeg).toNatClampNeg)) g153 rfl (by decide +kernel)
              have e155 : (x4_4 + 1).toInt = ((x4_4).toInt + 1) := (t_add b143 cqb_1_1_1 (by decide +kernel) (by decide +kernel)).trans (by rw [cqn_1])
              have q156 : (1) ≤ (x4_4 + 1).toInt ∧ (x4_4 + 1).toInt ≤ (257) := (show B 1 257 (x4_4 + 1) from B_w (B_add b143 cqb_1_1_1 (by decide +kernel) (by decide +kernel)) (by decide +kernel) (by decide +kernel))
              have e157 : (x6_6 + 1).toInt = ((x6_6).toInt + 1) := (t_add b30 cqb_1_1_1 (by decide +kernel) (by decide +kernel)).trans (by rw [cqn_1])
              have q158 : (1) ≤ (x6_6 + 1).toInt ∧ (x6_6 + 1).toInt ≤ (513) := (show B 1 513 (x6_6 + 1) from B_w (B_add b30 cqb_1_1_1 (by decide +kernel) (by decide +kernel)) (by decide +kernel) (by decide +kernel))
              exact hR9 ⟨rfl, rfl, rfl, (B_w (B_add b143 cqb_1_1_1 (by decide +kernel) (by decide +kernel)) (by decide +kernel) (by decide +kernel)), (B_w b103 (by decide +kernel) (by decide +kernel)), (B_w (B_add b30 cqb_1_1_1 (by decide +kernel) (by decide +kernel)) (by decide +kernel) (by decide +kernel)), _, _, rfl, hI151, g152, (by show ((x4_4 + 1).toInt + x5_5.toInt) = (x6_6 + 1).toInt; first | with_reducible assumption | omega), (by show (x4_4 + 1).toInt ≤ (T7 27 1).toInt; first | with_reducible assumption | omega), (by show x5_5.toInt ≤ x2.toInt; first | with_reducible assumption | omega)⟩ (by show (513 - (x6_6 + 1).toInt).toNat < (513 - x6_6.toInt).toNat; omega)
            · exact (hc (B_z cqb_0_0_0)).elim
          · have hq159 := (nle_lt hc)
            have b160 : B (-2147483648) 2147483646 ((T7 31 (2 * x5_5).toNatClampNeg) + (T7 31 ((2 * x5_5) + 1).toNatClampNeg)) := B_w (B_ltL (B_any _) (B_eq (congrFun (g12.2 53 rfl rfl) (T7 28 x4_4.toNatClampNeg).toNatClampNeg) (B_any _)) hq159) (by decide +kernel) (by decide +kernel)
            have b161 : B (-2147483647) 2147483647 (F 53 (T7 28 x4_4.toNatClampNeg).toNatClampNeg) := B_w (B_eq (Eq.symm (congrFun (g12.2 53 rfl rfl) (T7 28 x4_4.toNatClampNeg).toNatClampNeg)) (B_ltR (B_any _) (B_eq (congrFun (g12.2 53 rfl rfl) (T7 28 x4_4.toNatClampNeg).toNatClampNeg) (B_any _)) hq159)) (by decide +kernel) (by decide +kernel)
            have q162 : (-2147483648) ≤ ((T7 31 (2 * x5_5).toNatClampNeg) + (T7 31 ((2 * x5_5) + 1).toNatClampNeg)).toInt ∧ ((T7 31 (2 * x5_5).toNatClampNeg) + (T7 31 ((2 * x5_5) + 1).toNatClampNeg)).toInt ≤ (2147483646) := (show B (-2147483648) 2147483646 ((T7 31 (2 * x5_5).toNatClampNeg) + (T7 31 ((2 * x5_5) + 1).toNatClampNeg)) from B_w b160 (by decide +kernel) (by decide +kernel))
            have q163 : (-2147483647) ≤ (F 53 (T7 28 x4_4.toNatClampNeg).toNatClampNeg).toInt ∧ (F 53 (T7 28 x4_4.toNatClampNeg).toNatClampNeg).toInt ≤ (2147483647) := (show B (-2147483647) 2147483647 (F 53 (T7 28 x4_4.toNatClampNeg).toNatClampNeg) from B_w b161 (by decide +kernel) (by decide +kernel))
            have e164 : (T7 53 (T7 28 x4_4.toNatClampNeg).toNatClampNeg).toInt = (F 53 (T7 28 x4_4.toNatClampNeg).toNatClampNeg).toInt := (congrArg Int32.toInt (congrFun (g12.2 53 rfl rfl) (T7 28 x4_4.toNatClampNeg).toNatClampNeg)).trans rfl
            have i165 : ((T7 31 (2 * x5_5).toNatClampNeg) + (T7 31 ((2 * x5_5) + 1).toNatClampNeg)).toInt < (T7 53 (T7 28 x4_4.toNatClampNeg).toNatClampNeg).toInt := i_lt hq159
            unfold b_Li_makeLine_82
            unfold b_Li_makeLine_87
            refine ⟨(show ¬ ((29 : Nat) = NU) from by decide +kernel), ?_⟩
            refine ⟨(show c_cl UL 29 = 903 from cl_29), ?_⟩
            refine ⟨(show vp_in ((514 * x1) + x6_6) 8224 from vp_B (B_add (B_mul cqb_514_514_514 b_x1 (by decide +kernel) (by decide +kernel) (by decide +kernel)) b30 (by decide +kernel) (by decide +kernel)) (by decide +kernel) (by decide +kernel)), ?_⟩
            refine ⟨fun hc => ?_, fun hc => ?_⟩
            · exact (B_dis cqb_1_1_1 cqb_0_0_0 hc (by decide +kernel)).elim
            · have i166 : (1 : Int32).toInt ≠ (0 : Int32).toInt := i_ne hc
              have n167 : (1 : Int32).toInt = 1 := cqn_1
              have n168 : (0 : Int32).toInt = 0 := cqn_0
              refine ⟨(show ¬ ((30 : Nat) = NU) from by decide +kernel), ?_⟩
              refine ⟨(show c_cl UL 30 = 902 from cl_30), ?_⟩
              refine ⟨(show vp_in (x6_6) 514 from vp_B b30 (by decide +kernel) (by decide +kernel)), ?_⟩
              unfold b_Li_makeLine_143
              have hI169 := IMc_u (u := 29) (i := ((514 * x1) + x6_6).toNatClampNeg) (v := vp_nar .boolean 1) hI11 (show B 0 1 (vp_nar .boolean 1) from (B_w (show B 1 1 (vp_nar .boolean 1) from ⟨by decide +kernel, by decide +kernel⟩) (by decide +kernel) (by decide +kernel)))
              have hI170 := IMc_u (u := 30) (i := x6_6.toNatClampNeg) (v := (T7 31 (2 * x5_5).toNatClampNeg) + (T7 31 ((2 * x5_5) + 1).toNatClampNeg)) hI169 (show B (-2147483648) 2147483647 ((T7 31 (2 * x5_5).toNatClampNeg) + (T7 31 ((2 * x5_5) + 1).toNatClampNeg)) from (B_w b160 (by decide +kernel) (by decide +kernel)))
              have g173 := agc_tr (agc_refl (fs := []) (rs := [29, 30]) (F := F)) g12 (by decide +kernel) (by decide +kernel)
              have g172 := agc_r (u := 29) (w := upd (T7 29) ((514 * x1) + x6_6).toNatClampNeg (vp_nar .boolean 1)) g173 rfl (by decide +kernel)
              have g171 := agc_r (u := 30) (w := upd (T7 30) x6_6.toNatClampNeg ((T7 31 (2 * x5_5).toNatClampNeg) + (T7 31 ((2 * x5_5) + 1).toNatClampNeg))) g172 rfl (by decide +kernel)
              have e174 : (x5_5 + 1).toInt = ((x5_5).toInt + 1) := (t_add b103 cqb_1_1_1 (by decide +kernel) (by decide +kernel)).trans (by rw [cqn_1])
              have q175 : (1) ≤ (x5_5 + 1).toInt ∧ (x5_5 + 1).toInt ≤ (256) := (show B 1 256 (x5_5 + 1) from B_w (B_add b103 cqb_1_1_1 (by decide +kernel) (by decide +kernel)) (by decide +kernel) (by decide +kernel))
              have e176 : (x6_6 + 1).toInt = ((x6_6).toInt + 1) := (t_add b30 cqb_1_1_1 (by decide +kernel) (by decide +kernel)).trans (by rw [cqn_1])
              have q177 : (1) ≤ (x6_6 + 1).toInt ∧ (x6_6 + 1).toInt ≤ (513) := (show B 1 513 (x6_6 + 1) from B_w (B_add b30 cqb_1_1_1 (by decide +kernel) (by decide +kernel)) (by decide +kernel) (by decide +kernel))
              exact hR9 ⟨rfl, rfl, rfl, (B_w b143 (by decide +kernel) (by decide +kernel)), (B_w (B_add b103 cqb_1_1_1 (by decide +kernel) (by decide +kernel)) (by decide +kernel) (by decide +kernel)), (B_w (B_add b30 cqb_1_1_1 (by decide +kernel) (by decide +kernel)) (by decide +kernel) (by decide +kernel)), _, _, rfl, hI170, g171, (by show (x4_4.toInt + (x5_5 + 1).toInt) = (x6_6 + 1).toInt; first | with_reducible assumption | omega), (by show x4_4.toInt ≤ (T7 27 1).toInt; first | with_reducible assumption | omega), (by show (x5_5 + 1).toInt ≤ x2.toInt; first | with_reducible assumption | omega)⟩ (by show (513 - (x6_6 + 1).toInt).toNat < (513 - x6_6.toInt).toNat; omega)
theorem h_Li_makeLine_u27_x353 {a : Bool} {b : Bool} {P : Nat → Nat → Nat} {x1 : Int32} {x2 : Int32} {F : cF} {L : cL} {K : Int32 → cs → Prop} (b_x1 : B 1 15 x1) (b_x2 : B 0 256 x2) (hI : IMc F) (hK : ∀ {v : Int32} {bZ : Bool} {Z : cF} {LZ : cL}, B 0 513 v → IMc Z → agc [] [29, 30, 31] F Z → K v (Z, LZ, PC a bZ P)) : p_Li_makeLine UL 27 x1 x2 53 (F, L, PC a b P) K := by
  cases b
  · exact h_Li_makeLine_u27_x353_b0 b_x1 b_x2 hI (fun bv hI g => hK bv hI (agc_tr agc_refl g (by decide +kernel) (by decide +kernel)))
  · exact h_Li_makeLine_u27_x353_b1 b_x1 b_x2 hI (fun bv hI g => hK bv hI (agc_tr agc_refl g (by decide +kernel) (by decide +kernel)))
set_option maxRecDepth 20000 in
set_option maxHeartbeats 4000000 in
theorem h_Li_setLengths_u27_x152_b0 {a : Bool} {P : Nat → Nat → Nat} {F : cF} {L : cL} {K : cs → Prop} (hI : IMc F) (hK : ∀ {bZ : Bool} {Z : cF} {LZ : cL}, IMc Z → agc [2701] [28, 29, 30, 31, 54, 999] F Z → K (Z, LZ, PC a bZ P)) : p_Li_setLengths UL 27 52 (F, L, PC a false P) K := by
  unfold p_Li_setLengths
  refine ⟨(show c_cl UL 52 = 5 from cl_52), ?_⟩
  refine ⟨(show ¬ ((53 : Nat) = NU) from by decide +kernel), ?_⟩
  refine h_Li_sortSymbols_u27_x153 hI (fun {FS5_1} {LFS5_1} hI2 g3 => ?_)
  refine ⟨fun yx1 yx2 yx3 yS => (52 : Nat) = yx1 ∧ (FS5_1 27 1) = yx2 ∧ B 0 257 yx3 ∧ ∃ (T7 : cF) (LT7 : cL), yS = (T7, LT7, PC a false P) ∧ IMc T7 ∧ agc [] [30] FS5_1 T7, fun yx1 yx2 yx3 yS => (257 - yx3.toInt).toNat, ⟨rfl, rfl, (B_w cqb_0_0_0 (by decide +kernel) (by decide +kernel)), _, _, rfl, hI2, (agc_refl (fs := []) (rs := [30]) (F := FS5_1))⟩, fun x1_4 x2_5 x3_6 ST7 hIv => ?_⟩
  obtain ⟨rfl, rfl, b8, T7, LT7, rfl, hI9, g10⟩ := hIv
  suffices hs : ∀ (R15 : Nat → Int32 → Int32 → cs → Prop), (∀ zx1 zx2 zx3 zS, ((52 : Nat) = zx1 ∧ (FS5_1 27 1) = zx2 ∧ B 0 257 zx3 ∧ ∃ (T7 : cF) (LT7 : cL), zS = (T7, LT7, PC a false P) ∧ IMc T7 ∧ agc [] [30] FS5_1 T7) → (257 - zx3.toInt).toNat < (257 - x3_6.toInt).toNat → R15 zx1 zx2 zx3 zS) → b_Li_setLengths_15 UL 27 52 (FS5_1 27 1) x3_6 (T7, LT7, PC a false P) R15 K from hs _ (fun _ _ _ _ h1 h2 => ⟨h1, h2⟩)
  intro R15 hR150
  have hR15 := fun {zx1} {zx2} {zx3} {zS} => hR150 zx1 zx2 zx3 zS
  unfold b_Li_setLengths_15
  refine ⟨fun hc => ?_, fun hc => ?_⟩
  · have hq11 := hc
    have q12 : (0) ≤ (FS5_1 27 1).toInt ∧ (FS5_1 27 1).toInt ≤ (257) := (show B 0 257 (FS5_1 27 1) from hI2 27 1)
    have e13 : (T7 27 1).toInt = (FS5_1 27 1).toInt := (congrArg Int32.toInt (g10.1 27 1 rfl rfl)).trans rfl
    have q14 : (0) ≤ (x3_6).toInt ∧ (x3_6).toInt ≤ (257) := (show B 0 257 (x3_6) from B_w b8 (by decide +kernel) (by decide +kernel))
    have i15 : (T7 27 1).toInt ≤ (x3_6).toInt := i_le hq11
    refine ⟨fun yx1 yx2 yx3 yS => (52 : Nat) = yx1 ∧ B 0 513 yx2 ∧ B 1 16 yx3 ∧ ∃ (bT19 : Bool) (T19 : cF) (LT19 : cL), yS = (T19, LT19, PC a bT19 P) ∧ IMc T19 ∧ agc [] [29, 30, 31, 999] T7 T19, fun yx1 yx2 yx3 yS => (16 - yx3.toInt).toNat, ⟨rfl, (B_w (show B 0 257 (FS5_1 27 1) from hI2 27 1) (by decide +kernel) (by decide +kernel)), (B_w cqb_1_1_1 (by decide +kernel) (by decide +kernel)), _, _, _, rfl, hI9, (agc_refl (fs := []) (rs := [29, 30, 31, 999]) (F := T7))⟩, fun x1_16 x2_17 x3_18 ST19 hIv => ?_⟩
    obtain ⟨rfl, b20, b21, bT19, T19, LT19, rfl, hI22, g23⟩ := hIv
    suffices hs : ∀ (R48 : Nat → Int32 → Int32 → cs → Prop), (∀ zx1 zx2 zx3 zS, ((52 : Nat) = zx1 ∧ B 0 513 zx2 ∧ B 1 16 zx3 ∧ ∃ (bT19 : Bool) (T19 : cF) (LT19 : cL), zS = (T19, LT19, PC a bT19 P) ∧ IMc T19 ∧ agc [] [29, 30, 31, 999] T7 T19) → (16 - zx3.toInt).toNat < (16 - x3_18.toInt).toNat → R48 zx1 zx2 zx3 zS) → b_Li_setLengths_48 UL 27 52 x2_17 x3_18 (T19, LT19, PC a bT19 P) R48 K from hs _ (fun _ _ _ _ h1 h2 => ⟨h1, h2⟩)
    intro R48 hR480
    have hR48 := fun {zx1} {zx2} {zx3} {zS} => hR480 zx1 zx2 zx3 zS
    unfold b_Li_setLengths_48
    refine ⟨fun hc => ?_, fun hc => ?_⟩
    · have hq24 := hc
      have b25 : B 16 16 (x3_18) := B_w (B_leR cqb_16_16_16 b21 hq24) (by decide +kernel) (by decide +kernel)
      refine ⟨fun yx1 yx3 yx4 yS => (52 : Nat) = yx1 ∧ B (-2147483648) 2147483647 yx3 ∧ B (-1) 15 yx4 ∧ ∃ (T29 : cF) (LT29 : cL), yS = (T29, LT29, PC a bT19 P) ∧ IMc T29 ∧ agc [] [54, 999] T19 T29, fun yx1 yx3 yx4 yS => (yx4.toInt - (-1)).toNat, ⟨rfl, (B_w (B_sub (B_mul cqb_2_2_2 (B_eq ((g23.1 27 1 rfl rfl).trans (g10.1 27 1 rfl rfl)) (show B 0 257 (FS5_1 27 1) from hI2 27 1)) (by decide +kernel) (by decide +kernel) (by decide +kernel)) cqb_2_2_2 (by decide +kernel) (by decide +kernel)) (by decide +kernel) (by decide +kernel)), (B_w cqb_15_15_15 (by decide +kernel) (by decide +kernel)), _, _, rfl, hI22, (agc_refl (fs := []) (rs := [54, 999]) (F := T19))⟩, fun x1_26 x3_27 x4_28 ST29 hIv => ?_⟩
      obtain ⟨rfl, b30, b31, T29, LT29, rfl, hI32, g33⟩ := hIv
      suffices hs : ∀ (R86 : Nat → Int32 → Int32 → cs → Prop), (∀ zx1 zx3 zx4 zS, ((52 : Nat) = zx1 ∧ B (-2147483648) 2147483647 zx3 ∧ B (-1) 15 zx4 ∧ ∃ (T29 : cF) (LT29 : cL), zS = (T29, LT29, PC a bT19 P) ∧ IMc T29 ∧ agc [] [54, 999] T19 T29) → (zx4.toInt - (-1)).toNat < (x4_28.toInt - (-1)).toNat → R86 zx1 zx3 zx4 zS) → b_Li_setLengths_86 UL 27 52 x3_27 x4_28 (T29, LT29, PC a bT19 P) R86 K from hs _ (fun _ _ _ _ h1 h2 => ⟨h1, h2⟩)
      intro R86 hR860
      have hR86 := fun {zx1} {zx3} {zx4} {zS} => hR860 zx1 zx3 zx4 zS
      unfold b_Li_setLengths_86
      refine ⟨fun hc => ?_, fun hc => ?_⟩
      · have hq34 := hc
        have b35 : B (-1) (-1) (x4_28) := B_w (B_ltL b31 cqb_0_0_0 hq34) (by decide +kernel) (by decide +kernel)
        have g39 := agc_tr (agc_refl (fs := [2701]) (rs := [28, 29, 30, 31, 54, 999]) (F := F)) g3 (by decide +kernel) (by decide +kernel)
        have g38 := agc_tr g39 g10 (by decide +kernel) (by decide +kernel)
        have g37 := agc_tr g38 g23 (by decide +kernel) (by decide +kernel)
        have g36 := agc_tr g37 g33 (by decide +kernel) (by decide +kernel)
        exact hK hI32 g36
      · have hq40 := (nlt_le hc)
        have b41 : B 0 15 (x4_28) := B_w (B_leR cqb_0_0_0 b31 hq40) (by decide +kernel) (by decide +kernel)
        refine ⟨(show c_cl UL 52 = 5 from cl_52), ?_⟩
        refine ⟨(show ¬ ((54 : Nat) = NU) from by decide +kernel), ?_⟩
        refine h_Li_takeThings_u27_x354 b41 hI32 (fun {v100_42} {FS100_43} {LFS100_43} b44 hI45 g46 => ?_)
        have g48 := agc_tr (agc_refl (fs := []) (rs := [54, 999]) (F := T19)) g33 (by decide +kernel) (by decide +kernel)
        have g47 := agc_tr g48 g46 (by decide +kernel) (by decide +kernel)
        have q49 : (0) ≤ (x4_28).toInt ∧ (x4_28).toInt ≤ (15) := (show B 0 15 (x4_28) from B_w b41 (by decide +kernel) (by decide +kernel))
        have e50 : (x4_28 + (-1)).toInt = ((x4_28).toInt + (-1)) := (t_add b41 cqb_m1_m1_m1 (by decide +kernel) (by decide +kernel)).trans (by rw [cqn_m1])
        have q51 : (-1) ≤ (x4_28 + (-1)).toInt ∧ (x4_28 + (-1)).toInt ≤ (14) := (show B (-1) 14 (x4_28 + (-1)) from B_w (B_add b41 cqb_m1_m1_m1 (by decide +kernel) (by decide +kernel)) (by decide +kernel) (by decide +kernel))
        exact hR86 ⟨rfl, (B_w (B_mul cqb_2_2_2 b44 (by decide +kernel) (by decide +kernel) (by decide +kernel)) (by decide +kernel) (by decide +kernel)), (B_w (B_add b41 cqb_m1_m1_m1 (by decide +kernel) (by decide +kernel)) (by decide +kernel) (by decide +kernel)), _, _, rfl, hI45, g47⟩ (by show ((x4_28 + (-1)).toInt - (-1)).toNat < (x4_28.toInt - (-1)).toNat; revert e50 q51; generalize (x4_28 + (-1)).toInt = dd0; intros; omega)
    · have hq52 := (nle_lt hc)
      have b53 : B 1 15 (x3_18) := B_w (B_ltL b21 cqb_16_16_16 hq52) (by decide +kernel) (by decide +kernel)
      refine ⟨(show c_cl UL 52 = 5 from cl_52), ?_⟩
      refine ⟨(show ¬ ((53 : Nat) = NU) from by decide +kernel), ?_⟩
      refine h_Li_makeLine_u27_x353 b53 (B_w (show B 0 256 (x2_17 / 2) from B_div2 b20 cqb_2_2_2 (by decide +kernel) (by decide +kernel) (by decide +kernel) (by decide +kernel)) (by decide +kernel) (by decide +kernel)) hI22 (fun {v63_54} {bFS63_55} {FS63_55} {LFS63_55} b56 hI57 g58 => ?_)
      have g60 := agc_tr (agc_refl (fs := []) (rs := [29, 30, 31, 999]) (F := T7)) g23 (by decide +kernel) (by decide +kernel)
      have g59 := agc_tr g60 g58 (by decide +kernel) (by decide +kernel)
      have q61 : (1) ≤ (x3_18).toInt ∧ (x3_18).toInt ≤ (15) := (show B 1 15 (x3_18) from B_w b53 (by decide +kernel) (by decide +kernel))
      have e62 : (x3_18 + 1).toInt = ((x3_18).toInt + 1) := (t_add b53 cqb_1_1_1 (by decide +kernel) (by decide +kernel)).trans (by rw [cqn_1])
      have q63 : (2) ≤ (x3_18 + 1).toInt ∧ (x3_18 + 1).toInt ≤ (16) := (show B 2 16 (x3_18 + 1) from B_w (B_add b53 cqb_1_1_1 (by decide +kernel) (by decide +kernel)) (by decide +kernel) (by decide +kernel))
      exact hR48 ⟨rfl, b56, (B_w (B_add b53 cqb_1_1_1 (by decide +kernel) (by decide +kernel)) (by decide +kernel) (by decide +kernel)), _, _, _, rfl, hI57, g59⟩ (by show (16 - (x3_18 + 1).toInt).toNat < (16 - x3_18.toInt).toNat; omega)
  · have hq64 := (nle_lt hc)
    have b65 : B 0 256 (x3_6) := B_w (B_ltL b8 (B_eq (g10.1 27 1 rfl rfl) (show B 0 257 (FS5_1 27 1) from hI2 27 1)) hq64) (by decide +kernel) (by decide +kernel)
    have b66 : B 1 257 (FS5_1 27 1) := B_w (B_eq (Eq.symm (g10.1 27 1 rfl rfl)) (B_ltR b8 (B_eq (g10.1 27 1 rfl rfl) (show B 0 257 (FS5_1 27 1) from hI2 27 1)) hq64)) (by decide +kernel) (by decide +kernel)
    have q67 : (0) ≤ (x3_6).toInt ∧ (x3_6).toInt ≤ (256) := (show B 0 256 (x3_6) from B_w b65 (by decide +kernel) (by decide +kernel))
    have q68 : (1) ≤ (FS5_1 27 1).toInt ∧ (FS5_1 27 1).toInt ≤ (257) := (show B 1 257 (FS5_1 27 1) from B_w b66 (by decide +kernel) (by decide +kernel))
    have e69 : (T7 27 1).toInt = (FS5_1 27 1).toInt := (congrArg Int32.toInt (g10.1 27 1 rfl rfl)).trans rfl
    have i70 : (x3_6).toInt < (T7 27 1).toInt := i_lt hq64
    refine ⟨(show ¬ ((30 : Nat) = NU) from by decide +kernel), ?_⟩
    refine ⟨(show c_cl UL 52 = 5 from cl_52), ?_⟩
    refine ⟨(show ¬ ((53 : Nat) = NU) from by decide +kernel), ?_⟩
    refine ⟨(show ¬ ((28 : Nat) = NU) from by decide +kernel), ?_⟩
    refine ⟨(show c_cl UL 28 = 902 from cl_28), ?_⟩
    refine ⟨(show vp_in (x3_6) 257 from vp_B b65 (by decide +kernel) (by decide +kernel)), ?_⟩
    refine ⟨(show c_cl UL 53 = 902 from cl_53), ?_⟩
    refine ⟨(show vp_in (T7 28 x3_6.toNatClampNeg) 257 from vp_B (B_eq (congrFun (g10.2 28 rfl rfl) x3_6.toNatClampNeg) (show B 0 256 (FS5_1 28 x3_6.toNatClampNeg) from hI2 28 x3_6.toNatClampNeg)) (by decide +kernel) (by decide +kernel)), ?_⟩
    refine ⟨(show c_cl UL 30 = 902 from cl_30), ?_⟩
    refine ⟨(show vp_in (x3_6) 514 from vp_B b65 (by decide +kernel) (by decide +kernel)), ?_⟩
    have hI71 := IMc_u (u := 30) (i := x3_6.toNatClampNeg) (v := T7 53 (T7 28 x3_6.toNatClampNeg).toNatClampNeg) hI9 (show B (-2147483648) 2147483647 (T7 53 (T7 28 x3_6.toNatClampNeg).toNatClampNeg) from (B_w (B_eq ((congrFun (g10.2 53 rfl rfl) (T7 28 x3_6.toNatClampNeg).toNatClampNeg).trans (congrFun (g3.2 53 rfl rfl) (T7 28 x3_6.toNatClampNeg).toNatClampNeg)) (B_any _)) (by decide +kernel) (by decide +kernel)))
    have g73 := agc_tr (agc_refl (fs := []) (rs := [30]) (F := FS5_1)) g10 (by decide +kernel) (by decide +kernel)
    have g72 := agc_r (u := 30) (w := upd (T7 30) x3_6.toNatClampNeg (T7 53 (T7 28 x3_6.toNatClampNeg).toNatClampNeg)) g73 rfl (by decide +kernel)
    have e74 : (x3_6 + 1).toInt = ((x3_6).toInt + 1) := (t_add b65 cqb_1_1_1 (by decide +kernel) (by decide +kernel)).trans (by rw [cqn_1])
    have q75 : (1) ≤ (x3_6 + 1).toInt ∧ (x3_6 + 1).toInt ≤ (257) := (show B 1 257 (x3_6 + 1) from B_w (B_add b65 cqb_1_1_1 (by decide +kernel) (by decide +kernel)) (by decide +kernel) (by decide +kernel))
    exact hR15 ⟨rfl, rfl, (B_w (B_add b65 cqb_1_1_1 (by decide +kernel) (by decide +kernel)) (by decide +kernel) (by decide +kernel)), _, _, rfl, hI71, g72⟩ (by show (257 - (x3_6 + 1).toInt).toNat < (257 - x3_6.toInt).toNat; omega)
set_option maxRecDepth 20000 in
set_option maxHeartbeats 4000000 in
theorem h_Li_setLengths_u27_x152_b1 {a : Bool} {P : Nat → Nat → Nat} {F : cF} {L : cL} {K : cs → Prop} (hI : IMc F) (hK : ∀ {bZ : Bool} {Z : cF} {LZ : cL}, IMc Z → agc [2701] [28, 29, 30, 31, 54, 999] F Z → K (Z, LZ, PC a bZ P)) : p_Li_setLengths UL 27 52 (F, L, PC a true P) K := by
  unfold p_Li_setLengths
  refine ⟨(show c_cl UL 52 = 5 from cl_52), ?_⟩
  refine ⟨(show ¬ ((53 : Nat) = NU) from by decide +kernel), ?_⟩
  refine h_Li_sortSymbols_u27_x153 hI (fun {FS5_1} {LFS5_1} hI2 g3 => ?_)
  refine ⟨fun yx1 yx2 yx3 yS => (52 : Nat) = yx1 ∧ (FS5_1 27 1) = yx2 ∧ B 0 257 yx3 ∧ ∃ (T7 : cF) (LT7 : cL), yS = (T7, LT7, PC a true P) ∧ IMc T7 ∧ agc [] [31] FS5_1 T7, fun yx1 yx2 yx3 yS => (257 - yx3.toInt).toNat, ⟨rfl, rfl, (B_w cqb_0_0_0 (by decide +kernel) (by decide +kernel)), _, _, rfl, hI2, (agc_refl (fs := []) (rs := [31]) (F := FS5_1))⟩, fun x1_4 x2_5 x3_6 ST7 hIv => ?_⟩
  obtain ⟨rfl, rfl, b8, T7, LT7, rfl, hI9, g10⟩ := hIv
  suffices hs : ∀ (R15 : Nat → Int32 → Int32 → cs → Prop), (∀ zx1 zx2 zx3 zS, ((52 : Nat) = zx1 ∧ (FS5_1 27 1) = zx2 ∧ B 0 257 zx3 ∧ ∃ (T7 : cF) (LT7 : cL), zS = (T7, LT7, PC a true P) ∧ IMc T7 ∧ agc [] [31] FS5_1 T7) → (257 - zx3.toInt).toNat < (257 - x3_6.toInt).toNat → R15 zx1 zx2 zx3 zS) → b_Li_setLengths_15 UL 27 52 (FS5_1 27 1) x3_6 (T7, LT7, PC a true P) R15 K from hs _ (fun _ _ _ _ h1 h2 => ⟨h1, h2⟩)
  intro R15 hR150
  have hR15 := fun {zx1} {zx2} {zx3} {zS} => hR150 zx1 zx2 zx3 zS
  unfold b_Li_setLengths_15
  refine ⟨fun hc => ?_, fun hc => ?_⟩
  · have hq11 := hc
    have q12 : (0) ≤ (FS5_1 27 1).toInt ∧ (FS5_1 27 1).toInt ≤ (257) := (show B 0 257 (FS5_1 27 1) from hI2 27 1)
    have e13 : (T7 27 1).toInt = (FS5_1 27 1).toInt := (congrArg Int32.toInt (g10.1 27 1 rfl rfl)).trans rfl
    have q14 : (0) ≤ (x3_6).toInt ∧ (x3_6).toInt ≤ (257) := (show B 0 257 (x3_6) from B_w b8 (by decide +kernel) (by decide +kernel))
    have i15 : (T7 27 1).toInt ≤ (x3_6).toInt := i_le hq11
    refine ⟨fun yx1 yx2 yx3 yS => (52 : Nat) = yx1 ∧ B 0 513 yx2 ∧ B 1 16 yx3 ∧ ∃ (bT19 : Bool) (T19 : cF) (LT19 : cL), yS = (T19, LT19, PC a bT19 P) ∧ IMc T19 ∧ agc [] [29, 30, 31, 999] T7 T19, fun yx1 yx2 yx3 yS => (16 - yx3.toInt).toNat, ⟨rfl, (B_w (show B 0 257 (FS5_1 27 1) from hI2 27 1) (by decide +kernel) (by decide +kernel)), (B_w cqb_1_1_1 (by decide +kernel) (by decide +kernel)), _, _, _, rfl, hI9, (agc_refl (fs := []) (rs := [29, 30, 31, 999]) (F := T7))⟩, fun x1_16 x2_17 x3_18 ST19 hIv => ?_⟩
    obtain ⟨rfl, b20, b21, bT19, T19, LT19, rfl, hI22, g23⟩ := hIv
    suffices hs : ∀ (R48 : Nat → Int32 → Int32 → cs → Prop), (∀ zx1 zx2 zx3 zS, ((52 : Nat) = zx1 ∧ B 0 513 zx2 ∧ B 1 16 zx3 ∧ ∃ (bT19 : Bool) (T19 : cF) (LT19 : cL), zS = (T19, LT19, PC a bT19 P) ∧ IMc T19 ∧ agc [] [29, 30, 31, 999] T7 T19) → (16 - zx3.toInt).toNat < (16 - x3_18.toInt).toNat → R48 zx1 zx2 zx3 zS) → b_Li_setLengths_48 UL 27 52 x2_17 x3_18 (T19, LT19, PC a bT19 P) R48 K from hs _ (fun _ _ _ _ h1 h2 => ⟨h1, h2⟩)
    intro R48 hR480
    have hR48 := fun {zx1} {zx2} {zx3} {zS} => hR480 zx1 zx2 zx3 zS
    unfold b_Li_setLengths_48
    refine ⟨fun hc => ?_, fun hc => ?_⟩
    · have hq24 := hc
      have b25 : B 16 16 (x3_18) := B_w (B_leR cqb_16_16_16 b21 hq24) (by decide +kernel) (by decide +kernel)
      refine ⟨fun yx1 yx3 yx4 yS => (52 : Nat) = yx1 ∧ B (-2147483648) 2147483647 yx3 ∧ B (-1) 15 yx4 ∧ ∃ (T29 : cF) (LT29 : cL), yS = (T29, LT29, PC a bT19 P) ∧ IMc T29 ∧ agc [] [54, 999] T19 T29, fun yx1 yx3 yx4 yS => (yx4.toInt - (-1)).toNat, ⟨rfl, (B_w (B_sub (B_mul cqb_2_2_2 (B_eq ((g23.1 27 1 rfl rfl).trans (g10.1 27 1 rfl rfl)) (show B 0 257 (FS5_1 27 1) from hI2 27 1)) (by decide +kernel) (by decide +kernel) (by decide +kernel)) cqb_2_2_2 (by decide +kernel) (by decide +kernel)) (by decide +kernel) (by decide +kernel)), (B_w cqb_15_15_15 (by decide +kernel) (by decide +kernel)), _, _, rfl, hI22, (agc_refl (fs := []) (rs := [54, 999]) (F := T19))⟩, fun x1_26 x3_27 x4_28 ST29 hIv => ?_⟩
      obtain ⟨rfl, b30, b31, T29, LT29, rfl, hI32, g33⟩ := hIv
      suffices hs : ∀ (R86 : Nat → Int32 → Int32 → cs → Prop), (∀ zx1 zx3 zx4 zS, ((52 : Nat) = zx1 ∧ B (-2147483648) 2147483647 zx3 ∧ B (-1) 15 zx4 ∧ ∃ (T29 : cF) (LT29 : cL), zS = (T29, LT29, PC a bT19 P) ∧ IMc T29 ∧ agc [] [54, 999] T19 T29) → (zx4.toInt - (-1)).toNat < (x4_28.toInt - (-1)).toNat → R86 zx1 zx3 zx4 zS) → b_Li_setLengths_86 UL 27 52 x3_27 x4_28 (T29, LT29, PC a bT19 P) R86 K from hs _ (fun _ _ _ _ h1 h2 => ⟨h1, h2⟩)
      intro R86 hR860
      have hR86 := fun {zx1} {zx3} {zx4} {zS} => hR860 zx1 zx3 zx4 zS
      unfold b_Li_setLengths_86
      refine ⟨fun hc => ?_, fun hc => ?_⟩
      · have hq34 := hc
        have b35 : B (-1) (-1) (x4_28) := B_w (B_ltL b31 cqb_0_0_0 hq34) (by decide +kernel) (by decide +kernel)
        have g39 := agc_tr (agc_refl (fs := [2701]) (rs := [28, 29, 30, 31, 54, 999]) (F := F)) g3 (by decide +kernel) (by decide +kernel)
        have g38 := agc_tr g39 g10 (by decide +kernel) (by decide +kernel)
        have g37 := agc_tr g38 g23 (by decide +kernel) (by decide +kernel)
        have g36 := agc_tr g37 g33 (by decide +kernel) (by decide +kernel)
        exact hK hI32 g36
      · have hq40 := (nlt_le hc)
        have b41 : B 0 15 (x4_28) := B_w (B_leR cqb_0_0_0 b31 hq40) (by decide +kernel) (by decide +kernel)
        refine ⟨(show c_cl UL 52 = 5 from cl_52), ?_⟩
        refine ⟨(show ¬ ((54 : Nat) = NU) from by decide +kernel), ?_⟩
        refine h_Li_takeThings_u27_x354 b41 hI32 (fun {v100_42} {FS100_43} {LFS100_43} b44 hI45 g46 => ?_)
        have g48 := agc_tr (agc_refl (fs := []) (rs := [54, 999]) (F := T19)) g33 (by decide +kernel) (by decide +kernel)
        have g47 := agc_tr g48 g46 (by decide +kernel) (by decide +kernel)
        have q49 : (0) ≤ (x4_28).toInt ∧ (x4_28).toInt ≤ (15) := (show B 0 15 (x4_28) from B_w b41 (by decide +kernel) (by decide +kernel))
        have e50 : (x4_28 + (-1)).toInt = ((x4_28).toInt + (-1)) := (t_add b41 cqb_m1_m1_m1 (by decide +kernel) (by decide +kernel)).trans (by rw [cqn_m1])
        have q51 : (-1) ≤ (x4_28 + (-1)).toInt ∧ (x4_28 + (-1)).toInt ≤ (14) := (show B (-1) 14 (x4_28 + (-1)) from B_w (B_add b41 cqb_m1_m1_m1 (by decide +kernel) (by decide +kernel)) (by decide +kernel) (by decide +kernel))
        exact hR86 ⟨rfl, (B_w (B_mul cqb_2_2_2 b44 (by decide +kernel) (by decide +kernel) (by decide +kernel)) (by decide +kernel) (by decide +kernel)), (B_w (B_add b41 cqb_m1_m1_m1 (by decide +kernel) (by decide +kernel)) (by decide +kernel) (by decide +kernel)), _, _, rfl, hI45, g47⟩ (by show ((x4_28 + (-1)).toInt - (-1)).toNat < (x4_28.toInt - (-1)).toNat; revert e50 q51; generalize (x4_28 + (-1)).toInt = dd0; intros; omega)
    · have hq52 := (nle_lt hc)
      have b53 : B 1 15 (x3_18) := B_w (B_ltL b21 cqb_16_16_16 hq52) (by decide +kernel) (by decide +kernel)
      refine ⟨(show c_cl UL 52 = 5 from cl_52), ?_⟩
      refine ⟨(show ¬ ((53 : Nat) = NU) from by decide +kernel), ?_⟩
      refine h_Li_makeLine_u27_x353 b53 (B_w (show B 0 256 (x2_17 / 2) from B_div2 b20 cqb_2_2_2 (by decide +kernel) (by decide +kernel) (by decide +kernel) (by decide +kernel)) (by decide +kernel) (by decide +kernel)) hI22 (fun {v63_54} {bFS63_55} {FS63_55} {LFS63_55} b56 hI57 g58 => ?_)
      have g60 := agc_tr (agc_refl (fs := []) (rs := [29, 30, 31, 999]) (F := T7)) g23 (by decide +kernel) (by decide +kernel)
      have g59 := agc_tr g60 g58 (by decide +kernel) (by decide +kernel)
      have q61 : (1) ≤ (x3_18).toInt ∧ (x3_18).toInt ≤ (15) := (show B 1 15 (x3_18) from B_w b53 (by decide +kernel) (by decide +kernel))
      have e62 : (x3_18 + 1).toInt = ((x3_18).toInt + 1) := (t_add b53 cqb_1_1_1 (by decide +kernel) (by decide +kernel)).trans (by rw [cqn_1])
      have q63 : (2) ≤ (x3_18 + 1).toInt ∧ (x3_18 + 1).toInt ≤ (16) := (show B 2 16 (x3_18 + 1) from B_w (B_add b53 cqb_1_1_1 (by decide +kernel) (by decide +kernel)) (by decide +kernel) (by decide +kernel))
      exact hR48 ⟨rfl, b56, (B_w (B_add b53 cqb_1_1_1 (by decide +kernel) (by decide +kernel)) (by decide +kernel) (by decide +kernel)), _, _, _, rfl, hI57, g59⟩ (by show (16 - (x3_18 + 1).toInt).toNat < (16 - x3_18.toInt).toNat; omega)
  · have hq64 := (nle_lt hc)
    have b65 : B 0 256 (x3_6) := B_w (B_ltL b8 (B_eq (g10.1 27 1 rfl rfl) (show B 0 257 (FS5_1 27 1) from hI2 27 1)) hq64) (by decide +kernel) (by decide +kernel)
    have b66 : B 1 257 (FS5_1 27 1) := B_w (B_eq (Eq.symm (g10.1 27 1 rfl rfl)) (B_ltR b8 (B_eq (g10.1 27 1 rfl rfl) (show B 0 257 (FS5_1 27 1) from hI2 27 1)) hq64)) (by decide +kernel) (by decide +kernel)
    have q67 : (0) ≤ (x3_6).toInt ∧ (x3_6).toInt ≤ (256) := (show B 0 256 (x3_6) from B_w b65 (by decide +kernel) (by decide +kernel))
    have q68 : (1) ≤ (FS5_1 27 1).toInt ∧ (FS5_1 27 1).toInt ≤ (257) := (show B 1 257 (FS5_1 27 1) from B_w b66 (by decide +kernel) (by decide +kernel))
    have e69 : (T7 27 1).toInt = (FS5_1 27 1).toInt := (congrArg Int32.toInt (g10.1 27 1 rfl rfl)).trans rfl
    have i70 : (x3_6).toInt < (T7 27 1).toInt := i_lt hq64
    refine ⟨(show ¬ ((31 : Nat) = NU) from by decide +kernel), ?_⟩
    refine ⟨(show c_cl UL 52 = 5 from cl_52), ?_⟩
    refine ⟨(show ¬ ((53 : Nat) = NU) from by decide +kernel), ?_⟩
    refine ⟨(show ¬ ((28 : Nat) = NU) from by decide +kernel), ?_⟩
    refine ⟨(show c_cl UL 28 = 902 from cl_28), ?_⟩
    refine ⟨(show vp_in (x3_6) 257 from vp_B b65 (by decide +kernel) (by decide +kernel)), ?_⟩
    refine ⟨(show c_cl UL 53 = 902 from cl_53), ?_⟩
    refine ⟨(show vp_in (T7 28 x3_6.toNatClampNeg) 257 from vp_B (B_eq (congrFun (g10.2 28 rfl rfl) x3_6.toNatClampNeg) (show B 0 256 (FS5_1 28 x3_6.toNatClampNeg) from hI2 28 x3_6.toNatClampNeg)) (by decide +kernel) (by decide +kernel)), ?_⟩
    refine ⟨(show c_cl UL 31 = 902 from cl_31), ?_⟩
    refine ⟨(show vp_in (x3_6) 514 from vp_B b65 (by decide +kernel) (by decide +kernel)), ?_⟩
    have hI71 := IMc_u (u := 31) (i := x3_6.toNatClampNeg) (v := T7 53 (T7 28 x3_6.toNatClampNeg).toNatClampNeg) hI9 (show B (-2147483648) 2147483647 (T7 53 (T7 28 x3_6.toNatClampNeg).toNatClampNeg) from (B_w (B_eq ((congrFun (g10.2 53 rfl rfl) (T7 28 x3_6.toNatClampNeg).toNatClampNeg).trans (congrFun (g3.2 53 rfl rfl) (T7 28 x3_6.toNatClampNeg).toNatClampNeg)) (B_any _)) (by decide +kernel) (by decide +kernel)))
    have g73 := agc_tr (agc_refl (fs := []) (rs := [31]) (F := FS5_1)) g10 (by decide +kernel) (by decide +kernel)
    have g72 := agc_r (u := 31) (w := upd (T7 31) x3_6.toNatClampNeg (T7 53 (T7 28 x3_6.toNatClampNeg).toNatClampNeg)) g73 rfl (by decide +kernel)
    have e74 : (x3_6 + 1).toInt = ((x3_6).toInt + 1) := (t_add b65 cqb_1_1_1 (by decide +kernel) (by decide +kernel)).trans (by rw [cqn_1])
    have q75 : (1) ≤ (x3_6 + 1).toInt ∧ (x3_6 + 1).toInt ≤ (257) := (show B 1 257 (x3_6 + 1) from B_w (B_add b65 cqb_1_1_1 (by decide +kernel) (by decide +kernel)) (by decide +kernel) (by decide +kernel))
    exact hR15 ⟨rfl, rfl, (B_w (B_add b65 cqb_1_1_1 (by decide +kernel) (by decide +kernel)) (by decide +kernel) (by decide +kernel)), _, _, rfl, hI71, g72⟩ (by show (257 - (x3_6 + 1).toInt).toNat < (257 - x3_6.toInt).toNat; omega)
theorem h_Li_setLengths_u27_x152 {a : Bool} {b : Bool} {P : Nat → Nat → Nat} {F : cF} {L : cL} {K : cs → Prop} (hI : IMc F) (hK : ∀ {bZ : Bool} {Z : cF} {LZ : cL}, IMc Z → agc [2701] [28, 29, 30, 31, 54, 999] F Z → K (Z, LZ, PC a bZ P)) : p_Li_setLengths UL 27 52 (F, L, PC a b P) K := by
  cases b
  · exact h_Li_setLengths_u27_x152_b0 hI (fun hI g => hK hI (agc_tr agc_refl g (by decide +kernel) (by decide +kernel)))
  · exact h_Li_setLengths_u27_x152_b1 hI (fun hI g => hK hI (agc_tr agc_refl g (by decide +kernel) (by decide +kernel)))
theorem h_Li_setLengths_u27_x1i32 {a : Bool} {b : Bool} {P : Nat → Nat → Nat} {x1 : Int32} {F : cF} {L : cL} {K : cs → Prop} (hx : B 0 1 x1) (hI : IMc F) (hK : ∀ {bZ : Bool} {Z : cF} {LZ : cL}, IMc Z → agc [2701] [28, 29, 30, 31, 35, 41, 999] F Z → K (Z, LZ, PC a bZ P)) : p_Li_setLengths UL 27 (PC a b P 32 x1.toNatClampNeg) (F, L, PC a b P) K := by
  rcases sp_01 hx with rfl | rfl
  · exact h_Li_setLengths_u27_x133 hI (fun hI g => hK hI (agc_tr agc_refl g (by decide +kernel) (by decide +kernel)))
  · exact h_Li_setLengths_u27_x139 hI (fun hI g => hK hI (agc_tr agc_refl g (by decide +kernel) (by decide +kernel)))
theorem h_Li_setLengths_u27_x1i45 {a : Bool} {b : Bool} {P : Nat → Nat → Nat} {x1 : Int32} {F : cF} {L : cL} {K : cs → Prop} (hx : B 0 1 x1) (hI : IMc F) (hK : ∀ {bZ : Bool} {Z : cF} {LZ : cL}, IMc Z → agc [2701] [28, 29, 30, 31, 48, 54, 999] F Z → K (Z, LZ, PC a bZ P)) : p_Li_setLengths UL 27 (PC a b P 45 x1.toNatClampNeg) (F, L, PC a b P) K := by
  rcases sp_01 hx with rfl | rfl
  · exact h_Li_setLengths_u27_x146 hI (fun hI g => hK hI (agc_tr agc_refl g (by decide +kernel) (by decide +kernel)))
  · exact h_Li_setLengths_u27_x152 hI (fun hI g => hK hI (agc_tr agc_refl g (by decide +kernel) (by decide +kernel)))
