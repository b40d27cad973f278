set_option maxRecDepth 20000 in
set_option maxHeartbeats 4000000 in
theorem h_putBits {x1 : Int32} {x2 : Int32} {S : ms} {K : ms → Prop} (b_x2 : B 0 262140 x2) (hI : IM S) (pre0 : (0 ≤ (S.1 33).toInt) ∧ (((S.1 33).toInt ≤ (gb (S.1 32).toInt)) ∧ ((S.1 32).toInt ≤ 7))) (pre1 : (((4 * (S.1 9).toInt) + (S.1 32).toInt) + x2.toInt) ≤ 262140) (hK : ∀ {Z : ms}, IM Z → ag [9, 32, 33] [8] S Z → ((0 ≤ (Z.1 33).toInt) ∧ (((Z.1 33).toInt ≤ (gb (Z.1 32).toInt)) ∧ ((Z.1 32).toInt ≤ 7))) → (((4 * (Z.1 9).toInt) + (Z.1 32).toInt) ≤ (((4 * (S.1 9).toInt) + (S.1 32).toInt) + x2.toInt)) → ((S.1 9).toInt ≤ (Z.1 9).toInt) → ((((S.1 32).toInt + x2.toInt) = ((S.1 32).toInt + 1)) → (((Z.1 32).toInt = 0) ∨ ((Z.1 32).toInt = ((S.1 32).toInt + 1)))) → K Z) : p_putBits x1 x2 S K := by
  have q1 : (0) ≤ (S.1 32).toInt ∧ (S.1 32).toInt ≤ (8) := (show B 0 8 (S.1 32) from bf_32 hI)
  have q2 : (0) ≤ (S.1 9).toInt ∧ (S.1 9).toInt ≤ (65536) := (show B 0 65536 (S.1 9) from bf_9 hI)
  have q3 : (0) ≤ (x2).toInt ∧ (x2).toInt ≤ (262140) := (show B 0 262140 (x2) from B_w b_x2 (by decide +kernel) (by decide +kernel))
  unfold p_putBits
  have e11 : (x2 - 1).toInt = ((x2).toInt - 1) := (t_sub b_x2 cqb_1_1_1 (by decide +kernel) (by decide +kernel)).trans (by rw [cqn_1])
  have q12 : (-1) ≤ (x2 - 1).toInt ∧ (x2 - 1).toInt ≤ (262139) := (show B (-1) 262139 (x2 - 1) from B_w (B_sub b_x2 cqb_1_1_1 (by decide +kernel) (by decide +kernel)) (by decide +kernel) (by decide +kernel))
  refine ⟨fun yx1 yx3 yS => x1 = yx1 ∧ B (-1) 262139 yx3 ∧ IM yS ∧ ag [9, 32, 33] [8] S yS ∧ ((0 ≤ (yS.1 33).toInt) ∧ (((yS.1 33).toInt ≤ (gb (yS.1 32).toInt)) ∧ ((yS.1 32).toInt ≤ 7))) ∧ (((((4 * (yS.1 9).toInt) + (yS.1 32).toInt) + yx3.toInt) + 1) ≤ (((4 * (S.1 9).toInt) + (S.1 32).toInt) + x2.toInt)) ∧ ((S.1 9).toInt ≤ (yS.1 9).toInt) ∧ ((yx3.toInt + 1) ≤ x2.toInt) ∧ (((yx3.toInt + 1) = x2.toInt) → ((yS.1 32).toInt = (S.1 32).toInt)) ∧ (((x2.toInt = 1) ∧ (yx3.toInt = (-1))) → (((yS.1 32).toInt = 0) ∨ ((yS.1 32).toInt = ((S.1 32).toInt + 1)))), fun yx1 yx3 yS => (yx3.toInt - (-1)).toNat, ⟨rfl, (B_w (B_sub b_x2 cqb_1_1_1 (by decide +kernel) (by decide +kernel)) (by decide +kernel) (by decide +kernel)), hI, (ag_refl (fs := [9, 32, 33]) (rs := [8]) (S := S)), (by show (0 ≤ (S.1 33).toInt) ∧ (((S.1 33).toInt ≤ (gb (S.1 32).toInt)) ∧ ((S.1 32).toInt ≤ 7)); first | with_reducible assumption | omega), (by show ((((4 * (S.1 9).toInt) + (S.1 32).toInt) + (x2 - 1).toInt) + 1) ≤ (((4 * (S.1 9).toInt) + (S.1 32).toInt) + x2.toInt); first | with_reducible assumption | omega), (by show (S.1 9).toInt ≤ (S.1 9).toInt; first | with_reducible assumption | omega), (by show ((x2 - 1).toInt + 1) ≤ x2.toInt; first | with_reducible assumption | omega), (by show (((x2 - 1).toInt + 1) = x2.toInt) → ((S.1 32).toInt = (S.1 32).toInt); first | with_reducible assumption | exact (fun _ => by with_reducible assumption) | omega), (by show ((x2.toInt = 1) ∧ ((x2 - 1).toInt = (-1))) → (((S.1 32).toInt = 0) ∨ ((S.1 32).toInt = ((S.1 32).toInt + 1))); first | with_reducible assumption | exact (fun _ => by with_reducible assumption) | omega)⟩, fun x1_4 x3_5 T6 hIv => ?_⟩
  obtain ⟨rfl, b7, hI8, g9, r10, r13, r14, r15, r16, r17⟩ := hIv
  suffices hs : ∀ (R4 : Int32 → Int32 → ms → Prop), (∀ zx1 zx3 zS, (x1 = zx1 ∧ B (-1) 262139 zx3 ∧ IM zS ∧ ag [9, 32, 33] [8] S zS ∧ ((0 ≤ (zS.1 33).toInt) ∧ (((zS.1 33).toInt ≤ (gb (zS.1 32).toInt)) ∧ ((zS.1 32).toInt ≤ 7))) ∧ (((((4 * (zS.1 9).toInt) + (zS.1 32).toInt) + zx3.toInt) + 1) ≤ (((4 * (S.1 9).toInt) + (S.1 32).toInt) + x2.toInt)) ∧ ((S.1 9).toInt ≤ (zS.1 9).toInt) ∧ ((zx3.toInt + 1) ≤ x2.toInt) ∧ (((zx3.toInt + 1) = x2.toInt) → ((zS.1 32).toInt = (S.1 32).toInt)) ∧ (((x2.toInt = 1) ∧ (zx3.toInt = (-1))) → (((zS.1 32).toInt = 0) ∨ ((zS.1 32).toInt = ((S.1 32).toInt + 1))))) → (zx3.toInt - (-1)).toNat < (x3_5.toInt - (-1)).toNat → R4 zx1 zx3 zS) → b_putBits_4 x1 x3_5 T6 R4 K from hs _ (fun _ _ _ h1 h2 => ⟨h1, h2⟩)
  intro R4 hR40
  have hR4 := fun {zx1} {zx3} {zS} => hR40 zx1 zx3 zS
  have q18 : (0) ≤ (T6.1 32).toInt ∧ (T6.1 32).toInt ≤ (8) := (show B 0 8 (T6.1 32) from bf_32 hI8)
  have q19 : (0) ≤ (T6.1 9).toInt ∧ (T6.1 9).toInt ≤ (65536) := (show B 0 65536 (T6.1 9) from bf_9 hI8)
  have q20 : (-1) ≤ (x3_5).toInt ∧ (x3_5).toInt ≤ (262139) := (show B (-1) 262139 (x3_5) from B_w b7 (by decide +kernel) (by decide +kernel))
  have k21 := gb_7 (T6.1 32).toInt
  have b22 : B 0 7 (T6.1 32) := ⟨by omega, by omega⟩
  have b23 : B 0 127 (T6.1 33) := ⟨by omega, by omega⟩
  have b24 : B 0 65535 (T6.1 9) := ⟨by omega, by omega⟩
  unfold b_putBits_4
  refine ⟨fun hc => ?_, fun hc => ?_⟩
  · have hq25 := hc
    have b26 : B (-1) (-1) (x3_5) := B_w (B_ltL b7 cqb_0_0_0 hq25) (by decide +kernel) (by decide +kernel)
    have q27 : (-1) ≤ (x3_5).toInt ∧ (x3_5).toInt ≤ (-1) := (show B (-1) (-1) (x3_5) from B_w b26 (by decide +kernel) (by decide +kernel))
    have g28 := ag_tr (ag_refl (fs := [9, 32, 33]) (rs := [8]) (S := S)) g9 (by decide +kernel) (by decide +kernel)
    exact hK hI8 g28 (by show (0 ≤ (T6.1 33).toInt) ∧ (((T6.1 33).toInt ≤ (gb (T6.1 32).toInt)) ∧ ((T6.1 32).toInt ≤ 7)); first | with_reducible assumption | omega) (by show ((4 * (T6.1 9).toInt) + (T6.1 32).toInt) ≤ (((4 * (S.1 9).toInt) + (S.1 32).toInt) + x2.toInt); first | with_reducible assumption | omega) (by show (S.1 9).toInt ≤ (T6.1 9).toInt; first | with_reducible assumption | omega) (by show (((S.1 32).toInt + x2.toInt) = ((S.1 32).toInt + 1)) → (((T6.1 32).toInt = 0) ∨ ((T6.1 32).toInt = ((S.1 32).toInt + 1))); first | with_reducible assumption | exact (fun _ => by with_reducible assumption) | omega)
  · have hq29 := (nlt_le hc)
    have b30 : B 0 262139 (x3_5) := B_w (B_leR cqb_0_0_0 b7 hq29) (by decide +kernel) (by decide +kernel)
    have q31 : (0) ≤ (x3_5).toInt ∧ (x3_5).toInt ≤ (262139) := (show B 0 262139 (x3_5) from B_w b30 (by decide +kernel) (by decide +kernel))
    refine ⟨fun hc => ?_, fun hc => ?_⟩
    · have e32 : ((T6.1 32) + 1).toInt = ((T6.1 32).toInt + 1) := (t_add b22 cqb_1_1_1 (by decide +kernel) (by decide +kernel)).trans (by rw [cqn_1])
      have q33 : (1) ≤ ((T6.1 32) + 1).toInt ∧ ((T6.1 32) + 1).toInt ≤ (8) := (show B 1 8 ((T6.1 32) + 1) from B_w (B_add b22 cqb_1_1_1 (by decide +kernel) (by decide +kernel)) (by decide +kernel) (by decide +kernel))
      have i34 : ((T6.1 32) + 1).toInt ≠ (8 : Int32).toInt := i_ne hc
      have n35 : (8 : Int32).toInt = 8 := cqn_8
      unfold b_putBits_76
      have hI36 := IM_f (k := 33) (v := (2 * (T6.1 33)) + ((x1 >>> (x3_5 &&& 31 : Int32) : Int32) &&& 1)) hI8 (B_add (B_mul cqb_2_2_2 b23 (by decide +kernel) (by decide +kernel) (by decide +kernel)) (show B 0 1 ((x1 >>> (x3_5 &&& 31 : Int32) : Int32) &&& 1) from B_and (k := 1) (by decide +kernel) (by decide +kernel)) (by decide +kernel) (by decide +kernel)) (by decide +kernel) (by decide +kernel)
      have hI37 := IM_f (k := 32) (v := (T6.1 32) + 1) hI36 (B_add b22 cqb_1_1_1 (by decide +kernel) (by decide +kernel)) (by decide +kernel) (by decide +kernel)
      have g40 := ag_tr (ag_refl (fs := [9, 32, 33]) (rs := [8]) (S := S)) g9 (by decide +kernel) (by decide +kernel)
      have g39 := ag_f (k := 33) (v := (2 * (T6.1 33)) + ((x1 >>> (x3_5 &&& 31 : Int32) : Int32) &&& 1)) g40 (by decide +kernel)
      have g38 := ag_f (k := 32) (v := (T6.1 32) + 1) g39 (by decide +kernel)
      have k41 : (T6.1 32).toInt ≤ 6 → gb ((T6.1 32) + 1).toInt = 2 * gb (T6.1 32).toInt + 1 := fun h => gb_s (by omega) (by omega) h
      have e42 : (2 * (T6.1 33)).toInt = (2 * (T6.1 33).toInt) := (t_mul cqb_2_2_2 b23 (by decide +kernel) (by decide +kernel) (by decide +kernel)).trans (by rw [cqn_2])
      have q43 : (0) ≤ (2 * (T6.1 33)).toInt ∧ (2 * (T6.1 33)).toInt ≤ (254) := (show B 0 254 (2 * (T6.1 33)) from B_w (B_mul cqb_2_2_2 b23 (by decide +kernel) (by decide +kernel) (by decide +kernel)) (by decide +kernel) (by decide +kernel))
      have q44 : (0) ≤ ((x1 >>> (x3_5 &&& 31 : Int32) : Int32) &&& 1).toInt ∧ ((x1 >>> (x3_5 &&& 31 : Int32) : Int32) &&& 1).toInt ≤ (1) := (show B 0 1 ((x1 >>> (x3_5 &&& 31 : Int32) : Int32) &&& 1) from B_and (k := 1) (by decide +kernel) (by decide +kernel))
      have e45 : ((2 * (T6.1 33)) + ((x1 >>> (x3_5 &&& 31 : Int32) : Int32) &&& 1)).toInt = ((2 * (T6.1 33).toInt) + ((x1 >>> (x3_5 &&& 31 : Int32) : Int32) &&& 1).toInt) := (t_add (B_mul cqb_2_2_2 b23 (by decide +kernel) (by decide +kernel) (by decide +kernel)) (show B 0 1 ((x1 >>> (x3_5 &&& 31 : Int32) : Int32) &&& 1) from B_and (k := 1) (by decide +kernel) (by decide +kernel)) (by decide +kernel) (by decide +kernel)).trans (by rw [e42])
      have q46 : (0) ≤ ((2 * (T6.1 33)) + ((x1 >>> (x3_5 &&& 31 : Int32) : Int32) &&& 1)).toInt ∧ ((2 * (T6.1 33)) + ((x1 >>> (x3_5 &&& 31 : Int32) : Int32) &&& 1)).toInt ≤ (255) := (show B 0 255 ((2 * (T6.1 33)) + ((x1 >>> (x3_5 &&& 31 : Int32) : Int32) &&& 1)) from B_w (B_add (B_mul cqb_2_2_2 b23 (by decide +kernel) (by decide +kernel) (by decide +kernel)) (show B 0 1 ((x1 >>> (x3_5 &&& 31 : Int32) : Int32) &&& 1) from B_and (k := 1) (by decide +kernel) (by decide +kernel)) (by decide +kernel) (by decide +kernel)) (by decide +kernel) (by decide +kernel))
      have e47 : (x3_5 + (-1)).toInt = ((x3_5).toInt + (-1)) := (t_add b30 cqb_m1_m1_m1 (by decide +kernel) (by decide +kernel)).trans (by rw [cqn_m1])
      have q48 : (-1) ≤ (x3_5 + (-1)).toInt ∧ (x3_5 + (-1)).toInt ≤ (262138) := (show B (-1) 262138 (x3_5 + (-1)) from B_w (B_add b30 cqb_m1_m1_m1 (by decide +kernel) (by decide +kernel)) (by decide +kernel) (by decide +kernel))
      exact hR4 ⟨rfl, (B_w (B_add b30 cqb_m1_m1_m1 (by decide +kernel) (by decide +kernel)) (by decide +kernel) (by decide +kernel)), hI37, g38, (by show (0 ≤ ((2 * (T6.1 33)) + ((x1 >>> (x3_5 &&& 31 : Int32) : Int32) &&& 1)).toInt) ∧ ((((2 * (T6.1 33)) + ((x1 >>> (x3_5 &&& 31 : Int32) : Int32) &&& 1)).toInt ≤ (gb ((T6.1 32) + 1).toInt)) ∧ (((T6.1 32) + 1).toInt ≤ 7)); first | with_reducible assumption | omega), (by show ((((4 * (T6.1 9).toInt) + ((T6.1 32) + 1).toInt) + (x3_5 + (-1)).toInt) + 1) ≤ (((4 * (S.1 9).toInt) + (S.1 32).toInt) + x2.toInt); revert e47 q48; generalize (x3_5 + (-1)).toInt = dd0; intros; omega), (by show (S.1 9).toInt ≤ (T6.1 9).toInt; first | with_reducible assumption | omega), (by show ((x3_5 + (-1)).toInt + 1) ≤ x2.toInt; revert e47 q48; generalize (x3_5 + (-1)).toInt = dd0; intros; omega), (by show (((x3_5 + (-1)).toInt + 1) = x2.toInt) → (((T6.1 32) + 1).toInt = (S.1 32).toInt); revert e47 q48; generalize (x3_5 + (-1)).toInt = dd0; intros; omega), (by show ((x2.toInt = 1) ∧ ((x3_5 + (-1)).toInt = (-1))) → ((((T6.1 32) + 1).toInt = 0) ∨ (((T6.1 32) + 1).toInt = ((S.1 32).toInt + 1))); revert e47 q48; generalize (x3_5 + (-1)).toInt = dd0; intros; omega)⟩ (by show ((x3_5 + (-1)).toInt - (-1)).toNat < (x3_5.toInt - (-1)).toNat; revert e47 q48; generalize (x3_5 + (-1)).toInt = dd0; intros; omega)
    · have b49 : B 8 8 ((T6.1 32) + 1) := B_w (B_eq hc cqb_8_8_8) (by decide +kernel) (by decide +kernel)
      have e50 : ((T6.1 32) + 1).toInt = ((T6.1 32).toInt + 1) := (t_add b22 cqb_1_1_1 (by decide +kernel) (by decide +kernel)).trans (by rw [cqn_1])
      have q51 : (8) ≤ ((T6.1 32) + 1).toInt ∧ ((T6.1 32) + 1).toInt ≤ (8) := (show B 8 8 ((T6.1 32) + 1) from B_w b49 (by decide +kernel) (by decide +kernel))
      have i52 : ((T6.1 32) + 1).toInt = (8 : Int32).toInt := congrArg Int32.toInt hc
      have n53 : (8 : Int32).toInt = 8 := cqn_8
      have hI54 := IM_f (k := 33) (v := (2 * (T6.1 33)) + ((x1 >>> (x3_5 &&& 31 : Int32) : Int32) &&& 1)) hI8 (B_add (B_mul cqb_2_2_2 b23 (by decide +kernel) (by decide +kernel) (by decide +kernel)) (show B 0 1 ((x1 >>> (x3_5 &&& 31 : Int32) : Int32) &&& 1) from B_and (k := 1) (by decide +kernel) (by decide +kernel)) (by decide +kernel) (by decide +kernel)) (by decide +kernel) (by decide +kernel)
      have hI55 := IM_f (k := 32) (v := (T6.1 32) + 1) hI54 b49 (by decide +kernel) (by decide +kernel)
      refine h_put (B_w (B_add (B_mul cqb_2_2_2 b23 (by decide +kernel) (by decide +kernel) (by decide +kernel)) (show B 0 1 ((x1 >>> (x3_5 &&& 31 : Int32) : Int32) &&& 1) from B_and (k := 1) (by decide +kernel) (by decide +kernel)) (by decide +kernel) (by decide +kernel)) (by decide +kernel) (by decide +kernel)) hI55 (by show (T6.1 9).toInt ≤ 65535; first | with_reducible assumption | omega) (fun {S48_56} hI57 g58 r59 => ?_)
      have r60 : (S48_56.1 9).toInt = ((T6.1 9).toInt + 1) := r59
      clear r59
      have q61 : (0) ≤ (S48_56.1 9).toInt ∧ (S48_56.1 9).toInt ≤ (65536) := (show B 0 65536 (S48_56.1 9) from bf_9 hI57)
      refine ⟨fun hc => ?_, fun hc => ?_⟩
      · have e62 : (2 * (T6.1 33)).toInt = (2 * (T6.1 33).toInt) := (t_mul cqb_2_2_2 b23 (by decide +kernel) (by decide +kernel) (by decide +kernel)).trans (by rw [cqn_2])
        have q63 : (0) ≤ (2 * (T6.1 33)).toInt ∧ (2 * (T6.1 33)).toInt ≤ (254) := (show B 0 254 (2 * (T6.1 33)) from B_w (B_mul cqb_2_2_2 b23 (by decide +kernel) (by decide +kernel) (by decide +kernel)) (by decide +kernel) (by decide +kernel))
        have q64 : (0) ≤ ((x1 >>> (x3_5 &&& 31 : Int32) : Int32) &&& 1).toInt ∧ ((x1 >>> (x3_5 &&& 31 : Int32) : Int32) &&& 1).toInt ≤ (1) := (show B 0 1 ((x1 >>> (x3_5 &&& 31 : Int32) : Int32) &&& 1) from B_and (k := 1) (by decide +kernel) (by decide +kernel))
        have e65 : ((2 * (T6.1 33)) + ((x1 >>> (x3_5 &&& 31 : Int32) : Int32) &&& 1)).toInt = ((2 * (T6.1 33).toInt) + ((x1 >>> (x3_5 &&& 31 : Int32) : Int32) &&& 1).toInt) := (t_add (B_mul cqb_2_2_2 b23 (by decide +kernel) (by decide +kernel) (by decide +kernel)) (show B 0 1 ((x1 >>> (x3_5 &&& 31 : Int32) : Int32) &&& 1) from B_and (k := 1) (by decide +kernel) (by decide +kernel)) (by decide +kernel) (by decide +kernel)).trans (by rw [e62])
        have q66 : (0) ≤ ((2 * (T6.1 33)) + ((x1 >>> (x3_5 &&& 31 : Int32) : Int32) &&& 1)).toInt ∧ ((2 * (T6.1 33)) + ((x1 >>> (x3_5 &&& 31 : Int32) : Int32) &&& 1)).toInt ≤ (255) := (show B 0 255 ((2 * (T6.1 33)) + ((x1 >>> (x3_5 &&& 31 : Int32) : Int32) &&& 1)) from B_w (B_add (B_mul cqb_2_2_2 b23 (by decide +kernel) (by decide +kernel) (by decide +kernel)) (show B 0 1 ((x1 >>> (x3_5 &&& 31 : Int32) : Int32) &&& 1) from B_and (k := 1) (by decide +kernel) (by decide +kernel)) (by decide +kernel) (by decide +kernel)) (by decide +kernel) (by decide +kernel))
        have e67 : (S48_56.1 33).toInt = ((2 * (T6.1 33).toInt) + ((x1 >>> (x3_5 &&& 31 : Int32) : Int32) &&& 1).toInt) := (congrArg Int32.toInt (g58.1 33 rfl)).trans e65
        have i68 : (S48_56.1 33).toInt ≠ (255 : Int32).toInt := i_ne hc
        have n69 : (255 : Int32).toInt = 255 := cqn_255
        unfold b_putBits_66
        unfold b_putBits_76
        have hI70 := IM_f (k := 32) (v := 0) hI57 cqb_0_0_0 (by decide +kernel) (by decide +kernel)
        have hI71 := IM_f (k := 33) (v := 0) hI70 cqb_0_0_0 (by decide +kernel) (by decide +kernel)
        have g77 := ag_tr (ag_refl (fs := [9, 32, 33]) (rs := [8]) (S := S)) g9 (by decide +kernel) (by decide +kernel)
        have g76 := ag_f (k := 33) (v := (2 * (T6.1 33)) + ((x1 >>> (x3_5 &&& 31 : Int32) : Int32) &&& 1)) g77 (by decide +kernel)
        have g75 := ag_f (k := 32) (v := (T6.1 32) + 1) g76 (by decide +kernel)
        have g74 := ag_tr g75 g58 (by decide +kernel) (by decide +kernel)
        have g73 := ag_f (k := 32) (v := 0) g74 (by decide +kernel)
        have g72 := ag_f (k := 33) (v := 0) g73 (by decide +kernel)
        have k78 : gb 0 = 0 := by decide +kernel
        have e79 : (x3_5 + (-1)).toInt = ((x3_5).toInt + (-1)) := (t_add b30 cqb_m1_m1_m1 (by decide +kernel) (by decide +kernel)).trans (by rw [cqn_m1])
        have q80 : (-1) ≤ (x3_5 + (-1)).toInt ∧ (x3_5 + (-1)).toInt ≤ (262138) := (show B (-1) 262138 (x3_5 + (-1)) from B_w (B_add b30 cqb_m1_m1_m1 (by decide +kernel) (by decide +kernel)) (by decide +kernel) (by decide +kernel))
        exact hR4 ⟨rfl, (B_w (B_add b30 cqb_m1_m1_m1 (by decide +kernel) (by decide +kernel)) (by decide +kernel) (by decide +kernel)), hI71, g72, (by show (0 ≤ 0) ∧ ((0 ≤ (gb 0)) ∧ (0 ≤ 7)); first | with_reducible assumption | omega), (by show ((((4 * (S48_56.1 9).toInt) + 0) + (x3_5 + (-1)).toInt) + 1) ≤ (((4 * (S.1 9).toInt) + (S.1 32).toInt) + x2.toInt); revert e79 q80; generalize (x3_5 + (-1)).toInt = dd0; intros; omega), (by show (S.1 9).toInt ≤ (S48_56.1 9).toInt; first | with_reducible assumption | omega), (by show ((x3_5 + (-1)).toInt + 1) ≤ x2.toInt; revert e79 q80; generalize (x3_5 + (-1)).toInt = dd0; intros; omega), (by show (((x3_5 + (-1)).toInt + 1) = x2.toInt) → (0 = (S.1 32).toInt); revert e79 q80; generalize (x3_5 + (-1)).toInt = dd0; intros; omega), (by show ((x2.toInt = 1) ∧ ((x3_5 + (-1)).toInt = (-1))) → ((0 = 0) ∨ (0 = ((S.1 32).toInt + 1))); revert e79 q80; generalize (x3_5 + (-1)).toInt = dd0; intros; omega)⟩ (by show ((x3_5 + (-1)).toInt - (-1)).toNat < (x3_5.toInt - (-1)).toNat; revert e79 q80; generalize (x3_5 + (-1)).toInt = dd0; intros; omega)
      · have b81 : B 255 255 ((2 * (T6.1 33)) + ((x1 >>> (x3_5 &&& 31 : Int32) : Int32) &&& 1)) := B_w (B_eq (Eq.symm (g58.1 33 rfl)) (B_eq hc cqb_255_255_255)) (by decide +kernel) (by decide +kernel)
        have e82 : (2 * (T6.1 33)).toInt = (2 * (T6.1 33).toInt) := (t_mul cqb_2_2_2 b23 (by decide +kernel) (by decide +kernel) (by decide +kernel)).trans (by rw [cqn_2])
        have q83 : (0) ≤ (2 * (T6.1 33)).toInt ∧ (2 * (T6.1 33)).toInt ≤ (254) := (show B 0 254 (2 * (T6.1 33)) from B_w (B_mul cqb_2_2_2 b23 (by decide +kernel) (by decide +kernel) (by decide +kernel)) (by decide +kernel) (by decide +kernel))
        have q84 : (0) ≤ ((x1 >>> (x3_5 &&& 31 : Int32) : Int32) &&& 1).toInt ∧ ((x1 >>> (x3_5 &&& 31 : Int32) : Int32) &&& 1).toInt ≤ (1) := (show B 0 1 ((x1 >>> (x3_5 &&& 31 : Int32) : Int32) &&& 1) from B_and (k := 1) (by decide +kernel) (by decide +kernel))
        have e85 : ((2 * (T6.1 33)) + ((x1 >>> (x3_5 &&& 31 : Int32) : Int32) &&& 1)).toInt = ((2 * (T6.1 33).toInt) + ((x1 >>> (x3_5 &&& 31 : Int32) : Int32) &&& 1).toInt) := (t_add (B_mul cqb_2_2_2 b23 (by decide +kernel) (by decide +kernel) (by decide +kernel)) (show B 0 1 ((x1 >>> (x3_5 &&& 31 : Int32) : Int32) &&& 1) from B_and (k := 1) (by decide +kernel) (by decide +kernel)) (by decide +kernel) (by decide +kernel)).trans (by rw [e82])
        have q86 : (255) ≤ ((2 * (T6.1 33)) + ((x1 >>> (x3_5 &&& 31 : Int32) : Int32) &&& 1)).toInt ∧ ((2 * (T6.1 33)) + ((x1 >>> (x3_5 &&& 31 : Int32) : Int32) &&& 1)).toInt ≤ (255) := (show B 255 255 ((2 * (T6.1 33)) + ((x1 >>> (x3_5 &&& 31 : Int32) : Int32) &&& 1)) from B_w b81 (by decide +kernel) (by decide +kernel))
        have e87 : (S48_56.1 33).toInt = ((2 * (T6.1 33).toInt) + ((x1 >>> (x3_5 &&& 31 : Int32) : Int32) &&& 1).toInt) := (congrArg Int32.toInt (g58.1 33 rfl)).trans e85
        have i88 : (S48_56.1 33).toInt = (255 : Int32).toInt := congrArg Int32.toInt hc
        have n89 : (255 : Int32).toInt = 255 := cqn_255
        refine h_put (B_w cqb_0_0_0 (by decide +kernel) (by decide +kernel)) hI57 (by show (S48_56.1 9).toInt ≤ 65535; first | with_reducible assumption | omega) (fun {S63_90} hI91 g92 r93 => ?_)
        have r94 : (S63_90.1 9).toInt = ((S48_56.1 9).toInt + 1) := r93
        clear r93
        have q95 : (0) ≤ (S63_90.1 9).toInt ∧ (S63_90.1 9).toInt ≤ (65536) := (show B 0 65536 (S63_90.1 9) from bf_9 hI91)
        unfold b_putBits_66
        unfold b_putBits_76
        have hI96 := IM_f (k := 32) (v := 0) hI91 cqb_0_0_0 (by decide +kernel) (by decide +kernel)
        have hI97 := IM_f (k := 33) (v := 0) hI96 cqb_0_0_0 (by decide +kernel) (by decide +kernel)
        have g104 := ag_tr (ag_refl (fs := [9, 32, 33]) (rs := [8]) (S := S)) g9 (by decide +kernel) (by decide +kernel)
        have g103 := ag_f (k := 33) (v := (2 * (T6.1 33)) + ((x1 >>> (x3_5 &&& 31 : Int32) : Int32) &&& 1)) g104 (by decide +kernel)
        have g102 := ag_f (k := 32) (v := (T6.1 32) + 1) g103 (by decide +kernel)
        have g101 := ag_tr g102 g58 (by decide +kernel) (by decide +kernel)
        have g100 := ag_tr g101 g92 (by decide +kernel) (by decide +kernel)
        have g99 := ag_f (k := 32) (v := 0) g100 (by decide +kernel)
        have g98 := ag_f (k := 33) (v := 0) g99 (by decide +kernel)
        have k105 : gb 0 = 0 := by decide +kernel
        have e106 : (x3_5 + (-1)).toInt = ((x3_5).toInt + (-1)) := (t_add b30 cqb_m1_m1_m1 (by decide +kernel) (by decide +kernel)).trans (by rw [cqn_m1])
        have q107 : (-1) ≤ (x3_5 + (-1)).toInt ∧ (x3_5 + (-1)).toInt ≤ (262138) := (show B (-1) 262138 (x3_5 + (-1)) from B_w (B_add b30 cqb_m1_m1_m1 (by decide +kernel) (by decide +kernel)) (by decide +kernel) (by decide +kernel))
        exact hR4 ⟨rfl, (B_w (B_add b30 cqb_m1_m1_m1 (by decide +kernel) (by decide +kernel)) (by decide +kernel) (by decide +kernel)), hI97, g98, (by show (0 ≤ 0) ∧ ((0 ≤ (gb 0)) ∧ (0 ≤ 7)); first | with_reducible assumption | omega), (by show ((((4 * (S63_90.1 9).toInt) + 0) + (x3_5 + (-1)).toInt) + 1) ≤ (((4 * (S.1 9).toInt) + (S.1 32).toInt) + x2.toInt); revert e106 q107; generalize (x3_5 + (-1)).toInt = dd0; intros; omega), (by show (S.1 9).toInt ≤ (S63_90.1 9).toInt; first | with_reducible assumption | omega), (by show ((x3_5 + (-1)).toInt + 1) ≤ x2.toInt; revert e106 q107; generalize (x3_5 + (-1)).toInt = dd0; intros; omega), (by show (((x3_5 + (-1)).toInt + 1) = x2.toInt) → (0 = (S.1 32).toInt); revert e106 q107; generalize (x3_5 + (-1)).toInt = dd0; intros; omega), (by show ((x2.toInt = 1) ∧ ((x3_5 + (-1)).toInt = (-1))) → ((0 = 0) ∨ (0 = ((S.1 32).toInt + 1))); revert e106 q107; generalize (x3_5 + (-1)).toInt = dd0; intros; omega)⟩ (by show ((x3_5 + (-1)).toInt - (-1)).toNat < (x3_5.toInt - (-1)).toNat; revert e106 q107; generalize (x3_5 + (-1)).toInt = dd0; intros; omega)
set_option maxRecDepth 20000 in
set_option maxHeartbeats 4000000 in
theorem h_fillUp {S : ms} {K : ms → Prop} (hI : IM S) (pre0 : (0 ≤ (S.1 33).toInt) ∧ (((S.1 33).toInt ≤ (gb (S.1 32).toInt)) ∧ ((S.1 32).toInt ≤ 7))) (pre1 : (((4 * (S.1 9).toInt) + (S.1 32).toInt) + 8) ≤ 262140) (hK : ∀ {Z : ms}, IM Z → ag [9, 32, 33] [8] S Z → ((0 ≤ (Z.1 33).toInt) ∧ (((Z.1 33).toInt ≤ (gb (Z.1 32).toInt)) ∧ ((Z.1 32).toInt ≤ 7))) → ((Z.1 32).toInt = 0) → (((4 * (Z.1 9).toInt) + (Z.1 32).toInt) ≤ (((4 * (S.1 9).toInt) + (S.1 32).toInt) + 8)) → ((S.1 9).toInt ≤ (Z.1 9).toInt) → K Z) : p_fillUp S K := by
  have q1 : (0) ≤ (S.1 32).toInt ∧ (S.1 32).toInt ≤ (8) := (show B 0 8 (S.1 32) from bf_32 hI)
  have q2 : (0) ≤ (S.1 9).toInt ∧ (S.1 9).toInt ≤ (65536) := (show B 0 65536 (S.1 9) from bf_9 hI)
  unfold p_fillUp
  refine ⟨fun yS => IM yS ∧ ag [9, 32, 33] [8] S yS ∧ ((0 ≤ (yS.1 33).toInt) ∧ (((yS.1 33).toInt ≤ (gb (yS.1 32).toInt)) ∧ ((yS.1 32).toInt ≤ 7))) ∧ (((yS.1 32).toInt = 0) → (((4 * (yS.1 9).toInt) + (yS.1 32).toInt) ≤ (((4 * (S.1 9).toInt) + (S.1 32).toInt) + 8))) ∧ (((yS.1 32).toInt = 0) ∨ ((((4 * (yS.1 9).toInt) + (yS.1 32).toInt) + (8 - (yS.1 32).toInt)) ≤ (((4 * (S.1 9).toInt) + (S.1 32).toInt) + (8 - (S.1 32).toInt)))) ∧ ((S.1 9).toInt ≤ (yS.1 9).toInt), fun yS => ((8 - (yS.1 32).toInt) - (((8 - (yS.1 32).toInt) / 8) * 8)).toNat, ⟨hI, (ag_refl (fs := [9, 32, 33]) (rs := [8]) (S := S)), (by show (0 ≤ (S.1 33).toInt) ∧ (((S.1 33).toInt ≤ (gb (S.1 32).toInt)) ∧ ((S.1 32).toInt ≤ 7)); first | with_reducible assumption | omega), (by show ((S.1 32).toInt = 0) → (((4 * (S.1 9).toInt) + (S.1 32).toInt) ≤ (((4 * (S.1 9).toInt) + (S.1 32).toInt) + 8)); first | with_reducible assumption | exact (fun _ => by with_reducible assumption) | omega), (by show ((S.1 32).toInt = 0) ∨ ((((4 * (S.1 9).toInt) + (S.1 32).toInt) + (8 - (S.1 32).toInt)) ≤ (((4 * (S.1 9).toInt) + (S.1 32).toInt) + (8 - (S.1 32).toInt))); first | with_reducible assumption | omega), (by show (S.1 9).toInt ≤ (S.1 9).toInt; first | with_reducible assumption | omega)⟩, fun T3 hIv => ?_⟩
  obtain ⟨hI4, g5, r6, r7, r8, r9⟩ := hIv
  suffices hs : ∀ (R0 : ms → Prop), (∀ zS, (IM zS ∧ ag [9, 32, 33] [8] S zS ∧ ((0 ≤ (zS.1 33).toInt) ∧ (((zS.1 33).toInt ≤ (gb (zS.1 32).toInt)) ∧ ((zS.1 32).toInt ≤ 7))) ∧ (((zS.1 32).toInt = 0) → (((4 * (zS.1 9).toInt) + (zS.1 32).toInt) ≤ (((4 * (S.1 9).toInt) + (S.1 32).toInt) + 8))) ∧ (((zS.1 32).toInt = 0) ∨ ((((4 * (zS.1 9).toInt) + (zS.1 32).toInt) + (8 - (zS.1 32).toInt)) ≤ (((4 * (S.1 9).toInt) + (S.1 32).toInt) + (8 - (S.1 32).toInt)))) ∧ ((S.1 9).toInt ≤ (zS.1 9).toInt)) → ((8 - (zS.1 32).toInt) - (((8 - (zS.1 32).toInt) / 8) * 8)).toNat < ((8 - (T3.1 32).toInt) - (((8 - (T3.1 32).toInt) / 8) * 8)).toNat → R0 zS) → b_fillUp_0 T3 R0 K from hs _ (fun _ h1 h2 => ⟨h1, h2⟩)
  intro R0 hR00
  have hR0 := fun {zS} => hR00 zS
  have q10 : (0) ≤ (T3.1 32).toInt ∧ (T3.1 32).toInt ≤ (8) := (show B 0 8 (T3.1 32) from bf_32 hI4)
  have q11 : (0) ≤ (T3.1 9).toInt ∧ (T3.1 9).toInt ≤ (65536) := (show B 0 65536 (T3.1 9) from bf_9 hI4)
  unfold b_fillUp_0
  refine ⟨fun hc => ?_, fun hc => ?_⟩
  · have hq12 := hc
    have b13 : B 0 0 (T3.1 32) := B_w (B_leL (show B 0 8 (T3.1 32) from bf_32 hI4) cqb_0_0_0 hq12) (by decide +kernel) (by decide +kernel)
    have q14 : (0) ≤ (T3.1 32).toInt ∧ (T3.1 32).toInt ≤ (0) := (show B 0 0 (T3.1 32) from B_w b13 (by decide +kernel) (by decide +kernel))
    have g15 := ag_tr (ag_refl (fs := [9, 32, 33]) (rs := [8]) (S := S)) g5 (by decide +kernel) (by decide +kernel)
    exact hK hI4 g15 (by show (0 ≤ (T3.1 33).toInt) ∧ (((T3.1 33).toInt ≤ (gb (T3.1 32).toInt)) ∧ ((T3.1 32).toInt ≤ 7)); first | with_reducible assumption | omega) (by show (T3.1 32).toInt = 0; first | with_reducible assumption | omega) (by show ((4 * (T3.1 9).toInt) + (T3.1 32).toInt) ≤ (((4 * (S.1 9).toInt) + (S.1 32).toInt) + 8); first | with_reducible assumption | omega) (by show (S.1 9).toInt ≤ (T3.1 9).toInt; first | with_reducible assumption | omega)
  · have hq16 := (nle_lt hc)
    have b17 : B 1 8 (T3.1 32) := B_w (B_ltR cqb_0_0_0 (show B 0 8 (T3.1 32) from bf_32 hI4) hq16) (by decide +kernel) (by decide +kernel)
    have q18 : (1) ≤ (T3.1 32).toInt ∧ (T3.1 32).toInt ≤ (8) := (show B 1 8 (T3.1 32) from B_w b17 (by decide +kernel) (by decide +kernel))
    refine h_putBits (B_w cqb_1_1_1 (by decide +kernel) (by decide +kernel)) hI4 (by show (0 ≤ (T3.1 33).toInt) ∧ (((T3.1 33).toInt ≤ (gb (T3.1 32).toInt)) ∧ ((T3.1 32).toInt ≤ 7)); first | with_reducible assumption | omega) (by show (((4 * (T3.1 9).toInt) + (T3.1 32).toInt) + 1) ≤ 262140; first | with_reducible assumption | omega) (fun {S10_19} hI20 g21 r22 r23 r24 r25 => ?_)
    have r26 : (0 ≤ (S10_19.1 33).toInt) ∧ (((S10_19.1 33).toInt ≤ (gb (S10_19.1 32).toInt)) ∧ ((S10_19.1 32).toInt ≤ 7)) := r22
    clear r22
    have q27 : (0) ≤ (S10_19.1 32).toInt ∧ (S10_19.1 32).toInt ≤ (8) := (show B 0 8 (S10_19.1 32) from bf_32 hI20)
    have r28 : ((4 * (S10_19.1 9).toInt) + (S10_19.1 32).toInt) ≤ (((4 * (T3.1 9).toInt) + (T3.1 32).toInt) + 1) := r23
    clear r23
    have q29 : (0) ≤ (S10_19.1 9).toInt ∧ (S10_19.1 9).toInt ≤ (65536) := (show B 0 65536 (S10_19.1 9) from bf_9 hI20)
    have r30 : (T3.1 9).toInt ≤ (S10_19.1 9).toInt := r24
    clear r24
    have r31 : (((T3.1 32).toInt + 1) = ((T3.1 32).toInt + 1)) → (((S10_19.1 32).toInt = 0) ∨ ((S10_19.1 32).toInt = ((T3.1 32).toInt + 1))) := r25
    clear r25
    have g33 := ag_tr (ag_refl (fs := [9, 32, 33]) (rs := [8]) (S := S)) g5 (by decide +kernel) (by decide +kernel)
    have g32 := ag_tr g33 g21 (by decide +kernel) (by decide +kernel)
    exact hR0 ⟨hI20, g32, (by show (0 ≤ (S10_19.1 33).toInt) ∧ (((S10_19.1 33).toInt ≤ (gb (S10_19.1 32).toInt)) ∧ ((S10_19.1 32).toInt ≤ 7)); first | with_reducible assumption | omega), (by show ((S10_19.1 32).toInt = 0) → (((4 * (S10_19.1 9).toInt) + (S10_19.1 32).toInt) ≤ (((4 * (S.1 9).toInt) + (S.1 32).toInt) + 8)); first | with_reducible assumption | exact (fun _ => by with_reducible assumption) | omega), (by show ((S10_19.1 32).toInt = 0) ∨ ((((4 * (S10_19.1 9).toInt) + (S10_19.1 32).toInt) + (8 - (S10_19.1 32).toInt)) ≤ (((4 * (S.1 9).toInt) + (S.1 32).toInt) + (8 - (S.1 32).toInt))); first | with_reducible assumption | omega), (by show (S.1 9).toInt ≤ (S10_19.1 9).toInt; first | with_reducible assumption | omega)⟩ (by show ((8 - (S10_19.1 32).toInt) - (((8 - (S10_19.1 32).toInt) / 8) * 8)).toNat < ((8 - (T3.1 32).toInt) - (((8 - (T3.1 32).toInt) / 8) * 8)).toNat; omega)
