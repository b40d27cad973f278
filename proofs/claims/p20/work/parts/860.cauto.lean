set_option maxRecDepth 20000 in
set_option maxHeartbeats 4000000 in
theorem h_B_isWithin {x0 : Int32} {x1 : Int32} {x2 : Int32} {K : Int32 → Prop} (hK : ∀ {v : Int32}, B 0 1 v → ((v.toInt = 0) ∨ ((x1.toInt ≤ x0.toInt) ∧ (x0.toInt ≤ x2.toInt))) → ((v.toInt = 1) ∨ ((x0.toInt < x1.toInt) ∨ (x2.toInt < x0.toInt))) → K v) : p_B_isWithin x0 x1 x2 K := by
  unfold p_B_isWithin
  refine ⟨fun hc => ?_, fun hc => ?_⟩
  · have hq1 := hc
    have b2 : B (-2147483648) 2147483646 (x0) := B_w (B_ltL (B_any _) (B_any _) hq1) (by decide +kernel) (by decide +kernel)
    have b3 : B (-2147483647) 2147483647 (x1) := B_w (B_ltR (B_any _) (B_any _) hq1) (by decide +kernel) (by decide +kernel)
    have q4 : (-2147483648) ≤ (x0).toInt ∧ (x0).toInt ≤ (2147483646) := (show B (-2147483648) 2147483646 (x0) from B_w b2 (by decide +kernel) (by decide +kernel))
    have q5 : (-2147483647) ≤ (x1).toInt ∧ (x1).toInt ≤ (2147483647) := (show B (-2147483647) 2147483647 (x1) from B_w b3 (by decide +kernel) (by decide +kernel))
    have i6 : (x0).toInt < (x1).toInt := i_lt hq1
    unfold b_B_isWithin_14
    unfold b_B_isWithin_15
    refine ⟨B_nar cqb_0_0_0 (by decide +kernel) (by decide +kernel), ?_⟩
    exact hK (B_w cqb_0_0_0 (by decide +kernel) (by decide +kernel)) (by show ((0 : Int) = 0) ∨ ((x1.toInt ≤ x0.toInt) ∧ (x0.toInt ≤ x2.toInt)); first | with_reducible assumption | omega) (by show ((0 : Int) = 1) ∨ ((x0.toInt < x1.toInt) ∨ (x2.toInt < x0.toInt)); first | with_reducible assumption | omega)
  · have hq7 := (nlt_le hc)
    have i8 : (x1).toInt ≤ (x0).toInt := i_le hq7
    refine ⟨fun hc => ?_, fun hc => ?_⟩
    · have hq9 := hc
      have b10 : B (-2147483648) 2147483646 (x2) := B_w (B_ltL (B_any _) (B_any _) hq9) (by decide +kernel) (by decide +kernel)
      have b11 : B (-2147483647) 2147483647 (x0) := B_w (B_ltR (B_any _) (B_any _) hq9) (by decide +kernel) (by decide +kernel)
      have q12 : (-2147483647) ≤ (x0).toInt ∧ (x0).toInt ≤ (2147483647) := (show B (-2147483647) 2147483647 (x0) from B_w b11 (by decide +kernel) (by decide +kernel))
      have q13 : (-2147483648) ≤ (x2).toInt ∧ (x2).toInt ≤ (2147483646) := (show B (-2147483648) 2147483646 (x2) from B_w b10 (by decide +kernel) (by decide +kernel))
      have i14 : (x2).toInt < (x0).toInt := i_lt hq9
      unfold b_B_isWithin_14
      unfold b_B_isWithin_15
      refine ⟨B_nar cqb_0_0_0 (by decide +kernel) (by decide +kernel), ?_⟩
      exact hK (B_w cqb_0_0_0 (by decide +kernel) (by decide +kernel)) (by show ((0 : Int) = 0) ∨ ((x1.toInt ≤ x0.toInt) ∧ (x0.toInt ≤ x2.toInt)); first | with_reducible assumption | omega) (by show ((0 : Int) = 1) ∨ ((x0.toInt < x1.toInt) ∨ (x2.toInt < x0.toInt)); first | with_reducible assumption | omega)
    · have hq15 := (nlt_le hc)
      have i16 : (x0).toInt ≤ (x2).toInt := i_le hq15
      unfold b_B_isWithin_15
      refine ⟨B_nar cqb_1_1_1 (by decide +kernel) (by decide +kernel), ?_⟩
      exact hK (B_w cqb_1_1_1 (by decide +kernel) (by decide +kernel)) (by show ((1 : Int) = 0) ∨ ((x1.toInt ≤ x0.toInt) ∧ (x0.toInt ≤ x2.toInt)); first | with_reducible assumption | omega) (by show ((1 : Int) = 1) ∨ ((x0.toInt < x1.toInt) ∨ (x2.toInt < x0.toInt)); first | with_reducible assumption | omega)
set_option maxRecDepth 20000 in
set_option maxHeartbeats 4000000 in
theorem h_Ar_fillI_x02_x10 {a : Bool} {b : Bool} {P : Nat → Nat → Nat} {F : cF} {L : cL} {K : cs → Prop} (hI : IMc F) (hK : ∀ {Z : cF} {LZ : cL}, IMc Z → agc [] [2] F Z → K (Z, LZ, PC a b P)) : p_Ar_fillI UL 2 0 (F, L, PC a b P) K := by
  unfold p_Ar_fillI
  refine ⟨(show c_cl UL 2 = 902 from cl_2), ?_⟩
  refine ⟨fun yx0 yx1 yx2 yx3 yS => (2 : Nat) = yx0 ∧ (0 : Int32) = yx1 ∧ (12288 : Int32) = yx3 ∧ B 0 65536 yx2 ∧ ∃ (T5 : cF) (LT5 : cL), yS = (T5, LT5, PC a b P) ∧ IMc T5 ∧ agc [] [2] F T5, fun yx0 yx1 yx2 yx3 yS => (65536 - yx2.toInt).toNat, ⟨rfl, rfl, rfl, (B_w cqb_0_0_0 (by decide +kernel) (by decide +kernel)), _, _, rfl, hI, (agc_refl (fs := []) (rs := [2]) (F := F))⟩, fun x0_1 x1_2 x2_3 x3_4 ST5 hIv => ?_⟩
  obtain ⟨rfl, rfl, rfl, b6, T5, LT5, rfl, hI7, g8⟩ := hIv
  suffices hs : ∀ (R5 : Nat → Int32 → Int32 → Int32 → cs → Prop), (∀ zx0 zx1 zx2 zx3 zS, ((2 : Nat) = zx0 ∧ (0 : Int32) = zx1 ∧ (12288 : Int32) = zx3 ∧ B 0 65536 zx2 ∧ ∃ (T5 : cF) (LT5 : cL), zS = (T5, LT5, PC a b P) ∧ IMc T5 ∧ agc [] [2] F T5) → (65536 - zx2.toInt).toNat < (65536 - x2_3.toInt).toNat → R5 zx0 zx1 zx2 zx3 zS) → b_Ar_fillI_5 UL 2 0 x2_3 12288 (T5, LT5, PC a b P) R5 K from hs _ (fun _ _ _ _ _ h1 h2 => ⟨h1, h2⟩)
  intro R5 hR50
  have hR5 := fun {zx0} {zx1} {zx2} {zx3} {zS} => hR50 zx0 zx1 zx2 zx3 zS
  unfold b_Ar_fillI_5
  refine ⟨fun hc => ?_, fun hc => ?_⟩
  · have hq9 := hc
    have b10 : B 12288 65536 (x2_3) := B_w (B_leR cqb_12288_12288_12288 b6 hq9) (by decide +kernel) (by decide +kernel)
    have g11 := agc_tr (agc_refl (fs := []) (rs := [2]) (F := F)) g8 (by decide +kernel) (by decide +kernel)
    exact hK hI7 g11
  · have hq12 := (nle_lt hc)
    have b13 : B 0 12287 (x2_3) := B_w (B_ltL b6 cqb_12288_12288_12288 hq12) (by decide +kernel) (by decide +kernel)
    refine ⟨(show c_cl UL 2 = 902 from cl_2), ?_⟩
    refine ⟨(show vp_in (x2_3) 12288 from vp_B b13 (by decide +kernel) (by decide +kernel)), ?_⟩
    have hI14 := IMc_u (u := 2) (i := x2_3.toNatClampNeg) (v := 0) hI7 (show B (-2147483648) 2147483647 (0) from (B_w cqb_0_0_0 (by decide +kernel) (by decide +kernel)))
    have g16 := agc_tr (agc_refl (fs := []) (rs := [2]) (F := F)) g8 (by decide +kernel) (by decide +kernel)
    have g15 := agc_r (u := 2) (w := upd (T5 2) x2_3.toNatClampNeg 0) g16 rfl (by decide +kernel)
    have q17 : (0) ≤ (x2_3).toInt ∧ (x2_3).toInt ≤ (12287) := (show B 0 12287 (x2_3) from B_w b13 (by decide +kernel) (by decide +kernel))
    have e18 : (x2_3 + 1).toInt = ((x2_3).toInt + 1) := (t_add b13 cqb_1_1_1 (by decide +kernel) (by decide +kernel)).trans (by rw [cqn_1])
    have q19 : (1) ≤ (x2_3 + 1).toInt ∧ (x2_3 + 1).toInt ≤ (12288) := (show B 1 12288 (x2_3 + 1) from B_w (B_add b13 cqb_1_1_1 (by decide +kernel) (by decide +kernel)) (by decide +kernel) (by decide +kernel))
    exact hR5 ⟨rfl, rfl, rfl, (B_w (B_add b13 cqb_1_1_1 (by decide +kernel) (by decide +kernel)) (by decide +kernel) (by decide +kernel)), _, _, rfl, hI14, g15⟩ (by show (65536 - (x2_3 + 1).toInt).toNat < (65536 - x2_3.toInt).toNat; omega)
set_option maxRecDepth 20000 in
set_option maxHeartbeats 4000000 in
theorem h_Ca_begin_u1 {a : Bool} {b : Bool} {P : Nat → Nat → Nat} {x1 : Int32} {x2 : Int32} {x3 : Int32} {F : cF} {L : cL} {K : cs → Prop} (b_x1 : B 1 64 x1) (b_x2 : B 1 64 x2) (b_x3 : B 1 3 x3) (hI : IMc F) (hK : ∀ {Z : cF} {LZ : cL}, IMc Z → agc [100, 101, 102] [2] F Z → ((Z 1 2).toInt = x3.toInt) → K (Z, LZ, PC a b P)) : p_Ca_begin UL 1 x1 x2 x3 (F, L, PC a b P) K := by
  unfold p_Ca_begin
  refine ⟨(show ¬ ((2 : Nat) = NU) from by decide +kernel), ?_⟩
  have hI1 := IMc_u (u := 1) (i := 0) (v := x1) hI (show B 1 64 (x1) from (B_w b_x1 (by decide +kernel) (by decide +kernel)))
  have hI2 := IMc_u (u := 1) (i := 1) (v := x2) hI1 (show B 1 64 (x2) from (B_w b_x2 (by decide +kernel) (by decide +kernel)))
  have hI3 := IMc_u (u := 1) (i := 2) (v := x3) hI2 (show B 1 3 (x3) from (B_w b_x3 (by decide +kernel) (by decide +kernel)))
  refine h_Ar_fillI_x02_x10 hI3 (fun {FS20_4} {LFS20_4} hI5 g6 => ?_)
  have g10 := agc_f (u := 1) (k := 0) (v := x1) (agc_refl (fs := [100, 101, 102]) (rs := [2]) (F := F)) rfl (by decide +kernel)
  have g9 := agc_f (u := 1) (k := 1) (v := x2) g10 rfl (by decide +kernel)
  have g8 := agc_f (u := 1) (k := 2) (v := x3) g9 rfl (by decide +kernel)
  have g7 := agc_tr g8 g6 (by decide +kernel) (by decide +kernel)
  have q11 : (1) ≤ (x3).toInt ∧ (x3).toInt ≤ (3) := (show B 1 3 (x3) from B_w b_x3 (by decide +kernel) (by decide +kernel))
  have e12 : (FS20_4 1 2).toInt = (x3).toInt := (congrArg Int32.toInt (g6.1 1 2 rfl rfl)).trans rfl
  exact hK hI5 g7 (by show (FS20_4 1 2).toInt = x3.toInt; first | with_reducible assumption | omega)
set_option maxRecDepth 20000 in
set_option maxHeartbeats 4000000 in
theorem h_Ro_add_u5 {a : Bool} {b : Bool} {P : Nat → Nat → Nat} {x1 : Int32} {F : cF} {L : cL} {K : cs → Prop} (hI : IMc F) (hK : ∀ {Z : cF} {LZ : cL}, IMc Z → agc [501] [6] F Z → K (Z, LZ, PC a b P)) : p_Ro_add UL 5 x1 (F, L, PC a b P) K := by
  unfold p_Ro_add
  refine ⟨(show ¬ ((6 : Nat) = NU) from by decide +kernel), ?_⟩
  refine ⟨(show c_cl UL 6 = 902 from cl_6), ?_⟩
  refine ⟨fun hc => ?_, fun hc => ?_⟩
  · have hq1 := hc
    have b2 : B 65536 65536 (F 5 1) := B_w (B_leR cqb_65536_65536_65536 (show B 0 65536 (F 5 1) from hI 5 1) hq1) (by decide +kernel) (by decide +kernel)
    unfold b_Ro_add_36
    exact hK hI (agc_refl (fs := [501]) (rs := [6]) (F := F))
  · have hq3 := (nle_lt hc)
    have b4 : B 0 65535 (F 5 1) := B_w (B_ltL (show B 0 65536 (F 5 1) from hI 5 1) cqb_65536_65536_65536 hq3) (by decide +kernel) (by decide +kernel)
    refine ⟨(show ¬ ((6 : Nat) = NU) from by decide +kernel), ?_⟩
    refine ⟨(show vp_in (F 5 1) 65536 from vp_B b4 (by decide +kernel) (by decide +kernel)), ?_⟩
    unfold b_Ro_add_36
    have hI5 := IMc_u (u := 6) (i := (F 5 1).toNatClampNeg) (v := x1 &&& 255) hI (show B 0 255 (x1 &&& 255) from (B_w (show B 0 255 (x1 &&& 255) from B_and (k := 8) (by decide +kernel) (by decide +kernel)) (by decide +kernel) (by decide +kernel)))
    have hI6 := IMc_u (u := 5) (i := 1) (v := (F 5 1) + 1) hI5 (show B 0 65536 ((F 5 1) + 1) from (B_w (B_add b4 cqb_1_1_1 (by decide +kernel) (by decide +kernel)) (by decide +kernel) (by decide +kernel)))
    have g8 := agc_r (u := 6) (w := upd (F 6) (F 5 1).toNatClampNeg (x1 &&& 255)) (agc_refl (fs := [501]) (rs := [6]) (F := F)) rfl (by decide +kernel)
    have g7 := agc_f (u := 5) (k := 1) (v := (F 5 1) + 1) g8 rfl (by decide +kernel)
    exact hK hI6 g7
set_option maxRecDepth 20000 in
set_option maxHeartbeats 4000000 in
theorem h_Ro_add_u61 {a : Bool} {b : Bool} {P : Nat → Nat → Nat} {x1 : Int32} {F : cF} {L : cL} {K : cs → Prop} (hI : IMc F) (hK : ∀ {Z : cF} {LZ : cL}, IMc Z → agc [6101] [62] F Z → K (Z, LZ, PC a b P)) : p_Ro_add UL 61 x1 (F, L, PC a b P) K := by
  unfold p_Ro_add
  refine ⟨(show ¬ ((62 : Nat) = NU) from by decide +kernel), ?_⟩
  refine ⟨(show c_cl UL 62 = 902 from cl_62), ?_⟩
  refine ⟨fun hc => ?_, fun hc => ?_⟩
  · have hq1 := hc
    have b2 : B 32768 32768 (F 61 1) := B_w (B_leR cqb_32768_32768_32768 (show B 0 32768 (F 61 1) from hI 61 1) hq1) (by decide +kernel) (by decide +kernel)
    unfold b_Ro_add_36
    exact hK hI (agc_refl (fs := [6101]) (rs := [62]) (F := F))
  · have hq3 := (nle_lt hc)
    have b4 : B 0 32767 (F 61 1) := B_w (B_ltL (show B 0 32768 (F 61 1) from hI 61 1) cqb_32768_32768_32768 hq3) (by decide +kernel) (by decide +kernel)
    refine ⟨(show ¬ ((62 : Nat) = NU) from by decide +kernel), ?_⟩
    refine ⟨(show vp_in (F 61 1) 32768 from vp_B b4 (by decide +kernel) (by decide +kernel)), ?_⟩
    unfold b_Ro_add_36
    have hI5 := IMc_u (u := 62) (i := (F 61 1).toNatClampNeg) (v := x1 &&& 255) hI (show B 0 255 (x1 &&& 255) from (B_w (show B 0 255 (x1 &&& 255) from B_and (k := 8) (by decide +kernel) (by decide +kernel)) (by decide +kernel) (by decide +kernel)))
    have hI6 := IMc_u (u := 61) (i := 1) (v := (F 61 1) + 1) hI5 (show B 0 32768 ((F 61 1) + 1) from (B_w (B_add b4 cqb_1_1_1 (by decide +kernel) (by decide +kernel)) (by decide +kernel) (by decide +kernel)))
    have g8 := agc_r (u := 62) (w := upd (F 62) (F 61 1).toNatClampNeg (x1 &&& 255)) (agc_refl (fs := [6101]) (rs := [62]) (F := F)) rfl (by decide +kernel)
    have g7 := agc_f (u := 61) (k := 1) (v := (F 61 1) + 1) g8 rfl (by decide +kernel)
    exact hK hI6 g7
set_option maxRecDepth 20000 in
set_option maxHeartbeats 4000000 in
theorem h_Ro_addTwo_u61 {a : Bool} {b : Bool} {P : Nat → Nat → Nat} {x1 : Int32} {F : cF} {L : cL} {K : cs → Prop} (hI : IMc F) (hK : ∀ {Z : cF} {LZ : cL}, IMc Z → agc [6101] [62] F Z → K (Z, LZ, PC a b P)) : p_Ro_addTwo UL 61 x1 (F, L, PC a b P) K := by
  unfold p_Ro_addTwo
  refine h_Ro_add_u61 hI (fun {FS5_1} {LFS5_1} hI2 g3 => ?_)
  refine h_Ro_add_u61 hI2 (fun {FS10_4} {LFS10_4} hI5 g6 => ?_)
  have g8 := agc_tr (agc_refl (fs := [6101]) (rs := [62]) (F := F)) g3 (by decide +kernel) (by decide +kernel)
  have g7 := agc_tr g8 g6 (by decide +kernel) (by decide +kernel)
  exact hK hI5 g7
set_option maxRecDepth 20000 in
set_option maxHeartbeats 4000000 in
theorem h_Ro_addFour_u61 {a : Bool} {b : Bool} {P : Nat → Nat → Nat} {x1 : Int32} {F : cF} {L : cL} {K : cs → Prop} (hI : IMc F) (hK : ∀ {Z : cF} {LZ : cL}, IMc Z → agc [6101] [62] F Z → K (Z, LZ, PC a b P)) : p_Ro_addFour UL 61 x1 (F, L, PC a b P) K := by
  unfold p_Ro_addFour
  refine h_Ro_addTwo_u61 hI (fun {FS5_1} {LFS5_1} hI2 g3 => ?_)
  refine h_Ro_addTwo_u61 hI2 (fun {FS10_4} {LFS10_4} hI5 g6 => ?_)
  have g8 := agc_tr (agc_refl (fs := [6101]) (rs := [62]) (F := F)) g3 (by decide +kernel) (by decide +kernel)
  have g7 := agc_tr g8 g6 (by decide +kernel) (by decide +kernel)
  exact hK hI5 g7
set_option maxRecDepth 20000 in
set_option maxHeartbeats 4000000 in
theorem h_B_feed_u0 {a : Bool} {b : Bool} {P : Nat → Nat → Nat} {x1 : Int32} {x2 : Int32} {x3 : Int32} {x4 : Int32} {x5 : Int32} {F : cF} {L : cL} {K : Int32 → cs → Prop} {T : Nat → cs → Prop} (hI : IMc F) (hK : ∀ {v : Int32} {Z : cF} {LZ : cL}, B 0 32768 v → IMc Z → agc [6101] [62] F Z → K v (Z, LZ, PC a b P)) (hT13 : ∀ {Z : cF} {LZ : cL}, IMc Z → agc [] [] F Z → T 13 (Z, LZ, PC a b P)) : p_B_feed UL 0 x1 x2 x3 x4 x5 (F, L, PC a b P) K T := by
  unfold p_B_feed
  refine ⟨(show ¬ ((61 : Nat) = NU) from by decide +kernel), ?_⟩
  refine ⟨(show c_cl UL 61 = 9 from cl_61), ?_⟩
  refine ⟨fun hc => ?_, fun hc => ?_⟩
  · have hq1 := hc
    have b2 : B 20 32768 ((F 61 1) + 20) := B_w (B_leL (B_add (show B 0 32768 (F 61 1) from hI 61 1) cqb_20_20_20 (by decide +kernel) (by decide +kernel)) cqb_32768_32768_32768 hq1) (by decide +kernel) (by decide +kernel)
    have q3 : (0) ≤ (F 61 1).toInt ∧ (F 61 1).toInt ≤ (32768) := (show B 0 32768 (F 61 1) from hI 61 1)
    have e4 : ((F 61 1) + 20).toInt = ((F 61 1).toInt + 20) := (t_add (show B 0 32768 (F 61 1) from hI 61 1) cqb_20_20_20 (by decide +kernel) (by decide +kernel)).trans (by rw [cqn_20])
    have q5 : (20) ≤ ((F 61 1) + 20).toInt ∧ ((F 61 1) + 20).toInt ≤ (32768) := (show B 20 32768 ((F 61 1) + 20) from B_w b2 (by decide +kernel) (by decide +kernel))
    have i6 : ((F 61 1) + 20).toInt ≤ (32768 : Int32).toInt := i_le hq1
    have n7 : (32768 : Int32).toInt = 32768 := cqn_32768
    refine ⟨(show ¬ ((61 : Nat) = NU) from by decide +kernel), ?_⟩
    refine h_Ro_addFour_u61 hI (fun {FS30_8} {LFS30_8} hI9 g10 => ?_)
    refine ⟨(show ¬ ((61 : Nat) = NU) from by decide +kernel), ?_⟩
    refine ⟨(show c_cl UL 61 = 9 from cl_61), ?_⟩
    refine h_Ro_addFour_u61 hI9 (fun {FS38_11} {LFS38_11} hI12 g13 => ?_)
    refine ⟨(show ¬ ((61 : Nat) = NU) from by decide +kernel), ?_⟩
    refine ⟨(show c_cl UL 61 = 9 from cl_61), ?_⟩
    refine h_Ro_addFour_u61 hI12 (fun {FS46_14} {LFS46_14} hI15 g16 => ?_)
    refine ⟨(show ¬ ((61 : Nat) = NU) from by decide +kernel), ?_⟩
    refine ⟨(show c_cl UL 61 = 9 from cl_61), ?_⟩
    refine h_Ro_addFour_u61 hI15 (fun {FS55_17} {LFS55_17} hI18 g19 => ?_)
    refine ⟨(show ¬ ((61 : Nat) = NU) from by decide +kernel), ?_⟩
    refine ⟨(show c_cl UL 61 = 9 from cl_61), ?_⟩
    refine h_Ro_addFour_u61 hI18 (fun {FS64_20} {LFS64_20} hI21 g22 => ?_)
    refine ⟨(show ¬ ((61 : Nat) = NU) from by decide +kernel), ?_⟩
    refine ⟨(show c_cl UL 61 = 9 from cl_61), ?_⟩
    have g27 := agc_tr (agc_refl (fs := [6101]) (rs := [62]) (F := F)) g10 (by decide +kernel) (by decide +kernel)
    have g26 := agc_tr g27 g13 (by decide +kernel) (by decide +kernel)
    have g25 := agc_tr g26 g16 (by decide +kernel) (by decide +kernel)
    have g24 := agc_tr g25 g19 (by decide +kernel) (by decide +kernel)
    have g23 := agc_tr g24 g22 (by decide +kernel) (by decide +kernel)
    exact hK (B_w (show B 0 32768 (FS64_20 61 1) from hI21 61 1) (by decide +kernel) (by decide +kernel)) hI21 g23
  · have hq28 := (nle_lt hc)
    have b29 : B 32769 32788 ((F 61 1) + 20) := B_w (B_ltR cqb_32768_32768_32768 (B_add (show B 0 32768 (F 61 1) from hI 61 1) cqb_20_20_20 (by decide +kernel) (by decide +kernel)) hq28) (by decide +kernel) (by decide +kernel)
    have q30 : (0) ≤ (F 61 1).toInt ∧ (F 61 1).toInt ≤ (32768) := (show B 0 32768 (F 61 1) from hI 61 1)
    have e31 : ((F 61 1) + 20).toInt = ((F 61 1).toInt + 20) := (t_add (show B 0 32768 (F 61 1) from hI 61 1) cqb_20_20_20 (by decide +kernel) (by decide +kernel)).trans (by rw [cqn_20])
    have q32 : (32769) ≤ ((F 61 1) + 20).toInt ∧ ((F 61 1) + 20).toInt ≤ (32788) := (show B 32769 32788 ((F 61 1) + 20) from B_w b29 (by decide +kernel) (by decide +kernel))
    have i33 : (32768 : Int32).toInt < ((F 61 1) + 20).toInt := i_lt hq28
    have n34 : (32768 : Int32).toInt = 32768 := cqn_32768
    exact hT13 hI (agc_refl (fs := []) (rs := []) (F := F)) 
set_option maxRecDepth 20000 in
set_option maxHeartbeats 4000000 in
theorem h_B_canvas_u0 {a : Bool} {b : Bool} {P : Nat → Nat → Nat} {x1 : Int32} {x2 : Int32} {x3 : Int32} {F : cF} {L : cL} {K : cs → Prop} {T : Nat → cs → Prop} (hI : IMc F) (hK : ∀ {Z : cF} {LZ : cL}, IMc Z → agc [100, 101, 102] [2] F Z → (((1 ≤ x1.toInt) ∧ (x1.toInt ≤ 64)) ∧ (((1 ≤ x2.toInt) ∧ (x2.toInt ≤ 64)) ∧ ((x3.toInt = 1) ∨ (x3.toInt = 3)))) → K (Z, LZ, PC a b P)) (hT14 : ∀ {Z : cF} {LZ : cL}, IMc Z → agc [] [] F Z → (((x1.toInt < 1) ∨ (64 < x1.toInt)) ∨ (((x2.toInt < 1) ∨ (64 < x2.toInt)) ∨ ((x3.toInt < 1) ∨ ((x3.toInt = 2) ∨ (3 < x3.toInt))))) → T 14 (Z, LZ, PC a b P)) : p_B_canvas UL 0 x1 x2 x3 (F, L, PC a b P) K T := by
  unfold p_B_canvas
  refine h_B_isWithin  (fun {v4_1} b2 r3 r4 => ?_)
  rcases sp_01 b2 with rfl | rfl
  · have r5 : ((0 : Int) = 0) ∨ ((1 ≤ x1.toInt) ∧ (x1.toInt ≤ 64)) := r3
    clear r3
    have r6 : ((0 : Int) = 1) ∨ ((x1.toInt < 1) ∨ (64 < x1.toInt)) := r4
    clear r4
    refine ⟨fun hc => ?_, fun hc => ?_⟩
    · have i7 : (0 : Int32).toInt = (0 : Int32).toInt := congrArg Int32.toInt hc
      have n8 : (0 : Int32).toInt = 0 := cqn_0
      have n9 : (0 : Int32).toInt = 0 := cqn_0
      unfold b_B_canvas_30
      exact hT14 hI (agc_refl (fs := []) (rs := []) (F := F)) (by show ((x1.toInt < 1) ∨ (64 < x1.toInt)) ∨ (((x2.toInt < 1) ∨ (64 < x2.toInt)) ∨ ((x3.toInt < 1) ∨ ((x3.toInt = 2) ∨ (3 < x3.toInt)))); first | with_reducible assumption | omega)
    · exact (hc (B_z cqb_0_0_0)).elim
  · have r10 : ((1 : Int) = 0) ∨ ((1 ≤ x1.toInt) ∧ (x1.toInt ≤ 64)) := r3
    clear r3
    have r11 : ((1 : Int) = 1) ∨ ((x1.toInt < 1) ∨ (64 < x1.toInt)) := r4
    clear r4
    have b12 : B 1 64 (x1) := ⟨by omega, by omega⟩
    refine ⟨fun hc => ?_, fun hc => ?_⟩
    · exact (B_dis cqb_1_1_1 cqb_0_0_0 hc (by decide +kernel)).elim
    · have i13 : (1 : Int32).toInt ≠ (0 : Int32).toInt := i_ne hc
      have n14 : (1 : Int32).toInt = 1 := cqn_1
      have n15 : (0 : Int32).toInt = 0 := cqn_0
      refine h_B_isWithin  (fun {v14_16} b17 r18 r19 => ?_)
      rcases sp_01 b17 with rfl | rfl
      · have r20 : ((0 : Int) = 0) ∨ ((1 ≤ x2.toInt) ∧ (x2.toInt ≤ 64)) := r18
        clear r18
        have r21 : ((0 : Int) = 1) ∨ ((x2.toInt < 1) ∨ (64 < x2.toInt)) := r19
        clear r19
        refine ⟨fun hc => ?_, fun hc => ?_⟩
        · have i22 : (0 : Int32).toInt = (0 : Int32).toInt := congrArg Int32.toInt hc
          have n23 : (0 : Int32).toInt = 0 := cqn_0
          have n24 : (0 : Int32).toInt = 0 := cqn_0
          unfold b_B_canvas_30
          exact hT14 hI (agc_refl (fs := []) (rs := []) (F := F)) (by show ((x1.toInt < 1) ∨ (64 < x1.toInt)) ∨ (((x2.toInt < 1) ∨ (64 < x2.toInt)) ∨ ((x3.toInt < 1) ∨ ((x3.toInt = 2) ∨ (3 < x3.toInt)))); first | with_reducible assumption | omega)
        · exact (hc (B_z cqb_0_0_0)).elim
      · have r25 : ((1 : Int) = 0) ∨ ((1 ≤ x2.toInt) ∧ (x2.toInt ≤ 64)) := r18
        clear r18
        have r26 : ((1 : Int) = 1) ∨ ((x2.toInt < 1) ∨ (64 < x2.toInt)) := r19
        clear r19
        have b27 : B 1 64 (x2) := ⟨by omega, by omega⟩
        refine ⟨fun hc => ?_, fun hc => ?_⟩
        · exact (B_dis cqb_1_1_1 cqb_0_0_0 hc (by decide +kernel)).elim
        · have i28 : (1 : Int32).toInt ≠ (0 : Int32).toInt := i_ne hc
          have n29 : (1 : Int32).toInt = 1 := cqn_1
          have n30 : (0 : Int32).toInt = 0 := cqn_0
          refine ⟨fun hc => ?_, fun hc => ?_⟩
          · have b31 : B 1 1 (x3) := B_w (B_eq hc cqb_1_1_1) (by decide +kernel) (by decide +kernel)
            have q32 : (1) ≤ (x3).toInt ∧ (x3).toInt ≤ (1) := (show B 1 1 (x3) from B_w b31 (by decide +kernel) (by decide +kernel))
            have i33 : (x3).toInt = (1 : Int32).toInt := congrArg Int32.toInt hc
            have n34 : (1 : Int32).toInt = 1 := cqn_1
            unfold b_B_canvas_40
            refine ⟨(show ¬ ((1 : Nat) = NU) from by decide +kernel), ?_⟩
            refine ⟨(show c_cl UL 1 = 2 from cl_1), ?_⟩
            refine h_Ca_begin_u1 b12 b27 (B_w b31 (by decide +kernel) (by decide +kernel)) hI (fun {FS47_35} {LFS47_35} hI36 g37 r38 => ?_)
            have r39 : (FS47_35 1 2).toInt = x3.toInt := r38
            clear r38
            have q40 : (1) ≤ (FS47_35 1 2).toInt ∧ (FS47_35 1 2).toInt ≤ (3) := (show B 1 3 (FS47_35 1 2) from hI36 1 2)
            have g41 := agc_tr (agc_refl (fs := [100, 101, 102]) (rs := [2]) (F := F)) g37 (by decide +kernel) (by decide +kernel)
            exact hK hI36 g41 (by show ((1 ≤ x1.toInt) ∧ (x1.toInt ≤ 64)) ∧ (((1 ≤ x2.toInt) ∧ (x2.toInt ≤ 64)) ∧ ((x3.toInt = 1) ∨ (x3.toInt = 3))); first | with_reducible assumption | omega)
          · have i42 : (x3).toInt ≠ (1 : Int32).toInt := i_ne hc
            have n43 : (1 : Int32).toInt = 1 := cqn_1
            refine ⟨fun hc => ?_, fun hc => ?_⟩
            · have b44 : B 3 3 (x3) := B_w (B_eq hc cqb_3_3_3) (by decide +kernel) (by decide +kernel)
              have q45 : (3) ≤ (x3).toInt ∧ (x3).toInt ≤ (3) := (show B 3 3 (x3) from B_w b44 (by decide +kernel) (by decide +kernel))
              have i46 : (x3).toInt = (3 : Int32).toInt := congrArg Int32.toInt hc
              have n47 : (3 : Int32).toInt = 3 := cqn_3
              unfold b_B_canvas_40
              refine ⟨(show ¬ ((1 : Nat) = NU) from by decide +kernel), ?_⟩
              refine ⟨(show c_cl UL 1 = 2 from cl_1), ?_⟩
              refine h_Ca_begin_u1 b12 b27 (B_w b44 (by decide +kernel) (by decide +kernel)) hI (fun {FS47_48} {LFS47_48} hI49 g50 r51 => ?_)
              have r52 : (FS47_48 1 2).toInt = x3.toInt := r51
              clear r51
              have q53 : (1) ≤ (FS47_48 1 2).toInt ∧ (FS47_48 1 2).toInt ≤ (3) := (show B 1 3 (FS47_48 1 2) from hI49 1 2)
              have g54 := agc_tr (agc_refl (fs := [100, 101, 102]) (rs := [2]) (F := F)) g50 (by decide +kernel) (by decide +kernel)
              exact hK hI49 g54 (by show ((1 ≤ x1.toInt) ∧ (x1.toInt ≤ 64)) ∧ (((1 ≤ x2.toInt) ∧ (x2.toInt ≤ 64)) ∧ ((x3.toInt = 1) ∨ (x3.toInt = 3))); first | with_reducible assumption | omega)
            · have i55 : (x3).toInt ≠ (3 : Int32).toInt := i_ne hc
              have n56 : (3 : Int32).toInt = 3 := cqn_3
              unfold b_B_canvas_30
              exact hT14 hI (agc_refl (fs := []) (rs := []) (F := F)) (by show ((x1.toInt < 1) ∨ (64 < x1.toInt)) ∨ (((x2.toInt < 1) ∨ (64 < x2.toInt)) ∨ ((x3.toInt < 1) ∨ ((x3.toInt = 2) ∨ (3 < x3.toInt)))); first | with_reducible assumption | omega)
set_option maxRecDepth 20000 in
set_option maxHeartbeats 4000000 in
theorem h_Ca_holds_u1 {a : Bool} {b : Bool} {P : Nat → Nat → Nat} {x1 : Int32} {x2 : Int32} {x3 : Int32} {x4 : Int32} {F : cF} {L : cL} {K : Int32 → cs → Prop} (hI : IMc F) (hK : ∀ {v : Int32}, B 0 1 v → ((v.toInt = 0) ∨ ((0 ≤ x1.toInt) ∧ ((0 ≤ x2.toInt) ∧ ((1 ≤ x3.toInt) ∧ ((1 ≤ x4.toInt) ∧ (((x1.toInt + x3.toInt) ≤ (F 1 0).toInt) ∧ ((x2.toInt + x4.toInt) ≤ (F 1 1).toInt))))))) → K v (F, L, PC a b P)) : p_Ca_holds UL 1 x1 x2 x3 x4 (F, L, PC a b P) K := by
  unfold p_Ca_holds
  refine ⟨fun hc => ?_, fun hc => ?_⟩
  · have hq1 := hc
    have b2 : B (-2147483648) (-1) (x1) := B_w (B_ltL (B_any _) cqb_0_0_0 hq1) (by decide +kernel) (by decide +kernel)
    unfold b_Ca_holds_44
    unfold b_Ca_holds_45
    refine ⟨B_nar cqb_0_0_0 (by decide +kernel) (by decide +kernel), ?_⟩
    have q3 : (-2147483648) ≤ (x1).toInt ∧ (x1).toInt ≤ (-1) := (show B (-2147483648) (-1) (x1) from B_w b2 (by decide +kernel) (by decide +kernel))
    have q4 : (1) ≤ (F 1 0).toInt ∧ (F 1 0).toInt ≤ (64) := (show B 1 64 (F 1 0) from hI 1 0)
    have q5 : (1) ≤ (F 1 1).toInt ∧ (F 1 1).toInt ≤ (64) := (show B 1 64 (F 1 1) from hI 1 1)
    exact hK (B_w cqb_0_0_0 (by decide +kernel) (by decide +kernel)) (by show ((0 : Int) = 0) ∨ ((0 ≤ x1.toInt) ∧ ((0 ≤ x2.toInt) ∧ ((1 ≤ x3.toInt) ∧ ((1 ≤ x4.toInt) ∧ (((x1.toInt + x3.toInt) ≤ (F 1 0).toInt) ∧ ((x2.toInt + x4.toInt) ≤ (F 1 1).toInt)))))); first | with_reducible assumption | omega)
  · have hq6 := (nlt_le hc)
    have b7 : B 0 2147483647 (x1) := B_w (B_leR cqb_0_0_0 (B_any _) hq6) (by decide +kernel) (by decide +kernel)
    refine ⟨fun hc => ?_, fun hc => ?_⟩
    · have hq8 := hc
      have b9 : B (-2147483648) (-1) (x2) := B_w (B_ltL (B_any _) cqb_0_0_0 hq8) (by decide +kernel) (by decide +kernel)
      unfold b_Ca_holds_44
      unfold b_Ca_holds_45
      refine ⟨B_nar cqb_0_0_0 (by decide +kernel) (by decide +kernel), ?_⟩
      have q10 : (0) ≤ (x1).toInt ∧ (x1).toInt ≤ (2147483647) := (show B 0 2147483647 (x1) from B_w b7 (by decide +kernel) (by decide +kernel))
      have q11 : (-2147483648) ≤ (x2).toInt ∧ (x2).toInt ≤ (-1) := (show B (-2147483648) (-1) (x2) from B_w b9 (by decide +kernel) (by decide +kernel))
      have q12 : (1) ≤ (F 1 0).toInt ∧ (F 1 0).toInt ≤ (64) := (show B 1 64 (F 1 0) from hI 1 0)
      have q13 : (1) ≤ (F 1 1).toInt ∧ (F 1 1).toInt ≤ (64) := (show B 1 64 (F 1 1) from hI 1 1)
      exact hK (B_w cqb_0_0_0 (by decide +kernel) (by decide +kernel)) (by show ((0 : Int) = 0) ∨ ((0 ≤ x1.toInt) ∧ ((0 ≤ x2.toInt) ∧ ((1 ≤ x3.toInt) ∧ ((1 ≤ x4.toInt) ∧ (((x1.toInt + x3.toInt) ≤ (F 1 0).toInt) ∧ ((x2.toInt + x4.toInt) ≤ (F 1 1).toInt)))))); first | with_reducible assumption | omega)
    · have hq14 := (nlt_le hc)
      have b15 : B 0 2147483647 (x2) := B_w (B_leR cqb_0_0_0 (B_any _) hq14) (by decide +kernel) (by decide +kernel)
      refine ⟨fun hc => ?_, fun hc => ?_⟩
      · have hq16 := hc
        have b17 : B (-2147483648) 0 (x3) := B_w (B_ltL (B_any _) cqb_1_1_1 hq16) (by decide +kernel) (by decide +kernel)
        unfold b_Ca_holds_44
        unfold b_Ca_holds_45
        refine ⟨B_nar cqb_0_0_0 (by decide +kernel) (by decide +kernel), ?_⟩
        have q18 : (0) ≤ (x1).toInt ∧ (x1).toInt ≤ (2147483647) := (show B 0 2147483647 (x1) from B_w b7 (by decide +kernel) (by decide +kernel))
        have q19 : (0) ≤ (x2).toInt ∧ (x2).toInt ≤ (2147483647) := (show B 0 2147483647 (x2) from B_w b15 (by decide +kernel) (by decide +kernel))
        have q20 : (-2147483648) ≤ (x3).toInt ∧ (x3).toInt ≤ (0) := (show B (-2147483648) 0 (x3) from B_w b17 (by decide +kernel) (by decide +kernel))
        have q21 : (1) ≤ (F 1 0).toInt ∧ (F 1 0).toInt ≤ (64) := (show B 1 64 (F 1 0) from hI 1 0)
        have q22 : (1) ≤ (F 1 1).toInt ∧ (F 1 1).toInt ≤ (64) := (show B 1 64 (F 1 1) from hI 1 1)
        exact hK (B_w cqb_0_0_0 (by decide +kernel) (by decide +kernel)) (by show ((0 : Int) = 0) ∨ ((0 ≤ x1.toInt) ∧ ((0 ≤ x2.toInt) ∧ ((1 ≤ x3.toInt) ∧ ((1 ≤ x4.toInt) ∧ (((x1.toInt + x3.toInt) ≤ (F 1 0).toInt) ∧ ((x2.toInt + x4.toInt) ≤ (F 1 1).toInt)))))); first | with_reducible assumption | omega)
      · have hq23 := (nlt_le hc)
        have b24 : B 1 2147483647 (x3) := B_w (B_leR cqb_1_1_1 (B_any _) hq23) (by decide +kernel) (by decide +kernel)
        refine ⟨fun hc => ?_, fun hc => ?_⟩
        · have hq25 := hc
          have b26 : B (-2147483648) 0 (x4) := B_w (B_ltL (B_any _) cqb_1_1_1 hq25) (by decide +kernel) (by decide +kernel)
          unfold b_Ca_holds_44
          unfold b_Ca_holds_45
          refine ⟨B_nar cqb_0_0_0 (by decide +kernel) (by decide +kernel), ?_⟩
          have q27 : (0) ≤ (x1).toInt ∧ (x1).toInt ≤ (2147483647) := (show B 0 2147483647 (x1) from B_w b7 (by decide +kernel) (by decide +kernel))
          have q28 : (0) ≤ (x2).toInt ∧ (x2).toInt ≤ (2147483647) := (show B 0 2147483647 (x2) from B_w b15 (by decide +kernel) (by decide +kernel))
          have q29 : (1) ≤ (x3).toInt ∧ (x3).toInt ≤ (2147483647) := (show B 1 2147483647 (x3) from B_w b24 (by decide +kernel) (by decide +kernel))
          have q30 : (-2147483648) ≤ (x4).toInt ∧ (x4).toInt ≤ (0) := (show B (-2147483648) 0 (x4) from B_w b26 (by decide +kernel) (by decide +kernel))
          have q31 : (1) ≤ (F 1 0).toInt ∧ (F 1 0).toInt ≤ (64) := (show B 1 64 (F 1 0) from hI 1 0)
          have q32 : (1) ≤ (F 1 1).toInt ∧ (F 1 1).toInt ≤ (64) := (show B 1 64 (F 1 1) from hI 1 1)
          exact hK (B_w cqb_0_0_0 (by decide +kernel) (by decide +kernel)) (by show ((0 : Int) = 0) ∨ ((0 ≤ x1.toInt) ∧ ((0 ≤ x2.toInt) ∧ ((1 ≤ x3.toInt) ∧ ((1 ≤ x4.toInt) ∧ (((x1.toInt + x3.toInt) ≤ (F 1 0).toInt) ∧ ((x2.toInt + x4.toInt) ≤ (F 1 1).toInt)))))); first | with_reducible assumption | omega)
        · have hq33 := (nlt_le hc)
          have b34 : B 1 2147483647 (x4) := B_w (B_leR cqb_1_1_1 (B_any _) hq33) (by decide +kernel) (by decide +kernel)
          refine ⟨fun hc => ?_, fun hc => ?_⟩
          · have hq35 := hc
            have q36 : (1) ≤ (F 1 0).toInt ∧ (F 1 0).toInt ≤ (64) := (show B 1 64 (F 1 0) from hI 1 0)
            have q37 : (0) ≤ (x1).toInt ∧ (x1).toInt ≤ (2147483647) := (show B 0 2147483647 (x1) from B_w b7 (by decide +kernel) (by decide +kernel))
            have e38 : ((F 1 0) - x1).toInt = ((F 1 0).toInt - (x1).toInt) := (t_sub (show B 1 64 (F 1 0) from hI 1 0) b7 (by decide +kernel) (by decide +kernel)).trans (by rfl)
            have q39 : (-2147483646) ≤ ((F 1 0) - x1).toInt ∧ ((F 1 0) - x1).toInt ≤ (64) := (show B (-2147483646) 64 ((F 1 0) - x1) from B_w (B_sub (show B 1 64 (F 1 0) from hI 1 0) b7 (by decide +kernel) (by decide +kernel)) (by decide +kernel) (by decide +kernel))
            have q40 : (1) ≤ (x3).toInt ∧ (x3).toInt ≤ (2147483647) := (show B 1 2147483647 (x3) from B_w b24 (by decide +kernel) (by decide +kernel))
            have i41 : ((F 1 0) - x1).toInt < (x3).toInt := i_lt hq35
            unfold b_Ca_holds_44
            unfold b_Ca_holds_45
            refine ⟨B_nar cqb_0_0_0 (by decide +kernel) (by decide +kernel), ?_⟩
            have q42 : (0) ≤ (x2).toInt ∧ (x2).toInt ≤ (2147483647) := (show B 0 2147483647 (x2) from B_w b15 (by decide +kernel) (by decide +kernel))
            have q43 : (1) ≤ (x4).toInt ∧ (x4).toInt ≤ (2147483647) := (show B 1 2147483647 (x4) from B_w b34 (by decide +kernel) (by decide +kernel))
            have q44 : (1) ≤ (F 1 1).toInt ∧ (F 1 1).toInt ≤ (64) := (show B 1 64 (F 1 1) from hI 1 1)
            exact hK (B_w cqb_0_0_0 (by decide +kernel) (by decide +kernel)) (by show ((0 : Int) = 0) ∨ ((0 ≤ x1.toInt) ∧ ((0 ≤ x2.toInt) ∧ ((1 ≤ x3.toInt) ∧ ((1 ≤ x4.toInt) ∧ (((x1.toInt + x3.toInt) ≤ (F 1 0).toInt) ∧ ((x2.toInt + x4.toInt) ≤ (F 1 1).toInt)))))); first | with_reducible assumption | omega)
          · have hq45 := (nlt_le hc)
            have b46 : B 1 64 (x3) := B_w (B_leL b24 (B_sub (show B 1 64 (F 1 0) from hI 1 0) b7 (by decide +kernel) (by decide +kernel)) hq45) (by decide +kernel) (by decide +kernel)
            have b47 : B 1 64 ((F 1 0) - x1) := B_w (B_leR b24 (B_sub (show B 1 64 (F 1 0) from hI 1 0) b7 (by decide +kernel) (by decide +kernel)) hq45) (by decide +kernel) (by decide +kernel)
            have q48 : (1) ≤ (x3).toInt ∧ (x3).toInt ≤ (64) := (show B 1 64 (x3) from B_w b46 (by decide +kernel) (by decide +kernel))
            have q49 : (1) ≤ (F 1 0).toInt ∧ (F 1 0).toInt ≤ (64) := (show B 1 64 (F 1 0) from hI 1 0)
            have q50 : (0) ≤ (x1).toInt ∧ (x1).toInt ≤ (2147483647) := (show B 0 2147483647 (x1) from B_w b7 (by decide +kernel) (by decide +kernel))
            have e51 : ((F 1 0) - x1).toInt = ((F 1 0).toInt - (x1).toInt) := (t_sub (show B 1 64 (F 1 0) from hI 1 0) b7 (by decide +kernel) (by decide +kernel)).trans (by rfl)
            have q52 : (1) ≤ ((F 1 0) - x1).toInt ∧ ((F 1 0) - x1).toInt ≤ (64) := (show B 1 64 ((F 1 0) - x1) from B_w b47 (by decide +kernel) (by decide +kernel))
            have i53 : (x3).toInt ≤ ((F 1 0) - x1).toInt := i_le hq45
            refine ⟨fun hc => ?_, fun hc => ?_⟩
            · have hq54 := hc
              have q55 : (1) ≤ (F 1 1).toInt ∧ (F 1 1).toInt ≤ (64) := (show B 1 64 (F 1 1) from hI 1 1)
              have q56 : (0) ≤ (x2).toInt ∧ (x2).toInt ≤ (2147483647) := (show B 0 2147483647 (x2) from B_w b15 (by decide +kernel) (by decide +kernel))
              have e57 : ((F 1 1) - x2).toInt = ((F 1 1).toInt - (x2).toInt) := (t_sub (show B 1 64 (F 1 1) from hI 1 1) b15 (by decide +kernel) (by decide +kernel)).trans (by rfl)
              have q58 : (-2147483646) ≤ ((F 1 1) - x2).toInt ∧ ((F 1 1) - x2).toInt ≤ (64) := (show B (-2147483646) 64 ((F 1 1) - x2) from B_w (B_sub (show B 1 64 (F 1 1) from hI 1 1) b15 (by decide +kernel) (by decide +kernel)) (by decide +kernel) (by decide +kernel))
              have q59 : (1) ≤ (x4).toInt ∧ (x4).toInt ≤ (2147483647) := (show B 1 2147483647 (x4) from B_w b34 (by decide +kernel) (by decide +kernel))
              have i60 : ((F 1 1) - x2).toInt < (x4).toInt := i_lt hq54
              unfold b_Ca_holds_44
              unfold b_Ca_holds_45
              refine ⟨B_nar cqb_0_0_0 (by decide +kernel) (by decide +kernel), ?_⟩
              exact hK (B_w cqb_0_0_0 (by decide +kernel) (by decide +kernel)) (by show ((0 : Int) = 0) ∨ ((0 ≤ x1.toInt) ∧ ((0 ≤ x2.toInt) ∧ ((1 ≤ x3.toInt) ∧ ((1 ≤ x4.toInt) ∧ (((x1.toInt + x3.toInt) ≤ (F 1 0).toInt) ∧ ((x2.toInt + x4.toInt) ≤ (F 1 1).toInt)))))); first | with_reducible assumption | omega)
            · have hq61 := (nlt_le hc)
              have b62 : B 1 64 (x4) := B_w (B_leL b34 (B_sub (show B 1 64 (F 1 1) from hI 1 1) b15 (by decide +kernel) (by decide +kernel)) hq61) (by decide +kernel) (by decide +kernel)
              have b63 : B 1 64 ((F 1 1) - x2) := B_w (B_leR b34 (B_sub (show B 1 64 (F 1 1) from hI 1 1) b15 (by decide +kernel) (by decide +kernel)) hq61) (by decide +kernel) (by decide +kernel)
              have q64 : (1) ≤ (x4).toInt ∧ (x4).toInt ≤ (64) := (show B 1 64 (x4) from B_w b62 (by decide +kernel) (by decide +kernel))
              have q65 : (1) ≤ (F 1 1).toInt ∧ (F 1 1).toInt ≤ (64) := (show B 1 64 (F 1 1) from hI 1 1)
              have q66 : (0) ≤ (x2).toInt ∧ (x2).toInt ≤ (2147483647) := (show B 0 2147483647 (x2) from B_w b15 (by decide +kernel) (by decide +kernel))
              have e67 : ((F 1 1) - x2).toInt = ((F 1 1).toInt - (x2).toInt) := (t_sub (show B 1 64 (F 1 1) from hI 1 1) b15 (by decide +kernel) (by decide +kernel)).trans (by rfl)
              have q68 : (1) ≤ ((F 1 1) - x2).toInt ∧ ((F 1 1) - x2).toInt ≤ (64) := (show B 1 64 ((F 1 1) - x2) from B_w b63 (by decide +kernel) (by decide +kernel))
              have i69 : (x4).toInt ≤ ((F 1 1) - x2).toInt := i_le hq61
              unfold b_Ca_holds_45
              refine ⟨B_nar cqb_1_1_1 (by decide +kernel) (by decide +kernel), ?_⟩
              exact hK (B_w cqb_1_1_1 (by decide +kernel) (by decide +kernel)) (by show ((1 : Int) = 0) ∨ ((0 ≤ x1.toInt) ∧ ((0 ≤ x2.toInt) ∧ ((1 ≤ x3.toInt) ∧ ((1 ≤ x4.toInt) ∧ (((x1.toInt + x3.toInt) ≤ (F 1 0).toInt) ∧ ((x2.toInt + x4.toInt) ≤ (F 1 1).toInt)))))); first | with_reducible assumption | omega)
set_option maxRecDepth 20000 in
set_option maxHeartbeats 4000000 in
theorem h_Ca_paint_u1 {a : Bool} {b : Bool} {P : Nat → Nat → Nat} {x1 : Int32} {x2 : Int32} {x3 : Int32} {x4 : Int32} {x5 : Int32} {x6 : Int32} {F : cF} {L : cL} {K : cs → Prop} (b_x1 : B 0 63 x1) (b_x2 : B 0 63 x2) (b_x3 : B 1 64 x3) (b_x4 : B 1 64 x4) (hI : IMc F) (pre0 : (x1.toInt + x3.toInt) ≤ 64) (pre1 : (x2.toInt + x4.toInt) ≤ 64) (hK : ∀ {Z : cF} {LZ : cL}, IMc Z → agc [] [2, 999] F Z → K (Z, LZ, PC a b P)) : p_Ca_paint UL 1 x1 x2 x3 x4 x5 x6 (F, L, PC a b P) K := by
  have q1 : (0) ≤ (x1).toInt ∧ (x1).toInt ≤ (63) := (show B 0 63 (x1) from B_w b_x1 (by decide +kernel) (by decide +kernel))
  have q2 : (1) ≤ (x3).toInt ∧ (x3).toInt ≤ (64) := (show B 1 64 (x3) from B_w b_x3 (by decide +kernel) (by decide +kernel))
  have q3 : (0) ≤ (x2).toInt ∧ (x2).toInt ≤ (63) := (show B 0 63 (x2) from B_w b_x2 (by decide +kernel) (by decide +kernel))
  have q4 : (1) ≤ (x4).toInt ∧ (x4).toInt ≤ (64) := (show B 1 64 (x4) from B_w b_x4 (by decide +kernel) (by decide +kernel))
  unfold p_Ca_paint
  refine ⟨fun hc => ?_, fun hc => ?_⟩
  · have hq5 := hc
    refine ⟨fun yx1 yx2 yx3 yx4 yx5 yx6 yx7 yS => x1 = yx1 ∧ x2 = yx2 ∧ x3 = yx3 ∧ x4 = yx4 ∧ x5 = yx5 ∧ x6 = yx6 ∧ B 0 3 yx7 ∧ ∃ (T13 : cF) (LT13 : cL), yS = (T13, LT13, PC a b P) ∧ IMc T13 ∧ agc [] [2, 999] F T13, fun yx1 yx2 yx3 yx4 yx5 yx6 yx7 yS => (3 - yx7.toInt).toNat, ⟨rfl, rfl, rfl, rfl, rfl, rfl, (B_w cqb_0_0_0 (by decide +kernel) (by decide +kernel)), _, _, rfl, hI, (agc_refl (fs := []) (rs := [2, 999]) (F := F))⟩, fun x1_6 x2_7 x3_8 x4_9 x5_10 x6_11 x7_12 ST13 hIv => ?_⟩
    obtain ⟨rfl, rfl, rfl, rfl, rfl, rfl, b14, T13, LT13, rfl, hI15, g16⟩ := hIv
    suffices hs : ∀ (R9 : Int32 → Int32 → Int32 → Int32 → Int32 → Int32 → Int32 → cs → Prop), (∀ zx1 zx2 zx3 zx4 zx5 zx6 zx7 zS, (x1 = zx1 ∧ x2 = zx2 ∧ x3 = zx3 ∧ x4 = zx4 ∧ x5 = zx5 ∧ x6 = zx6 ∧ B 0 3 zx7 ∧ ∃ (T13 : cF) (LT13 : cL), zS = (T13, LT13, PC a b P) ∧ IMc T13 ∧ agc [] [2, 999] F T13) → (3 - zx7.toInt).toNat < (3 - x7_12.toInt).toNat → R9 zx1 zx2 zx3 zx4 zx5 zx6 zx7 zS) → b_Ca_paint_9 UL 1 x1 x2 x3 x4 x5 x6 x7_12 (T13, LT13, PC a b P) R9 K from hs _ (fun _ _ _ _ _ _ _ _ h1 h2 => ⟨h1, h2⟩)
    intro R9 hR90
    have hR9 := fun {zx1} {zx2} {zx3} {zx4} {zx5} {zx6} {zx7} {zS} => hR90 zx1 zx2 zx3 zx4 zx5 zx6 zx7 zS
    unfold b_Ca_paint_9
    refine ⟨fun hc => ?_, fun hc => ?_⟩
    · have hq17 := hc
      have b18 : B 1 3 (x7_12) := B_w (B_leR (B_eq (g16.1 1 2 rfl rfl) (show B 1 3 (F 1 2) from hI 1 2)) b14 hq17) (by decide +kernel) (by decide +kernel)
      have q19 : (1) ≤ (F 1 2).toInt ∧ (F 1 2).toInt ≤ (3) := (show B 1 3 (F 1 2) from hI 1 2)
      have e20 : (T13 1 2).toInt = (F 1 2).toInt := (congrArg Int32.toInt (g16.1 1 2 rfl rfl)).trans rfl
      have q21 : (1) ≤ (x7_12).toInt ∧ (x7_12).toInt ≤ (3) := (show B 1 3 (x7_12) from B_w b18 (by decide +kernel) (by decide +kernel))
      have i22 : (T13 1 2).toInt ≤ (x7_12).toInt := i_le hq17
      have g23 := agc_tr (agc_refl (fs := []) (rs := [2, 999]) (F := F)) g16 (by decide +kernel) (by decide +kernel)
      exact hK hI15 g23
    · have hq24 := (nle_lt hc)
      have b25 : B 0 2 (x7_12) := B_w (B_ltL b14 (B_eq (g16.1 1 2 rfl rfl) (show B 1 3 (F 1 2) from hI 1 2)) hq24) (by decide +kernel) (by decide +kernel)
      have q26 : (0) ≤ (x7_12).toInt ∧ (x7_12).toInt ≤ (2) := (show B 0 2 (x7_12) from B_w b25 (by decide +kernel) (by decide +kernel))
      have q27 : (1) ≤ (F 1 2).toInt ∧ (F 1 2).toInt ≤ (3) := (show B 1 3 (F 1 2) from hI 1 2)
      have e28 : (T13 1 2).toInt = (F 1 2).toInt := (congrArg Int32.toInt (g16.1 1 2 rfl rfl)).trans rfl
      have i29 : (x7_12).toInt < (T13 1 2).toInt := i_lt hq24
      refine ⟨fun yx1 yx2 yx3 yx4 yx5 yx6 yx7 yx9 yx10 yx11 yS => x1 = yx1 ∧ x2 = yx2 ∧ x3 = yx3 ∧ x4 = yx4 ∧ x5 = yx5 ∧ x6 = yx6 ∧ x7_12 = yx7 ∧ ((x5 >>> ((8 * (((T13 1 2) - 1) - x7_12)) &&& 31 : Int32) : Int32) &&& 255) = yx9 ∧ ((x6 >>> ((8 * (((T13 1 2) - 1) - x7_12)) &&& 31 : Int32) : Int32) &&& 255) = yx10 ∧ B 0 64 yx11 ∧ ∃ (T40 : cF) (LT40 : cL), yS = (T40, LT40, PC a b P) ∧ IMc T40 ∧ agc [] [2, 999] T13 T40, fun yx1 yx2 yx3 yx4 yx5 yx6 yx7 yx9 yx10 yx11 yS => (64 - yx11.toInt).toNat, ⟨rfl, rfl, rfl, rfl, rfl, rfl, rfl, rfl, rfl, (B_w cqb_0_0_0 (by decide +kernel) (by decide +kernel)), _, _, rfl, hI15, (agc_refl (fs := []) (rs := [2, 999]) (F := T13))⟩, fun x1_30 x2_31 x3_32 x4_33 x5_34 x6_35 x7_36 x9_37 x10_38 x11_39 ST40 hIv => ?_⟩
      obtain ⟨rfl, rfl, rfl, rfl, rfl, rfl, rfl, rfl, rfl, b41, T40, LT40, rfl, hI42, g43⟩ := hIv
      suffices hs : ∀ (R57 : Int32 → Int32 → Int32 → Int32 → Int32 → Int32 → Int32 → Int32 → Int32 → Int32 → cs → Prop), (∀ zx1 zx2 zx3 zx4 zx5 zx6 zx7 zx9 zx10 zx11 zS, (x1 = zx1 ∧ x2 = zx2 ∧ x3 = zx3 ∧ x4 = zx4 ∧ x5 = zx5 ∧ x6 = zx6 ∧ x7_12 = zx7 ∧ ((x5 >>> ((8 * (((T13 1 2) - 1) - x7_12)) &&& 31 : Int32) : Int32) &&& 255) = zx9 ∧ ((x6 >>> ((8 * (((T13 1 2) - 1) - x7_12)) &&& 31 : Int32) : Int32) &&& 255) = zx10 ∧ B 0 64 zx11 ∧ ∃ (T40 : cF) (LT40 : cL), zS = (T40, LT40, PC a b P) ∧ IMc T40 ∧ agc [] [2, 999] T13 T40) → (64 - zx11.toInt).toNat < (64 - x11_39.toInt).toNat → R57 zx1 zx2 zx3 zx4 zx5 zx6 zx7 zx9 zx10 zx11 zS) → b_Ca_paint_57 UL 1 x1 x2 x3 x4 x5 x6 x7_12 ((x5 >>> ((8 * (((T13 1 2) - 1) - x7_12)) &&& 31 : Int32) : Int32) &&& 255) ((x6 >>> ((8 * (((T13 1 2) - 1) - x7_12)) &&& 31 : Int32) : Int32) &&& 255) x11_39 (T40, LT40, PC a b P) R9 R57 K from hs _ (fun _ _ _ _ _ _ _ _ _ _ _ h1 h2 => ⟨h1, h2⟩)
      intro R57 hR570
      have hR57 := fun {zx1} {zx2} {zx3} {zx4} {zx5} {zx6} {zx7} {zx9} {zx10} {zx11} {zS} => hR570 zx1 zx2 zx3 zx4 zx5 zx6 zx7 zx9 zx10 zx11 zS
      unfold b_Ca_paint_57
      refine ⟨fun hc => ?_, fun hc => ?_⟩
      · have hq44 := hc
        have b45 : B 1 64 (x11_39) := B_w (B_leR b_x3 b41 hq44) (by decide +kernel) (by decide +kernel)
        have q46 : (1) ≤ (x11_39).toInt ∧ (x11_39).toInt ≤ (64) := (show B 1 64 (x11_39) from B_w b45 (by decide +kernel) (by decide +kernel))
        have i47 : (x3).toInt ≤ (x11_39).toInt := i_le hq44
        have g49 := agc_tr (agc_refl (fs := []) (rs := [2, 999]) (F := F)) g16 (by decide +kernel) (by decide +kernel)
        have g48 := agc_tr g49 g43 (by decide +kernel) (by decide +kernel)
        have e50 : (x7_12 + 1).toInt = ((x7_12).toInt + 1) := (t_add b25 cqb_1_1_1 (by decide +kernel) (by decide +kernel)).trans (by rw [cqn_1])
        have q51 : (1) ≤ (x7_12 + 1).toInt ∧ (x7_12 + 1).toInt ≤ (3) := (show B 1 3 (x7_12 + 1) from B_w (B_add b25 cqb_1_1_1 (by decide +kernel) (by decide +kernel)) (by decide +kernel) (by decide +kernel))
        exact hR9 ⟨rfl, rfl, rfl, rfl, rfl, rfl, (B_w (B_add b25 cqb_1_1_1 (by decide +kernel) (by decide +kernel)) (by decide +kernel) (by decide +kernel)), _, _, rfl, hI42, g48⟩ (by show (3 - (x7_12 + 1).toInt).toNat < (3 - x7_12.toInt).toNat; omega)
      · have hq52 := (nle_lt hc)
        have b53 : B 0 63 (x11_39) := B_w (B_ltL b41 b_x3 hq52) (by decide +kernel) (by decide +kernel)
        have q54 : (0) ≤ (x11_39).toInt ∧ (x11_39).toInt ≤ (63) := (show B 0 63 (x11_39) from B_w b53 (by decide +kernel) (by decide +kernel))
        have i55 : (x11_39).toInt < (x3).toInt := i_lt hq52
        refine ⟨B_nz b_x3 (by decide +kernel), ?_⟩
        refine ⟨fun yx1 yx2 yx3 yx4 yx5 yx6 yx7 yx9 yx10 yx11 yx12 yx13 yS => x1 = yx1 ∧ x2 = yx2 ∧ x3 = yx3 ∧ x4 = yx4 ∧ x5 = yx5 ∧ x6 = yx6 ∧ x7_12 = yx7 ∧ ((x5 >>> ((8 * (((T13 1 2) - 1) - x7_12)) &&& 31 : Int32) : Int32) &&& 255) = yx9 ∧ ((x6 >>> ((8 * (((T13 1 2) - 1) - x7_12)) &&& 31 : Int32) : Int32) &&& 255) = yx10 ∧ x11_39 = yx11 ∧ (((x5 >>> ((8 * (((T13 1 2) - 1) - x7_12)) &&& 31 : Int32) : Int32) &&& 255) + (((((x6 >>> ((8 * (((T13 1 2) - 1) - x7_12)) &&& 31 : Int32) : Int32) &&& 255) - ((x5 >>> ((8 * (((T13 1 2) - 1) - x7_12)) &&& 31 : Int32) : Int32) &&& 255)) * x11_39) / x3)) = yx12 ∧ B 0 64 yx13 ∧ ∃ (T68 : cF) (LT68 : cL), yS = (T68, LT68, PC a b P) ∧ IMc T68 ∧ agc [] [2] T40 T68, fun yx1 yx2 yx3 yx4 yx5 yx6 yx7 yx9 yx10 yx11 yx12 yx13 yS => (64 - yx13.toInt).toNat, ⟨rfl, rfl, rfl, rfl, rfl, rfl, rfl, rfl, rfl, rfl, rfl, (B_w cqb_0_0_0 (by decide +kernel) (by decide +kernel)), _, _, rfl, hI42, (agc_refl (fs := []) (rs := [2]) (F := T40))⟩, fun x1_56 x2_57 x3_58 x4_59 x5_60 x6_61 x7_62 x9_63 x10_64 x11_65 x12_66 x13_67 ST68 hIv => ?_⟩
        obtain ⟨rfl, rfl, rfl, rfl, rfl, rfl, rfl, rfl, rfl, rfl, rfl, b69, T68, LT68, rfl, hI70, g71⟩ := hIv
        suffices hs : ∀ (R81 : Int32 → Int32 → Int32 → Int32 → Int32 → Int32 → Int32 → Int32 → Int32 → Int32 → Int32 → Int32 → cs → Prop), (∀ zx1 zx2 zx3 zx4 zx5 zx6 zx7 zx9 zx10 zx11 zx12 zx13 zS, (x1 = zx1 ∧ x2 = zx2 ∧ x3 = zx3 ∧ x4 = zx4 ∧ x5 = zx5 ∧ x6 = zx6 ∧ x7_12 = zx7 ∧ ((x5 >>> ((8 * (((T13 1 2) - 1) - x7_12)) &&& 31 : Int32) : Int32) &&& 255) = zx9 ∧ ((x6 >>> ((8 * (((T13 1 2) - 1) - x7_12)) &&& 31 : Int32) : Int32) &&& 255) = zx10 ∧ x11_39 = zx11 ∧ (((x5 >>> ((8 * (((T13 1 2) - 1) - x7_12)) &&& 31 : Int32) : Int32) &&& 255) + (((((x6 >>> ((8 * (((T13 1 2) - 1) - x7_12)) &&& 31 : Int32) : Int32) &&& 255) - ((x5 >>> ((8 * (((T13 1 2) - 1) - x7_12)) &&& 31 : Int32) : Int32) &&& 255)) * x11_39) / x3)) = zx12 ∧ B 0 64 zx13 ∧ ∃ (T68 : cF) (LT68 : cL), zS = (T68, LT68, PC a b P) ∧ IMc T68 ∧ agc [] [2] T40 T68) → (64 - zx13.toInt).toNat < (64 - x13_67.toInt).toNat → R81 zx1 zx2 zx3 zx4 zx5 zx6 zx7 zx9 zx10 zx11 zx12 zx13 zS) → b_Ca_paint_81 UL 1 x1 x2 x3 x4 x5 x6 x7_12 ((x5 >>> ((8 * (((T13 1 2) - 1) - x7_12)) &&& 31 : Int32) : Int32) &&& 255) ((x6 >>> ((8 * (((T13 1 2) - 1) - x7_12)) &&& 31 : Int32) : Int32) &&& 255) x11_39 (((x5 >>> ((8 * (((T13 1 2) - 1) - x7_12)) &&& 31 : Int32) : Int32) &&& 255) + (((((x6 >>> ((8 * (((T13 1 2) - 1) - x7_12)) &&& 31 : Int32) : Int32) &&& 255) - ((x5 >>> ((8 * (((T13 1 2) - 1) - x7_12)) &&& 31 : Int32) : Int32) &&& 255)) * x11_39) / x3)) x13_67 (T68, LT68, PC a b P) R9 R57 R81 K from hs _ (fun _ _ _ _ _ _ _ _ _ _ _ _ _ h1 h2 => ⟨h1, h2⟩)
        intro R81 hR810
        have hR81 := fun {zx1} {zx2} {zx3} {zx4} {zx5} {zx6} {zx7} {zx9} {zx10} {zx11} {zx12} {zx13} {zS} => hR810 zx1 zx2 zx3 zx4 zx5 zx6 zx7 zx9 zx10 zx11 zx12 zx13 zS
        unfold b_Ca_paint_81
        refine ⟨fun hc => ?_, fun hc => ?_⟩
        · have hq72 := hc
          have b73 : B 1 64 (x13_67) := B_w (B_leR b_x4 b69 hq72) (by decide +kernel) (by decide +kernel)
          have q74 : (1) ≤ (x13_67).toInt ∧ (x13_67).toInt ≤ (64) := (show B 1 64 (x13_67) from B_w b73 (by decide +kernel) (by decide +kernel))
          have i75 : (x4).toInt ≤ (x13_67).toInt := i_le hq72
          have g77 := agc_tr (agc_refl (fs := []) (rs := [2, 999]) (F := T13)) g43 (by decide +kernel) (by decide +kernel)
          have g76 := agc_tr g77 g71 (by decide +kernel) (by decide +kernel)
          have e78 : (x11_39 + 1).toInt = ((x11_39).toInt + 1) := (t_add b53 cqb_1_1_1 (by decide +kernel) (by decide +kernel)).trans (by rw [cqn_1])
          have q79 : (1) ≤ (x11_39 + 1).toInt ∧ (x11_39 + 1).toInt ≤ (64) := (show B 1 64 (x11_39 + 1) from B_w (B_add b53 cqb_1_1_1 (by decide +kernel) (by decide +kernel)) (by decide +kernel) (by decide +kernel))
          exact hR57 ⟨rfl, rfl, rfl, rfl, rfl, rfl, rfl, rfl, rfl, (B_w (B_add b53 cqb_1_1_1 (by decide +kernel) (by decide +kernel)) (by decide +kernel) (by decide +kernel)), _, _, rfl, hI70, g76⟩ (by show (64 - (x11_39 + 1).toInt).toNat < (64 - x11_39.toInt).toNat; omega)
        · have hq80 := (nle_lt hc)
          have b81 : B 0 63 (x13_67) := B_w (B_ltL b69 b_x4 hq80) (by decide +kernel) (by decide +kernel)
          have q82 : (0) ≤ (x13_67).toInt ∧ (x13_67).toInt ≤ (63) := (show B 0 63 (x13_67) from B_w b81 (by decide +kernel) (by decide +kernel))
          have i83 : (x13_67).toInt < (x4).toInt := i_lt hq80
          refine ⟨(show ¬ ((2 : Nat) = NU) from by decide +kernel), ?_⟩
          try unfold p_B_spot
          refine ⟨(show c_cl UL 2 = 902 from cl_2), ?_⟩
          have e84 : (4096 * x7_12).toInt = (4096 * (x7_12).toInt) := (t_mul cqb_4096_4096_4096 b25 (by decide +kernel) (by decide +kernel) (by decide +kernel)).trans (by rw [cqn_4096])
          have q85 : (0) ≤ (4096 * x7_12).toInt ∧ (4096 * x7_12).toInt ≤ (8192) := (show B 0 8192 (4096 * x7_12) from B_w (B_mul cqb_4096_4096_4096 b25 (by decide +kernel) (by decide +kernel) (by decide +kernel)) (by decide +kernel) (by decide +kernel))
          have e86 : (x2 + x13_67).toInt = ((x2).toInt + (x13_67).toInt) := (t_add b_x2 b81 (by decide +kernel) (by decide +kernel)).trans (by rfl)
          have q87 : (0) ≤ (x2 + x13_67).toInt ∧ (x2 + x13_67).toInt ≤ (126) := (show B 0 126 (x2 + x13_67) from B_w (B_add b_x2 b81 (by decide +kernel) (by decide +kernel)) (by decide +kernel) (by decide +kernel))
          have e88 : (64 * (x2 + x13_67)).toInt = (64 * ((x2).toInt + (x13_67).toInt)) := (t_mul cqb_64_64_64 (B_add b_x2 b81 (by decide +kernel) (by decide +kernel)) (by decide +kernel) (by decide +kernel) (by decide +kernel)).trans (by rw [cqn_64, e86])
          have q89 : (0) ≤ (64 * (x2 + x13_67)).toInt ∧ (64 * (x2 + x13_67)).toInt ≤ (8064) := (show B 0 8064 (64 * (x2 + x13_67)) from B_w (B_mul cqb_64_64_64 (B_add b_x2 b81 (by decide +kernel) (by decide +kernel)) (by decide +kernel) (by decide +kernel) (by decide +kernel)) (by decide +kernel) (by decide +kernel))
          have e90 : ((4096 * x7_12) + (64 * (x2 + x13_67))).toInt = ((4096 * (x7_12).toInt) + (64 * ((x2).toInt + (x13_67).toInt))) := (t_add (B_mul cqb_4096_4096_4096 b25 (by decide +kernel) (by decide +kernel) (by decide +kernel)) (B_mul cqb_64_64_64 (B_add b_x2 b81 (by decide +kernel) (by decide +kernel)) (by decide +kernel) (by decide +kernel) (by decide +kernel)) (by decide +kernel) (by decide +kernel)).trans (by rw [e84, e88])
          have q91 : (0) ≤ ((4096 * x7_12) + (64 * (x2 + x13_67))).toInt ∧ ((4096 * x7_12) + (64 * (x2 + x13_67))).toInt ≤ (16256) := (show B 0 16256 ((4096 * x7_12) + (64 * (x2 + x13_67))) from B_w (B_add (B_mul cqb_4096_4096_4096 b25 (by decide +kernel) (by decide +kernel) (by decide +kernel)) (B_mul cqb_64_64_64 (B_add b_x2 b81 (by decide +kernel) (by decide +kernel)) (by decide +kernel) (by decide +kernel) (by decide +kernel)) (by decide +kernel) (by decide +kernel)) (by decide +kernel) (by decide +kernel))
          have e92 : (x1 + x11_39).toInt = ((x1).toInt + (x11_39).toInt) := (t_add b_x1 b53 (by decide +kernel) (by decide +kernel)).trans (by rfl)
          have q93 : (0) ≤ (x1 + x11_39).toInt ∧ (x1 + x11_39).toInt ≤ (126) := (show B 0 126 (x1 + x11_39) from B_w (B_add b_x1 b53 (by decide +kernel) (by decide +kernel)) (by decide +kernel) (by decide +kernel))
          have e94 : (((4096 * x7_12) + (64 * (x2 + x13_67))) + (x1 + x11_39)).toInt = (((4096 * (x7_12).toInt) + (64 * ((x2).toInt + (x13_67).toInt))) + ((x1).toInt + (x11_39).toInt)) := (t_add (B_add (B_mul cqb_4096_4096_4096 b25 (by decide +kernel) (by decide +kernel) (by decide +kernel)) (B_mul cqb_64_64_64 (B_add b_x2 b81 (by decide +kernel) (by decide +kernel)) (by decide +kernel) (by decide +kernel) (by decide +kernel)) (by decide +kernel) (by decide +kernel)) (B_add b_x1 b53 (by decide +kernel) (by decide +kernel)) (by decide +kernel) (by decide +kernel)).trans (by rw [e90, e92])
          have q95 : (0) ≤ (((4096 * x7_12) + (64 * (x2 + x13_67))) + (x1 + x11_39)).toInt ∧ (((4096 * x7_12) + (64 * (x2 + x13_67))) + (x1 + x11_39)).toInt ≤ (16382) := (show B 0 16382 (((4096 * x7_12) + (64 * (x2 + x13_67))) + (x1 + x11_39)) from B_w (B_add (B_add (B_mul cqb_4096_4096_4096 b25 (by decide +kernel) (by decide +kernel) (by decide +kernel)) (B_mul cqb_64_64_64 (B_add b_x2 b81 (by decide +kernel) (by decide +kernel)) (by decide +kernel) (by decide +kernel) (by decide +kernel)) (by decide +kernel) (by decide +kernel)) (B_add b_x1 b53 (by decide +kernel) (by decide +kernel)) (by decide +kernel) (by decide +kernel)) (by decide +kernel) (by decide +kernel))
          refine ⟨(show vp_in (((4096 * x7_12) + (64 * (x2 + x13_67))) + (x1 + x11_39)) 12288 from vp_om (x := ((4096 * x7_12) + (64 * (x2 + x13_67))) + (x1 + x11_39)) (by omega) (by omega)), ?_⟩
          have b96 : B 0 12287 (((4096 * x7_12) + (64 * (x2 + x13_67))) + (x1 + x11_39)) := ⟨by omega, by omega⟩
          have hI97 := IMc_u (u := 2) (i := (((4096 * x7_12) + (64 * (x2 + x13_67))) + (x1 + x11_39)).toNatClampNeg) (v := ((x5 >>> ((8 * (((T13 1 2) - 1) - x7_12)) &&& 31 : Int32) : Int32) &&& 255) + (((((x6 >>> ((8 * (((T13 1 2) - 1) - x7_12)) &&& 31 : Int32) : Int32) &&& 255) - ((x5 >>> ((8 * (((T13 1 2) - 1) - x7_12)) &&& 31 : Int32) : Int32) &&& 255)) * x11_39) / x3)) hI70 (show B (-2147483648) 2147483647 (((x5 >>> ((8 * (((T13 1 2) - 1) - x7_12)) &&& 31 : Int32) : Int32) &&& 255) + (((((x6 >>> ((8 * (((T13 1 2) - 1) - x7_12)) &&& 31 : Int32) : Int32) &&& 255) - ((x5 >>> ((8 * (((T13 1 2) - 1) - x7_12)) &&& 31 : Int32) : Int32) &&& 255)) * x11_39) / x3)) from (B_w (sl_B (show B 0 255 ((x5 >>> ((8 * (((T13 1 2) - 1) - x7_12)) &&& 31 : Int32) : Int32) &&& 255) from B_and (k := 8) (by decide +kernel) (by decide +kernel)) (show B 0 255 ((x6 >>> ((8 * (((T13 1 2) - 1) - x7_12)) &&& 31 : Int32) : Int32) &&& 255) from B_and (k := 8) (by decide +kernel) (by decide +kernel)) (by omega) (by omega) (by omega)) (by decide +kernel) (by decide +kernel)))
          have g99 := agc_tr (agc_refl (fs := []) (rs := [2]) (F := T40)) g71 (by decide +kernel) (by decide +kernel)
          have g98 := agc_r (u := 2) (w := upd (T68 2) (((4096 * x7_12) + (64 * (x2 + x13_67))) + (x1 + x11_39)).toNatClampNeg (((x5 >>> ((8 * (((T13 1 2) - 1) - x7_12)) &&& 31 : Int32) : Int32) &&& 255) + (((((x6 >>> ((8 * (((T13 1 2) - 1) - x7_12)) &&& 31 : Int32) : Int32) &&& 255) - ((x5 >>> ((8 * (((T13 1 2) - 1) - x7_12)) &&& 31 : Int32) : Int32) &&& 255)) * x11_39) / x3))) g99 rfl (by decide +kernel)
          have e100 : (x13_67 + 1).toInt = ((x13_67).toInt + 1) := (t_add b81 cqb_1_1_1 (by decide +kernel) (by decide +kernel)).trans (by rw [cqn_1])
          have q101 : (1) ≤ (x13_67 + 1).toInt ∧ (x13_67 + 1).toInt ≤ (64) := (show B 1 64 (x13_67 + 1) from B_w (B_add b81 cqb_1_1_1 (by decide +kernel) (by decide +kernel)) (by decide +kernel) (by decide +kernel))
          exact hR81 ⟨rfl, rfl, rfl, rfl, rfl, rfl, rfl, rfl, rfl, rfl, rfl, (B_w (B_add b81 cqb_1_1_1 (by decide +kernel) (by decide +kernel)) (by decide +kernel) (by decide +kernel)), _, _, rfl, hI97, g98⟩ (by show (64 - (x13_67 + 1).toInt).toNat < (64 - x13_67.toInt).toNat; omega)
  · exact (B_dead_lt b_x3 cqb_1_1_1 (nle_lt hc) (by decide +kernel)).elim
set_option maxRecDepth 20000 in
set_option maxHeartbeats 4000000 in
theorem h_B_fill_u0 {a : Bool} {b : Bool} {P : Nat → Nat → Nat} {x1 : Int32} {x2 : Int32} {x3 : Int32} {x4 : Int32} {x5 : Int32} {F : cF} {L : cL} {K : cs → Prop} {T : Nat → cs → Prop} (hI : IMc F) (hK : ∀ {Z : cF} {LZ : cL}, IMc Z → agc [] [2, 999] F Z → K (Z, LZ, PC a b P)) (hT15 : ∀ {Z : cF} {LZ : cL}, IMc Z → agc [] [] F Z → T 15 (Z, LZ, PC a b P)) : p_B_fill UL 0 x1 x2 x3 x4 x5 (F, L, PC a b P) K T := by
  unfold p_B_fill
  refine ⟨(show ¬ ((1 : Nat) = NU) from by decide +kernel), ?_⟩
  refine ⟨(show c_cl UL 1 = 2 from cl_1), ?_⟩
  refine h_Ca_holds_u1 hI (fun {v9_1} b3 r4 => ?_)
  rcases sp_01 b3 with rfl | rfl
  · have r5 : ((0 : Int) = 0) ∨ ((0 ≤ x1.toInt) ∧ ((0 ≤ x2.toInt) ∧ ((1 ≤ x3.toInt) ∧ ((1 ≤ x4.toInt) ∧ (((x1.toInt + x3.toInt) ≤ (F 1 0).toInt) ∧ ((x2.toInt + x4.toInt) ≤ (F 1 1).toInt)))))) := r4
    clear r4
    have q6 : (1) ≤ (F 1 0).toInt ∧ (F 1 0).toInt ≤ (64) := (show B 1 64 (F 1 0) from hI 1 0)
    have q7 : (1) ≤ (F 1 1).toInt ∧ (F 1 1).toInt ≤ (64) := (show B 1 64 (F 1 1) from hI 1 1)
    refine ⟨fun hc => ?_, fun hc => ?_⟩
    · exact (hc (B_z cqb_0_0_0)).elim
    · have i8 : (0 : Int32).toInt = (0 : Int32).toInt := congrArg Int32.toInt hc
      have n9 : (0 : Int32).toInt = 0 := cqn_0
      have n10 : (0 : Int32).toInt = 0 := cqn_0
      exact hT15 hI (agc_refl (fs := []) (rs := []) (F := F)) 
  · have r11 : ((1 : Int) = 0) ∨ ((0 ≤ x1.toInt) ∧ ((0 ≤ x2.toInt) ∧ ((1 ≤ x3.toInt) ∧ ((1 ≤ x4.toInt) ∧ (((x1.toInt + x3.toInt) ≤ (F 1 0).toInt) ∧ ((x2.toInt + x4.toInt) ≤ (F 1 1).toInt)))))) := r4
    clear r4
    have q12 : (1) ≤ (F 1 0).toInt ∧ (F 1 0).toInt ≤ (64) := (show B 1 64 (F 1 0) from hI 1 0)
    have q13 : (1) ≤ (F 1 1).toInt ∧ (F 1 1).toInt ≤ (64) := (show B 1 64 (F 1 1) from hI 1 1)
    have b14 : B 0 63 (x1) := ⟨by omega, by omega⟩
    have b15 : B 0 63 (x2) := ⟨by omega, by omega⟩
    have b16 : B 1 64 (x3) := ⟨by omega, by omega⟩
    have b17 : B 1 64 (x4) := ⟨by omega, by omega⟩
    refine ⟨fun hc => ?_, fun hc => ?_⟩
    · have i18 : (1 : Int32).toInt ≠ (0 : Int32).toInt := i_ne hc
      have n19 : (1 : Int32).toInt = 1 := cqn_1
      have n20 : (0 : Int32).toInt = 0 := cqn_0
      refine ⟨(show ¬ ((1 : Nat) = NU) from by decide +kernel), ?_⟩
      refine ⟨(show c_cl UL 1 = 2 from cl_1), ?_⟩
      refine h_Ca_paint_u1 b14 b15 b16 b17 hI (by show (x1.toInt + x3.toInt) ≤ 64; first | with_reducible assumption | omega) (by show (x2.toInt + x4.toInt) ≤ 64; first | with_reducible assumption | omega) (fun {FS38_21} {LFS38_21} hI22 g23 => ?_)
      have g24 := agc_tr (agc_refl (fs := []) (rs := [2, 999]) (F := F)) g23 (by decide +kernel) (by decide +kernel)
      exact hK hI22 g24
    · exact (B_dis cqb_1_1_1 cqb_0_0_0 hc (by decide +kernel)).elim
set_option maxRecDepth 20000 in
set_option maxHeartbeats 4000000 in
theorem h_B_slope_u0 {a : Bool} {b : Bool} {P : Nat → Nat → Nat} {x1 : Int32} {x2 : Int32} {x3 : Int32} {x4 : Int32} {x5 : Int32} {x6 : Int32} {F : cF} {L : cL} {K : cs → Prop} {T : Nat → cs → Prop} (hI : IMc F) (hK : ∀ {Z : cF} {LZ : cL}, IMc Z → agc [] [2, 999] F Z → K (Z, LZ, PC a b P)) (hT15 : ∀ {Z : cF} {LZ : cL}, IMc Z → agc [] [] F Z → T 15 (Z, LZ, PC a b P)) : p_B_slope UL 0 x1 x2 x3 x4 x5 x6 (F, L, PC a b P) K T := by
  unfold p_B_slope
  refine ⟨(show ¬ ((1 : Nat) = NU) from by decide +kernel), ?_⟩
  refine ⟨(show c_cl UL 1 = 2 from cl_1), ?_⟩
  refine h_Ca_holds_u1 hI (fun {v9_1} b3 r4 => ?_)
  rcases sp_01 b3 with rfl | rfl
  · have r5 : ((0 : Int) = 0) ∨ ((0 ≤ x1.toInt) ∧ ((0 ≤ x2.toInt) ∧ ((1 ≤ x3.toInt) ∧ ((1 ≤ x4.toInt) ∧ (((x1.toInt + x3.toInt) ≤ (F 1 0).toInt) ∧ ((x2.toInt + x4.toInt) ≤ (F 1 1).toInt)))))) := r4
    clear r4
    have q6 : (1) ≤ (F 1 0).toInt ∧ (F 1 0).toInt ≤ (64) := (show B 1 64 (F 1 0) from hI 1 0)
    have q7 : (1) ≤ (F 1 1).toInt ∧ (F 1 1).toInt ≤ (64) := (show B 1 64 (F 1 1) from hI 1 1)
    refine ⟨fun hc => ?_, fun hc => ?_⟩
    · exact (hc (B_z cqb_0_0_0)).elim
    · have i8 : (0 : Int32).toInt = (0 : Int32).toInt := congrArg Int32.toInt hc
      have n9 : (0 : Int32).toInt = 0 := cqn_0
      have n10 : (0 : Int32).toInt = 0 := cqn_0
      exact hT15 hI (agc_refl (fs := []) (rs := []) (F := F)) 
  · have r11 : ((1 : Int) = 0) ∨ ((0 ≤ x1.toInt) ∧ ((0 ≤ x2.toInt) ∧ ((1 ≤ x3.toInt) ∧ ((1 ≤ x4.toInt) ∧ (((x1.toInt + x3.toInt) ≤ (F 1 0).toInt) ∧ ((x2.toInt + x4.toInt) ≤ (F 1 1).toInt)))))) := r4
    clear r4
    have q12 : (1) ≤ (F 1 0).toInt ∧ (F 1 0).toInt ≤ (64) := (show B 1 64 (F 1 0) from hI 1 0)
    have q13 : (1) ≤ (F 1 1).toInt ∧ (F 1 1).toInt ≤ (64) := (show B 1 64 (F 1 1) from hI 1 1)
    have b14 : B 0 63 (x1) := ⟨by omega, by omega⟩
    have b15 : B 0 63 (x2) := ⟨by omega, by omega⟩
    have b16 : B 1 64 (x3) := ⟨by omega, by omega⟩
    have b17 : B 1 64 (x4) := ⟨by omega, by omega⟩
    refine ⟨fun hc => ?_, fun hc => ?_⟩
    · have i18 : (1 : Int32).toInt ≠ (0 : Int32).toInt := i_ne hc
      have n19 : (1 : Int32).toInt = 1 := cqn_1
      have n20 : (0 : Int32).toInt = 0 := cqn_0
      refine ⟨(show ¬ ((1 : Nat) = NU) from by decide +kernel), ?_⟩
      refine ⟨(show c_cl UL 1 = 2 from cl_1), ?_⟩
      refine h_Ca_paint_u1 b14 b15 b16 b17 hI (by show (x1.toInt + x3.toInt) ≤ 64; first | with_reducible assumption | omega) (by show (x2.toInt + x4.toInt) ≤ 64; first | with_reducible assumption | omega) (fun {FS38_21} {LFS38_21} hI22 g23 => ?_)
      have g24 := agc_tr (agc_refl (fs := []) (rs := [2, 999]) (F := F)) g23 (by decide +kernel) (by decide +kernel)
      exact hK hI22 g24
    · exact (B_dis cqb_1_1_1 cqb_0_0_0 hc (by decide +kernel)).elim
set_option maxRecDepth 20000 in
set_option maxHeartbeats 4000000 in
theorem h_B_at_u0 {a : Bool} {b : Bool} {P : Nat → Nat → Nat} {x1 : Int32} {x2 : Int32} {x3 : Int32} {F : cF} {L : cL} {K : Int32 → cs → Prop} {T : Nat → cs → Prop} (hI : IMc F) (hK : ∀ {v : Int32}, B (-2147483648) 2147483647 v → K v (F, L, PC a b P)) (hT15 : ∀ {Z : cF} {LZ : cL}, IMc Z → agc [] [] F Z → T 15 (Z, LZ, PC a b P)) : p_B_at UL 0 x1 x2 x3 (F, L, PC a b P) K T := by
  unfold p_B_at
  refine ⟨(show ¬ ((1 : Nat) = NU) from by decide +kernel), ?_⟩
  refine ⟨(show c_cl UL 1 = 2 from cl_1), ?_⟩
  refine h_Ca_holds_u1 hI (fun {v8_1} b3 r4 => ?_)
  rcases sp_01 b3 with rfl | rfl
  · have r5 : ((0 : Int) = 0) ∨ ((0 ≤ x1.toInt) ∧ ((0 ≤ x2.toInt) ∧ (((1 : Int) ≤ 1) ∧ (((1 : Int) ≤ 1) ∧ (((x1.toInt + 1) ≤ (F 1 0).toInt) ∧ ((x2.toInt + 1) ≤ (F 1 1).toInt)))))) := r4
    clear r4
    have q6 : (1) ≤ (F 1 0).toInt ∧ (F 1 0).toInt ≤ (64) := (show B 1 64 (F 1 0) from hI 1 0)
    have q7 : (1) ≤ (F 1 1).toInt ∧ (F 1 1).toInt ≤ (64) := (show B 1 64 (F 1 1) from hI 1 1)
    refine ⟨fun hc => ?_, fun hc => ?_⟩
    · have i8 : (0 : Int32).toInt = (0 : Int32).toInt := congrArg Int32.toInt hc
      have n9 : (0 : Int32).toInt = 0 := cqn_0
      have n10 : (0 : Int32).toInt = 0 := cqn_0
      unfold b_B_at_31
      exact hT15 hI (agc_refl (fs := []) (rs := []) (F := F)) 
    · exact (hc (B_z cqb_0_0_0)).elim
  · have r11 : ((1 : Int) = 0) ∨ ((0 ≤ x1.toInt) ∧ ((0 ≤ x2.toInt) ∧ (((1 : Int) ≤ 1) ∧ (((1 : Int) ≤ 1) ∧ (((x1.toInt + 1) ≤ (F 1 0).toInt) ∧ ((x2.toInt + 1) ≤ (F 1 1).toInt)))))) := r4
    clear r4
    have q12 : (1) ≤ (F 1 0).toInt ∧ (F 1 0).toInt ≤ (64) := (show B 1 64 (F 1 0) from hI 1 0)
    have q13 : (1) ≤ (F 1 1).toInt ∧ (F 1 1).toInt ≤ (64) := (show B 1 64 (F 1 1) from hI 1 1)
    have b14 : B 0 63 (x1) := ⟨by omega, by omega⟩
    have b15 : B 0 63 (x2) := ⟨by omega, by omega⟩
    refine ⟨fun hc => ?_, fun hc => ?_⟩
    · exact (B_dis cqb_1_1_1 cqb_0_0_0 hc (by decide +kernel)).elim
    · have i16 : (1 : Int32).toInt ≠ (0 : Int32).toInt := i_ne hc
      have n17 : (1 : Int32).toInt = 1 := cqn_1
      have n18 : (0 : Int32).toInt = 0 := cqn_0
      refine ⟨(show ¬ ((1 : Nat) = NU) from by decide +kernel), ?_⟩
      refine ⟨(show c_cl UL 1 = 2 from cl_1), ?_⟩
      refine h_B_isWithin  (fun {v25_19} b20 r21 r22 => ?_)
      rcases sp_01 b20 with rfl | rfl
      · have r23 : ((0 : Int) = 0) ∨ ((0 ≤ x3.toInt) ∧ (x3.toInt ≤ ((F 1 2) - 1).toInt)) := r21
        clear r21
        have q24 : (1) ≤ (F 1 2).toInt ∧ (F 1 2).toInt ≤ (3) := (show B 1 3 (F 1 2) from hI 1 2)
        have e25 : ((F 1 2) - 1).toInt = ((F 1 2).toInt - 1) := (t_sub (show B 1 3 (F 1 2) from hI 1 2) cqb_1_1_1 (by decide +kernel) (by decide +kernel)).trans (by rw [cqn_1])
        have q26 : (0) ≤ ((F 1 2) - 1).toInt ∧ ((F 1 2) - 1).toInt ≤ (2) := (show B 0 2 ((F 1 2) - 1) from B_w (B_sub (show B 1 3 (F 1 2) from hI 1 2) cqb_1_1_1 (by decide +kernel) (by decide +kernel)) (by decide +kernel) (by decide +kernel))
        have r27 : ((0 : Int) = 1) ∨ ((x3.toInt < 0) ∨ (((F 1 2) - 1).toInt < x3.toInt)) := r22
        clear r22
        refine ⟨fun hc => ?_, fun hc => ?_⟩
        · exact (hc (B_z cqb_0_0_0)).elim
        · have i28 : (0 : Int32).toInt = (0 : Int32).toInt := congrArg Int32.toInt hc
          have n29 : (0 : Int32).toInt = 0 := cqn_0
          have n30 : (0 : Int32).toInt = 0 := cqn_0
          unfold b_B_at_31
          exact hT15 hI (agc_refl (fs := []) (rs := []) (F := F)) 
      · have r31 : ((1 : Int) = 0) ∨ ((0 ≤ x3.toInt) ∧ (x3.toInt ≤ ((F 1 2) - 1).toInt)) := r21
        clear r21
        have q32 : (1) ≤ (F 1 2).toInt ∧ (F 1 2).toInt ≤ (3) := (show B 1 3 (F 1 2) from hI 1 2)
        have e33 : ((F 1 2) - 1).toInt = ((F 1 2).toInt - 1) := (t_sub (show B 1 3 (F 1 2) from hI 1 2) cqb_1_1_1 (by decide +kernel) (by decide +kernel)).trans (by rw [cqn_1])
        have q34 : (0) ≤ ((F 1 2) - 1).toInt ∧ ((F 1 2) - 1).toInt ≤ (2) := (show B 0 2 ((F 1 2) - 1) from B_w (B_sub (show B 1 3 (F 1 2) from hI 1 2) cqb_1_1_1 (by decide +kernel) (by decide +kernel)) (by decide +kernel) (by decide +kernel))
        have r35 : ((1 : Int) = 1) ∨ ((x3.toInt < 0) ∨ (((F 1 2) - 1).toInt < x3.toInt)) := r22
        clear r22
        have b36 : B 0 2 (x3) := ⟨by omega, by omega⟩
        refine ⟨fun hc => ?_, fun hc => ?_⟩
        · have i37 : (1 : Int32).toInt ≠ (0 : Int32).toInt := i_ne hc
          have n38 : (1 : Int32).toInt = 1 := cqn_1
          have n39 : (0 : Int32).toInt = 0 := cqn_0
          refine ⟨(show ¬ ((1 : Nat) = NU) from by decide +kernel), ?_⟩
          refine ⟨(show ¬ ((2 : Nat) = NU) from by decide +kernel), ?_⟩
          try unfold p_B_spot
          refine ⟨(show c_cl UL 2 = 902 from cl_2), ?_⟩
          refine ⟨(show vp_in (((4096 * x3) + (64 * x2)) + x1) 12288 from vp_B (B_add (B_add (B_mul cqb_4096_4096_4096 b36 (by decide +kernel) (by decide +kernel) (by decide +kernel)) (B_mul cqb_64_64_64 b15 (by decide +kernel) (by decide +kernel) (by decide +kernel)) (by decide +kernel) (by decide +kernel)) b14 (by decide +kernel) (by decide +kernel)) (by decide +kernel) (by decide +kernel)), ?_⟩
          exact hK (B_w (B_any _) (by decide +kernel) (by decide +kernel))
        · exact (B_dis cqb_1_1_1 cqb_0_0_0 hc (by decide +kernel)).elim
set_option maxRecDepth 20000 in
set_option maxHeartbeats 4000000 in
theorem h_B_clamp_x11_x2255 {x0 : Int32} {K : Int32 → Prop} (hK : ∀ {v : Int32}, B 1 255 v → K v) : p_B_clamp x0 1 255 K := by
  unfold p_B_clamp
  refine ⟨fun hc => ?_, fun hc => ?_⟩
  · have hq1 := hc
    have b2 : B 1 2147483647 (x0) := B_w (B_leR cqb_1_1_1 (B_any _) hq1) (by decide +kernel) (by decide +kernel)
    refine ⟨fun hc => ?_, fun hc => ?_⟩
    · have hq3 := hc
      have b4 : B 1 255 (x0) := B_w (B_leL b2 cqb_255_255_255 hq3) (by decide +kernel) (by decide +kernel)
      unfold b_B_clamp_19
      exact hK b4
    · have hq5 := (nle_lt hc)
      have b6 : B 256 2147483647 (x0) := B_w (B_ltR cqb_255_255_255 b2 hq5) (by decide +kernel) (by decide +kernel)
      unfold b_B_clamp_19
      exact hK (B_w cqb_255_255_255 (by decide +kernel) (by decide +kernel))
  · have hq7 := (nle_lt hc)
    have b8 : B (-2147483648) 0 (x0) := B_w (B_ltL (B_any _) cqb_1_1_1 hq7) (by decide +kernel) (by decide +kernel)
    unfold b_B_clamp_19
    exact hK (B_w cqb_1_1_1 (by decide +kernel) (by decide +kernel))
set_option maxRecDepth 20000 in
set_option maxHeartbeats 4000000 in
theorem h_B_scale_u0 {a : Bool} {b : Bool} {P : Nat → Nat → Nat} {x1 : Int32} {x2 : Int32} {x3 : Int32} {F : cF} {L : cL} {K : cs → Prop} {T : Nat → cs → Prop} (hI : IMc F) (hK : ∀ {Z : cF} {LZ : cL}, IMc Z → agc [] [3] F Z → (((0 ≤ x1.toInt) ∧ (x1.toInt ≤ 1)) ∧ ((((-1000) ≤ x2.toInt) ∧ (x2.toInt ≤ 1000)) ∧ (((-1000) ≤ x3.toInt) ∧ (x3.toInt ≤ 1000)))) → K (Z, LZ, PC a b P)) (hT14 : ∀ {Z : cF} {LZ : cL}, IMc Z → agc [] [] F Z → (((x1.toInt < 0) ∨ (1 < x1.toInt)) ∨ (((x2.toInt < (-1000)) ∨ (1000 < x2.toInt)) ∨ ((x3.toInt < (-1000)) ∨ (1000 < x3.toInt)))) → T 14 (Z, LZ, PC a b P)) : p_B_scale UL 0 x1 x2 x3 (F, L, PC a b P) K T := by
  unfold p_B_scale
  refine h_B_isWithin  (fun {v3_1} b2 r3 r4 => ?_)
  rcases sp_01 b2 with rfl | rfl
  · have r5 : ((0 : Int) = 0) ∨ ((0 ≤ x1.toInt) ∧ (x1.toInt ≤ 1)) := r3
    clear r3
    have r6 : ((0 : Int) = 1) ∨ ((x1.toInt < 0) ∨ (1 < x1.toInt)) := r4
    clear r4
    refine ⟨fun hc => ?_, fun hc => ?_⟩
    · have i7 : (0 : Int32).toInt = (0 : Int32).toInt := congrArg Int32.toInt hc
      have n8 : (0 : Int32).toInt = 0 := cqn_0
      have n9 : (0 : Int32).toInt = 0 := cqn_0
      unfold b_B_scale_35
      exact hT14 hI (agc_refl (fs := []) (rs := []) (F := F)) (by show ((x1.toInt < 0) ∨ (1 < x1.toInt)) ∨ (((x2.toInt < (-1000)) ∨ (1000 < x2.toInt)) ∨ ((x3.toInt < (-1000)) ∨ (1000 < x3.toInt))); first | with_reducible assumption | omega)
    · exact (hc (B_z cqb_0_0_0)).elim
  · have r10 : ((1 : Int) = 0) ∨ ((0 ≤ x1.toInt) ∧ (x1.toInt ≤ 1)) := r3
    clear r3
    have r11 : ((1 : Int) = 1) ∨ ((x1.toInt < 0) ∨ (1 < x1.toInt)) := r4
    clear r4
    have b12 : B 0 1 (x1) := ⟨by omega, by omega⟩
    refine ⟨fun hc => ?_, fun hc => ?_⟩
    · exact (B_dis cqb_1_1_1 cqb_0_0_0 hc (by decide +kernel)).elim
    · have i13 : (1 : Int32).toInt ≠ (0 : Int32).toInt := i_ne hc
      have n14 : (1 : Int32).toInt = 1 := cqn_1
      have n15 : (0 : Int32).toInt = 0 := cqn_0
      refine h_B_isWithin  (fun {v16_16} b17 r18 r19 => ?_)
      rcases sp_01 b17 with rfl | rfl
      · have r20 : ((0 : Int) = 0) ∨ (((-1000) ≤ x2.toInt) ∧ (x2.toInt ≤ 1000)) := r18
        clear r18
        have r21 : ((0 : Int) = 1) ∨ ((x2.toInt < (-1000)) ∨ (1000 < x2.toInt)) := r19
        clear r19
        refine ⟨fun hc => ?_, fun hc => ?_⟩
        · have i22 : (0 : Int32).toInt = (0 : Int32).toInt := congrArg Int32.toInt hc
          have n23 : (0 : Int32).toInt = 0 := cqn_0
          have n24 : (0 : Int32).toInt = 0 := cqn_0
          unfold b_B_scale_35
          exact hT14 hI (agc_refl (fs := []) (rs := []) (F := F)) (by show ((x1.toInt < 0) ∨ (1 < x1.toInt)) ∨ (((x2.toInt < (-1000)) ∨ (1000 < x2.toInt)) ∨ ((x3.toInt < (-1000)) ∨ (1000 < x3.toInt))); first | with_reducible assumption | omega)
        · exact (hc (B_z cqb_0_0_0)).elim
      · have r25 : ((1 : Int) = 0) ∨ (((-1000) ≤ x2.toInt) ∧ (x2.toInt ≤ 1000)) := r18
        clear r18
        have r26 : ((1 : Int) = 1) ∨ ((x2.toInt < (-1000)) ∨ (1000 < x2.toInt)) := r19
        clear r19
        have b27 : B (-1000) 1000 (x2) := ⟨by omega, by omega⟩
        refine ⟨fun hc => ?_, fun hc => ?_⟩
        · exact (B_dis cqb_1_1_1 cqb_0_0_0 hc (by decide +kernel)).elim
        · have i28 : (1 : Int32).toInt ≠ (0 : Int32).toInt := i_ne hc
          have n29 : (1 : Int32).toInt = 1 := cqn_1
          have n30 : (0 : Int32).toInt = 0 := cqn_0
          refine h_B_isWithin  (fun {v29_31} b32 r33 r34 => ?_)
          rcases sp_01 b32 with rfl | rfl
          · have r35 : ((0 : Int) = 0) ∨ (((-1000) ≤ x3.toInt) ∧ (x3.toInt ≤ 1000)) := r33
            clear r33
            have r36 : ((0 : Int) = 1) ∨ ((x3.toInt < (-1000)) ∨ (1000 < x3.toInt)) := r34
            clear r34
            refine ⟨fun hc => ?_, fun hc => ?_⟩
            · exact (hc (B_z cqb_0_0_0)).elim
            · have i37 : (0 : Int32).toInt = (0 : Int32).toInt := congrArg Int32.toInt hc
              have n38 : (0 : Int32).toInt = 0 := cqn_0
              have n39 : (0 : Int32).toInt = 0 := cqn_0
              unfold b_B_scale_35
              exact hT14 hI (agc_refl (fs := []) (rs := []) (F := F)) (by show ((x1.toInt < 0) ∨ (1 < x1.toInt)) ∨ (((x2.toInt < (-1000)) ∨ (1000 < x2.toInt)) ∨ ((x3.toInt < (-1000)) ∨ (1000 < x3.toInt))); first | with_reducible assumption | omega)
          · have r40 : ((1 : Int) = 0) ∨ (((-1000) ≤ x3.toInt) ∧ (x3.toInt ≤ 1000)) := r33
            clear r33
            have r41 : ((1 : Int) = 1) ∨ ((x3.toInt < (-1000)) ∨ (1000 < x3.toInt)) := r34
            clear r34
            have b42 : B (-1000) 1000 (x3) := ⟨by omega, by omega⟩
            refine ⟨fun hc => ?_, fun hc => ?_⟩
            · have i43 : (1 : Int32).toInt ≠ (0 : Int32).toInt := i_ne hc
              have n44 : (1 : Int32).toInt = 1 := cqn_1
              have n45 : (0 : Int32).toInt = 0 := cqn_0
              refine ⟨fun yx1 yx2 yx3 yx4 yS => x1 = yx1 ∧ x2 = yx2 ∧ x3 = yx3 ∧ B 0 64 yx4 ∧ ∃ (T50 : cF) (LT50 : cL), yS = (T50, LT50, PC a b P) ∧ IMc T50 ∧ agc [] [3] F T50, fun yx1 yx2 yx3 yx4 yS => (64 - yx4.toInt).toNat, ⟨rfl, rfl, rfl, (B_w cqb_0_0_0 (by decide +kernel) (by decide +kernel)), _, _, rfl, hI, (agc_refl (fs := []) (rs := [3]) (F := F))⟩, fun x1_46 x2_47 x3_48 x4_49 ST50 hIv => ?_⟩
              obtain ⟨rfl, rfl, rfl, b51, T50, LT50, rfl, hI52, g53⟩ := hIv
              suffices hs : ∀ (R48 : Int32 → Int32 → Int32 → Int32 → cs → Prop), (∀ zx1 zx2 zx3 zx4 zS, (x1 = zx1 ∧ x2 = zx2 ∧ x3 = zx3 ∧ B 0 64 zx4 ∧ ∃ (T50 : cF) (LT50 : cL), zS = (T50, LT50, PC a b P) ∧ IMc T50 ∧ agc [] [3] F T50) → (64 - zx4.toInt).toNat < (64 - x4_49.toInt).toNat → R48 zx1 zx2 zx3 zx4 zS) → b_B_scale_48 UL 0 x1 x2 x3 x4_49 (T50, LT50, PC a b P) R48 K T from hs _ (fun _ _ _ _ _ h1 h2 => ⟨h1, h2⟩)
              intro R48 hR480
              have hR48 := fun {zx1} {zx2} {zx3} {zx4} {zS} => hR480 zx1 zx2 zx3 zx4 zS
              unfold b_B_scale_48
              refine ⟨fun hc => ?_, fun hc => ?_⟩
              · have hq54 := hc
                have b55 : B 64 64 (x4_49) := B_w (B_leR cqb_64_64_64 b51 hq54) (by decide +kernel) (by decide +kernel)
                have g56 := agc_tr (agc_refl (fs := []) (rs := [3]) (F := F)) g53 (by decide +kernel) (by decide +kernel)
                exact hK hI52 g56 (by show ((0 ≤ x1.toInt) ∧ (x1.toInt ≤ 1)) ∧ ((((-1000) ≤ x2.toInt) ∧ (x2.toInt ≤ 1000)) ∧ (((-1000) ≤ x3.toInt) ∧ (x3.toInt ≤ 1000))); first | with_reducible assumption | omega)
              · have hq57 := (nle_lt hc)
                have b58 : B 0 63 (x4_49) := B_w (B_ltL b51 cqb_64_64_64 hq57) (by decide +kernel) (by decide +kernel)
                refine ⟨(show ¬ ((3 : Nat) = NU) from by decide +kernel), ?_⟩
                refine h_B_clamp_x11_x2255  (fun {v85_59} b60 => ?_)
                refine ⟨(show c_cl UL 3 = 902 from cl_3), ?_⟩
                refine ⟨(show vp_in ((64 * x1) + x4_49) 128 from vp_B (B_add (B_mul cqb_64_64_64 b12 (by decide +kernel) (by decide +kernel) (by decide +kernel)) b58 (by decide +kernel) (by decide +kernel)) (by decide +kernel) (by decide +kernel)), ?_⟩
                have hI61 := IMc_u (u := 3) (i := ((64 * x1) + x4_49).toNatClampNeg) (v := v85_59) hI52 (sW_3 (i := ((64 * x1) + x4_49).toNatClampNeg) (show B 1 255 (v85_59) from (B_w b60 (by decide +kernel) (by decide +kernel))))
                have g63 := agc_tr (agc_refl (fs := []) (rs := [3]) (F := F)) g53 (by decide +kernel) (by decide +kernel)
                have g62 := agc_r (u := 3) (w := upd (T50 3) ((64 * x1) + x4_49).toNatClampNeg v85_59) g63 rfl (by decide +kernel)
                have q64 : (0) ≤ (x4_49).toInt ∧ (x4_49).toInt ≤ (63) := (show B 0 63 (x4_49) from B_w b58 (by decide +kernel) (by decide +kernel))
                have e65 : (x4_49 + 1).toInt = ((x4_49).toInt + 1) := (t_add b58 cqb_1_1_1 (by decide +kernel) (by decide +kernel)).trans (by rw [cqn_1])
                have q66 : (1) ≤ (x4_49 + 1).toInt ∧ (x4_49 + 1).toInt ≤ (64) := (show B 1 64 (x4_49 + 1) from B_w (B_add b58 cqb_1_1_1 (by decide +kernel) (by decide +kernel)) (by decide +kernel) (by decide +kernel))
                exact hR48 ⟨rfl, rfl, rfl, (B_w (B_add b58 cqb_1_1_1 (by decide +kernel) (by decide +kernel)) (by decide +kernel) (by decide +kernel)), _, _, rfl, hI61, g62⟩ (by show (64 - (x4_49 + 1).toInt).toNat < (64 - x4_49.toInt).toNat; omega)
            · exact (B_dis cqb_1_1_1 cqb_0_0_0 hc (by decide +kernel)).elim
set_option maxRecDepth 20000 in
set_option maxHeartbeats 4000000 in
theorem h_B_entry_u0 {a : Bool} {b : Bool} {P : Nat → Nat → Nat} {x1 : Int32} {x2 : Int32} {x3 : Int32} {x4 : Int32} {F : cF} {L : cL} {K : cs → Prop} {T : Nat → cs → Prop} (hI : IMc F) (hK : ∀ {Z : cF} {LZ : cL}, IMc Z → agc [] [3] F Z → (((0 ≤ x2.toInt) ∧ (x2.toInt ≤ 7)) ∧ ((0 ≤ x3.toInt) ∧ (x3.toInt ≤ 7))) → (((0 ≤ x1.toInt) ∧ (x1.toInt ≤ 1)) ∧ ((1 ≤ x4.toInt) ∧ (x4.toInt ≤ 255))) → K (Z, LZ, PC a b P)) (hT14 : ∀ {Z : cF} {LZ : cL}, IMc Z → agc [] [] F Z → (((0 ≤ x2.toInt) ∧ (x2.toInt ≤ 7)) ∧ ((0 ≤ x3.toInt) ∧ (x3.toInt ≤ 7))) → (((x1.toInt < 0) ∨ (1 < x1.toInt)) ∨ ((x4.toInt < 1) ∨ (255 < x4.toInt))) → T 14 (Z, LZ, PC a b P)) (hT15 : ∀ {Z : cF} {LZ : cL}, IMc Z → agc [] [] F Z → (((x2.toInt < 0) ∨ (7 < x2.toInt)) ∨ ((x3.toInt < 0) ∨ (7 < x3.toInt))) → T 15 (Z, LZ, PC a b P)) : p_B_entry UL 0 x1 x2 x3 x4 (F, L, PC a b P) K T := by
  unfold p_B_entry
  refine h_B_isWithin  (fun {v4_1} b2 r3 r4 => ?_)
  rcases sp_01 b2 with rfl | rfl
  · have r5 : ((0 : Int) = 0) ∨ ((0 ≤ x2.toInt) ∧ (x2.toInt ≤ 7)) := r3
    clear r3
    have r6 : ((0 : Int) = 1) ∨ ((x2.toInt < 0) ∨ (7 < x2.toInt)) := r4
    clear r4
    refine ⟨fun hc => ?_, fun hc => ?_⟩
    · have i7 : (0 : Int32).toInt = (0 : Int32).toInt := congrArg Int32.toInt hc
      have n8 : (0 : Int32).toInt = 0 := cqn_0
      have n9 : (0 : Int32).toInt = 0 := cqn_0
      unfold b_B_entry_20
      exact hT15 hI (agc_refl (fs := []) (rs := []) (F := F)) (by show ((x2.toInt < 0) ∨ (7 < x2.toInt)) ∨ ((x3.toInt < 0) ∨ (7 < x3.toInt)); first | with_reducible assumption | omega)
    · exact (hc (B_z cqb_0_0_0)).elim
  · have r10 : ((1 : Int) = 0) ∨ ((0 ≤ x2.toInt) ∧ (x2.toInt ≤ 7)) := r3
    clear r3
    have r11 : ((1 : Int) = 1) ∨ ((x2.toInt < 0) ∨ (7 < x2.toInt)) := r4
    clear r4
    have b12 : B 0 7 (x2) := ⟨by omega, by omega⟩
    refine ⟨fun hc => ?_, fun hc => ?_⟩
    · exact (B_dis cqb_1_1_1 cqb_0_0_0 hc (by decide +kernel)).elim
    · have i13 : (1 : Int32).toInt ≠ (0 : Int32).toInt := i_ne hc
      have n14 : (1 : Int32).toInt = 1 := cqn_1
      have n15 : (0 : Int32).toInt = 0 := cqn_0
      refine h_B_isWithin  (fun {v14_16} b17 r18 r19 => ?_)
      rcases sp_01 b17 with rfl | rfl
      · have r20 : ((0 : Int) = 0) ∨ ((0 ≤ x3.toInt) ∧ (x3.toInt ≤ 7)) := r18
        clear r18
        have r21 : ((0 : Int) = 1) ∨ ((x3.toInt < 0) ∨ (7 < x3.toInt)) := r19
        clear r19
        refine ⟨fun hc => ?_, fun hc => ?_⟩
        · exact (hc (B_z cqb_0_0_0)).elim
        · have i22 : (0 : Int32).toInt = (0 : Int32).toInt := congrArg Int32.toInt hc
          have n23 : (0 : Int32).toInt = 0 := cqn_0
          have n24 : (0 : Int32).toInt = 0 := cqn_0
          unfold b_B_entry_20
          exact hT15 hI (agc_refl (fs := []) (rs := []) (F := F)) (by show ((x2.toInt < 0) ∨ (7 < x2.toInt)) ∨ ((x3.toInt < 0) ∨ (7 < x3.toInt)); first | with_reducible assumption | omega)
      · have r25 : ((1 : Int) = 0) ∨ ((0 ≤ x3.toInt) ∧ (x3.toInt ≤ 7)) := r18
        clear r18
        have r26 : ((1 : Int) = 1) ∨ ((x3.toInt < 0) ∨ (7 < x3.toInt)) := r19
        clear r19
        have b27 : B 0 7 (x3) := ⟨by omega, by omega⟩
        refine ⟨fun hc => ?_, fun hc => ?_⟩
        · have i28 : (1 : Int32).toInt ≠ (0 : Int32).toInt := i_ne hc
          have n29 : (1 : Int32).toInt = 1 := cqn_1
          have n30 : (0 : Int32).toInt = 0 := cqn_0
          refine h_B_isWithin  (fun {v33_31} b32 r33 r34 => ?_)
          rcases sp_01 b32 with rfl | rfl
          · have r35 : ((0 : Int) = 0) ∨ ((0 ≤ x1.toInt) ∧ (x1.toInt ≤ 1)) := r33
            clear r33
            have r36 : ((0 : Int) = 1) ∨ ((x1.toInt < 0) ∨ (1 < x1.toInt)) := r34
            clear r34
            refine ⟨fun hc => ?_, fun hc => ?_⟩
            · have i37 : (0 : Int32).toInt = (0 : Int32).toInt := congrArg Int32.toInt hc
              have n38 : (0 : Int32).toInt = 0 := cqn_0
              have n39 : (0 : Int32).toInt = 0 := cqn_0
              unfold b_B_entry_51
              exact hT14 hI (agc_refl (fs := []) (rs := []) (F := F)) (by show ((0 ≤ x2.toInt) ∧ (x2.toInt ≤ 7)) ∧ ((0 ≤ x3.toInt) ∧ (x3.toInt ≤ 7)); first | with_reducible assumption | omega) (by show ((x1.toInt < 0) ∨ (1 < x1.toInt)) ∨ ((x4.toInt < 1) ∨ (255 < x4.toInt)); first | with_reducible assumption | omega)
            · exact (hc (B_z cqb_0_0_0)).elim
          · have r40 : ((1 : Int) = 0) ∨ ((0 ≤ x1.toInt) ∧ (x1.toInt ≤ 1)) := r33
            clear r33
            have r41 : ((1 : Int) = 1) ∨ ((x1.toInt < 0) ∨ (1 < x1.toInt)) := r34
            clear r34
            have b42 : B 0 1 (x1) := ⟨by omega, by omega⟩
            refine ⟨fun hc => ?_, fun hc => ?_⟩
            · exact (B_dis cqb_1_1_1 cqb_0_0_0 hc (by decide +kernel)).elim
            · have i43 : (1 : Int32).toInt ≠ (0 : Int32).toInt := i_ne hc
              have n44 : (1 : Int32).toInt = 1 := cqn_1
              have n45 : (0 : Int32).toInt = 0 := cqn_0
              refine h_B_isWithin  (fun {v45_46} b47 r48 r49 => ?_)
              rcases sp_01 b47 with rfl | rfl
              · have r50 : ((0 : Int) = 0) ∨ ((1 ≤ x4.toInt) ∧ (x4.toInt ≤ 255)) := r48
                clear r48
                have r51 : ((0 : Int) = 1) ∨ ((x4.toInt < 1) ∨ (255 < x4.toInt)) := r49
                clear r49
                refine ⟨fun hc => ?_, fun hc => ?_⟩
                · exact (hc (B_z cqb_0_0_0)).elim
                · have i52 : (0 : Int32).toInt = (0 : Int32).toInt := congrArg Int32.toInt hc
                  have n53 : (0 : Int32).toInt = 0 := cqn_0
                  have n54 : (0 : Int32).toInt = 0 := cqn_0
                  unfold b_B_entry_51
                  exact hT14 hI (agc_refl (fs := []) (rs := []) (F := F)) (by show ((0 ≤ x2.toInt) ∧ (x2.toInt ≤ 7)) ∧ ((0 ≤ x3.toInt) ∧ (x3.toInt ≤ 7)); first | with_reducible assumption | omega) (by show ((x1.toInt < 0) ∨ (1 < x1.toInt)) ∨ ((x4.toInt < 1) ∨ (255 < x4.toInt)); first | with_reducible assumption | omega)
              · have r55 : ((1 : Int) = 0) ∨ ((1 ≤ x4.toInt) ∧ (x4.toInt ≤ 255)) := r48
                clear r48
                have r56 : ((1 : Int) = 1) ∨ ((x4.toInt < 1) ∨ (255 < x4.toInt)) := r49
                clear r49
                have b57 : B 1 255 (x4) := ⟨by omega, by omega⟩
                refine ⟨fun hc => ?_, fun hc => ?_⟩
                · have i58 : (1 : Int32).toInt ≠ (0 : Int32).toInt := i_ne hc
                  have n59 : (1 : Int32).toInt = 1 := cqn_1
                  have n60 : (0 : Int32).toInt = 0 := cqn_0
                  refine ⟨(show ¬ ((3 : Nat) = NU) from by decide +kernel), ?_⟩
                  refine ⟨(show c_cl UL 3 = 902 from cl_3), ?_⟩
                  refine ⟨(show vp_in (((64 * x1) + (8 * x2)) + x3) 128 from vp_B (B_add (B_add (B_mul cqb_64_64_64 b42 (by decide +kernel) (by decide +kernel) (by decide +kernel)) (B_mul cqb_8_8_8 b12 (by decide +kernel) (by decide +kernel) (by decide +kernel)) (by decide +kernel) (by decide +kernel)) b27 (by decide +kernel) (by decide +kernel)) (by decide +kernel) (by decide +kernel)), ?_⟩
                  have hI61 := IMc_u (u := 3) (i := (((64 * x1) + (8 * x2)) + x3).toNatClampNeg) (v := x4) hI (sW_3 (i := (((64 * x1) + (8 * x2)) + x3).toNatClampNeg) (show B 1 255 (x4) from (B_w b57 (by decide +kernel) (by decide +kernel))))
                  have g62 := agc_r (u := 3) (w := upd (F 3) (((64 * x1) + (8 * x2)) + x3).toNatClampNeg x4) (agc_refl (fs := []) (rs := [3]) (F := F)) rfl (by decide +kernel)
                  exact hK hI61 g62 (by show ((0 ≤ x2.toInt) ∧ (x2.toInt ≤ 7)) ∧ ((0 ≤ x3.toInt) ∧ (x3.toInt ≤ 7)); first | with_reducible assumption | omega) (by show ((0 ≤ x1.toInt) ∧ (x1.toInt ≤ 1)) ∧ ((1 ≤ x4.toInt) ∧ (x4.toInt ≤ 255)); first | with_reducible assumption | omega)
                · exact (B_dis cqb_1_1_1 cqb_0_0_0 hc (by decide +kernel)).elim
        · exact (B_dis cqb_1_1_1 cqb_0_0_0 hc (by decide +kernel)).elim
set_option maxRecDepth 20000 in
set_option maxHeartbeats 4000000 in
theorem h_B_size_u0 {a : Bool} {b : Bool} {P : Nat → Nat → Nat} {F : cF} {L : cL} {K : Int32 → cs → Prop} (hI : IMc F) (hK : ∀ {v : Int32}, B 0 65536 v → K v (F, L, PC a b P)) : p_B_size UL 0 (F, L, PC a b P) K := by
  unfold p_B_size
  refine ⟨(show ¬ ((5 : Nat) = NU) from by decide +kernel), ?_⟩
  refine ⟨(show c_cl UL 5 = 9 from cl_5), ?_⟩
  exact hK (B_w (show B 0 65536 (F 5 1) from hI 5 1) (by decide +kernel) (by decide +kernel))
set_option maxRecDepth 20000 in
set_option maxHeartbeats 4000000 in
theorem h_Ro_has_u5 {a : Bool} {b : Bool} {P : Nat → Nat → Nat} {x1 : Int32} {F : cF} {L : cL} {K : Int32 → cs → Prop} (hI : IMc F) (hK : ∀ {v : Int32}, B 0 1 v → ((v.toInt = 0) ∨ ((0 ≤ x1.toInt) ∧ (x1.toInt < (F 5 1).toInt))) → K v (F, L, PC a b P)) : p_Ro_has UL 5 x1 (F, L, PC a b P) K := by
  unfold p_Ro_has
  refine ⟨fun hc => ?_, fun hc => ?_⟩
  · have hq1 := hc
    have b2 : B (-2147483648) (-1) (x1) := B_w (B_ltL (B_any _) cqb_0_0_0 hq1) (by decide +kernel) (by decide +kernel)
    unfold b_Ro_has_16
    unfold b_Ro_has_17
    refine ⟨B_nar cqb_0_0_0 (by decide +kernel) (by decide +kernel), ?_⟩
    have q3 : (-2147483648) ≤ (x1).toInt ∧ (x1).toInt ≤ (-1) := (show B (-2147483648) (-1) (x1) from B_w b2 (by decide +kernel) (by decide +kernel))
    have q4 : (0) ≤ (F 5 1).toInt ∧ (F 5 1).toInt ≤ (65536) := (show B 0 65536 (F 5 1) from hI 5 1)
    exact hK (B_w cqb_0_0_0 (by decide +kernel) (by decide +kernel)) (by show ((0 : Int) = 0) ∨ ((0 ≤ x1.toInt) ∧ (x1.toInt < (F 5 1).toInt)); first | with_reducible assumption | omega)
  · have hq5 := (nlt_le hc)
    have b6 : B 0 2147483647 (x1) := B_w (B_leR cqb_0_0_0 (B_any _) hq5) (by decide +kernel) (by decide +kernel)
    refine ⟨fun hc => ?_, fun hc => ?_⟩
    · have hq7 := hc
      have q8 : (0) ≤ (F 5 1).toInt ∧ (F 5 1).toInt ≤ (65536) := (show B 0 65536 (F 5 1) from hI 5 1)
      have q9 : (0) ≤ (x1).toInt ∧ (x1).toInt ≤ (2147483647) := (show B 0 2147483647 (x1) from B_w b6 (by decide +kernel) (by decide +kernel))
      have i10 : (F 5 1).toInt ≤ (x1).toInt := i_le hq7
      unfold b_Ro_has_16
      unfold b_Ro_has_17
      refine ⟨B_nar cqb_0_0_0 (by decide +kernel) (by decide +kernel), ?_⟩
      exact hK (B_w cqb_0_0_0 (by decide +kernel) (by decide +kernel)) (by show ((0 : Int) = 0) ∨ ((0 ≤ x1.toInt) ∧ (x1.toInt < (F 5 1).toInt)); first | with_reducible assumption | omega)
    · have hq11 := (nle_lt hc)
      have b12 : B 0 65535 (x1) := B_w (B_ltL b6 (show B 0 65536 (F 5 1) from hI 5 1) hq11) (by decide +kernel) (by decide +kernel)
      have b13 : B 1 65536 (F 5 1) := B_w (B_ltR b6 (show B 0 65536 (F 5 1) from hI 5 1) hq11) (by decide +kernel) (by decide +kernel)
      have q14 : (0) ≤ (x1).toInt ∧ (x1).toInt ≤ (65535) := (show B 0 65535 (x1) from B_w b12 (by decide +kernel) (by decide +kernel))
      have q15 : (1) ≤ (F 5 1).toInt ∧ (F 5 1).toInt ≤ (65536) := (show B 1 65536 (F 5 1) from B_w b13 (by decide +kernel) (by decide +kernel))
      have i16 : (x1).toInt < (F 5 1).toInt := i_lt hq11
      unfold b_Ro_has_17
      refine ⟨B_nar cqb_1_1_1 (by decide +kernel) (by decide +kernel), ?_⟩
      exact hK (B_w cqb_1_1_1 (by decide +kernel) (by decide +kernel)) (by show ((1 : Int) = 0) ∨ ((0 ≤ x1.toInt) ∧ (x1.toInt < (F 5 1).toInt)); first | with_reducible assumption | omega)
set_option maxRecDepth 20000 in
set_option maxHeartbeats 4000000 in
theorem h_B_out_u0 {a : Bool} {b : Bool} {P : Nat → Nat → Nat} {x1 : Int32} {F : cF} {L : cL} {K : Int32 → cs → Prop} {T : Nat → cs → Prop} (hI : IMc F) (hK : ∀ {v : Int32}, B 0 255 v → K v (F, L, PC a b P)) (hT15 : ∀ {Z : cF} {LZ : cL}, IMc Z → agc [] [] F Z → T 15 (Z, LZ, PC a b P)) : p_B_out UL 0 x1 (F, L, PC a b P) K T := by
  unfold p_B_out
  refine ⟨(show ¬ ((5 : Nat) = NU) from by decide +kernel), ?_⟩
  refine ⟨(show c_cl UL 5 = 9 from cl_5), ?_⟩
  refine h_Ro_has_u5 hI (fun {v5_1} b3 r4 => ?_)
  rcases sp_01 b3 with rfl | rfl
  · have r5 : ((0 : Int) = 0) ∨ ((0 ≤ x1.toInt) ∧ (x1.toInt < (F 5 1).toInt)) := r4
    clear r4
    have q6 : (0) ≤ (F 5 1).toInt ∧ (F 5 1).toInt ≤ (65536) := (show B 0 65536 (F 5 1) from hI 5 1)
    refine ⟨fun hc => ?_, fun hc => ?_⟩
    · exact (hc (B_z cqb_0_0_0)).elim
    · have i7 : (0 : Int32).toInt = (0 : Int32).toInt := congrArg Int32.toInt hc
      have n8 : (0 : Int32).toInt = 0 := cqn_0
      have n9 : (0 : Int32).toInt = 0 := cqn_0
      exact hT15 hI (agc_refl (fs := []) (rs := []) (F := F)) 
  · have r10 : ((1 : Int) = 0) ∨ ((0 ≤ x1.toInt) ∧ (x1.toInt < (F 5 1).toInt)) := r4
    clear r4
    have q11 : (0) ≤ (F 5 1).toInt ∧ (F 5 1).toInt ≤ (65536) := (show B 0 65536 (F 5 1) from hI 5 1)
    have b12 : B 0 65535 (x1) := ⟨by omega, by omega⟩
    refine ⟨fun hc => ?_, fun hc => ?_⟩
    · have i13 : (1 : Int32).toInt ≠ (0 : Int32).toInt := i_ne hc
      have n14 : (1 : Int32).toInt = 1 := cqn_1
      have n15 : (0 : Int32).toInt = 0 := cqn_0
      refine ⟨(show ¬ ((5 : Nat) = NU) from by decide +kernel), ?_⟩
      refine ⟨(show c_cl UL 5 = 9 from cl_5), ?_⟩
      refine ⟨(show ¬ ((6 : Nat) = NU) from by decide +kernel), ?_⟩
      refine ⟨(show c_cl UL 6 = 902 from cl_6), ?_⟩
      refine ⟨(show vp_in (x1) 65536 from vp_B b12 (by decide +kernel) (by decide +kernel)), ?_⟩
      exact hK (B_w (show B 0 255 (F 6 x1.toNatClampNeg) from hI 6 x1.toNatClampNeg) (by decide +kernel) (by decide +kernel))
    · exact (B_dis cqb_1_1_1 cqb_0_0_0 hc (by decide +kernel)).elim
set_option maxRecDepth 20000 in
set_option maxHeartbeats 4000000 in
theorem h_B_end_u0 {a : Bool} {b : Bool} {P : Nat → Nat → Nat} {x1 : Int32} {F : cF} {L : cL} {K : cs → Prop} {T : Nat → cs → Prop} (hI : IMc F) (hK : ∀ {Z : cF} {LZ : cL}, IMc Z → agc [6101] [] F Z → K (Z, LZ, PC a b P)) (hT14 : ∀ {Z : cF} {LZ : cL}, IMc Z → agc [] [] F Z → T 14 (Z, LZ, PC a b P)) : p_B_end UL 0 x1 (F, L, PC a b P) K T := by
  unfold p_B_end
  refine ⟨(show ¬ ((61 : Nat) = NU) from by decide +kernel), ?_⟩
  refine ⟨(show c_cl UL 61 = 9 from cl_61), ?_⟩
  refine h_B_isWithin  (fun {v9_1} b2 r3 r4 => ?_)
  rcases sp_01 b2 with rfl | rfl
  · have r5 : ((0 : Int) = 0) ∨ ((0 ≤ x1.toInt) ∧ (x1.toInt ≤ (F 61 1).toInt)) := r3
    clear r3
    have q6 : (0) ≤ (F 61 1).toInt ∧ (F 61 1).toInt ≤ (32768) := (show B 0 32768 (F 61 1) from hI 61 1)
    have r7 : ((0 : Int) = 1) ∨ ((x1.toInt < 0) ∨ ((F 61 1).toInt < x1.toInt)) := r4
    clear r4
    refine ⟨fun hc => ?_, fun hc => ?_⟩
    · exact (hc (B_z cqb_0_0_0)).elim
    · have i8 : (0 : Int32).toInt = (0 : Int32).toInt := congrArg Int32.toInt hc
      have n9 : (0 : Int32).toInt = 0 := cqn_0
      have n10 : (0 : Int32).toInt = 0 := cqn_0
      exact hT14 hI (agc_refl (fs := []) (rs := []) (F := F)) 
  · have r11 : ((1 : Int) = 0) ∨ ((0 ≤ x1.toInt) ∧ (x1.toInt ≤ (F 61 1).toInt)) := r3
    clear r3
    have q12 : (0) ≤ (F 61 1).toInt ∧ (F 61 1).toInt ≤ (32768) := (show B 0 32768 (F 61 1) from hI 61 1)
    have r13 : ((1 : Int) = 1) ∨ ((x1.toInt < 0) ∨ ((F 61 1).toInt < x1.toInt)) := r4
    clear r4
    have b14 : B 0 32768 (x1) := ⟨by omega, by omega⟩
    refine ⟨fun hc => ?_, fun hc => ?_⟩
    · have i15 : (1 : Int32).toInt ≠ (0 : Int32).toInt := i_ne hc
      have n16 : (1 : Int32).toInt = 1 := cqn_1
      have n17 : (0 : Int32).toInt = 0 := cqn_0
      refine ⟨(show ¬ ((61 : Nat) = NU) from by decide +kernel), ?_⟩
      have hI18 := IMc_u (u := 61) (i := 1) (v := x1) hI (show B 0 32768 (x1) from (B_w b14 (by decide +kernel) (by decide +kernel)))
      have g19 := agc_f (u := 61) (k := 1) (v := x1) (agc_refl (fs := [6101]) (rs := []) (F := F)) rfl (by decide +kernel)
      exact hK hI18 g19
    · exact (B_dis cqb_1_1_1 cqb_0_0_0 hc (by decide +kernel)).elim
set_option maxRecDepth 20000 in
set_option maxHeartbeats 4000000 in
theorem h_Ro_has_u61 {a : Bool} {b : Bool} {P : Nat → Nat → Nat} {x1 : Int32} {F : cF} {L : cL} {K : Int32 → cs → Prop} (hI : IMc F) (hK : ∀ {v : Int32}, B 0 1 v → ((v.toInt = 0) ∨ ((0 ≤ x1.toInt) ∧ (x1.toInt < (F 61 1).toInt))) → K v (F, L, PC a b P)) : p_Ro_has UL 61 x1 (F, L, PC a b P) K := by
  unfold p_Ro_has
  refine ⟨fun hc => ?_, fun hc => ?_⟩
  · have hq1 := hc
    have b2 : B (-2147483648) (-1) (x1) := B_w (B_ltL (B_any _) cqb_0_0_0 hq1) (by decide +kernel) (by decide +kernel)
    unfold b_Ro_has_16
    unfold b_Ro_has_17
    refine ⟨B_nar cqb_0_0_0 (by decide +kernel) (by decide +kernel), ?_⟩
    have q3 : (-2147483648) ≤ (x1).toInt ∧ (x1).toInt ≤ (-1) := (show B (-2147483648) (-1) (x1) from B_w b2 (by decide +kernel) (by decide +kernel))
    have q4 : (0) ≤ (F 61 1).toInt ∧ (F 61 1).toInt ≤ (32768) := (show B 0 32768 (F 61 1) from hI 61 1)
    exact hK (B_w cqb_0_0_0 (by decide +kernel) (by decide +kernel)) (by show ((0 : Int) = 0) ∨ ((0 ≤ x1.toInt) ∧ (x1.toInt < (F 61 1).toInt)); first | with_reducible assumption | omega)
  · have hq5 := (nlt_le hc)
    have b6 : B 0 2147483647 (x1) := B_w (B_leR cqb_0_0_0 (B_any _) hq5) (by decide +kernel) (by decide +kernel)
    refine ⟨fun hc => ?_, fun hc => ?_⟩
    · have hq7 := hc
      have q8 : (0) ≤ (F 61 1).toInt ∧ (F 61 1).toInt ≤ (32768) := (show B 0 32768 (F 61 1) from hI 61 1)
      have q9 : (0) ≤ (x1).toInt ∧ (x1).toInt ≤ (2147483647) := (show B 0 2147483647 (x1) from B_w b6 (by decide +kernel) (by decide +kernel))
      have i10 : (F 61 1).toInt ≤ (x1).toInt := i_le hq7
      unfold b_Ro_has_16
      unfold b_Ro_has_17
      refine ⟨B_nar cqb_0_0_0 (by decide +kernel) (by decide +kernel), ?_⟩
      exact hK (B_w cqb_0_0_0 (by decide +kernel) (by decide +kernel)) (by show ((0 : Int) = 0) ∨ ((0 ≤ x1.toInt) ∧ (x1.toInt < (F 61 1).toInt)); first | with_reducible assumption | omega)
    · have hq11 := (nle_lt hc)
      have b12 : B 0 32767 (x1) := B_w (B_ltL b6 (show B 0 32768 (F 61 1) from hI 61 1) hq11) (by decide +kernel) (by decide +kernel)
      have b13 : B 1 32768 (F 61 1) := B_w (B_ltR b6 (show B 0 32768 (F 61 1) from hI 61 1) hq11) (by decide +kernel) (by decide +kernel)
      have q14 : (0) ≤ (x1).toInt ∧ (x1).toInt ≤ (32767) := (show B 0 32767 (x1) from B_w b12 (by decide +kernel) (by decide +kernel))
      have q15 : (1) ≤ (F 61 1).toInt ∧ (F 61 1).toInt ≤ (32768) := (show B 1 32768 (F 61 1) from B_w b13 (by decide +kernel) (by decide +kernel))
      have i16 : (x1).toInt < (F 61 1).toInt := i_lt hq11
      unfold b_Ro_has_17
      refine ⟨B_nar cqb_1_1_1 (by decide +kernel) (by decide +kernel), ?_⟩
      exact hK (B_w cqb_1_1_1 (by decide +kernel) (by decide +kernel)) (by show ((1 : Int) = 0) ∨ ((0 ≤ x1.toInt) ∧ (x1.toInt < (F 61 1).toInt)); first | with_reducible assumption | omega)
set_option maxRecDepth 20000 in
set_option maxHeartbeats 4000000 in
theorem h_B_change_u0 {a : Bool} {b : Bool} {P : Nat → Nat → Nat} {x1 : Int32} {x2 : Int32} {F : cF} {L : cL} {K : Int32 → cs → Prop} {T : Nat → cs → Prop} (hI : IMc F) (hK : ∀ {v : Int32} {Z : cF} {LZ : cL}, B 0 255 v → IMc Z → agc [] [62] F Z → K v (Z, LZ, PC a b P)) (hT14 : ∀ {Z : cF} {LZ : cL}, IMc Z → agc [] [] F Z → T 14 (Z, LZ, PC a b P)) (hT15 : ∀ {Z : cF} {LZ : cL}, IMc Z → agc [] [] F Z → T 15 (Z, LZ, PC a b P)) : p_B_change UL 0 x1 x2 (F, L, PC a b P) K T := by
  unfold p_B_change
  refine ⟨(show ¬ ((61 : Nat) = NU) from by decide +kernel), ?_⟩
  refine ⟨(show c_cl UL 61 = 9 from cl_61), ?_⟩
  refine h_Ro_has_u61 hI (fun {v5_1} b3 r4 => ?_)
  rcases sp_01 b3 with rfl | rfl
  · have r5 : ((0 : Int) = 0) ∨ ((0 ≤ x1.toInt) ∧ (x1.toInt < (F 61 1).toInt)) := r4
    clear r4
    have q6 : (0) ≤ (F 61 1).toInt ∧ (F 61 1).toInt ≤ (32768) := (show B 0 32768 (F 61 1) from hI 61 1)
    refine ⟨fun hc => ?_, fun hc => ?_⟩
    · exact (hc (B_z cqb_0_0_0)).elim
    · have i7 : (0 : Int32).toInt = (0 : Int32).toInt := congrArg Int32.toInt hc
      have n8 : (0 : Int32).toInt = 0 := cqn_0
      have n9 : (0 : Int32).toInt = 0 := cqn_0
      exact hT15 hI (agc_refl (fs := []) (rs := []) (F := F)) 
  · have r10 : ((1 : Int) = 0) ∨ ((0 ≤ x1.toInt) ∧ (x1.toInt < (F 61 1).toInt)) := r4
    clear r4
    have q11 : (0) ≤ (F 61 1).toInt ∧ (F 61 1).toInt ≤ (32768) := (show B 0 32768 (F 61 1) from hI 61 1)
    have b12 : B 0 32767 (x1) := ⟨by omega, by omega⟩
    refine ⟨fun hc => ?_, fun hc => ?_⟩
    · have i13 : (1 : Int32).toInt ≠ (0 : Int32).toInt := i_ne hc
      have n14 : (1 : Int32).toInt = 1 := cqn_1
      have n15 : (0 : Int32).toInt = 0 := cqn_0
      refine h_B_isWithin  (fun {v26_16} b17 r18 r19 => ?_)
      rcases sp_01 b17 with rfl | rfl
      · have r20 : ((0 : Int) = 0) ∨ ((0 ≤ x2.toInt) ∧ (x2.toInt ≤ 255)) := r18
        clear r18
        have r21 : ((0 : Int) = 1) ∨ ((x2.toInt < 0) ∨ (255 < x2.toInt)) := r19
        clear r19
        refine ⟨fun hc => ?_, fun hc => ?_⟩
        · exact (hc (B_z cqb_0_0_0)).elim
        · have i22 : (0 : Int32).toInt = (0 : Int32).toInt := congrArg Int32.toInt hc
          have n23 : (0 : Int32).toInt = 0 := cqn_0
          have n24 : (0 : Int32).toInt = 0 := cqn_0
          exact hT14 hI (agc_refl (fs := []) (rs := []) (F := F)) 
      · have r25 : ((1 : Int) = 0) ∨ ((0 ≤ x2.toInt) ∧ (x2.toInt ≤ 255)) := r18
        clear r18
        have r26 : ((1 : Int) = 1) ∨ ((x2.toInt < 0) ∨ (255 < x2.toInt)) := r19
        clear r19
        have b27 : B 0 255 (x2) := ⟨by omega, by omega⟩
        refine ⟨fun hc => ?_, fun hc => ?_⟩
        · have i28 : (1 : Int32).toInt ≠ (0 : Int32).toInt := i_ne hc
          have n29 : (1 : Int32).toInt = 1 := cqn_1
          have n30 : (0 : Int32).toInt = 0 := cqn_0
          refine ⟨(show ¬ ((61 : Nat) = NU) from by decide +kernel), ?_⟩
          refine ⟨(show c_cl UL 61 = 9 from cl_61), ?_⟩
          refine ⟨(show ¬ ((62 : Nat) = NU) from by decide +kernel), ?_⟩
          refine ⟨(show c_cl UL 62 = 902 from cl_62), ?_⟩
          refine ⟨(show vp_in (x1) 32768 from vp_B b12 (by decide +kernel) (by decide +kernel)), ?_⟩
          refine ⟨(show vp_in (x1) 32768 from vp_B b12 (by decide +kernel) (by decide +kernel)), ?_⟩
          refine ⟨(show ¬ ((61 : Nat) = NU) from by decide +kernel), ?_⟩
          refine ⟨(show ¬ ((62 : Nat) = NU) from by decide +kernel), ?_⟩
          refine ⟨(show vp_in (x1) 32768 from vp_B b12 (by decide +kernel) (by decide +kernel)), ?_⟩
          have hI31 := IMc_u (u := 62) (i := x1.toNatClampNeg) (v := (F 62 x1.toNatClampNeg) ^^^ x2) hI (show B 0 255 ((F 62 x1.toNatClampNeg) ^^^ x2) from (B_w (B_xor (B_w (show B 0 255 (F 62 x1.toNatClampNeg) from hI 62 x1.toNatClampNeg) (by decide +kernel) (by decide +kernel)) (B_w b27 (by decide +kernel) (by decide +kernel))) (by decide +kernel) (by decide +kernel)))
          have g32 := agc_r (u := 62) (w := upd (F 62) x1.toNatClampNeg ((F 62 x1.toNatClampNeg) ^^^ x2)) (agc_refl (fs := []) (rs := [62]) (F := F)) rfl (by decide +kernel)
          exact hK (B_w (B_eq (ru_at (f := F) (g := F 62) (r := 62) (i := x1.toNatClampNeg) (v := (F 62 x1.toNatClampNeg) ^^^ x2)) (B_xor (B_w (show B 0 255 (F 62 x1.toNatClampNeg) from hI 62 x1.toNatClampNeg) (by decide +kernel) (by decide +kernel)) (B_w b27 (by decide +kernel) (by decide +kernel)))) (by decide +kernel) (by decide +kernel)) hI31 g32
        · exact (B_dis cqb_1_1_1 cqb_0_0_0 hc (by decide +kernel)).elim
    · exact (B_dis cqb_1_1_1 cqb_0_0_0 hc (by decide +kernel)).elim
set_option maxRecDepth 20000 in
set_option maxHeartbeats 4000000 in
theorem h_B_turn_u0 {a : Bool} {b : Bool} {P : Nat → Nat → Nat} {F : cF} {L : cL} {K : Int32 → cs → Prop} {T : Nat → cs → Prop} (hI : IMc F) (hK : ∀ {v : Int32} {Z : cF} {LZ : cL}, B 0 32768 v → IMc Z → agc [6101] [62, 999] F Z → K v (Z, LZ, PC a b P)) (hT13 : ∀ {Z : cF} {LZ : cL}, IMc Z → agc [] [] F Z → T 13 (Z, LZ, PC a b P)) : p_B_turn UL 0 (F, L, PC a b P) K T := by
  unfold p_B_turn
  refine ⟨(show ¬ ((5 : Nat) = NU) from by decide +kernel), ?_⟩
  refine ⟨(show c_cl UL 5 = 9 from cl_5), ?_⟩
  refine ⟨fun hc => ?_, fun hc => ?_⟩
  · have hq1 := hc
    have b2 : B 0 32768 (F 5 1) := B_w (B_leL (show B 0 65536 (F 5 1) from hI 5 1) cqb_32768_32768_32768 hq1) (by decide +kernel) (by decide +kernel)
    refine ⟨(show ¬ ((61 : Nat) = NU) from by decide +kernel), ?_⟩
    refine ⟨(show c_cl UL 61 = 9 from cl_61), ?_⟩
    have hI8 := IMc_u (u := 61) (i := 1) (v := 0) hI (show B 0 32768 (0) from (B_w cqb_0_0_0 (by decide +kernel) (by decide +kernel)))
    refine ⟨fun yx1 yS => B 0 65536 yx1 ∧ ∃ (T4 : cF) (LT4 : cL), yS = (T4, LT4, PC a b P) ∧ IMc T4 ∧ agc [6101] [62, 999] (va_up F 61 (upd (F 61) 1 0)) T4, fun yx1 yS => (65536 - yx1.toInt).toNat, ⟨(B_w cqb_0_0_0 (by decide +kernel) (by decide +kernel)), _, _, rfl, hI8, (agc_refl (fs := [6101]) (rs := [62, 999]) (F := va_up F 61 (upd (F 61) 1 0)))⟩, fun x1_3 ST4 hIv => ?_⟩
    obtain ⟨b5, T4, LT4, rfl, hI6, g7⟩ := hIv
    suffices hs : ∀ (R32 : Int32 → cs → Prop), (∀ zx1 zS, (B 0 65536 zx1 ∧ ∃ (T4 : cF) (LT4 : cL), zS = (T4, LT4, PC a b P) ∧ IMc T4 ∧ agc [6101] [62, 999] (va_up F 61 (upd (F 61) 1 0)) T4) → (65536 - zx1.toInt).toNat < (65536 - x1_3.toInt).toNat → R32 zx1 zS) → b_B_turn_32 UL 0 x1_3 (T4, LT4, PC a b P) R32 K T from hs _ (fun _ _ h1 h2 => ⟨h1, h2⟩)
    intro R32 hR320
    have hR32 := fun {zx1} {zS} => hR320 zx1 zS
    unfold b_B_turn_32
    refine ⟨(show ¬ ((5 : Nat) = NU) from by decide +kernel), ?_⟩
    refine ⟨(show c_cl UL 5 = 9 from cl_5), ?_⟩
    refine ⟨fun hc => ?_, fun hc => ?_⟩
    · have hq9 := hc
      have q10 : (0) ≤ (F 5 1).toInt ∧ (F 5 1).toInt ≤ (32768) := (show B 0 32768 (F 5 1) from B_w b2 (by decide +kernel) (by decide +kernel))
      have e11 : (T4 5 1).toInt = (F 5 1).toInt := (congrArg Int32.toInt (g7.1 5 1 rfl rfl)).trans rfl
      have q12 : (0) ≤ (x1_3).toInt ∧ (x1_3).toInt ≤ (65536) := (show B 0 65536 (x1_3) from B_w b5 (by decide +kernel) (by decide +kernel))
      have i13 : (T4 5 1).toInt ≤ (x1_3).toInt := i_le hq9
      refine ⟨(show ¬ ((61 : Nat) = NU) from by decide +kernel), ?_⟩
      refine ⟨(show c_cl UL 61 = 9 from cl_61), ?_⟩
      have g15 := agc_f (u := 61) (k := 1) (v := 0) (agc_refl (fs := [6101]) (rs := [62, 999]) (F := F)) rfl (by decide +kernel)
      have g14 := agc_tr g15 g7 (by decide +kernel) (by decide +kernel)
      exact hK (B_w (show B 0 32768 (T4 61 1) from hI6 61 1) (by decide +kernel) (by decide +kernel)) hI6 g14
    · have hq16 := (nle_lt hc)
      have b17 : B 0 32767 (x1_3) := B_w (B_ltL b5 (B_eq (g7.1 5 1 rfl rfl) b2) hq16) (by decide +kernel) (by decide +kernel)
      have b18 : B 1 32768 (F 5 1) := B_w (B_eq (Eq.symm (g7.1 5 1 rfl rfl)) (B_ltR b5 (B_eq (g7.1 5 1 rfl rfl) b2) hq16)) (by decide +kernel) (by decide +kernel)
      have q19 : (0) ≤ (x1_3).toInt ∧ (x1_3).toInt ≤ (32767) := (show B 0 32767 (x1_3) from B_w b17 (by decide +kernel) (by decide +kernel))
      have q20 : (1) ≤ (F 5 1).toInt ∧ (F 5 1).toInt ≤ (32768) := (show B 1 32768 (F 5 1) from B_w b18 (by decide +kernel) (by decide +kernel))
      have e21 : (T4 5 1).toInt = (F 5 1).toInt := (congrArg Int32.toInt (g7.1 5 1 rfl rfl)).trans rfl
      have i22 : (x1_3).toInt < (T4 5 1).toInt := i_lt hq16
      refine ⟨(show ¬ ((61 : Nat) = NU) from by decide +kernel), ?_⟩
      refine ⟨(show ¬ ((5 : Nat) = NU) from by decide +kernel), ?_⟩
      refine ⟨(show ¬ ((6 : Nat) = NU) from by decide +kernel), ?_⟩
      refine ⟨(show c_cl UL 6 = 902 from cl_6), ?_⟩
      refine ⟨(show vp_in (x1_3) 65536 from vp_B b17 (by decide +kernel) (by decide +kernel)), ?_⟩
      refine ⟨(show c_cl UL 61 = 9 from cl_61), ?_⟩
      refine h_Ro_add_u61 hI6 (fun {FS56_23} {LFS56_23} hI24 g25 => ?_)
      have g27 := agc_tr (agc_refl (fs := [6101]) (rs := [62, 999]) (F := va_up F 61 (upd (F 61) 1 0))) g7 (by decide +kernel) (by decide +kernel)
      have g26 := agc_tr g27 g25 (by decide +kernel) (by decide +kernel)
      have e28 : (x1_3 + 1).toInt = ((x1_3).toInt + 1) := (t_add b17 cqb_1_1_1 (by decide +kernel) (by decide +kernel)).trans (by rw [cqn_1])
      have q29 : (1) ≤ (x1_3 + 1).toInt ∧ (x1_3 + 1).toInt ≤ (32768) := (show B 1 32768 (x1_3 + 1) from B_w (B_add b17 cqb_1_1_1 (by decide +kernel) (by decide +kernel)) (by decide +kernel) (by decide +kernel))
      exact hR32 ⟨(B_w (B_add b17 cqb_1_1_1 (by decide +kernel) (by decide +kernel)) (by decide +kernel) (by decide +kernel)), _, _, rfl, hI24, g26⟩ (by show (65536 - (x1_3 + 1).toInt).toNat < (65536 - x1_3.toInt).toNat; omega)
  · have hq30 := (nle_lt hc)
    have b31 : B 32769 65536 (F 5 1) := B_w (B_ltR cqb_32768_32768_32768 (show B 0 65536 (F 5 1) from hI 5 1) hq30) (by decide +kernel) (by decide +kernel)
    exact hT13 hI (agc_refl (fs := []) (rs := []) (F := F)) 
set_option maxRecDepth 20000 in
set_option maxHeartbeats 4000000 in
theorem h_B_place_u0 {a : Bool} {b : Bool} {P : Nat → Nat → Nat} {F : cF} {L : cL} {K : Int32 → cs → Prop} (hI : IMc F) (hK : ∀ {v : Int32}, B (-2147483648) 2147483647 v → K v (F, L, PC a b P)) : p_B_place UL 0 (F, L, PC a b P) K := by
  unfold p_B_place
  exact hK (B_w (B_any _) (by decide +kernel) (by decide +kernel))
