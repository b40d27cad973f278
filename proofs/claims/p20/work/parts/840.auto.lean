set_option maxRecDepth 20000 in
set_option maxHeartbeats 4000000 in
theorem h_codeSize {x1 : Int32} {S : ms} {K : Int32 → ms → Prop} (b_x1 : B 0 3 x1) (hI : IM S) (hK : ∀ {v : Int32}, B 17 273 v → K v S) : p_codeSize x1 S K := by
  unfold p_codeSize
  refine ⟨fun yx1 yx2 yx3 yS => x1 = yx1 ∧ B 17 273 yx2 ∧ B 0 256 yx3 ∧ S = yS ∧ (yx2.toInt ≤ (17 + yx3.toInt)), fun yx1 yx2 yx3 yS => (256 - yx3.toInt).toNat, ⟨rfl, (B_w cqb_17_17_17 (by decide +kernel) (by decide +kernel)), (B_w cqb_0_0_0 (by decide +kernel) (by decide +kernel)), rfl, (by show 17 ≤ (17 + 0); first | with_reducible assumption | omega)⟩, fun x1_1 x2_2 x3_3 T4 hIv => ?_⟩
  obtain ⟨rfl, b5, b6, rfl, r7⟩ := hIv
  suffices hs : ∀ (R5 : Int32 → Int32 → Int32 → ms → Prop), (∀ zx1 zx2 zx3 zS, (x1 = zx1 ∧ B 17 273 zx2 ∧ B 0 256 zx3 ∧ S = zS ∧ (zx2.toInt ≤ (17 + zx3.toInt))) → (256 - zx3.toInt).toNat < (256 - x3_3.toInt).toNat → R5 zx1 zx2 zx3 zS) → b_codeSize_5 x1 x2_2 x3_3 S R5 K from hs _ (fun _ _ _ _ h1 h2 => ⟨h1, h2⟩)
  intro R5 hR50
  have hR5 := fun {zx1} {zx2} {zx3} {zS} => hR50 zx1 zx2 zx3 zS
  have q8 : (17) ≤ (x2_2).toInt ∧ (x2_2).toInt ≤ (273) := (show B 17 273 (x2_2) from B_w b5 (by decide +kernel) (by decide +kernel))
  have q9 : (0) ≤ (x3_3).toInt ∧ (x3_3).toInt ≤ (256) := (show B 0 256 (x3_3) from B_w b6 (by decide +kernel) (by decide +kernel))
  unfold b_codeSize_5
  refine ⟨fun hc => ?_, fun hc => ?_⟩
  · have hq10 := hc
    have b11 : B 256 256 (x3_3) := B_w (B_leR cqb_256_256_256 b6 hq10) (by decide +kernel) (by decide +kernel)
    have q12 : (256) ≤ (x3_3).toInt ∧ (x3_3).toInt ≤ (256) := (show B 256 256 (x3_3) from B_w b11 (by decide +kernel) (by decide +kernel))
    exact hK b5
  · have hq13 := (nle_lt hc)
    have b14 : B 0 255 (x3_3) := B_w (B_ltL b6 cqb_256_256_256 hq13) (by decide +kernel) (by decide +kernel)
    have q15 : (0) ≤ (x3_3).toInt ∧ (x3_3).toInt ≤ (255) := (show B 0 255 (x3_3) from B_w b14 (by decide +kernel) (by decide +kernel))
    refine ⟨vp_B (B_add (B_mul cqb_257_257_257 b_x1 (by decide +kernel) (by decide +kernel) (by decide +kernel)) b14 (by decide +kernel) (by decide +kernel)) (by decide +kernel) (by decide +kernel), ?_⟩
    refine ⟨fun hc => ?_, fun hc => ?_⟩
    · have hq16 := hc
      have b17 : B 0 0 (S.2.1 27 ((257 * x1) + x3_3).toNatClampNeg) := B_w (B_leL (show B 0 8320 (S.2.1 27 ((257 * x1) + x3_3).toNatClampNeg) from br_27 hI _) cqb_0_0_0 hq16) (by decide +kernel) (by decide +kernel)
      unfold b_codeSize_34
      have e18 : (x3_3 + 1).toInt = ((x3_3).toInt + 1) := (t_add b14 cqb_1_1_1 (by decide +kernel) (by decide +kernel)).trans (by rw [cqn_1])
      have q19 : (1) ≤ (x3_3 + 1).toInt ∧ (x3_3 + 1).toInt ≤ (256) := (show B 1 256 (x3_3 + 1) from B_w (B_add b14 cqb_1_1_1 (by decide +kernel) (by decide +kernel)) (by decide +kernel) (by decide +kernel))
      exact hR5 ⟨rfl, b5, (B_w (B_add b14 cqb_1_1_1 (by decide +kernel) (by decide +kernel)) (by decide +kernel) (by decide +kernel)), rfl, (by show x2_2.toInt ≤ (17 + (x3_3 + 1).toInt); first | with_reducible assumption | omega)⟩ (by show (256 - (x3_3 + 1).toInt).toNat < (256 - x3_3.toInt).toNat; omega)
    · have hq20 := (nle_lt hc)
      have b21 : B 1 8320 (S.2.1 27 ((257 * x1) + x3_3).toNatClampNeg) := B_w (B_ltR cqb_0_0_0 (show B 0 8320 (S.2.1 27 ((257 * x1) + x3_3).toNatClampNeg) from br_27 hI _) hq20) (by decide +kernel) (by decide +kernel)
      unfold b_codeSize_34
      have e22 : (x2_2 + 1).toInt = ((x2_2).toInt + 1) := (t_add b5 cqb_1_1_1 (by decide +kernel) (by decide +kernel)).trans (by rw [cqn_1])
      have q23 : (18) ≤ (x2_2 + 1).toInt ∧ (x2_2 + 1).toInt ≤ (274) := (show B 18 274 (x2_2 + 1) from B_w (B_add b5 cqb_1_1_1 (by decide +kernel) (by decide +kernel)) (by decide +kernel) (by decide +kernel))
      have e24 : (x3_3 + 1).toInt = ((x3_3).toInt + 1) := (t_add b14 cqb_1_1_1 (by decide +kernel) (by decide +kernel)).trans (by rw [cqn_1])
      have q25 : (1) ≤ (x3_3 + 1).toInt ∧ (x3_3 + 1).toInt ≤ (256) := (show B 1 256 (x3_3 + 1) from B_w (B_add b14 cqb_1_1_1 (by decide +kernel) (by decide +kernel)) (by decide +kernel) (by decide +kernel))
      exact hR5 ⟨rfl, (show B 17 273 (x2_2 + 1) from ⟨by omega, by omega⟩), (B_w (B_add b14 cqb_1_1_1 (by decide +kernel) (by decide +kernel)) (by decide +kernel) (by decide +kernel)), rfl, (by show (x2_2 + 1).toInt ≤ (17 + (x3_3 + 1).toInt); first | with_reducible assumption | omega)⟩ (by show (256 - (x3_3 + 1).toInt).toNat < (256 - x3_3.toInt).toNat; omega)
set_option maxRecDepth 20000 in
set_option maxHeartbeats 4000000 in
theorem h_putSections {x1 : Int32} {S : ms} {K : ms → Prop} (b_x1 : B 0 65535 x1) (hI : IM S) (pre0 : (S.1 9).toInt ≤ 2) (pre1 : LZ S) (pre2 : 1 ≤ (S.2.1 14 (0 : Int32).toNatClampNeg).toInt) (hK : ∀ {Z : ms}, IM Z → ag [9] [8] S Z → ((Z.1 9).toInt ≤ 1300) → K Z) : p_putSections x1 S K := by
  have q1 : (0) ≤ (S.1 9).toInt ∧ (S.1 9).toInt ≤ (65536) := (show B 0 65536 (S.1 9) from bf_9 hI)
  have q2 : (0) ≤ (S.2.1 14 (0 : Int32).toNatClampNeg).toInt ∧ (S.2.1 14 (0 : Int32).toNatClampNeg).toInt ≤ (3) := (show B 0 3 (S.2.1 14 (0 : Int32).toNatClampNeg) from br_14 hI _)
  unfold p_putSections
  refine ⟨vp_B cqb_0_0_0 (by decide +kernel) (by decide +kernel), ?_⟩
  have hj3 : ∀ {T4 : ms}, IM T4 → ag [9] [8] S T4 → ((T4.1 9).toInt ≤ 1257) → b_putSections_297 (S.2.1 14 (0 : Int32).toNatClampNeg) T4 K := by
    intro T4 hI5 g6 r7
    have q8 : (0) ≤ (T4.1 9).toInt ∧ (T4.1 9).toInt ≤ (65536) := (show B 0 65536 (T4.1 9) from bf_9 hI5)
    unfold b_putSections_297
    refine h_mark (B_w cqb_218_218_218 (by decide +kernel) (by decide +kernel)) hI5 (by show (T4.1 9).toInt ≤ 65534; first | with_reducible assumption | omega) (fun {S301_9} hI10 g11 r12 => ?_)
    have r13 : (S301_9.1 9).toInt = ((T4.1 9).toInt + 2) := r12
    clear r12
    have q14 : (0) ≤ (S301_9.1 9).toInt ∧ (S301_9.1 9).toInt ≤ (65536) := (show B 0 65536 (S301_9.1 9) from bf_9 hI10)
    refine h_putTwo (B_w (B_add cqb_6_6_6 (B_mul cqb_2_2_2 (show B 0 3 (S.2.1 14 (0 : Int32).toNatClampNeg) from br_14 hI _) (by decide +kernel) (by decide +kernel) (by decide +kernel)) (by decide +kernel) (by decide +kernel)) (by decide +kernel) (by decide +kernel)) hI10 (by show (S301_9.1 9).toInt ≤ 65534; first | with_reducible assumption | omega) (fun {S311_15} hI16 g17 r18 => ?_)
    have r19 : (S311_15.1 9).toInt = ((S301_9.1 9).toInt + 2) := r18
    clear r18
    have q20 : (0) ≤ (S311_15.1 9).toInt ∧ (S311_15.1 9).toInt ≤ (65536) := (show B 0 65536 (S311_15.1 9) from bf_9 hI16)
    refine h_put (B_w (show B 0 3 (S.2.1 14 (0 : Int32).toNatClampNeg) from br_14 hI _) (by decide +kernel) (by decide +kernel)) hI16 (by show (S311_15.1 9).toInt ≤ 65535; first | with_reducible assumption | omega) (fun {S316_21} hI22 g23 r24 => ?_)
    have r25 : (S316_21.1 9).toInt = ((S311_15.1 9).toInt + 1) := r24
    clear r24
    have q26 : (0) ≤ (S316_21.1 9).toInt ∧ (S316_21.1 9).toInt ≤ (65536) := (show B 0 65536 (S316_21.1 9) from bf_9 hI22)
    refine ⟨fun yx2 yx5 yS => (S.2.1 14 (0 : Int32).toNatClampNeg) = yx2 ∧ B 0 3 yx5 ∧ IM yS ∧ ag [9] [8] S316_21 yS ∧ ((yS.1 9).toInt ≤ (1262 + (2 * yx5.toInt))), fun yx2 yx5 yS => (3 - yx5.toInt).toNat, ⟨rfl, (B_w cqb_0_0_0 (by decide +kernel) (by decide +kernel)), hI22, (ag_refl (fs := [9]) (rs := [8]) (S := S316_21)), (by show (S316_21.1 9).toInt ≤ (1262 + (2 * 0)); first | with_reducible assumption | omega)⟩, fun x2_27 x5_28 T29 hIv => ?_⟩
    obtain ⟨rfl, b30, hI31, g32, r33⟩ := hIv
    suffices hs : ∀ (R322 : Int32 → Int32 → ms → Prop), (∀ zx2 zx5 zS, ((S.2.1 14 (0 : Int32).toNatClampNeg) = zx2 ∧ B 0 3 zx5 ∧ IM zS ∧ ag [9] [8] S316_21 zS ∧ ((zS.1 9).toInt ≤ (1262 + (2 * zx5.toInt)))) → (3 - zx5.toInt).toNat < (3 - x5_28.toInt).toNat → R322 zx2 zx5 zS) → b_putSections_322 (S.2.1 14 (0 : Int32).toNatClampNeg) x5_28 T29 R322 K from hs _ (fun _ _ _ h1 h2 => ⟨h1, h2⟩)
    intro R322 hR3220
    have hR322 := fun {zx2} {zx5} {zS} => hR3220 zx2 zx5 zS
    have q34 : (0) ≤ (T29.1 9).toInt ∧ (T29.1 9).toInt ≤ (65536) := (show B 0 65536 (T29.1 9) from bf_9 hI31)
    have q35 : (0) ≤ (x5_28).toInt ∧ (x5_28).toInt ≤ (3) := (show B 0 3 (x5_28) from B_w b30 (by decide +kernel) (by decide +kernel))
    unfold b_putSections_322
    refine ⟨fun hc => ?_, fun hc => ?_⟩
    · have hq36 := hc
      have i37 : (S.2.1 14 (0 : Int32).toNatClampNeg).toInt ≤ (x5_28).toInt := i_le hq36
      refine h_put (B_w cqb_0_0_0 (by decide +kernel) (by decide +kernel)) hI31 (by show (T29.1 9).toInt ≤ 65535; first | with_reducible assumption | omega) (fun {S359_38} hI39 g40 r41 => ?_)
      have r42 : (S359_38.1 9).toInt = ((T29.1 9).toInt + 1) := r41
      clear r41
      have q43 : (0) ≤ (S359_38.1 9).toInt ∧ (S359_38.1 9).toInt ≤ (65536) := (show B 0 65536 (S359_38.1 9) from bf_9 hI39)
      refine h_put (B_w cqb_63_63_63 (by decide +kernel) (by decide +kernel)) hI39 (by show (S359_38.1 9).toInt ≤ 65535; first | with_reducible assumption | omega) (fun {S365_44} hI45 g46 r47 => ?_)
      have r48 : (S365_44.1 9).toInt = ((S359_38.1 9).toInt + 1) := r47
      clear r47
      have q49 : (0) ≤ (S365_44.1 9).toInt ∧ (S365_44.1 9).toInt ≤ (65536) := (show B 0 65536 (S365_44.1 9) from bf_9 hI45)
      refine h_put (B_w cqb_0_0_0 (by decide +kernel) (by decide +kernel)) hI45 (by show (S365_44.1 9).toInt ≤ 65535; first | with_reducible assumption | omega) (fun {S370_50} hI51 g52 r53 => ?_)
      have r54 : (S370_50.1 9).toInt = ((S365_44.1 9).toInt + 1) := r53
      clear r53
      have q55 : (0) ≤ (S370_50.1 9).toInt ∧ (S370_50.1 9).toInt ≤ (65536) := (show B 0 65536 (S370_50.1 9) from bf_9 hI51)
      have g63 := ag_tr (ag_refl (fs := [9]) (rs := [8]) (S := S)) g6 (by decide +kernel) (by decide +kernel)
      have g62 := ag_tr g63 g11 (by decide +kernel) (by decide +kernel)
      have g61 := ag_tr g62 g17 (by decide +kernel) (by decide +kernel)
      have g60 := ag_tr g61 g23 (by decide +kernel) (by decide +kernel)
      have g59 := ag_tr g60 g32 (by decide +kernel) (by decide +kernel)
      have g58 := ag_tr g59 g40 (by decide +kernel) (by decide +kernel)
      have g57 := ag_tr g58 g46 (by decide +kernel) (by decide +kernel)
      have g56 := ag_tr g57 g52 (by decide +kernel) (by decide +kernel)
      exact hK hI51 g56 (by show (S370_50.1 9).toInt ≤ 1300; first | with_reducible assumption | omega)
    · have hq64 := (nle_lt hc)
      have b65 : B 0 2 (x5_28) := B_w (B_ltL b30 (show B 0 3 (S.2.1 14 (0 : Int32).toNatClampNeg) from br_14 hI _) hq64) (by decide +kernel) (by decide +kernel)
      have q66 : (0) ≤ (x5_28).toInt ∧ (x5_28).toInt ≤ (2) := (show B 0 2 (x5_28) from B_w b65 (by decide +kernel) (by decide +kernel))
      have b67 : B 1 3 (S.2.1 14 (0 : Int32).toNatClampNeg) := B_w (B_ltR b30 (show B 0 3 (S.2.1 14 (0 : Int32).toNatClampNeg) from br_14 hI _) hq64) (by decide +kernel) (by decide +kernel)
      have q68 : (1) ≤ (S.2.1 14 (0 : Int32).toNatClampNeg).toInt ∧ (S.2.1 14 (0 : Int32).toNatClampNeg).toInt ≤ (3) := (show B 1 3 (S.2.1 14 (0 : Int32).toNatClampNeg) from B_w b67 (by decide +kernel) (by decide +kernel))
      have i69 : (x5_28).toInt < (S.2.1 14 (0 : Int32).toNatClampNeg).toInt := i_lt hq64
      refine h_put (B_w (B_add b65 cqb_1_1_1 (by decide +kernel) (by decide +kernel)) (by decide +kernel) (by decide +kernel)) hI31 (by show (T29.1 9).toInt ≤ 65535; first | with_reducible assumption | omega) (fun {S333_70} hI71 g72 r73 => ?_)
      have r74 : (S333_70.1 9).toInt = ((T29.1 9).toInt + 1) := r73
      clear r73
      have q75 : (0) ≤ (S333_70.1 9).toInt ∧ (S333_70.1 9).toInt ≤ (65536) := (show B 0 65536 (S333_70.1 9) from bf_9 hI71)
      have hj76 : ∀ {s1_77 : Int32}, B 0 17 s1_77 → ((S333_70.1 9).toInt ≤ (1263 + (2 * x5_28.toInt))) → b_putSections_348 (S.2.1 14 (0 : Int32).toNatClampNeg) x5_28 s1_77 S333_70 R322 K := by
        intro s1_77 b78 r79
        unfold b_putSections_348
        refine h_put (B_w b78 (by decide +kernel) (by decide +kernel)) hI71 (by show (S333_70.1 9).toInt ≤ 65535; first | with_reducible assumption | omega) (fun {S348_80} hI81 g82 r83 => ?_)
        have r84 : (S348_80.1 9).toInt = ((S333_70.1 9).toInt + 1) := r83
        clear r83
        have q85 : (0) ≤ (S348_80.1 9).toInt ∧ (S348_80.1 9).toInt ≤ (65536) := (show B 0 65536 (S348_80.1 9) from bf_9 hI81)
        have g88 := ag_tr (ag_refl (fs := [9]) (rs := [8]) (S := S316_21)) g32 (by decide +kernel) (by decide +kernel)
        have g87 := ag_tr g88 g72 (by decide +kernel) (by decide +kernel)
        have g86 := ag_tr g87 g82 (by decide +kernel) (by decide +kernel)
        have e89 : (x5_28 + 1).toInt = ((x5_28).toInt + 1) := (t_add b65 cqb_1_1_1 (by decide +kernel) (by decide +kernel)).trans (by rw [cqn_1])
        have q90 : (1) ≤ (x5_28 + 1).toInt ∧ (x5_28 + 1).toInt ≤ (3) := (show B 1 3 (x5_28 + 1) from B_w (B_add b65 cqb_1_1_1 (by decide +kernel) (by decide +kernel)) (by decide +kernel) (by decide +kernel))
        exact hR322 ⟨rfl, (B_w (B_add b65 cqb_1_1_1 (by decide +kernel) (by decide +kernel)) (by decide +kernel) (by decide +kernel)), hI81, g86, (by show (S348_80.1 9).toInt ≤ (1262 + (2 * (x5_28 + 1).toInt)); first | with_reducible assumption | omega)⟩ (by show (3 - (x5_28 + 1).toInt).toNat < (3 - x5_28.toInt).toNat; omega)
      refine ⟨fun hc => ?_, fun hc => ?_⟩
      · have b91 : B 1 2 (x5_28) := B_w (B_n0 b65 hc) (by decide +kernel) (by decide +kernel)
        have q92 : (1) ≤ (x5_28).toInt ∧ (x5_28).toInt ≤ (2) := (show B 1 2 (x5_28) from B_w b91 (by decide +kernel) (by decide +kernel))
        exact hj76 (B_w cqb_17_17_17 (by decide +kernel) (by decide +kernel)) (by show (S333_70.1 9).toInt ≤ (1263 + (2 * x5_28.toInt)); first | with_reducible assumption | omega)
      · have b93 : B 0 0 (x5_28) := B_w (B_eq hc cqb_0_0_0) (by decide +kernel) (by decide +kernel)
        have q94 : (0) ≤ (x5_28).toInt ∧ (x5_28).toInt ≤ (0) := (show B 0 0 (x5_28) from B_w b93 (by decide +kernel) (by decide +kernel))
        have i95 : (x5_28).toInt = (0 : Int32).toInt := congrArg Int32.toInt hc
        have n96 : (0 : Int32).toInt = 0 := cqn_0
        exact hj76 (B_w cqb_0_0_0 (by decide +kernel) (by decide +kernel)) (by show (S333_70.1 9).toInt ≤ (1263 + (2 * x5_28.toInt)); first | with_reducible assumption | omega)
  have hj97 : ∀ {s0_98 : Int32}, B 1 2 s0_98 → ((S.1 9).toInt ≤ 2) → b_putSections_17 x1 (S.2.1 14 (0 : Int32).toNatClampNeg) s0_98 S K := by
    intro s0_98 b99 r100
    unfold b_putSections_17
    refine h_mark (B_w cqb_219_219_219 (by decide +kernel) (by decide +kernel)) hI (by show (S.1 9).toInt ≤ 65534; first | with_reducible assumption | omega) (fun {S22_101} hI102 g103 r104 => ?_)
    have r105 : (S22_101.1 9).toInt = ((S.1 9).toInt + 2) := r104
    clear r104
    have q106 : (0) ≤ (S22_101.1 9).toInt ∧ (S22_101.1 9).toInt ≤ (65536) := (show B 0 65536 (S22_101.1 9) from bf_9 hI102)
    refine h_putTwo (B_w (B_add cqb_2_2_2 (B_mul cqb_65_65_65 b99 (by decide +kernel) (by decide +kernel) (by decide +kernel)) (by decide +kernel) (by decide +kernel)) (by decide +kernel) (by decide +kernel)) hI102 (by show (S22_101.1 9).toInt ≤ 65534; first | with_reducible assumption | omega) (fun {S32_107} hI108 g109 r110 => ?_)
    have r111 : (S32_107.1 9).toInt = ((S22_101.1 9).toInt + 2) := r110
    clear r110
    have q112 : (0) ≤ (S32_107.1 9).toInt ∧ (S32_107.1 9).toInt ≤ (65536) := (show B 0 65536 (S32_107.1 9) from bf_9 hI108)
    refine ⟨fun yx1 yx2 yx3 yx4 yS => x1 = yx1 ∧ (S.2.1 14 (0 : Int32).toNatClampNeg) = yx2 ∧ s0_98 = yx3 ∧ B 0 2 yx4 ∧ IM yS ∧ ag [9] [8] S32_107 yS ∧ ((yS.1 9).toInt ≤ (6 + (65 * yx4.toInt))), fun yx1 yx2 yx3 yx4 yS => (2 - yx4.toInt).toNat, ⟨rfl, rfl, rfl, (B_w cqb_0_0_0 (by decide +kernel) (by decide +kernel)), hI108, (ag_refl (fs := [9]) (rs := [8]) (S := S32_107)), (by show (S32_107.1 9).toInt ≤ (6 + (65 * 0)); first | with_reducible assumption | omega)⟩, fun x1_113 x2_114 x3_115 x4_116 T117 hIv => ?_⟩
    obtain ⟨rfl, rfl, rfl, b118, hI119, g120, r121⟩ := hIv
    suffices hs : ∀ (R38 : Int32 → Int32 → Int32 → Int32 → ms → Prop), (∀ zx1 zx2 zx3 zx4 zS, (x1 = zx1 ∧ (S.2.1 14 (0 : Int32).toNatClampNeg) = zx2 ∧ s0_98 = zx3 ∧ B 0 2 zx4 ∧ IM zS ∧ ag [9] [8] S32_107 zS ∧ ((zS.1 9).toInt ≤ (6 + (65 * zx4.toInt)))) → (2 - zx4.toInt).toNat < (2 - x4_116.toInt).toNat → R38 zx1 zx2 zx3 zx4 zS) → b_putSections_38 x1 (S.2.1 14 (0 : Int32).toNatClampNeg) s0_98 x4_116 T117 R38 K from hs _ (fun _ _ _ _ _ h1 h2 => ⟨h1, h2⟩)
    intro R38 hR380
    have hR38 := fun {zx1} {zx2} {zx3} {zx4} {zS} => hR380 zx1 zx2 zx3 zx4 zS
    have q122 : (0) ≤ (T117.1 9).toInt ∧ (T117.1 9).toInt ≤ (65536) := (show B 0 65536 (T117.1 9) from bf_9 hI119)
    have q123 : (0) ≤ (x4_116).toInt ∧ (x4_116).toInt ≤ (2) := (show B 0 2 (x4_116) from B_w b118 (by decide +kernel) (by decide +kernel))
    unfold b_putSections_38
    refine ⟨fun hc => ?_, fun hc => ?_⟩
    · have hq124 := hc
      have b125 : B 1 2 (x4_116) := B_w (B_leR b99 b118 hq124) (by decide +kernel) (by decide +kernel)
      have q126 : (1) ≤ (x4_116).toInt ∧ (x4_116).toInt ≤ (2) := (show B 1 2 (x4_116) from B_w b125 (by decide +kernel) (by decide +kernel))
      have q127 : (1) ≤ (s0_98).toInt ∧ (s0_98).toInt ≤ (2) := (show B 1 2 (s0_98) from B_w b99 (by decide +kernel) (by decide +kernel))
      have i128 : (s0_98).toInt ≤ (x4_116).toInt := i_le hq124
      refine h_mark (B_w cqb_192_192_192 (by decide +kernel) (by decide +kernel)) hI119 (by show (T117.1 9).toInt ≤ 65534; first | with_reducible assumption | omega) (fun {S98_129} hI130 g131 r132 => ?_)
      have r133 : (S98_129.1 9).toInt = ((T117.1 9).toInt + 2) := r132
      clear r132
      have q134 : (0) ≤ (S98_129.1 9).toInt ∧ (S98_129.1 9).toInt ≤ (65536) := (show B 0 65536 (S98_129.1 9) from bf_9 hI130)
      refine h_putTwo (B_w (B_add cqb_8_8_8 (B_mul cqb_3_3_3 (show B 0 3 (S.2.1 14 (0 : Int32).toNatClampNeg) from br_14 hI _) (by decide +kernel) (by decide +kernel) (by decide +kernel)) (by decide +kernel) (by decide +kernel)) (by decide +kernel) (by decide +kernel)) hI130 (by show (S98_129.1 9).toInt ≤ 65534; first | with_reducible assumption | omega) (fun {S108_135} hI136 g137 r138 => ?_)
      have r139 : (S108_135.1 9).toInt = ((S98_129.1 9).toInt + 2) := r138
      clear r138
      have q140 : (0) ≤ (S108_135.1 9).toInt ∧ (S108_135.1 9).toInt ≤ (65536) := (show B 0 65536 (S108_135.1 9) from bf_9 hI136)
      refine h_put (B_w cqb_8_8_8 (by decide +kernel) (by decide +kernel)) hI136 (by show (S108_135.1 9).toInt ≤ 65535; first | with_reducible assumption | omega) (fun {S114_141} hI142 g143 r144 => ?_)
      have r145 : (S114_141.1 9).toInt = ((S108_135.1 9).toInt + 1) := r144
      clear r144
      have q146 : (0) ≤ (S114_141.1 9).toInt ∧ (S114_141.1 9).toInt ≤ (65536) := (show B 0 65536 (S114_141.1 9) from bf_9 hI142)
      refine h_putTwo (B_w (B_eq ((((((g143.1 2 rfl).trans (g137.1 2 rfl)).trans (g131.1 2 rfl)).trans (g120.1 2 rfl)).trans (g109.1 2 rfl)).trans (g103.1 2 rfl)) (show B 1 64 (S.1 2) from bf_2 hI)) (by decide +kernel) (by decide +kernel)) hI142 (by show (S114_141.1 9).toInt ≤ 65534; first | with_reducible assumption | omega) (fun {S122_147} hI148 g149 r150 => ?_)
      have r151 : (S122_147.1 9).toInt = ((S114_141.1 9).toInt + 2) := r150
      clear r150
      have q152 : (0) ≤ (S122_147.1 9).toInt ∧ (S122_147.1 9).toInt ≤ (65536) := (show B 0 65536 (S122_147.1 9) from bf_9 hI148)
      refine h_putTwo (B_w (B_eq (((((((g149.1 1 rfl).trans (g143.1 1 rfl)).trans (g137.1 1 rfl)).trans (g131.1 1 rfl)).trans (g120.1 1 rfl)).trans (g109.1 1 rfl)).trans (g103.1 1 rfl)) (show B 1 64 (S.1 1) from bf_1 hI)) (by decide +kernel) (by decide +kernel)) hI148 (by show (S122_147.1 9).toInt ≤ 65534; first | with_reducible assumption | omega) (fun {S130_153} hI154 g155 r156 => ?_)
      have r157 : (S130_153.1 9).toInt = ((S122_147.1 9).toInt + 2) := r156
      clear r156
      have q158 : (0) ≤ (S130_153.1 9).toInt ∧ (S130_153.1 9).toInt ≤ (65536) := (show B 0 65536 (S130_153.1 9) from bf_9 hI154)
      refine h_put (B_w (show B 0 3 (S.2.1 14 (0 : Int32).toNatClampNeg) from br_14 hI _) (by decide +kernel) (by decide +kernel)) hI154 (by show (S130_153.1 9).toInt ≤ 65535; first | with_reducible assumption | omega) (fun {S135_159} hI160 g161 r162 => ?_)
      have r163 : (S135_159.1 9).toInt = ((S130_153.1 9).toInt + 1) := r162
      clear r162
      have q164 : (0) ≤ (S135_159.1 9).toInt ∧ (S135_159.1 9).toInt ≤ (65536) := (show B 0 65536 (S135_159.1 9) from bf_9 hI160)
      refine ⟨fun yx1 yx2 yx3 yx4 yS => x1 = yx1 ∧ (S.2.1 14 (0 : Int32).toNatClampNeg) = yx2 ∧ s0_98 = yx3 ∧ B 0 3 yx4 ∧ IM yS ∧ ag [9] [8] S135_159 yS ∧ ((yS.1 9).toInt ≤ (146 + (3 * yx4.toInt))), fun yx1 yx2 yx3 yx4 yS => (3 - yx4.toInt).toNat, ⟨rfl, rfl, rfl, (B_w cqb_0_0_0 (by decide +kernel) (by decide +kernel)), hI160, (ag_refl (fs := [9]) (rs := [8]) (S := S135_159)), (by show (S135_159.1 9).toInt ≤ (146 + (3 * 0)); first | with_reducible assumption | omega)⟩, fun x1_165 x2_166 x3_167 x4_168 T169 hIv => ?_⟩
      obtain ⟨rfl, rfl, rfl, b170, hI171, g172, r173⟩ := hIv
      suffices hs : ∀ (R141 : Int32 → Int32 → Int32 → Int32 → ms → Prop), (∀ zx1 zx2 zx3 zx4 zS, (x1 = zx1 ∧ (S.2.1 14 (0 : Int32).toNatClampNeg) = zx2 ∧ s0_98 = zx3 ∧ B 0 3 zx4 ∧ IM zS ∧ ag [9] [8] S135_159 zS ∧ ((zS.1 9).toInt ≤ (146 + (3 * zx4.toInt)))) → (3 - zx4.toInt).toNat < (3 - x4_168.toInt).toNat → R141 zx1 zx2 zx3 zx4 zS) → b_putSections_141 x1 (S.2.1 14 (0 : Int32).toNatClampNeg) s0_98 x4_168 T169 R141 K from hs _ (fun _ _ _ _ _ h1 h2 => ⟨h1, h2⟩)
      intro R141 hR1410
      have hR141 := fun {zx1} {zx2} {zx3} {zx4} {zS} => hR1410 zx1 zx2 zx3 zx4 zS
      have q174 : (0) ≤ (T169.1 9).toInt ∧ (T169.1 9).toInt ≤ (65536) := (show B 0 65536 (T169.1 9) from bf_9 hI171)
      have q175 : (0) ≤ (x4_168).toInt ∧ (x4_168).toInt ≤ (3) := (show B 0 3 (x4_168) from B_w b170 (by decide +kernel) (by decide +kernel))
      unfold b_putSections_141
      refine ⟨fun hc => ?_, fun hc => ?_⟩
      · have hq176 := hc
        have i177 : (S.2.1 14 (0 : Int32).toNatClampNeg).toInt ≤ (x4_168).toInt := i_le hq176
        refine h_mark (B_w cqb_196_196_196 (by decide +kernel) (by decide +kernel)) hI171 (by show (T169.1 9).toInt ≤ 65534; first | with_reducible assumption | omega) (fun {S201_178} hI179 g180 r181 => ?_)
        have r182 : (S201_178.1 9).toInt = ((T169.1 9).toInt + 2) := r181
        clear r181
        have q183 : (0) ≤ (S201_178.1 9).toInt ∧ (S201_178.1 9).toInt ≤ (65536) := (show B 0 65536 (S201_178.1 9) from bf_9 hI179)
        refine ⟨fun yx1 yx2 yx3 yx4 yx5 yS => x1 = yx1 ∧ (S.2.1 14 (0 : Int32).toNatClampNeg) = yx2 ∧ s0_98 = yx3 ∧ B 2 1094 yx4 ∧ B 0 4 yx5 ∧ S201_178 = yS ∧ ((yS.1 9).toInt ≤ 157) ∧ (yx4.toInt ≤ (2 + (273 * yx5.toInt))), fun yx1 yx2 yx3 yx4 yx5 yS => (4 - yx5.toInt).toNat, ⟨rfl, rfl, rfl, (B_w cqb_2_2_2 (by decide +kernel) (by decide +kernel)), (B_w cqb_0_0_0 (by decide +kernel) (by decide +kernel)), rfl, (by show (S201_178.1 9).toInt ≤ 157; first | with_reducible assumption | omega), (by show 2 ≤ (2 + (273 * 0)); first | with_reducible assumption | omega)⟩, fun x1_184 x2_185 x3_186 x4_187 x5_188 T189 hIv => ?_⟩
        obtain ⟨rfl, rfl, rfl, b190, b191, rfl, r192, r193⟩ := hIv
        suffices hs : ∀ (R210 : Int32 → Int32 → Int32 → Int32 → Int32 → ms → Prop), (∀ zx1 zx2 zx3 zx4 zx5 zS, (x1 = zx1 ∧ (S.2.1 14 (0 : Int32).toNatClampNeg) = zx2 ∧ s0_98 = zx3 ∧ B 2 1094 zx4 ∧ B 0 4 zx5 ∧ S201_178 = zS ∧ ((zS.1 9).toInt ≤ 157) ∧ (zx4.toInt ≤ (2 + (273 * zx5.toInt)))) → (4 - zx5.toInt).toNat < (4 - x5_188.toInt).toNat → R210 zx1 zx2 zx3 zx4 zx5 zS) → b_putSections_210 x1 (S.2.1 14 (0 : Int32).toNatClampNeg) s0_98 x4_187 x5_188 S201_178 R210 K from hs _ (fun _ _ _ _ _ _ h1 h2 => ⟨h1, h2⟩)
        intro R210 hR2100
        have hR210 := fun {zx1} {zx2} {zx3} {zx4} {zx5} {zS} => hR2100 zx1 zx2 zx3 zx4 zx5 zS
        have q194 : (2) ≤ (x4_187).toInt ∧ (x4_187).toInt ≤ (1094) := (show B 2 1094 (x4_187) from B_w b190 (by decide +kernel) (by decide +kernel))
        have q195 : (0) ≤ (x5_188).toInt ∧ (x5_188).toInt ≤ (4) := (show B 0 4 (x5_188) from B_w b191 (by decide +kernel) (by decide +kernel))
        unfold b_putSections_210
        refine ⟨fun hc => ?_, fun hc => ?_⟩
        · have hq196 := hc
          have b197 : B 2 4 (x5_188) := B_w (B_leR (B_mul cqb_2_2_2 b99 (by decide +kernel) (by decide +kernel) (by decide +kernel)) b191 hq196) (by decide +kernel) (by decide +kernel)
          have q198 : (2) ≤ (x5_188).toInt ∧ (x5_188).toInt ≤ (4) := (show B 2 4 (x5_188) from B_w b197 (by decide +kernel) (by decide +kernel))
          have e199 : (2 * s0_98).toInt = (2 * (s0_98).toInt) := (t_mul cqb_2_2_2 b99 (by decide +kernel) (by decide +kernel) (by decide +kernel)).trans (by rw [cqn_2])
          have q200 : (2) ≤ (2 * s0_98).toInt ∧ (2 * s0_98).toInt ≤ (4) := (show B 2 4 (2 * s0_98) from B_w (B_mul cqb_2_2_2 b99 (by decide +kernel) (by decide +kernel) (by decide +kernel)) (by decide +kernel) (by decide +kernel))
          have i201 : (2 * s0_98).toInt ≤ (x5_188).toInt := i_le hq196
          refine h_putTwo (B_w b190 (by decide +kernel) (by decide +kernel)) hI179 (by show (S201_178.1 9).toInt ≤ 65534; first | with_reducible assumption | omega) (fun {S238_202} hI203 g204 r205 => ?_)
          have r206 : (S238_202.1 9).toInt = ((S201_178.1 9).toInt + 2) := r205
          clear r205
          have q207 : (0) ≤ (S238_202.1 9).toInt ∧ (S238_202.1 9).toInt ≤ (65536) := (show B 0 65536 (S238_202.1 9) from bf_9 hI203)
          refine ⟨fun yx1 yx2 yx3 yx5 yS => x1 = yx1 ∧ (S.2.1 14 (0 : Int32).toNatClampNeg) = yx2 ∧ s0_98 = yx3 ∧ B 0 4 yx5 ∧ IM yS ∧ ag [9] [8] S238_202 yS ∧ ((yS.1 9).toInt ≤ (159 + (273 * yx5.toInt))), fun yx1 yx2 yx3 yx5 yS => (4 - yx5.toInt).toNat, ⟨rfl, rfl, rfl, (B_w cqb_0_0_0 (by decide +kernel) (by decide +kernel)), hI203, (ag_refl (fs := [9]) (rs := [8]) (S := S238_202)), (by show (S238_202.1 9).toInt ≤ (159 + (273 * 0)); first | with_reducible assumption | omega)⟩, fun x1_208 x2_209 x3_210 x5_211 T212 hIv => ?_⟩
          obtain ⟨rfl, rfl, rfl, b213, hI214, g215, r216⟩ := hIv
          suffices hs : ∀ (R244 : Int32 → Int32 → Int32 → Int32 → ms → Prop), (∀ zx1 zx2 zx3 zx5 zS, (x1 = zx1 ∧ (S.2.1 14 (0 : Int32).toNatClampNeg) = zx2 ∧ s0_98 = zx3 ∧ B 0 4 zx5 ∧ IM zS ∧ ag [9] [8] S238_202 zS ∧ ((zS.1 9).toInt ≤ (159 + (273 * zx5.toInt)))) → (4 - zx5.toInt).toNat < (4 - x5_211.toInt).toNat → R244 zx1 zx2 zx3 zx5 zS) → b_putSections_244 x1 (S.2.1 14 (0 : Int32).toNatClampNeg) s0_98 x5_211 T212 R244 K from hs _ (fun _ _ _ _ _ h1 h2 => ⟨h1, h2⟩)
          intro R244 hR2440
          have hR244 := fun {zx1} {zx2} {zx3} {zx5} {zS} => hR2440 zx1 zx2 zx3 zx5 zS
          have q217 : (0) ≤ (T212.1 9).toInt ∧ (T212.1 9).toInt ≤ (65536) := (show B 0 65536 (T212.1 9) from bf_9 hI214)
          have q218 : (0) ≤ (x5_211).toInt ∧ (x5_211).toInt ≤ (4) := (show B 0 4 (x5_211) from B_w b213 (by decide +kernel) (by decide +kernel))
          unfold b_putSections_244
          refine ⟨fun hc => ?_, fun hc => ?_⟩
          · have hq219 := hc
            have b220 : B 2 4 (x5_211) := B_w (B_leR (B_mul cqb_2_2_2 b99 (by decide +kernel) (by decide +kernel) (by decide +kernel)) b213 hq219) (by decide +kernel) (by decide +kernel)
            have q221 : (2) ≤ (x5_211).toInt ∧ (x5_211).toInt ≤ (4) := (show B 2 4 (x5_211) from B_w b220 (by decide +kernel) (by decide +kernel))
            have i222 : (2 * s0_98).toInt ≤ (x5_211).toInt := i_le hq219
            refine ⟨fun hc => ?_, fun hc => ?_⟩
            · have hq223 := hc
              have b224 : B 0 0 (x1) := B_w (B_leL b_x1 cqb_0_0_0 hq223) (by decide +kernel) (by decide +kernel)
              have g237 := ag_tr (ag_refl (fs := [9]) (rs := [8]) (S := S)) g103 (by decide +kernel) (by decide +kernel)
              have g236 := ag_tr g237 g109 (by decide +kernel) (by decide +kernel)
              have g235 := ag_tr g236 g120 (by decide +kernel) (by decide +kernel)
              have g234 := ag_tr g235 g131 (by decide +kernel) (by decide +kernel)
              have g233 := ag_tr g234 g137 (by decide +kernel) (by decide +kernel)
              have g232 := ag_tr g233 g143 (by decide +kernel) (by decide +kernel)
              have g231 := ag_tr g232 g149 (by decide +kernel) (by decide +kernel)
              have g230 := ag_tr g231 g155 (by decide +kernel) (by decide +kernel)
              have g229 := ag_tr g230 g161 (by decide +kernel) (by decide +kernel)
              have g228 := ag_tr g229 g172 (by decide +kernel) (by decide +kernel)
              have g227 := ag_tr g228 g180 (by decide +kernel) (by decide +kernel)
              have g226 := ag_tr g227 g204 (by decide +kernel) (by decide +kernel)
              have g225 := ag_tr g226 g215 (by decide +kernel) (by decide +kernel)
              exact hj3 hI214 g225 (by show (T212.1 9).toInt ≤ 1257; first | with_reducible assumption | omega)
            · have hq238 := (nle_lt hc)
              have b239 : B 1 65535 (x1) := B_w (B_ltR cqb_0_0_0 b_x1 hq238) (by decide +kernel) (by decide +kernel)
              refine h_mark (B_w cqb_221_221_221 (by decide +kernel) (by decide +kernel)) hI214 (by show (T212.1 9).toInt ≤ 65534; first | with_reducible assumption | omega) (fun {S284_240} hI241 g242 r243 => ?_)
              have r244 : (S284_240.1 9).toInt = ((T212.1 9).toInt + 2) := r243
              clear r243
              have q245 : (0) ≤ (S284_240.1 9).toInt ∧ (S284_240.1 9).toInt ≤ (65536) := (show B 0 65536 (S284_240.1 9) from bf_9 hI241)
              refine h_putTwo (B_w cqb_4_4_4 (by decide +kernel) (by decide +kernel)) hI241 (by show (S284_240.1 9).toInt ≤ 65534; first | with_reducible assumption | omega) (fun {S289_246} hI247 g248 r249 => ?_)
              have r250 : (S289_246.1 9).toInt = ((S284_240.1 9).toInt + 2) := r249
              clear r249
              have q251 : (0) ≤ (S289_246.1 9).toInt ∧ (S289_246.1 9).toInt ≤ (65536) := (show B 0 65536 (S289_246.1 9) from bf_9 hI247)
              refine h_putTwo (B_w b239 (by decide +kernel) (by decide +kernel)) hI247 (by show (S289_246.1 9).toInt ≤ 65534; first | with_reducible assumption | omega) (fun {S294_252} hI253 g254 r255 => ?_)
              have r256 : (S294_252.1 9).toInt = ((S289_246.1 9).toInt + 2) := r255
              clear r255
              have q257 : (0) ≤ (S294_252.1 9).toInt ∧ (S294_252.1 9).toInt ≤ (65536) := (show B 0 65536 (S294_252.1 9) from bf_9 hI253)
              have g273 := ag_tr (ag_refl (fs := [9]) (rs := [8]) (S := S)) g103 (by decide +kernel) (by decide +kernel)
              have g272 := ag_tr g273 g109 (by decide +kernel) (by decide +kernel)
              have g271 := ag_tr g272 g120 (by decide +kernel) (by decide +kernel)
              have g270 := ag_tr g271 g131 (by decide +kernel) (by decide +kernel)
              have g269 := ag_tr g270 g137 (by decide +kernel) (by decide +kernel)
              have g268 := ag_tr g269 g143 (by decide +kernel) (by decide +kernel)
              have g267 := ag_tr g268 g149 (by decide +kernel) (by decide +kernel)
              have g266 := ag_tr g267 g155 (by decide +kernel) (by decide +kernel)
              have g265 := ag_tr g266 g161 (by decide +kernel) (by decide +kernel)
              have g264 := ag_tr g265 g172 (by decide +kernel) (by decide +kernel)
              have g263 := ag_tr g264 g180 (by decide +kernel) (by decide +kernel)
              have g262 := ag_tr g263 g204 (by decide +kernel) (by decide +kernel)
              have g261 := ag_tr g262 g215 (by decide +kernel) (by decide +kernel)
              have g260 := ag_tr g261 g242 (by decide +kernel) (by decide +kernel)
              have g259 := ag_tr g260 g248 (by decide +kernel) (by decide +kernel)
              have g258 := ag_tr g259 g254 (by decide +kernel) (by decide +kernel)
              exact hj3 hI253 g258 (by show (S294_252.1 9).toInt ≤ 1257; first | with_reducible assumption | omega)
          · have hq274 := (nle_lt hc)
            have b275 : B 0 3 (x5_211) := B_w (B_ltL b213 (B_mul cqb_2_2_2 b99 (by decide +kernel) (by decide +kernel) (by decide +kernel)) hq274) (by decide +kernel) (by decide +kernel)
            have q276 : (0) ≤ (x5_211).toInt ∧ (x5_211).toInt ≤ (3) := (show B 0 3 (x5_211) from B_w b275 (by decide +kernel) (by decide +kernel))
            have pr277 : (x5_211).toInt < (2 * s0_98).toInt := i_lt hq274
            have i278 : (x5_211).toInt < (2 * s0_98).toInt := i_lt hq274
            refine h_putCode b275 (B_w (B_add (B_mul cqb_16_16_16 (B_rem b275 cqb_2_2_2 (by decide +kernel) (by decide +kernel)) (by decide +kernel) (by decide +kernel) (by decide +kernel)) (show B 0 1 (x5_211 / 2) from B_w (dv_lt (x := x5_211) (w := 2) (h := s0_98) b275 cqb_2_2_2 b99 pr277 (by decide +kernel) (by decide +kernel) (by decide +kernel)) (by decide +kernel) (by decide +kernel)) (by decide +kernel) (by decide +kernel)) (by decide +kernel) (by decide +kernel)) hI214 (by show (T212.1 9).toInt ≤ 60000; first | with_reducible assumption | omega) (LZ_tr (S := S) (T := T212) pre1 (((((((((((((g215.2 27 rfl).trans (g204.2 27 rfl)).trans (g180.2 27 rfl)).trans (g172.2 27 rfl)).trans (g161.2 27 rfl)).trans (g155.2 27 rfl)).trans (g149.2 27 rfl)).trans (g143.2 27 rfl)).trans (g137.2 27 rfl)).trans (g131.2 27 rfl)).trans (g120.2 27 rfl)).trans (g109.2 27 rfl)).trans (g103.2 27 rfl))) (fun {S267_279} hI280 g281 r282 => ?_)
            have r283 : (S267_279.1 9).toInt ≤ ((T212.1 9).toInt + 273) := r282
            clear r282
            have q284 : (0) ≤ (S267_279.1 9).toInt ∧ (S267_279.1 9).toInt ≤ (65536) := (show B 0 65536 (S267_279.1 9) from bf_9 hI280)
            have g286 := ag_tr (ag_refl (fs := [9]) (rs := [8]) (S := S238_202)) g215 (by decide +kernel) (by decide +kernel)
            have g285 := ag_tr g286 g281 (by decide +kernel) (by decide +kernel)
            have e287 : (x5_211 + 1).toInt = ((x5_211).toInt + 1) := (t_add b275 cqb_1_1_1 (by decide +kernel) (by decide +kernel)).trans (by rw [cqn_1])
            have q288 : (1) ≤ (x5_211 + 1).toInt ∧ (x5_211 + 1).toInt ≤ (4) := (show B 1 4 (x5_211 + 1) from B_w (B_add b275 cqb_1_1_1 (by decide +kernel) (by decide +kernel)) (by decide +kernel) (by decide +kernel))
            exact hR244 ⟨rfl, rfl, rfl, (B_w (B_add b275 cqb_1_1_1 (by decide +kernel) (by decide +kernel)) (by decide +kernel) (by decide +kernel)), hI280, g285, (by show (S267_279.1 9).toInt ≤ (159 + (273 * (x5_211 + 1).toInt)); first | with_reducible assumption | omega)⟩ (by show (4 - (x5_211 + 1).toInt).toNat < (4 - x5_211.toInt).toNat; omega)
        · have hq289 := (nle_lt hc)
          have b290 : B 0 3 (x5_188) := B_w (B_ltL b191 (B_mul cqb_2_2_2 b99 (by decide +kernel) (by decide +kernel) (by decide +kernel)) hq289) (by decide +kernel) (by decide +kernel)
          have q291 : (0) ≤ (x5_188).toInt ∧ (x5_188).toInt ≤ (3) := (show B 0 3 (x5_188) from B_w b290 (by decide +kernel) (by decide +kernel))
          have pr292 : (x5_188).toInt < (2 * s0_98).toInt := i_lt hq289
          have e293 : (2 * s0_98).toInt = (2 * (s0_98).toInt) := (t_mul cqb_2_2_2 b99 (by decide +kernel) (by decide +kernel) (by decide +kernel)).trans (by rw [cqn_2])
          have q294 : (2) ≤ (2 * s0_98).toInt ∧ (2 * s0_98).toInt ≤ (4) := (show B 2 4 (2 * s0_98) from B_w (B_mul cqb_2_2_2 b99 (by decide +kernel) (by decide +kernel) (by decide +kernel)) (by decide +kernel) (by decide +kernel))
          have i295 : (x5_188).toInt < (2 * s0_98).toInt := i_lt hq289
          refine h_codeSize b290 hI179 (fun {v223_296} b298 => ?_)
          have q299 : (17) ≤ (v223_296).toInt ∧ (v223_296).toInt ≤ (273) := (show B 17 273 (v223_296) from B_w b298 (by decide +kernel) (by decide +kernel))
          have e300 : (x4_187 + v223_296).toInt = ((x4_187).toInt + (v223_296).toInt) := (t_add b190 b298 (by decide +kernel) (by decide +kernel)).trans (by rfl)
          have q301 : (19) ≤ (x4_187 + v223_296).toInt ∧ (x4_187 + v223_296).toInt ≤ (1367) := (show B 19 1367 (x4_187 + v223_296) from B_w (B_add b190 b298 (by decide +kernel) (by decide +kernel)) (by decide +kernel) (by decide +kernel))
          have e302 : (x5_188 + 1).toInt = ((x5_188).toInt + 1) := (t_add b290 cqb_1_1_1 (by decide +kernel) (by decide +kernel)).trans (by rw [cqn_1])
          have q303 : (1) ≤ (x5_188 + 1).toInt ∧ (x5_188 + 1).toInt ≤ (4) := (show B 1 4 (x5_188 + 1) from B_w (B_add b290 cqb_1_1_1 (by decide +kernel) (by decide +kernel)) (by decide +kernel) (by decide +kernel))
          exact hR210 ⟨rfl, rfl, rfl, (show B 2 1094 (x4_187 + v223_296) from ⟨by omega, by omega⟩), (B_w (B_add b290 cqb_1_1_1 (by decide +kernel) (by decide +kernel)) (by decide +kernel) (by decide +kernel)), rfl, (by show (S201_178.1 9).toInt ≤ 157; first | with_reducible assumption | omega), (by show (x4_187 + v223_296).toInt ≤ (2 + (273 * (x5_188 + 1).toInt)); first | with_reducible assumption | omega)⟩ (by show (4 - (x5_188 + 1).toInt).toNat < (4 - x5_188.toInt).toNat; omega)
      · have hq304 := (nle_lt hc)
        have b305 : B 0 2 (x4_168) := B_w (B_ltL b170 (show B 0 3 (S.2.1 14 (0 : Int32).toNatClampNeg) from br_14 hI _) hq304) (by decide +kernel) (by decide +kernel)
        have q306 : (0) ≤ (x4_168).toInt ∧ (x4_168).toInt ≤ (2) := (show B 0 2 (x4_168) from B_w b305 (by decide +kernel) (by decide +kernel))
        have b307 : B 1 3 (S.2.1 14 (0 : Int32).toNatClampNeg) := B_w (B_ltR b170 (show B 0 3 (S.2.1 14 (0 : Int32).toNatClampNeg) from br_14 hI _) hq304) (by decide +kernel) (by decide +kernel)
        have q308 : (1) ≤ (S.2.1 14 (0 : Int32).toNatClampNeg).toInt ∧ (S.2.1 14 (0 : Int32).toNatClampNeg).toInt ≤ (3) := (show B 1 3 (S.2.1 14 (0 : Int32).toNatClampNeg) from B_w b307 (by decide +kernel) (by decide +kernel))
        have i309 : (x4_168).toInt < (S.2.1 14 (0 : Int32).toNatClampNeg).toInt := i_lt hq304
        refine h_put (B_w (B_add b305 cqb_1_1_1 (by decide +kernel) (by decide +kernel)) (by decide +kernel) (by decide +kernel)) hI171 (by show (T169.1 9).toInt ≤ 65535; first | with_reducible assumption | omega) (fun {S152_310} hI311 g312 r313 => ?_)
        have r314 : (S152_310.1 9).toInt = ((T169.1 9).toInt + 1) := r313
        clear r313
        have q315 : (0) ≤ (S152_310.1 9).toInt ∧ (S152_310.1 9).toInt ≤ (65536) := (show B 0 65536 (S152_310.1 9) from bf_9 hI311)
        refine ⟨vp_B b305 (by decide +kernel) (by decide +kernel), ?_⟩
        refine ⟨vp_B b305 (by decide +kernel) (by decide +kernel), ?_⟩
        refine h_put (B_w (B_add (B_mul cqb_16_16_16 (B_eq (((((((((((congrFun (g312.2 15 rfl) x4_168.toNatClampNeg).trans (congrFun (g172.2 15 rfl) x4_168.toNatClampNeg)).trans (congrFun (g161.2 15 rfl) x4_168.toNatClampNeg)).trans (congrFun (g155.2 15 rfl) x4_168.toNatClampNeg)).trans (congrFun (g149.2 15 rfl) x4_168.toNatClampNeg)).trans (congrFun (g143.2 15 rfl) x4_168.toNatClampNeg)).trans (congrFun (g137.2 15 rfl) x4_168.toNatClampNeg)).trans (congrFun (g131.2 15 rfl) x4_168.toNatClampNeg)).trans (congrFun (g120.2 15 rfl) x4_168.toNatClampNeg)).trans (congrFun (g109.2 15 rfl) x4_168.toNatClampNeg)).trans (congrFun (g103.2 15 rfl) x4_168.toNatClampNeg)) (show B 0 15 (S.2.1 15 x4_168.toNatClampNeg) from br_15 hI _)) (by decide +kernel) (by decide +kernel) (by decide +kernel)) (B_eq (((((((((((congrFun (g312.2 16 rfl) x4_168.toNatClampNeg).trans (congrFun (g172.2 16 rfl) x4_168.toNatClampNeg)).trans (congrFun (g161.2 16 rfl) x4_168.toNatClampNeg)).trans (congrFun (g155.2 16 rfl) x4_168.toNatClampNeg)).trans (congrFun (g149.2 16 rfl) x4_168.toNatClampNeg)).trans (congrFun (g143.2 16 rfl) x4_168.toNatClampNeg)).trans (congrFun (g137.2 16 rfl) x4_168.toNatClampNeg)).trans (congrFun (g131.2 16 rfl) x4_168.toNatClampNeg)).trans (congrFun (g120.2 16 rfl) x4_168.toNatClampNeg)).trans (congrFun (g109.2 16 rfl) x4_168.toNatClampNeg)).trans (congrFun (g103.2 16 rfl) x4_168.toNatClampNeg)) (show B 0 15 (S.2.1 16 x4_168.toNatClampNeg) from br_16 hI _)) (by decide +kernel) (by decide +kernel)) (by decide +kernel) (by decide +kernel)) hI311 (by show (S152_310.1 9).toInt ≤ 65535; first | with_reducible assumption | omega) (fun {S174_316} hI317 g318 r319 => ?_)
        have r320 : (S174_316.1 9).toInt = ((S152_310.1 9).toInt + 1) := r319
        clear r319
        have q321 : (0) ≤ (S174_316.1 9).toInt ∧ (S174_316.1 9).toInt ≤ (65536) := (show B 0 65536 (S174_316.1 9) from bf_9 hI317)
        have hj322 : ∀ {s1_323 : Int32}, B 0 1 s1_323 → ((S174_316.1 9).toInt ≤ (148 + (3 * x4_168.toInt))) → b_putSections_188 x1 (S.2.1 14 (0 : Int32).toNatClampNeg) s0_98 x4_168 s1_323 S174_316 R141 K := by
          intro s1_323 b324 r325
          unfold b_putSections_188
          refine h_put (B_w b324 (by decide +kernel) (by decide +kernel)) hI317 (by show (S174_316.1 9).toInt ≤ 65535; first | with_reducible assumption | omega) (fun {S188_326} hI327 g328 r329 => ?_)
          have r330 : (S188_326.1 9).toInt = ((S174_316.1 9).toInt + 1) := r329
          clear r329
          have q331 : (0) ≤ (S188_326.1 9).toInt ∧ (S188_326.1 9).toInt ≤ (65536) := (show B 0 65536 (S188_326.1 9) from bf_9 hI327)
          have g335 := ag_tr (ag_refl (fs := [9]) (rs := [8]) (S := S135_159)) g172 (by decide +kernel) (by decide +kernel)
          have g334 := ag_tr g335 g312 (by decide +kernel) (by decide +kernel)
          have g333 := ag_tr g334 g318 (by decide +kernel) (by decide +kernel)
          have g332 := ag_tr g333 g328 (by decide +kernel) (by decide +kernel)
          have e336 : (x4_168 + 1).toInt = ((x4_168).toInt + 1) := (t_add b305 cqb_1_1_1 (by decide +kernel) (by decide +kernel)).trans (by rw [cqn_1])
          have q337 : (1) ≤ (x4_168 + 1).toInt ∧ (x4_168 + 1).toInt ≤ (3) := (show B 1 3 (x4_168 + 1) from B_w (B_add b305 cqb_1_1_1 (by decide +kernel) (by decide +kernel)) (by decide +kernel) (by decide +kernel))
          exact hR141 ⟨rfl, rfl, rfl, (B_w (B_add b305 cqb_1_1_1 (by decide +kernel) (by decide +kernel)) (by decide +kernel) (by decide +kernel)), hI327, g332, (by show (S188_326.1 9).toInt ≤ (146 + (3 * (x4_168 + 1).toInt)); first | with_reducible assumption | omega)⟩ (by show (3 - (x4_168 + 1).toInt).toNat < (3 - x4_168.toInt).toNat; omega)
        refine ⟨fun hc => ?_, fun hc => ?_⟩
        · have b338 : B 1 2 (x4_168) := B_w (B_n0 b305 hc) (by decide +kernel) (by decide +kernel)
          have q339 : (1) ≤ (x4_168).toInt ∧ (x4_168).toInt ≤ (2) := (show B 1 2 (x4_168) from B_w b338 (by decide +kernel) (by decide +kernel))
          exact hj322 (B_w cqb_1_1_1 (by decide +kernel) (by decide +kernel)) (by show (S174_316.1 9).toInt ≤ (148 + (3 * x4_168.toInt)); first | with_reducible assumption | omega)
        · have b340 : B 0 0 (x4_168) := B_w (B_eq hc cqb_0_0_0) (by decide +kernel) (by decide +kernel)
          have q341 : (0) ≤ (x4_168).toInt ∧ (x4_168).toInt ≤ (0) := (show B 0 0 (x4_168) from B_w b340 (by decide +kernel) (by decide +kernel))
          have i342 : (x4_168).toInt = (0 : Int32).toInt := congrArg Int32.toInt hc
          have n343 : (0 : Int32).toInt = 0 := cqn_0
          exact hj322 (B_w cqb_0_0_0 (by decide +kernel) (by decide +kernel)) (by show (S174_316.1 9).toInt ≤ (148 + (3 * x4_168.toInt)); first | with_reducible assumption | omega)
    · have hq344 := (nle_lt hc)
      have b345 : B 0 1 (x4_116) := B_w (B_ltL b118 b99 hq344) (by decide +kernel) (by decide +kernel)
      have q346 : (0) ≤ (x4_116).toInt ∧ (x4_116).toInt ≤ (1) := (show B 0 1 (x4_116) from B_w b345 (by decide +kernel) (by decide +kernel))
      have q347 : (1) ≤ (s0_98).toInt ∧ (s0_98).toInt ≤ (2) := (show B 1 2 (s0_98) from B_w b99 (by decide +kernel) (by decide +kernel))
      have i348 : (x4_116).toInt < (s0_98).toInt := i_lt hq344
      refine h_put (B_w b345 (by decide +kernel) (by decide +kernel)) hI119 (by show (T117.1 9).toInt ≤ 65535; first | with_reducible assumption | omega) (fun {S47_349} hI350 g351 r352 => ?_)
      have r353 : (S47_349.1 9).toInt = ((T117.1 9).toInt + 1) := r352
      clear r352
      have q354 : (0) ≤ (S47_349.1 9).toInt ∧ (S47_349.1 9).toInt ≤ (65536) := (show B 0 65536 (S47_349.1 9) from bf_9 hI350)
      refine ⟨fun yx1 yx2 yx3 yx4 yx5 yS => x1 = yx1 ∧ (S.2.1 14 (0 : Int32).toNatClampNeg) = yx2 ∧ s0_98 = yx3 ∧ x4_116 = yx4 ∧ B 0 64 yx5 ∧ IM yS ∧ ag [9] [8] S47_349 yS ∧ ((yS.1 9).toInt ≤ ((7 + (65 * yx4.toInt)) + yx5.toInt)), fun yx1 yx2 yx3 yx4 yx5 yS => (64 - yx5.toInt).toNat, ⟨rfl, rfl, rfl, rfl, (B_w cqb_0_0_0 (by decide +kernel) (by decide +kernel)), hI350, (ag_refl (fs := [9]) (rs := [8]) (S := S47_349)), (by show (S47_349.1 9).toInt ≤ ((7 + (65 * x4_116.toInt)) + 0); first | with_reducible assumption | omega)⟩, fun x1_355 x2_356 x3_357 x4_358 x5_359 T360 hIv => ?_⟩
      obtain ⟨rfl, rfl, rfl, rfl, b361, hI362, g363, r364⟩ := hIv
      suffices hs : ∀ (R53 : Int32 → Int32 → Int32 → Int32 → Int32 → ms → Prop), (∀ zx1 zx2 zx3 zx4 zx5 zS, (x1 = zx1 ∧ (S.2.1 14 (0 : Int32).toNatClampNeg) = zx2 ∧ s0_98 = zx3 ∧ x4_116 = zx4 ∧ B 0 64 zx5 ∧ IM zS ∧ ag [9] [8] S47_349 zS ∧ ((zS.1 9).toInt ≤ ((7 + (65 * zx4.toInt)) + zx5.toInt))) → (64 - zx5.toInt).toNat < (64 - x5_359.toInt).toNat → R53 zx1 zx2 zx3 zx4 zx5 zS) → b_putSections_53 x1 (S.2.1 14 (0 : Int32).toNatClampNeg) s0_98 x4_116 x5_359 T360 R38 R53 K from hs _ (fun _ _ _ _ _ _ h1 h2 => ⟨h1, h2⟩)
      intro R53 hR530
      have hR53 := fun {zx1} {zx2} {zx3} {zx4} {zx5} {zS} => hR530 zx1 zx2 zx3 zx4 zx5 zS
      have q365 : (0) ≤ (T360.1 9).toInt ∧ (T360.1 9).toInt ≤ (65536) := (show B 0 65536 (T360.1 9) from bf_9 hI362)
      have q366 : (0) ≤ (x5_359).toInt ∧ (x5_359).toInt ≤ (64) := (show B 0 64 (x5_359) from B_w b361 (by decide +kernel) (by decide +kernel))
      unfold b_putSections_53
      refine ⟨fun hc => ?_, fun hc => ?_⟩
      · have hq367 := hc
        have b368 : B 64 64 (x5_359) := B_w (B_leR cqb_64_64_64 b361 hq367) (by decide +kernel) (by decide +kernel)
        have q369 : (64) ≤ (x5_359).toInt ∧ (x5_359).toInt ≤ (64) := (show B 64 64 (x5_359) from B_w b368 (by decide +kernel) (by decide +kernel))
        have g372 := ag_tr (ag_refl (fs := [9]) (rs := [8]) (S := S32_107)) g120 (by decide +kernel) (by decide +kernel)
        have g371 := ag_tr g372 g351 (by decide +kernel) (by decide +kernel)
        have g370 := ag_tr g371 g363 (by decide +kernel) (by decide +kernel)
        have e373 : (x4_116 + 1).toInt = ((x4_116).toInt + 1) := (t_add b345 cqb_1_1_1 (by decide +kernel) (by decide +kernel)).trans (by rw [cqn_1])
        have q374 : (1) ≤ (x4_116 + 1).toInt ∧ (x4_116 + 1).toInt ≤ (2) := (show B 1 2 (x4_116 + 1) from B_w (B_add b345 cqb_1_1_1 (by decide +kernel) (by decide +kernel)) (by decide +kernel) (by decide +kernel))
        exact hR38 ⟨rfl, rfl, rfl, (B_w (B_add b345 cqb_1_1_1 (by decide +kernel) (by decide +kernel)) (by decide +kernel) (by decide +kernel)), hI362, g370, (by show (T360.1 9).toInt ≤ (6 + (65 * (x4_116 + 1).toInt)); first | with_reducible assumption | omega)⟩ (by show (2 - (x4_116 + 1).toInt).toNat < (2 - x4_116.toInt).toNat; omega)
      · have hq375 := (nle_lt hc)
        have b376 : B 0 63 (x5_359) := B_w (B_ltL b361 cqb_64_64_64 hq375) (by decide +kernel) (by decide +kernel)
        have q377 : (0) ≤ (x5_359).toInt ∧ (x5_359).toInt ≤ (63) := (show B 0 63 (x5_359) from B_w b376 (by decide +kernel) (by decide +kernel))
        refine ⟨vp_B b376 (by decide +kernel) (by decide +kernel), ?_⟩
        refine ⟨vp_B (B_add (B_mul cqb_64_64_64 b345 (by decide +kernel) (by decide +kernel) (by decide +kernel)) (B_eq (((((congrFun (g363.2 22 rfl) x5_359.toNatClampNeg).trans (congrFun (g351.2 22 rfl) x5_359.toNatClampNeg)).trans (congrFun (g120.2 22 rfl) x5_359.toNatClampNeg)).trans (congrFun (g109.2 22 rfl) x5_359.toNatClampNeg)).trans (congrFun (g103.2 22 rfl) x5_359.toNatClampNeg)) (show B 0 63 (S.2.1 22 x5_359.toNatClampNeg) from br_22 hI _)) (by decide +kernel) (by decide +kernel)) (by decide +kernel) (by decide +kernel), ?_⟩
        refine h_put (B_w (B_eq (((((congrFun (g363.2 5 rfl) ((64 * x4_116) + (T360.2.1 22 x5_359.toNatClampNeg)).toNatClampNeg).trans (congrFun (g351.2 5 rfl) ((64 * x4_116) + (T360.2.1 22 x5_359.toNatClampNeg)).toNatClampNeg)).trans (congrFun (g120.2 5 rfl) ((64 * x4_116) + (T360.2.1 22 x5_359.toNatClampNeg)).toNatClampNeg)).trans (congrFun (g109.2 5 rfl) ((64 * x4_116) + (T360.2.1 22 x5_359.toNatClampNeg)).toNatClampNeg)).trans (congrFun (g103.2 5 rfl) ((64 * x4_116) + (T360.2.1 22 x5_359.toNatClampNeg)).toNatClampNeg)) (show B 1 255 (S.2.1 5 ((64 * x4_116) + (T360.2.1 22 x5_359.toNatClampNeg)).toNatClampNeg) from br_5 hI (B_add (B_mul cqb_64_64_64 b345 (by decide +kernel) (by decide +kernel) (by decide +kernel)) (B_eq (((((congrFun (g363.2 22 rfl) x5_359.toNatClampNeg).trans (congrFun (g351.2 22 rfl) x5_359.toNatClampNeg)).trans (congrFun (g120.2 22 rfl) x5_359.toNatClampNeg)).trans (congrFun (g109.2 22 rfl) x5_359.toNatClampNeg)).trans (congrFun (g103.2 22 rfl) x5_359.toNatClampNeg)) (show B 0 63 (S.2.1 22 x5_359.toNatClampNeg) from br_22 hI _)) (by decide +kernel) (by decide +kernel)) (by decide +kernel) (by decide +kernel))) (by decide +kernel) (by decide +kernel)) hI362 (by show (T360.1 9).toInt ≤ 65535; first | with_reducible assumption | omega) (fun {S79_378} hI379 g380 r381 => ?_)
        have r382 : (S79_378.1 9).toInt = ((T360.1 9).toInt + 1) := r381
        clear r381
        have q383 : (0) ≤ (S79_378.1 9).toInt ∧ (S79_378.1 9).toInt ≤ (65536) := (show B 0 65536 (S79_378.1 9) from bf_9 hI379)
        have g385 := ag_tr (ag_refl (fs := [9]) (rs := [8]) (S := S47_349)) g363 (by decide +kernel) (by decide +kernel)
        have g384 := ag_tr g385 g380 (by decide +kernel) (by decide +kernel)
        have e386 : (x5_359 + 1).toInt = ((x5_359).toInt + 1) := (t_add b376 cqb_1_1_1 (by decide +kernel) (by decide +kernel)).trans (by rw [cqn_1])
        have q387 : (1) ≤ (x5_359 + 1).toInt ∧ (x5_359 + 1).toInt ≤ (64) := (show B 1 64 (x5_359 + 1) from B_w (B_add b376 cqb_1_1_1 (by decide +kernel) (by decide +kernel)) (by decide +kernel) (by decide +kernel))
        exact hR53 ⟨rfl, rfl, rfl, rfl, (B_w (B_add b376 cqb_1_1_1 (by decide +kernel) (by decide +kernel)) (by decide +kernel) (by decide +kernel)), hI379, g384, (by show (S79_378.1 9).toInt ≤ ((7 + (65 * x4_116.toInt)) + (x5_359 + 1).toInt); first | with_reducible assumption | omega)⟩ (by show (64 - (x5_359 + 1).toInt).toNat < (64 - x5_359.toInt).toNat; omega)
  refine ⟨fun hc => ?_, fun hc => ?_⟩
  · have i388 : (S.2.1 14 (0 : Int32).toNatClampNeg).toInt ≠ (1 : Int32).toInt := i_ne hc
    have n389 : (1 : Int32).toInt = 1 := cqn_1
    exact hj97 (B_w cqb_2_2_2 (by decide +kernel) (by decide +kernel)) (by show (S.1 9).toInt ≤ 2; first | with_reducible assumption | omega)
  · have b390 : B 1 1 (S.2.1 14 (0 : Int32).toNatClampNeg) := B_w (B_eq hc cqb_1_1_1) (by decide +kernel) (by decide +kernel)
    have q391 : (1) ≤ (S.2.1 14 (0 : Int32).toNatClampNeg).toInt ∧ (S.2.1 14 (0 : Int32).toNatClampNeg).toInt ≤ (1) := (show B 1 1 (S.2.1 14 (0 : Int32).toNatClampNeg) from B_w b390 (by decide +kernel) (by decide +kernel))
    have i392 : (S.2.1 14 (0 : Int32).toNatClampNeg).toInt = (1 : Int32).toInt := congrArg Int32.toInt hc
    have n393 : (1 : Int32).toInt = 1 := cqn_1
    exact hj97 (B_w cqb_1_1_1 (by decide +kernel) (by decide +kernel)) (by show (S.1 9).toInt ≤ 2; first | with_reducible assumption | omega)
