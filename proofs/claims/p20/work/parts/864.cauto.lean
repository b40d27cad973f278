set_option maxRecDepth 20000 in
set_option maxHeartbeats 4000000 in
theorem h_Sc_addLayer_u22 {a : Bool} {b : Bool} {P : Nat → Nat → Nat} {x1 : Int32} {x2 : Int32} {x3 : Int32} {F : cF} {L : cL} {K : cs → Prop} (b_x1 : B 0 2 x1) (b_x2 : B 0 3 x2) (b_x3 : B 0 3 x3) (hI : IMc F) (pre0 : qf (F 23) 0 (F 22 0).toInt 0 ((F 12 2).toInt - 1)) (pre1 : x1.toInt < (F 12 2).toInt) (hK : ∀ {Z : cF} {LZ : cL}, IMc Z → agc [2200] [23, 24, 25] F Z → (qf (Z 23) 0 (Z 22 0).toInt 0 ((Z 12 2).toInt - 1)) → K (Z, LZ, PC a b P)) : p_Sc_addLayer UL 22 x1 x2 x3 (F, L, PC a b P) K := by
  have q1 : (0) ≤ (F 22 0).toInt ∧ (F 22 0).toInt ≤ (3) := (show B 0 3 (F 22 0) from hI 22 0)
  have q2 : (0) ≤ (x1).toInt ∧ (x1).toInt ≤ (2) := (show B 0 2 (x1) from B_w b_x1 (by decide +kernel) (by decide +kernel))
  have q3 : (1) ≤ (F 12 2).toInt ∧ (F 12 2).toInt ≤ (3) := (show B 1 3 (F 12 2) from hI 12 2)
  unfold p_Sc_addLayer
  refine ⟨fun hc => ?_, fun hc => ?_⟩
  · have hq4 := hc
    have b5 : B 3 3 (F 22 0) := B_w (B_leR cqb_3_3_3 (show B 0 3 (F 22 0) from hI 22 0) hq4) (by decide +kernel) (by decide +kernel)
    have q6 : (3) ≤ (F 22 0).toInt ∧ (F 22 0).toInt ≤ (3) := (show B 3 3 (F 22 0) from B_w b5 (by decide +kernel) (by decide +kernel))
    unfold b_Sc_addLayer_42
    exact hK hI (agc_refl (fs := [2200]) (rs := [23, 24, 25]) (F := F)) (qf_le (b' := (F 22 0).toInt) (lo' := 0) (hi' := (F 12 2).toInt - 1) pre0 (by omega) (by omega) (by omega))
  · have hq7 := (nle_lt hc)
    have b8 : B 0 2 (F 22 0) := B_w (B_ltL (show B 0 3 (F 22 0) from hI 22 0) cqb_3_3_3 hq7) (by decide +kernel) (by decide +kernel)
    have q9 : (0) ≤ (F 22 0).toInt ∧ (F 22 0).toInt ≤ (2) := (show B 0 2 (F 22 0) from B_w b8 (by decide +kernel) (by decide +kernel))
    refine ⟨(show ¬ ((23 : Nat) = NU) from by decide +kernel), ?_⟩
    refine ⟨(show c_cl UL 23 = 902 from cl_23), ?_⟩
    refine ⟨(show vp_in (F 22 0) 3 from vp_B b8 (by decide +kernel) (by decide +kernel)), ?_⟩
    refine ⟨(show ¬ ((24 : Nat) = NU) from by decide +kernel), ?_⟩
    refine ⟨(show c_cl UL 24 = 902 from cl_24), ?_⟩
    refine ⟨(show vp_in (x1) 3 from vp_B b_x1 (by decide +kernel) (by decide +kernel)), ?_⟩
    refine ⟨(show ¬ ((25 : Nat) = NU) from by decide +kernel), ?_⟩
    refine ⟨(show c_cl UL 25 = 902 from cl_25), ?_⟩
    refine ⟨(show vp_in (x1) 3 from vp_B b_x1 (by decide +kernel) (by decide +kernel)), ?_⟩
    unfold b_Sc_addLayer_42
    have hI10 := IMc_u (u := 23) (i := (F 22 0).toNatClampNeg) (v := x1) hI (show B 0 2 (x1) from (B_w b_x1 (by decide +kernel) (by decide +kernel)))
    have hI11 := IMc_u (u := 24) (i := x1.toNatClampNeg) (v := x2) hI10 (show B 0 3 (x2) from (B_w b_x2 (by decide +kernel) (by decide +kernel)))
    have hI12 := IMc_u (u := 25) (i := x1.toNatClampNeg) (v := x3) hI11 (show B 0 3 (x3) from (B_w b_x3 (by decide +kernel) (by decide +kernel)))
    have hI13 := IMc_u (u := 22) (i := 0) (v := (F 22 0) + 1) hI12 (show B 0 3 ((F 22 0) + 1) from (B_w (B_add b8 cqb_1_1_1 (by decide +kernel) (by decide +kernel)) (by decide +kernel) (by decide +kernel)))
    have g17 := agc_r (u := 23) (w := upd (F 23) (F 22 0).toNatClampNeg x1) (agc_refl (fs := [2200]) (rs := [23, 24, 25]) (F := F)) rfl (by decide +kernel)
    have g16 := agc_r (u := 24) (w := upd (F 24) x1.toNatClampNeg x2) g17 rfl (by decide +kernel)
    have g15 := agc_r (u := 25) (w := upd (F 25) x1.toNatClampNeg x3) g16 rfl (by decide +kernel)
    have g14 := agc_f (u := 22) (k := 0) (v := (F 22 0) + 1) g15 rfl (by decide +kernel)
    have e18 : ((F 22 0) + 1).toInt = ((F 22 0).toInt + 1) := (t_add b8 cqb_1_1_1 (by decide +kernel) (by decide +kernel)).trans (by rw [cqn_1])
    have q19 : (1) ≤ ((F 22 0) + 1).toInt ∧ ((F 22 0) + 1).toInt ≤ (3) := (show B 1 3 ((F 22 0) + 1) from B_w (B_add b8 cqb_1_1_1 (by decide +kernel) (by decide +kernel)) (by decide +kernel) (by decide +kernel))
    exact hK hI13 g14 (qf_le (b' := ((F 22 0) + 1).toInt) (lo' := 0) (hi' := (F 12 2).toInt - 1) (qf_ext (x := F 22 0) (b' := ((F 22 0) + 1).toInt) (qf_le (b' := (F 22 0).toInt) (lo' := 0) (hi' := (F 12 2).toInt - 1) pre0 (by omega) (by omega) (by omega)) (fun _ => ⟨by omega, by omega⟩) (by omega) (by omega) (by omega)) (by omega) (by omega) (by omega))
set_option maxRecDepth 20000 in
set_option maxHeartbeats 4000000 in
theorem h_Sc_blocksTogether_u22_x112 {a : Bool} {b : Bool} {P : Nat → Nat → Nat} {F : cF} {L : cL} {K : Int32 → cs → Prop} (hI : IMc F) (hK : ∀ {v : Int32}, B 0 12 v → K v (F, L, PC a b P)) : p_Sc_blocksTogether UL 22 12 (F, L, PC a b P) K := by
  unfold p_Sc_blocksTogether
  refine ⟨fun yx1 yx2 yx3 yS => (12 : Nat) = yx1 ∧ B 0 12 yx2 ∧ B 0 3 yx3 ∧ (F, L, PC a b P) = yS ∧ (yx2.toInt ≤ (4 * yx3.toInt)), fun yx1 yx2 yx3 yS => (3 - yx3.toInt).toNat, ⟨rfl, (B_w cqb_0_0_0 (by decide +kernel) (by decide +kernel)), (B_w cqb_0_0_0 (by decide +kernel) (by decide +kernel)), rfl, (by show 0 ≤ (4 * 0); first | with_reducible assumption | omega)⟩, fun x1_1 x2_2 x3_3 ST4 hIv => ?_⟩
  obtain ⟨rfl, b5, b6, rfl, r7⟩ := hIv
  suffices hs : ∀ (R4 : Nat → Int32 → Int32 → cs → Prop), (∀ zx1 zx2 zx3 zS, ((12 : Nat) = zx1 ∧ B 0 12 zx2 ∧ B 0 3 zx3 ∧ (F, L, PC a b P) = zS ∧ (zx2.toInt ≤ (4 * zx3.toInt))) → (3 - zx3.toInt).toNat < (3 - x3_3.toInt).toNat → R4 zx1 zx2 zx3 zS) → b_Sc_blocksTogether_4 UL 22 12 x2_2 x3_3 (F, L, PC a b P) R4 K from hs _ (fun _ _ _ _ h1 h2 => ⟨h1, h2⟩)
  intro R4 hR40
  have hR4 := fun {zx1} {zx2} {zx3} {zS} => hR40 zx1 zx2 zx3 zS
  have q8 : (0) ≤ (x2_2).toInt ∧ (x2_2).toInt ≤ (12) := (show B 0 12 (x2_2) from B_w b5 (by decide +kernel) (by decide +kernel))
  have q9 : (0) ≤ (x3_3).toInt ∧ (x3_3).toInt ≤ (3) := (show B 0 3 (x3_3) from B_w b6 (by decide +kernel) (by decide +kernel))
  unfold b_Sc_blocksTogether_4
  refine ⟨fun hc => ?_, fun hc => ?_⟩
  · have hq10 := hc
    have q11 : (0) ≤ (F 22 0).toInt ∧ (F 22 0).toInt ≤ (3) := (show B 0 3 (F 22 0) from hI 22 0)
    have i12 : (F 22 0).toInt ≤ (x3_3).toInt := i_le hq10
    exact hK b5
  · have hq13 := (nle_lt hc)
    have b14 : B 0 2 (x3_3) := B_w (B_ltL b6 (show B 0 3 (F 22 0) from hI 22 0) hq13) (by decide +kernel) (by decide +kernel)
    have q15 : (0) ≤ (x3_3).toInt ∧ (x3_3).toInt ≤ (2) := (show B 0 2 (x3_3) from B_w b14 (by decide +kernel) (by decide +kernel))
    have b16 : B 1 3 (F 22 0) := B_w (B_ltR b6 (show B 0 3 (F 22 0) from hI 22 0) hq13) (by decide +kernel) (by decide +kernel)
    have q17 : (1) ≤ (F 22 0).toInt ∧ (F 22 0).toInt ≤ (3) := (show B 1 3 (F 22 0) from B_w b16 (by decide +kernel) (by decide +kernel))
    have i18 : (x3_3).toInt < (F 22 0).toInt := i_lt hq13
    refine ⟨(show c_cl UL 12 = 7 from cl_12), ?_⟩
    refine ⟨(show ¬ ((13 : Nat) = NU) from by decide +kernel), ?_⟩
    refine ⟨(show ¬ ((23 : Nat) = NU) from by decide +kernel), ?_⟩
    refine ⟨(show c_cl UL 23 = 902 from cl_23), ?_⟩
    refine ⟨(show vp_in (x3_3) 3 from vp_B b14 (by decide +kernel) (by decide +kernel)), ?_⟩
    refine ⟨(show c_cl UL 13 = 902 from cl_13), ?_⟩
    refine ⟨(show vp_in (F 23 x3_3.toNatClampNeg) 3 from vp_B (show B 0 2 (F 23 x3_3.toNatClampNeg) from hI 23 x3_3.toNatClampNeg) (by decide +kernel) (by decide +kernel)), ?_⟩
    refine ⟨(show ¬ ((14 : Nat) = NU) from by decide +kernel), ?_⟩
    refine ⟨(show ¬ ((23 : Nat) = NU) from by decide +kernel), ?_⟩
    refine ⟨(show vp_in (x3_3) 3 from vp_B b14 (by decide +kernel) (by decide +kernel)), ?_⟩
    refine ⟨(show c_cl UL 14 = 902 from cl_14), ?_⟩
    refine ⟨(show vp_in (F 23 x3_3.toNatClampNeg) 3 from vp_B (show B 0 2 (F 23 x3_3.toNatClampNeg) from hI 23 x3_3.toNatClampNeg) (by decide +kernel) (by decide +kernel)), ?_⟩
    have q19 : (1) ≤ (F 13 (F 23 x3_3.toNatClampNeg).toNatClampNeg).toInt ∧ (F 13 (F 23 x3_3.toNatClampNeg).toNatClampNeg).toInt ≤ (2) := (show B 1 2 (F 13 (F 23 x3_3.toNatClampNeg).toNatClampNeg) from sB_13 hI (show B 0 2 (F 23 x3_3.toNatClampNeg) from hI 23 x3_3.toNatClampNeg) (by decide +kernel) (by decide +kernel))
    have q20 : (1) ≤ (F 14 (F 23 x3_3.toNatClampNeg).toNatClampNeg).toInt ∧ (F 14 (F 23 x3_3.toNatClampNeg).toNatClampNeg).toInt ≤ (2) := (show B 1 2 (F 14 (F 23 x3_3.toNatClampNeg).toNatClampNeg) from sB_14 hI (show B 0 2 (F 23 x3_3.toNatClampNeg) from hI 23 x3_3.toNatClampNeg) (by decide +kernel) (by decide +kernel))
    have e21 : ((F 13 (F 23 x3_3.toNatClampNeg).toNatClampNeg) * (F 14 (F 23 x3_3.toNatClampNeg).toNatClampNeg)).toInt = ((F 13 (F 23 x3_3.toNatClampNeg).toNatClampNeg).toInt * (F 14 (F 23 x3_3.toNatClampNeg).toNatClampNeg).toInt) := (t_mul (show B 1 2 (F 13 (F 23 x3_3.toNatClampNeg).toNatClampNeg) from sB_13 hI (show B 0 2 (F 23 x3_3.toNatClampNeg) from hI 23 x3_3.toNatClampNeg) (by decide +kernel) (by decide +kernel)) (show B 1 2 (F 14 (F 23 x3_3.toNatClampNeg).toNatClampNeg) from sB_14 hI (show B 0 2 (F 23 x3_3.toNatClampNeg) from hI 23 x3_3.toNatClampNeg) (by decide +kernel) (by decide +kernel)) (by decide +kernel) (by decide +kernel) (by decide +kernel)).trans (by rfl)
    have q22 : (1) ≤ ((F 13 (F 23 x3_3.toNatClampNeg).toNatClampNeg) * (F 14 (F 23 x3_3.toNatClampNeg).toNatClampNeg)).toInt ∧ ((F 13 (F 23 x3_3.toNatClampNeg).toNatClampNeg) * (F 14 (F 23 x3_3.toNatClampNeg).toNatClampNeg)).toInt ≤ (4) := (show B 1 4 ((F 13 (F 23 x3_3.toNatClampNeg).toNatClampNeg) * (F 14 (F 23 x3_3.toNatClampNeg).toNatClampNeg)) from B_w (B_mul (show B 1 2 (F 13 (F 23 x3_3.toNatClampNeg).toNatClampNeg) from sB_13 hI (show B 0 2 (F 23 x3_3.toNatClampNeg) from hI 23 x3_3.toNatClampNeg) (by decide +kernel) (by decide +kernel)) (show B 1 2 (F 14 (F 23 x3_3.toNatClampNeg).toNatClampNeg) from sB_14 hI (show B 0 2 (F 23 x3_3.toNatClampNeg) from hI 23 x3_3.toNatClampNeg) (by decide +kernel) (by decide +kernel)) (by decide +kernel) (by decide +kernel) (by decide +kernel)) (by decide +kernel) (by decide +kernel))
    have e23 : (x2_2 + ((F 13 (F 23 x3_3.toNatClampNeg).toNatClampNeg) * (F 14 (F 23 x3_3.toNatClampNeg).toNatClampNeg))).toInt = ((x2_2).toInt + ((F 13 (F 23 x3_3.toNatClampNeg).toNatClampNeg).toInt * (F 14 (F 23 x3_3.toNatClampNeg).toNatClampNeg).toInt)) := (t_add b5 (B_mul (show B 1 2 (F 13 (F 23 x3_3.toNatClampNeg).toNatClampNeg) from sB_13 hI (show B 0 2 (F 23 x3_3.toNatClampNeg) from hI 23 x3_3.toNatClampNeg) (by decide +kernel) (by decide +kernel)) (show B 1 2 (F 14 (F 23 x3_3.toNatClampNeg).toNatClampNeg) from sB_14 hI (show B 0 2 (F 23 x3_3.toNatClampNeg) from hI 23 x3_3.toNatClampNeg) (by decide +kernel) (by decide +kernel)) (by decide +kernel) (by decide +kernel) (by decide +kernel)) (by decide +kernel) (by decide +kernel)).trans (by rw [e21])
    have q24 : (1) ≤ (x2_2 + ((F 13 (F 23 x3_3.toNatClampNeg).toNatClampNeg) * (F 14 (F 23 x3_3.toNatClampNeg).toNatClampNeg))).toInt ∧ (x2_2 + ((F 13 (F 23 x3_3.toNatClampNeg).toNatClampNeg) * (F 14 (F 23 x3_3.toNatClampNeg).toNatClampNeg))).toInt ≤ (16) := (show B 1 16 (x2_2 + ((F 13 (F 23 x3_3.toNatClampNeg).toNatClampNeg) * (F 14 (F 23 x3_3.toNatClampNeg).toNatClampNeg))) from B_w (B_add b5 (B_mul (show B 1 2 (F 13 (F 23 x3_3.toNatClampNeg).toNatClampNeg) from sB_13 hI (show B 0 2 (F 23 x3_3.toNatClampNeg) from hI 23 x3_3.toNatClampNeg) (by decide +kernel) (by decide +kernel)) (show B 1 2 (F 14 (F 23 x3_3.toNatClampNeg).toNatClampNeg) from sB_14 hI (show B 0 2 (F 23 x3_3.toNatClampNeg) from hI 23 x3_3.toNatClampNeg) (by decide +kernel) (by decide +kernel)) (by decide +kernel) (by decide +kernel) (by decide +kernel)) (by decide +kernel) (by decide +kernel)) (by decide +kernel) (by decide +kernel))
    have e25 : (x3_3 + 1).toInt = ((x3_3).toInt + 1) := (t_add b14 cqb_1_1_1 (by decide +kernel) (by decide +kernel)).trans (by rw [cqn_1])
    have q26 : (1) ≤ (x3_3 + 1).toInt ∧ (x3_3 + 1).toInt ≤ (3) := (show B 1 3 (x3_3 + 1) from B_w (B_add b14 cqb_1_1_1 (by decide +kernel) (by decide +kernel)) (by decide +kernel) (by decide +kernel))
    exact hR4 ⟨rfl, (show B 0 12 (x2_2 + ((F 13 (F 23 x3_3.toNatClampNeg).toNatClampNeg) * (F 14 (F 23 x3_3.toNatClampNeg).toNatClampNeg))) from ⟨by omega, by omega⟩), (B_w (B_add b14 cqb_1_1_1 (by decide +kernel) (by decide +kernel)) (by decide +kernel) (by decide +kernel)), rfl, (by show (x2_2 + ((F 13 (F 23 x3_3.toNatClampNeg).toNatClampNeg) * (F 14 (F 23 x3_3.toNatClampNeg).toNatClampNeg))).toInt ≤ (4 * (x3_3 + 1).toInt); first | with_reducible assumption | omega)⟩ (by show (3 - (x3_3 + 1).toInt).toNat < (3 - x3_3.toInt).toNat; omega)
set_option maxRecDepth 20000 in
set_option maxHeartbeats 4000000 in
theorem h_Sc_addBlock_u22 {a : Bool} {b : Bool} {P : Nat → Nat → Nat} {x1 : Int32} {x2 : Int32} {F : cF} {L : cL} {K : cs → Prop} (b_x1 : B 0 2 x1) (b_x2 : B 0 63 x2) (hI : IMc F) (pre0 : qf (F 26) 0 (F 22 6).toInt 0 ((64 * (F 12 2).toInt) - 1)) (pre1 : x1.toInt < (F 12 2).toInt) (hK : ∀ {Z : cF} {LZ : cL}, IMc Z → agc [2206] [26] F Z → (qf (Z 26) 0 (Z 22 6).toInt 0 ((64 * (Z 12 2).toInt) - 1)) → K (Z, LZ, PC a b P)) : p_Sc_addBlock UL 22 x1 x2 (F, L, PC a b P) K := by
  have q1 : (0) ≤ (F 22 6).toInt ∧ (F 22 6).toInt ≤ (192) := (show B 0 192 (F 22 6) from hI 22 6)
  have q2 : (0) ≤ (x1).toInt ∧ (x1).toInt ≤ (2) := (show B 0 2 (x1) from B_w b_x1 (by decide +kernel) (by decide +kernel))
  have q3 : (1) ≤ (F 12 2).toInt ∧ (F 12 2).toInt ≤ (3) := (show B 1 3 (F 12 2) from hI 12 2)
  unfold p_Sc_addBlock
  refine ⟨(show ¬ ((26 : Nat) = NU) from by decide +kernel), ?_⟩
  refine ⟨(show c_cl UL 26 = 902 from cl_26), ?_⟩
  refine ⟨fun hc => ?_, fun hc => ?_⟩
  · have hq4 := hc
    have b5 : B 192 192 (F 22 6) := B_w (B_leR cqb_192_192_192 (show B 0 192 (F 22 6) from hI 22 6) hq4) (by decide +kernel) (by decide +kernel)
    have q6 : (192) ≤ (F 22 6).toInt ∧ (F 22 6).toInt ≤ (192) := (show B 192 192 (F 22 6) from B_w b5 (by decide +kernel) (by decide +kernel))
    unfold b_Sc_addBlock_37
    exact hK hI (agc_refl (fs := [2206]) (rs := [26]) (F := F)) (qf_le (b' := (F 22 6).toInt) (lo' := 0) (hi' := (64 * (F 12 2).toInt) - 1) pre0 (by omega) (by omega) (by omega))
  · have hq7 := (nle_lt hc)
    have b8 : B 0 191 (F 22 6) := B_w (B_ltL (show B 0 192 (F 22 6) from hI 22 6) cqb_192_192_192 hq7) (by decide +kernel) (by decide +kernel)
    have q9 : (0) ≤ (F 22 6).toInt ∧ (F 22 6).toInt ≤ (191) := (show B 0 191 (F 22 6) from B_w b8 (by decide +kernel) (by decide +kernel))
    refine ⟨(show ¬ ((26 : Nat) = NU) from by decide +kernel), ?_⟩
    refine ⟨(show vp_in (F 22 6) 192 from vp_B b8 (by decide +kernel) (by decide +kernel)), ?_⟩
    unfold b_Sc_addBlock_37
    have hI10 := IMc_u (u := 26) (i := (F 22 6).toNatClampNeg) (v := (64 * x1) + x2) hI (show B 0 191 ((64 * x1) + x2) from (B_w (B_add (B_mul cqb_64_64_64 b_x1 (by decide +kernel) (by decide +kernel) (by decide +kernel)) b_x2 (by decide +kernel) (by decide +kernel)) (by decide +kernel) (by decide +kernel)))
    have hI11 := IMc_u (u := 22) (i := 6) (v := (F 22 6) + 1) hI10 (show B 0 192 ((F 22 6) + 1) from (B_w (B_add b8 cqb_1_1_1 (by decide +kernel) (by decide +kernel)) (by decide +kernel) (by decide +kernel)))
    have g13 := agc_r (u := 26) (w := upd (F 26) (F 22 6).toNatClampNeg ((64 * x1) + x2)) (agc_refl (fs := [2206]) (rs := [26]) (F := F)) rfl (by decide +kernel)
    have g12 := agc_f (u := 22) (k := 6) (v := (F 22 6) + 1) g13 rfl (by decide +kernel)
    have e14 : ((F 22 6) + 1).toInt = ((F 22 6).toInt + 1) := (t_add b8 cqb_1_1_1 (by decide +kernel) (by decide +kernel)).trans (by rw [cqn_1])
    have q15 : (1) ≤ ((F 22 6) + 1).toInt ∧ ((F 22 6) + 1).toInt ≤ (192) := (show B 1 192 ((F 22 6) + 1) from B_w (B_add b8 cqb_1_1_1 (by decide +kernel) (by decide +kernel)) (by decide +kernel) (by decide +kernel))
    have e16 : (64 * x1).toInt = (64 * (x1).toInt) := (t_mul cqb_64_64_64 b_x1 (by decide +kernel) (by decide +kernel) (by decide +kernel)).trans (by rw [cqn_64])
    have q17 : (0) ≤ (64 * x1).toInt ∧ (64 * x1).toInt ≤ (128) := (show B 0 128 (64 * x1) from B_w (B_mul cqb_64_64_64 b_x1 (by decide +kernel) (by decide +kernel) (by decide +kernel)) (by decide +kernel) (by decide +kernel))
    have q18 : (0) ≤ (x2).toInt ∧ (x2).toInt ≤ (63) := (show B 0 63 (x2) from B_w b_x2 (by decide +kernel) (by decide +kernel))
    have e19 : ((64 * x1) + x2).toInt = ((64 * (x1).toInt) + (x2).toInt) := (t_add (B_mul cqb_64_64_64 b_x1 (by decide +kernel) (by decide +kernel) (by decide +kernel)) b_x2 (by decide +kernel) (by decide +kernel)).trans (by rw [e16])
    have q20 : (0) ≤ ((64 * x1) + x2).toInt ∧ ((64 * x1) + x2).toInt ≤ (191) := (show B 0 191 ((64 * x1) + x2) from B_w (B_add (B_mul cqb_64_64_64 b_x1 (by decide +kernel) (by decide +kernel) (by decide +kernel)) b_x2 (by decide +kernel) (by decide +kernel)) (by decide +kernel) (by decide +kernel))
    exact hK hI11 g12 (qf_le (b' := ((F 22 6) + 1).toInt) (lo' := 0) (hi' := (64 * (F 12 2).toInt) - 1) (qf_ext (x := F 22 6) (b' := ((F 22 6) + 1).toInt) (qf_le (b' := (F 22 6).toInt) (lo' := 0) (hi' := (64 * (F 12 2).toInt) - 1) pre0 (by omega) (by omega) (by omega)) (fun _ => ⟨by omega, by omega⟩) (by omega) (by omega) (by omega)) (by omega) (by omega) (by omega))
set_option maxRecDepth 20000 in
set_option maxHeartbeats 4000000 in
theorem h_Sc_addStretch_u22_x112 {a : Bool} {b : Bool} {P : Nat → Nat → Nat} {x2 : Int32} {x3 : Int32} {x4 : Int32} {F : cF} {L : cL} {K : cs → Prop} (b_x2 : B 0 2 x2) (b_x3 : B 0 7 x3) (b_x4 : B 0 7 x4) (hI : IMc F) (pre0 : qf (F 26) 0 (F 22 6).toInt 0 ((64 * (F 12 2).toInt) - 1)) (pre1 : x2.toInt < (F 12 2).toInt) (pre2 : x3.toInt < (F 12 7).toInt) (pre3 : x4.toInt < (F 12 8).toInt) (pre4 : qf (F 13) 0 (F 12 2).toInt 1 (F 12 5).toInt) (pre5 : qf (F 14) 0 (F 12 2).toInt 1 (F 12 6).toInt) (pre6 : ((F 12 5).toInt = 1) ∨ ((F 12 7).toInt ≤ 4)) (pre7 : ((F 12 6).toInt = 1) ∨ ((F 12 8).toInt ≤ 4)) (hK : ∀ {Z : cF} {LZ : cL}, IMc Z → agc [2206] [26, 999] F Z → (qf (Z 26) 0 (Z 22 6).toInt 0 ((64 * (Z 12 2).toInt) - 1)) → K (Z, LZ, PC a b P)) : p_Sc_addStretch UL 22 12 x2 x3 x4 (F, L, PC a b P) K := by
  have q1 : (0) ≤ (F 22 6).toInt ∧ (F 22 6).toInt ≤ (192) := (show B 0 192 (F 22 6) from hI 22 6)
  have q2 : (0) ≤ (x2).toInt ∧ (x2).toInt ≤ (2) := (show B 0 2 (x2) from B_w b_x2 (by decide +kernel) (by decide +kernel))
  have q3 : (1) ≤ (F 12 2).toInt ∧ (F 12 2).toInt ≤ (3) := (show B 1 3 (F 12 2) from hI 12 2)
  have q4 : (0) ≤ (x3).toInt ∧ (x3).toInt ≤ (7) := (show B 0 7 (x3) from B_w b_x3 (by decide +kernel) (by decide +kernel))
  have q5 : (1) ≤ (F 12 7).toInt ∧ (F 12 7).toInt ≤ (8) := (show B 1 8 (F 12 7) from hI 12 7)
  have q6 : (0) ≤ (x4).toInt ∧ (x4).toInt ≤ (7) := (show B 0 7 (x4) from B_w b_x4 (by decide +kernel) (by decide +kernel))
  have q7 : (1) ≤ (F 12 8).toInt ∧ (F 12 8).toInt ≤ (8) := (show B 1 8 (F 12 8) from hI 12 8)
  have q8 : (1) ≤ (F 12 5).toInt ∧ (F 12 5).toInt ≤ (2) := (show B 1 2 (F 12 5) from hI 12 5)
  have q9 : (1) ≤ (F 12 6).toInt ∧ (F 12 6).toInt ≤ (2) := (show B 1 2 (F 12 6) from hI 12 6)
  unfold p_Sc_addStretch
  rcases sp_12 (show B 1 2 (F 12 5) from hI 12 5) with hcs | hcs
  · have b10 : B 1 1 (F 12 5) := B_eq hcs cqb_1_1_1
    have q11 : (1) ≤ (F 12 5).toInt ∧ (F 12 5).toInt ≤ (1) := (show B 1 1 (F 12 5) from B_w b10 (by decide +kernel) (by decide +kernel))
    rcases sp_12 (show B 1 2 (F 12 6) from hI 12 6) with hcs | hcs
    · have b12 : B 1 1 (F 12 6) := B_eq hcs cqb_1_1_1
      have q13 : (1) ≤ (F 12 6).toInt ∧ (F 12 6).toInt ≤ (1) := (show B 1 1 (F 12 6) from B_w b12 (by decide +kernel) (by decide +kernel))
      refine ⟨(show c_cl UL 12 = 7 from cl_12), ?_⟩
      refine ⟨(show ¬ ((13 : Nat) = NU) from by decide +kernel), ?_⟩
      refine ⟨(show c_cl UL 13 = 902 from cl_13), ?_⟩
      refine ⟨(show vp_in (x2) 3 from vp_B b_x2 (by decide +kernel) (by decide +kernel)), ?_⟩
      refine ⟨(show ¬ ((14 : Nat) = NU) from by decide +kernel), ?_⟩
      refine ⟨(show c_cl UL 14 = 902 from cl_14), ?_⟩
      refine ⟨(show vp_in (x2) 3 from vp_B b_x2 (by decide +kernel) (by decide +kernel)), ?_⟩
      refine ⟨fun yx1 yx2 yx5 yx6 yx7 yS => (12 : Nat) = yx1 ∧ x2 = yx2 ∧ (x3 * (F 13 x2.toNatClampNeg)) = yx5 ∧ (x4 * (F 14 x2.toNatClampNeg)) = yx6 ∧ B 0 2 yx7 ∧ ∃ (T19 : cF) (LT19 : cL), yS = (T19, LT19, PC a b P) ∧ IMc T19 ∧ agc [2206] [26, 999] F T19 ∧ (qf (T19 26) 0 (T19 22 6).toInt 0 ((64 * (T19 12 2).toInt) - 1)), fun yx1 yx2 yx5 yx6 yx7 yS => (2 - yx7.toInt).toNat, ⟨rfl, rfl, rfl, rfl, (B_w cqb_0_0_0 (by decide +kernel) (by decide +kernel)), _, _, rfl, hI, (agc_refl (fs := [2206]) (rs := [26, 999]) (F := F)), (qf_le (b' := (F 22 6).toInt) (lo' := 0) (hi' := (64 * (F 12 2).toInt) - 1) pre0 (by omega) (by omega) (by omega))⟩, fun x1_14 x2_15 x5_16 x6_17 x7_18 ST19 hIv => ?_⟩
      obtain ⟨rfl, rfl, rfl, rfl, b20, T19, LT19, rfl, hI21, g22, r23⟩ := hIv
      suffices hs : ∀ (R24 : Nat → Int32 → Int32 → Int32 → Int32 → cs → Prop), (∀ zx1 zx2 zx5 zx6 zx7 zS, ((12 : Nat) = zx1 ∧ x2 = zx2 ∧ (x3 * (F 13 x2.toNatClampNeg)) = zx5 ∧ (x4 * (F 14 x2.toNatClampNeg)) = zx6 ∧ B 0 2 zx7 ∧ ∃ (T19 : cF) (LT19 : cL), zS = (T19, LT19, PC a b P) ∧ IMc T19 ∧ agc [2206] [26, 999] F T19 ∧ (qf (T19 26) 0 (T19 22 6).toInt 0 ((64 * (T19 12 2).toInt) - 1))) → (2 - zx7.toInt).toNat < (2 - x7_18.toInt).toNat → R24 zx1 zx2 zx5 zx6 zx7 zS) → b_Sc_addStretch_24 UL 22 12 x2 (x3 * (F 13 x2.toNatClampNeg)) (x4 * (F 14 x2.toNatClampNeg)) x7_18 (T19, LT19, PC a b P) R24 K from hs _ (fun _ _ _ _ _ _ h1 h2 => ⟨h1, h2⟩)
      intro R24 hR240
      have hR24 := fun {zx1} {zx2} {zx5} {zx6} {zx7} {zS} => hR240 zx1 zx2 zx5 zx6 zx7 zS
      have q24 : (0) ≤ (T19 22 6).toInt ∧ (T19 22 6).toInt ≤ (192) := (show B 0 192 (T19 22 6) from hI21 22 6)
      unfold b_Sc_addStretch_24
      refine ⟨(show c_cl UL 12 = 7 from cl_12), ?_⟩
      refine ⟨(show ¬ ((14 : Nat) = NU) from by decide +kernel), ?_⟩
      refine ⟨(show c_cl UL 14 = 902 from cl_14), ?_⟩
      refine ⟨(show vp_in (x2) 3 from vp_B b_x2 (by decide +kernel) (by decide +kernel)), ?_⟩
      refine ⟨fun hc => ?_, fun hc => ?_⟩
      · have r25 : 1 ≤ (F 14 x2.toNatClampNeg).toInt ∧ (F 14 x2.toNatClampNeg).toInt ≤ (F 12 6).toInt := qf_at pre5 (x := x2) (by omega) (by omega)
        have b26 : B 1 1 (F 14 x2.toNatClampNeg) := ⟨by omega, by omega⟩
        have hq27 := hc
        have b28 : B 1 2 (x7_18) := B_w (B_leR (B_eq (congrFun (g22.2 14 rfl rfl) x2.toNatClampNeg) b26) b20 hq27) (by decide +kernel) (by decide +kernel)
        have q29 : (1) ≤ (F 14 x2.toNatClampNeg).toInt ∧ (F 14 x2.toNatClampNeg).toInt ≤ (1) := (show B 1 1 (F 14 x2.toNatClampNeg) from B_w b26 (by decide +kernel) (by decide +kernel))
        have e30 : (T19 14 x2.toNatClampNeg).toInt = (F 14 x2.toNatClampNeg).toInt := (congrArg Int32.toInt (congrFun (g22.2 14 rfl rfl) x2.toNatClampNeg)).trans rfl
        have q31 : (1) ≤ (x7_18).toInt ∧ (x7_18).toInt ≤ (2) := (show B 1 2 (x7_18) from B_w b28 (by decide +kernel) (by decide +kernel))
        have i32 : (T19 14 x2.toNatClampNeg).toInt ≤ (x7_18).toInt := i_le hq27
        have g33 := agc_tr (agc_refl (fs := [2206]) (rs := [26, 999]) (F := F)) g22 (by decide +kernel) (by decide +kernel)
        have e34 : (T19 12 2).toInt = (F 12 2).toInt := (congrArg Int32.toInt (g22.1 12 2 rfl rfl)).trans rfl
        exact hK hI21 g33 (qf_le (b' := (T19 22 6).toInt) (lo' := 0) (hi' := (64 * (T19 12 2).toInt) - 1) r23 (by omega) (by omega) (by omega))
      · have r35 : 1 ≤ (F 14 x2.toNatClampNeg).toInt ∧ (F 14 x2.toNatClampNeg).toInt ≤ (F 12 6).toInt := qf_at pre5 (x := x2) (by omega) (by omega)
        have b36 : B 1 1 (F 14 x2.toNatClampNeg) := ⟨by omega, by omega⟩
        have hq37 := (nle_lt hc)
        have b38 : B 0 0 (x7_18) := B_w (B_ltL b20 (B_eq (congrFun (g22.2 14 rfl rfl) x2.toNatClampNeg) b36) hq37) (by decide +kernel) (by decide +kernel)
        have q39 : (0) ≤ (x7_18).toInt ∧ (x7_18).toInt ≤ (0) := (show B 0 0 (x7_18) from B_w b38 (by decide +kernel) (by decide +kernel))
        have q40 : (1) ≤ (F 14 x2.toNatClampNeg).toInt ∧ (F 14 x2.toNatClampNeg).toInt ≤ (1) := (show B 1 1 (F 14 x2.toNatClampNeg) from B_w b36 (by decide +kernel) (by decide +kernel))
        have e41 : (T19 14 x2.toNatClampNeg).toInt = (F 14 x2.toNatClampNeg).toInt := (congrArg Int32.toInt (congrFun (g22.2 14 rfl rfl) x2.toNatClampNeg)).trans rfl
        have i42 : (x7_18).toInt < (T19 14 x2.toNatClampNeg).toInt := i_lt hq37
        have e53 : (T19 12 2).toInt = (F 12 2).toInt := (congrArg Int32.toInt (g22.1 12 2 rfl rfl)).trans rfl
        refine ⟨fun yx1 yx2 yx5 yx6 yx7 yx8 yS => (12 : Nat) = yx1 ∧ x2 = yx2 ∧ (x3 * (F 13 x2.toNatClampNeg)) = yx5 ∧ (x4 * (F 14 x2.toNatClampNeg)) = yx6 ∧ x7_18 = yx7 ∧ B 0 2 yx8 ∧ ∃ (T49 : cF) (LT49 : cL), yS = (T49, LT49, PC a b P) ∧ IMc T49 ∧ agc [2206] [26, 999] T19 T49 ∧ (qf (T49 26) 0 (T49 22 6).toInt 0 ((64 * (T49 12 2).toInt) - 1)), fun yx1 yx2 yx5 yx6 yx7 yx8 yS => (2 - yx8.toInt).toNat, ⟨rfl, rfl, rfl, rfl, rfl, (B_w cqb_0_0_0 (by decide +kernel) (by decide +kernel)), _, _, rfl, hI21, (agc_refl (fs := [2206]) (rs := [26, 999]) (F := T19)), (qf_le (b' := (T19 22 6).toInt) (lo' := 0) (hi' := (64 * (T19 12 2).toInt) - 1) r23 (by omega) (by omega) (by omega))⟩, fun x1_43 x2_44 x5_45 x6_46 x7_47 x8_48 ST49 hIv => ?_⟩
        obtain ⟨rfl, rfl, rfl, rfl, rfl, b50, T49, LT49, rfl, hI51, g52, r54⟩ := hIv
        suffices hs : ∀ (R38 : Nat → Int32 → Int32 → Int32 → Int32 → Int32 → cs → Prop), (∀ zx1 zx2 zx5 zx6 zx7 zx8 zS, ((12 : Nat) = zx1 ∧ x2 = zx2 ∧ (x3 * (F 13 x2.toNatClampNeg)) = zx5 ∧ (x4 * (F 14 x2.toNatClampNeg)) = zx6 ∧ x7_18 = zx7 ∧ B 0 2 zx8 ∧ ∃ (T49 : cF) (LT49 : cL), zS = (T49, LT49, PC a b P) ∧ IMc T49 ∧ agc [2206] [26, 999] T19 T49 ∧ (qf (T49 26) 0 (T49 22 6).toInt 0 ((64 * (T49 12 2).toInt) - 1))) → (2 - zx8.toInt).toNat < (2 - x8_48.toInt).toNat → R38 zx1 zx2 zx5 zx6 zx7 zx8 zS) → b_Sc_addStretch_38 UL 22 12 x2 (x3 * (F 13 x2.toNatClampNeg)) (x4 * (F 14 x2.toNatClampNeg)) x7_18 x8_48 (T49, LT49, PC a b P) R24 R38 K from hs _ (fun _ _ _ _ _ _ _ h1 h2 => ⟨h1, h2⟩)
        intro R38 hR380
        have hR38 := fun {zx1} {zx2} {zx5} {zx6} {zx7} {zx8} {zS} => hR380 zx1 zx2 zx5 zx6 zx7 zx8 zS
        have q55 : (0) ≤ (T49 22 6).toInt ∧ (T49 22 6).toInt ≤ (192) := (show B 0 192 (T49 22 6) from hI51 22 6)
        unfold b_Sc_addStretch_38
        refine ⟨(show c_cl UL 12 = 7 from cl_12), ?_⟩
        refine ⟨(show ¬ ((13 : Nat) = NU) from by decide +kernel), ?_⟩
        refine ⟨(show c_cl UL 13 = 902 from cl_13), ?_⟩
        refine ⟨(show vp_in (x2) 3 from vp_B b_x2 (by decide +kernel) (by decide +kernel)), ?_⟩
        refine ⟨fun hc => ?_, fun hc => ?_⟩
        · have r56 : 1 ≤ (F 13 x2.toNatClampNeg).toInt ∧ (F 13 x2.toNatClampNeg).toInt ≤ (F 12 5).toInt := qf_at pre4 (x := x2) (by omega) (by omega)
          have b57 : B 1 1 (F 13 x2.toNatClampNeg) := ⟨by omega, by omega⟩
          have hq58 := hc
          have b59 : B 1 2 (x8_48) := B_w (B_leR (B_eq ((congrFun (g52.2 13 rfl rfl) x2.toNatClampNeg).trans (congrFun (g22.2 13 rfl rfl) x2.toNatClampNeg)) b57) b50 hq58) (by decide +kernel) (by decide +kernel)
          have q60 : (1) ≤ (F 13 x2.toNatClampNeg).toInt ∧ (F 13 x2.toNatClampNeg).toInt ≤ (1) := (show B 1 1 (F 13 x2.toNatClampNeg) from B_w b57 (by decide +kernel) (by decide +kernel))
          have e61 : (T49 13 x2.toNatClampNeg).toInt = (F 13 x2.toNatClampNeg).toInt := (congrArg Int32.toInt ((congrFun (g52.2 13 rfl rfl) x2.toNatClampNeg).trans (congrFun (g22.2 13 rfl rfl) x2.toNatClampNeg))).trans rfl
          have q62 : (1) ≤ (x8_48).toInt ∧ (x8_48).toInt ≤ (2) := (show B 1 2 (x8_48) from B_w b59 (by decide +kernel) (by decide +kernel))
          have i63 : (T49 13 x2.toNatClampNeg).toInt ≤ (x8_48).toInt := i_le hq58
          have g65 := agc_tr (agc_refl (fs := [2206]) (rs := [26, 999]) (F := F)) g22 (by decide +kernel) (by decide +kernel)
          have g64 := agc_tr g65 g52 (by decide +kernel) (by decide +kernel)
          have e66 : (T49 12 2).toInt = (F 12 2).toInt := (congrArg Int32.toInt ((g52.1 12 2 rfl rfl).trans (g22.1 12 2 rfl rfl))).trans rfl
          have e67 : (x7_18 + 1).toInt = ((x7_18).toInt + 1) := (t_add b38 cqb_1_1_1 (by decide +kernel) (by decide +kernel)).trans (by rw [cqn_1])
          have q68 : (1) ≤ (x7_18 + 1).toInt ∧ (x7_18 + 1).toInt ≤ (1) := (show B 1 1 (x7_18 + 1) from B_w (B_add b38 cqb_1_1_1 (by decide +kernel) (by decide +kernel)) (by decide +kernel) (by decide +kernel))
          exact hR24 ⟨rfl, rfl, rfl, rfl, (B_w (B_add b38 cqb_1_1_1 (by decide +kernel) (by decide +kernel)) (by decide +kernel) (by decide +kernel)), _, _, rfl, hI51, g64, (qf_le (b' := (T49 22 6).toInt) (lo' := 0) (hi' := (64 * (T49 12 2).toInt) - 1) r54 (by omega) (by omega) (by omega))⟩ (by show (2 - (x7_18 + 1).toInt).toNat < (2 - x7_18.toInt).toNat; omega)
        · have r69 : 1 ≤ (F 13 x2.toNatClampNeg).toInt ∧ (F 13 x2.toNatClampNeg).toInt ≤ (F 12 5).toInt := qf_at pre4 (x := x2) (by omega) (by omega)
          have b70 : B 1 1 (F 13 x2.toNatClampNeg) := ⟨by omega, by omega⟩
          have hq71 := (nle_lt hc)
          have b72 : B 0 0 (x8_48) := B_w (B_ltL b50 (B_eq ((congrFun (g52.2 13 rfl rfl) x2.toNatClampNeg).trans (congrFun (g22.2 13 rfl rfl) x2.toNatClampNeg)) b70) hq71) (by decide +kernel) (by decide +kernel)
          have q73 : (0) ≤ (x8_48).toInt ∧ (x8_48).toInt ≤ (0) := (show B 0 0 (x8_48) from B_w b72 (by decide +kernel) (by decide +kernel))
          have q74 : (1) ≤ (F 13 x2.toNatClampNeg).toInt ∧ (F 13 x2.toNatClampNeg).toInt ≤ (1) := (show B 1 1 (F 13 x2.toNatClampNeg) from B_w b70 (by decide +kernel) (by decide +kernel))
          have e75 : (T49 13 x2.toNatClampNeg).toInt = (F 13 x2.toNatClampNeg).toInt := (congrArg Int32.toInt ((congrFun (g52.2 13 rfl rfl) x2.toNatClampNeg).trans (congrFun (g22.2 13 rfl rfl) x2.toNatClampNeg))).trans rfl
          have i76 : (x8_48).toInt < (T49 13 x2.toNatClampNeg).toInt := i_lt hq71
          refine ⟨(show ¬ ((17 : Nat) = NU) from by decide +kernel), ?_⟩
          refine ⟨(show c_cl UL 17 = 902 from cl_17), ?_⟩
          refine ⟨(show vp_in (x2) 3 from vp_B b_x2 (by decide +kernel) (by decide +kernel)), ?_⟩
          have e77 : (T49 12 2).toInt = (F 12 2).toInt := (congrArg Int32.toInt ((g52.1 12 2 rfl rfl).trans (g22.1 12 2 rfl rfl))).trans rfl
          refine h_Sc_addBlock_u22 b_x2 (B_w (B_add (B_add (B_mul (B_add (B_mul b_x4 b36 (by decide +kernel) (by decide +kernel) (by decide +kernel)) b38 (by decide +kernel) (by decide +kernel)) (B_eq ((congrFun (g52.2 17 rfl rfl) x2.toNatClampNeg).trans (congrFun (g22.2 17 rfl rfl) x2.toNatClampNeg)) (show B 0 8 (F 17 x2.toNatClampNeg) from hI 17 x2.toNatClampNeg)) (by decide +kernel) (by decide +kernel) (by decide +kernel)) (B_mul b_x3 b70 (by decide +kernel) (by decide +kernel) (by decide +kernel)) (by decide +kernel) (by decide +kernel)) b72 (by decide +kernel) (by decide +kernel)) (by decide +kernel) (by decide +kernel)) hI51 (qf_le (b' := (T49 22 6).toInt) (lo' := 0) (hi' := (64 * (T49 12 2).toInt) - 1) r54 (by omega) (by omega) (by omega)) (by show x2.toInt < (T49 12 2).toInt; first | with_reducible assumption | omega) (fun {FS69_78} {LFS69_78} hI79 g80 r81 => ?_)
          have r82 : qf (FS69_78 26) 0 (FS69_78 22 6).toInt 0 ((64 * (FS69_78 12 2).toInt) - 1) := r81
          clear r81
          have q83 : (0) ≤ (FS69_78 22 6).toInt ∧ (FS69_78 22 6).toInt ≤ (192) := (show B 0 192 (FS69_78 22 6) from hI79 22 6)
          have g85 := agc_tr (agc_refl (fs := [2206]) (rs := [26, 999]) (F := T19)) g52 (by decide +kernel) (by decide +kernel)
          have g84 := agc_tr g85 g80 (by decide +kernel) (by decide +kernel)
          have e86 : (FS69_78 12 2).toInt = (F 12 2).toInt := (congrArg Int32.toInt (((g80.1 12 2 rfl rfl).trans (g52.1 12 2 rfl rfl)).trans (g22.1 12 2 rfl rfl))).trans rfl
          have e87 : (x8_48 + 1).toInt = ((x8_48).toInt + 1) := (t_add b72 cqb_1_1_1 (by decide +kernel) (by decide +kernel)).trans (by rw [cqn_1])
          have q88 : (1) ≤ (x8_48 + 1).toInt ∧ (x8_48 + 1).toInt ≤ (1) := (show B 1 1 (x8_48 + 1) from B_w (B_add b72 cqb_1_1_1 (by decide +kernel) (by decide +kernel)) (by decide +kernel) (by decide +kernel))
          exact hR38 ⟨rfl, rfl, rfl, rfl, rfl, (B_w (B_add b72 cqb_1_1_1 (by decide +kernel) (by decide +kernel)) (by decide +kernel) (by decide +kernel)), _, _, rfl, hI79, g84, (qf_le (b' := (FS69_78 22 6).toInt) (lo' := 0) (hi' := (64 * (FS69_78 12 2).toInt) - 1) r82 (by omega) (by omega) (by omega))⟩ (by show (2 - (x8_48 + 1).toInt).toNat < (2 - x8_48.toInt).toNat; omega)
    · have b89 : B 2 2 (F 12 6) := B_eq hcs cqb_2_2_2
      have q90 : (2) ≤ (F 12 6).toInt ∧ (F 12 6).toInt ≤ (2) := (show B 2 2 (F 12 6) from B_w b89 (by decide +kernel) (by decide +kernel))
      have b91 : B 0 3 (x4) := ⟨by omega, by omega⟩
      refine ⟨(show c_cl UL 12 = 7 from cl_12), ?_⟩
      refine ⟨(show ¬ ((13 : Nat) = NU) from by decide +kernel), ?_⟩
      refine ⟨(show c_cl UL 13 = 902 from cl_13), ?_⟩
      refine ⟨(show vp_in (x2) 3 from vp_B b_x2 (by decide +kernel) (by decide +kernel)), ?_⟩
      refine ⟨(show ¬ ((14 : Nat) = NU) from by decide +kernel), ?_⟩
      refine ⟨(show c_cl UL 14 = 902 from cl_14), ?_⟩
      refine ⟨(show vp_in (x2) 3 from vp_B b_x2 (by decide +kernel) (by decide +kernel)), ?_⟩
      refine ⟨fun yx1 yx2 yx5 yx6 yx7 yS => (12 : Nat) = yx1 ∧ x2 = yx2 ∧ (x3 * (F 13 x2.toNatClampNeg)) = yx5 ∧ (x4 * (F 14 x2.toNatClampNeg)) = yx6 ∧ B 0 2 yx7 ∧ ∃ (T97 : cF) (LT97 : cL), yS = (T97, LT97, PC a b P) ∧ IMc T97 ∧ agc [2206] [26, 999] F T97 ∧ (qf (T97 26) 0 (T97 22 6).toInt 0 ((64 * (T97 12 2).toInt) - 1)), fun yx1 yx2 yx5 yx6 yx7 yS => (2 - yx7.toInt).toNat, ⟨rfl, rfl, rfl, rfl, (B_w cqb_0_0_0 (by decide +kernel) (by decide +kernel)), _, _, rfl, hI, (agc_refl (fs := [2206]) (rs := [26, 999]) (F := F)), (qf_le (b' := (F 22 6).toInt) (lo' := 0) (hi' := (64 * (F 12 2).toInt) - 1) pre0 (by omega) (by omega) (by omega))⟩, fun x1_92 x2_93 x5_94 x6_95 x7_96 ST97 hIv => ?_⟩
      obtain ⟨rfl, rfl, rfl, rfl, b98, T97, LT97, rfl, hI99, g100, r101⟩ := hIv
      suffices hs : ∀ (R24 : Nat → Int32 → Int32 → Int32 → Int32 → cs → Prop), (∀ zx1 zx2 zx5 zx6 zx7 zS, ((12 : Nat) = zx1 ∧ x2 = zx2 ∧ (x3 * (F 13 x2.toNatClampNeg)) = zx5 ∧ (x4 * (F 14 x2.toNatClampNeg)) = zx6 ∧ B 0 2 zx7 ∧ ∃ (T97 : cF) (LT97 : cL), zS = (T97, LT97, PC a b P) ∧ IMc T97 ∧ agc [2206] [26, 999] F T97 ∧ (qf (T97 26) 0 (T97 22 6).toInt 0 ((64 * (T97 12 2).toInt) - 1))) → (2 - zx7.toInt).toNat < (2 - x7_96.toInt).toNat → R24 zx1 zx2 zx5 zx6 zx7 zS) → b_Sc_addStretch_24 UL 22 12 x2 (x3 * (F 13 x2.toNatClampNeg)) (x4 * (F 14 x2.toNatClampNeg)) x7_96 (T97, LT97, PC a b P) R24 K from hs _ (fun _ _ _ _ _ _ h1 h2 => ⟨h1, h2⟩)
      intro R24 hR240
      have hR24 := fun {zx1} {zx2} {zx5} {zx6} {zx7} {zS} => hR240 zx1 zx2 zx5 zx6 zx7 zS
      have q102 : (0) ≤ (T97 22 6).toInt ∧ (T97 22 6).toInt ≤ (192) := (show B 0 192 (T97 22 6) from hI99 22 6)
      unfold b_Sc_addStretch_24
      refine ⟨(show c_cl UL 12 = 7 from cl_12), ?_⟩
      refine ⟨(show ¬ ((14 : Nat) = NU) from by decide +kernel), ?_⟩
      refine ⟨(show c_cl UL 14 = 902 from cl_14), ?_⟩
      refine ⟨(show vp_in (x2) 3 from vp_B b_x2 (by decide +kernel) (by decide +kernel)), ?_⟩
      refine ⟨fun hc => ?_, fun hc => ?_⟩
      · have r103 : 1 ≤ (F 14 x2.toNatClampNeg).toInt ∧ (F 14 x2.toNatClampNeg).toInt ≤ (F 12 6).toInt := qf_at pre5 (x := x2) (by omega) (by omega)
        have hq104 := hc
        have b105 : B 1 2 (x7_96) := B_w (B_leR (B_eq (congrFun (g100.2 14 rfl rfl) x2.toNatClampNeg) (show B 1 2 (F 14 x2.toNatClampNeg) from sB_14 hI b_x2 (by decide +kernel) (by decide +kernel))) b98 hq104) (by decide +kernel) (by decide +kernel)
        have q106 : (1) ≤ (F 14 x2.toNatClampNeg).toInt ∧ (F 14 x2.toNatClampNeg).toInt ≤ (2) := (show B 1 2 (F 14 x2.toNatClampNeg) from sB_14 hI b_x2 (by decide +kernel) (by decide +kernel))
        have e107 : (T97 14 x2.toNatClampNeg).toInt = (F 14 x2.toNatClampNeg).toInt := (congrArg Int32.toInt (congrFun (g100.2 14 rfl rfl) x2.toNatClampNeg)).trans rfl
        have q108 : (1) ≤ (x7_96).toInt ∧ (x7_96).toInt ≤ (2) := (show B 1 2 (x7_96) from B_w b105 (by decide +kernel) (by decide +kernel))
        have i109 : (T97 14 x2.toNatClampNeg).toInt ≤ (x7_96).toInt := i_le hq104
        have g110 := agc_tr (agc_refl (fs := [2206]) (rs := [26, 999]) (F := F)) g100 (by decide +kernel) (by decide +kernel)
        have e111 : (T97 12 2).toInt = (F 12 2).toInt := (congrArg Int32.toInt (g100.1 12 2 rfl rfl)).trans rfl
        exact hK hI99 g110 (qf_le (b' := (T97 22 6).toInt) (lo' := 0) (hi' := (64 * (T97 12 2).toInt) - 1) r101 (by omega) (by omega) (by omega))
      · have r112 : 1 ≤ (F 14 x2.toNatClampNeg).toInt ∧ (F 14 x2.toNatClampNeg).toInt ≤ (F 12 6).toInt := qf_at pre5 (x := x2) (by omega) (by omega)
        have hq113 := (nle_lt hc)
        have b114 : B 0 1 (x7_96) := B_w (B_ltL b98 (B_eq (congrFun (g100.2 14 rfl rfl) x2.toNatClampNeg) (show B 1 2 (F 14 x2.toNatClampNeg) from sB_14 hI b_x2 (by decide +kernel) (by decide +kernel))) hq113) (by decide +kernel) (by decide +kernel)
        have q115 : (0) ≤ (x7_96).toInt ∧ (x7_96).toInt ≤ (1) := (show B 0 1 (x7_96) from B_w b114 (by decide +kernel) (by decide +kernel))
        have q116 : (1) ≤ (F 14 x2.toNatClampNeg).toInt ∧ (F 14 x2.toNatClampNeg).toInt ≤ (2) := (show B 1 2 (F 14 x2.toNatClampNeg) from sB_14 hI b_x2 (by decide +kernel) (by decide +kernel))
        have e117 : (T97 14 x2.toNatClampNeg).toInt = (F 14 x2.toNatClampNeg).toInt := (congrArg Int32.toInt (congrFun (g100.2 14 rfl rfl) x2.toNatClampNeg)).trans rfl
        have i118 : (x7_96).toInt < (T97 14 x2.toNatClampNeg).toInt := i_lt hq113
        have e129 : (T97 12 2).toInt = (F 12 2).toInt := (congrArg Int32.toInt (g100.1 12 2 rfl rfl)).trans rfl
        refine ⟨fun yx1 yx2 yx5 yx6 yx7 yx8 yS => (12 : Nat) = yx1 ∧ x2 = yx2 ∧ (x3 * (F 13 x2.toNatClampNeg)) = yx5 ∧ (x4 * (F 14 x2.toNatClampNeg)) = yx6 ∧ x7_96 = yx7 ∧ B 0 2 yx8 ∧ ∃ (T125 : cF) (LT125 : cL), yS = (T125, LT125, PC a b P) ∧ IMc T125 ∧ agc [2206] [26, 999] T97 T125 ∧ (qf (T125 26) 0 (T125 22 6).toInt 0 ((64 * (T125 12 2).toInt) - 1)), fun yx1 yx2 yx5 yx6 yx7 yx8 yS => (2 - yx8.toInt).toNat, ⟨rfl, rfl, rfl, rfl, rfl, (B_w cqb_0_0_0 (by decide +kernel) (by decide +kernel)), _, _, rfl, hI99, (agc_refl (fs := [2206]) (rs := [26, 999]) (F := T97)), (qf_le (b' := (T97 22 6).toInt) (lo' := 0) (hi' := (64 * (T97 12 2).toInt) - 1) r101 (by omega) (by omega) (by omega))⟩, fun x1_119 x2_120 x5_121 x6_122 x7_123 x8_124 ST125 hIv => ?_⟩
        obtain ⟨rfl, rfl, rfl, rfl, rfl, b126, T125, LT125, rfl, hI127, g128, r130⟩ := hIv
        suffices hs : ∀ (R38 : Nat → Int32 → Int32 → Int32 → Int32 → Int32 → cs → Prop), (∀ zx1 zx2 zx5 zx6 zx7 zx8 zS, ((12 : Nat) = zx1 ∧ x2 = zx2 ∧ (x3 * (F 13 x2.toNatClampNeg)) = zx5 ∧ (x4 * (F 14 x2.toNatClampNeg)) = zx6 ∧ x7_96 = zx7 ∧ B 0 2 zx8 ∧ ∃ (T125 : cF) (LT125 : cL), zS = (T125, LT125, PC a b P) ∧ IMc T125 ∧ agc [2206] [26, 999] T97 T125 ∧ (qf (T125 26) 0 (T125 22 6).toInt 0 ((64 * (T125 12 2).toInt) - 1))) → (2 - zx8.toInt).toNat < (2 - x8_124.toInt).toNat → R38 zx1 zx2 zx5 zx6 zx7 zx8 zS) → b_Sc_addStretch_38 UL 22 12 x2 (x3 * (F 13 x2.toNatClampNeg)) (x4 * (F 14 x2.toNatClampNeg)) x7_96 x8_124 (T125, LT125, PC a b P) R24 R38 K from hs _ (fun _ _ _ _ _ _ _ h1 h2 => ⟨h1, h2⟩)
        intro R38 hR380
        have hR38 := fun {zx1} {zx2} {zx5} {zx6} {zx7} {zx8} {zS} => hR380 zx1 zx2 zx5 zx6 zx7 zx8 zS
        have q131 : (0) ≤ (T125 22 6).toInt ∧ (T125 22 6).toInt ≤ (192) := (show B 0 192 (T125 22 6) from hI127 22 6)
        unfold b_Sc_addStretch_38
        refine ⟨(show c_cl UL 12 = 7 from cl_12), ?_⟩
        refine ⟨(show ¬ ((13 : Nat) = NU) from by decide +kernel), ?_⟩
        refine ⟨(show c_cl UL 13 = 902 from cl_13), ?_⟩
        refine ⟨(show vp_in (x2) 3 from vp_B b_x2 (by decide +kernel) (by decide +kernel)), ?_⟩
        refine ⟨fun hc => ?_, fun hc => ?_⟩
        · have r132 : 1 ≤ (F 13 x2.toNatClampNeg).toInt ∧ (F 13 x2.toNatClampNeg).toInt ≤ (F 12 5).toInt := qf_at pre4 (x := x2) (by omega) (by omega)
          have b133 : B 1 1 (F 13 x2.toNatClampNeg) := ⟨by omega, by omega⟩
          have hq134 := hc
          have b135 : B 1 2 (x8_124) := B_w (B_leR (B_eq ((congrFun (g128.2 13 rfl rfl) x2.toNatClampNeg).trans (congrFun (g100.2 13 rfl rfl) x2.toNatClampNeg)) b133) b126 hq134) (by decide +kernel) (by decide +kernel)
          have q136 : (1) ≤ (F 13 x2.toNatClampNeg).toInt ∧ (F 13 x2.toNatClampNeg).toInt ≤ (1) := (show B 1 1 (F 13 x2.toNatClampNeg) from B_w b133 (by decide +kernel) (by decide +kernel))
          have e137 : (T125 13 x2.toNatClampNeg).toInt = (F 13 x2.toNatClampNeg).toInt := (congrArg Int32.toInt ((congrFun (g128.2 13 rfl rfl) x2.toNatClampNeg).trans (congrFun (g100.2 13 rfl rfl) x2.toNatClampNeg))).trans rfl
          have q138 : (1) ≤ (x8_124).toInt ∧ (x8_124).toInt ≤ (2) := (show B 1 2 (x8_124) from B_w b135 (by decide +kernel) (by decide +kernel))
          have i139 : (T125 13 x2.toNatClampNeg).toInt ≤ (x8_124).toInt := i_le hq134
          have g141 := agc_tr (agc_refl (fs := [2206]) (rs := [26, 999]) (F := F)) g100 (by decide +kernel) (by decide +kernel)
          have g140 := agc_tr g141 g128 (by decide +kernel) (by decide +kernel)
          have e142 : (T125 12 2).toInt = (F 12 2).toInt := (congrArg Int32.toInt ((g128.1 12 2 rfl rfl).trans (g100.1 12 2 rfl rfl))).trans rfl
          have e143 : (x7_96 + 1).toInt = ((x7_96).toInt + 1) := (t_add b114 cqb_1_1_1 (by decide +kernel) (by decide +kernel)).trans (by rw [cqn_1])
          have q144 : (1) ≤ (x7_96 + 1).toInt ∧ (x7_96 + 1).toInt ≤ (2) := (show B 1 2 (x7_96 + 1) from B_w (B_add b114 cqb_1_1_1 (by decide +kernel) (by decide +kernel)) (by decide +kernel) (by decide +kernel))
          exact hR24 ⟨rfl, rfl, rfl, rfl, (B_w (B_add b114 cqb_1_1_1 (by decide +kernel) (by decide +kernel)) (by decide +kernel) (by decide +kernel)), _, _, rfl, hI127, g140, (qf_le (b' := (T125 22 6).toInt) (lo' := 0) (hi' := (64 * (T125 12 2).toInt) - 1) r130 (by omega) (by omega) (by omega))⟩ (by show (2 - (x7_96 + 1).toInt).toNat < (2 - x7_96.toInt).toNat; omega)
        · have r145 : 1 ≤ (F 13 x2.toNatClampNeg).toInt ∧ (F 13 x2.toNatClampNeg).toInt ≤ (F 12 5).toInt := qf_at pre4 (x := x2) (by omega) (by omega)
          have b146 : B 1 1 (F 13 x2.toNatClampNeg) := ⟨by omega, by omega⟩
          have hq147 := (nle_lt hc)
          have b148 : B 0 0 (x8_124) := B_w (B_ltL b126 (B_eq ((congrFun (g128.2 13 rfl rfl) x2.toNatClampNeg).trans (congrFun (g100.2 13 rfl rfl) x2.toNatClampNeg)) b146) hq147) (by decide +kernel) (by decide +kernel)
          have q149 : (0) ≤ (x8_124).toInt ∧ (x8_124).toInt ≤ (0) := (show B 0 0 (x8_124) from B_w b148 (by decide +kernel) (by decide +kernel))
          have q150 : (1) ≤ (F 13 x2.toNatClampNeg).toInt ∧ (F 13 x2.toNatClampNeg).toInt ≤ (1) := (show B 1 1 (F 13 x2.toNatClampNeg) from B_w b146 (by decide +kernel) (by decide +kernel))
          have e151 : (T125 13 x2.toNatClampNeg).toInt = (F 13 x2.toNatClampNeg).toInt := (congrArg Int32.toInt ((congrFun (g128.2 13 rfl rfl) x2.toNatClampNeg).trans (congrFun (g100.2 13 rfl rfl) x2.toNatClampNeg))).trans rfl
          have i152 : (x8_124).toInt < (T125 13 x2.toNatClampNeg).toInt := i_lt hq147
          refine ⟨(show ¬ ((17 : Nat) = NU) from by decide +kernel), ?_⟩
          refine ⟨(show c_cl UL 17 = 902 from cl_17), ?_⟩
          refine ⟨(show vp_in (x2) 3 from vp_B b_x2 (by decide +kernel) (by decide +kernel)), ?_⟩
          have e153 : (T125 12 2).toInt = (F 12 2).toInt := (congrArg Int32.toInt ((g128.1 12 2 rfl rfl).trans (g100.1 12 2 rfl rfl))).trans rfl
          refine h_Sc_addBlock_u22 b_x2 (B_w (B_add (B_add (B_mul (B_add (B_mul b91 (show B 1 2 (F 14 x2.toNatClampNeg) from sB_14 hI b_x2 (by decide +kernel) (by decide +kernel)) (by decide +kernel) (by decide +kernel) (by decide +kernel)) b114 (by decide +kernel) (by decide +kernel)) (B_eq ((congrFun (g128.2 17 rfl rfl) x2.toNatClampNeg).trans (congrFun (g100.2 17 rfl rfl) x2.toNatClampNeg)) (show B 0 8 (F 17 x2.toNatClampNeg) from hI 17 x2.toNatClampNeg)) (by decide +kernel) (by decide +kernel) (by decide +kernel)) (B_mul b_x3 b146 (by decide +kernel) (by decide +kernel) (by decide +kernel)) (by decide +kernel) (by decide +kernel)) b148 (by decide +kernel) (by decide +kernel)) (by decide +kernel) (by decide +kernel)) hI127 (qf_le (b' := (T125 22 6).toInt) (lo' := 0) (hi' := (64 * (T125 12 2).toInt) - 1) r130 (by omega) (by omega) (by omega)) (by show x2.toInt < (T125 12 2).toInt; first | with_reducible assumption | omega) (fun {FS69_154} {LFS69_154} hI155 g156 r157 => ?_)
          have r158 : qf (FS69_154 26) 0 (FS69_154 22 6).toInt 0 ((64 * (FS69_154 12 2).toInt) - 1) := r157
          clear r157
          have q159 : (0) ≤ (FS69_154 22 6).toInt ∧ (FS69_154 22 6).toInt ≤ (192) := (show B 0 192 (FS69_154 22 6) from hI155 22 6)
          have g161 := agc_tr (agc_refl (fs := [2206]) (rs := [26, 999]) (F := T97)) g128 (by decide +kernel) (by decide +kernel)
          have g160 := agc_tr g161 g156 (by decide +kernel) (by decide +kernel)
          have e162 : (FS69_154 12 2).toInt = (F 12 2).toInt := (congrArg Int32.toInt (((g156.1 12 2 rfl rfl).trans (g128.1 12 2 rfl rfl)).trans (g100.1 12 2 rfl rfl))).trans rfl
          have e163 : (x8_124 + 1).toInt = ((x8_124).toInt + 1) := (t_add b148 cqb_1_1_1 (by decide +kernel) (by decide +kernel)).trans (by rw [cqn_1])
          have q164 : (1) ≤ (x8_124 + 1).toInt ∧ (x8_124 + 1).toInt ≤ (1) := (show B 1 1 (x8_124 + 1) from B_w (B_add b148 cqb_1_1_1 (by decide +kernel) (by decide +kernel)) (by decide +kernel) (by decide +kernel))
          exact hR38 ⟨rfl, rfl, rfl, rfl, rfl, (B_w (B_add b148 cqb_1_1_1 (by decide +kernel) (by decide +kernel)) (by decide +kernel) (by decide +kernel)), _, _, rfl, hI155, g160, (qf_le (b' := (FS69_154 22 6).toInt) (lo' := 0) (hi' := (64 * (FS69_154 12 2).toInt) - 1) r158 (by omega) (by omega) (by omega))⟩ (by show (2 - (x8_124 + 1).toInt).toNat < (2 - x8_124.toInt).toNat; omega)
  · have b165 : B 2 2 (F 12 5) := B_eq hcs cqb_2_2_2
    have q166 : (2) ≤ (F 12 5).toInt ∧ (F 12 5).toInt ≤ (2) := (show B 2 2 (F 12 5) from B_w b165 (by decide +kernel) (by decide +kernel))
    have b167 : B 0 3 (x3) := ⟨by omega, by omega⟩
    rcases sp_12 (show B 1 2 (F 12 6) from hI 12 6) with hcs | hcs
    · have b168 : B 1 1 (F 12 6) := B_eq hcs cqb_1_1_1
      have q169 : (1) ≤ (F 12 6).toInt ∧ (F 12 6).toInt ≤ (1) := (show B 1 1 (F 12 6) from B_w b168 (by decide +kernel) (by decide +kernel))
      refine ⟨(show c_cl UL 12 = 7 from cl_12), ?_⟩
      refine ⟨(show ¬ ((13 : Nat) = NU) from by decide +kernel), ?_⟩
      refine ⟨(show c_cl UL 13 = 902 from cl_13), ?_⟩
      refine ⟨(show vp_in (x2) 3 from vp_B b_x2 (by decide +kernel) (by decide +kernel)), ?_⟩
      refine ⟨(show ¬ ((14 : Nat) = NU) from by decide +kernel), ?_⟩
      refine ⟨(show c_cl UL 14 = 902 from cl_14), ?_⟩
      refine ⟨(show vp_in (x2) 3 from vp_B b_x2 (by decide +kernel) (by decide +kernel)), ?_⟩
      refine ⟨fun yx1 yx2 yx5 yx6 yx7 yS => (12 : Nat) = yx1 ∧ x2 = yx2 ∧ (x3 * (F 13 x2.toNatClampNeg)) = yx5 ∧ (x4 * (F 14 x2.toNatClampNeg)) = yx6 ∧ B 0 2 yx7 ∧ ∃ (T175 : cF) (LT175 : cL), yS = (T175, LT175, PC a b P) ∧ IMc T175 ∧ agc [2206] [26, 999] F T175 ∧ (qf (T175 26) 0 (T175 22 6).toInt 0 ((64 * (T175 12 2).toInt) - 1)), fun yx1 yx2 yx5 yx6 yx7 yS => (2 - yx7.toInt).toNat, ⟨rfl, rfl, rfl, rfl, (B_w cqb_0_0_0 (by decide +kernel) (by decide +kernel)), _, _, rfl, hI, (agc_refl (fs := [2206]) (rs := [26, 999]) (F := F)), (qf_le (b' := (F 22 6).toInt) (lo' := 0) (hi' := (64 * (F 12 2).toInt) - 1) pre0 (by omega) (by omega) (by omega))⟩, fun x1_170 x2_171 x5_172 x6_173 x7_174 ST175 hIv => ?_⟩
      obtain ⟨rfl, rfl, rfl, rfl, b176, T175, LT175, rfl, hI177, g178, r179⟩ := hIv
      suffices hs : ∀ (R24 : Nat → Int32 → Int32 → Int32 → Int32 → cs → Prop), (∀ zx1 zx2 zx5 zx6 zx7 zS, ((12 : Nat) = zx1 ∧ x2 = zx2 ∧ (x3 * (F 13 x2.toNatClampNeg)) = zx5 ∧ (x4 * (F 14 x2.toNatClampNeg)) = zx6 ∧ B 0 2 zx7 ∧ ∃ (T175 : cF) (LT175 : cL), zS = (T175, LT175, PC a b P) ∧ IMc T175 ∧ agc [2206] [26, 999] F T175 ∧ (qf (T175 26) 0 (T175 22 6).toInt 0 ((64 * (T175 12 2).toInt) - 1))) → (2 - zx7.toInt).toNat < (2 - x7_174.toInt).toNat → R24 zx1 zx2 zx5 zx6 zx7 zS) → b_Sc_addStretch_24 UL 22 12 x2 (x3 * (F 13 x2.toNatClampNeg)) (x4 * (F 14 x2.toNatClampNeg)) x7_174 (T175, LT175, PC a b P) R24 K from hs _ (fun _ _ _ _ _ _ h1 h2 => ⟨h1, h2⟩)
      intro R24 hR240
      have hR24 := fun {zx1} {zx2} {zx5} {zx6} {zx7} {zS} => hR240 zx1 zx2 zx5 zx6 zx7 zS
      have q180 : (0) ≤ (T175 22 6).toInt ∧ (T175 22 6).toInt ≤ (192) := (show B 0 192 (T175 22 6) from hI177 22 6)
      unfold b_Sc_addStretch_24
      refine ⟨(show c_cl UL 12 = 7 from cl_12), ?_⟩
      refine ⟨(show ¬ ((14 : Nat) = NU) from by decide +kernel), ?_⟩
      refine ⟨(show c_cl UL 14 = 902 from cl_14), ?_⟩
      refine ⟨(show vp_in (x2) 3 from vp_B b_x2 (by decide +kernel) (by decide +kernel)), ?_⟩
      refine ⟨fun hc => ?_, fun hc => ?_⟩
      · have r181 : 1 ≤ (F 14 x2.toNatClampNeg).toInt ∧ (F 14 x2.toNatClampNeg).toInt ≤ (F 12 6).toInt := qf_at pre5 (x := x2) (by omega) (by omega)
        have b182 : B 1 1 (F 14 x2.toNatClampNeg) := ⟨by omega, by omega⟩
        have hq183 := hc
        have b184 : B 1 2 (x7_174) := B_w (B_leR (B_eq (congrFun (g178.2 14 rfl rfl) x2.toNatClampNeg) b182) b176 hq183) (by decide +kernel) (by decide +kernel)
        have q185 : (1) ≤ (F 14 x2.toNatClampNeg).toInt ∧ (F 14 x2.toNatClampNeg).toInt ≤ (1) := (show B 1 1 (F 14 x2.toNatClampNeg) from B_w b182 (by decide +kernel) (by decide +kernel))
        have e186 : (T175 14 x2.toNatClampNeg).toInt = (F 14 x2.toNatClampNeg).toInt := (congrArg Int32.toInt (congrFun (g178.2 14 rfl rfl) x2.toNatClampNeg)).trans rfl
        have q187 : (1) ≤ (x7_174).toInt ∧ (x7_174).toInt ≤ (2) := (show B 1 2 (x7_174) from B_w b184 (by decide +kernel) (by decide +kernel))
        have i188 : (T175 14 x2.toNatClampNeg).toInt ≤ (x7_174).toInt := i_le hq183
        have g189 := agc_tr (agc_refl (fs := [2206]) (rs := [26, 999]) (F := F)) g178 (by decide +kernel) (by decide +kernel)
        have e190 : (T175 12 2).toInt = (F 12 2).toInt := (congrArg Int32.toInt (g178.1 12 2 rfl rfl)).trans rfl
        exact hK hI177 g189 (qf_le (b' := (T175 22 6).toInt) (lo' := 0) (hi' := (64 * (T175 12 2).toInt) - 1) r179 (by omega) (by omega) (by omega))
      · have r191 : 1 ≤ (F 14 x2.toNatClampNeg).toInt ∧ (F 14 x2.toNatClampNeg).toInt ≤ (F 12 6).toInt := qf_at pre5 (x := x2) (by omega) (by omega)
        have b192 : B 1 1 (F 14 x2.toNatClampNeg) := ⟨by omega, by omega⟩
        have hq193 := (nle_lt hc)
        have b194 : B 0 0 (x7_174) := B_w (B_ltL b176 (B_eq (congrFun (g178.2 14 rfl rfl) x2.toNatClampNeg) b192) hq193) (by decide +kernel) (by decide +kernel)
        have q195 : (0) ≤ (x7_174).toInt ∧ (x7_174).toInt ≤ (0) := (show B 0 0 (x7_174) from B_w b194 (by decide +kernel) (by decide +kernel))
        have q196 : (1) ≤ (F 14 x2.toNatClampNeg).toInt ∧ (F 14 x2.toNatClampNeg).toInt ≤ (1) := (show B 1 1 (F 14 x2.toNatClampNeg) from B_w b192 (by decide +kernel) (by decide +kernel))
        have e197 : (T175 14 x2.toNatClampNeg).toInt = (F 14 x2.toNatClampNeg).toInt := (congrArg Int32.toInt (congrFun (g178.2 14 rfl rfl) x2.toNatClampNeg)).trans rfl
        have i198 : (x7_174).toInt < (T175 14 x2.toNatClampNeg).toInt := i_lt hq193
        have e209 : (T175 12 2).toInt = (F 12 2).toInt := (congrArg Int32.toInt (g178.1 12 2 rfl rfl)).trans rfl
        refine ⟨fun yx1 yx2 yx5 yx6 yx7 yx8 yS => (12 : Nat) = yx1 ∧ x2 = yx2 ∧ (x3 * (F 13 x2.toNatClampNeg)) = yx5 ∧ (x4 * (F 14 x2.toNatClampNeg)) = yx6 ∧ x7_174 = yx7 ∧ B 0 2 yx8 ∧ ∃ (T205 : cF) (LT205 : cL), yS = (T205, LT205, PC a b P) ∧ IMc T205 ∧ agc [2206] [26, 999] T175 T205 ∧ (qf (T205 26) 0 (T205 22 6).toInt 0 ((64 * (T205 12 2).toInt) - 1)), fun yx1 yx2 yx5 yx6 yx7 yx8 yS => (2 - yx8.toInt).toNat, ⟨rfl, rfl, rfl, rfl, rfl, (B_w cqb_0_0_0 (by decide +kernel) (by decide +kernel)), _, _, rfl, hI177, (agc_refl (fs := [2206]) (rs := [26, 999]) (F := T175)), (qf_le (b' := (T175 22 6).toInt) (lo' := 0) (hi' := (64 * (T175 12 2).toInt) - 1) r179 (by omega) (by omega) (by omega))⟩, fun x1_199 x2_200 x5_201 x6_202 x7_203 x8_204 ST205 hIv => ?_⟩
        obtain ⟨rfl, rfl, rfl, rfl, rfl, b206, T205, LT205, rfl, hI207, g208, r210⟩ := hIv
        suffices hs : ∀ (R38 : Nat → Int32 → Int32 → Int32 → Int32 → Int32 → cs → Prop), (∀ zx1 zx2 zx5 zx6 zx7 zx8 zS, ((12 : Nat) = zx1 ∧ x2 = zx2 ∧ (x3 * (F 13 x2.toNatClampNeg)) = zx5 ∧ (x4 * (F 14 x2.toNatClampNeg)) = zx6 ∧ x7_174 = zx7 ∧ B 0 2 zx8 ∧ ∃ (T205 : cF) (LT205 : cL), zS = (T205, LT205, PC a b P) ∧ IMc T205 ∧ agc [2206] [26, 999] T175 T205 ∧ (qf (T205 26) 0 (T205 22 6).toInt 0 ((64 * (T205 12 2).toInt) - 1))) → (2 - zx8.toInt).toNat < (2 - x8_204.toInt).toNat → R38 zx1 zx2 zx5 zx6 zx7 zx8 zS) → b_Sc_addStretch_38 UL 22 12 x2 (x3 * (F 13 x2.toNatClampNeg)) (x4 * (F 14 x2.toNatClampNeg)) x7_174 x8_204 (T205, LT205, PC a b P) R24 R38 K from hs _ (fun _ _ _ _ _ _ _ h1 h2 => ⟨h1, h2⟩)
        intro R38 hR380
        have hR38 := fun {zx1} {zx2} {zx5} {zx6} {zx7} {zx8} {zS} => hR380 zx1 zx2 zx5 zx6 zx7 zx8 zS
        have q211 : (0) ≤ (T205 22 6).toInt ∧ (T205 22 6).toInt ≤ (192) := (show B 0 192 (T205 22 6) from hI207 22 6)
        unfold b_Sc_addStretch_38
        refine ⟨(show c_cl UL 12 = 7 from cl_12), ?_⟩
        refine ⟨(show ¬ ((13 : Nat) = NU) from by decide +kernel), ?_⟩
        refine ⟨(show c_cl UL 13 = 902 from cl_13), ?_⟩
        refine ⟨(show vp_in (x2) 3 from vp_B b_x2 (by decide +kernel) (by decide +kernel)), ?_⟩
        refine ⟨fun hc => ?_, fun hc => ?_⟩
        · have r212 : 1 ≤ (F 13 x2.toNatClampNeg).toInt ∧ (F 13 x2.toNatClampNeg).toInt ≤ (F 12 5).toInt := qf_at pre4 (x := x2) (by omega) (by omega)
          have hq213 := hc
          have b214 : B 1 2 (x8_204) := B_w (B_leR (B_eq ((congrFun (g208.2 13 rfl rfl) x2.toNatClampNeg).trans (congrFun (g178.2 13 rfl rfl) x2.toNatClampNeg)) (show B 1 2 (F 13 x2.toNatClampNeg) from sB_13 hI b_x2 (by decide +kernel) (by decide +kernel))) b206 hq213) (by decide +kernel) (by decide +kernel)
          have q215 : (1) ≤ (F 13 x2.toNatClampNeg).toInt ∧ (F 13 x2.toNatClampNeg).toInt ≤ (2) := (show B 1 2 (F 13 x2.toNatClampNeg) from sB_13 hI b_x2 (by decide +kernel) (by decide +kernel))
          have e216 : (T205 13 x2.toNatClampNeg).toInt = (F 13 x2.toNatClampNeg).toInt := (congrArg Int32.toInt ((congrFun (g208.2 13 rfl rfl) x2.toNatClampNeg).trans (congrFun (g178.2 13 rfl rfl) x2.toNatClampNeg))).trans rfl
          have q217 : (1) ≤ (x8_204).toInt ∧ (x8_204).toInt ≤ (2) := (show B 1 2 (x8_204) from B_w b214 (by decide +kernel) (by decide +kernel))
          have i218 : (T205 13 x2.toNatClampNeg).toInt ≤ (x8_204).toInt := i_le hq213
          have g220 := agc_tr (agc_refl (fs := [2206]) (rs := [26, 999]) (F := F)) g178 (by decide +kernel) (by decide +kernel)
          have g219 := agc_tr g220 g208 (by decide +kernel) (by decide +kernel)
          have e221 : (T205 12 2).toInt = (F 12 2).toInt := (congrArg Int32.toInt ((g208.1 12 2 rfl rfl).trans (g178.1 12 2 rfl rfl))).trans rfl
          have e222 : (x7_174 + 1).toInt = ((x7_174).toInt + 1) := (t_add b194 cqb_1_1_1 (by decide +kernel) (by decide +kernel)).trans (by rw [cqn_1])
          have q223 : (1) ≤ (x7_174 + 1).toInt ∧ (x7_174 + 1).toInt ≤ (1) := (show B 1 1 (x7_174 + 1) from B_w (B_add b194 cqb_1_1_1 (by decide +kernel) (by decide +kernel)) (by decide +kernel) (by decide +kernel))
          exact hR24 ⟨rfl, rfl, rfl, rfl, (B_w (B_add b194 cqb_1_1_1 (by decide +kernel) (by decide +kernel)) (by decide +kernel) (by decide +kernel)), _, _, rfl, hI207, g219, (qf_le (b' := (T205 22 6).toInt) (lo' := 0) (hi' := (64 * (T205 12 2).toInt) - 1) r210 (by omega) (by omega) (by omega))⟩ (by show (2 - (x7_174 + 1).toInt).toNat < (2 - x7_174.toInt).toNat; omega)
        · have r224 : 1 ≤ (F 13 x2.toNatClampNeg).toInt ∧ (F 13 x2.toNatClampNeg).toInt ≤ (F 12 5).toInt := qf_at pre4 (x := x2) (by omega) (by omega)
          have hq225 := (nle_lt hc)
          have b226 : B 0 1 (x8_204) := B_w (B_ltL b206 (B_eq ((congrFun (g208.2 13 rfl rfl) x2.toNatClampNeg).trans (congrFun (g178.2 13 rfl rfl) x2.toNatClampNeg)) (show B 1 2 (F 13 x2.toNatClampNeg) from sB_13 hI b_x2 (by decide +kernel) (by decide +kernel))) hq225) (by decide +kernel) (by decide +kernel)
          have q227 : (0) ≤ (x8_204).toInt ∧ (x8_204).toInt ≤ (1) := (show B 0 1 (x8_204) from B_w b226 (by decide +kernel) (by decide +kernel))
          have q228 : (1) ≤ (F 13 x2.toNatClampNeg).toInt ∧ (F 13 x2.toNatClampNeg).toInt ≤ (2) := (show B 1 2 (F 13 x2.toNatClampNeg) from sB_13 hI b_x2 (by decide +kernel) (by decide +kernel))
          have e229 : (T205 13 x2.toNatClampNeg).toInt = (F 13 x2.toNatClampNeg).toInt := (congrArg Int32.toInt ((congrFun (g208.2 13 rfl rfl) x2.toNatClampNeg).trans (congrFun (g178.2 13 rfl rfl) x2.toNatClampNeg))).trans rfl
          have i230 : (x8_204).toInt < (T205 13 x2.toNatClampNeg).toInt := i_lt hq225
          refine ⟨(show ¬ ((17 : Nat) = NU) from by decide +kernel), ?_⟩
          refine ⟨(show c_cl UL 17 = 902 from cl_17), ?_⟩
          refine ⟨(show vp_in (x2) 3 from vp_B b_x2 (by decide +kernel) (by decide +kernel)), ?_⟩
          have e231 : (T205 12 2).toInt = (F 12 2).toInt := (congrArg Int32.toInt ((g208.1 12 2 rfl rfl).trans (g178.1 12 2 rfl rfl))).trans rfl
          refine h_Sc_addBlock_u22 b_x2 (B_w (B_add (B_add (B_mul (B_add (B_mul b_x4 b192 (by decide +kernel) (by decide +kernel) (by decide +kernel)) b194 (by decide +kernel) (by decide +kernel)) (B_eq ((congrFun (g208.2 17 rfl rfl) x2.toNatClampNeg).trans (congrFun (g178.2 17 rfl rfl) x2.toNatClampNeg)) (show B 0 8 (F 17 x2.toNatClampNeg) from hI 17 x2.toNatClampNeg)) (by decide +kernel) (by decide +kernel) (by decide +kernel)) (B_mul b167 (show B 1 2 (F 13 x2.toNatClampNeg) from sB_13 hI b_x2 (by decide +kernel) (by decide +kernel)) (by decide +kernel) (by decide +kernel) (by decide +kernel)) (by decide +kernel) (by decide +kernel)) b226 (by decide +kernel) (by decide +kernel)) (by decide +kernel) (by decide +kernel)) hI207 (qf_le (b' := (T205 22 6).toInt) (lo' := 0) (hi' := (64 * (T205 12 2).toInt) - 1) r210 (by omega) (by omega) (by omega)) (by show x2.toInt < (T205 12 2).toInt; first | with_reducible assumption | omega) (fun {FS69_232} {LFS69_232} hI233 g234 r235 => ?_)
          have r236 : qf (FS69_232 26) 0 (FS69_232 22 6).toInt 0 ((64 * (FS69_232 12 2).toInt) - 1) := r235
          clear r235
          have q237 : (0) ≤ (FS69_232 22 6).toInt ∧ (FS69_232 22 6).toInt ≤ (192) := (show B 0 192 (FS69_232 22 6) from hI233 22 6)
          have g239 := agc_tr (agc_refl (fs := [2206]) (rs := [26, 999]) (F := T175)) g208 (by decide +kernel) (by decide +kernel)
          have g238 := agc_tr g239 g234 (by decide +kernel) (by decide +kernel)
          have e240 : (FS69_232 12 2).toInt = (F 12 2).toInt := (congrArg Int32.toInt (((g234.1 12 2 rfl rfl).trans (g208.1 12 2 rfl rfl)).trans (g178.1 12 2 rfl rfl))).trans rfl
          have e241 : (x8_204 + 1).toInt = ((x8_204).toInt + 1) := (t_add b226 cqb_1_1_1 (by decide +kernel) (by decide +kernel)).trans (by rw [cqn_1])
          have q242 : (1) ≤ (x8_204 + 1).toInt ∧ (x8_204 + 1).toInt ≤ (2) := (show B 1 2 (x8_204 + 1) from B_w (B_add b226 cqb_1_1_1 (by decide +kernel) (by decide +kernel)) (by decide +kernel) (by decide +kernel))
          exact hR38 ⟨rfl, rfl, rfl, rfl, rfl, (B_w (B_add b226 cqb_1_1_1 (by decide +kernel) (by decide +kernel)) (by decide +kernel) (by decide +kernel)), _, _, rfl, hI233, g238, (qf_le (b' := (FS69_232 22 6).toInt) (lo' := 0) (hi' := (64 * (FS69_232 12 2).toInt) - 1) r236 (by omega) (by omega) (by omega))⟩ (by show (2 - (x8_204 + 1).toInt).toNat < (2 - x8_204.toInt).toNat; omega)
    · have b243 : B 2 2 (F 12 6) := B_eq hcs cqb_2_2_2
      have q244 : (2) ≤ (F 12 6).toInt ∧ (F 12 6).toInt ≤ (2) := (show B 2 2 (F 12 6) from B_w b243 (by decide +kernel) (by decide +kernel))
      have b245 : B 0 3 (x4) := ⟨by omega, by omega⟩
      refine ⟨(show c_cl UL 12 = 7 from cl_12), ?_⟩
      refine ⟨(show ¬ ((13 : Nat) = NU) from by decide +kernel), ?_⟩
      refine ⟨(show c_cl UL 13 = 902 from cl_13), ?_⟩
      refine ⟨(show vp_in (x2) 3 from vp_B b_x2 (by decide +kernel) (by decide +kernel)), ?_⟩
      refine ⟨(show ¬ ((14 : Nat) = NU) from by decide +kernel), ?_⟩
      refine ⟨(show c_cl UL 14 = 902 from cl_14), ?_⟩
      refine ⟨(show vp_in (x2) 3 from vp_B b_x2 (by decide +kernel) (by decide +kernel)), ?_⟩
      refine ⟨fun yx1 yx2 yx5 yx6 yx7 yS => (12 : Nat) = yx1 ∧ x2 = yx2 ∧ (x3 * (F 13 x2.toNatClampNeg)) = yx5 ∧ (x4 * (F 14 x2.toNatClampNeg)) = yx6 ∧ B 0 2 yx7 ∧ ∃ (T251 : cF) (LT251 : cL), yS = (T251, LT251, PC a b P) ∧ IMc T251 ∧ agc [2206] [26, 999] F T251 ∧ (qf (T251 26) 0 (T251 22 6).toInt 0 ((64 * (T251 12 2).toInt) - 1)), fun yx1 yx2 yx5 yx6 yx7 yS => (2 - yx7.toInt).toNat, ⟨rfl, rfl, rfl, rfl, (B_w cqb_0_0_0 (by decide +kernel) (by decide +kernel)), _, _, rfl, hI, (agc_refl (fs := [2206]) (rs := [26, 999]) (F := F)), (qf_le (b' := (F 22 6).toInt) (lo' := 0) (hi' := (64 * (F 12 2).toInt) - 1) pre0 (by omega) (by omega) (by omega))⟩, fun x1_246 x2_247 x5_248 x6_249 x7_250 ST251 hIv => ?_⟩
      obtain ⟨rfl, rfl, rfl, rfl, b252, T251, LT251, rfl, hI253, g254, r255⟩ := hIv
      suffices hs : ∀ (R24 : Nat → Int32 → Int32 → Int32 → Int32 → cs → Prop), (∀ zx1 zx2 zx5 zx6 zx7 zS, ((12 : Nat) = zx1 ∧ x2 = zx2 ∧ (x3 * (F 13 x2.toNatClampNeg)) = zx5 ∧ (x4 * (F 14 x2.toNatClampNeg)) = zx6 ∧ B 0 2 zx7 ∧ ∃ (T251 : cF) (LT251 : cL), zS = (T251, LT251, PC a b P) ∧ IMc T251 ∧ agc [2206] [26, 999] F T251 ∧ (qf (T251 26) 0 (T251 22 6).toInt 0 ((64 * (T251 12 2).toInt) - 1))) → (2 - zx7.toInt).toNat < (2 - x7_250.toInt).toNat → R24 zx1 zx2 zx5 zx6 zx7 zS) → b_Sc_addStretch_24 UL 22 12 x2 (x3 * (F 13 x2.toNatClampNeg)) (x4 * (F 14 x2.toNatClampNeg)) x7_250 (T251, LT251, PC a b P) R24 K from hs _ (fun _ _ _ _ _ _ h1 h2 => ⟨h1, h2⟩)
      intro R24 hR240
      have hR24 := fun {zx1} {zx2} {zx5} {zx6} {zx7} {zS} => hR240 zx1 zx2 zx5 zx6 zx7 zS
      have q256 : (0) ≤ (T251 22 6).toInt ∧ (T251 22 6).toInt ≤ (192) := (show B 0 192 (T251 22 6) from hI253 22 6)
      unfold b_Sc_addStretch_24
      refine ⟨(show c_cl UL 12 = 7 from cl_12), ?_⟩
      refine ⟨(show ¬ ((14 : Nat) = NU) from by decide +kernel), ?_⟩
      refine ⟨(show c_cl UL 14 = 902 from cl_14), ?_⟩
      refine ⟨(show vp_in (x2) 3 from vp_B b_x2 (by decide +kernel) (by decide +kernel)), ?_⟩
      refine ⟨fun hc => ?_, fun hc => ?_⟩
      · have r257 : 1 ≤ (F 14 x2.toNatClampNeg).toInt ∧ (F 14 x2.toNatClampNeg).toInt ≤ (F 12 6).toInt := qf_at pre5 (x := x2) (by omega) (by omega)
        have hq258 := hc
        have b259 : B 1 2 (x7_250) := B_w (B_leR (B_eq (congrFun (g254.2 14 rfl rfl) x2.toNatClampNeg) (show B 1 2 (F 14 x2.toNatClampNeg) from sB_14 hI b_x2 (by decide +kernel) (by decide +kernel))) b252 hq258) (by decide +kernel) (by decide +kernel)
        have q260 : (1) ≤ (F 14 x2.toNatClampNeg).toInt ∧ (F 14 x2.toNatClampNeg).toInt ≤ (2) := (show B 1 2 (F 14 x2.toNatClampNeg) from sB_14 hI b_x2 (by decide +kernel) (by decide +kernel))
        have e261 : (T251 14 x2.toNatClampNeg).toInt = (F 14 x2.toNatClampNeg).toInt := (congrArg Int32.toInt (congrFun (g254.2 14 rfl rfl) x2.toNatClampNeg)).trans rfl
        have q262 : (1) ≤ (x7_250).toInt ∧ (x7_250).toInt ≤ (2) := (show B 1 2 (x7_250) from B_w b259 (by decide +kernel) (by decide +kernel))
        have i263 : (T251 14 x2.toNatClampNeg).toInt ≤ (x7_250).toInt := i_le hq258
        have g264 := agc_tr (agc_refl (fs := [2206]) (rs := [26, 999]) (F := F)) g254 (by decide +kernel) (by decide +kernel)
        have e265 : (T251 12 2).toInt = (F 12 2).toInt := (congrArg Int32.toInt (g254.1 12 2 rfl rfl)).trans rfl
        exact hK hI253 g264 (qf_le (b' := (T251 22 6).toInt) (lo' := 0) (hi' := (64 * (T251 12 2).toInt) - 1) r255 (by omega) (by omega) (by omega))
      · have r266 : 1 ≤ (F 14 x2.toNatClampNeg).toInt ∧ (F 14 x2.toNatClampNeg).toInt ≤ (F 12 6).toInt := qf_at pre5 (x := x2) (by omega) (by omega)
        have hq267 := (nle_lt hc)
        have b268 : B 0 1 (x7_250) := B_w (B_ltL b252 (B_eq (congrFun (g254.2 14 rfl rfl) x2.toNatClampNeg) (show B 1 2 (F 14 x2.toNatClampNeg) from sB_14 hI b_x2 (by decide +kernel) (by decide +kernel))) hq267) (by decide +kernel) (by decide +kernel)
        have q269 : (0) ≤ (x7_250).toInt ∧ (x7_250).toInt ≤ (1) := (show B 0 1 (x7_250) from B_w b268 (by decide +kernel) (by decide +kernel))
        have q270 : (1) ≤ (F 14 x2.toNatClampNeg).toInt ∧ (F 14 x2.toNatClampNeg).toInt ≤ (2) := (show B 1 2 (F 14 x2.toNatClampNeg) from sB_14 hI b_x2 (by decide +kernel) (by decide +kernel))
        have e271 : (T251 14 x2.toNatClampNeg).toInt = (F 14 x2.toNatClampNeg).toInt := (congrArg Int32.toInt (congrFun (g254.2 14 rfl rfl) x2.toNatClampNeg)).trans rfl
        have i272 : (x7_250).toInt < (T251 14 x2.toNatClampNeg).toInt := i_lt hq267
        have e283 : (T251 12 2).toInt = (F 12 2).toInt := (congrArg Int32.toInt (g254.1 12 2 rfl rfl)).trans rfl
        refine ⟨fun yx1 yx2 yx5 yx6 yx7 yx8 yS => (12 : Nat) = yx1 ∧ x2 = yx2 ∧ (x3 * (F 13 x2.toNatClampNeg)) = yx5 ∧ (x4 * (F 14 x2.toNatClampNeg)) = yx6 ∧ x7_250 = yx7 ∧ B 0 2 yx8 ∧ ∃ (T279 : cF) (LT279 : cL), yS = (T279, LT279, PC a b P) ∧ IMc T279 ∧ agc [2206] [26, 999] T251 T279 ∧ (qf (T279 26) 0 (T279 22 6).toInt 0 ((64 * (T279 12 2).toInt) - 1)), fun yx1 yx2 yx5 yx6 yx7 yx8 yS => (2 - yx8.toInt).toNat, ⟨rfl, rfl, rfl, rfl, rfl, (B_w cqb_0_0_0 (by decide +kernel) (by decide +kernel)), _, _, rfl, hI253, (agc_refl (fs := [2206]) (rs := [26, 999]) (F := T251)), (qf_le (b' := (T251 22 6).toInt) (lo' := 0) (hi' := (64 * (T251 12 2).toInt) - 1) r255 (by omega) (by omega) (by omega))⟩, fun x1_273 x2_274 x5_275 x6_276 x7_277 x8_278 ST279 hIv => ?_⟩
        obtain ⟨rfl, rfl, rfl, rfl, rfl, b280, T279, LT279, rfl, hI281, g282, r284⟩ := hIv
        suffices hs : ∀ (R38 : Nat → Int32 → Int32 → Int32 → Int32 → Int32 → cs → Prop), (∀ zx1 zx2 zx5 zx6 zx7 zx8 zS, ((12 : Nat) = zx1 ∧ x2 = zx2 ∧ (x3 * (F 13 x2.toNatClampNeg)) = zx5 ∧ (x4 * (F 14 x2.toNatClampNeg)) = zx6 ∧ x7_250 = zx7 ∧ B 0 2 zx8 ∧ ∃ (T279 : cF) (LT279 : cL), zS = (T279, LT279, PC a b P) ∧ IMc T279 ∧ agc [2206] [26, 999] T251 T279 ∧ (qf (T279 26) 0 (T279 22 6).toInt 0 ((64 * (T279 12 2).toInt) - 1))) → (2 - zx8.toInt).toNat < (2 - x8_278.toInt).toNat → R38 zx1 zx2 zx5 zx6 zx7 zx8 zS) → b_Sc_addStretch_38 UL 22 12 x2 (x3 * (F 13 x2.toNatClampNeg)) (x4 * (F 14 x2.toNatClampNeg)) x7_250 x8_278 (T279, LT279, PC a b P) R24 R38 K from hs _ (fun _ _ _ _ _ _ _ h1 h2 => ⟨h1, h2⟩)
        intro R38 hR380
        have hR38 := fun {zx1} {zx2} {zx5} {zx6} {zx7} {zx8} {zS} => hR380 zx1 zx2 zx5 zx6 zx7 zx8 zS
        have q285 : (0) ≤ (T279 22 6).toInt ∧ (T279 22 6).toInt ≤ (192) := (show B 0 192 (T279 22 6) from hI281 22 6)
        unfold b_Sc_addStretch_38
        refine ⟨(show c_cl UL 12 = 7 from cl_12), ?_⟩
        refine ⟨(show ¬ ((13 : Nat) = NU) from by decide +kernel), ?_⟩
        refine ⟨(show c_cl UL 13 = 902 from cl_13), ?_⟩
        refine ⟨(show vp_in (x2) 3 from vp_B b_x2 (by decide +kernel) (by decide +kernel)), ?_⟩
        refine ⟨fun hc => ?_, fun hc => ?_⟩
        · have r286 : 1 ≤ (F 13 x2.toNatClampNeg).toInt ∧ (F 13 x2.toNatClampNeg).toInt ≤ (F 12 5).toInt := qf_at pre4 (x := x2) (by omega) (by omega)
          have hq287 := hc
          have b288 : B 1 2 (x8_278) := B_w (B_leR (B_eq ((congrFun (g282.2 13 rfl rfl) x2.toNatClampNeg).trans (congrFun (g254.2 13 rfl rfl) x2.toNatClampNeg)) (show B 1 2 (F 13 x2.toNatClampNeg) from sB_13 hI b_x2 (by decide +kernel) (by decide +kernel))) b280 hq287) (by decide +kernel) (by decide +kernel)
          have q289 : (1) ≤ (F 13 x2.toNatClampNeg).toInt ∧ (F 13 x2.toNatClampNeg).toInt ≤ (2) := (show B 1 2 (F 13 x2.toNatClampNeg) from sB_13 hI b_x2 (by decide +kernel) (by decide +kernel))
          have e290 : (T279 13 x2.toNatClampNeg).toInt = (F 13 x2.toNatClampNeg).toInt := (congrArg Int32.toInt ((congrFun (g282.2 13 rfl rfl) x2.toNatClampNeg).trans (congrFun (g254.2 13 rfl rfl) x2.toNatClampNeg))).trans rfl
          have q291 : (1) ≤ (x8_278).toInt ∧ (x8_278).toInt ≤ (2) := (show B 1 2 (x8_278) from B_w b288 (by decide +kernel) (by decide +kernel))
          have i292 : (T279 13 x2.toNatClampNeg).toInt ≤ (x8_278).toInt := i_le hq287
          have g294 := agc_tr (agc_refl (fs := [2206]) (rs := [26, 999]) (F := F)) g254 (by decide +kernel) (by decide +kernel)
          have g293 := agc_tr g294 g282 (by decide +kernel) (by decide +kernel)
          have e295 : (T279 12 2).toInt = (F 12 2).toInt := (congrArg Int32.toInt ((g282.1 12 2 rfl rfl).trans (g254.1 12 2 rfl rfl))).trans rfl
          have e296 : (x7_250 + 1).toInt = ((x7_250).toInt + 1) := (t_add b268 cqb_1_1_1 (by decide +kernel) (by decide +kernel)).trans (by rw [cqn_1])
          have q297 : (1) ≤ (x7_250 + 1).toInt ∧ (x7_250 + 1).toInt ≤ (2) := (show B 1 2 (x7_250 + 1) from B_w (B_add b268 cqb_1_1_1 (by decide +kernel) (by decide +kernel)) (by decide +kernel) (by decide +kernel))
          exact hR24 ⟨rfl, rfl, rfl, rfl, (B_w (B_add b268 cqb_1_1_1 (by decide +kernel) (by decide +kernel)) (by decide +kernel) (by decide +kernel)), _, _, rfl, hI281, g293, (qf_le (b' := (T279 22 6).toInt) (lo' := 0) (hi' := (64 * (T279 12 2).toInt) - 1) r284 (by omega) (by omega) (by omega))⟩ (by show (2 - (x7_250 + 1).toInt).toNat < (2 - x7_250.toInt).toNat; omega)
        · have r298 : 1 ≤ (F 13 x2.toNatClampNeg).toInt ∧ (F 13 x2.toNatClampNeg).toInt ≤ (F 12 5).toInt := qf_at pre4 (x := x2) (by omega) (by omega)
          have hq299 := (nle_lt hc)
          have b300 : B 0 1 (x8_278) := B_w (B_ltL b280 (B_eq ((congrFun (g282.2 13 rfl rfl) x2.toNatClampNeg).trans (congrFun (g254.2 13 rfl rfl) x2.toNatClampNeg)) (show B 1 2 (F 13 x2.toNatClampNeg) from sB_13 hI b_x2 (by decide +kernel) (by decide +kernel))) hq299) (by decide +kernel) (by decide +kernel)
          have q301 : (0) ≤ (x8_278).toInt ∧ (x8_278).toInt ≤ (1) := (show B 0 1 (x8_278) from B_w b300 (by decide +kernel) (by decide +kernel))
          have q302 : (1) ≤ (F 13 x2.toNatClampNeg).toInt ∧ (F 13 x2.toNatClampNeg).toInt ≤ (2) := (show B 1 2 (F 13 x2.toNatClampNeg) from sB_13 hI b_x2 (by decide +kernel) (by decide +kernel))
          have e303 : (T279 13 x2.toNatClampNeg).toInt = (F 13 x2.toNatClampNeg).toInt := (congrArg Int32.toInt ((congrFun (g282.2 13 rfl rfl) x2.toNatClampNeg).trans (congrFun (g254.2 13 rfl rfl) x2.toNatClampNeg))).trans rfl
          have i304 : (x8_278).toInt < (T279 13 x2.toNatClampNeg).toInt := i_lt hq299
          refine ⟨(show ¬ ((17 : Nat) = NU) from by decide +kernel), ?_⟩
          refine ⟨(show c_cl UL 17 = 902 from cl_17), ?_⟩
          refine ⟨(show vp_in (x2) 3 from vp_B b_x2 (by decide +kernel) (by decide +kernel)), ?_⟩
          have e305 : (T279 12 2).toInt = (F 12 2).toInt := (congrArg Int32.toInt ((g282.1 12 2 rfl rfl).trans (g254.1 12 2 rfl rfl))).trans rfl
          refine h_Sc_addBlock_u22 b_x2 (B_w (B_add (B_add (B_mul (B_add (B_mul b245 (show B 1 2 (F 14 x2.toNatClampNeg) from sB_14 hI b_x2 (by decide +kernel) (by decide +kernel)) (by decide +kernel) (by decide +kernel) (by decide +kernel)) b268 (by decide +kernel) (by decide +kernel)) (B_eq ((congrFun (g282.2 17 rfl rfl) x2.toNatClampNeg).trans (congrFun (g254.2 17 rfl rfl) x2.toNatClampNeg)) (show B 0 8 (F 17 x2.toNatClampNeg) from hI 17 x2.toNatClampNeg)) (by decide +kernel) (by decide +kernel) (by decide +kernel)) (B_mul b167 (show B 1 2 (F 13 x2.toNatClampNeg) from sB_13 hI b_x2 (by decide +kernel) (by decide +kernel)) (by decide +kernel) (by decide +kernel) (by decide +kernel)) (by decide +kernel) (by decide +kernel)) b300 (by decide +kernel) (by decide +kernel)) (by decide +kernel) (by decide +kernel)) hI281 (qf_le (b' := (T279 22 6).toInt) (lo' := 0) (hi' := (64 * (T279 12 2).toInt) - 1) r284 (by omega) (by omega) (by omega)) (by show x2.toInt < (T279 12 2).toInt; first | with_reducible assumption | omega) (fun {FS69_306} {LFS69_306} hI307 g308 r309 => ?_)
          have r310 : qf (FS69_306 26) 0 (FS69_306 22 6).toInt 0 ((64 * (FS69_306 12 2).toInt) - 1) := r309
          clear r309
          have q311 : (0) ≤ (FS69_306 22 6).toInt ∧ (FS69_306 22 6).toInt ≤ (192) := (show B 0 192 (FS69_306 22 6) from hI307 22 6)
          have g313 := agc_tr (agc_refl (fs := [2206]) (rs := [26, 999]) (F := T251)) g282 (by decide +kernel) (by decide +kernel)
          have g312 := agc_tr g313 g308 (by decide +kernel) (by decide +kernel)
          have e314 : (FS69_306 12 2).toInt = (F 12 2).toInt := (congrArg Int32.toInt (((g308.1 12 2 rfl rfl).trans (g282.1 12 2 rfl rfl)).trans (g254.1 12 2 rfl rfl))).trans rfl
          have e315 : (x8_278 + 1).toInt = ((x8_278).toInt + 1) := (t_add b300 cqb_1_1_1 (by decide +kernel) (by decide +kernel)).trans (by rw [cqn_1])
          have q316 : (1) ≤ (x8_278 + 1).toInt ∧ (x8_278 + 1).toInt ≤ (2) := (show B 1 2 (x8_278 + 1) from B_w (B_add b300 cqb_1_1_1 (by decide +kernel) (by decide +kernel)) (by decide +kernel) (by decide +kernel))
          exact hR38 ⟨rfl, rfl, rfl, rfl, rfl, (B_w (B_add b300 cqb_1_1_1 (by decide +kernel) (by decide +kernel)) (by decide +kernel) (by decide +kernel)), _, _, rfl, hI307, g312, (qf_le (b' := (FS69_306 22 6).toInt) (lo' := 0) (hi' := (64 * (FS69_306 12 2).toInt) - 1) r310 (by omega) (by omega) (by omega))⟩ (by show (2 - (x8_278 + 1).toInt).toNat < (2 - x8_278.toInt).toNat; omega)
set_option maxRecDepth 20000 in
set_option maxHeartbeats 4000000 in
theorem h_Sc_arrangeTogether_u22_x112 {a : Bool} {b : Bool} {P : Nat → Nat → Nat} {F : cF} {L : cL} {K : cs → Prop} (hI : IMc F) (pre0 : qf (F 26) 0 (F 22 6).toInt 0 ((64 * (F 12 2).toInt) - 1)) (pre1 : qf (F 23) 0 (F 22 0).toInt 0 ((F 12 2).toInt - 1)) (pre2 : qf (F 13) 0 (F 12 2).toInt 1 (F 12 5).toInt) (pre3 : qf (F 14) 0 (F 12 2).toInt 1 (F 12 6).toInt) (pre4 : ((F 12 5).toInt = 1) ∨ ((F 12 7).toInt ≤ 4)) (pre5 : ((F 12 6).toInt = 1) ∨ ((F 12 8).toInt ≤ 4)) (hK : ∀ {Z : cF} {LZ : cL}, IMc Z → agc [2206] [26, 999] F Z → (qf (Z 26) 0 (Z 22 6).toInt 0 ((64 * (Z 12 2).toInt) - 1)) → K (Z, LZ, PC a b P)) : p_Sc_arrangeTogether UL 22 12 (F, L, PC a b P) K := by
  have q1 : (0) ≤ (F 22 6).toInt ∧ (F 22 6).toInt ≤ (192) := (show B 0 192 (F 22 6) from hI 22 6)
  have q2 : (0) ≤ (F 22 0).toInt ∧ (F 22 0).toInt ≤ (3) := (show B 0 3 (F 22 0) from hI 22 0)
  have q3 : (1) ≤ (F 12 2).toInt ∧ (F 12 2).toInt ≤ (3) := (show B 1 3 (F 12 2) from hI 12 2)
  have q4 : (1) ≤ (F 12 5).toInt ∧ (F 12 5).toInt ≤ (2) := (show B 1 2 (F 12 5) from hI 12 5)
  have q5 : (1) ≤ (F 12 7).toInt ∧ (F 12 7).toInt ≤ (8) := (show B 1 8 (F 12 7) from hI 12 7)
  have q6 : (1) ≤ (F 12 6).toInt ∧ (F 12 6).toInt ≤ (2) := (show B 1 2 (F 12 6) from hI 12 6)
  have q7 : (1) ≤ (F 12 8).toInt ∧ (F 12 8).toInt ≤ (8) := (show B 1 8 (F 12 8) from hI 12 8)
  unfold p_Sc_arrangeTogether
  refine ⟨fun yx1 yx2 yS => (12 : Nat) = yx1 ∧ B 0 8 yx2 ∧ ∃ (T10 : cF) (LT10 : cL), yS = (T10, LT10, PC a b P) ∧ IMc T10 ∧ agc [2206] [26, 999] F T10 ∧ (qf (T10 26) 0 (T10 22 6).toInt 0 ((64 * (T10 12 2).toInt) - 1)), fun yx1 yx2 yS => (8 - yx2.toInt).toNat, ⟨rfl, (B_w cqb_0_0_0 (by decide +kernel) (by decide +kernel)), _, _, rfl, hI, (agc_refl (fs := [2206]) (rs := [26, 999]) (F := F)), (qf_le (b' := (F 22 6).toInt) (lo' := 0) (hi' := (64 * (F 12 2).toInt) - 1) pre0 (by omega) (by omega) (by omega))⟩, fun x1_8 x2_9 ST10 hIv => ?_⟩
  obtain ⟨rfl, b11, T10, LT10, rfl, hI12, g13, r14⟩ := hIv
  suffices hs : ∀ (R2 : Nat → Int32 → cs → Prop), (∀ zx1 zx2 zS, ((12 : Nat) = zx1 ∧ B 0 8 zx2 ∧ ∃ (T10 : cF) (LT10 : cL), zS = (T10, LT10, PC a b P) ∧ IMc T10 ∧ agc [2206] [26, 999] F T10 ∧ (qf (T10 26) 0 (T10 22 6).toInt 0 ((64 * (T10 12 2).toInt) - 1))) → (8 - zx2.toInt).toNat < (8 - x2_9.toInt).toNat → R2 zx1 zx2 zS) → b_Sc_arrangeTogether_2 UL 22 12 x2_9 (T10, LT10, PC a b P) R2 K from hs _ (fun _ _ _ h1 h2 => ⟨h1, h2⟩)
  intro R2 hR20
  have hR2 := fun {zx1} {zx2} {zS} => hR20 zx1 zx2 zS
  have q15 : (0) ≤ (T10 22 6).toInt ∧ (T10 22 6).toInt ≤ (192) := (show B 0 192 (T10 22 6) from hI12 22 6)
  unfold b_Sc_arrangeTogether_2
  refine ⟨(show c_cl UL 12 = 7 from cl_12), ?_⟩
  refine ⟨fun hc => ?_, fun hc => ?_⟩
  · have hq16 := hc
    have b17 : B 1 8 (x2_9) := B_w (B_leR (B_eq (g13.1 12 8 rfl rfl) (show B 1 8 (F 12 8) from hI 12 8)) b11 hq16) (by decide +kernel) (by decide +kernel)
    have e18 : (T10 12 8).toInt = (F 12 8).toInt := (congrArg Int32.toInt (g13.1 12 8 rfl rfl)).trans rfl
    have q19 : (1) ≤ (x2_9).toInt ∧ (x2_9).toInt ≤ (8) := (show B 1 8 (x2_9) from B_w b17 (by decide +kernel) (by decide +kernel))
    have i20 : (T10 12 8).toInt ≤ (x2_9).toInt := i_le hq16
    have g21 := agc_tr (agc_refl (fs := [2206]) (rs := [26, 999]) (F := F)) g13 (by decide +kernel) (by decide +kernel)
    have e22 : (T10 12 2).toInt = (F 12 2).toInt := (congrArg Int32.toInt (g13.1 12 2 rfl rfl)).trans rfl
    exact hK hI12 g21 (qf_le (b' := (T10 22 6).toInt) (lo' := 0) (hi' := (64 * (T10 12 2).toInt) - 1) r14 (by omega) (by omega) (by omega))
  · have hq23 := (nle_lt hc)
    have b24 : B 0 7 (x2_9) := B_w (B_ltL b11 (B_eq (g13.1 12 8 rfl rfl) (show B 1 8 (F 12 8) from hI 12 8)) hq23) (by decide +kernel) (by decide +kernel)
    have q25 : (0) ≤ (x2_9).toInt ∧ (x2_9).toInt ≤ (7) := (show B 0 7 (x2_9) from B_w b24 (by decide +kernel) (by decide +kernel))
    have e26 : (T10 12 8).toInt = (F 12 8).toInt := (congrArg Int32.toInt (g13.1 12 8 rfl rfl)).trans rfl
    have i27 : (x2_9).toInt < (T10 12 8).toInt := i_lt hq23
    have e35 : (T10 12 2).toInt = (F 12 2).toInt := (congrArg Int32.toInt (g13.1 12 2 rfl rfl)).trans rfl
    refine ⟨fun yx1 yx2 yx3 yS => (12 : Nat) = yx1 ∧ x2_9 = yx2 ∧ B 0 8 yx3 ∧ ∃ (T31 : cF) (LT31 : cL), yS = (T31, LT31, PC a b P) ∧ IMc T31 ∧ agc [2206] [26, 999] T10 T31 ∧ (qf (T31 26) 0 (T31 22 6).toInt 0 ((64 * (T31 12 2).toInt) - 1)), fun yx1 yx2 yx3 yS => (8 - yx3.toInt).toNat, ⟨rfl, rfl, (B_w cqb_0_0_0 (by decide +kernel) (by decide +kernel)), _, _, rfl, hI12, (agc_refl (fs := [2206]) (rs := [26, 999]) (F := T10)), (qf_le (b' := (T10 22 6).toInt) (lo' := 0) (hi' := (64 * (T10 12 2).toInt) - 1) r14 (by omega) (by omega) (by omega))⟩, fun x1_28 x2_29 x3_30 ST31 hIv => ?_⟩
    obtain ⟨rfl, rfl, b32, T31, LT31, rfl, hI33, g34, r36⟩ := hIv
    suffices hs : ∀ (R12 : Nat → Int32 → Int32 → cs → Prop), (∀ zx1 zx2 zx3 zS, ((12 : Nat) = zx1 ∧ x2_9 = zx2 ∧ B 0 8 zx3 ∧ ∃ (T31 : cF) (LT31 : cL), zS = (T31, LT31, PC a b P) ∧ IMc T31 ∧ agc [2206] [26, 999] T10 T31 ∧ (qf (T31 26) 0 (T31 22 6).toInt 0 ((64 * (T31 12 2).toInt) - 1))) → (8 - zx3.toInt).toNat < (8 - x3_30.toInt).toNat → R12 zx1 zx2 zx3 zS) → b_Sc_arrangeTogether_12 UL 22 12 x2_9 x3_30 (T31, LT31, PC a b P) R2 R12 K from hs _ (fun _ _ _ _ h1 h2 => ⟨h1, h2⟩)
    intro R12 hR120
    have hR12 := fun {zx1} {zx2} {zx3} {zS} => hR120 zx1 zx2 zx3 zS
    have q37 : (0) ≤ (T31 22 6).toInt ∧ (T31 22 6).toInt ≤ (192) := (show B 0 192 (T31 22 6) from hI33 22 6)
    unfold b_Sc_arrangeTogether_12
    refine ⟨(show c_cl UL 12 = 7 from cl_12), ?_⟩
    refine ⟨fun hc => ?_, fun hc => ?_⟩
    · have hq38 := hc
      have b39 : B 1 8 (x3_30) := B_w (B_leR (B_eq ((g34.1 12 7 rfl rfl).trans (g13.1 12 7 rfl rfl)) (show B 1 8 (F 12 7) from hI 12 7)) b32 hq38) (by decide +kernel) (by decide +kernel)
      have e40 : (T31 12 7).toInt = (F 12 7).toInt := (congrArg Int32.toInt ((g34.1 12 7 rfl rfl).trans (g13.1 12 7 rfl rfl))).trans rfl
      have q41 : (1) ≤ (x3_30).toInt ∧ (x3_30).toInt ≤ (8) := (show B 1 8 (x3_30) from B_w b39 (by decide +kernel) (by decide +kernel))
      have i42 : (T31 12 7).toInt ≤ (x3_30).toInt := i_le hq38
      have g44 := agc_tr (agc_refl (fs := [2206]) (rs := [26, 999]) (F := F)) g13 (by decide +kernel) (by decide +kernel)
      have g43 := agc_tr g44 g34 (by decide +kernel) (by decide +kernel)
      have e45 : (T31 12 2).toInt = (F 12 2).toInt := (congrArg Int32.toInt ((g34.1 12 2 rfl rfl).trans (g13.1 12 2 rfl rfl))).trans rfl
      have e46 : (x2_9 + 1).toInt = ((x2_9).toInt + 1) := (t_add b24 cqb_1_1_1 (by decide +kernel) (by decide +kernel)).trans (by rw [cqn_1])
      have q47 : (1) ≤ (x2_9 + 1).toInt ∧ (x2_9 + 1).toInt ≤ (8) := (show B 1 8 (x2_9 + 1) from B_w (B_add b24 cqb_1_1_1 (by decide +kernel) (by decide +kernel)) (by decide +kernel) (by decide +kernel))
      exact hR2 ⟨rfl, (B_w (B_add b24 cqb_1_1_1 (by decide +kernel) (by decide +kernel)) (by decide +kernel) (by decide +kernel)), _, _, rfl, hI33, g43, (qf_le (b' := (T31 22 6).toInt) (lo' := 0) (hi' := (64 * (T31 12 2).toInt) - 1) r36 (by omega) (by omega) (by omega))⟩ (by show (8 - (x2_9 + 1).toInt).toNat < (8 - x2_9.toInt).toNat; omega)
    · have hq48 := (nle_lt hc)
      have b49 : B 0 7 (x3_30) := B_w (B_ltL b32 (B_eq ((g34.1 12 7 rfl rfl).trans (g13.1 12 7 rfl rfl)) (show B 1 8 (F 12 7) from hI 12 7)) hq48) (by decide +kernel) (by decide +kernel)
      have q50 : (0) ≤ (x3_30).toInt ∧ (x3_30).toInt ≤ (7) := (show B 0 7 (x3_30) from B_w b49 (by decide +kernel) (by decide +kernel))
      have e51 : (T31 12 7).toInt = (F 12 7).toInt := (congrArg Int32.toInt ((g34.1 12 7 rfl rfl).trans (g13.1 12 7 rfl rfl))).trans rfl
      have i52 : (x3_30).toInt < (T31 12 7).toInt := i_lt hq48
      have e61 : (T31 12 2).toInt = (F 12 2).toInt := (congrArg Int32.toInt ((g34.1 12 2 rfl rfl).trans (g13.1 12 2 rfl rfl))).trans rfl
      refine ⟨fun yx1 yx2 yx3 yx4 yS => (12 : Nat) = yx1 ∧ x2_9 = yx2 ∧ x3_30 = yx3 ∧ B 0 3 yx4 ∧ ∃ (T57 : cF) (LT57 : cL), yS = (T57, LT57, PC a b P) ∧ IMc T57 ∧ agc [2206] [26, 999] T31 T57 ∧ (qf (T57 26) 0 (T57 22 6).toInt 0 ((64 * (T57 12 2).toInt) - 1)), fun yx1 yx2 yx3 yx4 yS => (3 - yx4.toInt).toNat, ⟨rfl, rfl, rfl, (B_w cqb_0_0_0 (by decide +kernel) (by decide +kernel)), _, _, rfl, hI33, (agc_refl (fs := [2206]) (rs := [26, 999]) (F := T31)), (qf_le (b' := (T31 22 6).toInt) (lo' := 0) (hi' := (64 * (T31 12 2).toInt) - 1) r36 (by omega) (by omega) (by omega))⟩, fun x1_53 x2_54 x3_55 x4_56 ST57 hIv => ?_⟩
      obtain ⟨rfl, rfl, rfl, b58, T57, LT57, rfl, hI59, g60, r62⟩ := hIv
      suffices hs : ∀ (R23 : Nat → Int32 → Int32 → Int32 → cs → Prop), (∀ zx1 zx2 zx3 zx4 zS, ((12 : Nat) = zx1 ∧ x2_9 = zx2 ∧ x3_30 = zx3 ∧ B 0 3 zx4 ∧ ∃ (T57 : cF) (LT57 : cL), zS = (T57, LT57, PC a b P) ∧ IMc T57 ∧ agc [2206] [26, 999] T31 T57 ∧ (qf (T57 26) 0 (T57 22 6).toInt 0 ((64 * (T57 12 2).toInt) - 1))) → (3 - zx4.toInt).toNat < (3 - x4_56.toInt).toNat → R23 zx1 zx2 zx3 zx4 zS) → b_Sc_arrangeTogether_23 UL 22 12 x2_9 x3_30 x4_56 (T57, LT57, PC a b P) R2 R12 R23 K from hs _ (fun _ _ _ _ _ h1 h2 => ⟨h1, h2⟩)
      intro R23 hR230
      have hR23 := fun {zx1} {zx2} {zx3} {zx4} {zS} => hR230 zx1 zx2 zx3 zx4 zS
      have q63 : (0) ≤ (T57 22 6).toInt ∧ (T57 22 6).toInt ≤ (192) := (show B 0 192 (T57 22 6) from hI59 22 6)
      unfold b_Sc_arrangeTogether_23
      refine ⟨fun hc => ?_, fun hc => ?_⟩
      · have hq64 := hc
        have e65 : (T57 22 0).toInt = (F 22 0).toInt := (congrArg Int32.toInt (((g60.1 22 0 rfl rfl).trans (g34.1 22 0 rfl rfl)).trans (g13.1 22 0 rfl rfl))).trans rfl
        have q66 : (0) ≤ (x4_56).toInt ∧ (x4_56).toInt ≤ (3) := (show B 0 3 (x4_56) from B_w b58 (by decide +kernel) (by decide +kernel))
        have i67 : (T57 22 0).toInt ≤ (x4_56).toInt := i_le hq64
        have g69 := agc_tr (agc_refl (fs := [2206]) (rs := [26, 999]) (F := T10)) g34 (by decide +kernel) (by decide +kernel)
        have g68 := agc_tr g69 g60 (by decide +kernel) (by decide +kernel)
        have e70 : (T57 12 2).toInt = (F 12 2).toInt := (congrArg Int32.toInt (((g60.1 12 2 rfl rfl).trans (g34.1 12 2 rfl rfl)).trans (g13.1 12 2 rfl rfl))).trans rfl
        have e71 : (x3_30 + 1).toInt = ((x3_30).toInt + 1) := (t_add b49 cqb_1_1_1 (by decide +kernel) (by decide +kernel)).trans (by rw [cqn_1])
        have q72 : (1) ≤ (x3_30 + 1).toInt ∧ (x3_30 + 1).toInt ≤ (8) := (show B 1 8 (x3_30 + 1) from B_w (B_add b49 cqb_1_1_1 (by decide +kernel) (by decide +kernel)) (by decide +kernel) (by decide +kernel))
        exact hR12 ⟨rfl, rfl, (B_w (B_add b49 cqb_1_1_1 (by decide +kernel) (by decide +kernel)) (by decide +kernel) (by decide +kernel)), _, _, rfl, hI59, g68, (qf_le (b' := (T57 22 6).toInt) (lo' := 0) (hi' := (64 * (T57 12 2).toInt) - 1) r62 (by omega) (by omega) (by omega))⟩ (by show (8 - (x3_30 + 1).toInt).toNat < (8 - x3_30.toInt).toNat; omega)
      · have hq73 := (nle_lt hc)
        have b74 : B 0 2 (x4_56) := B_w (B_ltL b58 (B_eq (((g60.1 22 0 rfl rfl).trans (g34.1 22 0 rfl rfl)).trans (g13.1 22 0 rfl rfl)) (show B 0 3 (F 22 0) from hI 22 0)) hq73) (by decide +kernel) (by decide +kernel)
        have b75 : B 1 3 (F 22 0) := B_w (B_eq (Eq.symm (((g60.1 22 0 rfl rfl).trans (g34.1 22 0 rfl rfl)).trans (g13.1 22 0 rfl rfl))) (B_ltR b58 (B_eq (((g60.1 22 0 rfl rfl).trans (g34.1 22 0 rfl rfl)).trans (g13.1 22 0 rfl rfl)) (show B 0 3 (F 22 0) from hI 22 0)) hq73)) (by decide +kernel) (by decide +kernel)
        have q76 : (1) ≤ (F 22 0).toInt ∧ (F 22 0).toInt ≤ (3) := (show B 1 3 (F 22 0) from B_w b75 (by decide +kernel) (by decide +kernel))
        have q77 : (0) ≤ (x4_56).toInt ∧ (x4_56).toInt ≤ (2) := (show B 0 2 (x4_56) from B_w b74 (by decide +kernel) (by decide +kernel))
        have e78 : (T57 22 0).toInt = (F 22 0).toInt := (congrArg Int32.toInt (((g60.1 22 0 rfl rfl).trans (g34.1 22 0 rfl rfl)).trans (g13.1 22 0 rfl rfl))).trans rfl
        have i79 : (x4_56).toInt < (T57 22 0).toInt := i_lt hq73
        refine ⟨(show ¬ ((23 : Nat) = NU) from by decide +kernel), ?_⟩
        refine ⟨(show c_cl UL 23 = 902 from cl_23), ?_⟩
        refine ⟨(show vp_in (x4_56) 3 from vp_B b74 (by decide +kernel) (by decide +kernel)), ?_⟩
        have r80 : 0 ≤ (F 23 x4_56.toNatClampNeg).toInt ∧ (F 23 x4_56.toNatClampNeg).toInt ≤ ((F 12 2).toInt - 1) := qf_at pre1 (x := x4_56) (by omega) (by omega)
        have e81 : (T57 12 2).toInt = (F 12 2).toInt := (congrArg Int32.toInt (((g60.1 12 2 rfl rfl).trans (g34.1 12 2 rfl rfl)).trans (g13.1 12 2 rfl rfl))).trans rfl
        have q82 : (0) ≤ (F 23 x4_56.toNatClampNeg).toInt ∧ (F 23 x4_56.toNatClampNeg).toInt ≤ (2) := (show B 0 2 (F 23 x4_56.toNatClampNeg) from hI 23 x4_56.toNatClampNeg)
        have e83 : (T57 23 x4_56.toNatClampNeg).toInt = (F 23 x4_56.toNatClampNeg).toInt := (congrArg Int32.toInt (((congrFun (g60.2 23 rfl rfl) x4_56.toNatClampNeg).trans (congrFun (g34.2 23 rfl rfl) x4_56.toNatClampNeg)).trans (congrFun (g13.2 23 rfl rfl) x4_56.toNatClampNeg))).trans rfl
        have e84 : (T57 12 7).toInt = (F 12 7).toInt := (congrArg Int32.toInt (((g60.1 12 7 rfl rfl).trans (g34.1 12 7 rfl rfl)).trans (g13.1 12 7 rfl rfl))).trans rfl
        have e85 : (T57 12 8).toInt = (F 12 8).toInt := (congrArg Int32.toInt (((g60.1 12 8 rfl rfl).trans (g34.1 12 8 rfl rfl)).trans (g13.1 12 8 rfl rfl))).trans rfl
        have e86 : (T57 12 5).toInt = (F 12 5).toInt := (congrArg Int32.toInt (((g60.1 12 5 rfl rfl).trans (g34.1 12 5 rfl rfl)).trans (g13.1 12 5 rfl rfl))).trans rfl
        have e87 : (T57 12 6).toInt = (F 12 6).toInt := (congrArg Int32.toInt (((g60.1 12 6 rfl rfl).trans (g34.1 12 6 rfl rfl)).trans (g13.1 12 6 rfl rfl))).trans rfl
        refine h_Sc_addStretch_u22_x112 (B_w (B_eq (((congrFun (g60.2 23 rfl rfl) x4_56.toNatClampNeg).trans (congrFun (g34.2 23 rfl rfl) x4_56.toNatClampNeg)).trans (congrFun (g13.2 23 rfl rfl) x4_56.toNatClampNeg)) (show B 0 2 (F 23 x4_56.toNatClampNeg) from hI 23 x4_56.toNatClampNeg)) (by decide +kernel) (by decide +kernel)) b49 b24 hI59 (qf_le (b' := (T57 22 6).toInt) (lo' := 0) (hi' := (64 * (T57 12 2).toInt) - 1) r62 (by omega) (by omega) (by omega)) (by show (T57 23 x4_56.toNatClampNeg).toInt < (T57 12 2).toInt; first | with_reducible assumption | omega) (by show x3_30.toInt < (T57 12 7).toInt; first | with_reducible assumption | omega) (by show x2_9.toInt < (T57 12 8).toInt; first | with_reducible assumption | omega) (qf_eq (((g60.2 13 rfl rfl).trans (g34.2 13 rfl rfl)).trans (g13.2 13 rfl rfl)) (qf_le (b' := (T57 12 2).toInt) (lo' := 1) (hi' := (T57 12 5).toInt) pre2 (by omega) (by omega) (by omega))) (qf_eq (((g60.2 14 rfl rfl).trans (g34.2 14 rfl rfl)).trans (g13.2 14 rfl rfl)) (qf_le (b' := (T57 12 2).toInt) (lo' := 1) (hi' := (T57 12 6).toInt) pre3 (by omega) (by omega) (by omega))) (by show ((T57 12 5).toInt = 1) ∨ ((T57 12 7).toInt ≤ 4); first | with_reducible assumption | omega) (by show ((T57 12 6).toInt = 1) ∨ ((T57 12 8).toInt ≤ 4); first | with_reducible assumption | omega) (fun {FS43_88} {LFS43_88} hI89 g90 r91 => ?_)
        have r92 : qf (FS43_88 26) 0 (FS43_88 22 6).toInt 0 ((64 * (FS43_88 12 2).toInt) - 1) := r91
        clear r91
        have q93 : (0) ≤ (FS43_88 22 6).toInt ∧ (FS43_88 22 6).toInt ≤ (192) := (show B 0 192 (FS43_88 22 6) from hI89 22 6)
        have g95 := agc_tr (agc_refl (fs := [2206]) (rs := [26, 999]) (F := T31)) g60 (by decide +kernel) (by decide +kernel)
        have g94 := agc_tr g95 g90 (by decide +kernel) (by decide +kernel)
        have e96 : (FS43_88 12 2).toInt = (F 12 2).toInt := (congrArg Int32.toInt ((((g90.1 12 2 rfl rfl).trans (g60.1 12 2 rfl rfl)).trans (g34.1 12 2 rfl rfl)).trans (g13.1 12 2 rfl rfl))).trans rfl
        have e97 : (x4_56 + 1).toInt = ((x4_56).toInt + 1) := (t_add b74 cqb_1_1_1 (by decide +kernel) (by decide +kernel)).trans (by rw [cqn_1])
        have q98 : (1) ≤ (x4_56 + 1).toInt ∧ (x4_56 + 1).toInt ≤ (3) := (show B 1 3 (x4_56 + 1) from B_w (B_add b74 cqb_1_1_1 (by decide +kernel) (by decide +kernel)) (by decide +kernel) (by decide +kernel))
        exact hR23 ⟨rfl, rfl, rfl, (B_w (B_add b74 cqb_1_1_1 (by decide +kernel) (by decide +kernel)) (by decide +kernel) (by decide +kernel)), _, _, rfl, hI89, g94, (qf_le (b' := (FS43_88 22 6).toInt) (lo' := 0) (hi' := (64 * (FS43_88 12 2).toInt) - 1) r92 (by omega) (by omega) (by omega))⟩ (by show (3 - (x4_56 + 1).toInt).toNat < (3 - x4_56.toInt).toNat; omega)
set_option maxRecDepth 20000 in
set_option maxHeartbeats 4000000 in
theorem h_Sc_arrangeAlone_u22_x112 {a : Bool} {b : Bool} {P : Nat → Nat → Nat} {x2 : Int32} {F : cF} {L : cL} {K : cs → Prop} (b_x2 : B 0 2 x2) (hI : IMc F) (pre0 : qf (F 26) 0 (F 22 6).toInt 0 ((64 * (F 12 2).toInt) - 1)) (pre1 : x2.toInt < (F 12 2).toInt) (hK : ∀ {Z : cF} {LZ : cL}, IMc Z → agc [2206] [26, 999] F Z → (qf (Z 26) 0 (Z 22 6).toInt 0 ((64 * (Z 12 2).toInt) - 1)) → K (Z, LZ, PC a b P)) : p_Sc_arrangeAlone UL 22 12 x2 (F, L, PC a b P) K := by
  have q1 : (0) ≤ (F 22 6).toInt ∧ (F 22 6).toInt ≤ (192) := (show B 0 192 (F 22 6) from hI 22 6)
  have q2 : (0) ≤ (x2).toInt ∧ (x2).toInt ≤ (2) := (show B 0 2 (x2) from B_w b_x2 (by decide +kernel) (by decide +kernel))
  have q3 : (1) ≤ (F 12 2).toInt ∧ (F 12 2).toInt ≤ (3) := (show B 1 3 (F 12 2) from hI 12 2)
  unfold p_Sc_arrangeAlone
  refine ⟨fun yx1 yx2 yx3 yS => (12 : Nat) = yx1 ∧ x2 = yx2 ∧ B 0 9 yx3 ∧ ∃ (T7 : cF) (LT7 : cL), yS = (T7, LT7, PC a b P) ∧ IMc T7 ∧ agc [2206] [26, 999] F T7 ∧ (qf (T7 26) 0 (T7 22 6).toInt 0 ((64 * (T7 12 2).toInt) - 1)), fun yx1 yx2 yx3 yS => (9 - yx3.toInt).toNat, ⟨rfl, rfl, (B_w cqb_0_0_0 (by decide +kernel) (by decide +kernel)), _, _, rfl, hI, (agc_refl (fs := [2206]) (rs := [26, 999]) (F := F)), (qf_le (b' := (F 22 6).toInt) (lo' := 0) (hi' := (64 * (F 12 2).toInt) - 1) pre0 (by omega) (by omega) (by omega))⟩, fun x1_4 x2_5 x3_6 ST7 hIv => ?_⟩
  obtain ⟨rfl, rfl, b8, T7, LT7, rfl, hI9, g10, r11⟩ := hIv
  suffices hs : ∀ (R2 : Nat → Int32 → Int32 → cs → Prop), (∀ zx1 zx2 zx3 zS, ((12 : Nat) = zx1 ∧ x2 = zx2 ∧ B 0 9 zx3 ∧ ∃ (T7 : cF) (LT7 : cL), zS = (T7, LT7, PC a b P) ∧ IMc T7 ∧ agc [2206] [26, 999] F T7 ∧ (qf (T7 26) 0 (T7 22 6).toInt 0 ((64 * (T7 12 2).toInt) - 1))) → (9 - zx3.toInt).toNat < (9 - x3_6.toInt).toNat → R2 zx1 zx2 zx3 zS) → b_Sc_arrangeAlone_2 UL 22 12 x2 x3_6 (T7, LT7, PC a b P) R2 K from hs _ (fun _ _ _ _ h1 h2 => ⟨h1, h2⟩)
  intro R2 hR20
  have hR2 := fun {zx1} {zx2} {zx3} {zS} => hR20 zx1 zx2 zx3 zS
  have q12 : (0) ≤ (T7 22 6).toInt ∧ (T7 22 6).toInt ≤ (192) := (show B 0 192 (T7 22 6) from hI9 22 6)
  unfold b_Sc_arrangeAlone_2
  refine ⟨(show c_cl UL 12 = 7 from cl_12), ?_⟩
  refine ⟨(show ¬ ((16 : Nat) = NU) from by decide +kernel), ?_⟩
  refine ⟨(show c_cl UL 16 = 902 from cl_16), ?_⟩
  refine ⟨(show vp_in (x2) 3 from vp_B b_x2 (by decide +kernel) (by decide +kernel)), ?_⟩
  refine ⟨fun hc => ?_, fun hc => ?_⟩
  · have hq13 := hc
    have q14 : (0) ≤ (F 16 x2.toNatClampNeg).toInt ∧ (F 16 x2.toNatClampNeg).toInt ≤ (64) := (show B 0 64 (F 16 x2.toNatClampNeg) from hI 16 x2.toNatClampNeg)
    have e15 : (T7 16 x2.toNatClampNeg).toInt = (F 16 x2.toNatClampNeg).toInt := (congrArg Int32.toInt (congrFun (g10.2 16 rfl rfl) x2.toNatClampNeg)).trans rfl
    have q16 : (0) ≤ (x3_6).toInt ∧ (x3_6).toInt ≤ (9) := (show B 0 9 (x3_6) from B_w b8 (by decide +kernel) (by decide +kernel))
    have e17 : (8 * x3_6).toInt = (8 * (x3_6).toInt) := (t_mul cqb_8_8_8 b8 (by decide +kernel) (by decide +kernel) (by decide +kernel)).trans (by rw [cqn_8])
    have q18 : (0) ≤ (8 * x3_6).toInt ∧ (8 * x3_6).toInt ≤ (72) := (show B 0 72 (8 * x3_6) from B_w (B_mul cqb_8_8_8 b8 (by decide +kernel) (by decide +kernel) (by decide +kernel)) (by decide +kernel) (by decide +kernel))
    have i19 : (T7 16 x2.toNatClampNeg).toInt ≤ (8 * x3_6).toInt := i_le hq13
    have g20 := agc_tr (agc_refl (fs := [2206]) (rs := [26, 999]) (F := F)) g10 (by decide +kernel) (by decide +kernel)
    have e21 : (T7 12 2).toInt = (F 12 2).toInt := (congrArg Int32.toInt (g10.1 12 2 rfl rfl)).trans rfl
    exact hK hI9 g20 (qf_le (b' := (T7 22 6).toInt) (lo' := 0) (hi' := (64 * (T7 12 2).toInt) - 1) r11 (by omega) (by omega) (by omega))
  · have hq22 := (nle_lt hc)
    have b23 : B 0 63 (8 * x3_6) := B_w (B_ltL (B_mul cqb_8_8_8 b8 (by decide +kernel) (by decide +kernel) (by decide +kernel)) (B_eq (congrFun (g10.2 16 rfl rfl) x2.toNatClampNeg) (show B 0 64 (F 16 x2.toNatClampNeg) from hI 16 x2.toNatClampNeg)) hq22) (by decide +kernel) (by decide +kernel)
    have b24 : B 1 64 (F 16 x2.toNatClampNeg) := B_w (B_eq (Eq.symm (congrFun (g10.2 16 rfl rfl) x2.toNatClampNeg)) (B_ltR (B_mul cqb_8_8_8 b8 (by decide +kernel) (by decide +kernel) (by decide +kernel)) (B_eq (congrFun (g10.2 16 rfl rfl) x2.toNatClampNeg) (show B 0 64 (F 16 x2.toNatClampNeg) from hI 16 x2.toNatClampNeg)) hq22)) (by decide +kernel) (by decide +kernel)
    have q25 : (0) ≤ (x3_6).toInt ∧ (x3_6).toInt ≤ (9) := (show B 0 9 (x3_6) from B_w b8 (by decide +kernel) (by decide +kernel))
    have e26 : (8 * x3_6).toInt = (8 * (x3_6).toInt) := (t_mul cqb_8_8_8 b8 (by decide +kernel) (by decide +kernel) (by decide +kernel)).trans (by rw [cqn_8])
    have q27 : (0) ≤ (8 * x3_6).toInt ∧ (8 * x3_6).toInt ≤ (63) := (show B 0 63 (8 * x3_6) from B_w b23 (by decide +kernel) (by decide +kernel))
    have q28 : (1) ≤ (F 16 x2.toNatClampNeg).toInt ∧ (F 16 x2.toNatClampNeg).toInt ≤ (64) := (show B 1 64 (F 16 x2.toNatClampNeg) from B_w b24 (by decide +kernel) (by decide +kernel))
    have e29 : (T7 16 x2.toNatClampNeg).toInt = (F 16 x2.toNatClampNeg).toInt := (congrArg Int32.toInt (congrFun (g10.2 16 rfl rfl) x2.toNatClampNeg)).trans rfl
    have i30 := i_lt hq22
    have b31 : B 0 7 (x3_6) := ⟨by omega, by omega⟩
    have i32 : (8 * x3_6).toInt < (T7 16 x2.toNatClampNeg).toInt := i_lt hq22
    have e41 : (T7 12 2).toInt = (F 12 2).toInt := (congrArg Int32.toInt (g10.1 12 2 rfl rfl)).trans rfl
    refine ⟨fun yx1 yx2 yx3 yx4 yS => (12 : Nat) = yx1 ∧ x2 = yx2 ∧ x3_6 = yx3 ∧ B 0 9 yx4 ∧ ∃ (T37 : cF) (LT37 : cL), yS = (T37, LT37, PC a b P) ∧ IMc T37 ∧ agc [2206] [26, 999] T7 T37 ∧ (qf (T37 26) 0 (T37 22 6).toInt 0 ((64 * (T37 12 2).toInt) - 1)), fun yx1 yx2 yx3 yx4 yS => (9 - yx4.toInt).toNat, ⟨rfl, rfl, rfl, (B_w cqb_0_0_0 (by decide +kernel) (by decide +kernel)), _, _, rfl, hI9, (agc_refl (fs := [2206]) (rs := [26, 999]) (F := T7)), (qf_le (b' := (T7 22 6).toInt) (lo' := 0) (hi' := (64 * (T7 12 2).toInt) - 1) r11 (by omega) (by omega) (by omega))⟩, fun x1_33 x2_34 x3_35 x4_36 ST37 hIv => ?_⟩
    obtain ⟨rfl, rfl, rfl, b38, T37, LT37, rfl, hI39, g40, r42⟩ := hIv
    suffices hs : ∀ (R18 : Nat → Int32 → Int32 → Int32 → cs → Prop), (∀ zx1 zx2 zx3 zx4 zS, ((12 : Nat) = zx1 ∧ x2 = zx2 ∧ x3_6 = zx3 ∧ B 0 9 zx4 ∧ ∃ (T37 : cF) (LT37 : cL), zS = (T37, LT37, PC a b P) ∧ IMc T37 ∧ agc [2206] [26, 999] T7 T37 ∧ (qf (T37 26) 0 (T37 22 6).toInt 0 ((64 * (T37 12 2).toInt) - 1))) → (9 - zx4.toInt).toNat < (9 - x4_36.toInt).toNat → R18 zx1 zx2 zx3 zx4 zS) → b_Sc_arrangeAlone_18 UL 22 12 x2 x3_6 x4_36 (T37, LT37, PC a b P) R2 R18 K from hs _ (fun _ _ _ _ _ h1 h2 => ⟨h1, h2⟩)
    intro R18 hR180
    have hR18 := fun {zx1} {zx2} {zx3} {zx4} {zS} => hR180 zx1 zx2 zx3 zx4 zS
    have q43 : (0) ≤ (T37 22 6).toInt ∧ (T37 22 6).toInt ≤ (192) := (show B 0 192 (T37 22 6) from hI39 22 6)
    unfold b_Sc_arrangeAlone_18
    refine ⟨(show c_cl UL 12 = 7 from cl_12), ?_⟩
    refine ⟨(show ¬ ((15 : Nat) = NU) from by decide +kernel), ?_⟩
    refine ⟨(show c_cl UL 15 = 902 from cl_15), ?_⟩
    refine ⟨(show vp_in (x2) 3 from vp_B b_x2 (by decide +kernel) (by decide +kernel)), ?_⟩
    refine ⟨fun hc => ?_, fun hc => ?_⟩
    · have hq44 := hc
      have q45 : (0) ≤ (F 15 x2.toNatClampNeg).toInt ∧ (F 15 x2.toNatClampNeg).toInt ≤ (64) := (show B 0 64 (F 15 x2.toNatClampNeg) from hI 15 x2.toNatClampNeg)
      have e46 : (T37 15 x2.toNatClampNeg).toInt = (F 15 x2.toNatClampNeg).toInt := (congrArg Int32.toInt ((congrFun (g40.2 15 rfl rfl) x2.toNatClampNeg).trans (congrFun (g10.2 15 rfl rfl) x2.toNatClampNeg))).trans rfl
      have q47 : (0) ≤ (x4_36).toInt ∧ (x4_36).toInt ≤ (9) := (show B 0 9 (x4_36) from B_w b38 (by decide +kernel) (by decide +kernel))
      have e48 : (8 * x4_36).toInt = (8 * (x4_36).toInt) := (t_mul cqb_8_8_8 b38 (by decide +kernel) (by decide +kernel) (by decide +kernel)).trans (by rw [cqn_8])
      have q49 : (0) ≤ (8 * x4_36).toInt ∧ (8 * x4_36).toInt ≤ (72) := (show B 0 72 (8 * x4_36) from B_w (B_mul cqb_8_8_8 b38 (by decide +kernel) (by decide +kernel) (by decide +kernel)) (by decide +kernel) (by decide +kernel))
      have i50 : (T37 15 x2.toNatClampNeg).toInt ≤ (8 * x4_36).toInt := i_le hq44
      have g52 := agc_tr (agc_refl (fs := [2206]) (rs := [26, 999]) (F := F)) g10 (by decide +kernel) (by decide +kernel)
      have g51 := agc_tr g52 g40 (by decide +kernel) (by decide +kernel)
      have e53 : (T37 12 2).toInt = (F 12 2).toInt := (congrArg Int32.toInt ((g40.1 12 2 rfl rfl).trans (g10.1 12 2 rfl rfl))).trans rfl
      have e54 : (x3_6 + 1).toInt = ((x3_6).toInt + 1) := (t_add b31 cqb_1_1_1 (by decide +kernel) (by decide +kernel)).trans (by rw [cqn_1])
      have q55 : (1) ≤ (x3_6 + 1).toInt ∧ (x3_6 + 1).toInt ≤ (8) := (show B 1 8 (x3_6 + 1) from B_w (B_add b31 cqb_1_1_1 (by decide +kernel) (by decide +kernel)) (by decide +kernel) (by decide +kernel))
      exact hR2 ⟨rfl, rfl, (B_w (B_add b31 cqb_1_1_1 (by decide +kernel) (by decide +kernel)) (by decide +kernel) (by decide +kernel)), _, _, rfl, hI39, g51, (qf_le (b' := (T37 22 6).toInt) (lo' := 0) (hi' := (64 * (T37 12 2).toInt) - 1) r42 (by omega) (by omega) (by omega))⟩ (by show (9 - (x3_6 + 1).toInt).toNat < (9 - x3_6.toInt).toNat; omega)
    · have hq56 := (nle_lt hc)
      have b57 : B 0 63 (8 * x4_36) := B_w (B_ltL (B_mul cqb_8_8_8 b38 (by decide +kernel) (by decide +kernel) (by decide +kernel)) (B_eq ((congrFun (g40.2 15 rfl rfl) x2.toNatClampNeg).trans (congrFun (g10.2 15 rfl rfl) x2.toNatClampNeg)) (show B 0 64 (F 15 x2.toNatClampNeg) from hI 15 x2.toNatClampNeg)) hq56) (by decide +kernel) (by decide +kernel)
      have b58 : B 1 64 (F 15 x2.toNatClampNeg) := B_w (B_eq (Eq.symm ((congrFun (g40.2 15 rfl rfl) x2.toNatClampNeg).trans (congrFun (g10.2 15 rfl rfl) x2.toNatClampNeg))) (B_ltR (B_mul cqb_8_8_8 b38 (by decide +kernel) (by decide +kernel) (by decide +kernel)) (B_eq ((congrFun (g40.2 15 rfl rfl) x2.toNatClampNeg).trans (congrFun (g10.2 15 rfl rfl) x2.toNatClampNeg)) (show B 0 64 (F 15 x2.toNatClampNeg) from hI 15 x2.toNatClampNeg)) hq56)) (by decide +kernel) (by decide +kernel)
      have q59 : (0) ≤ (x4_36).toInt ∧ (x4_36).toInt ≤ (9) := (show B 0 9 (x4_36) from B_w b38 (by decide +kernel) (by decide +kernel))
      have e60 : (8 * x4_36).toInt = (8 * (x4_36).toInt) := (t_mul cqb_8_8_8 b38 (by decide +kernel) (by decide +kernel) (by decide +kernel)).trans (by rw [cqn_8])
      have q61 : (0) ≤ (8 * x4_36).toInt ∧ (8 * x4_36).toInt ≤ (63) := (show B 0 63 (8 * x4_36) from B_w b57 (by decide +kernel) (by decide +kernel))
      have q62 : (1) ≤ (F 15 x2.toNatClampNeg).toInt ∧ (F 15 x2.toNatClampNeg).toInt ≤ (64) := (show B 1 64 (F 15 x2.toNatClampNeg) from B_w b58 (by decide +kernel) (by decide +kernel))
      have e63 : (T37 15 x2.toNatClampNeg).toInt = (F 15 x2.toNatClampNeg).toInt := (congrArg Int32.toInt ((congrFun (g40.2 15 rfl rfl) x2.toNatClampNeg).trans (congrFun (g10.2 15 rfl rfl) x2.toNatClampNeg))).trans rfl
      have i64 := i_lt hq56
      have b65 : B 0 7 (x4_36) := ⟨by omega, by omega⟩
      have i66 : (8 * x4_36).toInt < (T37 15 x2.toNatClampNeg).toInt := i_lt hq56
      refine ⟨(show ¬ ((17 : Nat) = NU) from by decide +kernel), ?_⟩
      refine ⟨(show c_cl UL 17 = 902 from cl_17), ?_⟩
      refine ⟨(show vp_in (x2) 3 from vp_B b_x2 (by decide +kernel) (by decide +kernel)), ?_⟩
      have e67 : (T37 12 2).toInt = (F 12 2).toInt := (congrArg Int32.toInt ((g40.1 12 2 rfl rfl).trans (g10.1 12 2 rfl rfl))).trans rfl
      refine h_Sc_addBlock_u22 b_x2 (B_w (B_add (B_mul b31 (B_eq ((congrFun (g40.2 17 rfl rfl) x2.toNatClampNeg).trans (congrFun (g10.2 17 rfl rfl) x2.toNatClampNeg)) (show B 0 8 (F 17 x2.toNatClampNeg) from hI 17 x2.toNatClampNeg)) (by decide +kernel) (by decide +kernel) (by decide +kernel)) b65 (by decide +kernel) (by decide +kernel)) (by decide +kernel) (by decide +kernel)) hI39 (qf_le (b' := (T37 22 6).toInt) (lo' := 0) (hi' := (64 * (T37 12 2).toInt) - 1) r42 (by omega) (by omega) (by omega)) (by show x2.toInt < (T37 12 2).toInt; first | with_reducible assumption | omega) (fun {FS45_68} {LFS45_68} hI69 g70 r71 => ?_)
      have r72 : qf (FS45_68 26) 0 (FS45_68 22 6).toInt 0 ((64 * (FS45_68 12 2).toInt) - 1) := r71
      clear r71
      have q73 : (0) ≤ (FS45_68 22 6).toInt ∧ (FS45_68 22 6).toInt ≤ (192) := (show B 0 192 (FS45_68 22 6) from hI69 22 6)
      have g75 := agc_tr (agc_refl (fs := [2206]) (rs := [26, 999]) (F := T7)) g40 (by decide +kernel) (by decide +kernel)
      have g74 := agc_tr g75 g70 (by decide +kernel) (by decide +kernel)
      have e76 : (FS45_68 12 2).toInt = (F 12 2).toInt := (congrArg Int32.toInt (((g70.1 12 2 rfl rfl).trans (g40.1 12 2 rfl rfl)).trans (g10.1 12 2 rfl rfl))).trans rfl
      have e77 : (x4_36 + 1).toInt = ((x4_36).toInt + 1) := (t_add b65 cqb_1_1_1 (by decide +kernel) (by decide +kernel)).trans (by rw [cqn_1])
      have q78 : (1) ≤ (x4_36 + 1).toInt ∧ (x4_36 + 1).toInt ≤ (8) := (show B 1 8 (x4_36 + 1) from B_w (B_add b65 cqb_1_1_1 (by decide +kernel) (by decide +kernel)) (by decide +kernel) (by decide +kernel))
      exact hR18 ⟨rfl, rfl, rfl, (B_w (B_add b65 cqb_1_1_1 (by decide +kernel) (by decide +kernel)) (by decide +kernel) (by decide +kernel)), _, _, rfl, hI69, g74, (qf_le (b' := (FS45_68 22 6).toInt) (lo' := 0) (hi' := (64 * (FS45_68 12 2).toInt) - 1) r72 (by omega) (by omega) (by omega))⟩ (by show (9 - (x4_36 + 1).toInt).toNat < (9 - x4_36.toInt).toNat; omega)
set_option maxRecDepth 20000 in
set_option maxHeartbeats 4000000 in
theorem h_Sc_arrange_u22_x112 {a : Bool} {b : Bool} {P : Nat → Nat → Nat} {F : cF} {L : cL} {K : cs → Prop} (hI : IMc F) (pre0 : qf (F 23) 0 (F 22 0).toInt 0 ((F 12 2).toInt - 1)) (pre1 : qf (F 13) 0 (F 12 2).toInt 1 (F 12 5).toInt) (pre2 : qf (F 14) 0 (F 12 2).toInt 1 (F 12 6).toInt) (pre3 : ((F 12 5).toInt = 1) ∨ ((F 12 7).toInt ≤ 4)) (pre4 : ((F 12 6).toInt = 1) ∨ ((F 12 8).toInt ≤ 4)) (hK : ∀ {Z : cF} {LZ : cL}, IMc Z → agc [2204, 2205, 2206] [26, 999] F Z → (qf (Z 26) 0 (Z 22 6).toInt 0 ((64 * (Z 12 2).toInt) - 1)) → (UPs 22 Z) → K (Z, LZ, PC a b P)) : p_Sc_arrange UL 22 12 (F, L, PC a b P) K := by
  have q1 : (0) ≤ (F 22 0).toInt ∧ (F 22 0).toInt ≤ (3) := (show B 0 3 (F 22 0) from hI 22 0)
  have q2 : (1) ≤ (F 12 2).toInt ∧ (F 12 2).toInt ≤ (3) := (show B 1 3 (F 12 2) from hI 12 2)
  have q3 : (1) ≤ (F 12 5).toInt ∧ (F 12 5).toInt ≤ (2) := (show B 1 2 (F 12 5) from hI 12 5)
  have q4 : (1) ≤ (F 12 7).toInt ∧ (F 12 7).toInt ≤ (8) := (show B 1 8 (F 12 7) from hI 12 7)
  have q5 : (1) ≤ (F 12 6).toInt ∧ (F 12 6).toInt ≤ (2) := (show B 1 2 (F 12 6) from hI 12 6)
  have q6 : (1) ≤ (F 12 8).toInt ∧ (F 12 8).toInt ≤ (8) := (show B 1 8 (F 12 8) from hI 12 8)
  unfold p_Sc_arrange
  have hj7 : ∀ {T8 : cF} {LT8 : cL}, IMc T8 → agc [2205, 2206] [26, 999] F T8 → (qf (T8 26) 0 (T8 22 6).toInt 0 ((64 * (T8 12 2).toInt) - 1)) → b_Sc_arrange_46 UL 22 (T8, LT8, PC a b P) K := by
    intro T8 LT8 hI9 g10 r11
    have q12 : (0) ≤ (T8 22 6).toInt ∧ (T8 22 6).toInt ≤ (192) := (show B 0 192 (T8 22 6) from hI9 22 6)
    unfold b_Sc_arrange_46
    refine ⟨fun hc => ?_, fun hc => ?_⟩
    · have hq13 := hc
      have b14 : B 1 12 (T8 22 5) := B_w (B_leR cqb_1_1_1 (show B 0 12 (T8 22 5) from hI9 22 5) hq13) (by decide +kernel) (by decide +kernel)
      refine ⟨B_nz b14 (by decide +kernel), ?_⟩
      unfold b_Sc_arrange_68
      have hI15 := IMc_u (u := 22) (i := 4) (v := (T8 22 6) / (T8 22 5)) hI9 (show B 0 192 ((T8 22 6) / (T8 22 5)) from (B_w (show B 0 192 ((T8 22 6) / (T8 22 5)) from B_div2 (show B 0 192 (T8 22 6) from hI9 22 6) b14 (by decide +kernel) (by decide +kernel) (by decide +kernel) (by decide +kernel)) (by decide +kernel) (by decide +kernel)))
      have g17 := agc_tr (agc_refl (fs := [2204, 2205, 2206]) (rs := [26, 999]) (F := F)) g10 (by decide +kernel) (by decide +kernel)
      have g16 := agc_f (u := 22) (k := 4) (v := (T8 22 6) / (T8 22 5)) g17 rfl (by decide +kernel)
      have q18 : (1) ≤ (T8 22 5).toInt ∧ (T8 22 5).toInt ≤ (12) := (show B 1 12 (T8 22 5) from B_w b14 (by decide +kernel) (by decide +kernel))
      have e19 : ((T8 22 6) / (T8 22 5)).toInt = ((T8 22 6).toInt / (T8 22 5).toInt) := (t_div (show B 0 192 (T8 22 6) from hI9 22 6) b14 (by decide +kernel) (by decide +kernel)).trans (by rfl)
      have q20 : (0) ≤ ((T8 22 6) / (T8 22 5)).toInt ∧ ((T8 22 6) / (T8 22 5)).toInt ≤ (192) := (show B 0 192 ((T8 22 6) / (T8 22 5)) from B_div2 (show B 0 192 (T8 22 6) from hI9 22 6) b14 (by decide +kernel) (by decide +kernel) (by decide +kernel) (by decide +kernel))
      have k21 : (T8 22 5).toInt * ((T8 22 6) / (T8 22 5)).toInt ≤ (T8 22 6).toInt := by rw [e19]; exact Int.mul_ediv_self_le (by omega)
      have e22 : (T8 12 2).toInt = (F 12 2).toInt := (congrArg Int32.toInt (g10.1 12 2 rfl rfl)).trans rfl
      exact hK hI15 g16 (qf_le (b' := (T8 22 6).toInt) (lo' := 0) (hi' := (64 * (T8 12 2).toInt) - 1) r11 (by omega) (by omega) (by omega)) (by show (T8 22 5).toInt * ((T8 22 6) / (T8 22 5)).toInt ≤ (T8 22 6).toInt; first | with_reducible assumption | omega)
    · have hq23 := (nle_lt hc)
      have b24 : B 0 0 (T8 22 5) := B_w (B_ltL (show B 0 12 (T8 22 5) from hI9 22 5) cqb_1_1_1 hq23) (by decide +kernel) (by decide +kernel)
      unfold b_Sc_arrange_68
      have hI25 := IMc_u (u := 22) (i := 4) (v := 0) hI9 (show B 0 192 (0) from (B_w cqb_0_0_0 (by decide +kernel) (by decide +kernel)))
      have g27 := agc_tr (agc_refl (fs := [2204, 2205, 2206]) (rs := [26, 999]) (F := F)) g10 (by decide +kernel) (by decide +kernel)
      have g26 := agc_f (u := 22) (k := 4) (v := 0) g27 rfl (by decide +kernel)
      have q28 : (0) ≤ (T8 22 5).toInt ∧ (T8 22 5).toInt ≤ (0) := (show B 0 0 (T8 22 5) from B_w b24 (by decide +kernel) (by decide +kernel))
      have k29 : (T8 22 5).toInt * 0 = 0 := Int.mul_zero _
      have e30 : (T8 12 2).toInt = (F 12 2).toInt := (congrArg Int32.toInt (g10.1 12 2 rfl rfl)).trans rfl
      exact hK hI25 g26 (qf_le (b' := (T8 22 6).toInt) (lo' := 0) (hi' := (64 * (T8 12 2).toInt) - 1) r11 (by omega) (by omega) (by omega)) (by show (T8 22 5).toInt * (0 : Int) ≤ (T8 22 6).toInt; first | with_reducible assumption | omega)
  refine ⟨fun hc => ?_, fun hc => ?_⟩
  · have i31 : (F 22 0).toInt ≠ (1 : Int32).toInt := i_ne hc
    have n32 : (1 : Int32).toInt = 1 := cqn_1
    have hI33 := IMc_u (u := 22) (i := 6) (v := 0) hI (show B 0 192 (0) from (B_w cqb_0_0_0 (by decide +kernel) (by decide +kernel)))
    refine h_Sc_blocksTogether_u22_x112 hI33 (fun {v35_34} b36 => ?_)
    have hI37 := IMc_u (u := 22) (i := 5) (v := v35_34) hI33 (show B 0 12 (v35_34) from (B_w b36 (by decide +kernel) (by decide +kernel)))
    refine h_Sc_arrangeTogether_u22_x112 hI37 (qf_0 (b := 0) (by omega)) (qf_le (b' := (F 22 0).toInt) (lo' := 0) (hi' := (F 12 2).toInt - 1) pre0 (by omega) (by omega) (by omega)) (qf_le (b' := (F 12 2).toInt) (lo' := 1) (hi' := (F 12 5).toInt) pre1 (by omega) (by omega) (by omega)) (qf_le (b' := (F 12 2).toInt) (lo' := 1) (hi' := (F 12 6).toInt) pre2 (by omega) (by omega) (by omega)) (by show ((F 12 5).toInt = 1) ∨ ((F 12 7).toInt ≤ 4); first | with_reducible assumption | omega) (by show ((F 12 6).toInt = 1) ∨ ((F 12 8).toInt ≤ 4); first | with_reducible assumption | omega) (fun {FS43_38} {LFS43_38} hI39 g40 r41 => ?_)
    have r42 : qf (FS43_38 26) 0 (FS43_38 22 6).toInt 0 ((64 * (FS43_38 12 2).toInt) - 1) := r41
    clear r41
    have q43 : (0) ≤ (FS43_38 22 6).toInt ∧ (FS43_38 22 6).toInt ≤ (192) := (show B 0 192 (FS43_38 22 6) from hI39 22 6)
    have g46 := agc_f (u := 22) (k := 6) (v := 0) (agc_refl (fs := [2205, 2206]) (rs := [26, 999]) (F := F)) rfl (by decide +kernel)
    have g45 := agc_f (u := 22) (k := 5) (v := v35_34) g46 rfl (by decide +kernel)
    have g44 := agc_tr g45 g40 (by decide +kernel) (by decide +kernel)
    have e47 : (FS43_38 12 2).toInt = (F 12 2).toInt := (congrArg Int32.toInt (g40.1 12 2 rfl rfl)).trans rfl
    exact hj7 hI39 g44 (qf_le (b' := (FS43_38 22 6).toInt) (lo' := 0) (hi' := (64 * (FS43_38 12 2).toInt) - 1) r42 (by omega) (by omega) (by omega))
  · have b48 : B 1 1 (F 22 0) := B_w (B_eq hc cqb_1_1_1) (by decide +kernel) (by decide +kernel)
    have q49 : (1) ≤ (F 22 0).toInt ∧ (F 22 0).toInt ≤ (1) := (show B 1 1 (F 22 0) from B_w b48 (by decide +kernel) (by decide +kernel))
    have i50 : (F 22 0).toInt = (1 : Int32).toInt := congrArg Int32.toInt hc
    have n51 : (1 : Int32).toInt = 1 := cqn_1
    refine ⟨(show ¬ ((23 : Nat) = NU) from by decide +kernel), ?_⟩
    refine ⟨(show c_cl UL 23 = 902 from cl_23), ?_⟩
    refine ⟨(show vp_in (0) 3 from vp_B cqb_0_0_0 (by decide +kernel) (by decide +kernel)), ?_⟩
    have n52 : (0 : Int32).toInt = 0 := cqn_0
    have r53 : 0 ≤ (F 23 (0 : Int32).toNatClampNeg).toInt ∧ (F 23 (0 : Int32).toNatClampNeg).toInt ≤ ((F 12 2).toInt - 1) := qf_at pre0 (x := (0 : Int32)) (by omega) (by omega)
    have hI54 := IMc_u (u := 22) (i := 6) (v := 0) hI (show B 0 192 (0) from (B_w cqb_0_0_0 (by decide +kernel) (by decide +kernel)))
    have hI55 := IMc_u (u := 22) (i := 5) (v := 1) hI54 (show B 0 12 (1) from (B_w cqb_1_1_1 (by decide +kernel) (by decide +kernel)))
    have q56 : (0) ≤ (F 23 (0 : Int32).toNatClampNeg).toInt ∧ (F 23 (0 : Int32).toNatClampNeg).toInt ≤ (2) := (show B 0 2 (F 23 (0 : Int32).toNatClampNeg) from hI 23 (0 : Int32).toNatClampNeg)
    refine h_Sc_arrangeAlone_u22_x112 (B_w (show B 0 2 (F 23 (0 : Int32).toNatClampNeg) from hI 23 (0 : Int32).toNatClampNeg) (by decide +kernel) (by decide +kernel)) hI55 (qf_0 (b := 0) (by omega)) (by show (F 23 (0 : Int32).toNatClampNeg).toInt < (F 12 2).toInt; first | with_reducible assumption | omega) (fun {FS26_57} {LFS26_57} hI58 g59 r60 => ?_)
    have r61 : qf (FS26_57 26) 0 (FS26_57 22 6).toInt 0 ((64 * (FS26_57 12 2).toInt) - 1) := r60
    clear r60
    have q62 : (0) ≤ (FS26_57 22 6).toInt ∧ (FS26_57 22 6).toInt ≤ (192) := (show B 0 192 (FS26_57 22 6) from hI58 22 6)
    have g65 := agc_f (u := 22) (k := 6) (v := 0) (agc_refl (fs := [2205, 2206]) (rs := [26, 999]) (F := F)) rfl (by decide +kernel)
    have g64 := agc_f (u := 22) (k := 5) (v := 1) g65 rfl (by decide +kernel)
    have g63 := agc_tr g64 g59 (by decide +kernel) (by decide +kernel)
    have e66 : (FS26_57 12 2).toInt = (F 12 2).toInt := (congrArg Int32.toInt (g59.1 12 2 rfl rfl)).trans rfl
    exact hj7 hI58 g63 (qf_le (b' := (FS26_57 22 6).toInt) (lo' := 0) (hi' := (64 * (FS26_57 12 2).toInt) - 1) r61 (by omega) (by omega) (by omega))
set_option maxRecDepth 20000 in
set_option maxHeartbeats 4000000 in
theorem h_Ca_kind_u1 {a : Bool} {b : Bool} {P : Nat → Nat → Nat} {x1 : Int32} {x2 : Int32} {x3 : Int32} {F : cF} {L : cL} {K : Int32 → cs → Prop} (b_x1 : B 0 2 x1) (b_x2 : B 0 63 x2) (b_x3 : B 0 63 x3) (hI : IMc F) (hK : ∀ {v : Int32}, B (-2147483648) 2147483647 v → K v (F, L, PC a b P)) : p_Ca_kind UL 1 x1 x2 x3 (F, L, PC a b P) K := by
  unfold p_Ca_kind
  refine ⟨(show ¬ ((2 : Nat) = NU) from by decide +kernel), ?_⟩
  try unfold p_B_spot
  refine ⟨(show c_cl UL 2 = 902 from cl_2), ?_⟩
  refine ⟨(show vp_in (((4096 * 0) + (64 * x3)) + x2) 12288 from vp_B (B_add (B_add (B_mul cqb_4096_4096_4096 cqb_0_0_0 (by decide +kernel) (by decide +kernel) (by decide +kernel)) (B_mul cqb_64_64_64 b_x3 (by decide +kernel) (by decide +kernel) (by decide +kernel)) (by decide +kernel) (by decide +kernel)) b_x2 (by decide +kernel) (by decide +kernel)) (by decide +kernel) (by decide +kernel)), ?_⟩
  refine ⟨fun hc => ?_, fun hc => ?_⟩
  · have q1 : (1) ≤ (F 1 2).toInt ∧ (F 1 2).toInt ≤ (3) := (show B 1 3 (F 1 2) from hI 1 2)
    have i2 : (F 1 2).toInt ≠ (1 : Int32).toInt := i_ne hc
    have n3 : (1 : Int32).toInt = 1 := cqn_1
    refine ⟨(show ¬ ((2 : Nat) = NU) from by decide +kernel), ?_⟩
    try unfold p_B_spot
    refine ⟨(show vp_in (((4096 * 1) + (64 * x3)) + x2) 12288 from vp_B (B_add (B_add (B_mul cqb_4096_4096_4096 cqb_1_1_1 (by decide +kernel) (by decide +kernel) (by decide +kernel)) (B_mul cqb_64_64_64 b_x3 (by decide +kernel) (by decide +kernel) (by decide +kernel)) (by decide +kernel) (by decide +kernel)) b_x2 (by decide +kernel) (by decide +kernel)) (by decide +kernel) (by decide +kernel)), ?_⟩
    refine ⟨(show ¬ ((2 : Nat) = NU) from by decide +kernel), ?_⟩
    try unfold p_B_spot
    refine ⟨(show vp_in (((4096 * 2) + (64 * x3)) + x2) 12288 from vp_B (B_add (B_add (B_mul cqb_4096_4096_4096 cqb_2_2_2 (by decide +kernel) (by decide +kernel) (by decide +kernel)) (B_mul cqb_64_64_64 b_x3 (by decide +kernel) (by decide +kernel) (by decide +kernel)) (by decide +kernel) (by decide +kernel)) b_x2 (by decide +kernel) (by decide +kernel)) (by decide +kernel) (by decide +kernel)), ?_⟩
    refine ⟨fun hc => ?_, fun hc => ?_⟩
    · have b4 : B 1 2 (x1) := B_w (B_n0 b_x1 hc) (by decide +kernel) (by decide +kernel)
      refine ⟨fun hc => ?_, fun hc => ?_⟩
      · have q5 : (1) ≤ (x1).toInt ∧ (x1).toInt ≤ (2) := (show B 1 2 (x1) from B_w b4 (by decide +kernel) (by decide +kernel))
        have i6 : (x1).toInt ≠ (1 : Int32).toInt := i_ne hc
        have n7 : (1 : Int32).toInt = 1 := cqn_1
        unfold b_Ca_kind_126
        exact hK (B_w (show B (-32640) 255 (i_min 255 (128 + (((((32768 * (F 2 (((4096 * 0) + (64 * x3)) + x2).toNatClampNeg)) - (27439 * (F 2 (((4096 * 1) + (64 * x3)) + x2).toNatClampNeg))) - (5329 * (F 2 (((4096 * 2) + (64 * x3)) + x2).toNatClampNeg))) + 32768) >>> (16 &&& 31 : Int32) : Int32))) from B_i_min cqb_255_255_255 (B_add cqb_128_128_128 (show B (-32768) 32767 ((((((32768 * (F 2 (((4096 * 0) + (64 * x3)) + x2).toNatClampNeg)) - (27439 * (F 2 (((4096 * 1) + (64 * x3)) + x2).toNatClampNeg))) - (5329 * (F 2 (((4096 * 2) + (64 * x3)) + x2).toNatClampNeg))) + 32768) >>> (16 &&& 31 : Int32) : Int32)) from B_w (B_shr (k := 16) (by decide +kernel) (B_any _)) (by decide +kernel) (by decide +kernel)) (by decide +kernel) (by decide +kernel)) (by decide +kernel) (by decide +kernel)) (by decide +kernel) (by decide +kernel))
      · have b8 : B 1 1 (x1) := B_w (B_eq hc cqb_1_1_1) (by decide +kernel) (by decide +kernel)
        have q9 : (1) ≤ (x1).toInt ∧ (x1).toInt ≤ (1) := (show B 1 1 (x1) from B_w b8 (by decide +kernel) (by decide +kernel))
        have i10 : (x1).toInt = (1 : Int32).toInt := congrArg Int32.toInt hc
        have n11 : (1 : Int32).toInt = 1 := cqn_1
        unfold b_Ca_kind_126
        exact hK (B_w (show B (-32640) 255 (i_min 255 (128 + ((((((-11059) * (F 2 (((4096 * 0) + (64 * x3)) + x2).toNatClampNeg)) - (21709 * (F 2 (((4096 * 1) + (64 * x3)) + x2).toNatClampNeg))) + (32768 * (F 2 (((4096 * 2) + (64 * x3)) + x2).toNatClampNeg))) + 32768) >>> (16 &&& 31 : Int32) : Int32))) from B_i_min cqb_255_255_255 (B_add cqb_128_128_128 (show B (-32768) 32767 (((((((-11059) * (F 2 (((4096 * 0) + (64 * x3)) + x2).toNatClampNeg)) - (21709 * (F 2 (((4096 * 1) + (64 * x3)) + x2).toNatClampNeg))) + (32768 * (F 2 (((4096 * 2) + (64 * x3)) + x2).toNatClampNeg))) + 32768) >>> (16 &&& 31 : Int32) : Int32)) from B_w (B_shr (k := 16) (by decide +kernel) (B_any _)) (by decide +kernel) (by decide +kernel)) (by decide +kernel) (by decide +kernel)) (by decide +kernel) (by decide +kernel)) (by decide +kernel) (by decide +kernel))
    · have b12 : B 0 0 (x1) := B_w (B_eq hc cqb_0_0_0) (by decide +kernel) (by decide +kernel)
      have q13 : (0) ≤ (x1).toInt ∧ (x1).toInt ≤ (0) := (show B 0 0 (x1) from B_w b12 (by decide +kernel) (by decide +kernel))
      have i14 : (x1).toInt = (0 : Int32).toInt := congrArg Int32.toInt hc
      have n15 : (0 : Int32).toInt = 0 := cqn_0
      exact hK (B_w (show B (-32768) 32767 ((((((19595 * (F 2 (((4096 * 0) + (64 * x3)) + x2).toNatClampNeg)) + (38470 * (F 2 (((4096 * 1) + (64 * x3)) + x2).toNatClampNeg))) + (7471 * (F 2 (((4096 * 2) + (64 * x3)) + x2).toNatClampNeg))) + 32768) >>> (16 &&& 31 : Int32) : Int32)) from B_w (B_shr (k := 16) (by decide +kernel) (B_any _)) (by decide +kernel) (by decide +kernel)) (by decide +kernel) (by decide +kernel))
  · have b16 : B 1 1 (F 1 2) := B_w (B_eq hc cqb_1_1_1) (by decide +kernel) (by decide +kernel)
    have q17 : (1) ≤ (F 1 2).toInt ∧ (F 1 2).toInt ≤ (1) := (show B 1 1 (F 1 2) from B_w b16 (by decide +kernel) (by decide +kernel))
    have i18 : (F 1 2).toInt = (1 : Int32).toInt := congrArg Int32.toInt hc
    have n19 : (1 : Int32).toInt = 1 := cqn_1
    exact hK (B_w (B_any _) (by decide +kernel) (by decide +kernel))
set_option maxRecDepth 20000 in
set_option maxHeartbeats 4000000 in
theorem h_Pa_writeBits_u4 {a : Bool} {b : Bool} {P : Nat → Nat → Nat} {x1 : Int32} {x2 : Int32} {F : cF} {L : cL} {K : cs → Prop} (hI : IMc F) (hK : ∀ {Z : cF} {LZ : cL}, IMc Z → agc [410, 411, 501] [6, 999] F Z → K (Z, LZ, PC a b P)) : p_Pa_writeBits UL 4 x1 x2 (F, L, PC a b P) K := by
  unfold p_Pa_writeBits
  have hI4 := IMc_u (u := 4) (i := 10) (v := ((F 4 10) <<< (x2 &&& 31 : Int32) : Int32) ||| x1) hI (show B (-2147483648) 2147483647 (((F 4 10) <<< (x2 &&& 31 : Int32) : Int32) ||| x1) from (B_w (B_any _) (by decide +kernel) (by decide +kernel)))
  have hI5 := IMc_u (u := 4) (i := 11) (v := (F 4 11) + x2) hI4 (show B (-2147483648) 2147483647 ((F 4 11) + x2) from (B_w (B_any _) (by decide +kernel) (by decide +kernel)))
  refine ⟨fun yS => ∃ (T1 : cF) (LT1 : cL), yS = (T1, LT1, PC a b P) ∧ IMc T1 ∧ agc [411, 501] [6, 999] (va_up (va_up F 4 (upd (F 4) 10 (((F 4 10) <<< (x2 &&& 31 : Int32) : Int32) ||| x1))) 4 (upd ((va_up F 4 (upd (F 4) 10 (((F 4 10) <<< (x2 &&& 31 : Int32) : Int32) ||| x1))) 4) 11 ((F 4 11) + x2))) T1, fun yS => (yS.1 4 11).toInt.toNat, ⟨_, _, rfl, hI5, (agc_refl (fs := [411, 501]) (rs := [6, 999]) (F := va_up (va_up F 4 (upd (F 4) 10 (((F 4 10) <<< (x2 &&& 31 : Int32) : Int32) ||| x1))) 4 (upd ((va_up F 4 (upd (F 4) 10 (((F 4 10) <<< (x2 &&& 31 : Int32) : Int32) ||| x1))) 4) 11 ((F 4 11) + x2))))⟩, fun ST1 hIv => ?_⟩
  obtain ⟨T1, LT1, rfl, hI2, g3⟩ := hIv
  suffices hs : ∀ (R22 : cs → Prop), (∀ zS, (∃ (T1 : cF) (LT1 : cL), zS = (T1, LT1, PC a b P) ∧ IMc T1 ∧ agc [411, 501] [6, 999] (va_up (va_up F 4 (upd (F 4) 10 (((F 4 10) <<< (x2 &&& 31 : Int32) : Int32) ||| x1))) 4 (upd ((va_up F 4 (upd (F 4) 10 (((F 4 10) <<< (x2 &&& 31 : Int32) : Int32) ||| x1))) 4) 11 ((F 4 11) + x2))) T1) → (zS.1 4 11).toInt.toNat < (T1 4 11).toInt.toNat → R22 zS) → b_Pa_writeBits_22 UL 4 (T1, LT1, PC a b P) R22 K from hs _ (fun _ h1 h2 => ⟨h1, h2⟩)
  intro R22 hR220
  have hR22 := fun {zS} => hR220 zS
  unfold b_Pa_writeBits_22
  refine ⟨fun hc => ?_, fun hc => ?_⟩
  · have hq6 := hc
    have b7 : B (-2147483648) 7 (T1 4 11) := B_w (B_ltL (B_any _) cqb_8_8_8 hq6) (by decide +kernel) (by decide +kernel)
    have g10 := agc_f (u := 4) (k := 10) (v := ((F 4 10) <<< (x2 &&& 31 : Int32) : Int32) ||| x1) (agc_refl (fs := [410, 411, 501]) (rs := [6, 999]) (F := F)) rfl (by decide +kernel)
    have g9 := agc_f (u := 4) (k := 11) (v := (F 4 11) + x2) g10 rfl (by decide +kernel)
    have g8 := agc_tr g9 g3 (by decide +kernel) (by decide +kernel)
    exact hK hI2 g8
  · have hq11 := (nlt_le hc)
    have b12 : B 8 2147483647 (T1 4 11) := B_w (B_leR cqb_8_8_8 (B_any _) hq11) (by decide +kernel) (by decide +kernel)
    refine ⟨(show ¬ ((5 : Nat) = NU) from by decide +kernel), ?_⟩
    refine ⟨(show c_cl UL 5 = 9 from cl_5), ?_⟩
    have hI13 := IMc_u (u := 4) (i := 11) (v := (T1 4 11) - 8) hI2 (show B (-2147483648) 2147483647 ((T1 4 11) - 8) from (B_w (B_sub b12 cqb_8_8_8 (by decide +kernel) (by decide +kernel)) (by decide +kernel) (by decide +kernel)))
    refine h_Ro_add_u5 hI13 (fun {FS61_14} {LFS61_14} hI15 g16 => ?_)
    refine ⟨fun hc => ?_, fun hc => ?_⟩
    · have q17 : (0) ≤ (((T1 4 10) >>> (((T1 4 11) - 8) &&& 31 : Int32) : Int32) &&& 255).toInt ∧ (((T1 4 10) >>> (((T1 4 11) - 8) &&& 31 : Int32) : Int32) &&& 255).toInt ≤ (255) := (show B 0 255 (((T1 4 10) >>> (((T1 4 11) - 8) &&& 31 : Int32) : Int32) &&& 255) from B_and (k := 8) (by decide +kernel) (by decide +kernel))
      have i18 : (((T1 4 10) >>> (((T1 4 11) - 8) &&& 31 : Int32) : Int32) &&& 255).toInt ≠ (255 : Int32).toInt := i_ne hc
      have n19 : (255 : Int32).toInt = 255 := cqn_255
      unfold b_Pa_writeBits_79
      have g22 := agc_tr (agc_refl (fs := [411, 501]) (rs := [6, 999]) (F := va_up (va_up F 4 (upd (F 4) 10 (((F 4 10) <<< (x2 &&& 31 : Int32) : Int32) ||| x1))) 4 (upd ((va_up F 4 (upd (F 4) 10 (((F 4 10) <<< (x2 &&& 31 : Int32) : Int32) ||| x1))) 4) 11 ((F 4 11) + x2)))) g3 (by decide +kernel) (by decide +kernel)
      have g21 := agc_f (u := 4) (k := 11) (v := (T1 4 11) - 8) g22 rfl (by decide +kernel)
      have g20 := agc_tr g21 g16 (by decide +kernel) (by decide +kernel)
      have q23 : (8) ≤ (T1 4 11).toInt ∧ (T1 4 11).toInt ≤ (2147483647) := (show B 8 2147483647 (T1 4 11) from B_w b12 (by decide +kernel) (by decide +kernel))
      have e24 : ((T1 4 11) - 8).toInt = ((T1 4 11).toInt - 8) := (t_sub b12 cqb_8_8_8 (by decide +kernel) (by decide +kernel)).trans (by rw [cqn_8])
      have q25 : (0) ≤ ((T1 4 11) - 8).toInt ∧ ((T1 4 11) - 8).toInt ≤ (2147483639) := (show B 0 2147483639 ((T1 4 11) - 8) from B_w (B_sub b12 cqb_8_8_8 (by decide +kernel) (by decide +kernel)) (by decide +kernel) (by decide +kernel))
      have e26 : (FS61_14 4 11).toInt = ((T1 4 11).toInt - 8) := (congrArg Int32.toInt (g16.1 4 11 rfl rfl)).trans e24
      exact hR22 ⟨_, _, rfl, hI15, g20⟩ (by show (FS61_14 4 11).toInt.toNat < (T1 4 11).toInt.toNat; omega)
    · have b27 : B 255 255 (((T1 4 10) >>> (((T1 4 11) - 8) &&& 31 : Int32) : Int32) &&& 255) := B_w (B_eq hc cqb_255_255_255) (by decide +kernel) (by decide +kernel)
      have q28 : (255) ≤ (((T1 4 10) >>> (((T1 4 11) - 8) &&& 31 : Int32) : Int32) &&& 255).toInt ∧ (((T1 4 10) >>> (((T1 4 11) - 8) &&& 31 : Int32) : Int32) &&& 255).toInt ≤ (255) := (show B 255 255 (((T1 4 10) >>> (((T1 4 11) - 8) &&& 31 : Int32) : Int32) &&& 255) from B_w b27 (by decide +kernel) (by decide +kernel))
      have i29 : (((T1 4 10) >>> (((T1 4 11) - 8) &&& 31 : Int32) : Int32) &&& 255).toInt = (255 : Int32).toInt := congrArg Int32.toInt hc
      have n30 : (255 : Int32).toInt = 255 := cqn_255
      refine ⟨(show ¬ ((5 : Nat) = NU) from by decide +kernel), ?_⟩
      refine ⟨(show c_cl UL 5 = 9 from cl_5), ?_⟩
      refine h_Ro_add_u5 hI15 (fun {FS76_31} {LFS76_31} hI32 g33 => ?_)
      unfold b_Pa_writeBits_79
      have g37 := agc_tr (agc_refl (fs := [411, 501]) (rs := [6, 999]) (F := va_up (va_up F 4 (upd (F 4) 10 (((F 4 10) <<< (x2 &&& 31 : Int32) : Int32) ||| x1))) 4 (upd ((va_up F 4 (upd (F 4) 10 (((F 4 10) <<< (x2 &&& 31 : Int32) : Int32) ||| x1))) 4) 11 ((F 4 11) + x2)))) g3 (by decide +kernel) (by decide +kernel)
      have g36 := agc_f (u := 4) (k := 11) (v := (T1 4 11) - 8) g37 rfl (by decide +kernel)
      have g35 := agc_tr g36 g16 (by decide +kernel) (by decide +kernel)
      have g34 := agc_tr g35 g33 (by decide +kernel) (by decide +kernel)
      have q38 : (8) ≤ (T1 4 11).toInt ∧ (T1 4 11).toInt ≤ (2147483647) := (show B 8 2147483647 (T1 4 11) from B_w b12 (by decide +kernel) (by decide +kernel))
      have e39 : ((T1 4 11) - 8).toInt = ((T1 4 11).toInt - 8) := (t_sub b12 cqb_8_8_8 (by decide +kernel) (by decide +kernel)).trans (by rw [cqn_8])
      have q40 : (0) ≤ ((T1 4 11) - 8).toInt ∧ ((T1 4 11) - 8).toInt ≤ (2147483639) := (show B 0 2147483639 ((T1 4 11) - 8) from B_w (B_sub b12 cqb_8_8_8 (by decide +kernel) (by decide +kernel)) (by decide +kernel) (by decide +kernel))
      have e41 : (FS76_31 4 11).toInt = ((T1 4 11).toInt - 8) := (congrArg Int32.toInt ((g33.1 4 11 rfl rfl).trans (g16.1 4 11 rfl rfl))).trans e39
      exact hR22 ⟨_, _, rfl, hI32, g34⟩ (by show (FS76_31 4 11).toInt.toNat < (T1 4 11).toInt.toNat; omega)
set_option maxRecDepth 20000 in
set_option maxHeartbeats 4000000 in
theorem h_Pa_fillByte_u4 {a : Bool} {b : Bool} {P : Nat → Nat → Nat} {F : cF} {L : cL} {K : cs → Prop} (hI : IMc F) (hK : ∀ {Z : cF} {LZ : cL}, IMc Z → agc [410, 411, 501] [6, 999] F Z → K (Z, LZ, PC a b P)) : p_Pa_fillByte UL 4 (F, L, PC a b P) K := by
  unfold p_Pa_fillByte
  refine ⟨fun hc => ?_, fun hc => ?_⟩
  · have hq1 := hc
    have b2 : B (-2147483648) 0 (F 4 11) := B_w (B_leL (B_any _) cqb_0_0_0 hq1) (by decide +kernel) (by decide +kernel)
    unfold b_Pa_fillByte_29
    exact hK hI (agc_refl (fs := [410, 411, 501]) (rs := [6, 999]) (F := F))
  · have hq3 := (nle_lt hc)
    have b4 : B 1 2147483647 (F 4 11) := B_w (B_ltR cqb_0_0_0 (B_any _) hq3) (by decide +kernel) (by decide +kernel)
    refine h_Pa_writeBits_u4 hI (fun {FS26_5} {LFS26_5} hI6 g7 => ?_)
    unfold b_Pa_fillByte_29
    have g8 := agc_tr (agc_refl (fs := [410, 411, 501]) (rs := [6, 999]) (F := F)) g7 (by decide +kernel) (by decide +kernel)
    exact hK hI6 g8
set_option maxRecDepth 20000 in
set_option maxHeartbeats 4000000 in
theorem h_Pa_addMark_u4 {a : Bool} {b : Bool} {P : Nat → Nat → Nat} {x1 : Int32} {F : cF} {L : cL} {K : cs → Prop} (hI : IMc F) (hK : ∀ {Z : cF} {LZ : cL}, IMc Z → agc [501] [6] F Z → K (Z, LZ, PC a b P)) : p_Pa_addMark UL 4 x1 (F, L, PC a b P) K := by
  unfold p_Pa_addMark
  refine ⟨(show ¬ ((5 : Nat) = NU) from by decide +kernel), ?_⟩
  refine ⟨(show c_cl UL 5 = 9 from cl_5), ?_⟩
  refine h_Ro_add_u5 hI (fun {FS7_1} {LFS7_1} hI2 g3 => ?_)
  refine ⟨(show ¬ ((5 : Nat) = NU) from by decide +kernel), ?_⟩
  refine ⟨(show c_cl UL 5 = 9 from cl_5), ?_⟩
  refine h_Ro_add_u5 hI2 (fun {FS15_4} {LFS15_4} hI5 g6 => ?_)
  have g8 := agc_tr (agc_refl (fs := [501]) (rs := [6]) (F := F)) g3 (by decide +kernel) (by decide +kernel)
  have g7 := agc_tr g8 g6 (by decide +kernel) (by decide +kernel)
  exact hK hI5 g7
set_option maxRecDepth 20000 in
set_option maxHeartbeats 4000000 in
theorem h_Ar_fillI_x058_x10 {a : Bool} {b : Bool} {P : Nat → Nat → Nat} {F : cF} {L : cL} {K : cs → Prop} (hI : IMc F) (hK : ∀ {Z : cF} {LZ : cL}, IMc Z → agc [] [58] F Z → K (Z, LZ, PC a b P)) : p_Ar_fillI UL 58 0 (F, L, PC a b P) K := by
  unfold p_Ar_fillI
  refine ⟨(show c_cl UL 58 = 902 from cl_58), ?_⟩
  refine ⟨fun yx0 yx1 yx2 yx3 yS => (58 : Nat) = yx0 ∧ (0 : Int32) = yx1 ∧ (3 : Int32) = yx3 ∧ B 0 65536 yx2 ∧ ∃ (T5 : cF) (LT5 : cL), yS = (T5, LT5, PC a b P) ∧ IMc T5 ∧ agc [] [58] F T5, fun yx0 yx1 yx2 yx3 yS => (65536 - yx2.toInt).toNat, ⟨rfl, rfl, rfl, (B_w cqb_0_0_0 (by decide +kernel) (by decide +kernel)), _, _, rfl, hI, (agc_refl (fs := []) (rs := [58]) (F := F))⟩, fun x0_1 x1_2 x2_3 x3_4 ST5 hIv => ?_⟩
  obtain ⟨rfl, rfl, rfl, b6, T5, LT5, rfl, hI7, g8⟩ := hIv
  suffices hs : ∀ (R5 : Nat → Int32 → Int32 → Int32 → cs → Prop), (∀ zx0 zx1 zx2 zx3 zS, ((58 : Nat) = zx0 ∧ (0 : Int32) = zx1 ∧ (3 : Int32) = zx3 ∧ B 0 65536 zx2 ∧ ∃ (T5 : cF) (LT5 : cL), zS = (T5, LT5, PC a b P) ∧ IMc T5 ∧ agc [] [58] F T5) → (65536 - zx2.toInt).toNat < (65536 - x2_3.toInt).toNat → R5 zx0 zx1 zx2 zx3 zS) → b_Ar_fillI_5 UL 58 0 x2_3 3 (T5, LT5, PC a b P) R5 K from hs _ (fun _ _ _ _ _ h1 h2 => ⟨h1, h2⟩)
  intro R5 hR50
  have hR5 := fun {zx0} {zx1} {zx2} {zx3} {zS} => hR50 zx0 zx1 zx2 zx3 zS
  unfold b_Ar_fillI_5
  refine ⟨fun hc => ?_, fun hc => ?_⟩
  · have hq9 := hc
    have b10 : B 3 65536 (x2_3) := B_w (B_leR cqb_3_3_3 b6 hq9) (by decide +kernel) (by decide +kernel)
    have g11 := agc_tr (agc_refl (fs := []) (rs := [58]) (F := F)) g8 (by decide +kernel) (by decide +kernel)
    exact hK hI7 g11
  · have hq12 := (nle_lt hc)
    have b13 : B 0 2 (x2_3) := B_w (B_ltL b6 cqb_3_3_3 hq12) (by decide +kernel) (by decide +kernel)
    refine ⟨(show c_cl UL 58 = 902 from cl_58), ?_⟩
    refine ⟨(show vp_in (x2_3) 3 from vp_B b13 (by decide +kernel) (by decide +kernel)), ?_⟩
    have hI14 := IMc_u (u := 58) (i := x2_3.toNatClampNeg) (v := 0) hI7 (show B (-2147483648) 2147483647 (0) from (B_w cqb_0_0_0 (by decide +kernel) (by decide +kernel)))
    have g16 := agc_tr (agc_refl (fs := []) (rs := [58]) (F := F)) g8 (by decide +kernel) (by decide +kernel)
    have g15 := agc_r (u := 58) (w := upd (T5 58) x2_3.toNatClampNeg 0) g16 rfl (by decide +kernel)
    have q17 : (0) ≤ (x2_3).toInt ∧ (x2_3).toInt ≤ (2) := (show B 0 2 (x2_3) from B_w b13 (by decide +kernel) (by decide +kernel))
    have e18 : (x2_3 + 1).toInt = ((x2_3).toInt + 1) := (t_add b13 cqb_1_1_1 (by decide +kernel) (by decide +kernel)).trans (by rw [cqn_1])
    have q19 : (1) ≤ (x2_3 + 1).toInt ∧ (x2_3 + 1).toInt ≤ (3) := (show B 1 3 (x2_3 + 1) from B_w (B_add b13 cqb_1_1_1 (by decide +kernel) (by decide +kernel)) (by decide +kernel) (by decide +kernel))
    exact hR5 ⟨rfl, rfl, rfl, (B_w (B_add b13 cqb_1_1_1 (by decide +kernel) (by decide +kernel)) (by decide +kernel) (by decide +kernel)), _, _, rfl, hI14, g15⟩ (by show (65536 - (x2_3 + 1).toInt).toNat < (65536 - x2_3.toInt).toNat; omega)
set_option maxRecDepth 20000 in
set_option maxHeartbeats 4000000 in
theorem h_Pa_writeAgain_u4 {a : Bool} {b : Bool} {P : Nat → Nat → Nat} {x1 : Int32} {F : cF} {L : cL} {K : cs → Prop} (hI : IMc F) (hK : ∀ {Z : cF} {LZ : cL}, IMc Z → agc [410, 411, 501] [6, 58, 999] F Z → K (Z, LZ, PC a b P)) : p_Pa_writeAgain UL 4 x1 (F, L, PC a b P) K := by
  unfold p_Pa_writeAgain
  refine h_Pa_fillByte_u4 hI (fun {FS1_1} {LFS1_1} hI2 g3 => ?_)
  refine ⟨fun hc => ?_, fun hc => ?_⟩
  · have b4 : B 1 1 (F 4 9) := B_w (B_eq (Eq.symm (g3.1 4 9 rfl rfl)) (B_n0 (B_eq (g3.1 4 9 rfl rfl) (show B 0 1 (F 4 9) from hI 4 9)) hc)) (by decide +kernel) (by decide +kernel)
    unfold b_Pa_writeAgain_16
    refine ⟨(show ¬ ((58 : Nat) = NU) from by decide +kernel), ?_⟩
    refine h_Ar_fillI_x058_x10 hI2 (fun {FS21_5} {LFS21_5} hI6 g7 => ?_)
    have g9 := agc_tr (agc_refl (fs := [410, 411, 501]) (rs := [6, 58, 999]) (F := F)) g3 (by decide +kernel) (by decide +kernel)
    have g8 := agc_tr g9 g7 (by decide +kernel) (by decide +kernel)
    exact hK hI6 g8
  · have b10 : B 0 0 (F 4 9) := B_w (B_eq (Eq.symm (g3.1 4 9 rfl rfl)) (B_eq hc cqb_0_0_0)) (by decide +kernel) (by decide +kernel)
    have q11 : (0) ≤ (F 4 9).toInt ∧ (F 4 9).toInt ≤ (0) := (show B 0 0 (F 4 9) from B_w b10 (by decide +kernel) (by decide +kernel))
    have e12 : (FS1_1 4 9).toInt = (F 4 9).toInt := (congrArg Int32.toInt (g3.1 4 9 rfl rfl)).trans rfl
    have i13 : (FS1_1 4 9).toInt = (0 : Int32).toInt := congrArg Int32.toInt hc
    have n14 : (0 : Int32).toInt = 0 := cqn_0
    refine h_Pa_addMark_u4 hI2 (fun {FS13_15} {LFS13_15} hI16 g17 => ?_)
    unfold b_Pa_writeAgain_16
    refine ⟨(show ¬ ((58 : Nat) = NU) from by decide +kernel), ?_⟩
    refine h_Ar_fillI_x058_x10 hI16 (fun {FS21_18} {LFS21_18} hI19 g20 => ?_)
    have g23 := agc_tr (agc_refl (fs := [410, 411, 501]) (rs := [6, 58, 999]) (F := F)) g3 (by decide +kernel) (by decide +kernel)
    have g22 := agc_tr g23 g17 (by decide +kernel) (by decide +kernel)
    have g21 := agc_tr g22 g20 (by decide +kernel) (by decide +kernel)
    exact hK hI19 g21
set_option maxRecDepth 20000 in
set_option maxHeartbeats 4000000 in
theorem h_Ar_fillI_x034_x10 {a : Bool} {b : Bool} {P : Nat → Nat → Nat} {F : cF} {L : cL} {K : cs → Prop} (hI : IMc F) (hK : ∀ {Z : cF} {LZ : cL}, IMc Z → agc [] [34] F Z → K (Z, LZ, PC a b P)) : p_Ar_fillI UL 34 0 (F, L, PC a b P) K := by
  unfold p_Ar_fillI
  refine ⟨(show c_cl UL 34 = 902 from cl_34), ?_⟩
  refine ⟨fun yx0 yx1 yx2 yx3 yS => (34 : Nat) = yx0 ∧ (0 : Int32) = yx1 ∧ (257 : Int32) = yx3 ∧ B 0 65536 yx2 ∧ ∃ (T5 : cF) (LT5 : cL), yS = (T5, LT5, PC a b P) ∧ IMc T5 ∧ agc [] [34] F T5, fun yx0 yx1 yx2 yx3 yS => (65536 - yx2.toInt).toNat, ⟨rfl, rfl, rfl, (B_w cqb_0_0_0 (by decide +kernel) (by decide +kernel)), _, _, rfl, hI, (agc_refl (fs := []) (rs := [34]) (F := F))⟩, fun x0_1 x1_2 x2_3 x3_4 ST5 hIv => ?_⟩
  obtain ⟨rfl, rfl, rfl, b6, T5, LT5, rfl, hI7, g8⟩ := hIv
  suffices hs : ∀ (R5 : Nat → Int32 → Int32 → Int32 → cs → Prop), (∀ zx0 zx1 zx2 zx3 zS, ((34 : Nat) = zx0 ∧ (0 : Int32) = zx1 ∧ (257 : Int32) = zx3 ∧ B 0 65536 zx2 ∧ ∃ (T5 : cF) (LT5 : cL), zS = (T5, LT5, PC a b P) ∧ IMc T5 ∧ agc [] [34] F T5) → (65536 - zx2.toInt).toNat < (65536 - x2_3.toInt).toNat → R5 zx0 zx1 zx2 zx3 zS) → b_Ar_fillI_5 UL 34 0 x2_3 257 (T5, LT5, PC a b P) R5 K from hs _ (fun _ _ _ _ _ h1 h2 => ⟨h1, h2⟩)
  intro R5 hR50
  have hR5 := fun {zx0} {zx1} {zx2} {zx3} {zS} => hR50 zx0 zx1 zx2 zx3 zS
  unfold b_Ar_fillI_5
  refine ⟨fun hc => ?_, fun hc => ?_⟩
  · have hq9 := hc
    have b10 : B 257 65536 (x2_3) := B_w (B_leR cqb_257_257_257 b6 hq9) (by decide +kernel) (by decide +kernel)
    have g11 := agc_tr (agc_refl (fs := []) (rs := [34]) (F := F)) g8 (by decide +kernel) (by decide +kernel)
    exact hK hI7 g11
  · have hq12 := (nle_lt hc)
    have b13 : B 0 256 (x2_3) := B_w (B_ltL b6 cqb_257_257_257 hq12) (by decide +kernel) (by decide +kernel)
    refine ⟨(show c_cl UL 34 = 902 from cl_34), ?_⟩
    refine ⟨(show vp_in (x2_3) 257 from vp_B b13 (by decide +kernel) (by decide +kernel)), ?_⟩
    have hI14 := IMc_u (u := 34) (i := x2_3.toNatClampNeg) (v := 0) hI7 (show B (-2147483648) 2147483647 (0) from (B_w cqb_0_0_0 (by decide +kernel) (by decide +kernel)))
    have g16 := agc_tr (agc_refl (fs := []) (rs := [34]) (F := F)) g8 (by decide +kernel) (by decide +kernel)
    have g15 := agc_r (u := 34) (w := upd (T5 34) x2_3.toNatClampNeg 0) g16 rfl (by decide +kernel)
    have q17 : (0) ≤ (x2_3).toInt ∧ (x2_3).toInt ≤ (256) := (show B 0 256 (x2_3) from B_w b13 (by decide +kernel) (by decide +kernel))
    have e18 : (x2_3 + 1).toInt = ((x2_3).toInt + 1) := (t_add b13 cqb_1_1_1 (by decide +kernel) (by decide +kernel)).trans (by rw [cqn_1])
    have q19 : (1) ≤ (x2_3 + 1).toInt ∧ (x2_3 + 1).toInt ≤ (257) := (show B 1 257 (x2_3 + 1) from B_w (B_add b13 cqb_1_1_1 (by decide +kernel) (by decide +kernel)) (by decide +kernel) (by decide +kernel))
    exact hR5 ⟨rfl, rfl, rfl, (B_w (B_add b13 cqb_1_1_1 (by decide +kernel) (by decide +kernel)) (by decide +kernel) (by decide +kernel)), _, _, rfl, hI14, g15⟩ (by show (65536 - (x2_3 + 1).toInt).toNat < (65536 - x2_3.toInt).toNat; omega)
set_option maxRecDepth 20000 in
set_option maxHeartbeats 4000000 in
theorem h_Ar_fillI_x035_x10 {a : Bool} {b : Bool} {P : Nat → Nat → Nat} {F : cF} {L : cL} {K : cs → Prop} (hI : IMc F) (hK : ∀ {Z : cF} {LZ : cL}, IMc Z → agc [] [35] F Z → K (Z, LZ, PC a b P)) : p_Ar_fillI UL 35 0 (F, L, PC a b P) K := by
  unfold p_Ar_fillI
  refine ⟨(show c_cl UL 35 = 902 from cl_35), ?_⟩
  refine ⟨fun yx0 yx1 yx2 yx3 yS => (35 : Nat) = yx0 ∧ (0 : Int32) = yx1 ∧ (257 : Int32) = yx3 ∧ B 0 65536 yx2 ∧ ∃ (T5 : cF) (LT5 : cL), yS = (T5, LT5, PC a b P) ∧ IMc T5 ∧ agc [] [35] F T5, fun yx0 yx1 yx2 yx3 yS => (65536 - yx2.toInt).toNat, ⟨rfl, rfl, rfl, (B_w cqb_0_0_0 (by decide +kernel) (by decide +kernel)), _, _, rfl, hI, (agc_refl (fs := []) (rs := [35]) (F := F))⟩, fun x0_1 x1_2 x2_3 x3_4 ST5 hIv => ?_⟩
  obtain ⟨rfl, rfl, rfl, b6, T5, LT5, rfl, hI7, g8⟩ := hIv
  suffices hs : ∀ (R5 : Nat → Int32 → Int32 → Int32 → cs → Prop), (∀ zx0 zx1 zx2 zx3 zS, ((35 : Nat) = zx0 ∧ (0 : Int32) = zx1 ∧ (257 : Int32) = zx3 ∧ B 0 65536 zx2 ∧ ∃ (T5 : cF) (LT5 : cL), zS = (T5, LT5, PC a b P) ∧ IMc T5 ∧ agc [] [35] F T5) → (65536 - zx2.toInt).toNat < (65536 - x2_3.toInt).toNat → R5 zx0 zx1 zx2 zx3 zS) → b_Ar_fillI_5 UL 35 0 x2_3 257 (T5, LT5, PC a b P) R5 K from hs _ (fun _ _ _ _ _ h1 h2 => ⟨h1, h2⟩)
  intro R5 hR50
  have hR5 := fun {zx0} {zx1} {zx2} {zx3} {zS} => hR50 zx0 zx1 zx2 zx3 zS
  unfold b_Ar_fillI_5
  refine ⟨fun hc => ?_, fun hc => ?_⟩
  · have hq9 := hc
    have b10 : B 257 65536 (x2_3) := B_w (B_leR cqb_257_257_257 b6 hq9) (by decide +kernel) (by decide +kernel)
    have g11 := agc_tr (agc_refl (fs := []) (rs := [35]) (F := F)) g8 (by decide +kernel) (by decide +kernel)
    exact hK hI7 g11
  · have hq12 := (nle_lt hc)
    have b13 : B 0 256 (x2_3) := B_w (B_ltL b6 cqb_257_257_257 hq12) (by decide +kernel) (by decide +kernel)
    refine ⟨(show c_cl UL 35 = 902 from cl_35), ?_⟩
    refine ⟨(show vp_in (x2_3) 257 from vp_B b13 (by decide +kernel) (by decide +kernel)), ?_⟩
    have hI14 := IMc_u (u := 35) (i := x2_3.toNatClampNeg) (v := 0) hI7 (show B (-2147483648) 2147483647 (0) from (B_w cqb_0_0_0 (by decide +kernel) (by decide +kernel)))
    have g16 := agc_tr (agc_refl (fs := []) (rs := [35]) (F := F)) g8 (by decide +kernel) (by decide +kernel)
    have g15 := agc_r (u := 35) (w := upd (T5 35) x2_3.toNatClampNeg 0) g16 rfl (by decide +kernel)
    have q17 : (0) ≤ (x2_3).toInt ∧ (x2_3).toInt ≤ (256) := (show B 0 256 (x2_3) from B_w b13 (by decide +kernel) (by decide +kernel))
    have e18 : (x2_3 + 1).toInt = ((x2_3).toInt + 1) := (t_add b13 cqb_1_1_1 (by decide +kernel) (by decide +kernel)).trans (by rw [cqn_1])
    have q19 : (1) ≤ (x2_3 + 1).toInt ∧ (x2_3 + 1).toInt ≤ (257) := (show B 1 257 (x2_3 + 1) from B_w (B_add b13 cqb_1_1_1 (by decide +kernel) (by decide +kernel)) (by decide +kernel) (by decide +kernel))
    exact hR5 ⟨rfl, rfl, rfl, (B_w (B_add b13 cqb_1_1_1 (by decide +kernel) (by decide +kernel)) (by decide +kernel) (by decide +kernel)), _, _, rfl, hI14, g15⟩ (by show (65536 - (x2_3 + 1).toInt).toNat < (65536 - x2_3.toInt).toNat; omega)
set_option maxRecDepth 20000 in
set_option maxHeartbeats 4000000 in
theorem h_Oc_begin_u33 {a : Bool} {b : Bool} {P : Nat → Nat → Nat} {F : cF} {L : cL} {K : cs → Prop} (hI : IMc F) (hK : ∀ {Z : cF} {LZ : cL}, IMc Z → agc [] [34, 35] F Z → K (Z, LZ, PC a b P)) : p_Oc_begin UL 33 (F, L, PC a b P) K := by
  unfold p_Oc_begin
  refine ⟨(show ¬ ((34 : Nat) = NU) from by decide +kernel), ?_⟩
  refine h_Ar_fillI_x034_x10 hI (fun {FS5_1} {LFS5_1} hI2 g3 => ?_)
  refine ⟨(show ¬ ((35 : Nat) = NU) from by decide +kernel), ?_⟩
  refine h_Ar_fillI_x035_x10 hI2 (fun {FS13_4} {LFS13_4} hI5 g6 => ?_)
  have g8 := agc_tr (agc_refl (fs := []) (rs := [34, 35]) (F := F)) g3 (by decide +kernel) (by decide +kernel)
  have g7 := agc_tr g8 g6 (by decide +kernel) (by decide +kernel)
  exact hK hI5 g7
