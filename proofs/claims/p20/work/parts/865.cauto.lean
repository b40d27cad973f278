set_option maxRecDepth 20000 in
set_option maxHeartbeats 4000000 in
theorem h_Sc_blocksTogether_u73_x163 {a : Bool} {b : Bool} {P : Nat → Nat → Nat} {F : cF} {L : cL} {K : Int32 → cs → Prop} (hI : IMc F) (hK : ∀ {v : Int32}, B 0 12 v → K v (F, L, PC a b P)) : p_Sc_blocksTogether UL 73 63 (F, L, PC a b P) K := by
  unfold p_Sc_blocksTogether
  refine ⟨fun yx1 yx2 yx3 yS => (63 : Nat) = yx1 ∧ B 0 12 yx2 ∧ B 0 3 yx3 ∧ (F, L, PC a b P) = yS ∧ (yx2.toInt ≤ (4 * yx3.toInt)), fun yx1 yx2 yx3 yS => (3 - yx3.toInt).toNat, ⟨rfl, (B_w cqb_0_0_0 (by decide +kernel) (by decide +kernel)), (B_w cqb_0_0_0 (by decide +kernel) (by decide +kernel)), rfl, (by show 0 ≤ (4 * 0); first | with_reducible assumption | omega)⟩, fun x1_1 x2_2 x3_3 ST4 hIv => ?_⟩
  obtain ⟨rfl, b5, b6, rfl, r7⟩ := hIv
  suffices hs : ∀ (R4 : Nat → Int32 → Int32 → cs → Prop), (∀ zx1 zx2 zx3 zS, ((63 : Nat) = zx1 ∧ B 0 12 zx2 ∧ B 0 3 zx3 ∧ (F, L, PC a b P) = zS ∧ (zx2.toInt ≤ (4 * zx3.toInt))) → (3 - zx3.toInt).toNat < (3 - x3_3.toInt).toNat → R4 zx1 zx2 zx3 zS) → b_Sc_blocksTogether_4 UL 73 63 x2_2 x3_3 (F, L, PC a b P) R4 K from hs _ (fun _ _ _ _ h1 h2 => ⟨h1, h2⟩)
  intro R4 hR40
  have hR4 := fun {zx1} {zx2} {zx3} {zS} => hR40 zx1 zx2 zx3 zS
  have q8 : (0) ≤ (x2_2).toInt ∧ (x2_2).toInt ≤ (12) := (show B 0 12 (x2_2) from B_w b5 (by decide +kernel) (by decide +kernel))
  have q9 : (0) ≤ (x3_3).toInt ∧ (x3_3).toInt ≤ (3) := (show B 0 3 (x3_3) from B_w b6 (by decide +kernel) (by decide +kernel))
  unfold b_Sc_blocksTogether_4
  refine ⟨fun hc => ?_, fun hc => ?_⟩
  · have hq10 := hc
    have q11 : (0) ≤ (F 73 0).toInt ∧ (F 73 0).toInt ≤ (3) := (show B 0 3 (F 73 0) from hI 73 0)
    have i12 : (F 73 0).toInt ≤ (x3_3).toInt := i_le hq10
    exact hK b5
  · have hq13 := (nle_lt hc)
    have b14 : B 0 2 (x3_3) := B_w (B_ltL b6 (show B 0 3 (F 73 0) from hI 73 0) hq13) (by decide +kernel) (by decide +kernel)
    have q15 : (0) ≤ (x3_3).toInt ∧ (x3_3).toInt ≤ (2) := (show B 0 2 (x3_3) from B_w b14 (by decide +kernel) (by decide +kernel))
    have b16 : B 1 3 (F 73 0) := B_w (B_ltR b6 (show B 0 3 (F 73 0) from hI 73 0) hq13) (by decide +kernel) (by decide +kernel)
    have q17 : (1) ≤ (F 73 0).toInt ∧ (F 73 0).toInt ≤ (3) := (show B 1 3 (F 73 0) from B_w b16 (by decide +kernel) (by decide +kernel))
    have i18 : (x3_3).toInt < (F 73 0).toInt := i_lt hq13
    refine ⟨(show c_cl UL 63 = 7 from cl_63), ?_⟩
    refine ⟨(show ¬ ((64 : Nat) = NU) from by decide +kernel), ?_⟩
    refine ⟨(show ¬ ((74 : Nat) = NU) from by decide +kernel), ?_⟩
    refine ⟨(show c_cl UL 74 = 902 from cl_74), ?_⟩
    refine ⟨(show vp_in (x3_3) 3 from vp_B b14 (by decide +kernel) (by decide +kernel)), ?_⟩
    refine ⟨(show c_cl UL 64 = 902 from cl_64), ?_⟩
    refine ⟨(show vp_in (F 74 x3_3.toNatClampNeg) 3 from vp_B (show B 0 2 (F 74 x3_3.toNatClampNeg) from hI 74 x3_3.toNatClampNeg) (by decide +kernel) (by decide +kernel)), ?_⟩
    refine ⟨(show ¬ ((65 : Nat) = NU) from by decide +kernel), ?_⟩
    refine ⟨(show ¬ ((74 : Nat) = NU) from by decide +kernel), ?_⟩
    refine ⟨(show vp_in (x3_3) 3 from vp_B b14 (by decide +kernel) (by decide +kernel)), ?_⟩
    refine ⟨(show c_cl UL 65 = 902 from cl_65), ?_⟩
    refine ⟨(show vp_in (F 74 x3_3.toNatClampNeg) 3 from vp_B (show B 0 2 (F 74 x3_3.toNatClampNeg) from hI 74 x3_3.toNatClampNeg) (by decide +kernel) (by decide +kernel)), ?_⟩
    have q19 : (1) ≤ (F 64 (F 74 x3_3.toNatClampNeg).toNatClampNeg).toInt ∧ (F 64 (F 74 x3_3.toNatClampNeg).toNatClampNeg).toInt ≤ (2) := (show B 1 2 (F 64 (F 74 x3_3.toNatClampNeg).toNatClampNeg) from sB_64 hI (show B 0 2 (F 74 x3_3.toNatClampNeg) from hI 74 x3_3.toNatClampNeg) (by decide +kernel) (by decide +kernel))
    have q20 : (1) ≤ (F 65 (F 74 x3_3.toNatClampNeg).toNatClampNeg).toInt ∧ (F 65 (F 74 x3_3.toNatClampNeg).toNatClampNeg).toInt ≤ (2) := (show B 1 2 (F 65 (F 74 x3_3.toNatClampNeg).toNatClampNeg) from sB_65 hI (show B 0 2 (F 74 x3_3.toNatClampNeg) from hI 74 x3_3.toNatClampNeg) (by decide +kernel) (by decide +kernel))
    have e21 : ((F 64 (F 74 x3_3.toNatClampNeg).toNatClampNeg) * (F 65 (F 74 x3_3.toNatClampNeg).toNatClampNeg)).toInt = ((F 64 (F 74 x3_3.toNatClampNeg).toNatClampNeg).toInt * (F 65 (F 74 x3_3.toNatClampNeg).toNatClampNeg).toInt) := (t_mul (show B 1 2 (F 64 (F 74 x3_3.toNatClampNeg).toNatClampNeg) from sB_64 hI (show B 0 2 (F 74 x3_3.toNatClampNeg) from hI 74 x3_3.toNatClampNeg) (by decide +kernel) (by decide +kernel)) (show B 1 2 (F 65 (F 74 x3_3.toNatClampNeg).toNatClampNeg) from sB_65 hI (show B 0 2 (F 74 x3_3.toNatClampNeg) from hI 74 x3_3.toNatClampNeg) (by decide +kernel) (by decide +kernel)) (by decide +kernel) (by decide +kernel) (by decide +kernel)).trans (by rfl)
    have q22 : (1) ≤ ((F 64 (F 74 x3_3.toNatClampNeg).toNatClampNeg) * (F 65 (F 74 x3_3.toNatClampNeg).toNatClampNeg)).toInt ∧ ((F 64 (F 74 x3_3.toNatClampNeg).toNatClampNeg) * (F 65 (F 74 x3_3.toNatClampNeg).toNatClampNeg)).toInt ≤ (4) := (show B 1 4 ((F 64 (F 74 x3_3.toNatClampNeg).toNatClampNeg) * (F 65 (F 74 x3_3.toNatClampNeg).toNatClampNeg)) from B_w (B_mul (show B 1 2 (F 64 (F 74 x3_3.toNatClampNeg).toNatClampNeg) from sB_64 hI (show B 0 2 (F 74 x3_3.toNatClampNeg) from hI 74 x3_3.toNatClampNeg) (by decide +kernel) (by decide +kernel)) (show B 1 2 (F 65 (F 74 x3_3.toNatClampNeg).toNatClampNeg) from sB_65 hI (show B 0 2 (F 74 x3_3.toNatClampNeg) from hI 74 x3_3.toNatClampNeg) (by decide +kernel) (by decide +kernel)) (by decide +kernel) (by decide +kernel) (by decide +kernel)) (by decide +kernel) (by decide +kernel))
    have e23 : (x2_2 + ((F 64 (F 74 x3_3.toNatClampNeg).toNatClampNeg) * (F 65 (F 74 x3_3.toNatClampNeg).toNatClampNeg))).toInt = ((x2_2).toInt + ((F 64 (F 74 x3_3.toNatClampNeg).toNatClampNeg).toInt * (F 65 (F 74 x3_3.toNatClampNeg).toNatClampNeg).toInt)) := (t_add b5 (B_mul (show B 1 2 (F 64 (F 74 x3_3.toNatClampNeg).toNatClampNeg) from sB_64 hI (show B 0 2 (F 74 x3_3.toNatClampNeg) from hI 74 x3_3.toNatClampNeg) (by decide +kernel) (by decide +kernel)) (show B 1 2 (F 65 (F 74 x3_3.toNatClampNeg).toNatClampNeg) from sB_65 hI (show B 0 2 (F 74 x3_3.toNatClampNeg) from hI 74 x3_3.toNatClampNeg) (by decide +kernel) (by decide +kernel)) (by decide +kernel) (by decide +kernel) (by decide +kernel)) (by decide +kernel) (by decide +kernel)).trans (by rw [e21])
    have q24 : (1) ≤ (x2_2 + ((F 64 (F 74 x3_3.toNatClampNeg).toNatClampNeg) * (F 65 (F 74 x3_3.toNatClampNeg).toNatClampNeg))).toInt ∧ (x2_2 + ((F 64 (F 74 x3_3.toNatClampNeg).toNatClampNeg) * (F 65 (F 74 x3_3.toNatClampNeg).toNatClampNeg))).toInt ≤ (16) := (show B 1 16 (x2_2 + ((F 64 (F 74 x3_3.toNatClampNeg).toNatClampNeg) * (F 65 (F 74 x3_3.toNatClampNeg).toNatClampNeg))) from B_w (B_add b5 (B_mul (show B 1 2 (F 64 (F 74 x3_3.toNatClampNeg).toNatClampNeg) from sB_64 hI (show B 0 2 (F 74 x3_3.toNatClampNeg) from hI 74 x3_3.toNatClampNeg) (by decide +kernel) (by decide +kernel)) (show B 1 2 (F 65 (F 74 x3_3.toNatClampNeg).toNatClampNeg) from sB_65 hI (show B 0 2 (F 74 x3_3.toNatClampNeg) from hI 74 x3_3.toNatClampNeg) (by decide +kernel) (by decide +kernel)) (by decide +kernel) (by decide +kernel) (by decide +kernel)) (by decide +kernel) (by decide +kernel)) (by decide +kernel) (by decide +kernel))
    have e25 : (x3_3 + 1).toInt = ((x3_3).toInt + 1) := (t_add b14 cqb_1_1_1 (by decide +kernel) (by decide +kernel)).trans (by rw [cqn_1])
    have q26 : (1) ≤ (x3_3 + 1).toInt ∧ (x3_3 + 1).toInt ≤ (3) := (show B 1 3 (x3_3 + 1) from B_w (B_add b14 cqb_1_1_1 (by decide +kernel) (by decide +kernel)) (by decide +kernel) (by decide +kernel))
    exact hR4 ⟨rfl, (show B 0 12 (x2_2 + ((F 64 (F 74 x3_3.toNatClampNeg).toNatClampNeg) * (F 65 (F 74 x3_3.toNatClampNeg).toNatClampNeg))) from ⟨by omega, by omega⟩), (B_w (B_add b14 cqb_1_1_1 (by decide +kernel) (by decide +kernel)) (by decide +kernel) (by decide +kernel)), rfl, (by show (x2_2 + ((F 64 (F 74 x3_3.toNatClampNeg).toNatClampNeg) * (F 65 (F 74 x3_3.toNatClampNeg).toNatClampNeg))).toInt ≤ (4 * (x3_3 + 1).toInt); first | with_reducible assumption | omega)⟩ (by show (3 - (x3_3 + 1).toInt).toNat < (3 - x3_3.toInt).toNat; omega)
set_option maxRecDepth 20000 in
set_option maxHeartbeats 4000000 in
theorem h_Sc_addBlock_u73_a0 {b : Bool} {P : Nat → Nat → Nat} {x1 : Int32} {x2 : Int32} {F : cF} {L : cL} {K : cs → Prop} (b_x1 : B 0 2 x1) (b_x2 : B 0 63 x2) (hI : IMc F) (pre0 : qf (F 77) 0 (F 73 6).toInt 0 ((64 * (F 63 2).toInt) - 1)) (pre1 : x1.toInt < (F 63 2).toInt) (pre2 : ZQ F) (pre3 : cz x1 F) (hK : ∀ {Z : cF} {LZ : cL}, IMc Z → agc [7306] [77] F Z → (qf (Z 77) 0 (Z 73 6).toInt 0 ((64 * (Z 63 2).toInt) - 1)) → (ZQ Z) → K (Z, LZ, PC false b P)) : p_Sc_addBlock UL 73 x1 x2 (F, L, PC false b P) K := by
  have q1 : (0) ≤ (F 73 6).toInt ∧ (F 73 6).toInt ≤ (192) := (show B 0 192 (F 73 6) from hI 73 6)
  have q2 : (0) ≤ (x1).toInt ∧ (x1).toInt ≤ (2) := (show B 0 2 (x1) from B_w b_x1 (by decide +kernel) (by decide +kernel))
  have q3 : (1) ≤ (F 63 2).toInt ∧ (F 63 2).toInt ≤ (3) := (show B 1 3 (F 63 2) from hI 63 2)
  unfold p_Sc_addBlock
  refine ⟨(show ¬ ((77 : Nat) = NU) from by decide +kernel), ?_⟩
  refine ⟨(show c_cl UL 77 = 902 from cl_77), ?_⟩
  refine ⟨fun hc => ?_, fun hc => ?_⟩
  · have hq4 := hc
    have b5 : B 192 192 (F 73 6) := B_w (B_leR cqb_192_192_192 (show B 0 192 (F 73 6) from hI 73 6) hq4) (by decide +kernel) (by decide +kernel)
    have q6 : (192) ≤ (F 73 6).toInt ∧ (F 73 6).toInt ≤ (192) := (show B 192 192 (F 73 6) from B_w b5 (by decide +kernel) (by decide +kernel))
    unfold b_Sc_addBlock_37
    exact hK hI (agc_refl (fs := [7306]) (rs := [77]) (F := F)) (qf_le (b' := (F 73 6).toInt) (lo' := 0) (hi' := (64 * (F 63 2).toInt) - 1) pre0 (by omega) (by omega) (by omega)) pre2
  · have hq7 := (nle_lt hc)
    have b8 : B 0 191 (F 73 6) := B_w (B_ltL (show B 0 192 (F 73 6) from hI 73 6) cqb_192_192_192 hq7) (by decide +kernel) (by decide +kernel)
    have q9 : (0) ≤ (F 73 6).toInt ∧ (F 73 6).toInt ≤ (191) := (show B 0 191 (F 73 6) from B_w b8 (by decide +kernel) (by decide +kernel))
    refine ⟨(show ¬ ((77 : Nat) = NU) from by decide +kernel), ?_⟩
    refine ⟨(show vp_in (F 73 6) 192 from vp_B b8 (by decide +kernel) (by decide +kernel)), ?_⟩
    unfold b_Sc_addBlock_37
    have hI10 := IMc_u (u := 77) (i := (F 73 6).toNatClampNeg) (v := (64 * x1) + x2) hI (show B 0 191 ((64 * x1) + x2) from (B_w (B_add (B_mul cqb_64_64_64 b_x1 (by decide +kernel) (by decide +kernel) (by decide +kernel)) b_x2 (by decide +kernel) (by decide +kernel)) (by decide +kernel) (by decide +kernel)))
    have hI11 := IMc_u (u := 73) (i := 6) (v := (F 73 6) + 1) hI10 (show B 0 192 ((F 73 6) + 1) from (B_w (B_add b8 cqb_1_1_1 (by decide +kernel) (by decide +kernel)) (by decide +kernel) (by decide +kernel)))
    have g13 := agc_r (u := 77) (w := upd (F 77) (F 73 6).toNatClampNeg ((64 * x1) + x2)) (agc_refl (fs := [7306]) (rs := [77]) (F := F)) rfl (by decide +kernel)
    have g12 := agc_f (u := 73) (k := 6) (v := (F 73 6) + 1) g13 rfl (by decide +kernel)
    have e14 : ((F 73 6) + 1).toInt = ((F 73 6).toInt + 1) := (t_add b8 cqb_1_1_1 (by decide +kernel) (by decide +kernel)).trans (by rw [cqn_1])
    have q15 : (1) ≤ ((F 73 6) + 1).toInt ∧ ((F 73 6) + 1).toInt ≤ (192) := (show B 1 192 ((F 73 6) + 1) from B_w (B_add b8 cqb_1_1_1 (by decide +kernel) (by decide +kernel)) (by decide +kernel) (by decide +kernel))
    have e16 : (64 * x1).toInt = (64 * (x1).toInt) := (t_mul cqb_64_64_64 b_x1 (by decide +kernel) (by decide +kernel) (by decide +kernel)).trans (by rw [cqn_64])
    have q17 : (0) ≤ (64 * x1).toInt ∧ (64 * x1).toInt ≤ (128) := (show B 0 128 (64 * x1) from B_w (B_mul cqb_64_64_64 b_x1 (by decide +kernel) (by decide +kernel) (by decide +kernel)) (by decide +kernel) (by decide +kernel))
    have q18 : (0) ≤ (x2).toInt ∧ (x2).toInt ≤ (63) := (show B 0 63 (x2) from B_w b_x2 (by decide +kernel) (by decide +kernel))
    have e19 : ((64 * x1) + x2).toInt = ((64 * (x1).toInt) + (x2).toInt) := (t_add (B_mul cqb_64_64_64 b_x1 (by decide +kernel) (by decide +kernel) (by decide +kernel)) b_x2 (by decide +kernel) (by decide +kernel)).trans (by rw [e16])
    have q20 : (0) ≤ ((64 * x1) + x2).toInt ∧ ((64 * x1) + x2).toInt ≤ (191) := (show B 0 191 ((64 * x1) + x2) from B_w (B_add (B_mul cqb_64_64_64 b_x1 (by decide +kernel) (by decide +kernel) (by decide +kernel)) b_x2 (by decide +kernel) (by decide +kernel)) (by decide +kernel) (by decide +kernel))
    exact hK hI11 g12 (qf_le (b' := ((F 73 6) + 1).toInt) (lo' := 0) (hi' := (64 * (F 63 2).toInt) - 1) (qf_ext (x := F 73 6) (b' := ((F 73 6) + 1).toInt) (qf_le (b' := (F 73 6).toInt) (lo' := 0) (hi' := (64 * (F 63 2).toInt) - 1) pre0 (by omega) (by omega) (by omega)) (fun _ => ⟨by omega, by omega⟩) (by omega) (by omega) (by omega)) (by omega) (by omega) (by omega)) (ZQ_up (F := F) (G := va_up (va_up F 77 (upd (F 77) (F 73 6).toNatClampNeg ((64 * x1) + x2))) 73 (upd (F 73) 6 ((F 73 6) + 1))) pre2 pre3 hI g12 (by decide +kernel) rfl (by show ((F 73 6) + 1).toInt = _; first | with_reducible assumption | omega) b_x1 b_x2)
set_option maxRecDepth 20000 in
set_option maxHeartbeats 4000000 in
theorem h_Sc_addStretch_u73_x163_a0 {b : Bool} {P : Nat → Nat → Nat} {x2 : Int32} {x3 : Int32} {x4 : Int32} {F : cF} {L : cL} {K : cs → Prop} (b_x2 : B 0 2 x2) (b_x3 : B 0 7 x3) (b_x4 : B 0 7 x4) (hI : IMc F) (pre0 : qf (F 77) 0 (F 73 6).toInt 0 ((64 * (F 63 2).toInt) - 1)) (pre1 : x2.toInt < (F 63 2).toInt) (pre2 : x3.toInt < (F 63 7).toInt) (pre3 : x4.toInt < (F 63 8).toInt) (pre4 : qf (F 64) 0 (F 63 2).toInt 1 (F 63 5).toInt) (pre5 : qf (F 65) 0 (F 63 2).toInt 1 (F 63 6).toInt) (pre6 : ((F 63 5).toInt = 1) ∨ ((F 63 7).toInt ≤ 4)) (pre7 : ((F 63 6).toInt = 1) ∨ ((F 63 8).toInt ≤ 4)) (pre8 : ZQ F) (pre9 : cz x2 F) (hK : ∀ {Z : cF} {LZ : cL}, IMc Z → agc [7306] [77, 999] F Z → (qf (Z 77) 0 (Z 73 6).toInt 0 ((64 * (Z 63 2).toInt) - 1)) → (ZQ Z) → K (Z, LZ, PC false b P)) : p_Sc_addStretch UL 73 63 x2 x3 x4 (F, L, PC false b P) K := by
  have q1 : (0) ≤ (F 73 6).toInt ∧ (F 73 6).toInt ≤ (192) := (show B 0 192 (F 73 6) from hI 73 6)
  have q2 : (0) ≤ (x2).toInt ∧ (x2).toInt ≤ (2) := (show B 0 2 (x2) from B_w b_x2 (by decide +kernel) (by decide +kernel))
  have q3 : (1) ≤ (F 63 2).toInt ∧ (F 63 2).toInt ≤ (3) := (show B 1 3 (F 63 2) from hI 63 2)
  have q4 : (0) ≤ (x3).toInt ∧ (x3).toInt ≤ (7) := (show B 0 7 (x3) from B_w b_x3 (by decide +kernel) (by decide +kernel))
  have q5 : (1) ≤ (F 63 7).toInt ∧ (F 63 7).toInt ≤ (8) := (show B 1 8 (F 63 7) from hI 63 7)
  have q6 : (0) ≤ (x4).toInt ∧ (x4).toInt ≤ (7) := (show B 0 7 (x4) from B_w b_x4 (by decide +kernel) (by decide +kernel))
  have q7 : (1) ≤ (F 63 8).toInt ∧ (F 63 8).toInt ≤ (8) := (show B 1 8 (F 63 8) from hI 63 8)
  have q8 : (1) ≤ (F 63 5).toInt ∧ (F 63 5).toInt ≤ (2) := (show B 1 2 (F 63 5) from hI 63 5)
  have q9 : (1) ≤ (F 63 6).toInt ∧ (F 63 6).toInt ≤ (2) := (show B 1 2 (F 63 6) from hI 63 6)
  unfold p_Sc_addStretch
  rcases sp_12 (show B 1 2 (F 63 5) from hI 63 5) with hcs | hcs
  · have b10 : B 1 1 (F 63 5) := B_eq hcs cqb_1_1_1
    have q11 : (1) ≤ (F 63 5).toInt ∧ (F 63 5).toInt ≤ (1) := (show B 1 1 (F 63 5) from B_w b10 (by decide +kernel) (by decide +kernel))
    rcases sp_12 (show B 1 2 (F 63 6) from hI 63 6) with hcs | hcs
    · have b12 : B 1 1 (F 63 6) := B_eq hcs cqb_1_1_1
      have q13 : (1) ≤ (F 63 6).toInt ∧ (F 63 6).toInt ≤ (1) := (show B 1 1 (F 63 6) from B_w b12 (by decide +kernel) (by decide +kernel))
      refine ⟨(show c_cl UL 63 = 7 from cl_63), ?_⟩
      refine ⟨(show ¬ ((64 : Nat) = NU) from by decide +kernel), ?_⟩
      refine ⟨(show c_cl UL 64 = 902 from cl_64), ?_⟩
      refine ⟨(show vp_in (x2) 3 from vp_B b_x2 (by decide +kernel) (by decide +kernel)), ?_⟩
      refine ⟨(show ¬ ((65 : Nat) = NU) from by decide +kernel), ?_⟩
      refine ⟨(show c_cl UL 65 = 902 from cl_65), ?_⟩
      refine ⟨(show vp_in (x2) 3 from vp_B b_x2 (by decide +kernel) (by decide +kernel)), ?_⟩
      refine ⟨fun yx1 yx2 yx5 yx6 yx7 yS => (63 : Nat) = yx1 ∧ x2 = yx2 ∧ (x3 * (F 64 x2.toNatClampNeg)) = yx5 ∧ (x4 * (F 65 x2.toNatClampNeg)) = yx6 ∧ B 0 2 yx7 ∧ ∃ (T19 : cF) (LT19 : cL), yS = (T19, LT19, PC false b P) ∧ IMc T19 ∧ agc [7306] [77, 999] F T19 ∧ (qf (T19 77) 0 (T19 73 6).toInt 0 ((64 * (T19 63 2).toInt) - 1)) ∧ (ZQ T19), fun yx1 yx2 yx5 yx6 yx7 yS => (2 - yx7.toInt).toNat, ⟨rfl, rfl, rfl, rfl, (B_w cqb_0_0_0 (by decide +kernel) (by decide +kernel)), _, _, rfl, hI, (agc_refl (fs := [7306]) (rs := [77, 999]) (F := F)), (qf_le (b' := (F 73 6).toInt) (lo' := 0) (hi' := (64 * (F 63 2).toInt) - 1) pre0 (by omega) (by omega) (by omega)), pre8⟩, fun x1_14 x2_15 x5_16 x6_17 x7_18 ST19 hIv => ?_⟩
      obtain ⟨rfl, rfl, rfl, rfl, b20, T19, LT19, rfl, hI21, g22, r23, r24⟩ := hIv
      suffices hs : ∀ (R24 : Nat → Int32 → Int32 → Int32 → Int32 → cs → Prop), (∀ zx1 zx2 zx5 zx6 zx7 zS, ((63 : Nat) = zx1 ∧ x2 = zx2 ∧ (x3 * (F 64 x2.toNatClampNeg)) = zx5 ∧ (x4 * (F 65 x2.toNatClampNeg)) = zx6 ∧ B 0 2 zx7 ∧ ∃ (T19 : cF) (LT19 : cL), zS = (T19, LT19, PC false b P) ∧ IMc T19 ∧ agc [7306] [77, 999] F T19 ∧ (qf (T19 77) 0 (T19 73 6).toInt 0 ((64 * (T19 63 2).toInt) - 1)) ∧ (ZQ T19)) → (2 - zx7.toInt).toNat < (2 - x7_18.toInt).toNat → R24 zx1 zx2 zx5 zx6 zx7 zS) → b_Sc_addStretch_24 UL 73 63 x2 (x3 * (F 64 x2.toNatClampNeg)) (x4 * (F 65 x2.toNatClampNeg)) x7_18 (T19, LT19, PC false b P) R24 K from hs _ (fun _ _ _ _ _ _ h1 h2 => ⟨h1, h2⟩)
      intro R24 hR240
      have hR24 := fun {zx1} {zx2} {zx5} {zx6} {zx7} {zS} => hR240 zx1 zx2 zx5 zx6 zx7 zS
      have q25 : (0) ≤ (T19 73 6).toInt ∧ (T19 73 6).toInt ≤ (192) := (show B 0 192 (T19 73 6) from hI21 73 6)
      unfold b_Sc_addStretch_24
      refine ⟨(show c_cl UL 63 = 7 from cl_63), ?_⟩
      refine ⟨(show ¬ ((65 : Nat) = NU) from by decide +kernel), ?_⟩
      refine ⟨(show c_cl UL 65 = 902 from cl_65), ?_⟩
      refine ⟨(show vp_in (x2) 3 from vp_B b_x2 (by decide +kernel) (by decide +kernel)), ?_⟩
      refine ⟨fun hc => ?_, fun hc => ?_⟩
      · have r26 : 1 ≤ (F 65 x2.toNatClampNeg).toInt ∧ (F 65 x2.toNatClampNeg).toInt ≤ (F 63 6).toInt := qf_at pre5 (x := x2) (by omega) (by omega)
        have b27 : B 1 1 (F 65 x2.toNatClampNeg) := ⟨by omega, by omega⟩
        have hq28 := hc
        have b29 : B 1 2 (x7_18) := B_w (B_leR (B_eq (congrFun (g22.2 65 rfl rfl) x2.toNatClampNeg) b27) b20 hq28) (by decide +kernel) (by decide +kernel)
        have q30 : (1) ≤ (F 65 x2.toNatClampNeg).toInt ∧ (F 65 x2.toNatClampNeg).toInt ≤ (1) := (show B 1 1 (F 65 x2.toNatClampNeg) from B_w b27 (by decide +kernel) (by decide +kernel))
        have e31 : (T19 65 x2.toNatClampNeg).toInt = (F 65 x2.toNatClampNeg).toInt := (congrArg Int32.toInt (congrFun (g22.2 65 rfl rfl) x2.toNatClampNeg)).trans rfl
        have q32 : (1) ≤ (x7_18).toInt ∧ (x7_18).toInt ≤ (2) := (show B 1 2 (x7_18) from B_w b29 (by decide +kernel) (by decide +kernel))
        have i33 : (T19 65 x2.toNatClampNeg).toInt ≤ (x7_18).toInt := i_le hq28
        have g34 := agc_tr (agc_refl (fs := [7306]) (rs := [77, 999]) (F := F)) g22 (by decide +kernel) (by decide +kernel)
        have e35 : (T19 63 2).toInt = (F 63 2).toInt := (congrArg Int32.toInt (g22.1 63 2 rfl rfl)).trans rfl
        exact hK hI21 g34 (qf_le (b' := (T19 73 6).toInt) (lo' := 0) (hi' := (64 * (T19 63 2).toInt) - 1) r23 (by omega) (by omega) (by omega)) r24
      · have r36 : 1 ≤ (F 65 x2.toNatClampNeg).toInt ∧ (F 65 x2.toNatClampNeg).toInt ≤ (F 63 6).toInt := qf_at pre5 (x := x2) (by omega) (by omega)
        have b37 : B 1 1 (F 65 x2.toNatClampNeg) := ⟨by omega, by omega⟩
        have hq38 := (nle_lt hc)
        have b39 : B 0 0 (x7_18) := B_w (B_ltL b20 (B_eq (congrFun (g22.2 65 rfl rfl) x2.toNatClampNeg) b37) hq38) (by decide +kernel) (by decide +kernel)
        have q40 : (0) ≤ (x7_18).toInt ∧ (x7_18).toInt ≤ (0) := (show B 0 0 (x7_18) from B_w b39 (by decide +kernel) (by decide +kernel))
        have q41 : (1) ≤ (F 65 x2.toNatClampNeg).toInt ∧ (F 65 x2.toNatClampNeg).toInt ≤ (1) := (show B 1 1 (F 65 x2.toNatClampNeg) from B_w b37 (by decide +kernel) (by decide +kernel))
        have e42 : (T19 65 x2.toNatClampNeg).toInt = (F 65 x2.toNatClampNeg).toInt := (congrArg Int32.toInt (congrFun (g22.2 65 rfl rfl) x2.toNatClampNeg)).trans rfl
        have i43 : (x7_18).toInt < (T19 65 x2.toNatClampNeg).toInt := i_lt hq38
        have e54 : (T19 63 2).toInt = (F 63 2).toInt := (congrArg Int32.toInt (g22.1 63 2 rfl rfl)).trans rfl
        refine ⟨fun yx1 yx2 yx5 yx6 yx7 yx8 yS => (63 : Nat) = yx1 ∧ x2 = yx2 ∧ (x3 * (F 64 x2.toNatClampNeg)) = yx5 ∧ (x4 * (F 65 x2.toNatClampNeg)) = yx6 ∧ x7_18 = yx7 ∧ B 0 2 yx8 ∧ ∃ (T50 : cF) (LT50 : cL), yS = (T50, LT50, PC false b P) ∧ IMc T50 ∧ agc [7306] [77, 999] T19 T50 ∧ (qf (T50 77) 0 (T50 73 6).toInt 0 ((64 * (T50 63 2).toInt) - 1)) ∧ (ZQ T50), fun yx1 yx2 yx5 yx6 yx7 yx8 yS => (2 - yx8.toInt).toNat, ⟨rfl, rfl, rfl, rfl, rfl, (B_w cqb_0_0_0 (by decide +kernel) (by decide +kernel)), _, _, rfl, hI21, (agc_refl (fs := [7306]) (rs := [77, 999]) (F := T19)), (qf_le (b' := (T19 73 6).toInt) (lo' := 0) (hi' := (64 * (T19 63 2).toInt) - 1) r23 (by omega) (by omega) (by omega)), r24⟩, fun x1_44 x2_45 x5_46 x6_47 x7_48 x8_49 ST50 hIv => ?_⟩
        obtain ⟨rfl, rfl, rfl, rfl, rfl, b51, T50, LT50, rfl, hI52, g53, r55, r56⟩ := hIv
        suffices hs : ∀ (R38 : Nat → Int32 → Int32 → Int32 → Int32 → Int32 → cs → Prop), (∀ zx1 zx2 zx5 zx6 zx7 zx8 zS, ((63 : Nat) = zx1 ∧ x2 = zx2 ∧ (x3 * (F 64 x2.toNatClampNeg)) = zx5 ∧ (x4 * (F 65 x2.toNatClampNeg)) = zx6 ∧ x7_18 = zx7 ∧ B 0 2 zx8 ∧ ∃ (T50 : cF) (LT50 : cL), zS = (T50, LT50, PC false b P) ∧ IMc T50 ∧ agc [7306] [77, 999] T19 T50 ∧ (qf (T50 77) 0 (T50 73 6).toInt 0 ((64 * (T50 63 2).toInt) - 1)) ∧ (ZQ T50)) → (2 - zx8.toInt).toNat < (2 - x8_49.toInt).toNat → R38 zx1 zx2 zx5 zx6 zx7 zx8 zS) → b_Sc_addStretch_38 UL 73 63 x2 (x3 * (F 64 x2.toNatClampNeg)) (x4 * (F 65 x2.toNatClampNeg)) x7_18 x8_49 (T50, LT50, PC false b P) R24 R38 K from hs _ (fun _ _ _ _ _ _ _ h1 h2 => ⟨h1, h2⟩)
        intro R38 hR380
        have hR38 := fun {zx1} {zx2} {zx5} {zx6} {zx7} {zx8} {zS} => hR380 zx1 zx2 zx5 zx6 zx7 zx8 zS
        have q57 : (0) ≤ (T50 73 6).toInt ∧ (T50 73 6).toInt ≤ (192) := (show B 0 192 (T50 73 6) from hI52 73 6)
        unfold b_Sc_addStretch_38
        refine ⟨(show c_cl UL 63 = 7 from cl_63), ?_⟩
        refine ⟨(show ¬ ((64 : Nat) = NU) from by decide +kernel), ?_⟩
        refine ⟨(show c_cl UL 64 = 902 from cl_64), ?_⟩
        refine ⟨(show vp_in (x2) 3 from vp_B b_x2 (by decide +kernel) (by decide +kernel)), ?_⟩
        refine ⟨fun hc => ?_, fun hc => ?_⟩
        · have r58 : 1 ≤ (F 64 x2.toNatClampNeg).toInt ∧ (F 64 x2.toNatClampNeg).toInt ≤ (F 63 5).toInt := qf_at pre4 (x := x2) (by omega) (by omega)
          have b59 : B 1 1 (F 64 x2.toNatClampNeg) := ⟨by omega, by omega⟩
          have hq60 := hc
          have b61 : B 1 2 (x8_49) := B_w (B_leR (B_eq ((congrFun (g53.2 64 rfl rfl) x2.toNatClampNeg).trans (congrFun (g22.2 64 rfl rfl) x2.toNatClampNeg)) b59) b51 hq60) (by decide +kernel) (by decide +kernel)
          have q62 : (1) ≤ (F 64 x2.toNatClampNeg).toInt ∧ (F 64 x2.toNatClampNeg).toInt ≤ (1) := (show B 1 1 (F 64 x2.toNatClampNeg) from B_w b59 (by decide +kernel) (by decide +kernel))
          have e63 : (T50 64 x2.toNatClampNeg).toInt = (F 64 x2.toNatClampNeg).toInt := (congrArg Int32.toInt ((congrFun (g53.2 64 rfl rfl) x2.toNatClampNeg).trans (congrFun (g22.2 64 rfl rfl) x2.toNatClampNeg))).trans rfl
          have q64 : (1) ≤ (x8_49).toInt ∧ (x8_49).toInt ≤ (2) := (show B 1 2 (x8_49) from B_w b61 (by decide +kernel) (by decide +kernel))
          have i65 : (T50 64 x2.toNatClampNeg).toInt ≤ (x8_49).toInt := i_le hq60
          have g67 := agc_tr (agc_refl (fs := [7306]) (rs := [77, 999]) (F := F)) g22 (by decide +kernel) (by decide +kernel)
          have g66 := agc_tr g67 g53 (by decide +kernel) (by decide +kernel)
          have e68 : (T50 63 2).toInt = (F 63 2).toInt := (congrArg Int32.toInt ((g53.1 63 2 rfl rfl).trans (g22.1 63 2 rfl rfl))).trans rfl
          have e69 : (x7_18 + 1).toInt = ((x7_18).toInt + 1) := (t_add b39 cqb_1_1_1 (by decide +kernel) (by decide +kernel)).trans (by rw [cqn_1])
          have q70 : (1) ≤ (x7_18 + 1).toInt ∧ (x7_18 + 1).toInt ≤ (1) := (show B 1 1 (x7_18 + 1) from B_w (B_add b39 cqb_1_1_1 (by decide +kernel) (by decide +kernel)) (by decide +kernel) (by decide +kernel))
          exact hR24 ⟨rfl, rfl, rfl, rfl, (B_w (B_add b39 cqb_1_1_1 (by decide +kernel) (by decide +kernel)) (by decide +kernel) (by decide +kernel)), _, _, rfl, hI52, g66, (qf_le (b' := (T50 73 6).toInt) (lo' := 0) (hi' := (64 * (T50 63 2).toInt) - 1) r55 (by omega) (by omega) (by omega)), r56⟩ (by show (2 - (x7_18 + 1).toInt).toNat < (2 - x7_18.toInt).toNat; omega)
        · have r71 : 1 ≤ (F 64 x2.toNatClampNeg).toInt ∧ (F 64 x2.toNatClampNeg).toInt ≤ (F 63 5).toInt := qf_at pre4 (x := x2) (by omega) (by omega)
          have b72 : B 1 1 (F 64 x2.toNatClampNeg) := ⟨by omega, by omega⟩
          have hq73 := (nle_lt hc)
          have b74 : B 0 0 (x8_49) := B_w (B_ltL b51 (B_eq ((congrFun (g53.2 64 rfl rfl) x2.toNatClampNeg).trans (congrFun (g22.2 64 rfl rfl) x2.toNatClampNeg)) b72) hq73) (by decide +kernel) (by decide +kernel)
          have q75 : (0) ≤ (x8_49).toInt ∧ (x8_49).toInt ≤ (0) := (show B 0 0 (x8_49) from B_w b74 (by decide +kernel) (by decide +kernel))
          have q76 : (1) ≤ (F 64 x2.toNatClampNeg).toInt ∧ (F 64 x2.toNatClampNeg).toInt ≤ (1) := (show B 1 1 (F 64 x2.toNatClampNeg) from B_w b72 (by decide +kernel) (by decide +kernel))
          have e77 : (T50 64 x2.toNatClampNeg).toInt = (F 64 x2.toNatClampNeg).toInt := (congrArg Int32.toInt ((congrFun (g53.2 64 rfl rfl) x2.toNatClampNeg).trans (congrFun (g22.2 64 rfl rfl) x2.toNatClampNeg))).trans rfl
          have i78 : (x8_49).toInt < (T50 64 x2.toNatClampNeg).toInt := i_lt hq73
          refine ⟨(show ¬ ((68 : Nat) = NU) from by decide +kernel), ?_⟩
          refine ⟨(show c_cl UL 68 = 902 from cl_68), ?_⟩
          refine ⟨(show vp_in (x2) 3 from vp_B b_x2 (by decide +kernel) (by decide +kernel)), ?_⟩
          have e79 : (T50 63 2).toInt = (F 63 2).toInt := (congrArg Int32.toInt ((g53.1 63 2 rfl rfl).trans (g22.1 63 2 rfl rfl))).trans rfl
          have g81 := agc_tr (agc_refl (fs := [7306]) (rs := [77, 999]) (F := F)) g22 (by decide +kernel) (by decide +kernel)
          have g80 := agc_tr g81 g53 (by decide +kernel) (by decide +kernel)
          refine h_Sc_addBlock_u73_a0 b_x2 (B_w (B_add (B_add (B_mul (B_add (B_mul b_x4 b37 (by decide +kernel) (by decide +kernel) (by decide +kernel)) b39 (by decide +kernel) (by decide +kernel)) (B_eq ((congrFun (g53.2 68 rfl rfl) x2.toNatClampNeg).trans (congrFun (g22.2 68 rfl rfl) x2.toNatClampNeg)) (show B 0 8 (F 68 x2.toNatClampNeg) from hI 68 x2.toNatClampNeg)) (by decide +kernel) (by decide +kernel) (by decide +kernel)) (B_mul b_x3 b72 (by decide +kernel) (by decide +kernel) (by decide +kernel)) (by decide +kernel) (by decide +kernel)) b74 (by decide +kernel) (by decide +kernel)) (by decide +kernel) (by decide +kernel)) hI52 (qf_le (b' := (T50 73 6).toInt) (lo' := 0) (hi' := (64 * (T50 63 2).toInt) - 1) r55 (by omega) (by omega) (by omega)) (by show x2.toInt < (T50 63 2).toInt; first | with_reducible assumption | omega) r56 (cz_ag (F := F) (G := T50) pre9 hI g80 (by decide +kernel)) (fun {FS69_82} {LFS69_82} hI83 g84 r85 r86 => ?_)
          have r87 : qf (FS69_82 77) 0 (FS69_82 73 6).toInt 0 ((64 * (FS69_82 63 2).toInt) - 1) := r85
          clear r85
          have q88 : (0) ≤ (FS69_82 73 6).toInt ∧ (FS69_82 73 6).toInt ≤ (192) := (show B 0 192 (FS69_82 73 6) from hI83 73 6)
          have r89 : ZQ FS69_82 := r86
          clear r86
          have g91 := agc_tr (agc_refl (fs := [7306]) (rs := [77, 999]) (F := T19)) g53 (by decide +kernel) (by decide +kernel)
          have g90 := agc_tr g91 g84 (by decide +kernel) (by decide +kernel)
          have e92 : (FS69_82 63 2).toInt = (F 63 2).toInt := (congrArg Int32.toInt (((g84.1 63 2 rfl rfl).trans (g53.1 63 2 rfl rfl)).trans (g22.1 63 2 rfl rfl))).trans rfl
          have e93 : (x8_49 + 1).toInt = ((x8_49).toInt + 1) := (t_add b74 cqb_1_1_1 (by decide +kernel) (by decide +kernel)).trans (by rw [cqn_1])
          have q94 : (1) ≤ (x8_49 + 1).toInt ∧ (x8_49 + 1).toInt ≤ (1) := (show B 1 1 (x8_49 + 1) from B_w (B_add b74 cqb_1_1_1 (by decide +kernel) (by decide +kernel)) (by decide +kernel) (by decide +kernel))
          exact hR38 ⟨rfl, rfl, rfl, rfl, rfl, (B_w (B_add b74 cqb_1_1_1 (by decide +kernel) (by decide +kernel)) (by decide +kernel) (by decide +kernel)), _, _, rfl, hI83, g90, (qf_le (b' := (FS69_82 73 6).toInt) (lo' := 0) (hi' := (64 * (FS69_82 63 2).toInt) - 1) r87 (by omega) (by omega) (by omega)), r89⟩ (by show (2 - (x8_49 + 1).toInt).toNat < (2 - x8_49.toInt).toNat; omega)
    · have b95 : B 2 2 (F 63 6) := B_eq hcs cqb_2_2_2
      have q96 : (2) ≤ (F 63 6).toInt ∧ (F 63 6).toInt ≤ (2) := (show B 2 2 (F 63 6) from B_w b95 (by decide +kernel) (by decide +kernel))
      have b97 : B 0 3 (x4) := ⟨by omega, by omega⟩
      refine ⟨(show c_cl UL 63 = 7 from cl_63), ?_⟩
      refine ⟨(show ¬ ((64 : Nat) = NU) from by decide +kernel), ?_⟩
      refine ⟨(show c_cl UL 64 = 902 from cl_64), ?_⟩
      refine ⟨(show vp_in (x2) 3 from vp_B b_x2 (by decide +kernel) (by decide +kernel)), ?_⟩
      refine ⟨(show ¬ ((65 : Nat) = NU) from by decide +kernel), ?_⟩
      refine ⟨(show c_cl UL 65 = 902 from cl_65), ?_⟩
      refine ⟨(show vp_in (x2) 3 from vp_B b_x2 (by decide +kernel) (by decide +kernel)), ?_⟩
      refine ⟨fun yx1 yx2 yx5 yx6 yx7 yS => (63 : Nat) = yx1 ∧ x2 = yx2 ∧ (x3 * (F 64 x2.toNatClampNeg)) = yx5 ∧ (x4 * (F 65 x2.toNatClampNeg)) = yx6 ∧ B 0 2 yx7 ∧ ∃ (T103 : cF) (LT103 : cL), yS = (T103, LT103, PC false b P) ∧ IMc T103 ∧ agc [7306] [77, 999] F T103 ∧ (qf (T103 77) 0 (T103 73 6).toInt 0 ((64 * (T103 63 2).toInt) - 1)) ∧ (ZQ T103), fun yx1 yx2 yx5 yx6 yx7 yS => (2 - yx7.toInt).toNat, ⟨rfl, rfl, rfl, rfl, (B_w cqb_0_0_0 (by decide +kernel) (by decide +kernel)), _, _, rfl, hI, (agc_refl (fs := [7306]) (rs := [77, 999]) (F := F)), (qf_le (b' := (F 73 6).toInt) (lo' := 0) (hi' := (64 * (F 63 2).toInt) - 1) pre0 (by omega) (by omega) (by omega)), pre8⟩, fun x1_98 x2_99 x5_100 x6_101 x7_102 ST103 hIv => ?_⟩
      obtain ⟨rfl, rfl, rfl, rfl, b104, T103, LT103, rfl, hI105, g106, r107, r108⟩ := hIv
      suffices hs : ∀ (R24 : Nat → Int32 → Int32 → Int32 → Int32 → cs → Prop), (∀ zx1 zx2 zx5 zx6 zx7 zS, ((63 : Nat) = zx1 ∧ x2 = zx2 ∧ (x3 * (F 64 x2.toNatClampNeg)) = zx5 ∧ (x4 * (F 65 x2.toNatClampNeg)) = zx6 ∧ B 0 2 zx7 ∧ ∃ (T103 : cF) (LT103 : cL), zS = (T103, LT103, PC false b P) ∧ IMc T103 ∧ agc [7306] [77, 999] F T103 ∧ (qf (T103 77) 0 (T103 73 6).toInt 0 ((64 * (T103 63 2).toInt) - 1)) ∧ (ZQ T103)) → (2 - zx7.toInt).toNat < (2 - x7_102.toInt).toNat → R24 zx1 zx2 zx5 zx6 zx7 zS) → b_Sc_addStretch_24 UL 73 63 x2 (x3 * (F 64 x2.toNatClampNeg)) (x4 * (F 65 x2.toNatClampNeg)) x7_102 (T103, LT103, PC false b P) R24 K from hs _ (fun _ _ _ _ _ _ h1 h2 => ⟨h1, h2⟩)
      intro R24 hR240
      have hR24 := fun {zx1} {zx2} {zx5} {zx6} {zx7} {zS} => hR240 zx1 zx2 zx5 zx6 zx7 zS
      have q109 : (0) ≤ (T103 73 6).toInt ∧ (T103 73 6).toInt ≤ (192) := (show B 0 192 (T103 73 6) from hI105 73 6)
      unfold b_Sc_addStretch_24
      refine ⟨(show c_cl UL 63 = 7 from cl_63), ?_⟩
      refine ⟨(show ¬ ((65 : Nat) = NU) from by decide +kernel), ?_⟩
      refine ⟨(show c_cl UL 65 = 902 from cl_65), ?_⟩
      refine ⟨(show vp_in (x2) 3 from vp_B b_x2 (by decide +kernel) (by decide +kernel)), ?_⟩
      refine ⟨fun hc => ?_, fun hc => ?_⟩
      · have r110 : 1 ≤ (F 65 x2.toNatClampNeg).toInt ∧ (F 65 x2.toNatClampNeg).toInt ≤ (F 63 6).toInt := qf_at pre5 (x := x2) (by omega) (by omega)
        have hq111 := hc
        have b112 : B 1 2 (x7_102) := B_w (B_leR (B_eq (congrFun (g106.2 65 rfl rfl) x2.toNatClampNeg) (show B 1 2 (F 65 x2.toNatClampNeg) from sB_65 hI b_x2 (by decide +kernel) (by decide +kernel))) b104 hq111) (by decide +kernel) (by decide +kernel)
        have q113 : (1) ≤ (F 65 x2.toNatClampNeg).toInt ∧ (F 65 x2.toNatClampNeg).toInt ≤ (2) := (show B 1 2 (F 65 x2.toNatClampNeg) from sB_65 hI b_x2 (by decide +kernel) (by decide +kernel))
        have e114 : (T103 65 x2.toNatClampNeg).toInt = (F 65 x2.toNatClampNeg).toInt := (congrArg Int32.toInt (congrFun (g106.2 65 rfl rfl) x2.toNatClampNeg)).trans rfl
        have q115 : (1) ≤ (x7_102).toInt ∧ (x7_102).toInt ≤ (2) := (show B 1 2 (x7_102) from B_w b112 (by decide +kernel) (by decide +kernel))
        have i116 : (T103 65 x2.toNatClampNeg).toInt ≤ (x7_102).toInt := i_le hq111
        have g117 := agc_tr (agc_refl (fs := [7306]) (rs := [77, 999]) (F := F)) g106 (by decide +kernel) (by decide +kernel)
        have e118 : (T103 63 2).toInt = (F 63 2).toInt := (congrArg Int32.toInt (g106.1 63 2 rfl rfl)).trans rfl
        exact hK hI105 g117 (qf_le (b' := (T103 73 6).toInt) (lo' := 0) (hi' := (64 * (T103 63 2).toInt) - 1) r107 (by omega) (by omega) (by omega)) r108
      · have r119 : 1 ≤ (F 65 x2.toNatClampNeg).toInt ∧ (F 65 x2.toNatClampNeg).toInt ≤ (F 63 6).toInt := qf_at pre5 (x := x2) (by omega) (by omega)
        have hq120 := (nle_lt hc)
        have b121 : B 0 1 (x7_102) := B_w (B_ltL b104 (B_eq (congrFun (g106.2 65 rfl rfl) x2.toNatClampNeg) (show B 1 2 (F 65 x2.toNatClampNeg) from sB_65 hI b_x2 (by decide +kernel) (by decide +kernel))) hq120) (by decide +kernel) (by decide +kernel)
        have q122 : (0) ≤ (x7_102).toInt ∧ (x7_102).toInt ≤ (1) := (show B 0 1 (x7_102) from B_w b121 (by decide +kernel) (by decide +kernel))
        have q123 : (1) ≤ (F 65 x2.toNatClampNeg).toInt ∧ (F 65 x2.toNatClampNeg).toInt ≤ (2) := (show B 1 2 (F 65 x2.toNatClampNeg) from sB_65 hI b_x2 (by decide +kernel) (by decide +kernel))
        have e124 : (T103 65 x2.toNatClampNeg).toInt = (F 65 x2.toNatClampNeg).toInt := (congrArg Int32.toInt (congrFun (g106.2 65 rfl rfl) x2.toNatClampNeg)).trans rfl
        have i125 : (x7_102).toInt < (T103 65 x2.toNatClampNeg).toInt := i_lt hq120
        have e136 : (T103 63 2).toInt = (F 63 2).toInt := (congrArg Int32.toInt (g106.1 63 2 rfl rfl)).trans rfl
        refine ⟨fun yx1 yx2 yx5 yx6 yx7 yx8 yS => (63 : Nat) = yx1 ∧ x2 = yx2 ∧ (x3 * (F 64 x2.toNatClampNeg)) = yx5 ∧ (x4 * (F 65 x2.toNatClampNeg)) = yx6 ∧ x7_102 = yx7 ∧ B 0 2 yx8 ∧ ∃ (T132 : cF) (LT132 : cL), yS = (T132, LT132, PC false b P) ∧ IMc T132 ∧ agc [7306] [77, 999] T103 T132 ∧ (qf (T132 77) 0 (T132 73 6).toInt 0 ((64 * (T132 63 2).toInt) - 1)) ∧ (ZQ T132), fun yx1 yx2 yx5 yx6 yx7 yx8 yS => (2 - yx8.toInt).toNat, ⟨rfl, rfl, rfl, rfl, rfl, (B_w cqb_0_0_0 (by decide +kernel) (by decide +kernel)), _, _, rfl, hI105, (agc_refl (fs := [7306]) (rs := [77, 999]) (F := T103)), (qf_le (b' := (T103 73 6).toInt) (lo' := 0) (hi' := (64 * (T103 63 2).toInt) - 1) r107 (by omega) (by omega) (by omega)), r108⟩, fun x1_126 x2_127 x5_128 x6_129 x7_130 x8_131 ST132 hIv => ?_⟩
        obtain ⟨rfl, rfl, rfl, rfl, rfl, b133, T132, LT132, rfl, hI134, g135, r137, r138⟩ := hIv
        suffices hs : ∀ (R38 : Nat → Int32 → Int32 → Int32 → Int32 → Int32 → cs → Prop), (∀ zx1 zx2 zx5 zx6 zx7 zx8 zS, ((63 : Nat) = zx1 ∧ x2 = zx2 ∧ (x3 * (F 64 x2.toNatClampNeg)) = zx5 ∧ (x4 * (F 65 x2.toNatClampNeg)) = zx6 ∧ x7_102 = zx7 ∧ B 0 2 zx8 ∧ ∃ (T132 : cF) (LT132 : cL), zS = (T132, LT132, PC false b P) ∧ IMc T132 ∧ agc [7306] [77, 999] T103 T132 ∧ (qf (T132 77) 0 (T132 73 6).toInt 0 ((64 * (T132 63 2).toInt) - 1)) ∧ (ZQ T132)) → (2 - zx8.toInt).toNat < (2 - x8_131.toInt).toNat → R38 zx1 zx2 zx5 zx6 zx7 zx8 zS) → b_Sc_addStretch_38 UL 73 63 x2 (x3 * (F 64 x2.toNatClampNeg)) (x4 * (F 65 x2.toNatClampNeg)) x7_102 x8_131 (T132, LT132, PC false b P) R24 R38 K from hs _ (fun _ _ _ _ _ _ _ h1 h2 => ⟨h1, h2⟩)
        intro R38 hR380
        have hR38 := fun {zx1} {zx2} {zx5} {zx6} {zx7} {zx8} {zS} => hR380 zx1 zx2 zx5 zx6 zx7 zx8 zS
        have q139 : (0) ≤ (T132 73 6).toInt ∧ (T132 73 6).toInt ≤ (192) := (show B 0 192 (T132 73 6) from hI134 73 6)
        unfold b_Sc_addStretch_38
        refine ⟨(show c_cl UL 63 = 7 from cl_63), ?_⟩
        refine ⟨(show ¬ ((64 : Nat) = NU) from by decide +kernel), ?_⟩
        refine ⟨(show c_cl UL 64 = 902 from cl_64), ?_⟩
        refine ⟨(show vp_in (x2) 3 from vp_B b_x2 (by decide +kernel) (by decide +kernel)), ?_⟩
        refine ⟨fun hc => ?_, fun hc => ?_⟩
        · have r140 : 1 ≤ (F 64 x2.toNatClampNeg).toInt ∧ (F 64 x2.toNatClampNeg).toInt ≤ (F 63 5).toInt := qf_at pre4 (x := x2) (by omega) (by omega)
          have b141 : B 1 1 (F 64 x2.toNatClampNeg) := ⟨by omega, by omega⟩
          have hq142 := hc
          have b143 : B 1 2 (x8_131) := B_w (B_leR (B_eq ((congrFun (g135.2 64 rfl rfl) x2.toNatClampNeg).trans (congrFun (g106.2 64 rfl rfl) x2.toNatClampNeg)) b141) b133 hq142) (by decide +kernel) (by decide +kernel)
          have q144 : (1) ≤ (F 64 x2.toNatClampNeg).toInt ∧ (F 64 x2.toNatClampNeg).toInt ≤ (1) := (show B 1 1 (F 64 x2.toNatClampNeg) from B_w b141 (by decide +kernel) (by decide +kernel))
          have e145 : (T132 64 x2.toNatClampNeg).toInt = (F 64 x2.toNatClampNeg).toInt := (congrArg Int32.toInt ((congrFun (g135.2 64 rfl rfl) x2.toNatClampNeg).trans (congrFun (g106.2 64 rfl rfl) x2.toNatClampNeg))).trans rfl
          have q146 : (1) ≤ (x8_131).toInt ∧ (x8_131).toInt ≤ (2) := (show B 1 2 (x8_131) from B_w b143 (by decide +kernel) (by decide +kernel))
          have i147 : (T132 64 x2.toNatClampNeg).toInt ≤ (x8_131).toInt := i_le hq142
          have g149 := agc_tr (agc_refl (fs := [7306]) (rs := [77, 999]) (F := F)) g106 (by decide +kernel) (by decide +kernel)
          have g148 := agc_tr g149 g135 (by decide +kernel) (by decide +kernel)
          have e150 : (T132 63 2).toInt = (F 63 2).toInt := (congrArg Int32.toInt ((g135.1 63 2 rfl rfl).trans (g106.1 63 2 rfl rfl))).trans rfl
          have e151 : (x7_102 + 1).toInt = ((x7_102).toInt + 1) := (t_add b121 cqb_1_1_1 (by decide +kernel) (by decide +kernel)).trans (by rw [cqn_1])
          have q152 : (1) ≤ (x7_102 + 1).toInt ∧ (x7_102 + 1).toInt ≤ (2) := (show B 1 2 (x7_102 + 1) from B_w (B_add b121 cqb_1_1_1 (by decide +kernel) (by decide +kernel)) (by decide +kernel) (by decide +kernel))
          exact hR24 ⟨rfl, rfl, rfl, rfl, (B_w (B_add b121 cqb_1_1_1 (by decide +kernel) (by decide +kernel)) (by decide +kernel) (by decide +kernel)), _, _, rfl, hI134, g148, (qf_le (b' := (T132 73 6).toInt) (lo' := 0) (hi' := (64 * (T132 63 2).toInt) - 1) r137 (by omega) (by omega) (by omega)), r138⟩ (by show (2 - (x7_102 + 1).toInt).toNat < (2 - x7_102.toInt).toNat; omega)
        · have r153 : 1 ≤ (F 64 x2.toNatClampNeg).toInt ∧ (F 64 x2.toNatClampNeg).toInt ≤ (F 63 5).toInt := qf_at pre4 (x := x2) (by omega) (by omega)
          have b154 : B 1 1 (F 64 x2.toNatClampNeg) := ⟨by omega, by omega⟩
          have hq155 := (nle_lt hc)
          have b156 : B 0 0 (x8_131) := B_w (B_ltL b133 (B_eq ((congrFun (g135.2 64 rfl rfl) x2.toNatClampNeg).trans (congrFun (g106.2 64 rfl rfl) x2.toNatClampNeg)) b154) hq155) (by decide +kernel) (by decide +kernel)
          have q157 : (0) ≤ (x8_131).toInt ∧ (x8_131).toInt ≤ (0) := (show B 0 0 (x8_131) from B_w b156 (by decide +kernel) (by decide +kernel))
          have q158 : (1) ≤ (F 64 x2.toNatClampNeg).toInt ∧ (F 64 x2.toNatClampNeg).toInt ≤ (1) := (show B 1 1 (F 64 x2.toNatClampNeg) from B_w b154 (by decide +kernel) (by decide +kernel))
          have e159 : (T132 64 x2.toNatClampNeg).toInt = (F 64 x2.toNatClampNeg).toInt := (congrArg Int32.toInt ((congrFun (g135.2 64 rfl rfl) x2.toNatClampNeg).trans (congrFun (g106.2 64 rfl rfl) x2.toNatClampNeg))).trans rfl
          have i160 : (x8_131).toInt < (T132 64 x2.toNatClampNeg).toInt := i_lt hq155
          refine ⟨(show ¬ ((68 : Nat) = NU) from by decide +kernel), ?_⟩
          refine ⟨(show c_cl UL 68 = 902 from cl_68), ?_⟩
          refine ⟨(show vp_in (x2) 3 from vp_B b_x2 (by decide +kernel) (by decide +kernel)), ?_⟩
          have e161 : (T132 63 2).toInt = (F 63 2).toInt := (congrArg Int32.toInt ((g135.1 63 2 rfl rfl).trans (g106.1 63 2 rfl rfl))).trans rfl
          have g163 := agc_tr (agc_refl (fs := [7306]) (rs := [77, 999]) (F := F)) g106 (by decide +kernel) (by decide +kernel)
          have g162 := agc_tr g163 g135 (by decide +kernel) (by decide +kernel)
          refine h_Sc_addBlock_u73_a0 b_x2 (B_w (B_add (B_add (B_mul (B_add (B_mul b97 (show B 1 2 (F 65 x2.toNatClampNeg) from sB_65 hI b_x2 (by decide +kernel) (by decide +kernel)) (by decide +kernel) (by decide +kernel) (by decide +kernel)) b121 (by decide +kernel) (by decide +kernel)) (B_eq ((congrFun (g135.2 68 rfl rfl) x2.toNatClampNeg).trans (congrFun (g106.2 68 rfl rfl) x2.toNatClampNeg)) (show B 0 8 (F 68 x2.toNatClampNeg) from hI 68 x2.toNatClampNeg)) (by decide +kernel) (by decide +kernel) (by decide +kernel)) (B_mul b_x3 b154 (by decide +kernel) (by decide +kernel) (by decide +kernel)) (by decide +kernel) (by decide +kernel)) b156 (by decide +kernel) (by decide +kernel)) (by decide +kernel) (by decide +kernel)) hI134 (qf_le (b' := (T132 73 6).toInt) (lo' := 0) (hi' := (64 * (T132 63 2).toInt) - 1) r137 (by omega) (by omega) (by omega)) (by show x2.toInt < (T132 63 2).toInt; first | with_reducible assumption | omega) r138 (cz_ag (F := F) (G := T132) pre9 hI g162 (by decide +kernel)) (fun {FS69_164} {LFS69_164} hI165 g166 r167 r168 => ?_)
          have r169 : qf (FS69_164 77) 0 (FS69_164 73 6).toInt 0 ((64 * (FS69_164 63 2).toInt) - 1) := r167
          clear r167
          have q170 : (0) ≤ (FS69_164 73 6).toInt ∧ (FS69_164 73 6).toInt ≤ (192) := (show B 0 192 (FS69_164 73 6) from hI165 73 6)
          have r171 : ZQ FS69_164 := r168
          clear r168
          have g173 := agc_tr (agc_refl (fs := [7306]) (rs := [77, 999]) (F := T103)) g135 (by decide +kernel) (by decide +kernel)
          have g172 := agc_tr g173 g166 (by decide +kernel) (by decide +kernel)
          have e174 : (FS69_164 63 2).toInt = (F 63 2).toInt := (congrArg Int32.toInt (((g166.1 63 2 rfl rfl).trans (g135.1 63 2 rfl rfl)).trans (g106.1 63 2 rfl rfl))).trans rfl
          have e175 : (x8_131 + 1).toInt = ((x8_131).toInt + 1) := (t_add b156 cqb_1_1_1 (by decide +kernel) (by decide +kernel)).trans (by rw [cqn_1])
          have q176 : (1) ≤ (x8_131 + 1).toInt ∧ (x8_131 + 1).toInt ≤ (1) := (show B 1 1 (x8_131 + 1) from B_w (B_add b156 cqb_1_1_1 (by decide +kernel) (by decide +kernel)) (by decide +kernel) (by decide +kernel))
          exact hR38 ⟨rfl, rfl, rfl, rfl, rfl, (B_w (B_add b156 cqb_1_1_1 (by decide +kernel) (by decide +kernel)) (by decide +kernel) (by decide +kernel)), _, _, rfl, hI165, g172, (qf_le (b' := (FS69_164 73 6).toInt) (lo' := 0) (hi' := (64 * (FS69_164 63 2).toInt) - 1) r169 (by omega) (by omega) (by omega)), r171⟩ (by show (2 - (x8_131 + 1).toInt).toNat < (2 - x8_131.toInt).toNat; omega)
  · have b177 : B 2 2 (F 63 5) := B_eq hcs cqb_2_2_2
    have q178 : (2) ≤ (F 63 5).toInt ∧ (F 63 5).toInt ≤ (2) := (show B 2 2 (F 63 5) from B_w b177 (by decide +kernel) (by decide +kernel))
    have b179 : B 0 3 (x3) := ⟨by omega, by omega⟩
    rcases sp_12 (show B 1 2 (F 63 6) from hI 63 6) with hcs | hcs
    · have b180 : B 1 1 (F 63 6) := B_eq hcs cqb_1_1_1
      have q181 : (1) ≤ (F 63 6).toInt ∧ (F 63 6).toInt ≤ (1) := (show B 1 1 (F 63 6) from B_w b180 (by decide +kernel) (by decide +kernel))
      refine ⟨(show c_cl UL 63 = 7 from cl_63), ?_⟩
      refine ⟨(show ¬ ((64 : Nat) = NU) from by decide +kernel), ?_⟩
      refine ⟨(show c_cl UL 64 = 902 from cl_64), ?_⟩
      refine ⟨(show vp_in (x2) 3 from vp_B b_x2 (by decide +kernel) (by decide +kernel)), ?_⟩
      refine ⟨(show ¬ ((65 : Nat) = NU) from by decide +kernel), ?_⟩
      refine ⟨(show c_cl UL 65 = 902 from cl_65), ?_⟩
      refine ⟨(show vp_in (x2) 3 from vp_B b_x2 (by decide +kernel) (by decide +kernel)), ?_⟩
      refine ⟨fun yx1 yx2 yx5 yx6 yx7 yS => (63 : Nat) = yx1 ∧ x2 = yx2 ∧ (x3 * (F 64 x2.toNatClampNeg)) = yx5 ∧ (x4 * (F 65 x2.toNatClampNeg)) = yx6 ∧ B 0 2 yx7 ∧ ∃ (T187 : cF) (LT187 : cL), yS = (T187, LT187, PC false b P) ∧ IMc T187 ∧ agc [7306] [77, 999] F T187 ∧ (qf (T187 77) 0 (T187 73 6).toInt 0 ((64 * (T187 63 2).toInt) - 1)) ∧ (ZQ T187), fun yx1 yx2 yx5 yx6 yx7 yS => (2 - yx7.toInt).toNat, ⟨rfl, rfl, rfl, rfl, (B_w cqb_0_0_0 (by decide +kernel) (by decide +kernel)), _, _, rfl, hI, (agc_refl (fs := [7306]) (rs := [77, 999]) (F := F)), (qf_le (b' := (F 73 6).toInt) (lo' := 0) (hi' := (64 * (F 63 2).toInt) - 1) pre0 (by omega) (by omega) (by omega)), pre8⟩, fun x1_182 x2_183 x5_184 x6_185 x7_186 ST187 hIv => ?_⟩
      obtain ⟨rfl, rfl, rfl, rfl, b188, T187, LT187, rfl, hI189, g190, r191, r192⟩ := hIv
      suffices hs : ∀ (R24 : Nat → Int32 → Int32 → Int32 → Int32 → cs → Prop), (∀ zx1 zx2 zx5 zx6 zx7 zS, ((63 : Nat) = zx1 ∧ x2 = zx2 ∧ (x3 * (F 64 x2.toNatClampNeg)) = zx5 ∧ (x4 * (F 65 x2.toNatClampNeg)) = zx6 ∧ B 0 2 zx7 ∧ ∃ (T187 : cF) (LT187 : cL), zS = (T187, LT187, PC false b P) ∧ IMc T187 ∧ agc [7306] [77, 999] F T187 ∧ (qf (T187 77) 0 (T187 73 6).toInt 0 ((64 * (T187 63 2).toInt) - 1)) ∧ (ZQ T187)) → (2 - zx7.toInt).toNat < (2 - x7_186.toInt).toNat → R24 zx1 zx2 zx5 zx6 zx7 zS) → b_Sc_addStretch_24 UL 73 63 x2 (x3 * (F 64 x2.toNatClampNeg)) (x4 * (F 65 x2.toNatClampNeg)) x7_186 (T187, LT187, PC false b P) R24 K from hs _ (fun _ _ _ _ _ _ h1 h2 => ⟨h1, h2⟩)
      intro R24 hR240
      have hR24 := fun {zx1} {zx2} {zx5} {zx6} {zx7} {zS} => hR240 zx1 zx2 zx5 zx6 zx7 zS
      have q193 : (0) ≤ (T187 73 6).toInt ∧ (T187 73 6).toInt ≤ (192) := (show B 0 192 (T187 73 6) from hI189 73 6)
      unfold b_Sc_addStretch_24
      refine ⟨(show c_cl UL 63 = 7 from cl_63), ?_⟩
      refine ⟨(show ¬ ((65 : Nat) = NU) from by decide +kernel), ?_⟩
      refine ⟨(show c_cl UL 65 = 902 from cl_65), ?_⟩
      refine ⟨(show vp_in (x2) 3 from vp_B b_x2 (by decide +kernel) (by decide +kernel)), ?_⟩
      refine ⟨fun hc => ?_, fun hc => ?_⟩
      · have r194 : 1 ≤ (F 65 x2.toNatClampNeg).toInt ∧ (F 65 x2.toNatClampNeg).toInt ≤ (F 63 6).toInt := qf_at pre5 (x := x2) (by omega) (by omega)
        have b195 : B 1 1 (F 65 x2.toNatClampNeg) := ⟨by omega, by omega⟩
        have hq196 := hc
        have b197 : B 1 2 (x7_186) := B_w (B_leR (B_eq (congrFun (g190.2 65 rfl rfl) x2.toNatClampNeg) b195) b188 hq196) (by decide +kernel) (by decide +kernel)
        have q198 : (1) ≤ (F 65 x2.toNatClampNeg).toInt ∧ (F 65 x2.toNatClampNeg).toInt ≤ (1) := (show B 1 1 (F 65 x2.toNatClampNeg) from B_w b195 (by decide +kernel) (by decide +kernel))
        have e199 : (T187 65 x2.toNatClampNeg).toInt = (F 65 x2.toNatClampNeg).toInt := (congrArg Int32.toInt (congrFun (g190.2 65 rfl rfl) x2.toNatClampNeg)).trans rfl
        have q200 : (1) ≤ (x7_186).toInt ∧ (x7_186).toInt ≤ (2) := (show B 1 2 (x7_186) from B_w b197 (by decide +kernel) (by decide +kernel))
        have i201 : (T187 65 x2.toNatClampNeg).toInt ≤ (x7_186).toInt := i_le hq196
        have g202 := agc_tr (agc_refl (fs := [7306]) (rs := [77, 999]) (F := F)) g190 (by decide +kernel) (by decide +kernel)
        have e203 : (T187 63 2).toInt = (F 63 2).toInt := (congrArg Int32.toInt (g190.1 63 2 rfl rfl)).trans rfl
        exact hK hI189 g202 (qf_le (b' := (T187 73 6).toInt) (lo' := 0) (hi' := (64 * (T187 63 2).toInt) - 1) r191 (by omega) (by omega) (by omega)) r192
      · have r204 : 1 ≤ (F 65 x2.toNatClampNeg).toInt ∧ (F 65 x2.toNatClampNeg).toInt ≤ (F 63 6).toInt := qf_at pre5 (x := x2) (by omega) (by omega)
        have b205 : B 1 1 (F 65 x2.toNatClampNeg) := ⟨by omega, by omega⟩
        have hq206 := (nle_lt hc)
        have b207 : B 0 0 (x7_186) := B_w (B_ltL b188 (B_eq (congrFun (g190.2 65 rfl rfl) x2.toNatClampNeg) b205) hq206) (by decide +kernel) (by decide +kernel)
        have q208 : (0) ≤ (x7_186).toInt ∧ (x7_186).toInt ≤ (0) := (show B 0 0 (x7_186) from B_w b207 (by decide +kernel) (by decide +kernel))
        have q209 : (1) ≤ (F 65 x2.toNatClampNeg).toInt ∧ (F 65 x2.toNatClampNeg).toInt ≤ (1) := (show B 1 1 (F 65 x2.toNatClampNeg) from B_w b205 (by decide +kernel) (by decide +kernel))
        have e210 : (T187 65 x2.toNatClampNeg).toInt = (F 65 x2.toNatClampNeg).toInt := (congrArg Int32.toInt (congrFun (g190.2 65 rfl rfl) x2.toNatClampNeg)).trans rfl
        have i211 : (x7_186).toInt < (T187 65 x2.toNatClampNeg).toInt := i_lt hq206
        have e222 : (T187 63 2).toInt = (F 63 2).toInt := (congrArg Int32.toInt (g190.1 63 2 rfl rfl)).trans rfl
        refine ⟨fun yx1 yx2 yx5 yx6 yx7 yx8 yS => (63 : Nat) = yx1 ∧ x2 = yx2 ∧ (x3 * (F 64 x2.toNatClampNeg)) = yx5 ∧ (x4 * (F 65 x2.toNatClampNeg)) = yx6 ∧ x7_186 = yx7 ∧ B 0 2 yx8 ∧ ∃ (T218 : cF) (LT218 : cL), yS = (T218, LT218, PC false b P) ∧ IMc T218 ∧ agc [7306] [77, 999] T187 T218 ∧ (qf (T218 77) 0 (T218 73 6).toInt 0 ((64 * (T218 63 2).toInt) - 1)) ∧ (ZQ T218), fun yx1 yx2 yx5 yx6 yx7 yx8 yS => (2 - yx8.toInt).toNat, ⟨rfl, rfl, rfl, rfl, rfl, (B_w cqb_0_0_0 (by decide +kernel) (by decide +kernel)), _, _, rfl, hI189, (agc_refl (fs := [7306]) (rs := [77, 999]) (F := T187)), (qf_le (b' := (T187 73 6).toInt) (lo' := 0) (hi' := (64 * (T187 63 2).toInt) - 1) r191 (by omega) (by omega) (by omega)), r192⟩, fun x1_212 x2_213 x5_214 x6_215 x7_216 x8_217 ST218 hIv => ?_⟩
        obtain ⟨rfl, rfl, rfl, rfl, rfl, b219, T218, LT218, rfl, hI220, g221, r223, r224⟩ := hIv
        suffices hs : ∀ (R38 : Nat → Int32 → Int32 → Int32 → Int32 → Int32 → cs → Prop), (∀ zx1 zx2 zx5 zx6 zx7 zx8 zS, ((63 : Nat) = zx1 ∧ x2 = zx2 ∧ (x3 * (F 64 x2.toNatClampNeg)) = zx5 ∧ (x4 * (F 65 x2.toNatClampNeg)) = zx6 ∧ x7_186 = zx7 ∧ B 0 2 zx8 ∧ ∃ (T218 : cF) (LT218 : cL), zS = (T218, LT218, PC false b P) ∧ IMc T218 ∧ agc [7306] [77, 999] T187 T218 ∧ (qf (T218 77) 0 (T218 73 6).toInt 0 ((64 * (T218 63 2).toInt) - 1)) ∧ (ZQ T218)) → (2 - zx8.toInt).toNat < (2 - x8_217.toInt).toNat → R38 zx1 zx2 zx5 zx6 zx7 zx8 zS) → b_Sc_addStretch_38 UL 73 63 x2 (x3 * (F 64 x2.toNatClampNeg)) (x4 * (F 65 x2.toNatClampNeg)) x7_186 x8_217 (T218, LT218, PC false b P) R24 R38 K from hs _ (fun _ _ _ _ _ _ _ h1 h2 => ⟨h1, h2⟩)
        intro R38 hR380
        have hR38 := fun {zx1} {zx2} {zx5} {zx6} {zx7} {zx8} {zS} => hR380 zx1 zx2 zx5 zx6 zx7 zx8 zS
        have q225 : (0) ≤ (T218 73 6).toInt ∧ (T218 73 6).toInt ≤ (192) := (show B 0 192 (T218 73 6) from hI220 73 6)
        unfold b_Sc_addStretch_38
        refine ⟨(show c_cl UL 63 = 7 from cl_63), ?_⟩
        refine ⟨(show ¬ ((64 : Nat) = NU) from by decide +kernel), ?_⟩
        refine ⟨(show c_cl UL 64 = 902 from cl_64), ?_⟩
        refine ⟨(show vp_in (x2) 3 from vp_B b_x2 (by decide +kernel) (by decide +kernel)), ?_⟩
        refine ⟨fun hc => ?_, fun hc => ?_⟩
        · have r226 : 1 ≤ (F 64 x2.toNatClampNeg).toInt ∧ (F 64 x2.toNatClampNeg).toInt ≤ (F 63 5).toInt := qf_at pre4 (x := x2) (by omega) (by omega)
          have hq227 := hc
          have b228 : B 1 2 (x8_217) := B_w (B_leR (B_eq ((congrFun (g221.2 64 rfl rfl) x2.toNatClampNeg).trans (congrFun (g190.2 64 rfl rfl) x2.toNatClampNeg)) (show B 1 2 (F 64 x2.toNatClampNeg) from sB_64 hI b_x2 (by decide +kernel) (by decide +kernel))) b219 hq227) (by decide +kernel) (by decide +kernel)
          have q229 : (1) ≤ (F 64 x2.toNatClampNeg).toInt ∧ (F 64 x2.toNatClampNeg).toInt ≤ (2) := (show B 1 2 (F 64 x2.toNatClampNeg) from sB_64 hI b_x2 (by decide +kernel) (by decide +kernel))
          have e230 : (T218 64 x2.toNatClampNeg).toInt = (F 64 x2.toNatClampNeg).toInt := (congrArg Int32.toInt ((congrFun (g221.2 64 rfl rfl) x2.toNatClampNeg).trans (congrFun (g190.2 64 rfl rfl) x2.toNatClampNeg))).trans rfl
          have q231 : (1) ≤ (x8_217).toInt ∧ (x8_217).toInt ≤ (2) := (show B 1 2 (x8_217) from B_w b228 (by decide +kernel) (by decide +kernel))
          have i232 : (T218 64 x2.toNatClampNeg).toInt ≤ (x8_217).toInt := i_le hq227
          have g234 := agc_tr (agc_refl (fs := [7306]) (rs := [77, 999]) (F := F)) g190 (by decide +kernel) (by decide +kernel)
          have g233 := agc_tr g234 g221 (by decide +kernel) (by decide +kernel)
          have e235 : (T218 63 2).toInt = (F 63 2).toInt := (congrArg Int32.toInt ((g221.1 63 2 rfl rfl).trans (g190.1 63 2 rfl rfl))).trans rfl
          have e236 : (x7_186 + 1).toInt = ((x7_186).toInt + 1) := (t_add b207 cqb_1_1_1 (by decide +kernel) (by decide +kernel)).trans (by rw [cqn_1])
          have q237 : (1) ≤ (x7_186 + 1).toInt ∧ (x7_186 + 1).toInt ≤ (1) := (show B 1 1 (x7_186 + 1) from B_w (B_add b207 cqb_1_1_1 (by decide +kernel) (by decide +kernel)) (by decide +kernel) (by decide +kernel))
          exact hR24 ⟨rfl, rfl, rfl, rfl, (B_w (B_add b207 cqb_1_1_1 (by decide +kernel) (by decide +kernel)) (by decide +kernel) (by decide +kernel)), _, _, rfl, hI220, g233, (qf_le (b' := (T218 73 6).toInt) (lo' := 0) (hi' := (64 * (T218 63 2).toInt) - 1) r223 (by omega) (by omega) (by omega)), r224⟩ (by show (2 - (x7_186 + 1).toInt).toNat < (2 - x7_186.toInt).toNat; omega)
        · have r238 : 1 ≤ (F 64 x2.toNatClampNeg).toInt ∧ (F 64 x2.toNatClampNeg).toInt ≤ (F 63 5).toInt := qf_at pre4 (x := x2) (by omega) (by omega)
          have hq239 := (nle_lt hc)
          have b240 : B 0 1 (x8_217) := B_w (B_ltL b219 (B_eq ((congrFun (g221.2 64 rfl rfl) x2.toNatClampNeg).trans (congrFun (g190.2 64 rfl rfl) x2.toNatClampNeg)) (show B 1 2 (F 64 x2.toNatClampNeg) from sB_64 hI b_x2 (by decide +kernel) (by decide +kernel))) hq239) (by decide +kernel) (by decide +kernel)
          have q241 : (0) ≤ (x8_217).toInt ∧ (x8_217).toInt ≤ (1) := (show B 0 1 (x8_217) from B_w b240 (by decide +kernel) (by decide +kernel))
          have q242 : (1) ≤ (F 64 x2.toNatClampNeg).toInt ∧ (F 64 x2.toNatClampNeg).toInt ≤ (2) := (show B 1 2 (F 64 x2.toNatClampNeg) from sB_64 hI b_x2 (by decide +kernel) (by decide +kernel))
          have e243 : (T218 64 x2.toNatClampNeg).toInt = (F 64 x2.toNatClampNeg).toInt := (congrArg Int32.toInt ((congrFun (g221.2 64 rfl rfl) x2.toNatClampNeg).trans (congrFun (g190.2 64 rfl rfl) x2.toNatClampNeg))).trans rfl
          have i244 : (x8_217).toInt < (T218 64 x2.toNatClampNeg).toInt := i_lt hq239
          refine ⟨(show ¬ ((68 : Nat) = NU) from by decide +kernel), ?_⟩
          refine ⟨(show c_cl UL 68 = 902 from cl_68), ?_⟩
          refine ⟨(show vp_in (x2) 3 from vp_B b_x2 (by decide +kernel) (by decide +kernel)), ?_⟩
          have e245 : (T218 63 2).toInt = (F 63 2).toInt := (congrArg Int32.toInt ((g221.1 63 2 rfl rfl).trans (g190.1 63 2 rfl rfl))).trans rfl
          have g247 := agc_tr (agc_refl (fs := [7306]) (rs := [77, 999]) (F := F)) g190 (by decide +kernel) (by decide +kernel)
          have g246 := agc_tr g247 g221 (by decide +kernel) (by decide +kernel)
          refine h_Sc_addBlock_u73_a0 b_x2 (B_w (B_add (B_add (B_mul (B_add (B_mul b_x4 b205 (by decide +kernel) (by decide +kernel) (by decide +kernel)) b207 (by decide +kernel) (by decide +kernel)) (B_eq ((congrFun (g221.2 68 rfl rfl) x2.toNatClampNeg).trans (congrFun (g190.2 68 rfl rfl) x2.toNatClampNeg)) (show B 0 8 (F 68 x2.toNatClampNeg) from hI 68 x2.toNatClampNeg)) (by decide +kernel) (by decide +kernel) (by decide +kernel)) (B_mul b179 (show B 1 2 (F 64 x2.toNatClampNeg) from sB_64 hI b_x2 (by decide +kernel) (by decide +kernel)) (by decide +kernel) (by decide +kernel) (by decide +kernel)) (by decide +kernel) (by decide +kernel)) b240 (by decide +kernel) (by decide +kernel)) (by decide +kernel) (by decide +kernel)) hI220 (qf_le (b' := (T218 73 6).toInt) (lo' := 0) (hi' := (64 * (T218 63 2).toInt) - 1) r223 (by omega) (by omega) (by omega)) (by show x2.toInt < (T218 63 2).toInt; first | with_reducible assumption | omega) r224 (cz_ag (F := F) (G := T218) pre9 hI g246 (by decide +kernel)) (fun {FS69_248} {LFS69_248} hI249 g250 r251 r252 => ?_)
          have r253 : qf (FS69_248 77) 0 (FS69_248 73 6).toInt 0 ((64 * (FS69_248 63 2).toInt) - 1) := r251
          clear r251
          have q254 : (0) ≤ (FS69_248 73 6).toInt ∧ (FS69_248 73 6).toInt ≤ (192) := (show B 0 192 (FS69_248 73 6) from hI249 73 6)
          have r255 : ZQ FS69_248 := r252
          clear r252
          have g257 := agc_tr (agc_refl (fs := [7306]) (rs := [77, 999]) (F := T187)) g221 (by decide +kernel) (by decide +kernel)
          have g256 := agc_tr g257 g250 (by decide +kernel) (by decide +kernel)
          have e258 : (FS69_248 63 2).toInt = (F 63 2).toInt := (congrArg Int32.toInt (((g250.1 63 2 rfl rfl).trans (g221.1 63 2 rfl rfl)).trans (g190.1 63 2 rfl rfl))).trans rfl
          have e259 : (x8_217 + 1).toInt = ((x8_217).toInt + 1) := (t_add b240 cqb_1_1_1 (by decide +kernel) (by decide +kernel)).trans (by rw [cqn_1])
          have q260 : (1) ≤ (x8_217 + 1).toInt ∧ (x8_217 + 1).toInt ≤ (2) := (show B 1 2 (x8_217 + 1) from B_w (B_add b240 cqb_1_1_1 (by decide +kernel) (by decide +kernel)) (by decide +kernel) (by decide +kernel))
          exact hR38 ⟨rfl, rfl, rfl, rfl, rfl, (B_w (B_add b240 cqb_1_1_1 (by decide +kernel) (by decide +kernel)) (by decide +kernel) (by decide +kernel)), _, _, rfl, hI249, g256, (qf_le (b' := (FS69_248 73 6).toInt) (lo' := 0) (hi' := (64 * (FS69_248 63 2).toInt) - 1) r253 (by omega) (by omega) (by omega)), r255⟩ (by show (2 - (x8_217 + 1).toInt).toNat < (2 - x8_217.toInt).toNat; omega)
    · have b261 : B 2 2 (F 63 6) := B_eq hcs cqb_2_2_2
      have q262 : (2) ≤ (F 63 6).toInt ∧ (F 63 6).toInt ≤ (2) := (show B 2 2 (F 63 6) from B_w b261 (by decide +kernel) (by decide +kernel))
      have b263 : B 0 3 (x4) := ⟨by omega, by omega⟩
      refine ⟨(show c_cl UL 63 = 7 from cl_63), ?_⟩
      refine ⟨(show ¬ ((64 : Nat) = NU) from by decide +kernel), ?_⟩
      refine ⟨(show c_cl UL 64 = 902 from cl_64), ?_⟩
      refine ⟨(show vp_in (x2) 3 from vp_B b_x2 (by decide +kernel) (by decide +kernel)), ?_⟩
      refine ⟨(show ¬ ((65 : Nat) = NU) from by decide +kernel), ?_⟩
      refine ⟨(show c_cl UL 65 = 902 from cl_65), ?_⟩
      refine ⟨(show vp_in (x2) 3 from vp_B b_x2 (by decide +kernel) (by decide +kernel)), ?_⟩
      refine ⟨fun yx1 yx2 yx5 yx6 yx7 yS => (63 : Nat) = yx1 ∧ x2 = yx2 ∧ (x3 * (F 64 x2.toNatClampNeg)) = yx5 ∧ (x4 * (F 65 x2.toNatClampNeg)) = yx6 ∧ B 0 2 yx7 ∧ ∃ (T269 : cF) (LT269 : cL), yS = (T269, LT269, PC false b P) ∧ IMc T269 ∧ agc [7306] [77, 999] F T269 ∧ (qf (T269 77) 0 (T269 73 6).toInt 0 ((64 * (T269 63 2).toInt) - 1)) ∧ (ZQ T269), fun yx1 yx2 yx5 yx6 yx7 yS => (2 - yx7.toInt).toNat, ⟨rfl, rfl, rfl, rfl, (B_w cqb_0_0_0 (by decide +kernel) (by decide +kernel)), _, _, rfl, hI, (agc_refl (fs := [7306]) (rs := [77, 999]) (F := F)), (qf_le (b' := (F 73 6).toInt) (lo' := 0) (hi' := (64 * (F 63 2).toInt) - 1) pre0 (by omega) (by omega) (by omega)), pre8⟩, fun x1_264 x2_265 x5_266 x6_267 x7_268 ST269 hIv => ?_⟩
      obtain ⟨rfl, rfl, rfl, rfl, b270, T269, LT269, rfl, hI271, g272, r273, r274⟩ := hIv
      suffices hs : ∀ (R24 : Nat → Int32 → Int32 → Int32 → Int32 → cs → Prop), (∀ zx1 zx2 zx5 zx6 zx7 zS, ((63 : Nat) = zx1 ∧ x2 = zx2 ∧ (x3 * (F 64 x2.toNatClampNeg)) = zx5 ∧ (x4 * (F 65 x2.toNatClampNeg)) = zx6 ∧ B 0 2 zx7 ∧ ∃ (T269 : cF) (LT269 : cL), zS = (T269, LT269, PC false b P) ∧ IMc T269 ∧ agc [7306] [77, 999] F T269 ∧ (qf (T269 77) 0 (T269 73 6).toInt 0 ((64 * (T269 63 2).toInt) - 1)) ∧ (ZQ T269)) → (2 - zx7.toInt).toNat < (2 - x7_268.toInt).toNat → R24 zx1 zx2 zx5 zx6 zx7 zS) → b_Sc_addStretch_24 UL 73 63 x2 (x3 * (F 64 x2.toNatClampNeg)) (x4 * (F 65 x2.toNatClampNeg)) x7_268 (T269, LT269, PC false b P) R24 K from hs _ (fun _ _ _ _ _ _ h1 h2 => ⟨h1, h2⟩)
      intro R24 hR240
      have hR24 := fun {zx1} {zx2} {zx5} {zx6} {zx7} {zS} => hR240 zx1 zx2 zx5 zx6 zx7 zS
      have q275 : (0) ≤ (T269 73 6).toInt ∧ (T269 73 6).toInt ≤ (192) := (show B 0 192 (T269 73 6) from hI271 73 6)
      unfold b_Sc_addStretch_24
      refine ⟨(show c_cl UL 63 = 7 from cl_63), ?_⟩
      refine ⟨(show ¬ ((65 : Nat) = NU) from by decide +kernel), ?_⟩
      refine ⟨(show c_cl UL 65 = 902 from cl_65), ?_⟩
      refine ⟨(show vp_in (x2) 3 from vp_B b_x2 (by decide +kernel) (by decide +kernel)), ?_⟩
      refine ⟨fun hc => ?_, fun hc => ?_⟩
      · have r276 : 1 ≤ (F 65 x2.toNatClampNeg).toInt ∧ (F 65 x2.toNatClampNeg).toInt ≤ (F 63 6).toInt := qf_at pre5 (x := x2) (by omega) (by omega)
        have hq277 := hc
        have b278 : B 1 2 (x7_268) := B_w (B_leR (B_eq (congrFun (g272.2 65 rfl rfl) x2.toNatClampNeg) (show B 1 2 (F 65 x2.toNatClampNeg) from sB_65 hI b_x2 (by decide +kernel) (by decide +kernel))) b270 hq277) (by decide +kernel) (by decide +kernel)
        have q279 : (1) ≤ (F 65 x2.toNatClampNeg).toInt ∧ (F 65 x2.toNatClampNeg).toInt ≤ (2) := (show B 1 2 (F 65 x2.toNatClampNeg) from sB_65 hI b_x2 (by decide +kernel) (by decide +kernel))
        have e280 : (T269 65 x2.toNatClampNeg).toInt = (F 65 x2.toNatClampNeg).toInt := (congrArg Int32.toInt (congrFun (g272.2 65 rfl rfl) x2.toNatClampNeg)).trans rfl
        have q281 : (1) ≤ (x7_268).toInt ∧ (x7_268).toInt ≤ (2) := (show B 1 2 (x7_268) from B_w b278 (by decide +kernel) (by decide +kernel))
        have i282 : (T269 65 x2.toNatClampNeg).toInt ≤ (x7_268).toInt := i_le hq277
        have g283 := agc_tr (agc_refl (fs := [7306]) (rs := [77, 999]) (F := F)) g272 (by decide +kernel) (by decide +kernel)
        have e284 : (T269 63 2).toInt = (F 63 2).toInt := (congrArg Int32.toInt (g272.1 63 2 rfl rfl)).trans rfl
        exact hK hI271 g283 (qf_le (b' := (T269 73 6).toInt) (lo' := 0) (hi' := (64 * (T269 63 2).toInt) - 1) r273 (by omega) (by omega) (by omega)) r274
      · have r285 : 1 ≤ (F 65 x2.toNatClampNeg).toInt ∧ (F 65 x2.toNatClampNeg).toInt ≤ (F 63 6).toInt := qf_at pre5 (x := x2) (by omega) (by omega)
        have hq286 := (nle_lt hc)
        have b287 : B 0 1 (x7_268) := B_w (B_ltL b270 (B_eq (congrFun (g272.2 65 rfl rfl) x2.toNatClampNeg) (show B 1 2 (F 65 x2.toNatClampNeg) from sB_65 hI b_x2 (by decide +kernel) (by decide +kernel))) hq286) (by decide +kernel) (by decide +kernel)
        have q288 : (0) ≤ (x7_268).toInt ∧ (x7_268).toInt ≤ (1) := (show B 0 1 (x7_268) from B_w b287 (by decide +kernel) (by decide +kernel))
        have q289 : (1) ≤ (F 65 x2.toNatClampNeg).toInt ∧ (F 65 x2.toNatClampNeg).toInt ≤ (2) := (show B 1 2 (F 65 x2.toNatClampNeg) from sB_65 hI b_x2 (by decide +kernel) (by decide +kernel))
        have e290 : (T269 65 x2.toNatClampNeg).toInt = (F 65 x2.toNatClampNeg).toInt := (congrArg Int32.toInt (congrFun (g272.2 65 rfl rfl) x2.toNatClampNeg)).trans rfl
        have i291 : (x7_268).toInt < (T269 65 x2.toNatClampNeg).toInt := i_lt hq286
        have e302 : (T269 63 2).toInt = (F 63 2).toInt := (congrArg Int32.toInt (g272.1 63 2 rfl rfl)).trans rfl
        refine ⟨fun yx1 yx2 yx5 yx6 yx7 yx8 yS => (63 : Nat) = yx1 ∧ x2 = yx2 ∧ (x3 * (F 64 x2.toNatClampNeg)) = yx5 ∧ (x4 * (F 65 x2.toNatClampNeg)) = yx6 ∧ x7_268 = yx7 ∧ B 0 2 yx8 ∧ ∃ (T298 : cF) (LT298 : cL), yS = (T298, LT298, PC false b P) ∧ IMc T298 ∧ agc [7306] [77, 999] T269 T298 ∧ (qf (T298 77) 0 (T298 73 6).toInt 0 ((64 * (T298 63 2).toInt) - 1)) ∧ (ZQ T298), fun yx1 yx2 yx5 yx6 yx7 yx8 yS => (2 - yx8.toInt).toNat, ⟨rfl, rfl, rfl, rfl, rfl, (B_w cqb_0_0_0 (by decide +kernel) (by decide +kernel)), _, _, rfl, hI271, (agc_refl (fs := [7306]) (rs := [77, 999]) (F := T269)), (qf_le (b' := (T269 73 6).toInt) (lo' := 0) (hi' := (64 * (T269 63 2).toInt) - 1) r273 (by omega) (by omega) (by omega)), r274⟩, fun x1_292 x2_293 x5_294 x6_295 x7_296 x8_297 ST298 hIv => ?_⟩
        obtain ⟨rfl, rfl, rfl, rfl, rfl, b299, T298, LT298, rfl, hI300, g301, r303, r304⟩ := hIv
        suffices hs : ∀ (R38 : Nat → Int32 → Int32 → Int32 → Int32 → Int32 → cs → Prop), (∀ zx1 zx2 zx5 zx6 zx7 zx8 zS, ((63 : Nat) = zx1 ∧ x2 = zx2 ∧ (x3 * (F 64 x2.toNatClampNeg)) = zx5 ∧ (x4 * (F 65 x2.toNatClampNeg)) = zx6 ∧ x7_268 = zx7 ∧ B 0 2 zx8 ∧ ∃ (T298 : cF) (LT298 : cL), zS = (T298, LT298, PC false b P) ∧ IMc T298 ∧ agc [7306] [77, 999] T269 T298 ∧ (qf (T298 77) 0 (T298 73 6).toInt 0 ((64 * (T298 63 2).toInt) - 1)) ∧ (ZQ T298)) → (2 - zx8.toInt).toNat < (2 - x8_297.toInt).toNat → R38 zx1 zx2 zx5 zx6 zx7 zx8 zS) → b_Sc_addStretch_38 UL 73 63 x2 (x3 * (F 64 x2.toNatClampNeg)) (x4 * (F 65 x2.toNatClampNeg)) x7_268 x8_297 (T298, LT298, PC false b P) R24 R38 K from hs _ (fun _ _ _ _ _ _ _ h1 h2 => ⟨h1, h2⟩)
        intro R38 hR380
        have hR38 := fun {zx1} {zx2} {zx5} {zx6} {zx7} {zx8} {zS} => hR380 zx1 zx2 zx5 zx6 zx7 zx8 zS
        have q305 : (0) ≤ (T298 73 6).toInt ∧ (T298 73 6).toInt ≤ (192) := (show B 0 192 (T298 73 6) from hI300 73 6)
        unfold b_Sc_addStretch_38
        refine ⟨(show c_cl UL 63 = 7 from cl_63), ?_⟩
        refine ⟨(show ¬ ((64 : Nat) = NU) from by decide +kernel), ?_⟩
        refine ⟨(show c_cl UL 64 = 902 from cl_64), ?_⟩
        refine ⟨(show vp_in (x2) 3 from vp_B b_x2 (by decide +kernel) (by decide +kernel)), ?_⟩
        refine ⟨fun hc => ?_, fun hc => ?_⟩
        · have r306 : 1 ≤ (F 64 x2.toNatClampNeg).toInt ∧ (F 64 x2.toNatClampNeg).toInt ≤ (F 63 5).toInt := qf_at pre4 (x := x2) (by omega) (by omega)
          have hq307 := hc
          have b308 : B 1 2 (x8_297) := B_w (B_leR (B_eq ((congrFun (g301.2 64 rfl rfl) x2.toNatClampNeg).trans (congrFun (g272.2 64 rfl rfl) x2.toNatClampNeg)) (show B 1 2 (F 64 x2.toNatClampNeg) from sB_64 hI b_x2 (by decide +kernel) (by decide +kernel))) b299 hq307) (by decide +kernel) (by decide +kernel)
          have q309 : (1) ≤ (F 64 x2.toNatClampNeg).toInt ∧ (F 64 x2.toNatClampNeg).toInt ≤ (2) := (show B 1 2 (F 64 x2.toNatClampNeg) from sB_64 hI b_x2 (by decide +kernel) (by decide +kernel))
          have e310 : (T298 64 x2.toNatClampNeg).toInt = (F 64 x2.toNatClampNeg).toInt := (congrArg Int32.toInt ((congrFun (g301.2 64 rfl rfl) x2.toNatClampNeg).trans (congrFun (g272.2 64 rfl rfl) x2.toNatClampNeg))).trans rfl
          have q311 : (1) ≤ (x8_297).toInt ∧ (x8_297).toInt ≤ (2) := (show B 1 2 (x8_297) from B_w b308 (by decide +kernel) (by decide +kernel))
          have i312 : (T298 64 x2.toNatClampNeg).toInt ≤ (x8_297).toInt := i_le hq307
          have g314 := agc_tr (agc_refl (fs := [7306]) (rs := [77, 999]) (F := F)) g272 (by decide +kernel) (by decide +kernel)
          have g313 := agc_tr g314 g301 (by decide +kernel) (by decide +kernel)
          have e315 : (T298 63 2).toInt = (F 63 2).toInt := (congrArg Int32.toInt ((g301.1 63 2 rfl rfl).trans (g272.1 63 2 rfl rfl))).trans rfl
          have e316 : (x7_268 + 1).toInt = ((x7_268).toInt + 1) := (t_add b287 cqb_1_1_1 (by decide +kernel) (by decide +kernel)).trans (by rw [cqn_1])
          have q317 : (1) ≤ (x7_268 + 1).toInt ∧ (x7_268 + 1).toInt ≤ (2) := (show B 1 2 (x7_268 + 1) from B_w (B_add b287 cqb_1_1_1 (by decide +kernel) (by decide +kernel)) (by decide +kernel) (by decide +kernel))
          exact hR24 ⟨rfl, rfl, rfl, rfl, (B_w (B_add b287 cqb_1_1_1 (by decide +kernel) (by decide +kernel)) (by decide +kernel) (by decide +kernel)), _, _, rfl, hI300, g313, (qf_le (b' := (T298 73 6).toInt) (lo' := 0) (hi' := (64 * (T298 63 2).toInt) - 1) r303 (by omega) (by omega) (by omega)), r304⟩ (by show (2 - (x7_268 + 1).toInt).toNat < (2 - x7_268.toInt).toNat; omega)
        · have r318 : 1 ≤ (F 64 x2.toNatClampNeg).toInt ∧ (F 64 x2.toNatClampNeg).toInt ≤ (F 63 5).toInt := qf_at pre4 (x := x2) (by omega) (by omega)
          have hq319 := (nle_lt hc)
          have b320 : B 0 1 (x8_297) := B_w (B_ltL b299 (B_eq ((congrFun (g301.2 64 rfl rfl) x2.toNatClampNeg).trans (congrFun (g272.2 64 rfl rfl) x2.toNatClampNeg)) (show B 1 2 (F 64 x2.toNatClampNeg) from sB_64 hI b_x2 (by decide +kernel) (by decide +kernel))) hq319) (by decide +kernel) (by decide +kernel)
          have q321 : (0) ≤ (x8_297).toInt ∧ (x8_297).toInt ≤ (1) := (show B 0 1 (x8_297) from B_w b320 (by decide +kernel) (by decide +kernel))
          have q322 : (1) ≤ (F 64 x2.toNatClampNeg).toInt ∧ (F 64 x2.toNatClampNeg).toInt ≤ (2) := (show B 1 2 (F 64 x2.toNatClampNeg) from sB_64 hI b_x2 (by decide +kernel) (by decide +kernel))
          have e323 : (T298 64 x2.toNatClampNeg).toInt = (F 64 x2.toNatClampNeg).toInt := (congrArg Int32.toInt ((congrFun (g301.2 64 rfl rfl) x2.toNatClampNeg).trans (congrFun (g272.2 64 rfl rfl) x2.toNatClampNeg))).trans rfl
          have i324 : (x8_297).toInt < (T298 64 x2.toNatClampNeg).toInt := i_lt hq319
          refine ⟨(show ¬ ((68 : Nat) = NU) from by decide +kernel), ?_⟩
          refine ⟨(show c_cl UL 68 = 902 from cl_68), ?_⟩
          refine ⟨(show vp_in (x2) 3 from vp_B b_x2 (by decide +kernel) (by decide +kernel)), ?_⟩
          have e325 : (T298 63 2).toInt = (F 63 2).toInt := (congrArg Int32.toInt ((g301.1 63 2 rfl rfl).trans (g272.1 63 2 rfl rfl))).trans rfl
          have g327 := agc_tr (agc_refl (fs := [7306]) (rs := [77, 999]) (F := F)) g272 (by decide +kernel) (by decide +kernel)
          have g326 := agc_tr g327 g301 (by decide +kernel) (by decide +kernel)
          refine h_Sc_addBlock_u73_a0 b_x2 (B_w (B_add (B_add (B_mul (B_add (B_mul b263 (show B 1 2 (F 65 x2.toNatClampNeg) from sB_65 hI b_x2 (by decide +kernel) (by decide +kernel)) (by decide +kernel) (by decide +kernel) (by decide +kernel)) b287 (by decide +kernel) (by decide +kernel)) (B_eq ((congrFun (g301.2 68 rfl rfl) x2.toNatClampNeg).trans (congrFun (g272.2 68 rfl rfl) x2.toNatClampNeg)) (show B 0 8 (F 68 x2.toNatClampNeg) from hI 68 x2.toNatClampNeg)) (by decide +kernel) (by decide +kernel) (by decide +kernel)) (B_mul b179 (show B 1 2 (F 64 x2.toNatClampNeg) from sB_64 hI b_x2 (by decide +kernel) (by decide +kernel)) (by decide +kernel) (by decide +kernel) (by decide +kernel)) (by decide +kernel) (by decide +kernel)) b320 (by decide +kernel) (by decide +kernel)) (by decide +kernel) (by decide +kernel)) hI300 (qf_le (b' := (T298 73 6).toInt) (lo' := 0) (hi' := (64 * (T298 63 2).toInt) - 1) r303 (by omega) (by omega) (by omega)) (by show x2.toInt < (T298 63 2).toInt; first | with_reducible assumption | omega) r304 (cz_ag (F := F) (G := T298) pre9 hI g326 (by decide +kernel)) (fun {FS69_328} {LFS69_328} hI329 g330 r331 r332 => ?_)
          have r333 : qf (FS69_328 77) 0 (FS69_328 73 6).toInt 0 ((64 * (FS69_328 63 2).toInt) - 1) := r331
          clear r331
          have q334 : (0) ≤ (FS69_328 73 6).toInt ∧ (FS69_328 73 6).toInt ≤ (192) := (show B 0 192 (FS69_328 73 6) from hI329 73 6)
          have r335 : ZQ FS69_328 := r332
          clear r332
          have g337 := agc_tr (agc_refl (fs := [7306]) (rs := [77, 999]) (F := T269)) g301 (by decide +kernel) (by decide +kernel)
          have g336 := agc_tr g337 g330 (by decide +kernel) (by decide +kernel)
          have e338 : (FS69_328 63 2).toInt = (F 63 2).toInt := (congrArg Int32.toInt (((g330.1 63 2 rfl rfl).trans (g301.1 63 2 rfl rfl)).trans (g272.1 63 2 rfl rfl))).trans rfl
          have e339 : (x8_297 + 1).toInt = ((x8_297).toInt + 1) := (t_add b320 cqb_1_1_1 (by decide +kernel) (by decide +kernel)).trans (by rw [cqn_1])
          have q340 : (1) ≤ (x8_297 + 1).toInt ∧ (x8_297 + 1).toInt ≤ (2) := (show B 1 2 (x8_297 + 1) from B_w (B_add b320 cqb_1_1_1 (by decide +kernel) (by decide +kernel)) (by decide +kernel) (by decide +kernel))
          exact hR38 ⟨rfl, rfl, rfl, rfl, rfl, (B_w (B_add b320 cqb_1_1_1 (by decide +kernel) (by decide +kernel)) (by decide +kernel) (by decide +kernel)), _, _, rfl, hI329, g336, (qf_le (b' := (FS69_328 73 6).toInt) (lo' := 0) (hi' := (64 * (FS69_328 63 2).toInt) - 1) r333 (by omega) (by omega) (by omega)), r335⟩ (by show (2 - (x8_297 + 1).toInt).toNat < (2 - x8_297.toInt).toNat; omega)
set_option maxRecDepth 20000 in
set_option maxHeartbeats 4000000 in
theorem h_Sc_arrangeTogether_u73_x163_a0 {b : Bool} {P : Nat → Nat → Nat} {F : cF} {L : cL} {K : cs → Prop} (hI : IMc F) (pre0 : qf (F 77) 0 (F 73 6).toInt 0 ((64 * (F 63 2).toInt) - 1)) (pre1 : qf (F 74) 0 (F 73 0).toInt 0 ((F 63 2).toInt - 1)) (pre2 : qf (F 64) 0 (F 63 2).toInt 1 (F 63 5).toInt) (pre3 : qf (F 65) 0 (F 63 2).toInt 1 (F 63 6).toInt) (pre4 : ((F 63 5).toInt = 1) ∨ ((F 63 7).toInt ≤ 4)) (pre5 : ((F 63 6).toInt = 1) ∨ ((F 63 8).toInt ≤ 4)) (pre6 : ZQ F) (pre7 : LSQ F) (hK : ∀ {Z : cF} {LZ : cL}, IMc Z → agc [7306] [77, 999] F Z → (qf (Z 77) 0 (Z 73 6).toInt 0 ((64 * (Z 63 2).toInt) - 1)) → (ZQ Z) → K (Z, LZ, PC false b P)) : p_Sc_arrangeTogether UL 73 63 (F, L, PC false b P) K := by
  have q1 : (0) ≤ (F 73 6).toInt ∧ (F 73 6).toInt ≤ (192) := (show B 0 192 (F 73 6) from hI 73 6)
  have q2 : (0) ≤ (F 73 0).toInt ∧ (F 73 0).toInt ≤ (3) := (show B 0 3 (F 73 0) from hI 73 0)
  have q3 : (1) ≤ (F 63 2).toInt ∧ (F 63 2).toInt ≤ (3) := (show B 1 3 (F 63 2) from hI 63 2)
  have q4 : (1) ≤ (F 63 5).toInt ∧ (F 63 5).toInt ≤ (2) := (show B 1 2 (F 63 5) from hI 63 5)
  have q5 : (1) ≤ (F 63 7).toInt ∧ (F 63 7).toInt ≤ (8) := (show B 1 8 (F 63 7) from hI 63 7)
  have q6 : (1) ≤ (F 63 6).toInt ∧ (F 63 6).toInt ≤ (2) := (show B 1 2 (F 63 6) from hI 63 6)
  have q7 : (1) ≤ (F 63 8).toInt ∧ (F 63 8).toInt ≤ (8) := (show B 1 8 (F 63 8) from hI 63 8)
  unfold p_Sc_arrangeTogether
  refine ⟨fun yx1 yx2 yS => (63 : Nat) = yx1 ∧ B 0 8 yx2 ∧ ∃ (T10 : cF) (LT10 : cL), yS = (T10, LT10, PC false b P) ∧ IMc T10 ∧ agc [7306] [77, 999] F T10 ∧ (qf (T10 77) 0 (T10 73 6).toInt 0 ((64 * (T10 63 2).toInt) - 1)) ∧ (ZQ T10), fun yx1 yx2 yS => (8 - yx2.toInt).toNat, ⟨rfl, (B_w cqb_0_0_0 (by decide +kernel) (by decide +kernel)), _, _, rfl, hI, (agc_refl (fs := [7306]) (rs := [77, 999]) (F := F)), (qf_le (b' := (F 73 6).toInt) (lo' := 0) (hi' := (64 * (F 63 2).toInt) - 1) pre0 (by omega) (by omega) (by omega)), pre6⟩, fun x1_8 x2_9 ST10 hIv => ?_⟩
  obtain ⟨rfl, b11, T10, LT10, rfl, hI12, g13, r14, r15⟩ := hIv
  suffices hs : ∀ (R2 : Nat → Int32 → cs → Prop), (∀ zx1 zx2 zS, ((63 : Nat) = zx1 ∧ B 0 8 zx2 ∧ ∃ (T10 : cF) (LT10 : cL), zS = (T10, LT10, PC false b P) ∧ IMc T10 ∧ agc [7306] [77, 999] F T10 ∧ (qf (T10 77) 0 (T10 73 6).toInt 0 ((64 * (T10 63 2).toInt) - 1)) ∧ (ZQ T10)) → (8 - zx2.toInt).toNat < (8 - x2_9.toInt).toNat → R2 zx1 zx2 zS) → b_Sc_arrangeTogether_2 UL 73 63 x2_9 (T10, LT10, PC false b P) R2 K from hs _ (fun _ _ _ h1 h2 => ⟨h1, h2⟩)
  intro R2 hR20
  have hR2 := fun {zx1} {zx2} {zS} => hR20 zx1 zx2 zS
  have q16 : (0) ≤ (T10 73 6).toInt ∧ (T10 73 6).toInt ≤ (192) := (show B 0 192 (T10 73 6) from hI12 73 6)
  unfold b_Sc_arrangeTogether_2
  refine ⟨(show c_cl UL 63 = 7 from cl_63), ?_⟩
  refine ⟨fun hc => ?_, fun hc => ?_⟩
  · have hq17 := hc
    have b18 : B 1 8 (x2_9) := B_w (B_leR (B_eq (g13.1 63 8 rfl rfl) (show B 1 8 (F 63 8) from hI 63 8)) b11 hq17) (by decide +kernel) (by decide +kernel)
    have e19 : (T10 63 8).toInt = (F 63 8).toInt := (congrArg Int32.toInt (g13.1 63 8 rfl rfl)).trans rfl
    have q20 : (1) ≤ (x2_9).toInt ∧ (x2_9).toInt ≤ (8) := (show B 1 8 (x2_9) from B_w b18 (by decide +kernel) (by decide +kernel))
    have i21 : (T10 63 8).toInt ≤ (x2_9).toInt := i_le hq17
    have g22 := agc_tr (agc_refl (fs := [7306]) (rs := [77, 999]) (F := F)) g13 (by decide +kernel) (by decide +kernel)
    have e23 : (T10 63 2).toInt = (F 63 2).toInt := (congrArg Int32.toInt (g13.1 63 2 rfl rfl)).trans rfl
    exact hK hI12 g22 (qf_le (b' := (T10 73 6).toInt) (lo' := 0) (hi' := (64 * (T10 63 2).toInt) - 1) r14 (by omega) (by omega) (by omega)) r15
  · have hq24 := (nle_lt hc)
    have b25 : B 0 7 (x2_9) := B_w (B_ltL b11 (B_eq (g13.1 63 8 rfl rfl) (show B 1 8 (F 63 8) from hI 63 8)) hq24) (by decide +kernel) (by decide +kernel)
    have q26 : (0) ≤ (x2_9).toInt ∧ (x2_9).toInt ≤ (7) := (show B 0 7 (x2_9) from B_w b25 (by decide +kernel) (by decide +kernel))
    have e27 : (T10 63 8).toInt = (F 63 8).toInt := (congrArg Int32.toInt (g13.1 63 8 rfl rfl)).trans rfl
    have i28 : (x2_9).toInt < (T10 63 8).toInt := i_lt hq24
    have e36 : (T10 63 2).toInt = (F 63 2).toInt := (congrArg Int32.toInt (g13.1 63 2 rfl rfl)).trans rfl
    refine ⟨fun yx1 yx2 yx3 yS => (63 : Nat) = yx1 ∧ x2_9 = yx2 ∧ B 0 8 yx3 ∧ ∃ (T32 : cF) (LT32 : cL), yS = (T32, LT32, PC false b P) ∧ IMc T32 ∧ agc [7306] [77, 999] T10 T32 ∧ (qf (T32 77) 0 (T32 73 6).toInt 0 ((64 * (T32 63 2).toInt) - 1)) ∧ (ZQ T32), fun yx1 yx2 yx3 yS => (8 - yx3.toInt).toNat, ⟨rfl, rfl, (B_w cqb_0_0_0 (by decide +kernel) (by decide +kernel)), _, _, rfl, hI12, (agc_refl (fs := [7306]) (rs := [77, 999]) (F := T10)), (qf_le (b' := (T10 73 6).toInt) (lo' := 0) (hi' := (64 * (T10 63 2).toInt) - 1) r14 (by omega) (by omega) (by omega)), r15⟩, fun x1_29 x2_30 x3_31 ST32 hIv => ?_⟩
    obtain ⟨rfl, rfl, b33, T32, LT32, rfl, hI34, g35, r37, r38⟩ := hIv
    suffices hs : ∀ (R12 : Nat → Int32 → Int32 → cs → Prop), (∀ zx1 zx2 zx3 zS, ((63 : Nat) = zx1 ∧ x2_9 = zx2 ∧ B 0 8 zx3 ∧ ∃ (T32 : cF) (LT32 : cL), zS = (T32, LT32, PC false b P) ∧ IMc T32 ∧ agc [7306] [77, 999] T10 T32 ∧ (qf (T32 77) 0 (T32 73 6).toInt 0 ((64 * (T32 63 2).toInt) - 1)) ∧ (ZQ T32)) → (8 - zx3.toInt).toNat < (8 - x3_31.toInt).toNat → R12 zx1 zx2 zx3 zS) → b_Sc_arrangeTogether_12 UL 73 63 x2_9 x3_31 (T32, LT32, PC false b P) R2 R12 K from hs _ (fun _ _ _ _ h1 h2 => ⟨h1, h2⟩)
    intro R12 hR120
    have hR12 := fun {zx1} {zx2} {zx3} {zS} => hR120 zx1 zx2 zx3 zS
    have q39 : (0) ≤ (T32 73 6).toInt ∧ (T32 73 6).toInt ≤ (192) := (show B 0 192 (T32 73 6) from hI34 73 6)
    unfold b_Sc_arrangeTogether_12
    refine ⟨(show c_cl UL 63 = 7 from cl_63), ?_⟩
    refine ⟨fun hc => ?_, fun hc => ?_⟩
    · have hq40 := hc
      have b41 : B 1 8 (x3_31) := B_w (B_leR (B_eq ((g35.1 63 7 rfl rfl).trans (g13.1 63 7 rfl rfl)) (show B 1 8 (F 63 7) from hI 63 7)) b33 hq40) (by decide +kernel) (by decide +kernel)
      have e42 : (T32 63 7).toInt = (F 63 7).toInt := (congrArg Int32.toInt ((g35.1 63 7 rfl rfl).trans (g13.1 63 7 rfl rfl))).trans rfl
      have q43 : (1) ≤ (x3_31).toInt ∧ (x3_31).toInt ≤ (8) := (show B 1 8 (x3_31) from B_w b41 (by decide +kernel) (by decide +kernel))
      have i44 : (T32 63 7).toInt ≤ (x3_31).toInt := i_le hq40
      have g46 := agc_tr (agc_refl (fs := [7306]) (rs := [77, 999]) (F := F)) g13 (by decide +kernel) (by decide +kernel)
      have g45 := agc_tr g46 g35 (by decide +kernel) (by decide +kernel)
      have e47 : (T32 63 2).toInt = (F 63 2).toInt := (congrArg Int32.toInt ((g35.1 63 2 rfl rfl).trans (g13.1 63 2 rfl rfl))).trans rfl
      have e48 : (x2_9 + 1).toInt = ((x2_9).toInt + 1) := (t_add b25 cqb_1_1_1 (by decide +kernel) (by decide +kernel)).trans (by rw [cqn_1])
      have q49 : (1) ≤ (x2_9 + 1).toInt ∧ (x2_9 + 1).toInt ≤ (8) := (show B 1 8 (x2_9 + 1) from B_w (B_add b25 cqb_1_1_1 (by decide +kernel) (by decide +kernel)) (by decide +kernel) (by decide +kernel))
      exact hR2 ⟨rfl, (B_w (B_add b25 cqb_1_1_1 (by decide +kernel) (by decide +kernel)) (by decide +kernel) (by decide +kernel)), _, _, rfl, hI34, g45, (qf_le (b' := (T32 73 6).toInt) (lo' := 0) (hi' := (64 * (T32 63 2).toInt) - 1) r37 (by omega) (by omega) (by omega)), r38⟩ (by show (8 - (x2_9 + 1).toInt).toNat < (8 - x2_9.toInt).toNat; omega)
    · have hq50 := (nle_lt hc)
      have b51 : B 0 7 (x3_31) := B_w (B_ltL b33 (B_eq ((g35.1 63 7 rfl rfl).trans (g13.1 63 7 rfl rfl)) (show B 1 8 (F 63 7) from hI 63 7)) hq50) (by decide +kernel) (by decide +kernel)
      have q52 : (0) ≤ (x3_31).toInt ∧ (x3_31).toInt ≤ (7) := (show B 0 7 (x3_31) from B_w b51 (by decide +kernel) (by decide +kernel))
      have e53 : (T32 63 7).toInt = (F 63 7).toInt := (congrArg Int32.toInt ((g35.1 63 7 rfl rfl).trans (g13.1 63 7 rfl rfl))).trans rfl
      have i54 : (x3_31).toInt < (T32 63 7).toInt := i_lt hq50
      have e63 : (T32 63 2).toInt = (F 63 2).toInt := (congrArg Int32.toInt ((g35.1 63 2 rfl rfl).trans (g13.1 63 2 rfl rfl))).trans rfl
      refine ⟨fun yx1 yx2 yx3 yx4 yS => (63 : Nat) = yx1 ∧ x2_9 = yx2 ∧ x3_31 = yx3 ∧ B 0 3 yx4 ∧ ∃ (T59 : cF) (LT59 : cL), yS = (T59, LT59, PC false b P) ∧ IMc T59 ∧ agc [7306] [77, 999] T32 T59 ∧ (qf (T59 77) 0 (T59 73 6).toInt 0 ((64 * (T59 63 2).toInt) - 1)) ∧ (ZQ T59), fun yx1 yx2 yx3 yx4 yS => (3 - yx4.toInt).toNat, ⟨rfl, rfl, rfl, (B_w cqb_0_0_0 (by decide +kernel) (by decide +kernel)), _, _, rfl, hI34, (agc_refl (fs := [7306]) (rs := [77, 999]) (F := T32)), (qf_le (b' := (T32 73 6).toInt) (lo' := 0) (hi' := (64 * (T32 63 2).toInt) - 1) r37 (by omega) (by omega) (by omega)), r38⟩, fun x1_55 x2_56 x3_57 x4_58 ST59 hIv => ?_⟩
      obtain ⟨rfl, rfl, rfl, b60, T59, LT59, rfl, hI61, g62, r64, r65⟩ := hIv
      suffices hs : ∀ (R23 : Nat → Int32 → Int32 → Int32 → cs → Prop), (∀ zx1 zx2 zx3 zx4 zS, ((63 : Nat) = zx1 ∧ x2_9 = zx2 ∧ x3_31 = zx3 ∧ B 0 3 zx4 ∧ ∃ (T59 : cF) (LT59 : cL), zS = (T59, LT59, PC false b P) ∧ IMc T59 ∧ agc [7306] [77, 999] T32 T59 ∧ (qf (T59 77) 0 (T59 73 6).toInt 0 ((64 * (T59 63 2).toInt) - 1)) ∧ (ZQ T59)) → (3 - zx4.toInt).toNat < (3 - x4_58.toInt).toNat → R23 zx1 zx2 zx3 zx4 zS) → b_Sc_arrangeTogether_23 UL 73 63 x2_9 x3_31 x4_58 (T59, LT59, PC false b P) R2 R12 R23 K from hs _ (fun _ _ _ _ _ h1 h2 => ⟨h1, h2⟩)
      intro R23 hR230
      have hR23 := fun {zx1} {zx2} {zx3} {zx4} {zS} => hR230 zx1 zx2 zx3 zx4 zS
      have q66 : (0) ≤ (T59 73 6).toInt ∧ (T59 73 6).toInt ≤ (192) := (show B 0 192 (T59 73 6) from hI61 73 6)
      unfold b_Sc_arrangeTogether_23
      refine ⟨fun hc => ?_, fun hc => ?_⟩
      · have hq67 := hc
        have e68 : (T59 73 0).toInt = (F 73 0).toInt := (congrArg Int32.toInt (((g62.1 73 0 rfl rfl).trans (g35.1 73 0 rfl rfl)).trans (g13.1 73 0 rfl rfl))).trans rfl
        have q69 : (0) ≤ (x4_58).toInt ∧ (x4_58).toInt ≤ (3) := (show B 0 3 (x4_58) from B_w b60 (by decide +kernel) (by decide +kernel))
        have i70 : (T59 73 0).toInt ≤ (x4_58).toInt := i_le hq67
        have g72 := agc_tr (agc_refl (fs := [7306]) (rs := [77, 999]) (F := T10)) g35 (by decide +kernel) (by decide +kernel)
        have g71 := agc_tr g72 g62 (by decide +kernel) (by decide +kernel)
        have e73 : (T59 63 2).toInt = (F 63 2).toInt := (congrArg Int32.toInt (((g62.1 63 2 rfl rfl).trans (g35.1 63 2 rfl rfl)).trans (g13.1 63 2 rfl rfl))).trans rfl
        have e74 : (x3_31 + 1).toInt = ((x3_31).toInt + 1) := (t_add b51 cqb_1_1_1 (by decide +kernel) (by decide +kernel)).trans (by rw [cqn_1])
        have q75 : (1) ≤ (x3_31 + 1).toInt ∧ (x3_31 + 1).toInt ≤ (8) := (show B 1 8 (x3_31 + 1) from B_w (B_add b51 cqb_1_1_1 (by decide +kernel) (by decide +kernel)) (by decide +kernel) (by decide +kernel))
        exact hR12 ⟨rfl, rfl, (B_w (B_add b51 cqb_1_1_1 (by decide +kernel) (by decide +kernel)) (by decide +kernel) (by decide +kernel)), _, _, rfl, hI61, g71, (qf_le (b' := (T59 73 6).toInt) (lo' := 0) (hi' := (64 * (T59 63 2).toInt) - 1) r64 (by omega) (by omega) (by omega)), r65⟩ (by show (8 - (x3_31 + 1).toInt).toNat < (8 - x3_31.toInt).toNat; omega)
      · have hq76 := (nle_lt hc)
        have b77 : B 0 2 (x4_58) := B_w (B_ltL b60 (B_eq (((g62.1 73 0 rfl rfl).trans (g35.1 73 0 rfl rfl)).trans (g13.1 73 0 rfl rfl)) (show B 0 3 (F 73 0) from hI 73 0)) hq76) (by decide +kernel) (by decide +kernel)
        have b78 : B 1 3 (F 73 0) := B_w (B_eq (Eq.symm (((g62.1 73 0 rfl rfl).trans (g35.1 73 0 rfl rfl)).trans (g13.1 73 0 rfl rfl))) (B_ltR b60 (B_eq (((g62.1 73 0 rfl rfl).trans (g35.1 73 0 rfl rfl)).trans (g13.1 73 0 rfl rfl)) (show B 0 3 (F 73 0) from hI 73 0)) hq76)) (by decide +kernel) (by decide +kernel)
        have q79 : (1) ≤ (F 73 0).toInt ∧ (F 73 0).toInt ≤ (3) := (show B 1 3 (F 73 0) from B_w b78 (by decide +kernel) (by decide +kernel))
        have q80 : (0) ≤ (x4_58).toInt ∧ (x4_58).toInt ≤ (2) := (show B 0 2 (x4_58) from B_w b77 (by decide +kernel) (by decide +kernel))
        have e81 : (T59 73 0).toInt = (F 73 0).toInt := (congrArg Int32.toInt (((g62.1 73 0 rfl rfl).trans (g35.1 73 0 rfl rfl)).trans (g13.1 73 0 rfl rfl))).trans rfl
        have i82 : (x4_58).toInt < (T59 73 0).toInt := i_lt hq76
        refine ⟨(show ¬ ((74 : Nat) = NU) from by decide +kernel), ?_⟩
        refine ⟨(show c_cl UL 74 = 902 from cl_74), ?_⟩
        refine ⟨(show vp_in (x4_58) 3 from vp_B b77 (by decide +kernel) (by decide +kernel)), ?_⟩
        have r83 : 0 ≤ (F 74 x4_58.toNatClampNeg).toInt ∧ (F 74 x4_58.toNatClampNeg).toInt ≤ ((F 63 2).toInt - 1) := qf_at pre1 (x := x4_58) (by omega) (by omega)
        have e84 : (T59 63 2).toInt = (F 63 2).toInt := (congrArg Int32.toInt (((g62.1 63 2 rfl rfl).trans (g35.1 63 2 rfl rfl)).trans (g13.1 63 2 rfl rfl))).trans rfl
        have q85 : (0) ≤ (F 74 x4_58.toNatClampNeg).toInt ∧ (F 74 x4_58.toNatClampNeg).toInt ≤ (2) := (show B 0 2 (F 74 x4_58.toNatClampNeg) from hI 74 x4_58.toNatClampNeg)
        have e86 : (T59 74 x4_58.toNatClampNeg).toInt = (F 74 x4_58.toNatClampNeg).toInt := (congrArg Int32.toInt (((congrFun (g62.2 74 rfl rfl) x4_58.toNatClampNeg).trans (congrFun (g35.2 74 rfl rfl) x4_58.toNatClampNeg)).trans (congrFun (g13.2 74 rfl rfl) x4_58.toNatClampNeg))).trans rfl
        have e87 : (T59 63 7).toInt = (F 63 7).toInt := (congrArg Int32.toInt (((g62.1 63 7 rfl rfl).trans (g35.1 63 7 rfl rfl)).trans (g13.1 63 7 rfl rfl))).trans rfl
        have e88 : (T59 63 8).toInt = (F 63 8).toInt := (congrArg Int32.toInt (((g62.1 63 8 rfl rfl).trans (g35.1 63 8 rfl rfl)).trans (g13.1 63 8 rfl rfl))).trans rfl
        have e89 : (T59 63 5).toInt = (F 63 5).toInt := (congrArg Int32.toInt (((g62.1 63 5 rfl rfl).trans (g35.1 63 5 rfl rfl)).trans (g13.1 63 5 rfl rfl))).trans rfl
        have e90 : (T59 63 6).toInt = (F 63 6).toInt := (congrArg Int32.toInt (((g62.1 63 6 rfl rfl).trans (g35.1 63 6 rfl rfl)).trans (g13.1 63 6 rfl rfl))).trans rfl
        have g93 := agc_tr (agc_refl (fs := [7306]) (rs := [77, 999]) (F := F)) g13 (by decide +kernel) (by decide +kernel)
        have g92 := agc_tr g93 g35 (by decide +kernel) (by decide +kernel)
        have g91 := agc_tr g92 g62 (by decide +kernel) (by decide +kernel)
        refine h_Sc_addStretch_u73_x163_a0 (B_w (B_eq (((congrFun (g62.2 74 rfl rfl) x4_58.toNatClampNeg).trans (congrFun (g35.2 74 rfl rfl) x4_58.toNatClampNeg)).trans (congrFun (g13.2 74 rfl rfl) x4_58.toNatClampNeg)) (show B 0 2 (F 74 x4_58.toNatClampNeg) from hI 74 x4_58.toNatClampNeg)) (by decide +kernel) (by decide +kernel)) b51 b25 hI61 (qf_le (b' := (T59 73 6).toInt) (lo' := 0) (hi' := (64 * (T59 63 2).toInt) - 1) r64 (by omega) (by omega) (by omega)) (by show (T59 74 x4_58.toNatClampNeg).toInt < (T59 63 2).toInt; first | with_reducible assumption | omega) (by show x3_31.toInt < (T59 63 7).toInt; first | with_reducible assumption | omega) (by show x2_9.toInt < (T59 63 8).toInt; first | with_reducible assumption | omega) (qf_eq (((g62.2 64 rfl rfl).trans (g35.2 64 rfl rfl)).trans (g13.2 64 rfl rfl)) (qf_le (b' := (T59 63 2).toInt) (lo' := 1) (hi' := (T59 63 5).toInt) pre2 (by omega) (by omega) (by omega))) (qf_eq (((g62.2 65 rfl rfl).trans (g35.2 65 rfl rfl)).trans (g13.2 65 rfl rfl)) (qf_le (b' := (T59 63 2).toInt) (lo' := 1) (hi' := (T59 63 6).toInt) pre3 (by omega) (by omega) (by omega))) (by show ((T59 63 5).toInt = 1) ∨ ((T59 63 7).toInt ≤ 4); first | with_reducible assumption | omega) (by show ((T59 63 6).toInt = 1) ∨ ((T59 63 8).toInt ≤ 4); first | with_reducible assumption | omega) r65 ((show LSQ T59 from (LSQ_ag (F := F) (G := T59) pre7 hI g91 (by decide +kernel) rfl rfl)) (x4_58) (by omega) (by omega)) (fun {FS43_94} {LFS43_94} hI95 g96 r97 r98 => ?_)
        have r99 : qf (FS43_94 77) 0 (FS43_94 73 6).toInt 0 ((64 * (FS43_94 63 2).toInt) - 1) := r97
        clear r97
        have q100 : (0) ≤ (FS43_94 73 6).toInt ∧ (FS43_94 73 6).toInt ≤ (192) := (show B 0 192 (FS43_94 73 6) from hI95 73 6)
        have r101 : ZQ FS43_94 := r98
        clear r98
        have g103 := agc_tr (agc_refl (fs := [7306]) (rs := [77, 999]) (F := T32)) g62 (by decide +kernel) (by decide +kernel)
        have g102 := agc_tr g103 g96 (by decide +kernel) (by decide +kernel)
        have e104 : (FS43_94 63 2).toInt = (F 63 2).toInt := (congrArg Int32.toInt ((((g96.1 63 2 rfl rfl).trans (g62.1 63 2 rfl rfl)).trans (g35.1 63 2 rfl rfl)).trans (g13.1 63 2 rfl rfl))).trans rfl
        have e105 : (x4_58 + 1).toInt = ((x4_58).toInt + 1) := (t_add b77 cqb_1_1_1 (by decide +kernel) (by decide +kernel)).trans (by rw [cqn_1])
        have q106 : (1) ≤ (x4_58 + 1).toInt ∧ (x4_58 + 1).toInt ≤ (3) := (show B 1 3 (x4_58 + 1) from B_w (B_add b77 cqb_1_1_1 (by decide +kernel) (by decide +kernel)) (by decide +kernel) (by decide +kernel))
        exact hR23 ⟨rfl, rfl, rfl, (B_w (B_add b77 cqb_1_1_1 (by decide +kernel) (by decide +kernel)) (by decide +kernel) (by decide +kernel)), _, _, rfl, hI95, g102, (qf_le (b' := (FS43_94 73 6).toInt) (lo' := 0) (hi' := (64 * (FS43_94 63 2).toInt) - 1) r99 (by omega) (by omega) (by omega)), r101⟩ (by show (3 - (x4_58 + 1).toInt).toNat < (3 - x4_58.toInt).toNat; omega)
set_option maxRecDepth 20000 in
set_option maxHeartbeats 4000000 in
theorem h_Sc_arrangeAlone_u73_x163_a0 {b : Bool} {P : Nat → Nat → Nat} {x2 : Int32} {F : cF} {L : cL} {K : cs → Prop} (b_x2 : B 0 2 x2) (hI : IMc F) (pre0 : qf (F 77) 0 (F 73 6).toInt 0 ((64 * (F 63 2).toInt) - 1)) (pre1 : x2.toInt < (F 63 2).toInt) (pre2 : ZQ F) (pre3 : cz x2 F) (hK : ∀ {Z : cF} {LZ : cL}, IMc Z → agc [7306] [77, 999] F Z → (qf (Z 77) 0 (Z 73 6).toInt 0 ((64 * (Z 63 2).toInt) - 1)) → (ZQ Z) → K (Z, LZ, PC false b P)) : p_Sc_arrangeAlone UL 73 63 x2 (F, L, PC false b P) K := by
  have q1 : (0) ≤ (F 73 6).toInt ∧ (F 73 6).toInt ≤ (192) := (show B 0 192 (F 73 6) from hI 73 6)
  have q2 : (0) ≤ (x2).toInt ∧ (x2).toInt ≤ (2) := (show B 0 2 (x2) from B_w b_x2 (by decide +kernel) (by decide +kernel))
  have q3 : (1) ≤ (F 63 2).toInt ∧ (F 63 2).toInt ≤ (3) := (show B 1 3 (F 63 2) from hI 63 2)
  unfold p_Sc_arrangeAlone
  refine ⟨fun yx1 yx2 yx3 yS => (63 : Nat) = yx1 ∧ x2 = yx2 ∧ B 0 9 yx3 ∧ ∃ (T7 : cF) (LT7 : cL), yS = (T7, LT7, PC false b P) ∧ IMc T7 ∧ agc [7306] [77, 999] F T7 ∧ (qf (T7 77) 0 (T7 73 6).toInt 0 ((64 * (T7 63 2).toInt) - 1)) ∧ (ZQ T7), fun yx1 yx2 yx3 yS => (9 - yx3.toInt).toNat, ⟨rfl, rfl, (B_w cqb_0_0_0 (by decide +kernel) (by decide +kernel)), _, _, rfl, hI, (agc_refl (fs := [7306]) (rs := [77, 999]) (F := F)), (qf_le (b' := (F 73 6).toInt) (lo' := 0) (hi' := (64 * (F 63 2).toInt) - 1) pre0 (by omega) (by omega) (by omega)), pre2⟩, fun x1_4 x2_5 x3_6 ST7 hIv => ?_⟩
  obtain ⟨rfl, rfl, b8, T7, LT7, rfl, hI9, g10, r11, r12⟩ := hIv
  suffices hs : ∀ (R2 : Nat → Int32 → Int32 → cs → Prop), (∀ zx1 zx2 zx3 zS, ((63 : Nat) = zx1 ∧ x2 = zx2 ∧ B 0 9 zx3 ∧ ∃ (T7 : cF) (LT7 : cL), zS = (T7, LT7, PC false b P) ∧ IMc T7 ∧ agc [7306] [77, 999] F T7 ∧ (qf (T7 77) 0 (T7 73 6).toInt 0 ((64 * (T7 63 2).toInt) - 1)) ∧ (ZQ T7)) → (9 - zx3.toInt).toNat < (9 - x3_6.toInt).toNat → R2 zx1 zx2 zx3 zS) → b_Sc_arrangeAlone_2 UL 73 63 x2 x3_6 (T7, LT7, PC false b P) R2 K from hs _ (fun _ _ _ _ h1 h2 => ⟨h1, h2⟩)
  intro R2 hR20
  have hR2 := fun {zx1} {zx2} {zx3} {zS} => hR20 zx1 zx2 zx3 zS
  have q13 : (0) ≤ (T7 73 6).toInt ∧ (T7 73 6).toInt ≤ (192) := (show B 0 192 (T7 73 6) from hI9 73 6)
  unfold b_Sc_arrangeAlone_2
  refine ⟨(show c_cl UL 63 = 7 from cl_63), ?_⟩
  refine ⟨(show ¬ ((67 : Nat) = NU) from by decide +kernel), ?_⟩
  refine ⟨(show c_cl UL 67 = 902 from cl_67), ?_⟩
  refine ⟨(show vp_in (x2) 3 from vp_B b_x2 (by decide +kernel) (by decide +kernel)), ?_⟩
  refine ⟨fun hc => ?_, fun hc => ?_⟩
  · have hq14 := hc
    have q15 : (0) ≤ (F 67 x2.toNatClampNeg).toInt ∧ (F 67 x2.toNatClampNeg).toInt ≤ (64) := (show B 0 64 (F 67 x2.toNatClampNeg) from hI 67 x2.toNatClampNeg)
    have e16 : (T7 67 x2.toNatClampNeg).toInt = (F 67 x2.toNatClampNeg).toInt := (congrArg Int32.toInt (congrFun (g10.2 67 rfl rfl) x2.toNatClampNeg)).trans rfl
    have q17 : (0) ≤ (x3_6).toInt ∧ (x3_6).toInt ≤ (9) := (show B 0 9 (x3_6) from B_w b8 (by decide +kernel) (by decide +kernel))
    have e18 : (8 * x3_6).toInt = (8 * (x3_6).toInt) := (t_mul cqb_8_8_8 b8 (by decide +kernel) (by decide +kernel) (by decide +kernel)).trans (by rw [cqn_8])
    have q19 : (0) ≤ (8 * x3_6).toInt ∧ (8 * x3_6).toInt ≤ (72) := (show B 0 72 (8 * x3_6) from B_w (B_mul cqb_8_8_8 b8 (by decide +kernel) (by decide +kernel) (by decide +kernel)) (by decide +kernel) (by decide +kernel))
    have i20 : (T7 67 x2.toNatClampNeg).toInt ≤ (8 * x3_6).toInt := i_le hq14
    have g21 := agc_tr (agc_refl (fs := [7306]) (rs := [77, 999]) (F := F)) g10 (by decide +kernel) (by decide +kernel)
    have e22 : (T7 63 2).toInt = (F 63 2).toInt := (congrArg Int32.toInt (g10.1 63 2 rfl rfl)).trans rfl
    exact hK hI9 g21 (qf_le (b' := (T7 73 6).toInt) (lo' := 0) (hi' := (64 * (T7 63 2).toInt) - 1) r11 (by omega) (by omega) (by omega)) r12
  · have hq23 := (nle_lt hc)
    have b24 : B 0 63 (8 * x3_6) := B_w (B_ltL (B_mul cqb_8_8_8 b8 (by decide +kernel) (by decide +kernel) (by decide +kernel)) (B_eq (congrFun (g10.2 67 rfl rfl) x2.toNatClampNeg) (show B 0 64 (F 67 x2.toNatClampNeg) from hI 67 x2.toNatClampNeg)) hq23) (by decide +kernel) (by decide +kernel)
    have b25 : B 1 64 (F 67 x2.toNatClampNeg) := B_w (B_eq (Eq.symm (congrFun (g10.2 67 rfl rfl) x2.toNatClampNeg)) (B_ltR (B_mul cqb_8_8_8 b8 (by decide +kernel) (by decide +kernel) (by decide +kernel)) (B_eq (congrFun (g10.2 67 rfl rfl) x2.toNatClampNeg) (show B 0 64 (F 67 x2.toNatClampNeg) from hI 67 x2.toNatClampNeg)) hq23)) (by decide +kernel) (by decide +kernel)
    have q26 : (0) ≤ (x3_6).toInt ∧ (x3_6).toInt ≤ (9) := (show B 0 9 (x3_6) from B_w b8 (by decide +kernel) (by decide +kernel))
    have e27 : (8 * x3_6).toInt = (8 * (x3_6).toInt) := (t_mul cqb_8_8_8 b8 (by decide +kernel) (by decide +kernel) (by decide +kernel)).trans (by rw [cqn_8])
    have q28 : (0) ≤ (8 * x3_6).toInt ∧ (8 * x3_6).toInt ≤ (63) := (show B 0 63 (8 * x3_6) from B_w b24 (by decide +kernel) (by decide +kernel))
    have q29 : (1) ≤ (F 67 x2.toNatClampNeg).toInt ∧ (F 67 x2.toNatClampNeg).toInt ≤ (64) := (show B 1 64 (F 67 x2.toNatClampNeg) from B_w b25 (by decide +kernel) (by decide +kernel))
    have e30 : (T7 67 x2.toNatClampNeg).toInt = (F 67 x2.toNatClampNeg).toInt := (congrArg Int32.toInt (congrFun (g10.2 67 rfl rfl) x2.toNatClampNeg)).trans rfl
    have i31 := i_lt hq23
    have b32 : B 0 7 (x3_6) := ⟨by omega, by omega⟩
    have i33 : (8 * x3_6).toInt < (T7 67 x2.toNatClampNeg).toInt := i_lt hq23
    have e42 : (T7 63 2).toInt = (F 63 2).toInt := (congrArg Int32.toInt (g10.1 63 2 rfl rfl)).trans rfl
    refine ⟨fun yx1 yx2 yx3 yx4 yS => (63 : Nat) = yx1 ∧ x2 = yx2 ∧ x3_6 = yx3 ∧ B 0 9 yx4 ∧ ∃ (T38 : cF) (LT38 : cL), yS = (T38, LT38, PC false b P) ∧ IMc T38 ∧ agc [7306] [77, 999] T7 T38 ∧ (qf (T38 77) 0 (T38 73 6).toInt 0 ((64 * (T38 63 2).toInt) - 1)) ∧ (ZQ T38), fun yx1 yx2 yx3 yx4 yS => (9 - yx4.toInt).toNat, ⟨rfl, rfl, rfl, (B_w cqb_0_0_0 (by decide +kernel) (by decide +kernel)), _, _, rfl, hI9, (agc_refl (fs := [7306]) (rs := [77, 999]) (F := T7)), (qf_le (b' := (T7 73 6).toInt) (lo' := 0) (hi' := (64 * (T7 63 2).toInt) - 1) r11 (by omega) (by omega) (by omega)), r12⟩, fun x1_34 x2_35 x3_36 x4_37 ST38 hIv => ?_⟩
    obtain ⟨rfl, rfl, rfl, b39, T38, LT38, rfl, hI40, g41, r43, r44⟩ := hIv
    suffices hs : ∀ (R18 : Nat → Int32 → Int32 → Int32 → cs → Prop), (∀ zx1 zx2 zx3 zx4 zS, ((63 : Nat) = zx1 ∧ x2 = zx2 ∧ x3_6 = zx3 ∧ B 0 9 zx4 ∧ ∃ (T38 : cF) (LT38 : cL), zS = (T38, LT38, PC false b P) ∧ IMc T38 ∧ agc [7306] [77, 999] T7 T38 ∧ (qf (T38 77) 0 (T38 73 6).toInt 0 ((64 * (T38 63 2).toInt) - 1)) ∧ (ZQ T38)) → (9 - zx4.toInt).toNat < (9 - x4_37.toInt).toNat → R18 zx1 zx2 zx3 zx4 zS) → b_Sc_arrangeAlone_18 UL 73 63 x2 x3_6 x4_37 (T38, LT38, PC false b P) R2 R18 K from hs _ (fun _ _ _ _ _ h1 h2 => ⟨h1, h2⟩)
    intro R18 hR180
    have hR18 := fun {zx1} {zx2} {zx3} {zx4} {zS} => hR180 zx1 zx2 zx3 zx4 zS
    have q45 : (0) ≤ (T38 73 6).toInt ∧ (T38 73 6).toInt ≤ (192) := (show B 0 192 (T38 73 6) from hI40 73 6)
    unfold b_Sc_arrangeAlone_18
    refine ⟨(show c_cl UL 63 = 7 from cl_63), ?_⟩
    refine ⟨(show ¬ ((66 : Nat) = NU) from by decide +kernel), ?_⟩
    refine ⟨(show c_cl UL 66 = 902 from cl_66), ?_⟩
    refine ⟨(show vp_in (x2) 3 from vp_B b_x2 (by decide +kernel) (by decide +kernel)), ?_⟩
    refine ⟨fun hc => ?_, fun hc => ?_⟩
    · have hq46 := hc
      have q47 : (0) ≤ (F 66 x2.toNatClampNeg).toInt ∧ (F 66 x2.toNatClampNeg).toInt ≤ (64) := (show B 0 64 (F 66 x2.toNatClampNeg) from hI 66 x2.toNatClampNeg)
      have e48 : (T38 66 x2.toNatClampNeg).toInt = (F 66 x2.toNatClampNeg).toInt := (congrArg Int32.toInt ((congrFun (g41.2 66 rfl rfl) x2.toNatClampNeg).trans (congrFun (g10.2 66 rfl rfl) x2.toNatClampNeg))).trans rfl
      have q49 : (0) ≤ (x4_37).toInt ∧ (x4_37).toInt ≤ (9) := (show B 0 9 (x4_37) from B_w b39 (by decide +kernel) (by decide +kernel))
      have e50 : (8 * x4_37).toInt = (8 * (x4_37).toInt) := (t_mul cqb_8_8_8 b39 (by decide +kernel) (by decide +kernel) (by decide +kernel)).trans (by rw [cqn_8])
      have q51 : (0) ≤ (8 * x4_37).toInt ∧ (8 * x4_37).toInt ≤ (72) := (show B 0 72 (8 * x4_37) from B_w (B_mul cqb_8_8_8 b39 (by decide +kernel) (by decide +kernel) (by decide +kernel)) (by decide +kernel) (by decide +kernel))
      have i52 : (T38 66 x2.toNatClampNeg).toInt ≤ (8 * x4_37).toInt := i_le hq46
      have g54 := agc_tr (agc_refl (fs := [7306]) (rs := [77, 999]) (F := F)) g10 (by decide +kernel) (by decide +kernel)
      have g53 := agc_tr g54 g41 (by decide +kernel) (by decide +kernel)
      have e55 : (T38 63 2).toInt = (F 63 2).toInt := (congrArg Int32.toInt ((g41.1 63 2 rfl rfl).trans (g10.1 63 2 rfl rfl))).trans rfl
      have e56 : (x3_6 + 1).toInt = ((x3_6).toInt + 1) := (t_add b32 cqb_1_1_1 (by decide +kernel) (by decide +kernel)).trans (by rw [cqn_1])
      have q57 : (1) ≤ (x3_6 + 1).toInt ∧ (x3_6 + 1).toInt ≤ (8) := (show B 1 8 (x3_6 + 1) from B_w (B_add b32 cqb_1_1_1 (by decide +kernel) (by decide +kernel)) (by decide +kernel) (by decide +kernel))
      exact hR2 ⟨rfl, rfl, (B_w (B_add b32 cqb_1_1_1 (by decide +kernel) (by decide +kernel)) (by decide +kernel) (by decide +kernel)), _, _, rfl, hI40, g53, (qf_le (b' := (T38 73 6).toInt) (lo' := 0) (hi' := (64 * (T38 63 2).toInt) - 1) r43 (by omega) (by omega) (by omega)), r44⟩ (by show (9 - (x3_6 + 1).toInt).toNat < (9 - x3_6.toInt).toNat; omega)
    · have hq58 := (nle_lt hc)
      have b59 : B 0 63 (8 * x4_37) := B_w (B_ltL (B_mul cqb_8_8_8 b39 (by decide +kernel) (by decide +kernel) (by decide +kernel)) (B_eq ((congrFun (g41.2 66 rfl rfl) x2.toNatClampNeg).trans (congrFun (g10.2 66 rfl rfl) x2.toNatClampNeg)) (show B 0 64 (F 66 x2.toNatClampNeg) from hI 66 x2.toNatClampNeg)) hq58) (by decide +kernel) (by decide +kernel)
      have b60 : B 1 64 (F 66 x2.toNatClampNeg) := B_w (B_eq (Eq.symm ((congrFun (g41.2 66 rfl rfl) x2.toNatClampNeg).trans (congrFun (g10.2 66 rfl rfl) x2.toNatClampNeg))) (B_ltR (B_mul cqb_8_8_8 b39 (by decide +kernel) (by decide +kernel) (by decide +kernel)) (B_eq ((congrFun (g41.2 66 rfl rfl) x2.toNatClampNeg).trans (congrFun (g10.2 66 rfl rfl) x2.toNatClampNeg)) (show B 0 64 (F 66 x2.toNatClampNeg) from hI 66 x2.toNatClampNeg)) hq58)) (by decide +kernel) (by decide +kernel)
      have q61 : (0) ≤ (x4_37).toInt ∧ (x4_37).toInt ≤ (9) := (show B 0 9 (x4_37) from B_w b39 (by decide +kernel) (by decide +kernel))
      have e62 : (8 * x4_37).toInt = (8 * (x4_37).toInt) := (t_mul cqb_8_8_8 b39 (by decide +kernel) (by decide +kernel) (by decide +kernel)).trans (by rw [cqn_8])
      have q63 : (0) ≤ (8 * x4_37).toInt ∧ (8 * x4_37).toInt ≤ (63) := (show B 0 63 (8 * x4_37) from B_w b59 (by decide +kernel) (by decide +kernel))
      have q64 : (1) ≤ (F 66 x2.toNatClampNeg).toInt ∧ (F 66 x2.toNatClampNeg).toInt ≤ (64) := (show B 1 64 (F 66 x2.toNatClampNeg) from B_w b60 (by decide +kernel) (by decide +kernel))
      have e65 : (T38 66 x2.toNatClampNeg).toInt = (F 66 x2.toNatClampNeg).toInt := (congrArg Int32.toInt ((congrFun (g41.2 66 rfl rfl) x2.toNatClampNeg).trans (congrFun (g10.2 66 rfl rfl) x2.toNatClampNeg))).trans rfl
      have i66 := i_lt hq58
      have b67 : B 0 7 (x4_37) := ⟨by omega, by omega⟩
      have i68 : (8 * x4_37).toInt < (T38 66 x2.toNatClampNeg).toInt := i_lt hq58
      refine ⟨(show ¬ ((68 : Nat) = NU) from by decide +kernel), ?_⟩
      refine ⟨(show c_cl UL 68 = 902 from cl_68), ?_⟩
      refine ⟨(show vp_in (x2) 3 from vp_B b_x2 (by decide +kernel) (by decide +kernel)), ?_⟩
      have e69 : (T38 63 2).toInt = (F 63 2).toInt := (congrArg Int32.toInt ((g41.1 63 2 rfl rfl).trans (g10.1 63 2 rfl rfl))).trans rfl
      have g71 := agc_tr (agc_refl (fs := [7306]) (rs := [77, 999]) (F := F)) g10 (by decide +kernel) (by decide +kernel)
      have g70 := agc_tr g71 g41 (by decide +kernel) (by decide +kernel)
      refine h_Sc_addBlock_u73_a0 b_x2 (B_w (B_add (B_mul b32 (B_eq ((congrFun (g41.2 68 rfl rfl) x2.toNatClampNeg).trans (congrFun (g10.2 68 rfl rfl) x2.toNatClampNeg)) (show B 0 8 (F 68 x2.toNatClampNeg) from hI 68 x2.toNatClampNeg)) (by decide +kernel) (by decide +kernel) (by decide +kernel)) b67 (by decide +kernel) (by decide +kernel)) (by decide +kernel) (by decide +kernel)) hI40 (qf_le (b' := (T38 73 6).toInt) (lo' := 0) (hi' := (64 * (T38 63 2).toInt) - 1) r43 (by omega) (by omega) (by omega)) (by show x2.toInt < (T38 63 2).toInt; first | with_reducible assumption | omega) r44 (cz_ag (F := F) (G := T38) pre3 hI g70 (by decide +kernel)) (fun {FS45_72} {LFS45_72} hI73 g74 r75 r76 => ?_)
      have r77 : qf (FS45_72 77) 0 (FS45_72 73 6).toInt 0 ((64 * (FS45_72 63 2).toInt) - 1) := r75
      clear r75
      have q78 : (0) ≤ (FS45_72 73 6).toInt ∧ (FS45_72 73 6).toInt ≤ (192) := (show B 0 192 (FS45_72 73 6) from hI73 73 6)
      have r79 : ZQ FS45_72 := r76
      clear r76
      have g81 := agc_tr (agc_refl (fs := [7306]) (rs := [77, 999]) (F := T7)) g41 (by decide +kernel) (by decide +kernel)
      have g80 := agc_tr g81 g74 (by decide +kernel) (by decide +kernel)
      have e82 : (FS45_72 63 2).toInt = (F 63 2).toInt := (congrArg Int32.toInt (((g74.1 63 2 rfl rfl).trans (g41.1 63 2 rfl rfl)).trans (g10.1 63 2 rfl rfl))).trans rfl
      have e83 : (x4_37 + 1).toInt = ((x4_37).toInt + 1) := (t_add b67 cqb_1_1_1 (by decide +kernel) (by decide +kernel)).trans (by rw [cqn_1])
      have q84 : (1) ≤ (x4_37 + 1).toInt ∧ (x4_37 + 1).toInt ≤ (8) := (show B 1 8 (x4_37 + 1) from B_w (B_add b67 cqb_1_1_1 (by decide +kernel) (by decide +kernel)) (by decide +kernel) (by decide +kernel))
      exact hR18 ⟨rfl, rfl, rfl, (B_w (B_add b67 cqb_1_1_1 (by decide +kernel) (by decide +kernel)) (by decide +kernel) (by decide +kernel)), _, _, rfl, hI73, g80, (qf_le (b' := (FS45_72 73 6).toInt) (lo' := 0) (hi' := (64 * (FS45_72 63 2).toInt) - 1) r77 (by omega) (by omega) (by omega)), r79⟩ (by show (9 - (x4_37 + 1).toInt).toNat < (9 - x4_37.toInt).toNat; omega)
set_option maxRecDepth 20000 in
set_option maxHeartbeats 4000000 in
theorem h_Sc_arrange_u73_x163_a0 {b : Bool} {P : Nat → Nat → Nat} {F : cF} {L : cL} {K : cs → Prop} (hI : IMc F) (pre0 : qf (F 74) 0 (F 73 0).toInt 0 ((F 63 2).toInt - 1)) (pre1 : qf (F 64) 0 (F 63 2).toInt 1 (F 63 5).toInt) (pre2 : qf (F 65) 0 (F 63 2).toInt 1 (F 63 6).toInt) (pre3 : ((F 63 5).toInt = 1) ∨ ((F 63 7).toInt ≤ 4)) (pre4 : ((F 63 6).toInt = 1) ∨ ((F 63 8).toInt ≤ 4)) (pre5 : LSQ F) (hK : ∀ {Z : cF} {LZ : cL}, IMc Z → agc [7304, 7305, 7306] [77, 999] F Z → (qf (Z 77) 0 (Z 73 6).toInt 0 ((64 * (Z 63 2).toInt) - 1)) → (UPs 73 Z) → (ZQ Z) → K (Z, LZ, PC false b P)) : p_Sc_arrange UL 73 63 (F, L, PC false b P) K := by
  have q1 : (0) ≤ (F 73 0).toInt ∧ (F 73 0).toInt ≤ (3) := (show B 0 3 (F 73 0) from hI 73 0)
  have q2 : (1) ≤ (F 63 2).toInt ∧ (F 63 2).toInt ≤ (3) := (show B 1 3 (F 63 2) from hI 63 2)
  have q3 : (1) ≤ (F 63 5).toInt ∧ (F 63 5).toInt ≤ (2) := (show B 1 2 (F 63 5) from hI 63 5)
  have q4 : (1) ≤ (F 63 7).toInt ∧ (F 63 7).toInt ≤ (8) := (show B 1 8 (F 63 7) from hI 63 7)
  have q5 : (1) ≤ (F 63 6).toInt ∧ (F 63 6).toInt ≤ (2) := (show B 1 2 (F 63 6) from hI 63 6)
  have q6 : (1) ≤ (F 63 8).toInt ∧ (F 63 8).toInt ≤ (8) := (show B 1 8 (F 63 8) from hI 63 8)
  unfold p_Sc_arrange
  have hj7 : ∀ {T8 : cF} {LT8 : cL}, IMc T8 → agc [7305, 7306] [77, 999] F T8 → (qf (T8 77) 0 (T8 73 6).toInt 0 ((64 * (T8 63 2).toInt) - 1)) → (ZQ T8) → b_Sc_arrange_46 UL 73 (T8, LT8, PC false b P) K := by
    intro T8 LT8 hI9 g10 r11 r12
    have q13 : (0) ≤ (T8 73 6).toInt ∧ (T8 73 6).toInt ≤ (192) := (show B 0 192 (T8 73 6) from hI9 73 6)
    unfold b_Sc_arrange_46
    refine ⟨fun hc => ?_, fun hc => ?_⟩
    · have hq14 := hc
      have b15 : B 1 12 (T8 73 5) := B_w (B_leR cqb_1_1_1 (show B 0 12 (T8 73 5) from hI9 73 5) hq14) (by decide +kernel) (by decide +kernel)
      refine ⟨B_nz b15 (by decide +kernel), ?_⟩
      unfold b_Sc_arrange_68
      have hI16 := IMc_u (u := 73) (i := 4) (v := (T8 73 6) / (T8 73 5)) hI9 (show B 0 192 ((T8 73 6) / (T8 73 5)) from (B_w (show B 0 192 ((T8 73 6) / (T8 73 5)) from B_div2 (show B 0 192 (T8 73 6) from hI9 73 6) b15 (by decide +kernel) (by decide +kernel) (by decide +kernel) (by decide +kernel)) (by decide +kernel) (by decide +kernel)))
      have g18 := agc_tr (agc_refl (fs := [7304, 7305, 7306]) (rs := [77, 999]) (F := F)) g10 (by decide +kernel) (by decide +kernel)
      have g17 := agc_f (u := 73) (k := 4) (v := (T8 73 6) / (T8 73 5)) g18 rfl (by decide +kernel)
      have q19 : (1) ≤ (T8 73 5).toInt ∧ (T8 73 5).toInt ≤ (12) := (show B 1 12 (T8 73 5) from B_w b15 (by decide +kernel) (by decide +kernel))
      have e20 : ((T8 73 6) / (T8 73 5)).toInt = ((T8 73 6).toInt / (T8 73 5).toInt) := (t_div (show B 0 192 (T8 73 6) from hI9 73 6) b15 (by decide +kernel) (by decide +kernel)).trans (by rfl)
      have q21 : (0) ≤ ((T8 73 6) / (T8 73 5)).toInt ∧ ((T8 73 6) / (T8 73 5)).toInt ≤ (192) := (show B 0 192 ((T8 73 6) / (T8 73 5)) from B_div2 (show B 0 192 (T8 73 6) from hI9 73 6) b15 (by decide +kernel) (by decide +kernel) (by decide +kernel) (by decide +kernel))
      have k22 : (T8 73 5).toInt * ((T8 73 6) / (T8 73 5)).toInt ≤ (T8 73 6).toInt := by rw [e20]; exact Int.mul_ediv_self_le (by omega)
      have e23 : (T8 63 2).toInt = (F 63 2).toInt := (congrArg Int32.toInt (g10.1 63 2 rfl rfl)).trans rfl
      have g24 := agc_f (u := 73) (k := 4) (v := (T8 73 6) / (T8 73 5)) (agc_refl (fs := [7304]) (rs := []) (F := T8)) rfl (by decide +kernel)
      exact hK hI16 g17 (qf_le (b' := (T8 73 6).toInt) (lo' := 0) (hi' := (64 * (T8 63 2).toInt) - 1) r11 (by omega) (by omega) (by omega)) (by show (T8 73 5).toInt * ((T8 73 6) / (T8 73 5)).toInt ≤ (T8 73 6).toInt; first | with_reducible assumption | omega) (ZQ_ag (F := T8) (G := va_up T8 73 (upd (T8 73) 4 ((T8 73 6) / (T8 73 5)))) r12 hI9 g24 (by decide +kernel) rfl rfl)
    · have hq25 := (nle_lt hc)
      have b26 : B 0 0 (T8 73 5) := B_w (B_ltL (show B 0 12 (T8 73 5) from hI9 73 5) cqb_1_1_1 hq25) (by decide +kernel) (by decide +kernel)
      unfold b_Sc_arrange_68
      have hI27 := IMc_u (u := 73) (i := 4) (v := 0) hI9 (show B 0 192 (0) from (B_w cqb_0_0_0 (by decide +kernel) (by decide +kernel)))
      have g29 := agc_tr (agc_refl (fs := [7304, 7305, 7306]) (rs := [77, 999]) (F := F)) g10 (by decide +kernel) (by decide +kernel)
      have g28 := agc_f (u := 73) (k := 4) (v := 0) g29 rfl (by decide +kernel)
      have q30 : (0) ≤ (T8 73 5).toInt ∧ (T8 73 5).toInt ≤ (0) := (show B 0 0 (T8 73 5) from B_w b26 (by decide +kernel) (by decide +kernel))
      have k31 : (T8 73 5).toInt * 0 = 0 := Int.mul_zero _
      have e32 : (T8 63 2).toInt = (F 63 2).toInt := (congrArg Int32.toInt (g10.1 63 2 rfl rfl)).trans rfl
      have g33 := agc_f (u := 73) (k := 4) (v := 0) (agc_refl (fs := [7304]) (rs := []) (F := T8)) rfl (by decide +kernel)
      exact hK hI27 g28 (qf_le (b' := (T8 73 6).toInt) (lo' := 0) (hi' := (64 * (T8 63 2).toInt) - 1) r11 (by omega) (by omega) (by omega)) (by show (T8 73 5).toInt * (0 : Int) ≤ (T8 73 6).toInt; first | with_reducible assumption | omega) (ZQ_ag (F := T8) (G := va_up T8 73 (upd (T8 73) 4 0)) r12 hI9 g33 (by decide +kernel) rfl rfl)
  refine ⟨fun hc => ?_, fun hc => ?_⟩
  · have i34 : (F 73 0).toInt ≠ (1 : Int32).toInt := i_ne hc
    have n35 : (1 : Int32).toInt = 1 := cqn_1
    have hI36 := IMc_u (u := 73) (i := 6) (v := 0) hI (show B 0 192 (0) from (B_w cqb_0_0_0 (by decide +kernel) (by decide +kernel)))
    refine h_Sc_blocksTogether_u73_x163 hI36 (fun {v35_37} b39 => ?_)
    have hI40 := IMc_u (u := 73) (i := 5) (v := v35_37) hI36 (show B 0 12 (v35_37) from (B_w b39 (by decide +kernel) (by decide +kernel)))
    have g42 := agc_f (u := 73) (k := 6) (v := 0) (agc_refl (fs := [7305, 7306]) (rs := []) (F := F)) rfl (by decide +kernel)
    have g41 := agc_f (u := 73) (k := 5) (v := v35_37) g42 rfl (by decide +kernel)
    refine h_Sc_arrangeTogether_u73_x163_a0 hI40 (qf_0 (b := 0) (by omega)) (qf_le (b' := (F 73 0).toInt) (lo' := 0) (hi' := (F 63 2).toInt - 1) pre0 (by omega) (by omega) (by omega)) (qf_le (b' := (F 63 2).toInt) (lo' := 1) (hi' := (F 63 5).toInt) pre1 (by omega) (by omega) (by omega)) (qf_le (b' := (F 63 2).toInt) (lo' := 1) (hi' := (F 63 6).toInt) pre2 (by omega) (by omega) (by omega)) (by show ((F 63 5).toInt = 1) ∨ ((F 63 7).toInt ≤ 4); first | with_reducible assumption | omega) (by show ((F 63 6).toInt = 1) ∨ ((F 63 8).toInt ≤ 4); first | with_reducible assumption | omega) (fun j h0 h1 => absurd (show j.toInt < 0 from h1) (by omega)) (LSQ_ag (F := F) (G := va_up (va_up F 73 (upd (F 73) 6 0)) 73 (upd ((va_up F 73 (upd (F 73) 6 0)) 73) 5 v35_37)) pre5 hI g41 (by decide +kernel) rfl rfl) (fun {FS43_43} {LFS43_43} hI44 g45 r46 r47 => ?_)
    have r48 : qf (FS43_43 77) 0 (FS43_43 73 6).toInt 0 ((64 * (FS43_43 63 2).toInt) - 1) := r46
    clear r46
    have q49 : (0) ≤ (FS43_43 73 6).toInt ∧ (FS43_43 73 6).toInt ≤ (192) := (show B 0 192 (FS43_43 73 6) from hI44 73 6)
    have r50 : ZQ FS43_43 := r47
    clear r47
    have g53 := agc_f (u := 73) (k := 6) (v := 0) (agc_refl (fs := [7305, 7306]) (rs := [77, 999]) (F := F)) rfl (by decide +kernel)
    have g52 := agc_f (u := 73) (k := 5) (v := v35_37) g53 rfl (by decide +kernel)
    have g51 := agc_tr g52 g45 (by decide +kernel) (by decide +kernel)
    have e54 : (FS43_43 63 2).toInt = (F 63 2).toInt := (congrArg Int32.toInt (g45.1 63 2 rfl rfl)).trans rfl
    exact hj7 hI44 g51 (qf_le (b' := (FS43_43 73 6).toInt) (lo' := 0) (hi' := (64 * (FS43_43 63 2).toInt) - 1) r48 (by omega) (by omega) (by omega)) r50
  · have b55 : B 1 1 (F 73 0) := B_w (B_eq hc cqb_1_1_1) (by decide +kernel) (by decide +kernel)
    have q56 : (1) ≤ (F 73 0).toInt ∧ (F 73 0).toInt ≤ (1) := (show B 1 1 (F 73 0) from B_w b55 (by decide +kernel) (by decide +kernel))
    have i57 : (F 73 0).toInt = (1 : Int32).toInt := congrArg Int32.toInt hc
    have n58 : (1 : Int32).toInt = 1 := cqn_1
    refine ⟨(show ¬ ((74 : Nat) = NU) from by decide +kernel), ?_⟩
    refine ⟨(show c_cl UL 74 = 902 from cl_74), ?_⟩
    refine ⟨(show vp_in (0) 3 from vp_B cqb_0_0_0 (by decide +kernel) (by decide +kernel)), ?_⟩
    have n59 : (0 : Int32).toInt = 0 := cqn_0
    have r60 : 0 ≤ (F 74 (0 : Int32).toNatClampNeg).toInt ∧ (F 74 (0 : Int32).toNatClampNeg).toInt ≤ ((F 63 2).toInt - 1) := qf_at pre0 (x := (0 : Int32)) (by omega) (by omega)
    have hI61 := IMc_u (u := 73) (i := 6) (v := 0) hI (show B 0 192 (0) from (B_w cqb_0_0_0 (by decide +kernel) (by decide +kernel)))
    have hI62 := IMc_u (u := 73) (i := 5) (v := 1) hI61 (show B 0 12 (1) from (B_w cqb_1_1_1 (by decide +kernel) (by decide +kernel)))
    have q63 : (0) ≤ (F 74 (0 : Int32).toNatClampNeg).toInt ∧ (F 74 (0 : Int32).toNatClampNeg).toInt ≤ (2) := (show B 0 2 (F 74 (0 : Int32).toNatClampNeg) from hI 74 (0 : Int32).toNatClampNeg)
    have g65 := agc_f (u := 73) (k := 6) (v := 0) (agc_refl (fs := [7305, 7306]) (rs := []) (F := F)) rfl (by decide +kernel)
    have g64 := agc_f (u := 73) (k := 5) (v := 1) g65 rfl (by decide +kernel)
    refine h_Sc_arrangeAlone_u73_x163_a0 (B_w (show B 0 2 (F 74 (0 : Int32).toNatClampNeg) from hI 74 (0 : Int32).toNatClampNeg) (by decide +kernel) (by decide +kernel)) hI62 (qf_0 (b := 0) (by omega)) (by show (F 74 (0 : Int32).toNatClampNeg).toInt < (F 63 2).toInt; first | with_reducible assumption | omega) (fun j h0 h1 => absurd (show j.toInt < 0 from h1) (by omega)) (cz_ag (F := F) (G := va_up (va_up F 73 (upd (F 73) 6 0)) 73 (upd ((va_up F 73 (upd (F 73) 6 0)) 73) 5 1)) ((show LSQ F from pre5) ((0 : Int32)) (by decide +kernel) (by omega)) hI g64 (by decide +kernel)) (fun {FS26_66} {LFS26_66} hI67 g68 r69 r70 => ?_)
    have r71 : qf (FS26_66 77) 0 (FS26_66 73 6).toInt 0 ((64 * (FS26_66 63 2).toInt) - 1) := r69
    clear r69
    have q72 : (0) ≤ (FS26_66 73 6).toInt ∧ (FS26_66 73 6).toInt ≤ (192) := (show B 0 192 (FS26_66 73 6) from hI67 73 6)
    have r73 : ZQ FS26_66 := r70
    clear r70
    have g76 := agc_f (u := 73) (k := 6) (v := 0) (agc_refl (fs := [7305, 7306]) (rs := [77, 999]) (F := F)) rfl (by decide +kernel)
    have g75 := agc_f (u := 73) (k := 5) (v := 1) g76 rfl (by decide +kernel)
    have g74 := agc_tr g75 g68 (by decide +kernel) (by decide +kernel)
    have e77 : (FS26_66 63 2).toInt = (F 63 2).toInt := (congrArg Int32.toInt (g68.1 63 2 rfl rfl)).trans rfl
    exact hj7 hI67 g74 (qf_le (b' := (FS26_66 73 6).toInt) (lo' := 0) (hi' := (64 * (FS26_66 63 2).toInt) - 1) r71 (by omega) (by omega) (by omega)) r73
set_option maxRecDepth 20000 in
set_option maxHeartbeats 4000000 in
theorem h_Sc_blocksTogether_u73_x1105 {a : Bool} {b : Bool} {P : Nat → Nat → Nat} {F : cF} {L : cL} {K : Int32 → cs → Prop} (hI : IMc F) (hK : ∀ {v : Int32}, B 0 12 v → K v (F, L, PC a b P)) : p_Sc_blocksTogether UL 73 105 (F, L, PC a b P) K := by
  unfold p_Sc_blocksTogether
  refine ⟨fun yx1 yx2 yx3 yS => (105 : Nat) = yx1 ∧ B 0 12 yx2 ∧ B 0 3 yx3 ∧ (F, L, PC a b P) = yS ∧ (yx2.toInt ≤ (4 * yx3.toInt)), fun yx1 yx2 yx3 yS => (3 - yx3.toInt).toNat, ⟨rfl, (B_w cqb_0_0_0 (by decide +kernel) (by decide +kernel)), (B_w cqb_0_0_0 (by decide +kernel) (by decide +kernel)), rfl, (by show 0 ≤ (4 * 0); first | with_reducible assumption | omega)⟩, fun x1_1 x2_2 x3_3 ST4 hIv => ?_⟩
  obtain ⟨rfl, b5, b6, rfl, r7⟩ := hIv
  suffices hs : ∀ (R4 : Nat → Int32 → Int32 → cs → Prop), (∀ zx1 zx2 zx3 zS, ((105 : Nat) = zx1 ∧ B 0 12 zx2 ∧ B 0 3 zx3 ∧ (F, L, PC a b P) = zS ∧ (zx2.toInt ≤ (4 * zx3.toInt))) → (3 - zx3.toInt).toNat < (3 - x3_3.toInt).toNat → R4 zx1 zx2 zx3 zS) → b_Sc_blocksTogether_4 UL 73 105 x2_2 x3_3 (F, L, PC a b P) R4 K from hs _ (fun _ _ _ _ h1 h2 => ⟨h1, h2⟩)
  intro R4 hR40
  have hR4 := fun {zx1} {zx2} {zx3} {zS} => hR40 zx1 zx2 zx3 zS
  have q8 : (0) ≤ (x2_2).toInt ∧ (x2_2).toInt ≤ (12) := (show B 0 12 (x2_2) from B_w b5 (by decide +kernel) (by decide +kernel))
  have q9 : (0) ≤ (x3_3).toInt ∧ (x3_3).toInt ≤ (3) := (show B 0 3 (x3_3) from B_w b6 (by decide +kernel) (by decide +kernel))
  unfold b_Sc_blocksTogether_4
  refine ⟨fun hc => ?_, fun hc => ?_⟩
  · have hq10 := hc
    have q11 : (0) ≤ (F 73 0).toInt ∧ (F 73 0).toInt ≤ (3) := (show B 0 3 (F 73 0) from hI 73 0)
    have i12 : (F 73 0).toInt ≤ (x3_3).toInt := i_le hq10
    exact hK b5
  · have hq13 := (nle_lt hc)
    have b14 : B 0 2 (x3_3) := B_w (B_ltL b6 (show B 0 3 (F 73 0) from hI 73 0) hq13) (by decide +kernel) (by decide +kernel)
    have q15 : (0) ≤ (x3_3).toInt ∧ (x3_3).toInt ≤ (2) := (show B 0 2 (x3_3) from B_w b14 (by decide +kernel) (by decide +kernel))
    have b16 : B 1 3 (F 73 0) := B_w (B_ltR b6 (show B 0 3 (F 73 0) from hI 73 0) hq13) (by decide +kernel) (by decide +kernel)
    have q17 : (1) ≤ (F 73 0).toInt ∧ (F 73 0).toInt ≤ (3) := (show B 1 3 (F 73 0) from B_w b16 (by decide +kernel) (by decide +kernel))
    have i18 : (x3_3).toInt < (F 73 0).toInt := i_lt hq13
    refine ⟨(show c_cl UL 105 = 7 from cl_105), ?_⟩
    refine ⟨(show ¬ ((106 : Nat) = NU) from by decide +kernel), ?_⟩
    refine ⟨(show ¬ ((74 : Nat) = NU) from by decide +kernel), ?_⟩
    refine ⟨(show c_cl UL 74 = 902 from cl_74), ?_⟩
    refine ⟨(show vp_in (x3_3) 3 from vp_B b14 (by decide +kernel) (by decide +kernel)), ?_⟩
    refine ⟨(show c_cl UL 106 = 902 from cl_106), ?_⟩
    refine ⟨(show vp_in (F 74 x3_3.toNatClampNeg) 3 from vp_B (show B 0 2 (F 74 x3_3.toNatClampNeg) from hI 74 x3_3.toNatClampNeg) (by decide +kernel) (by decide +kernel)), ?_⟩
    refine ⟨(show ¬ ((107 : Nat) = NU) from by decide +kernel), ?_⟩
    refine ⟨(show ¬ ((74 : Nat) = NU) from by decide +kernel), ?_⟩
    refine ⟨(show vp_in (x3_3) 3 from vp_B b14 (by decide +kernel) (by decide +kernel)), ?_⟩
    refine ⟨(show c_cl UL 107 = 902 from cl_107), ?_⟩
    refine ⟨(show vp_in (F 74 x3_3.toNatClampNeg) 3 from vp_B (show B 0 2 (F 74 x3_3.toNatClampNeg) from hI 74 x3_3.toNatClampNeg) (by decide +kernel) (by decide +kernel)), ?_⟩
    have q19 : (1) ≤ (F 106 (F 74 x3_3.toNatClampNeg).toNatClampNeg).toInt ∧ (F 106 (F 74 x3_3.toNatClampNeg).toNatClampNeg).toInt ≤ (2) := (show B 1 2 (F 106 (F 74 x3_3.toNatClampNeg).toNatClampNeg) from sB_106 hI (show B 0 2 (F 74 x3_3.toNatClampNeg) from hI 74 x3_3.toNatClampNeg) (by decide +kernel) (by decide +kernel))
    have q20 : (1) ≤ (F 107 (F 74 x3_3.toNatClampNeg).toNatClampNeg).toInt ∧ (F 107 (F 74 x3_3.toNatClampNeg).toNatClampNeg).toInt ≤ (2) := (show B 1 2 (F 107 (F 74 x3_3.toNatClampNeg).toNatClampNeg) from sB_107 hI (show B 0 2 (F 74 x3_3.toNatClampNeg) from hI 74 x3_3.toNatClampNeg) (by decide +kernel) (by decide +kernel))
    have e21 : ((F 106 (F 74 x3_3.toNatClampNeg).toNatClampNeg) * (F 107 (F 74 x3_3.toNatClampNeg).toNatClampNeg)).toInt = ((F 106 (F 74 x3_3.toNatClampNeg).toNatClampNeg).toInt * (F 107 (F 74 x3_3.toNatClampNeg).toNatClampNeg).toInt) := (t_mul (show B 1 2 (F 106 (F 74 x3_3.toNatClampNeg).toNatClampNeg) from sB_106 hI (show B 0 2 (F 74 x3_3.toNatClampNeg) from hI 74 x3_3.toNatClampNeg) (by decide +kernel) (by decide +kernel)) (show B 1 2 (F 107 (F 74 x3_3.toNatClampNeg).toNatClampNeg) from sB_107 hI (show B 0 2 (F 74 x3_3.toNatClampNeg) from hI 74 x3_3.toNatClampNeg) (by decide +kernel) (by decide +kernel)) (by decide +kernel) (by decide +kernel) (by decide +kernel)).trans (by rfl)
    have q22 : (1) ≤ ((F 106 (F 74 x3_3.toNatClampNeg).toNatClampNeg) * (F 107 (F 74 x3_3.toNatClampNeg).toNatClampNeg)).toInt ∧ ((F 106 (F 74 x3_3.toNatClampNeg).toNatClampNeg) * (F 107 (F 74 x3_3.toNatClampNeg).toNatClampNeg)).toInt ≤ (4) := (show B 1 4 ((F 106 (F 74 x3_3.toNatClampNeg).toNatClampNeg) * (F 107 (F 74 x3_3.toNatClampNeg).toNatClampNeg)) from B_w (B_mul (show B 1 2 (F 106 (F 74 x3_3.toNatClampNeg).toNatClampNeg) from sB_106 hI (show B 0 2 (F 74 x3_3.toNatClampNeg) from hI 74 x3_3.toNatClampNeg) (by decide +kernel) (by decide +kernel)) (show B 1 2 (F 107 (F 74 x3_3.toNatClampNeg).toNatClampNeg) from sB_107 hI (show B 0 2 (F 74 x3_3.toNatClampNeg) from hI 74 x3_3.toNatClampNeg) (by decide +kernel) (by decide +kernel)) (by decide +kernel) (by decide +kernel) (by decide +kernel)) (by decide +kernel) (by decide +kernel))
    have e23 : (x2_2 + ((F 106 (F 74 x3_3.toNatClampNeg).toNatClampNeg) * (F 107 (F 74 x3_3.toNatClampNeg).toNatClampNeg))).toInt = ((x2_2).toInt + ((F 106 (F 74 x3_3.toNatClampNeg).toNatClampNeg).toInt * (F 107 (F 74 x3_3.toNatClampNeg).toNatClampNeg).toInt)) := (t_add b5 (B_mul (show B 1 2 (F 106 (F 74 x3_3.toNatClampNeg).toNatClampNeg) from sB_106 hI (show B 0 2 (F 74 x3_3.toNatClampNeg) from hI 74 x3_3.toNatClampNeg) (by decide +kernel) (by decide +kernel)) (show B 1 2 (F 107 (F 74 x3_3.toNatClampNeg).toNatClampNeg) from sB_107 hI (show B 0 2 (F 74 x3_3.toNatClampNeg) from hI 74 x3_3.toNatClampNeg) (by decide +kernel) (by decide +kernel)) (by decide +kernel) (by decide +kernel) (by decide +kernel)) (by decide +kernel) (by decide +kernel)).trans (by rw [e21])
    have q24 : (1) ≤ (x2_2 + ((F 106 (F 74 x3_3.toNatClampNeg).toNatClampNeg) * (F 107 (F 74 x3_3.toNatClampNeg).toNatClampNeg))).toInt ∧ (x2_2 + ((F 106 (F 74 x3_3.toNatClampNeg).toNatClampNeg) * (F 107 (F 74 x3_3.toNatClampNeg).toNatClampNeg))).toInt ≤ (16) := (show B 1 16 (x2_2 + ((F 106 (F 74 x3_3.toNatClampNeg).toNatClampNeg) * (F 107 (F 74 x3_3.toNatClampNeg).toNatClampNeg))) from B_w (B_add b5 (B_mul (show B 1 2 (F 106 (F 74 x3_3.toNatClampNeg).toNatClampNeg) from sB_106 hI (show B 0 2 (F 74 x3_3.toNatClampNeg) from hI 74 x3_3.toNatClampNeg) (by decide +kernel) (by decide +kernel)) (show B 1 2 (F 107 (F 74 x3_3.toNatClampNeg).toNatClampNeg) from sB_107 hI (show B 0 2 (F 74 x3_3.toNatClampNeg) from hI 74 x3_3.toNatClampNeg) (by decide +kernel) (by decide +kernel)) (by decide +kernel) (by decide +kernel) (by decide +kernel)) (by decide +kernel) (by decide +kernel)) (by decide +kernel) (by decide +kernel))
    have e25 : (x3_3 + 1).toInt = ((x3_3).toInt + 1) := (t_add b14 cqb_1_1_1 (by decide +kernel) (by decide +kernel)).trans (by rw [cqn_1])
    have q26 : (1) ≤ (x3_3 + 1).toInt ∧ (x3_3 + 1).toInt ≤ (3) := (show B 1 3 (x3_3 + 1) from B_w (B_add b14 cqb_1_1_1 (by decide +kernel) (by decide +kernel)) (by decide +kernel) (by decide +kernel))
    exact hR4 ⟨rfl, (show B 0 12 (x2_2 + ((F 106 (F 74 x3_3.toNatClampNeg).toNatClampNeg) * (F 107 (F 74 x3_3.toNatClampNeg).toNatClampNeg))) from ⟨by omega, by omega⟩), (B_w (B_add b14 cqb_1_1_1 (by decide +kernel) (by decide +kernel)) (by decide +kernel) (by decide +kernel)), rfl, (by show (x2_2 + ((F 106 (F 74 x3_3.toNatClampNeg).toNatClampNeg) * (F 107 (F 74 x3_3.toNatClampNeg).toNatClampNeg))).toInt ≤ (4 * (x3_3 + 1).toInt); first | with_reducible assumption | omega)⟩ (by show (3 - (x3_3 + 1).toInt).toNat < (3 - x3_3.toInt).toNat; omega)
set_option maxRecDepth 20000 in
set_option maxHeartbeats 4000000 in
theorem h_Sc_addBlock_u73_a1 {b : Bool} {P : Nat → Nat → Nat} {x1 : Int32} {x2 : Int32} {F : cF} {L : cL} {K : cs → Prop} (b_x1 : B 0 2 x1) (b_x2 : B 0 63 x2) (hI : IMc F) (pre0 : qf (F 77) 0 (F 73 6).toInt 0 ((64 * (F 105 2).toInt) - 1)) (pre1 : x1.toInt < (F 105 2).toInt) (pre2 : ZQ F) (pre3 : cz x1 F) (hK : ∀ {Z : cF} {LZ : cL}, IMc Z → agc [7306] [77] F Z → (qf (Z 77) 0 (Z 73 6).toInt 0 ((64 * (Z 105 2).toInt) - 1)) → (ZQ Z) → K (Z, LZ, PC true b P)) : p_Sc_addBlock UL 73 x1 x2 (F, L, PC true b P) K := by
  have q1 : (0) ≤ (F 73 6).toInt ∧ (F 73 6).toInt ≤ (192) := (show B 0 192 (F 73 6) from hI 73 6)
  have q2 : (0) ≤ (x1).toInt ∧ (x1).toInt ≤ (2) := (show B 0 2 (x1) from B_w b_x1 (by decide +kernel) (by decide +kernel))
  have q3 : (1) ≤ (F 105 2).toInt ∧ (F 105 2).toInt ≤ (3) := (show B 1 3 (F 105 2) from hI 105 2)
  unfold p_Sc_addBlock
  refine ⟨(show ¬ ((77 : Nat) = NU) from by decide +kernel), ?_⟩
  refine ⟨(show c_cl UL 77 = 902 from cl_77), ?_⟩
  refine ⟨fun hc => ?_, fun hc => ?_⟩
  · have hq4 := hc
    have b5 : B 192 192 (F 73 6) := B_w (B_leR cqb_192_192_192 (show B 0 192 (F 73 6) from hI 73 6) hq4) (by decide +kernel) (by decide +kernel)
    have q6 : (192) ≤ (F 73 6).toInt ∧ (F 73 6).toInt ≤ (192) := (show B 192 192 (F 73 6) from B_w b5 (by decide +kernel) (by decide +kernel))
    unfold b_Sc_addBlock_37
    exact hK hI (agc_refl (fs := [7306]) (rs := [77]) (F := F)) (qf_le (b' := (F 73 6).toInt) (lo' := 0) (hi' := (64 * (F 105 2).toInt) - 1) pre0 (by omega) (by omega) (by omega)) pre2
  · have hq7 := (nle_lt hc)
    have b8 : B 0 191 (F 73 6) := B_w (B_ltL (show B 0 192 (F 73 6) from hI 73 6) cqb_192_192_192 hq7) (by decide +kernel) (by decide +kernel)
    have q9 : (0) ≤ (F 73 6).toInt ∧ (F 73 6).toInt ≤ (191) := (show B 0 191 (F 73 6) from B_w b8 (by decide +kernel) (by decide +kernel))
    refine ⟨(show ¬ ((77 : Nat) = NU) from by decide +kernel), ?_⟩
    refine ⟨(show vp_in (F 73 6) 192 from vp_B b8 (by decide +kernel) (by decide +kernel)), ?_⟩
    unfold b_Sc_addBlock_37
    have hI10 := IMc_u (u := 77) (i := (F 73 6).toNatClampNeg) (v := (64 * x1) + x2) hI (show B 0 191 ((64 * x1) + x2) from (B_w (B_add (B_mul cqb_64_64_64 b_x1 (by decide +kernel) (by decide +kernel) (by decide +kernel)) b_x2 (by decide +kernel) (by decide +kernel)) (by decide +kernel) (by decide +kernel)))
    have hI11 := IMc_u (u := 73) (i := 6) (v := (F 73 6) + 1) hI10 (show B 0 192 ((F 73 6) + 1) from (B_w (B_add b8 cqb_1_1_1 (by decide +kernel) (by decide +kernel)) (by decide +kernel) (by decide +kernel)))
    have g13 := agc_r (u := 77) (w := upd (F 77) (F 73 6).toNatClampNeg ((64 * x1) + x2)) (agc_refl (fs := [7306]) (rs := [77]) (F := F)) rfl (by decide +kernel)
    have g12 := agc_f (u := 73) (k := 6) (v := (F 73 6) + 1) g13 rfl (by decide +kernel)
    have e14 : ((F 73 6) + 1).toInt = ((F 73 6).toInt + 1) := (t_add b8 cqb_1_1_1 (by decide +kernel) (by decide +kernel)).trans (by rw [cqn_1])
    have q15 : (1) ≤ ((F 73 6) + 1).toInt ∧ ((F 73 6) + 1).toInt ≤ (192) := (show B 1 192 ((F 73 6) + 1) from B_w (B_add b8 cqb_1_1_1 (by decide +kernel) (by decide +kernel)) (by decide +kernel) (by decide +kernel))
    have e16 : (64 * x1).toInt = (64 * (x1).toInt) := (t_mul cqb_64_64_64 b_x1 (by decide +kernel) (by decide +kernel) (by decide +kernel)).trans (by rw [cqn_64])
    have q17 : (0) ≤ (64 * x1).toInt ∧ (64 * x1).toInt ≤ (128) := (show B 0 128 (64 * x1) from B_w (B_mul cqb_64_64_64 b_x1 (by decide +kernel) (by decide +kernel) (by decide +kernel)) (by decide +kernel) (by decide +kernel))
    have q18 : (0) ≤ (x2).toInt ∧ (x2).toInt ≤ (63) := (show B 0 63 (x2) from B_w b_x2 (by decide +kernel) (by decide +kernel))
    have e19 : ((64 * x1) + x2).toInt = ((64 * (x1).toInt) + (x2).toInt) := (t_add (B_mul cqb_64_64_64 b_x1 (by decide +kernel) (by decide +kernel) (by decide +kernel)) b_x2 (by decide +kernel) (by decide +kernel)).trans (by rw [e16])
    have q20 : (0) ≤ ((64 * x1) + x2).toInt ∧ ((64 * x1) + x2).toInt ≤ (191) := (show B 0 191 ((64 * x1) + x2) from B_w (B_add (B_mul cqb_64_64_64 b_x1 (by decide +kernel) (by decide +kernel) (by decide +kernel)) b_x2 (by decide +kernel) (by decide +kernel)) (by decide +kernel) (by decide +kernel))
    exact hK hI11 g12 (qf_le (b' := ((F 73 6) + 1).toInt) (lo' := 0) (hi' := (64 * (F 105 2).toInt) - 1) (qf_ext (x := F 73 6) (b' := ((F 73 6) + 1).toInt) (qf_le (b' := (F 73 6).toInt) (lo' := 0) (hi' := (64 * (F 105 2).toInt) - 1) pre0 (by omega) (by omega) (by omega)) (fun _ => ⟨by omega, by omega⟩) (by omega) (by omega) (by omega)) (by omega) (by omega) (by omega)) (ZQ_up (F := F) (G := va_up (va_up F 77 (upd (F 77) (F 73 6).toNatClampNeg ((64 * x1) + x2))) 73 (upd (F 73) 6 ((F 73 6) + 1))) pre2 pre3 hI g12 (by decide +kernel) rfl (by show ((F 73 6) + 1).toInt = _; first | with_reducible assumption | omega) b_x1 b_x2)
set_option maxRecDepth 20000 in
set_option maxHeartbeats 4000000 in
theorem h_Sc_addStretch_u73_x1105_a1 {b : Bool} {P : Nat → Nat → Nat} {x2 : Int32} {x3 : Int32} {x4 : Int32} {F : cF} {L : cL} {K : cs → Prop} (b_x2 : B 0 2 x2) (b_x3 : B 0 7 x3) (b_x4 : B 0 7 x4) (hI : IMc F) (pre0 : qf (F 77) 0 (F 73 6).toInt 0 ((64 * (F 105 2).toInt) - 1)) (pre1 : x2.toInt < (F 105 2).toInt) (pre2 : x3.toInt < (F 105 7).toInt) (pre3 : x4.toInt < (F 105 8).toInt) (pre4 : qf (F 106) 0 (F 105 2).toInt 1 (F 105 5).toInt) (pre5 : qf (F 107) 0 (F 105 2).toInt 1 (F 105 6).toInt) (pre6 : ((F 105 5).toInt = 1) ∨ ((F 105 7).toInt ≤ 4)) (pre7 : ((F 105 6).toInt = 1) ∨ ((F 105 8).toInt ≤ 4)) (pre8 : ZQ F) (pre9 : cz x2 F) (hK : ∀ {Z : cF} {LZ : cL}, IMc Z → agc [7306] [77, 999] F Z → (qf (Z 77) 0 (Z 73 6).toInt 0 ((64 * (Z 105 2).toInt) - 1)) → (ZQ Z) → K (Z, LZ, PC true b P)) : p_Sc_addStretch UL 73 105 x2 x3 x4 (F, L, PC true b P) K := by
  have q1 : (0) ≤ (F 73 6).toInt ∧ (F 73 6).toInt ≤ (192) := (show B 0 192 (F 73 6) from hI 73 6)
  have q2 : (0) ≤ (x2).toInt ∧ (x2).toInt ≤ (2) := (show B 0 2 (x2) from B_w b_x2 (by decide +kernel) (by decide +kernel))
  have q3 : (1) ≤ (F 105 2).toInt ∧ (F 105 2).toInt ≤ (3) := (show B 1 3 (F 105 2) from hI 105 2)
  have q4 : (0) ≤ (x3).toInt ∧ (x3).toInt ≤ (7) := (show B 0 7 (x3) from B_w b_x3 (by decide +kernel) (by decide +kernel))
  have q5 : (1) ≤ (F 105 7).toInt ∧ (F 105 7).toInt ≤ (8) := (show B 1 8 (F 105 7) from hI 105 7)
  have q6 : (0) ≤ (x4).toInt ∧ (x4).toInt ≤ (7) := (show B 0 7 (x4) from B_w b_x4 (by decide +kernel) (by decide +kernel))
  have q7 : (1) ≤ (F 105 8).toInt ∧ (F 105 8).toInt ≤ (8) := (show B 1 8 (F 105 8) from hI 105 8)
  have q8 : (1) ≤ (F 105 5).toInt ∧ (F 105 5).toInt ≤ (2) := (show B 1 2 (F 105 5) from hI 105 5)
  have q9 : (1) ≤ (F 105 6).toInt ∧ (F 105 6).toInt ≤ (2) := (show B 1 2 (F 105 6) from hI 105 6)
  unfold p_Sc_addStretch
  rcases sp_12 (show B 1 2 (F 105 5) from hI 105 5) with hcs | hcs
  · have b10 : B 1 1 (F 105 5) := B_eq hcs cqb_1_1_1
    have q11 : (1) ≤ (F 105 5).toInt ∧ (F 105 5).toInt ≤ (1) := (show B 1 1 (F 105 5) from B_w b10 (by decide +kernel) (by decide +kernel))
    rcases sp_12 (show B 1 2 (F 105 6) from hI 105 6) with hcs | hcs
    · have b12 : B 1 1 (F 105 6) := B_eq hcs cqb_1_1_1
      have q13 : (1) ≤ (F 105 6).toInt ∧ (F 105 6).toInt ≤ (1) := (show B 1 1 (F 105 6) from B_w b12 (by decide +kernel) (by decide +kernel))
      refine ⟨(show c_cl UL 105 = 7 from cl_105), ?_⟩
      refine ⟨(show ¬ ((106 : Nat) = NU) from by decide +kernel), ?_⟩
      refine ⟨(show c_cl UL 106 = 902 from cl_106), ?_⟩
      refine ⟨(show vp_in (x2) 3 from vp_B b_x2 (by decide +kernel) (by decide +kernel)), ?_⟩
      refine ⟨(show ¬ ((107 : Nat) = NU) from by decide +kernel), ?_⟩
      refine ⟨(show c_cl UL 107 = 902 from cl_107), ?_⟩
      refine ⟨(show vp_in (x2) 3 from vp_B b_x2 (by decide +kernel) (by decide +kernel)), ?_⟩
      refine ⟨fun yx1 yx2 yx5 yx6 yx7 yS => (105 : Nat) = yx1 ∧ x2 = yx2 ∧ (x3 * (F 106 x2.toNatClampNeg)) = yx5 ∧ (x4 * (F 107 x2.toNatClampNeg)) = yx6 ∧ B 0 2 yx7 ∧ ∃ (T19 : cF) (LT19 : cL), yS = (T19, LT19, PC true b P) ∧ IMc T19 ∧ agc [7306] [77, 999] F T19 ∧ (qf (T19 77) 0 (T19 73 6).toInt 0 ((64 * (T19 105 2).toInt) - 1)) ∧ (ZQ T19), fun yx1 yx2 yx5 yx6 yx7 yS => (2 - yx7.toInt).toNat, ⟨rfl, rfl, rfl, rfl, (B_w cqb_0_0_0 (by decide +kernel) (by decide +kernel)), _, _, rfl, hI, (agc_refl (fs := [7306]) (rs := [77, 999]) (F := F)), (qf_le (b' := (F 73 6).toInt) (lo' := 0) (hi' := (64 * (F 105 2).toInt) - 1) pre0 (by omega) (by omega) (by omega)), pre8⟩, fun x1_14 x2_15 x5_16 x6_17 x7_18 ST19 hIv => ?_⟩
      obtain ⟨rfl, rfl, rfl, rfl, b20, T19, LT19, rfl, hI21, g22, r23, r24⟩ := hIv
      suffices hs : ∀ (R24 : Nat → Int32 → Int32 → Int32 → Int32 → cs → Prop), (∀ zx1 zx2 zx5 zx6 zx7 zS, ((105 : Nat) = zx1 ∧ x2 = zx2 ∧ (x3 * (F 106 x2.toNatClampNeg)) = zx5 ∧ (x4 * (F 107 x2.toNatClampNeg)) = zx6 ∧ B 0 2 zx7 ∧ ∃ (T19 : cF) (LT19 : cL), zS = (T19, LT19, PC true b P) ∧ IMc T19 ∧ agc [7306] [77, 999] F T19 ∧ (qf (T19 77) 0 (T19 73 6).toInt 0 ((64 * (T19 105 2).toInt) - 1)) ∧ (ZQ T19)) → (2 - zx7.toInt).toNat < (2 - x7_18.toInt).toNat → R24 zx1 zx2 zx5 zx6 zx7 zS) → b_Sc_addStretch_24 UL 73 105 x2 (x3 * (F 106 x2.toNatClampNeg)) (x4 * (F 107 x2.toNatClampNeg)) x7_18 (T19, LT19, PC true b P) R24 K from hs _ (fun _ _ _ _ _ _ h1 h2 => ⟨h1, h2⟩)
      intro R24 hR240
      have hR24 := fun {zx1} {zx2} {zx5} {zx6} {zx7} {zS} => hR240 zx1 zx2 zx5 zx6 zx7 zS
      have q25 : (0) ≤ (T19 73 6).toInt ∧ (T19 73 6).toInt ≤ (192) := (show B 0 192 (T19 73 6) from hI21 73 6)
      unfold b_Sc_addStretch_24
      refine ⟨(show c_cl UL 105 = 7 from cl_105), ?_⟩
      refine ⟨(show ¬ ((107 : Nat) = NU) from by decide +kernel), ?_⟩
      refine ⟨(show c_cl UL 107 = 902 from cl_107), ?_⟩
      refine ⟨(show vp_in (x2) 3 from vp_B b_x2 (by decide +kernel) (by decide +kernel)), ?_⟩
      refine ⟨fun hc => ?_, fun hc => ?_⟩
      · have r26 : 1 ≤ (F 107 x2.toNatClampNeg).toInt ∧ (F 107 x2.toNatClampNeg).toInt ≤ (F 105 6).toInt := qf_at pre5 (x := x2) (by omega) (by omega)
        have b27 : B 1 1 (F 107 x2.toNatClampNeg) := ⟨by omega, by omega⟩
        have hq28 := hc
        have b29 : B 1 2 (x7_18) := B_w (B_leR (B_eq (congrFun (g22.2 107 rfl rfl) x2.toNatClampNeg) b27) b20 hq28) (by decide +kernel) (by decide +kernel)
        have q30 : (1) ≤ (F 107 x2.toNatClampNeg).toInt ∧ (F 107 x2.toNatClampNeg).toInt ≤ (1) := (show B 1 1 (F 107 x2.toNatClampNeg) from B_w b27 (by decide +kernel) (by decide +kernel))
        have e31 : (T19 107 x2.toNatClampNeg).toInt = (F 107 x2.toNatClampNeg).toInt := (congrArg Int32.toInt (congrFun (g22.2 107 rfl rfl) x2.toNatClampNeg)).trans rfl
        have q32 : (1) ≤ (x7_18).toInt ∧ (x7_18).toInt ≤ (2) := (show B 1 2 (x7_18) from B_w b29 (by decide +kernel) (by decide +kernel))
        have i33 : (T19 107 x2.toNatClampNeg).toInt ≤ (x7_18).toInt := i_le hq28
        have g34 := agc_tr (agc_refl (fs := [7306]) (rs := [77, 999]) (F := F)) g22 (by decide +kernel) (by decide +kernel)
        have e35 : (T19 105 2).toInt = (F 105 2).toInt := (congrArg Int32.toInt (g22.1 105 2 rfl rfl)).trans rfl
        exact hK hI21 g34 (qf_le (b' := (T19 73 6).toInt) (lo' := 0) (hi' := (64 * (T19 105 2).toInt) - 1) r23 (by omega) (by omega) (by omega)) r24
      · have r36 : 1 ≤ (F 107 x2.toNatClampNeg).toInt ∧ (F 107 x2.toNatClampNeg).toInt ≤ (F 105 6).toInt := qf_at pre5 (x := x2) (by omega) (by omega)
        have b37 : B 1 1 (F 107 x2.toNatClampNeg) := ⟨by omega, by omega⟩
        have hq38 := (nle_lt hc)
        have b39 : B 0 0 (x7_18) := B_w (B_ltL b20 (B_eq (congrFun (g22.2 107 rfl rfl) x2.toNatClampNeg) b37) hq38) (by decide +kernel) (by decide +kernel)
        have q40 : (0) ≤ (x7_18).toInt ∧ (x7_18).toInt ≤ (0) := (show B 0 0 (x7_18) from B_w b39 (by decide +kernel) (by decide +kernel))
        have q41 : (1) ≤ (F 107 x2.toNatClampNeg).toInt ∧ (F 107 x2.toNatClampNeg).toInt ≤ (1) := (show B 1 1 (F 107 x2.toNatClampNeg) from B_w b37 (by decide +kernel) (by decide +kernel))
        have e42 : (T19 107 x2.toNatClampNeg).toInt = (F 107 x2.toNatClampNeg).toInt := (congrArg Int32.toInt (congrFun (g22.2 107 rfl rfl) x2.toNatClampNeg)).trans rfl
        have i43 : (x7_18).toInt < (T19 107 x2.toNatClampNeg).toInt := i_lt hq38
        have e54 : (T19 105 2).toInt = (F 105 2).toInt := (congrArg Int32.toInt (g22.1 105 2 rfl rfl)).trans rfl
        refine ⟨fun yx1 yx2 yx5 yx6 yx7 yx8 yS => (105 : Nat) = yx1 ∧ x2 = yx2 ∧ (x3 * (F 106 x2.toNatClampNeg)) = yx5 ∧ (x4 * (F 107 x2.toNatClampNeg)) = yx6 ∧ x7_18 = yx7 ∧ B 0 2 yx8 ∧ ∃ (T50 : cF) (LT50 : cL), yS = (T50, LT50, PC true b P) ∧ IMc T50 ∧ agc [7306] [77, 999] T19 T50 ∧ (qf (T50 77) 0 (T50 73 6).toInt 0 ((64 * (T50 105 2).toInt) - 1)) ∧ (ZQ T50), fun yx1 yx2 yx5 yx6 yx7 yx8 yS => (2 - yx8.toInt).toNat, ⟨rfl, rfl, rfl, rfl, rfl, (B_w cqb_0_0_0 (by decide +kernel) (by decide +kernel)), _, _, rfl, hI21, (agc_refl (fs := [7306]) (rs := [77, 999]) (F := T19)), (qf_le (b' := (T19 73 6).toInt) (lo' := 0) (hi' := (64 * (T19 105 2).toInt) - 1) r23 (by omega) (by omega) (by omega)), r24⟩, fun x1_44 x2_45 x5_46 x6_47 x7_48 x8_49 ST50 hIv => ?_⟩
        obtain ⟨rfl, rfl, rfl, rfl, rfl, b51, T50, LT50, rfl, hI52, g53, r55, r56⟩ := hIv
        suffices hs : ∀ (R38 : Nat → Int32 → Int32 → Int32 → Int32 → Int32 → cs → Prop), (∀ zx1 zx2 zx5 zx6 zx7 zx8 zS, ((105 : Nat) = zx1 ∧ x2 = zx2 ∧ (x3 * (F 106 x2.toNatClampNeg)) = zx5 ∧ (x4 * (F 107 x2.toNatClampNeg)) = zx6 ∧ x7_18 = zx7 ∧ B 0 2 zx8 ∧ ∃ (T50 : cF) (LT50 : cL), zS = (T50, LT50, PC true b P) ∧ IMc T50 ∧ agc [7306] [77, 999] T19 T50 ∧ (qf (T50 77) 0 (T50 73 6).toInt 0 ((64 * (T50 105 2).toInt) - 1)) ∧ (ZQ T50)) → (2 - zx8.toInt).toNat < (2 - x8_49.toInt).toNat → R38 zx1 zx2 zx5 zx6 zx7 zx8 zS) → b_Sc_addStretch_38 UL 73 105 x2 (x3 * (F 106 x2.toNatClampNeg)) (x4 * (F 107 x2.toNatClampNeg)) x7_18 x8_49 (T50, LT50, PC true b P) R24 R38 K from hs _ (fun _ _ _ _ _ _ _ h1 h2 => ⟨h1, h2⟩)
        intro R38 hR380
        have hR38 := fun {zx1} {zx2} {zx5} {zx6} {zx7} {zx8} {zS} => hR380 zx1 zx2 zx5 zx6 zx7 zx8 zS
        have q57 : (0) ≤ (T50 73 6).toInt ∧ (T50 73 6).toInt ≤ (192) := (show B 0 192 (T50 73 6) from hI52 73 6)
        unfold b_Sc_addStretch_38
        refine ⟨(show c_cl UL 105 = 7 from cl_105), ?_⟩
        refine ⟨(show ¬ ((106 : Nat) = NU) from by decide +kernel), ?_⟩
        refine ⟨(show c_cl UL 106 = 902 from cl_106), ?_⟩
        refine ⟨(show vp_in (x2) 3 from vp_B b_x2 (by decide +kernel) (by decide +kernel)), ?_⟩
        refine ⟨fun hc => ?_, fun hc => ?_⟩
        · have r58 : 1 ≤ (F 106 x2.toNatClampNeg).toInt ∧ (F 106 x2.toNatClampNeg).toInt ≤ (F 105 5).toInt := qf_at pre4 (x := x2) (by omega) (by omega)
          have b59 : B 1 1 (F 106 x2.toNatClampNeg) := ⟨by omega, by omega⟩
          have hq60 := hc
          have b61 : B 1 2 (x8_49) := B_w (B_leR (B_eq ((congrFun (g53.2 106 rfl rfl) x2.toNatClampNeg).trans (congrFun (g22.2 106 rfl rfl) x2.toNatClampNeg)) b59) b51 hq60) (by decide +kernel) (by decide +kernel)
          have q62 : (1) ≤ (F 106 x2.toNatClampNeg).toInt ∧ (F 106 x2.toNatClampNeg).toInt ≤ (1) := (show B 1 1 (F 106 x2.toNatClampNeg) from B_w b59 (by decide +kernel) (by decide +kernel))
          have e63 : (T50 106 x2.toNatClampNeg).toInt = (F 106 x2.toNatClampNeg).toInt := (congrArg Int32.toInt ((congrFun (g53.2 106 rfl rfl) x2.toNatClampNeg).trans (congrFun (g22.2 106 rfl rfl) x2.toNatClampNeg))).trans rfl
          have q64 : (1) ≤ (x8_49).toInt ∧ (x8_49).toInt ≤ (2) := (show B 1 2 (x8_49) from B_w b61 (by decide +kernel) (by decide +kernel))
          have i65 : (T50 106 x2.toNatClampNeg).toInt ≤ (x8_49).toInt := i_le hq60
          have g67 := agc_tr (agc_refl (fs := [7306]) (rs := [77, 999]) (F := F)) g22 (by decide +kernel) (by decide +kernel)
          have g66 := agc_tr g67 g53 (by decide +kernel) (by decide +kernel)
          have e68 : (T50 105 2).toInt = (F 105 2).toInt := (congrArg Int32.toInt ((g53.1 105 2 rfl rfl).trans (g22.1 105 2 rfl rfl))).trans rfl
          have e69 : (x7_18 + 1).toInt = ((x7_18).toInt + 1) := (t_add b39 cqb_1_1_1 (by decide +kernel) (by decide +kernel)).trans (by rw [cqn_1])
          have q70 : (1) ≤ (x7_18 + 1).toInt ∧ (x7_18 + 1).toInt ≤ (1) := (show B 1 1 (x7_18 + 1) from B_w (B_add b39 cqb_1_1_1 (by decide +kernel) (by decide +kernel)) (by decide +kernel) (by decide +kernel))
          exact hR24 ⟨rfl, rfl, rfl, rfl, (B_w (B_add b39 cqb_1_1_1 (by decide +kernel) (by decide +kernel)) (by decide +kernel) (by decide +kernel)), _, _, rfl, hI52, g66, (qf_le (b' := (T50 73 6).toInt) (lo' := 0) (hi' := (64 * (T50 105 2).toInt) - 1) r55 (by omega) (by omega) (by omega)), r56⟩ (by show (2 - (x7_18 + 1).toInt).toNat < (2 - x7_18.toInt).toNat; omega)
        · have r71 : 1 ≤ (F 106 x2.toNatClampNeg).toInt ∧ (F 106 x2.toNatClampNeg).toInt ≤ (F 105 5).toInt := qf_at pre4 (x := x2) (by omega) (by omega)
          have b72 : B 1 1 (F 106 x2.toNatClampNeg) := ⟨by omega, by omega⟩
          have hq73 := (nle_lt hc)
          have b74 : B 0 0 (x8_49) := B_w (B_ltL b51 (B_eq ((congrFun (g53.2 106 rfl rfl) x2.toNatClampNeg).trans (congrFun (g22.2 106 rfl rfl) x2.toNatClampNeg)) b72) hq73) (by decide +kernel) (by decide +kernel)
          have q75 : (0) ≤ (x8_49).toInt ∧ (x8_49).toInt ≤ (0) := (show B 0 0 (x8_49) from B_w b74 (by decide +kernel) (by decide +kernel))
          have q76 : (1) ≤ (F 106 x2.toNatClampNeg).toInt ∧ (F 106 x2.toNatClampNeg).toInt ≤ (1) := (show B 1 1 (F 106 x2.toNatClampNeg) from B_w b72 (by decide +kernel) (by decide +kernel))
          have e77 : (T50 106 x2.toNatClampNeg).toInt = (F 106 x2.toNatClampNeg).toInt := (congrArg Int32.toInt ((congrFun (g53.2 106 rfl rfl) x2.toNatClampNeg).trans (congrFun (g22.2 106 rfl rfl) x2.toNatClampNeg))).trans rfl
          have i78 : (x8_49).toInt < (T50 106 x2.toNatClampNeg).toInt := i_lt hq73
          refine ⟨(show ¬ ((110 : Nat) = NU) from by decide +kernel), ?_⟩
          refine ⟨(show c_cl UL 110 = 902 from cl_110), ?_⟩
          refine ⟨(show vp_in (x2) 3 from vp_B b_x2 (by decide +kernel) (by decide +kernel)), ?_⟩
          have e79 : (T50 105 2).toInt = (F 105 2).toInt := (congrArg Int32.toInt ((g53.1 105 2 rfl rfl).trans (g22.1 105 2 rfl rfl))).trans rfl
          have g81 := agc_tr (agc_refl (fs := [7306]) (rs := [77, 999]) (F := F)) g22 (by decide +kernel) (by decide +kernel)
          have g80 := agc_tr g81 g53 (by decide +kernel) (by decide +kernel)
          refine h_Sc_addBlock_u73_a1 b_x2 (B_w (B_add (B_add (B_mul (B_add (B_mul b_x4 b37 (by decide +kernel) (by decide +kernel) (by decide +kernel)) b39 (by decide +kernel) (by decide +kernel)) (B_eq ((congrFun (g53.2 110 rfl rfl) x2.toNatClampNeg).trans (congrFun (g22.2 110 rfl rfl) x2.toNatClampNeg)) (show B 0 8 (F 110 x2.toNatClampNeg) from hI 110 x2.toNatClampNeg)) (by decide +kernel) (by decide +kernel) (by decide +kernel)) (B_mul b_x3 b72 (by decide +kernel) (by decide +kernel) (by decide +kernel)) (by decide +kernel) (by decide +kernel)) b74 (by decide +kernel) (by decide +kernel)) (by decide +kernel) (by decide +kernel)) hI52 (qf_le (b' := (T50 73 6).toInt) (lo' := 0) (hi' := (64 * (T50 105 2).toInt) - 1) r55 (by omega) (by omega) (by omega)) (by show x2.toInt < (T50 105 2).toInt; first | with_reducible assumption | omega) r56 (cz_ag (F := F) (G := T50) pre9 hI g80 (by decide +kernel)) (fun {FS69_82} {LFS69_82} hI83 g84 r85 r86 => ?_)
          have r87 : qf (FS69_82 77) 0 (FS69_82 73 6).toInt 0 ((64 * (FS69_82 105 2).toInt) - 1) := r85
          clear r85
          have q88 : (0) ≤ (FS69_82 73 6).toInt ∧ (FS69_82 73 6).toInt ≤ (192) := (show B 0 192 (FS69_82 73 6) from hI83 73 6)
          have r89 : ZQ FS69_82 := r86
          clear r86
          have g91 := agc_tr (agc_refl (fs := [7306]) (rs := [77, 999]) (F := T19)) g53 (by decide +kernel) (by decide +kernel)
          have g90 := agc_tr g91 g84 (by decide +kernel) (by decide +kernel)
          have e92 : (FS69_82 105 2).toInt = (F 105 2).toInt := (congrArg Int32.toInt (((g84.1 105 2 rfl rfl).trans (g53.1 105 2 rfl rfl)).trans (g22.1 105 2 rfl rfl))).trans rfl
          have e93 : (x8_49 + 1).toInt = ((x8_49).toInt + 1) := (t_add b74 cqb_1_1_1 (by decide +kernel) (by decide +kernel)).trans (by rw [cqn_1])
          have q94 : (1) ≤ (x8_49 + 1).toInt ∧ (x8_49 + 1).toInt ≤ (1) := (show B 1 1 (x8_49 + 1) from B_w (B_add b74 cqb_1_1_1 (by decide +kernel) (by decide +kernel)) (by decide +kernel) (by decide +kernel))
          exact hR38 ⟨rfl, rfl, rfl, rfl, rfl, (B_w (B_add b74 cqb_1_1_1 (by decide +kernel) (by decide +kernel)) (by decide +kernel) (by decide +kernel)), _, _, rfl, hI83, g90, (qf_le (b' := (FS69_82 73 6).toInt) (lo' := 0) (hi' := (64 * (FS69_82 105 2).toInt) - 1) r87 (by omega) (by omega) (by omega)), r89⟩ (by show (2 - (x8_49 + 1).toInt).toNat < (2 - x8_49.toInt).toNat; omega)
    · have b95 : B 2 2 (F 105 6) := B_eq hcs cqb_2_2_2
      have q96 : (2) ≤ (F 105 6).toInt ∧ (F 105 6).toInt ≤ (2) := (show B 2 2 (F 105 6) from B_w b95 (by decide +kernel) (by decide +kernel))
      have b97 : B 0 3 (x4) := ⟨by omega, by omega⟩
      refine ⟨(show c_cl UL 105 = 7 from cl_105), ?_⟩
      refine ⟨(show ¬ ((106 : Nat) = NU) from by decide +kernel), ?_⟩
      refine ⟨(show c_cl UL 106 = 902 from cl_106), ?_⟩
      refine ⟨(show vp_in (x2) 3 from vp_B b_x2 (by decide +kernel) (by decide +kernel)), ?_⟩
      refine ⟨(show ¬ ((107 : Nat) = NU) from by decide +kernel), ?_⟩
      refine ⟨(show c_cl UL 107 = 902 from cl_107), ?_⟩
      refine ⟨(show vp_in (x2) 3 from vp_B b_x2 (by decide +kernel) (by decide +kernel)), ?_⟩
      refine ⟨fun yx1 yx2 yx5 yx6 yx7 yS => (105 : Nat) = yx1 ∧ x2 = yx2 ∧ (x3 * (F 106 x2.toNatClampNeg)) = yx5 ∧ (x4 * (F 107 x2.toNatClampNeg)) = yx6 ∧ B 0 2 yx7 ∧ ∃ (T103 : cF) (LT103 : cL), yS = (T103, LT103, PC true b P) ∧ IMc T103 ∧ agc [7306] [77, 999] F T103 ∧ (qf (T103 77) 0 (T103 73 6).toInt 0 ((64 * (T103 105 2).toInt) - 1)) ∧ (ZQ T103), fun yx1 yx2 yx5 yx6 yx7 yS => (2 - yx7.toInt).toNat, ⟨rfl, rfl, rfl, rfl, (B_w cqb_0_0_0 (by decide +kernel) (by decide +kernel)), _, _, rfl, hI, (agc_refl (fs := [7306]) (rs := [77, 999]) (F := F)), (qf_le (b' := (F 73 6).toInt) (lo' := 0) (hi' := (64 * (F 105 2).toInt) - 1) pre0 (by omega) (by omega) (by omega)), pre8⟩, fun x1_98 x2_99 x5_100 x6_101 x7_102 ST103 hIv => ?_⟩
      obtain ⟨rfl, rfl, rfl, rfl, b104, T103, LT103, rfl, hI105, g106, r107, r108⟩ := hIv
      suffices hs : ∀ (R24 : Nat → Int32 → Int32 → Int32 → Int32 → cs → Prop), (∀ zx1 zx2 zx5 zx6 zx7 zS, ((105 : Nat) = zx1 ∧ x2 = zx2 ∧ (x3 * (F 106 x2.toNatClampNeg)) = zx5 ∧ (x4 * (F 107 x2.toNatClampNeg)) = zx6 ∧ B 0 2 zx7 ∧ ∃ (T103 : cF) (LT103 : cL), zS = (T103, LT103, PC true b P) ∧ IMc T103 ∧ agc [7306] [77, 999] F T103 ∧ (qf (T103 77) 0 (T103 73 6).toInt 0 ((64 * (T103 105 2).toInt) - 1)) ∧ (ZQ T103)) → (2 - zx7.toInt).toNat < (2 - x7_102.toInt).toNat → R24 zx1 zx2 zx5 zx6 zx7 zS) → b_Sc_addStretch_24 UL 73 105 x2 (x3 * (F 106 x2.toNatClampNeg)) (x4 * (F 107 x2.toNatClampNeg)) x7_102 (T103, LT103, PC true b P) R24 K from hs _ (fun _ _ _ _ _ _ h1 h2 => ⟨h1, h2⟩)
      intro R24 hR240
      have hR24 := fun {zx1} {zx2} {zx5} {zx6} {zx7} {zS} => hR240 zx1 zx2 zx5 zx6 zx7 zS
      have q109 : (0) ≤ (T103 73 6).toInt ∧ (T103 73 6).toInt ≤ (192) := (show B 0 192 (T103 73 6) from hI105 73 6)
      unfold b_Sc_addStretch_24
      refine ⟨(show c_cl UL 105 = 7 from cl_105), ?_⟩
      refine ⟨(show ¬ ((107 : Nat) = NU) from by decide +kernel), ?_⟩
      refine ⟨(show c_cl UL 107 = 902 from cl_107), ?_⟩
      refine ⟨(show vp_in (x2) 3 from vp_B b_x2 (by decide +kernel) (by decide +kernel)), ?_⟩
      refine ⟨fun hc => ?_, fun hc => ?_⟩
      · have r110 : 1 ≤ (F 107 x2.toNatClampNeg).toInt ∧ (F 107 x2.toNatClampNeg).toInt ≤ (F 105 6).toInt := qf_at pre5 (x := x2) (by omega) (by omega)
        have hq111 := hc
        have b112 : B 1 2 (x7_102) := B_w (B_leR (B_eq (congrFun (g106.2 107 rfl rfl) x2.toNatClampNeg) (show B 1 2 (F 107 x2.toNatClampNeg) from sB_107 hI b_x2 (by decide +kernel) (by decide +kernel))) b104 hq111) (by decide +kernel) (by decide +kernel)
        have q113 : (1) ≤ (F 107 x2.toNatClampNeg).toInt ∧ (F 107 x2.toNatClampNeg).toInt ≤ (2) := (show B 1 2 (F 107 x2.toNatClampNeg) from sB_107 hI b_x2 (by decide +kernel) (by decide +kernel))
        have e114 : (T103 107 x2.toNatClampNeg).toInt = (F 107 x2.toNatClampNeg).toInt := (congrArg Int32.toInt (congrFun (g106.2 107 rfl rfl) x2.toNatClampNeg)).trans rfl
        have q115 : (1) ≤ (x7_102).toInt ∧ (x7_102).toInt ≤ (2) := (show B 1 2 (x7_102) from B_w b112 (by decide +kernel) (by decide +kernel))
        have i116 : (T103 107 x2.toNatClampNeg).toInt ≤ (x7_102).toInt := i_le hq111
        have g117 := agc_tr (agc_refl (fs := [7306]) (rs := [77, 999]) (F := F)) g106 (by decide +kernel) (by decide +kernel)
        have e118 : (T103 105 2).toInt = (F 105 2).toInt := (congrArg Int32.toInt (g106.1 105 2 rfl rfl)).trans rfl
        exact hK hI105 g117 (qf_le (b' := (T103 73 6).toInt) (lo' := 0) (hi' := (64 * (T103 105 2).toInt) - 1) r107 (by omega) (by omega) (by omega)) r108
      · have r119 : 1 ≤ (F 107 x2.toNatClampNeg).toInt ∧ (F 107 x2.toNatClampNeg).toInt ≤ (F 105 6).toInt := qf_at pre5 (x := x2) (by omega) (by omega)
        have hq120 := (nle_lt hc)
        have b121 : B 0 1 (x7_102) := B_w (B_ltL b104 (B_eq (congrFun (g106.2 107 rfl rfl) x2.toNatClampNeg) (show B 1 2 (F 107 x2.toNatClampNeg) from sB_107 hI b_x2 (by decide +kernel) (by decide +kernel))) hq120) (by decide +kernel) (by decide +kernel)
        have q122 : (0) ≤ (x7_102).toInt ∧ (x7_102).toInt ≤ (1) := (show B 0 1 (x7_102) from B_w b121 (by decide +kernel) (by decide +kernel))
        have q123 : (1) ≤ (F 107 x2.toNatClampNeg).toInt ∧ (F 107 x2.toNatClampNeg).toInt ≤ (2) := (show B 1 2 (F 107 x2.toNatClampNeg) from sB_107 hI b_x2 (by decide +kernel) (by decide +kernel))
        have e124 : (T103 107 x2.toNatClampNeg).toInt = (F 107 x2.toNatClampNeg).toInt := (congrArg Int32.toInt (congrFun (g106.2 107 rfl rfl) x2.toNatClampNeg)).trans rfl
        have i125 : (x7_102).toInt < (T103 107 x2.toNatClampNeg).toInt := i_lt hq120
        have e136 : (T103 105 2).toInt = (F 105 2).toInt := (congrArg Int32.toInt (g106.1 105 2 rfl rfl)).trans rfl
        refine ⟨fun yx1 yx2 yx5 yx6 yx7 yx8 yS => (105 : Nat) = yx1 ∧ x2 = yx2 ∧ (x3 * (F 106 x2.toNatClampNeg)) = yx5 ∧ (x4 * (F 107 x2.toNatClampNeg)) = yx6 ∧ x7_102 = yx7 ∧ B 0 2 yx8 ∧ ∃ (T132 : cF) (LT132 : cL), yS = (T132, LT132, PC true b P) ∧ IMc T132 ∧ agc [7306] [77, 999] T103 T132 ∧ (qf (T132 77) 0 (T132 73 6).toInt 0 ((64 * (T132 105 2).toInt) - 1)) ∧ (ZQ T132), fun yx1 yx2 yx5 yx6 yx7 yx8 yS => (2 - yx8.toInt).toNat, ⟨rfl, rfl, rfl, rfl, rfl, (B_w cqb_0_0_0 (by decide +kernel) (by decide +kernel)), _, _, rfl, hI105, (agc_refl (fs := [7306]) (rs := [77, 999]) (F := T103)), (qf_le (b' := (T103 73 6).toInt) (lo' := 0) (hi' := (64 * (T103 105 2).toInt) - 1) r107 (by omega) (by omega) (by omega)), r108⟩, fun x1_126 x2_127 x5_128 x6_129 x7_130 x8_131 ST132 hIv => ?_⟩
        obtain ⟨rfl, rfl, rfl, rfl, rfl, b133, T132, LT132, rfl, hI134, g135, r137, r138⟩ := hIv
        suffices hs : ∀ (R38 : Nat → Int32 → Int32 → Int32 → Int32 → Int32 → cs → Prop), (∀ zx1 zx2 zx5 zx6 zx7 zx8 zS, ((105 : Nat) = zx1 ∧ x2 = zx2 ∧ (x3 * (F 106 x2.toNatClampNeg)) = zx5 ∧ (x4 * (F 107 x2.toNatClampNeg)) = zx6 ∧ x7_102 = zx7 ∧ B 0 2 zx8 ∧ ∃ (T132 : cF) (LT132 : cL), zS = (T132, LT132, PC true b P) ∧ IMc T132 ∧ agc [7306] [77, 999] T103 T132 ∧ (qf (T132 77) 0 (T132 73 6).toInt 0 ((64 * (T132 105 2).toInt) - 1)) ∧ (ZQ T132)) → (2 - zx8.toInt).toNat < (2 - x8_131.toInt).toNat → R38 zx1 zx2 zx5 zx6 zx7 zx8 zS) → b_Sc_addStretch_38 UL 73 105 x2 (x3 * (F 106 x2.toNatClampNeg)) (x4 * (F 107 x2.toNatClampNeg)) x7_102 x8_131 (T132, LT132, PC true b P) R24 R38 K from hs _ (fun _ _ _ _ _ _ _ h1 h2 => ⟨h1, h2⟩)
        intro R38 hR380
        have hR38 := fun {zx1} {zx2} {zx5} {zx6} {zx7} {zx8} {zS} => hR380 zx1 zx2 zx5 zx6 zx7 zx8 zS
        have q139 : (0) ≤ (T132 73 6).toInt ∧ (T132 73 6).toInt ≤ (192) := (show B 0 192 (T132 73 6) from hI134 73 6)
        unfold b_Sc_addStretch_38
        refine ⟨(show c_cl UL 105 = 7 from cl_105), ?_⟩
        refine ⟨(show ¬ ((106 : Nat) = NU) from by decide +kernel), ?_⟩
        refine ⟨(show c_cl UL 106 = 902 from cl_106), ?_⟩
        refine ⟨(show vp_in (x2) 3 from vp_B b_x2 (by decide +kernel) (by decide +kernel)), ?_⟩
        refine ⟨fun hc => ?_, fun hc => ?_⟩
        · have r140 : 1 ≤ (F 106 x2.toNatClampNeg).toInt ∧ (F 106 x2.toNatClampNeg).toInt ≤ (F 105 5).toInt := qf_at pre4 (x := x2) (by omega) (by omega)
          have b141 : B 1 1 (F 106 x2.toNatClampNeg) := ⟨by omega, by omega⟩
          have hq142 := hc
          have b143 : B 1 2 (x8_131) := B_w (B_leR (B_eq ((congrFun (g135.2 106 rfl rfl) x2.toNatClampNeg).trans (congrFun (g106.2 106 rfl rfl) x2.toNatClampNeg)) b141) b133 hq142) (by decide +kernel) (by decide +kernel)
          have q144 : (1) ≤ (F 106 x2.toNatClampNeg).toInt ∧ (F 106 x2.toNatClampNeg).toInt ≤ (1) := (show B 1 1 (F 106 x2.toNatClampNeg) from B_w b141 (by decide +kernel) (by decide +kernel))
          have e145 : (T132 106 x2.toNatClampNeg).toInt = (F 106 x2.toNatClampNeg).toInt := (congrArg Int32.toInt ((congrFun (g135.2 106 rfl rfl) x2.toNatClampNeg).trans (congrFun (g106.2 106 rfl rfl) x2.toNatClampNeg))).trans rfl
          have q146 : (1) ≤ (x8_131).toInt ∧ (x8_131).toInt ≤ (2) := (show B 1 2 (x8_131) from B_w b143 (by decide +kernel) (by decide +kernel))
          have i147 : (T132 106 x2.toNatClampNeg).toInt ≤ (x8_131).toInt := i_le hq142
          have g149 := agc_tr (agc_refl (fs := [7306]) (rs := [77, 999]) (F := F)) g106 (by decide +kernel) (by decide +kernel)
          have g148 := agc_tr g149 g135 (by decide +kernel) (by decide +kernel)
          have e150 : (T132 105 2).toInt = (F 105 2).toInt := (congrArg Int32.toInt ((g135.1 105 2 rfl rfl).trans (g106.1 105 2 rfl rfl))).trans rfl
          have e151 : (x7_102 + 1).toInt = ((x7_102).toInt + 1) := (t_add b121 cqb_1_1_1 (by decide +kernel) (by decide +kernel)).trans (by rw [cqn_1])
          have q152 : (1) ≤ (x7_102 + 1).toInt ∧ (x7_102 + 1).toInt ≤ (2) := (show B 1 2 (x7_102 + 1) from B_w (B_add b121 cqb_1_1_1 (by decide +kernel) (by decide +kernel)) (by decide +kernel) (by decide +kernel))
          exact hR24 ⟨rfl, rfl, rfl, rfl, (B_w (B_add b121 cqb_1_1_1 (by decide +kernel) (by decide +kernel)) (by decide +kernel) (by decide +kernel)), _, _, rfl, hI134, g148, (qf_le (b' := (T132 73 6).toInt) (lo' := 0) (hi' := (64 * (T132 105 2).toInt) - 1) r137 (by omega) (by omega) (by omega)), r138⟩ (by show (2 - (x7_102 + 1).toInt).toNat < (2 - x7_102.toInt).toNat; omega)
        · have r153 : 1 ≤ (F 106 x2.toNatClampNeg).toInt ∧ (F 106 x2.toNatClampNeg).toInt ≤ (F 105 5).toInt := qf_at pre4 (x := x2) (by omega) (by omega)
          have b154 : B 1 1 (F 106 x2.toNatClampNeg) := ⟨by omega, by omega⟩
          have hq155 := (nle_lt hc)
          have b156 : B 0 0 (x8_131) := B_w (B_ltL b133 (B_eq ((congrFun (g135.2 106 rfl rfl) x2.toNatClampNeg).trans (congrFun (g106.2 106 rfl rfl) x2.toNatClampNeg)) b154) hq155) (by decide +kernel) (by decide +kernel)
          have q157 : (0) ≤ (x8_131).toInt ∧ (x8_131).toInt ≤ (0) := (show B 0 0 (x8_131) from B_w b156 (by decide +kernel) (by decide +kernel))
          have q158 : (1) ≤ (F 106 x2.toNatClampNeg).toInt ∧ (F 106 x2.toNatClampNeg).toInt ≤ (1) := (show B 1 1 (F 106 x2.toNatClampNeg) from B_w b154 (by decide +kernel) (by decide +kernel))
          have e159 : (T132 106 x2.toNatClampNeg).toInt = (F 106 x2.toNatClampNeg).toInt := (congrArg Int32.toInt ((congrFun (g135.2 106 rfl rfl) x2.toNatClampNeg).trans (congrFun (g106.2 106 rfl rfl) x2.toNatClampNeg))).trans rfl
          have i160 : (x8_131).toInt < (T132 106 x2.toNatClampNeg).toInt := i_lt hq155
          refine ⟨(show ¬ ((110 : Nat) = NU) from by decide +kernel), ?_⟩
          refine ⟨(show c_cl UL 110 = 902 from cl_110), ?_⟩
          refine ⟨(show vp_in (x2) 3 from vp_B b_x2 (by decide +kernel) (by decide +kernel)), ?_⟩
          have e161 : (T132 105 2).toInt = (F 105 2).toInt := (congrArg Int32.toInt ((g135.1 105 2 rfl rfl).trans (g106.1 105 2 rfl rfl))).trans rfl
          have g163 := agc_tr (agc_refl (fs := [7306]) (rs := [77, 999]) (F := F)) g106 (by decide +kernel) (by decide +kernel)
          have g162 := agc_tr g163 g135 (by decide +kernel) (by decide +kernel)
          refine h_Sc_addBlock_u73_a1 b_x2 (B_w (B_add (B_add (B_mul (B_add (B_mul b97 (show B 1 2 (F 107 x2.toNatClampNeg) from sB_107 hI b_x2 (by decide +kernel) (by decide +kernel)) (by decide +kernel) (by decide +kernel) (by decide +kernel)) b121 (by decide +kernel) (by decide +kernel)) (B_eq ((congrFun (g135.2 110 rfl rfl) x2.toNatClampNeg).trans (congrFun (g106.2 110 rfl rfl) x2.toNatClampNeg)) (show B 0 8 (F 110 x2.toNatClampNeg) from hI 110 x2.toNatClampNeg)) (by decide +kernel) (by decide +kernel) (by decide +kernel)) (B_mul b_x3 b154 (by decide +kernel) (by decide +kernel) (by decide +kernel)) (by decide +kernel) (by decide +kernel)) b156 (by decide +kernel) (by decide +kernel)) (by decide +kernel) (by decide +kernel)) hI134 (qf_le (b' := (T132 73 6).toInt) (lo' := 0) (hi' := (64 * (T132 105 2).toInt) - 1) r137 (by omega) (by omega) (by omega)) (by show x2.toInt < (T132 105 2).toInt; first | with_reducible assumption | omega) r138 (cz_ag (F := F) (G := T132) pre9 hI g162 (by decide +kernel)) (fun {FS69_164} {LFS69_164} hI165 g166 r167 r168 => ?_)
          have r169 : qf (FS69_164 77) 0 (FS69_164 73 6).toInt 0 ((64 * (FS69_164 105 2).toInt) - 1) := r167
          clear r167
          have q170 : (0) ≤ (FS69_164 73 6).toInt ∧ (FS69_164 73 6).toInt ≤ (192) := (show B 0 192 (FS69_164 73 6) from hI165 73 6)
          have r171 : ZQ FS69_164 := r168
          clear r168
          have g173 := agc_tr (agc_refl (fs := [7306]) (rs := [77, 999]) (F := T103)) g135 (by decide +kernel) (by decide +kernel)
          have g172 := agc_tr g173 g166 (by decide +kernel) (by decide +kernel)
          have e174 : (FS69_164 105 2).toInt = (F 105 2).toInt := (congrArg Int32.toInt (((g166.1 105 2 rfl rfl).trans (g135.1 105 2 rfl rfl)).trans (g106.1 105 2 rfl rfl))).trans rfl
          have e175 : (x8_131 + 1).toInt = ((x8_131).toInt + 1) := (t_add b156 cqb_1_1_1 (by decide +kernel) (by decide +kernel)).trans (by rw [cqn_1])
          have q176 : (1) ≤ (x8_131 + 1).toInt ∧ (x8_131 + 1).toInt ≤ (1) := (show B 1 1 (x8_131 + 1) from B_w (B_add b156 cqb_1_1_1 (by decide +kernel) (by decide +kernel)) (by decide +kernel) (by decide +kernel))
          exact hR38 ⟨rfl, rfl, rfl, rfl, rfl, (B_w (B_add b156 cqb_1_1_1 (by decide +kernel) (by decide +kernel)) (by decide +kernel) (by decide +kernel)), _, _, rfl, hI165, g172, (qf_le (b' := (FS69_164 73 6).toInt) (lo' := 0) (hi' := (64 * (FS69_164 105 2).toInt) - 1) r169 (by omega) (by omega) (by omega)), r171⟩ (by show (2 - (x8_131 + 1).toInt).toNat < (2 - x8_131.toInt).toNat; omega)
  · have b177 : B 2 2 (F 105 5) := B_eq hcs cqb_2_2_2
    have q178 : (2) ≤ (F 105 5).toInt ∧ (F 105 5).toInt ≤ (2) := (show B 2 2 (F 105 5) from B_w b177 (by decide +kernel) (by decide +kernel))
    have b179 : B 0 3 (x3) := ⟨by omega, by omega⟩
    rcases sp_12 (show B 1 2 (F 105 6) from hI 105 6) with hcs | hcs
    · have b180 : B 1 1 (F 105 6) := B_eq hcs cqb_1_1_1
      have q181 : (1) ≤ (F 105 6).toInt ∧ (F 105 6).toInt ≤ (1) := (show B 1 1 (F 105 6) from B_w b180 (by decide +kernel) (by decide +kernel))
      refine ⟨(show c_cl UL 105 = 7 from cl_105), ?_⟩
      refine ⟨(show ¬ ((106 : Nat) = NU) from by decide +kernel), ?_⟩
      refine ⟨(show c_cl UL 106 = 902 from cl_106), ?_⟩
      refine ⟨(show vp_in (x2) 3 from vp_B b_x2 (by decide +kernel) (by decide +kernel)), ?_⟩
      refine ⟨(show ¬ ((107 : Nat) = NU) from by decide +kernel), ?_⟩
      refine ⟨(show c_cl UL 107 = 902 from cl_107), ?_⟩
      refine ⟨(show vp_in (x2) 3 from vp_B b_x2 (by decide +kernel) (by decide +kernel)), ?_⟩
      refine ⟨fun yx1 yx2 yx5 yx6 yx7 yS => (105 : Nat) = yx1 ∧ x2 = yx2 ∧ (x3 * (F 106 x2.toNatClampNeg)) = yx5 ∧ (x4 * (F 107 x2.toNatClampNeg)) = yx6 ∧ B 0 2 yx7 ∧ ∃ (T187 : cF) (LT187 : cL), yS = (T187, LT187, PC true b P) ∧ IMc T187 ∧ agc [7306] [77, 999] F T187 ∧ (qf (T187 77) 0 (T187 73 6).toInt 0 ((64 * (T187 105 2).toInt) - 1)) ∧ (ZQ T187), fun yx1 yx2 yx5 yx6 yx7 yS => (2 - yx7.toInt).toNat, ⟨rfl, rfl, rfl, rfl, (B_w cqb_0_0_0 (by decide +kernel) (by decide +kernel)), _, _, rfl, hI, (agc_refl (fs := [7306]) (rs := [77, 999]) (F := F)), (qf_le (b' := (F 73 6).toInt) (lo' := 0) (hi' := (64 * (F 105 2).toInt) - 1) pre0 (by omega) (by omega) (by omega)), pre8⟩, fun x1_182 x2_183 x5_184 x6_185 x7_186 ST187 hIv => ?_⟩
      obtain ⟨rfl, rfl, rfl, rfl, b188, T187, LT187, rfl, hI189, g190, r191, r192⟩ := hIv
      suffices hs : ∀ (R24 : Nat → Int32 → Int32 → Int32 → Int32 → cs → Prop), (∀ zx1 zx2 zx5 zx6 zx7 zS, ((105 : Nat) = zx1 ∧ x2 = zx2 ∧ (x3 * (F 106 x2.toNatClampNeg)) = zx5 ∧ (x4 * (F 107 x2.toNatClampNeg)) = zx6 ∧ B 0 2 zx7 ∧ ∃ (T187 : cF) (LT187 : cL), zS = (T187, LT187, PC true b P) ∧ IMc T187 ∧ agc [7306] [77, 999] F T187 ∧ (qf (T187 77) 0 (T187 73 6).toInt 0 ((64 * (T187 105 2).toInt) - 1)) ∧ (ZQ T187)) → (2 - zx7.toInt).toNat < (2 - x7_186.toInt).toNat → R24 zx1 zx2 zx5 zx6 zx7 zS) → b_Sc_addStretch_24 UL 73 105 x2 (x3 * (F 106 x2.toNatClampNeg)) (x4 * (F 107 x2.toNatClampNeg)) x7_186 (T187, LT187, PC true b P) R24 K from hs _ (fun _ _ _ _ _ _ h1 h2 => ⟨h1, h2⟩)
      intro R24 hR240
      have hR24 := fun {zx1} {zx2} {zx5} {zx6} {zx7} {zS} => hR240 zx1 zx2 zx5 zx6 zx7 zS
      have q193 : (0) ≤ (T187 73 6).toInt ∧ (T187 73 6).toInt ≤ (192) := (show B 0 192 (T187 73 6) from hI189 73 6)
      unfold b_Sc_addStretch_24
      refine ⟨(show c_cl UL 105 = 7 from cl_105), ?_⟩
      refine ⟨(show ¬ ((107 : Nat) = NU) from by decide +kernel), ?_⟩
      refine ⟨(show c_cl UL 107 = 902 from cl_107), ?_⟩
      refine ⟨(show vp_in (x2) 3 from vp_B b_x2 (by decide +kernel) (by decide +kernel)), ?_⟩
      refine ⟨fun hc => ?_, fun hc => ?_⟩
      · have r194 : 1 ≤ (F 107 x2.toNatClampNeg).toInt ∧ (F 107 x2.toNatClampNeg).toInt ≤ (F 105 6).toInt := qf_at pre5 (x := x2) (by omega) (by omega)
        have b195 : B 1 1 (F 107 x2.toNatClampNeg) := ⟨by omega, by omega⟩
        have hq196 := hc
        have b197 : B 1 2 (x7_186) := B_w (B_leR (B_eq (congrFun (g190.2 107 rfl rfl) x2.toNatClampNeg) b195) b188 hq196) (by decide +kernel) (by decide +kernel)
        have q198 : (1) ≤ (F 107 x2.toNatClampNeg).toInt ∧ (F 107 x2.toNatClampNeg).toInt ≤ (1) := (show B 1 1 (F 107 x2.toNatClampNeg) from B_w b195 (by decide +kernel) (by decide +kernel))
        have e199 : (T187 107 x2.toNatClampNeg).toInt = (F 107 x2.toNatClampNeg).toInt := (congrArg Int32.toInt (congrFun (g190.2 107 rfl rfl) x2.toNatClampNeg)).trans rfl
        have q200 : (1) ≤ (x7_186).toInt ∧ (x7_186).toInt ≤ (2) := (show B 1 2 (x7_186) from B_w b197 (by decide +kernel) (by decide +kernel))
        have i201 : (T187 107 x2.toNatClampNeg).toInt ≤ (x7_186).toInt := i_le hq196
        have g202 := agc_tr (agc_refl (fs := [7306]) (rs := [77, 999]) (F := F)) g190 (by decide +kernel) (by decide +kernel)
        have e203 : (T187 105 2).toInt = (F 105 2).toInt := (congrArg Int32.toInt (g190.1 105 2 rfl rfl)).trans rfl
        exact hK hI189 g202 (qf_le (b' := (T187 73 6).toInt) (lo' := 0) (hi' := (64 * (T187 105 2).toInt) - 1) r191 (by omega) (by omega) (by omega)) r192
      · have r204 : 1 ≤ (F 107 x2.toNatClampNeg).toInt ∧ (F 107 x2.toNatClampNeg).toInt ≤ (F 105 6).toInt := qf_at pre5 (x := x2) (by omega) (by omega)
        have b205 : B 1 1 (F 107 x2.toNatClampNeg) := ⟨by omega, by omega⟩
        have hq206 := (nle_lt hc)
        have b207 : B 0 0 (x7_186) := B_w (B_ltL b188 (B_eq (congrFun (g190.2 107 rfl rfl) x2.toNatClampNeg) b205) hq206) (by decide +kernel) (by decide +kernel)
        have q208 : (0) ≤ (x7_186).toInt ∧ (x7_186).toInt ≤ (0) := (show B 0 0 (x7_186) from B_w b207 (by decide +kernel) (by decide +kernel))
        have q209 : (1) ≤ (F 107 x2.toNatClampNeg).toInt ∧ (F 107 x2.toNatClampNeg).toInt ≤ (1) := (show B 1 1 (F 107 x2.toNatClampNeg) from B_w b205 (by decide +kernel) (by decide +kernel))
        have e210 : (T187 107 x2.toNatClampNeg).toInt = (F 107 x2.toNatClampNeg).toInt := (congrArg Int32.toInt (congrFun (g190.2 107 rfl rfl) x2.toNatClampNeg)).trans rfl
        have i211 : (x7_186).toInt < (T187 107 x2.toNatClampNeg).toInt := i_lt hq206
        have e222 : (T187 105 2).toInt = (F 105 2).toInt := (congrArg Int32.toInt (g190.1 105 2 rfl rfl)).trans rfl
        refine ⟨fun yx1 yx2 yx5 yx6 yx7 yx8 yS => (105 : Nat) = yx1 ∧ x2 = yx2 ∧ (x3 * (F 106 x2.toNatClampNeg)) = yx5 ∧ (x4 * (F 107 x2.toNatClampNeg)) = yx6 ∧ x7_186 = yx7 ∧ B 0 2 yx8 ∧ ∃ (T218 : cF) (LT218 : cL), yS = (T218, LT218, PC true b P) ∧ IMc T218 ∧ agc [7306] [77, 999] T187 T218 ∧ (qf (T218 77) 0 (T218 73 6).toInt 0 ((64 * (T218 105 2).toInt) - 1)) ∧ (ZQ T218), fun yx1 yx2 yx5 yx6 yx7 yx8 yS => (2 - yx8.toInt).toNat, ⟨rfl, rfl, rfl, rfl, rfl, (B_w cqb_0_0_0 (by decide +kernel) (by decide +kernel)), _, _, rfl, hI189, (agc_refl (fs := [7306]) (rs := [77, 999]) (F := T187)), (qf_le (b' := (T187 73 6).toInt) (lo' := 0) (hi' := (64 * (T187 105 2).toInt) - 1) r191 (by omega) (by omega) (by omega)), r192⟩, fun x1_212 x2_213 x5_214 x6_215 x7_216 x8_217 ST218 hIv => ?_⟩
        obtain ⟨rfl, rfl, rfl, rfl, rfl, b219, T218, LT218, rfl, hI220, g221, r223, r224⟩ := hIv
        suffices hs : ∀ (R38 : Nat → Int32 → Int32 → Int32 → Int32 → Int32 → cs → Prop), (∀ zx1 zx2 zx5 zx6 zx7 zx8 zS, ((105 : Nat) = zx1 ∧ x2 = zx2 ∧ (x3 * (F 106 x2.toNatClampNeg)) = zx5 ∧ (x4 * (F 107 x2.toNatClampNeg)) = zx6 ∧ x7_186 = zx7 ∧ B 0 2 zx8 ∧ ∃ (T218 : cF) (LT218 : cL), zS = (T218, LT218, PC true b P) ∧ IMc T218 ∧ agc [7306] [77, 999] T187 T218 ∧ (qf (T218 77) 0 (T218 73 6).toInt 0 ((64 * (T218 105 2).toInt) - 1)) ∧ (ZQ T218)) → (2 - zx8.toInt).toNat < (2 - x8_217.toInt).toNat → R38 zx1 zx2 zx5 zx6 zx7 zx8 zS) → b_Sc_addStretch_38 UL 73 105 x2 (x3 * (F 106 x2.toNatClampNeg)) (x4 * (F 107 x2.toNatClampNeg)) x7_186 x8_217 (T218, LT218, PC true b P) R24 R38 K from hs _ (fun _ _ _ _ _ _ _ h1 h2 => ⟨h1, h2⟩)
        intro R38 hR380
        have hR38 := fun {zx1} {zx2} {zx5} {zx6} {zx7} {zx8} {zS} => hR380 zx1 zx2 zx5 zx6 zx7 zx8 zS
        have q225 : (0) ≤ (T218 73 6).toInt ∧ (T218 73 6).toInt ≤ (192) := (show B 0 192 (T218 73 6) from hI220 73 6)
        unfold b_Sc_addStretch_38
        refine ⟨(show c_cl UL 105 = 7 from cl_105), ?_⟩
        refine ⟨(show ¬ ((106 : Nat) = NU) from by decide +kernel), ?_⟩
        refine ⟨(show c_cl UL 106 = 902 from cl_106), ?_⟩
        refine ⟨(show vp_in (x2) 3 from vp_B b_x2 (by decide +kernel) (by decide +kernel)), ?_⟩
        refine ⟨fun hc => ?_, fun hc => ?_⟩
        · have r226 : 1 ≤ (F 106 x2.toNatClampNeg).toInt ∧ (F 106 x2.toNatClampNeg).toInt ≤ (F 105 5).toInt := qf_at pre4 (x := x2) (by omega) (by omega)
          have hq227 := hc
          have b228 : B 1 2 (x8_217) := B_w (B_leR (B_eq ((congrFun (g221.2 106 rfl rfl) x2.toNatClampNeg).trans (congrFun (g190.2 106 rfl rfl) x2.toNatClampNeg)) (show B 1 2 (F 106 x2.toNatClampNeg) from sB_106 hI b_x2 (by decide +kernel) (by decide +kernel))) b219 hq227) (by decide +kernel) (by decide +kernel)
          have q229 : (1) ≤ (F 106 x2.toNatClampNeg).toInt ∧ (F 106 x2.toNatClampNeg).toInt ≤ (2) := (show B 1 2 (F 106 x2.toNatClampNeg) from sB_106 hI b_x2 (by decide +kernel) (by decide +kernel))
          have e230 : (T218 106 x2.toNatClampNeg).toInt = (F 106 x2.toNatClampNeg).toInt := (congrArg Int32.toInt ((congrFun (g221.2 106 rfl rfl) x2.toNatClampNeg).trans (congrFun (g190.2 106 rfl rfl) x2.toNatClampNeg))).trans rfl
          have q231 : (1) ≤ (x8_217).toInt ∧ (x8_217).toInt ≤ (2) := (show B 1 2 (x8_217) from B_w b228 (by decide +kernel) (by decide +kernel))
          have i232 : (T218 106 x2.toNatClampNeg).toInt ≤ (x8_217).toInt := i_le hq227
          have g234 := agc_tr (agc_refl (fs := [7306]) (rs := [77, 999]) (F := F)) g190 (by decide +kernel) (by decide +kernel)
          have g233 := agc_tr g234 g221 (by decide +kernel) (by decide +kernel)
          have e235 : (T218 105 2).toInt = (F 105 2).toInt := (congrArg Int32.toInt ((g221.1 105 2 rfl rfl).trans (g190.1 105 2 rfl rfl))).trans rfl
          have e236 : (x7_186 + 1).toInt = ((x7_186).toInt + 1) := (t_add b207 cqb_1_1_1 (by decide +kernel) (by decide +kernel)).trans (by rw [cqn_1])
          have q237 : (1) ≤ (x7_186 + 1).toInt ∧ (x7_186 + 1).toInt ≤ (1) := (show B 1 1 (x7_186 + 1) from B_w (B_add b207 cqb_1_1_1 (by decide +kernel) (by decide +kernel)) (by decide +kernel) (by decide +kernel))
          exact hR24 ⟨rfl, rfl, rfl, rfl, (B_w (B_add b207 cqb_1_1_1 (by decide +kernel) (by decide +kernel)) (by decide +kernel) (by decide +kernel)), _, _, rfl, hI220, g233, (qf_le (b' := (T218 73 6).toInt) (lo' := 0) (hi' := (64 * (T218 105 2).toInt) - 1) r223 (by omega) (by omega) (by omega)), r224⟩ (by show (2 - (x7_186 + 1).toInt).toNat < (2 - x7_186.toInt).toNat; omega)
        · have r238 : 1 ≤ (F 106 x2.toNatClampNeg).toInt ∧ (F 106 x2.toNatClampNeg).toInt ≤ (F 105 5).toInt := qf_at pre4 (x := x2) (by omega) (by omega)
          have hq239 := (nle_lt hc)
          have b240 : B 0 1 (x8_217) := B_w (B_ltL b219 (B_eq ((congrFun (g221.2 106 rfl rfl) x2.toNatClampNeg).trans (congrFun (g190.2 106 rfl rfl) x2.toNatClampNeg)) (show B 1 2 (F 106 x2.toNatClampNeg) from sB_106 hI b_x2 (by decide +kernel) (by decide +kernel))) hq239) (by decide +kernel) (by decide +kernel)
          have q241 : (0) ≤ (x8_217).toInt ∧ (x8_217).toInt ≤ (1) := (show B 0 1 (x8_217) from B_w b240 (by decide +kernel) (by decide +kernel))
          have q242 : (1) ≤ (F 106 x2.toNatClampNeg).toInt ∧ (F 106 x2.toNatClampNeg).toInt ≤ (2) := (show B 1 2 (F 106 x2.toNatClampNeg) from sB_106 hI b_x2 (by decide +kernel) (by decide +kernel))
          have e243 : (T218 106 x2.toNatClampNeg).toInt = (F 106 x2.toNatClampNeg).toInt := (congrArg Int32.toInt ((congrFun (g221.2 106 rfl rfl) x2.toNatClampNeg).trans (congrFun (g190.2 106 rfl rfl) x2.toNatClampNeg))).trans rfl
          have i244 : (x8_217).toInt < (T218 106 x2.toNatClampNeg).toInt := i_lt hq239
          refine ⟨(show ¬ ((110 : Nat) = NU) from by decide +kernel), ?_⟩
          refine ⟨(show c_cl UL 110 = 902 from cl_110), ?_⟩
          refine ⟨(show vp_in (x2) 3 from vp_B b_x2 (by decide +kernel) (by decide +kernel)), ?_⟩
          have e245 : (T218 105 2).toInt = (F 105 2).toInt := (congrArg Int32.toInt ((g221.1 105 2 rfl rfl).trans (g190.1 105 2 rfl rfl))).trans rfl
          have g247 := agc_tr (agc_refl (fs := [7306]) (rs := [77, 999]) (F := F)) g190 (by decide +kernel) (by decide +kernel)
          have g246 := agc_tr g247 g221 (by decide +kernel) (by decide +kernel)
          refine h_Sc_addBlock_u73_a1 b_x2 (B_w (B_add (B_add (B_mul (B_add (B_mul b_x4 b205 (by decide +kernel) (by decide +kernel) (by decide +kernel)) b207 (by decide +kernel) (by decide +kernel)) (B_eq ((congrFun (g221.2 110 rfl rfl) x2.toNatClampNeg).trans (congrFun (g190.2 110 rfl rfl) x2.toNatClampNeg)) (show B 0 8 (F 110 x2.toNatClampNeg) from hI 110 x2.toNatClampNeg)) (by decide +kernel) (by decide +kernel) (by decide +kernel)) (B_mul b179 (show B 1 2 (F 106 x2.toNatClampNeg) from sB_106 hI b_x2 (by decide +kernel) (by decide +kernel)) (by decide +kernel) (by decide +kernel) (by decide +kernel)) (by decide +kernel) (by decide +kernel)) b240 (by decide +kernel) (by decide +kernel)) (by decide +kernel) (by decide +kernel)) hI220 (qf_le (b' := (T218 73 6).toInt) (lo' := 0) (hi' := (64 * (T218 105 2).toInt) - 1) r223 (by omega) (by omega) (by omega)) (by show x2.toInt < (T218 105 2).toInt; first | with_reducible assumption | omega) r224 (cz_ag (F := F) (G := T218) pre9 hI g246 (by decide +kernel)) (fun {FS69_248} {LFS69_248} hI249 g250 r251 r252 => ?_)
          have r253 : qf (FS69_248 77) 0 (FS69_248 73 6).toInt 0 ((64 * (FS69_248 105 2).toInt) - 1) := r251
          clear r251
          have q254 : (0) ≤ (FS69_248 73 6).toInt ∧ (FS69_248 73 6).toInt ≤ (192) := (show B 0 192 (FS69_248 73 6) from hI249 73 6)
          have r255 : ZQ FS69_248 := r252
          clear r252
          have g257 := agc_tr (agc_refl (fs := [7306]) (rs := [77, 999]) (F := T187)) g221 (by decide +kernel) (by decide +kernel)
          have g256 := agc_tr g257 g250 (by decide +kernel) (by decide +kernel)
          have e258 : (FS69_248 105 2).toInt = (F 105 2).toInt := (congrArg Int32.toInt (((g250.1 105 2 rfl rfl).trans (g221.1 105 2 rfl rfl)).trans (g190.1 105 2 rfl rfl))).trans rfl
          have e259 : (x8_217 + 1).toInt = ((x8_217).toInt + 1) := (t_add b240 cqb_1_1_1 (by decide +kernel) (by decide +kernel)).trans (by rw [cqn_1])
          have q260 : (1) ≤ (x8_217 + 1).toInt ∧ (x8_217 + 1).toInt ≤ (2) := (show B 1 2 (x8_217 + 1) from B_w (B_add b240 cqb_1_1_1 (by decide +kernel) (by decide +kernel)) (by decide +kernel) (by decide +kernel))
          exact hR38 ⟨rfl, rfl, rfl, rfl, rfl, (B_w (B_add b240 cqb_1_1_1 (by decide +kernel) (by decide +kernel)) (by decide +kernel) (by decide +kernel)), _, _, rfl, hI249, g256, (qf_le (b' := (FS69_248 73 6).toInt) (lo' := 0) (hi' := (64 * (FS69_248 105 2).toInt) - 1) r253 (by omega) (by omega) (by omega)), r255⟩ (by show (2 - (x8_217 + 1).toInt).toNat < (2 - x8_217.toInt).toNat; omega)
    · have b261 : B 2 2 (F 105 6) := B_eq hcs cqb_2_2_2
      have q262 : (2) ≤ (F 105 6).toInt ∧ (F 105 6).toInt ≤ (2) := (show B 2 2 (F 105 6) from B_w b261 (by decide +kernel) (by decide +kernel))
      have b263 : B 0 3 (x4) := ⟨by omega, by omega⟩
      refine ⟨(show c_cl UL 105 = 7 from cl_105), ?_⟩
      refine ⟨(show ¬ ((106 : Nat) = NU) from by decide +kernel), ?_⟩
      refine ⟨(show c_cl UL 106 = 902 from cl_106), ?_⟩
      refine ⟨(show vp_in (x2) 3 from vp_B b_x2 (by decide +kernel) (by decide +kernel)), ?_⟩
      refine ⟨(show ¬ ((107 : Nat) = NU) from by decide +kernel), ?_⟩
      refine ⟨(show c_cl UL 107 = 902 from cl_107), ?_⟩
      refine ⟨(show vp_in (x2) 3 from vp_B b_x2 (by decide +kernel) (by decide +kernel)), ?_⟩
      refine ⟨fun yx1 yx2 yx5 yx6 yx7 yS => (105 : Nat) = yx1 ∧ x2 = yx2 ∧ (x3 * (F 106 x2.toNatClampNeg)) = yx5 ∧ (x4 * (F 107 x2.toNatClampNeg)) = yx6 ∧ B 0 2 yx7 ∧ ∃ (T269 : cF) (LT269 : cL), yS = (T269, LT269, PC true b P) ∧ IMc T269 ∧ agc [7306] [77, 999] F T269 ∧ (qf (T269 77) 0 (T269 73 6).toInt 0 ((64 * (T269 105 2).toInt) - 1)) ∧ (ZQ T269), fun yx1 yx2 yx5 yx6 yx7 yS => (2 - yx7.toInt).toNat, ⟨rfl, rfl, rfl, rfl, (B_w cqb_0_0_0 (by decide +kernel) (by decide +kernel)), _, _, rfl, hI, (agc_refl (fs := [7306]) (rs := [77, 999]) (F := F)), (qf_le (b' := (F 73 6).toInt) (lo' := 0) (hi' := (64 * (F 105 2).toInt) - 1) pre0 (by omega) (by omega) (by omega)), pre8⟩, fun x1_264 x2_265 x5_266 x6_267 x7_268 ST269 hIv => ?_⟩
      obtain ⟨rfl, rfl, rfl, rfl, b270, T269, LT269, rfl, hI271, g272, r273, r274⟩ := hIv
      suffices hs : ∀ (R24 : Nat → Int32 → Int32 → Int32 → Int32 → cs → Prop), (∀ zx1 zx2 zx5 zx6 zx7 zS, ((105 : Nat) = zx1 ∧ x2 = zx2 ∧ (x3 * (F 106 x2.toNatClampNeg)) = zx5 ∧ (x4 * (F 107 x2.toNatClampNeg)) = zx6 ∧ B 0 2 zx7 ∧ ∃ (T269 : cF) (LT269 : cL), zS = (T269, LT269, PC true b P) ∧ IMc T269 ∧ agc [7306] [77, 999] F T269 ∧ (qf (T269 77) 0 (T269 73 6).toInt 0 ((64 * (T269 105 2).toInt) - 1)) ∧ (ZQ T269)) → (2 - zx7.toInt).toNat < (2 - x7_268.toInt).toNat → R24 zx1 zx2 zx5 zx6 zx7 zS) → b_Sc_addStretch_24 UL 73 105 x2 (x3 * (F 106 x2.toNatClampNeg)) (x4 * (F 107 x2.toNatClampNeg)) x7_268 (T269, LT269, PC true b P) R24 K from hs _ (fun _ _ _ _ _ _ h1 h2 => ⟨h1, h2⟩)
      intro R24 hR240
      have hR24 := fun {zx1} {zx2} {zx5} {zx6} {zx7} {zS} => hR240 zx1 zx2 zx5 zx6 zx7 zS
      have q275 : (0) ≤ (T269 73 6).toInt ∧ (T269 73 6).toInt ≤ (192) := (show B 0 192 (T269 73 6) from hI271 73 6)
      unfold b_Sc_addStretch_24
      refine ⟨(show c_cl UL 105 = 7 from cl_105), ?_⟩
      refine ⟨(show ¬ ((107 : Nat) = NU) from by decide +kernel), ?_⟩
      refine ⟨(show c_cl UL 107 = 902 from cl_107), ?_⟩
      refine ⟨(show vp_in (x2) 3 from vp_B b_x2 (by decide +kernel) (by decide +kernel)), ?_⟩
      refine ⟨fun hc => ?_, fun hc => ?_⟩
      · have r276 : 1 ≤ (F 107 x2.toNatClampNeg).toInt ∧ (F 107 x2.toNatClampNeg).toInt ≤ (F 105 6).toInt := qf_at pre5 (x := x2) (by omega) (by omega)
        have hq277 := hc
        have b278 : B 1 2 (x7_268) := B_w (B_leR (B_eq (congrFun (g272.2 107 rfl rfl) x2.toNatClampNeg) (show B 1 2 (F 107 x2.toNatClampNeg) from sB_107 hI b_x2 (by decide +kernel) (by decide +kernel))) b270 hq277) (by decide +kernel) (by decide +kernel)
        have q279 : (1) ≤ (F 107 x2.toNatClampNeg).toInt ∧ (F 107 x2.toNatClampNeg).toInt ≤ (2) := (show B 1 2 (F 107 x2.toNatClampNeg) from sB_107 hI b_x2 (by decide +kernel) (by decide +kernel))
        have e280 : (T269 107 x2.toNatClampNeg).toInt = (F 107 x2.toNatClampNeg).toInt := (congrArg Int32.toInt (congrFun (g272.2 107 rfl rfl) x2.toNatClampNeg)).trans rfl
        have q281 : (1) ≤ (x7_268).toInt ∧ (x7_268).toInt ≤ (2) := (show B 1 2 (x7_268) from B_w b278 (by decide +kernel) (by decide +kernel))
        have i282 : (T269 107 x2.toNatClampNeg).toInt ≤ (x7_268).toInt := i_le hq277
        have g283 := agc_tr (agc_refl (fs := [7306]) (rs := [77, 999]) (F := F)) g272 (by decide +kernel) (by decide +kernel)
        have e284 : (T269 105 2).toInt = (F 105 2).toInt := (congrArg Int32.toInt (g272.1 105 2 rfl rfl)).trans rfl
        exact hK hI271 g283 (qf_le (b' := (T269 73 6).toInt) (lo' := 0) (hi' := (64 * (T269 105 2).toInt) - 1) r273 (by omega) (by omega) (by omega)) r274
      · have r285 : 1 ≤ (F 107 x2.toNatClampNeg).toInt ∧ (F 107 x2.toNatClampNeg).toInt ≤ (F 105 6).toInt := qf_at pre5 (x := x2) (by omega) (by omega)
        have hq286 := (nle_lt hc)
        have b287 : B 0 1 (x7_268) := B_w (B_ltL b270 (B_eq (congrFun (g272.2 107 rfl rfl) x2.toNatClampNeg) (show B 1 2 (F 107 x2.toNatClampNeg) from sB_107 hI b_x2 (by decide +kernel) (by decide +kernel))) hq286) (by decide +kernel) (by decide +kernel)
        have q288 : (0) ≤ (x7_268).toInt ∧ (x7_268).toInt ≤ (1) := (show B 0 1 (x7_268) from B_w b287 (by decide +kernel) (by decide +kernel))
        have q289 : (1) ≤ (F 107 x2.toNatClampNeg).toInt ∧ (F 107 x2.toNatClampNeg).toInt ≤ (2) := (show B 1 2 (F 107 x2.toNatClampNeg) from sB_107 hI b_x2 (by decide +kernel) (by decide +kernel))
        have e290 : (T269 107 x2.toNatClampNeg).toInt = (F 107 x2.toNatClampNeg).toInt := (congrArg Int32.toInt (congrFun (g272.2 107 rfl rfl) x2.toNatClampNeg)).trans rfl
        have i291 : (x7_268).toInt < (T269 107 x2.toNatClampNeg).toInt := i_lt hq286
        have e302 : (T269 105 2).toInt = (F 105 2).toInt := (congrArg Int32.toInt (g272.1 105 2 rfl rfl)).trans rfl
        refine ⟨fun yx1 yx2 yx5 yx6 yx7 yx8 yS => (105 : Nat) = yx1 ∧ x2 = yx2 ∧ (x3 * (F 106 x2.toNatClampNeg)) = yx5 ∧ (x4 * (F 107 x2.toNatClampNeg)) = yx6 ∧ x7_268 = yx7 ∧ B 0 2 yx8 ∧ ∃ (T298 : cF) (LT298 : cL), yS = (T298, LT298, PC true b P) ∧ IMc T298 ∧ agc [7306] [77, 999] T269 T298 ∧ (qf (T298 77) 0 (T298 73 6).toInt 0 ((64 * (T298 105 2).toInt) - 1)) ∧ (ZQ T298), fun yx1 yx2 yx5 yx6 yx7 yx8 yS => (2 - yx8.toInt).toNat, ⟨rfl, rfl, rfl, rfl, rfl, (B_w cqb_0_0_0 (by decide +kernel) (by decide +kernel)), _, _, rfl, hI271, (agc_refl (fs := [7306]) (rs := [77, 999]) (F := T269)), (qf_le (b' := (T269 73 6).toInt) (lo' := 0) (hi' := (64 * (T269 105 2).toInt) - 1) r273 (by omega) (by omega) (by omega)), r274⟩, fun x1_292 x2_293 x5_294 x6_295 x7_296 x8_297 ST298 hIv => ?_⟩
        obtain ⟨rfl, rfl, rfl, rfl, rfl, b299, T298, LT298, rfl, hI300, g301, r303, r304⟩ := hIv
        suffices hs : ∀ (R38 : Nat → Int32 → Int32 → Int32 → Int32 → Int32 → cs → Prop), (∀ zx1 zx2 zx5 zx6 zx7 zx8 zS, ((105 : Nat) = zx1 ∧ x2 = zx2 ∧ (x3 * (F 106 x2.toNatClampNeg)) = zx5 ∧ (x4 * (F 107 x2.toNatClampNeg)) = zx6 ∧ x7_268 = zx7 ∧ B 0 2 zx8 ∧ ∃ (T298 : cF) (LT298 : cL), zS = (T298, LT298, PC true b P) ∧ IMc T298 ∧ agc [7306] [77, 999] T269 T298 ∧ (qf (T298 77) 0 (T298 73 6).toInt 0 ((64 * (T298 105 2).toInt) - 1)) ∧ (ZQ T298)) → (2 - zx8.toInt).toNat < (2 - x8_297.toInt).toNat → R38 zx1 zx2 zx5 zx6 zx7 zx8 zS) → b_Sc_addStretch_38 UL 73 105 x2 (x3 * (F 106 x2.toNatClampNeg)) (x4 * (F 107 x2.toNatClampNeg)) x7_268 x8_297 (T298, LT298, PC true b P) R24 R38 K from hs _ (fun _ _ _ _ _ _ _ h1 h2 => ⟨h1, h2⟩)
        intro R38 hR380
        have hR38 := fun {zx1} {zx2} {zx5} {zx6} {zx7} {zx8} {zS} => hR380 zx1 zx2 zx5 zx6 zx7 zx8 zS
        have q305 : (0) ≤ (T298 73 6).toInt ∧ (T298 73 6).toInt ≤ (192) := (show B 0 192 (T298 73 6) from hI300 73 6)
        unfold b_Sc_addStretch_38
        refine ⟨(show c_cl UL 105 = 7 from cl_105), ?_⟩
        refine ⟨(show ¬ ((106 : Nat) = NU) from by decide +kernel), ?_⟩
        refine ⟨(show c_cl UL 106 = 902 from cl_106), ?_⟩
        refine ⟨(show vp_in (x2) 3 from vp_B b_x2 (by decide +kernel) (by decide +kernel)), ?_⟩
        refine ⟨fun hc => ?_, fun hc => ?_⟩
        · have r306 : 1 ≤ (F 106 x2.toNatClampNeg).toInt ∧ (F 106 x2.toNatClampNeg).toInt ≤ (F 105 5).toInt := qf_at pre4 (x := x2) (by omega) (by omega)
          have hq307 := hc
          have b308 : B 1 2 (x8_297) := B_w (B_leR (B_eq ((congrFun (g301.2 106 rfl rfl) x2.toNatClampNeg).trans (congrFun (g272.2 106 rfl rfl) x2.toNatClampNeg)) (show B 1 2 (F 106 x2.toNatClampNeg) from sB_106 hI b_x2 (by decide +kernel) (by decide +kernel))) b299 hq307) (by decide +kernel) (by decide +kernel)
          have q309 : (1) ≤ (F 106 x2.toNatClampNeg).toInt ∧ (F 106 x2.toNatClampNeg).toInt ≤ (2) := (show B 1 2 (F 106 x2.toNatClampNeg) from sB_106 hI b_x2 (by decide +kernel) (by decide +kernel))
          have e310 : (T298 106 x2.toNatClampNeg).toInt = (F 106 x2.toNatClampNeg).toInt := (congrArg Int32.toInt ((congrFun (g301.2 106 rfl rfl) x2.toNatClampNeg).trans (congrFun (g272.2 106 rfl rfl) x2.toNatClampNeg))).trans rfl
          have q311 : (1) ≤ (x8_297).toInt ∧ (x8_297).toInt ≤ (2) := (show B 1 2 (x8_297) from B_w b308 (by decide +kernel) (by decide +kernel))
          have i312 : (T298 106 x2.toNatClampNeg).toInt ≤ (x8_297).toInt := i_le hq307
          have g314 := agc_tr (agc_refl (fs := [7306]) (rs := [77, 999]) (F := F)) g272 (by decide +kernel) (by decide +kernel)
          have g313 := agc_tr g314 g301 (by decide +kernel) (by decide +kernel)
          have e315 : (T298 105 2).toInt = (F 105 2).toInt := (congrArg Int32.toInt ((g301.1 105 2 rfl rfl).trans (g272.1 105 2 rfl rfl))).trans rfl
          have e316 : (x7_268 + 1).toInt = ((x7_268).toInt + 1) := (t_add b287 cqb_1_1_1 (by decide +kernel) (by decide +kernel)).trans (by rw [cqn_1])
          have q317 : (1) ≤ (x7_268 + 1).toInt ∧ (x7_268 + 1).toInt ≤ (2) := (show B 1 2 (x7_268 + 1) from B_w (B_add b287 cqb_1_1_1 (by decide +kernel) (by decide +kernel)) (by decide +kernel) (by decide +kernel))
          exact hR24 ⟨rfl, rfl, rfl, rfl, (B_w (B_add b287 cqb_1_1_1 (by decide +kernel) (by decide +kernel)) (by decide +kernel) (by decide +kernel)), _, _, rfl, hI300, g313, (qf_le (b' := (T298 73 6).toInt) (lo' := 0) (hi' := (64 * (T298 105 2).toInt) - 1) r303 (by omega) (by omega) (by omega)), r304⟩ (by show (2 - (x7_268 + 1).toInt).toNat < (2 - x7_268.toInt).toNat; omega)
        · have r318 : 1 ≤ (F 106 x2.toNatClampNeg).toInt ∧ (F 106 x2.toNatClampNeg).toInt ≤ (F 105 5).toInt := qf_at pre4 (x := x2) (by omega) (by omega)
          have hq319 := (nle_lt hc)
          have b320 : B 0 1 (x8_297) := B_w (B_ltL b299 (B_eq ((congrFun (g301.2 106 rfl rfl) x2.toNatClampNeg).trans (congrFun (g272.2 106 rfl rfl) x2.toNatClampNeg)) (show B 1 2 (F 106 x2.toNatClampNeg) from sB_106 hI b_x2 (by decide +kernel) (by decide +kernel))) hq319) (by decide +kernel) (by decide +kernel)
          have q321 : (0) ≤ (x8_297).toInt ∧ (x8_297).toInt ≤ (1) := (show B 0 1 (x8_297) from B_w b320 (by decide +kernel) (by decide +kernel))
          have q322 : (1) ≤ (F 106 x2.toNatClampNeg).toInt ∧ (F 106 x2.toNatClampNeg).toInt ≤ (2) := (show B 1 2 (F 106 x2.toNatClampNeg) from sB_106 hI b_x2 (by decide +kernel) (by decide +kernel))
          have e323 : (T298 106 x2.toNatClampNeg).toInt = (F 106 x2.toNatClampNeg).toInt := (congrArg Int32.toInt ((congrFun (g301.2 106 rfl rfl) x2.toNatClampNeg).trans (congrFun (g272.2 106 rfl rfl) x2.toNatClampNeg))).trans rfl
          have i324 : (x8_297).toInt < (T298 106 x2.toNatClampNeg).toInt := i_lt hq319
          refine ⟨(show ¬ ((110 : Nat) = NU) from by decide +kernel), ?_⟩
          refine ⟨(show c_cl UL 110 = 902 from cl_110), ?_⟩
          refine ⟨(show vp_in (x2) 3 from vp_B b_x2 (by decide +kernel) (by decide +kernel)), ?_⟩
          have e325 : (T298 105 2).toInt = (F 105 2).toInt := (congrArg Int32.toInt ((g301.1 105 2 rfl rfl).trans (g272.1 105 2 rfl rfl))).trans rfl
          have g327 := agc_tr (agc_refl (fs := [7306]) (rs := [77, 999]) (F := F)) g272 (by decide +kernel) (by decide +kernel)
          have g326 := agc_tr g327 g301 (by decide +kernel) (by decide +kernel)
          refine h_Sc_addBlock_u73_a1 b_x2 (B_w (B_add (B_add (B_mul (B_add (B_mul b263 (show B 1 2 (F 107 x2.toNatClampNeg) from sB_107 hI b_x2 (by decide +kernel) (by decide +kernel)) (by decide +kernel) (by decide +kernel) (by decide +kernel)) b287 (by decide +kernel) (by decide +kernel)) (B_eq ((congrFun (g301.2 110 rfl rfl) x2.toNatClampNeg).trans (congrFun (g272.2 110 rfl rfl) x2.toNatClampNeg)) (show B 0 8 (F 110 x2.toNatClampNeg) from hI 110 x2.toNatClampNeg)) (by decide +kernel) (by decide +kernel) (by decide +kernel)) (B_mul b179 (show B 1 2 (F 106 x2.toNatClampNeg) from sB_106 hI b_x2 (by decide +kernel) (by decide +kernel)) (by decide +kernel) (by decide +kernel) (by decide +kernel)) (by decide +kernel) (by decide +kernel)) b320 (by decide +kernel) (by decide +kernel)) (by decide +kernel) (by decide +kernel)) hI300 (qf_le (b' := (T298 73 6).toInt) (lo' := 0) (hi' := (64 * (T298 105 2).toInt) - 1) r303 (by omega) (by omega) (by omega)) (by show x2.toInt < (T298 105 2).toInt; first | with_reducible assumption | omega) r304 (cz_ag (F := F) (G := T298) pre9 hI g326 (by decide +kernel)) (fun {FS69_328} {LFS69_328} hI329 g330 r331 r332 => ?_)
          have r333 : qf (FS69_328 77) 0 (FS69_328 73 6).toInt 0 ((64 * (FS69_328 105 2).toInt) - 1) := r331
          clear r331
          have q334 : (0) ≤ (FS69_328 73 6).toInt ∧ (FS69_328 73 6).toInt ≤ (192) := (show B 0 192 (FS69_328 73 6) from hI329 73 6)
          have r335 : ZQ FS69_328 := r332
          clear r332
          have g337 := agc_tr (agc_refl (fs := [7306]) (rs := [77, 999]) (F := T269)) g301 (by decide +kernel) (by decide +kernel)
          have g336 := agc_tr g337 g330 (by decide +kernel) (by decide +kernel)
          have e338 : (FS69_328 105 2).toInt = (F 105 2).toInt := (congrArg Int32.toInt (((g330.1 105 2 rfl rfl).trans (g301.1 105 2 rfl rfl)).trans (g272.1 105 2 rfl rfl))).trans rfl
          have e339 : (x8_297 + 1).toInt = ((x8_297).toInt + 1) := (t_add b320 cqb_1_1_1 (by decide +kernel) (by decide +kernel)).trans (by rw [cqn_1])
          have q340 : (1) ≤ (x8_297 + 1).toInt ∧ (x8_297 + 1).toInt ≤ (2) := (show B 1 2 (x8_297 + 1) from B_w (B_add b320 cqb_1_1_1 (by decide +kernel) (by decide +kernel)) (by decide +kernel) (by decide +kernel))
          exact hR38 ⟨rfl, rfl, rfl, rfl, rfl, (B_w (B_add b320 cqb_1_1_1 (by decide +kernel) (by decide +kernel)) (by decide +kernel) (by decide +kernel)), _, _, rfl, hI329, g336, (qf_le (b' := (FS69_328 73 6).toInt) (lo' := 0) (hi' := (64 * (FS69_328 105 2).toInt) - 1) r333 (by omega) (by omega) (by omega)), r335⟩ (by show (2 - (x8_297 + 1).toInt).toNat < (2 - x8_297.toInt).toNat; omega)
set_option maxRecDepth 20000 in
set_option maxHeartbeats 4000000 in
theorem h_Sc_arrangeTogether_u73_x1105_a1 {b : Bool} {P : Nat → Nat → Nat} {F : cF} {L : cL} {K : cs → Prop} (hI : IMc F) (pre0 : qf (F 77) 0 (F 73 6).toInt 0 ((64 * (F 105 2).toInt) - 1)) (pre1 : qf (F 74) 0 (F 73 0).toInt 0 ((F 105 2).toInt - 1)) (pre2 : qf (F 106) 0 (F 105 2).toInt 1 (F 105 5).toInt) (pre3 : qf (F 107) 0 (F 105 2).toInt 1 (F 105 6).toInt) (pre4 : ((F 105 5).toInt = 1) ∨ ((F 105 7).toInt ≤ 4)) (pre5 : ((F 105 6).toInt = 1) ∨ ((F 105 8).toInt ≤ 4)) (pre6 : ZQ F) (pre7 : LSQ F) (hK : ∀ {Z : cF} {LZ : cL}, IMc Z → agc [7306] [77, 999] F Z → (qf (Z 77) 0 (Z 73 6).toInt 0 ((64 * (Z 105 2).toInt) - 1)) → (ZQ Z) → K (Z, LZ, PC true b P)) : p_Sc_arrangeTogether UL 73 105 (F, L, PC true b P) K := by
  have q1 : (0) ≤ (F 73 6).toInt ∧ (F 73 6).toInt ≤ (192) := (show B 0 192 (F 73 6) from hI 73 6)
  have q2 : (0) ≤ (F 73 0).toInt ∧ (F 73 0).toInt ≤ (3) := (show B 0 3 (F 73 0) from hI 73 0)
  have q3 : (1) ≤ (F 105 2).toInt ∧ (F 105 2).toInt ≤ (3) := (show B 1 3 (F 105 2) from hI 105 2)
  have q4 : (1) ≤ (F 105 5).toInt ∧ (F 105 5).toInt ≤ (2) := (show B 1 2 (F 105 5) from hI 105 5)
  have q5 : (1) ≤ (F 105 7).toInt ∧ (F 105 7).toInt ≤ (8) := (show B 1 8 (F 105 7) from hI 105 7)
  have q6 : (1) ≤ (F 105 6).toInt ∧ (F 105 6).toInt ≤ (2) := (show B 1 2 (F 105 6) from hI 105 6)
  have q7 : (1) ≤ (F 105 8).toInt ∧ (F 105 8).toInt ≤ (8) := (show B 1 8 (F 105 8) from hI 105 8)
  unfold p_Sc_arrangeTogether
  refine ⟨fun yx1 yx2 yS => (105 : Nat) = yx1 ∧ B 0 8 yx2 ∧ ∃ (T10 : cF) (LT10 : cL), yS = (T10, LT10, PC true b P) ∧ IMc T10 ∧ agc [7306] [77, 999] F T10 ∧ (qf (T10 77) 0 (T10 73 6).toInt 0 ((64 * (T10 105 2).toInt) - 1)) ∧ (ZQ T10), fun yx1 yx2 yS => (8 - yx2.toInt).toNat, ⟨rfl, (B_w cqb_0_0_0 (by decide +kernel) (by decide +kernel)), _, _, rfl, hI, (agc_refl (fs := [7306]) (rs := [77, 999]) (F := F)), (qf_le (b' := (F 73 6).toInt) (lo' := 0) (hi' := (64 * (F 105 2).toInt) - 1) pre0 (by omega) (by omega) (by omega)), pre6⟩, fun x1_8 x2_9 ST10 hIv => ?_⟩
  obtain ⟨rfl, b11, T10, LT10, rfl, hI12, g13, r14, r15⟩ := hIv
  suffices hs : ∀ (R2 : Nat → Int32 → cs → Prop), (∀ zx1 zx2 zS, ((105 : Nat) = zx1 ∧ B 0 8 zx2 ∧ ∃ (T10 : cF) (LT10 : cL), zS = (T10, LT10, PC true b P) ∧ IMc T10 ∧ agc [7306] [77, 999] F T10 ∧ (qf (T10 77) 0 (T10 73 6).toInt 0 ((64 * (T10 105 2).toInt) - 1)) ∧ (ZQ T10)) → (8 - zx2.toInt).toNat < (8 - x2_9.toInt).toNat → R2 zx1 zx2 zS) → b_Sc_arrangeTogether_2 UL 73 105 x2_9 (T10, LT10, PC true b P) R2 K from hs _ (fun _ _ _ h1 h2 => ⟨h1, h2⟩)
  intro R2 hR20
  have hR2 := fun {zx1} {zx2} {zS} => hR20 zx1 zx2 zS
  have q16 : (0) ≤ (T10 73 6).toInt ∧ (T10 73 6).toInt ≤ (192) := (show B 0 192 (T10 73 6) from hI12 73 6)
  unfold b_Sc_arrangeTogether_2
  refine ⟨(show c_cl UL 105 = 7 from cl_105), ?_⟩
  refine ⟨fun hc => ?_, fun hc => ?_⟩
  · have hq17 := hc
    have b18 : B 1 8 (x2_9) := B_w (B_leR (B_eq (g13.1 105 8 rfl rfl) (show B 1 8 (F 105 8) from hI 105 8)) b11 hq17) (by decide +kernel) (by decide +kernel)
    have e19 : (T10 105 8).toInt = (F 105 8).toInt := (congrArg Int32.toInt (g13.1 105 8 rfl rfl)).trans rfl
    have q20 : (1) ≤ (x2_9).toInt ∧ (x2_9).toInt ≤ (8) := (show B 1 8 (x2_9) from B_w b18 (by decide +kernel) (by decide +kernel))
    have i21 : (T10 105 8).toInt ≤ (x2_9).toInt := i_le hq17
    have g22 := agc_tr (agc_refl (fs := [7306]) (rs := [77, 999]) (F := F)) g13 (by decide +kernel) (by decide +kernel)
    have e23 : (T10 105 2).toInt = (F 105 2).toInt := (congrArg Int32.toInt (g13.1 105 2 rfl rfl)).trans rfl
    exact hK hI12 g22 (qf_le (b' := (T10 73 6).toInt) (lo' := 0) (hi' := (64 * (T10 105 2).toInt) - 1) r14 (by omega) (by omega) (by omega)) r15
  · have hq24 := (nle_lt hc)
    have b25 : B 0 7 (x2_9) := B_w (B_ltL b11 (B_eq (g13.1 105 8 rfl rfl) (show B 1 8 (F 105 8) from hI 105 8)) hq24) (by decide +kernel) (by decide +kernel)
    have q26 : (0) ≤ (x2_9).toInt ∧ (x2_9).toInt ≤ (7) := (show B 0 7 (x2_9) from B_w b25 (by decide +kernel) (by decide +kernel))
    have e27 : (T10 105 8).toInt = (F 105 8).toInt := (congrArg Int32.toInt (g13.1 105 8 rfl rfl)).trans rfl
    have i28 : (x2_9).toInt < (T10 105 8).toInt := i_lt hq24
    have e36 : (T10 105 2).toInt = (F 105 2).toInt := (congrArg Int32.toInt (g13.1 105 2 rfl rfl)).trans rfl
    refine ⟨fun yx1 yx2 yx3 yS => (105 : Nat) = yx1 ∧ x2_9 = yx2 ∧ B 0 8 yx3 ∧ ∃ (T32 : cF) (LT32 : cL), yS = (T32, LT32, PC true b P) ∧ IMc T32 ∧ agc [7306] [77, 999] T10 T32 ∧ (qf (T32 77) 0 (T32 73 6).toInt 0 ((64 * (T32 105 2).toInt) - 1)) ∧ (ZQ T32), fun yx1 yx2 yx3 yS => (8 - yx3.toInt).toNat, ⟨rfl, rfl, (B_w cqb_0_0_0 (by decide +kernel) (by decide +kernel)), _, _, rfl, hI12, (agc_refl (fs := [7306]) (rs := [77, 999]) (F := T10)), (qf_le (b' := (T10 73 6).toInt) (lo' := 0) (hi' := (64 * (T10 105 2).toInt) - 1) r14 (by omega) (by omega) (by omega)), r15⟩, fun x1_29 x2_30 x3_31 ST32 hIv => ?_⟩
    obtain ⟨rfl, rfl, b33, T32, LT32, rfl, hI34, g35, r37, r38⟩ := hIv
    suffices hs : ∀ (R12 : Nat → Int32 → Int32 → cs → Prop), (∀ zx1 zx2 zx3 zS, ((105 : Nat) = zx1 ∧ x2_9 = zx2 ∧ B 0 8 zx3 ∧ ∃ (T32 : cF) (LT32 : cL), zS = (T32, LT32, PC true b P) ∧ IMc T32 ∧ agc [7306] [77, 999] T10 T32 ∧ (qf (T32 77) 0 (T32 73 6).toInt 0 ((64 * (T32 105 2).toInt) - 1)) ∧ (ZQ T32)) → (8 - zx3.toInt).toNat < (8 - x3_31.toInt).toNat → R12 zx1 zx2 zx3 zS) → b_Sc_arrangeTogether_12 UL 73 105 x2_9 x3_31 (T32, LT32, PC true b P) R2 R12 K from hs _ (fun _ _ _ _ h1 h2 => ⟨h1, h2⟩)
    intro R12 hR120
    have hR12 := fun {zx1} {zx2} {zx3} {zS} => hR120 zx1 zx2 zx3 zS
    have q39 : (0) ≤ (T32 73 6).toInt ∧ (T32 73 6).toInt ≤ (192) := (show B 0 192 (T32 73 6) from hI34 73 6)
    unfold b_Sc_arrangeTogether_12
    refine ⟨(show c_cl UL 105 = 7 from cl_105), ?_⟩
    refine ⟨fun hc => ?_, fun hc => ?_⟩
    · have hq40 := hc
      have b41 : B 1 8 (x3_31) := B_w (B_leR (B_eq ((g35.1 105 7 rfl rfl).trans (g13.1 105 7 rfl rfl)) (show B 1 8 (F 105 7) from hI 105 7)) b33 hq40) (by decide +kernel) (by decide +kernel)
      have e42 : (T32 105 7).toInt = (F 105 7).toInt := (congrArg Int32.toInt ((g35.1 105 7 rfl rfl).trans (g13.1 105 7 rfl rfl))).trans rfl
      have q43 : (1) ≤ (x3_31).toInt ∧ (x3_31).toInt ≤ (8) := (show B 1 8 (x3_31) from B_w b41 (by decide +kernel) (by decide +kernel))
      have i44 : (T32 105 7).toInt ≤ (x3_31).toInt := i_le hq40
      have g46 := agc_tr (agc_refl (fs := [7306]) (rs := [77, 999]) (F := F)) g13 (by decide +kernel) (by decide +kernel)
      have g45 := agc_tr g46 g35 (by decide +kernel) (by decide +kernel)
      have e47 : (T32 105 2).toInt = (F 105 2).toInt := (congrArg Int32.toInt ((g35.1 105 2 rfl rfl).trans (g13.1 105 2 rfl rfl))).trans rfl
      have e48 : (x2_9 + 1).toInt = ((x2_9).toInt + 1) := (t_add b25 cqb_1_1_1 (by decide +kernel) (by decide +kernel)).trans (by rw [cqn_1])
      have q49 : (1) ≤ (x2_9 + 1).toInt ∧ (x2_9 + 1).toInt ≤ (8) := (show B 1 8 (x2_9 + 1) from B_w (B_add b25 cqb_1_1_1 (by decide +kernel) (by decide +kernel)) (by decide +kernel) (by decide +kernel))
      exact hR2 ⟨rfl, (B_w (B_add b25 cqb_1_1_1 (by decide +kernel) (by decide +kernel)) (by decide +kernel) (by decide +kernel)), _, _, rfl, hI34, g45, (qf_le (b' := (T32 73 6).toInt) (lo' := 0) (hi' := (64 * (T32 105 2).toInt) - 1) r37 (by omega) (by omega) (by omega)), r38⟩ (by show (8 - (x2_9 + 1).toInt).toNat < (8 - x2_9.toInt).toNat; omega)
    · have hq50 := (nle_lt hc)
      have b51 : B 0 7 (x3_31) := B_w (B_ltL b33 (B_eq ((g35.1 105 7 rfl rfl).trans (g13.1 105 7 rfl rfl)) (show B 1 8 (F 105 7) from hI 105 7)) hq50) (by decide +kernel) (by decide +kernel)
      have q52 : (0) ≤ (x3_31).toInt ∧ (x3_31).toInt ≤ (7) := (show B 0 7 (x3_31) from B_w b51 (by decide +kernel) (by decide +kernel))
      have e53 : (T32 105 7).toInt = (F 105 7).toInt := (congrArg Int32.toInt ((g35.1 105 7 rfl rfl).trans (g13.1 105 7 rfl rfl))).trans rfl
      have i54 : (x3_31).toInt < (T32 105 7).toInt := i_lt hq50
      have e63 : (T32 105 2).toInt = (F 105 2).toInt := (congrArg Int32.toInt ((g35.1 105 2 rfl rfl).trans (g13.1 105 2 rfl rfl))).trans rfl
      refine ⟨fun yx1 yx2 yx3 yx4 yS => (105 : Nat) = yx1 ∧ x2_9 = yx2 ∧ x3_31 = yx3 ∧ B 0 3 yx4 ∧ ∃ (T59 : cF) (LT59 : cL), yS = (T59, LT59, PC true b P) ∧ IMc T59 ∧ agc [7306] [77, 999] T32 T59 ∧ (qf (T59 77) 0 (T59 73 6).toInt 0 ((64 * (T59 105 2).toInt) - 1)) ∧ (ZQ T59), fun yx1 yx2 yx3 yx4 yS => (3 - yx4.toInt).toNat, ⟨rfl, rfl, rfl, (B_w cqb_0_0_0 (by decide +kernel) (by decide +kernel)), _, _, rfl, hI34, (agc_refl (fs := [7306]) (rs := [77, 999]) (F := T32)), (qf_le (b' := (T32 73 6).toInt) (lo' := 0) (hi' := (64 * (T32 105 2).toInt) - 1) r37 (by omega) (by omega) (by omega)), r38⟩, fun x1_55 x2_56 x3_57 x4_58 ST59 hIv => ?_⟩
      obtain ⟨rfl, rfl, rfl, b60, T59, LT59, rfl, hI61, g62, r64, r65⟩ := hIv
      suffices hs : ∀ (R23 : Nat → Int32 → Int32 → Int32 → cs → Prop), (∀ zx1 zx2 zx3 zx4 zS, ((105 : Nat) = zx1 ∧ x2_9 = zx2 ∧ x3_31 = zx3 ∧ B 0 3 zx4 ∧ ∃ (T59 : cF) (LT59 : cL), zS = (T59, LT59, PC true b P) ∧ IMc T59 ∧ agc [7306] [77, 999] T32 T59 ∧ (qf (T59 77) 0 (T59 73 6).toInt 0 ((64 * (T59 105 2).toInt) - 1)) ∧ (ZQ T59)) → (3 - zx4.toInt).toNat < (3 - x4_58.toInt).toNat → R23 zx1 zx2 zx3 zx4 zS) → b_Sc_arrangeTogether_23 UL 73 105 x2_9 x3_31 x4_58 (T59, LT59, PC true b P) R2 R12 R23 K from hs _ (fun _ _ _ _ _ h1 h2 => ⟨h1, h2⟩)
      intro R23 hR230
      have hR23 := fun {zx1} {zx2} {zx3} {zx4} {zS} => hR230 zx1 zx2 zx3 zx4 zS
      have q66 : (0) ≤ (T59 73 6).toInt ∧ (T59 73 6).toInt ≤ (192) := (show B 0 192 (T59 73 6) from hI61 73 6)
      unfold b_Sc_arrangeTogether_23
      refine ⟨fun hc => ?_, fun hc => ?_⟩
      · have hq67 := hc
        have e68 : (T59 73 0).toInt = (F 73 0).toInt := (congrArg Int32.toInt (((g62.1 73 0 rfl rfl).trans (g35.1 73 0 rfl rfl)).trans (g13.1 73 0 rfl rfl))).trans rfl
        have q69 : (0) ≤ (x4_58).toInt ∧ (x4_58).toInt ≤ (3) := (show B 0 3 (x4_58) from B_w b60 (by decide +kernel) (by decide +kernel))
        have i70 : (T59 73 0).toInt ≤ (x4_58).toInt := i_le hq67
        have g72 := agc_tr (agc_refl (fs := [7306]) (rs := [77, 999]) (F := T10)) g35 (by decide +kernel) (by decide +kernel)
        have g71 := agc_tr g72 g62 (by decide +kernel) (by decide +kernel)
        have e73 : (T59 105 2).toInt = (F 105 2).toInt := (congrArg Int32.toInt (((g62.1 105 2 rfl rfl).trans (g35.1 105 2 rfl rfl)).trans (g13.1 105 2 rfl rfl))).trans rfl
        have e74 : (x3_31 + 1).toInt = ((x3_31).toInt + 1) := (t_add b51 cqb_1_1_1 (by decide +kernel) (by decide +kernel)).trans (by rw [cqn_1])
        have q75 : (1) ≤ (x3_31 + 1).toInt ∧ (x3_31 + 1).toInt ≤ (8) := (show B 1 8 (x3_31 + 1) from B_w (B_add b51 cqb_1_1_1 (by decide +kernel) (by decide +kernel)) (by decide +kernel) (by decide +kernel))
        exact hR12 ⟨rfl, rfl, (B_w (B_add b51 cqb_1_1_1 (by decide +kernel) (by decide +kernel)) (by decide +kernel) (by decide +kernel)), _, _, rfl, hI61, g71, (qf_le (b' := (T59 73 6).toInt) (lo' := 0) (hi' := (64 * (T59 105 2).toInt) - 1) r64 (by omega) (by omega) (by omega)), r65⟩ (by show (8 - (x3_31 + 1).toInt).toNat < (8 - x3_31.toInt).toNat; omega)
      · have hq76 := (nle_lt hc)
        have b77 : B 0 2 (x4_58) := B_w (B_ltL b60 (B_eq (((g62.1 73 0 rfl rfl).trans (g35.1 73 0 rfl rfl)).trans (g13.1 73 0 rfl rfl)) (show B 0 3 (F 73 0) from hI 73 0)) hq76) (by decide +kernel) (by decide +kernel)
        have b78 : B 1 3 (F 73 0) := B_w (B_eq (Eq.symm (((g62.1 73 0 rfl rfl).trans (g35.1 73 0 rfl rfl)).trans (g13.1 73 0 rfl rfl))) (B_ltR b60 (B_eq (((g62.1 73 0 rfl rfl).trans (g35.1 73 0 rfl rfl)).trans (g13.1 73 0 rfl rfl)) (show B 0 3 (F 73 0) from hI 73 0)) hq76)) (by decide +kernel) (by decide +kernel)
        have q79 : (1) ≤ (F 73 0).toInt ∧ (F 73 0).toInt ≤ (3) := (show B 1 3 (F 73 0) from B_w b78 (by decide +kernel) (by decide +kernel))
        have q80 : (0) ≤ (x4_58).toInt ∧ (x4_58).toInt ≤ (2) := (show B 0 2 (x4_58) from B_w b77 (by decide +kernel) (by decide +kernel))
        have e81 : (T59 73 0).toInt = (F 73 0).toInt := (congrArg Int32.toInt (((g62.1 73 0 rfl rfl).trans (g35.1 73 0 rfl rfl)).trans (g13.1 73 0 rfl rfl))).trans rfl
        have i82 : (x4_58).toInt < (T59 73 0).toInt := i_lt hq76
        refine ⟨(show ¬ ((74 : Nat) = NU) from by decide +kernel), ?_⟩
        refine ⟨(show c_cl UL 74 = 902 from cl_74), ?_⟩
        refine ⟨(show vp_in (x4_58) 3 from vp_B b77 (by decide +kernel) (by decide +kernel)), ?_⟩
        have r83 : 0 ≤ (F 74 x4_58.toNatClampNeg).toInt ∧ (F 74 x4_58.toNatClampNeg).toInt ≤ ((F 105 2).toInt - 1) := qf_at pre1 (x := x4_58) (by omega) (by omega)
        have e84 : (T59 105 2).toInt = (F 105 2).toInt := (congrArg Int32.toInt (((g62.1 105 2 rfl rfl).trans (g35.1 105 2 rfl rfl)).trans (g13.1 105 2 rfl rfl))).trans rfl
        have q85 : (0) ≤ (F 74 x4_58.toNatClampNeg).toInt ∧ (F 74 x4_58.toNatClampNeg).toInt ≤ (2) := (show B 0 2 (F 74 x4_58.toNatClampNeg) from hI 74 x4_58.toNatClampNeg)
        have e86 : (T59 74 x4_58.toNatClampNeg).toInt = (F 74 x4_58.toNatClampNeg).toInt := (congrArg Int32.toInt (((congrFun (g62.2 74 rfl rfl) x4_58.toNatClampNeg).trans (congrFun (g35.2 74 rfl rfl) x4_58.toNatClampNeg)).trans (congrFun (g13.2 74 rfl rfl) x4_58.toNatClampNeg))).trans rfl
        have e87 : (T59 105 7).toInt = (F 105 7).toInt := (congrArg Int32.toInt (((g62.1 105 7 rfl rfl).trans (g35.1 105 7 rfl rfl)).trans (g13.1 105 7 rfl rfl))).trans rfl
        have e88 : (T59 105 8).toInt = (F 105 8).toInt := (congrArg Int32.toInt (((g62.1 105 8 rfl rfl).trans (g35.1 105 8 rfl rfl)).trans (g13.1 105 8 rfl rfl))).trans rfl
        have e89 : (T59 105 5).toInt = (F 105 5).toInt := (congrArg Int32.toInt (((g62.1 105 5 rfl rfl).trans (g35.1 105 5 rfl rfl)).trans (g13.1 105 5 rfl rfl))).trans rfl
        have e90 : (T59 105 6).toInt = (F 105 6).toInt := (congrArg Int32.toInt (((g62.1 105 6 rfl rfl).trans (g35.1 105 6 rfl rfl)).trans (g13.1 105 6 rfl rfl))).trans rfl
        have g93 := agc_tr (agc_refl (fs := [7306]) (rs := [77, 999]) (F := F)) g13 (by decide +kernel) (by decide +kernel)
        have g92 := agc_tr g93 g35 (by decide +kernel) (by decide +kernel)
        have g91 := agc_tr g92 g62 (by decide +kernel) (by decide +kernel)
        refine h_Sc_addStretch_u73_x1105_a1 (B_w (B_eq (((congrFun (g62.2 74 rfl rfl) x4_58.toNatClampNeg).trans (congrFun (g35.2 74 rfl rfl) x4_58.toNatClampNeg)).trans (congrFun (g13.2 74 rfl rfl) x4_58.toNatClampNeg)) (show B 0 2 (F 74 x4_58.toNatClampNeg) from hI 74 x4_58.toNatClampNeg)) (by decide +kernel) (by decide +kernel)) b51 b25 hI61 (qf_le (b' := (T59 73 6).toInt) (lo' := 0) (hi' := (64 * (T59 105 2).toInt) - 1) r64 (by omega) (by omega) (by omega)) (by show (T59 74 x4_58.toNatClampNeg).toInt < (T59 105 2).toInt; first | with_reducible assumption | omega) (by show x3_31.toInt < (T59 105 7).toInt; first | with_reducible assumption | omega) (by show x2_9.toInt < (T59 105 8).toInt; first | with_reducible assumption | omega) (qf_eq (((g62.2 106 rfl rfl).trans (g35.2 106 rfl rfl)).trans (g13.2 106 rfl rfl)) (qf_le (b' := (T59 105 2).toInt) (lo' := 1) (hi' := (T59 105 5).toInt) pre2 (by omega) (by omega) (by omega))) (qf_eq (((g62.2 107 rfl rfl).trans (g35.2 107 rfl rfl)).trans (g13.2 107 rfl rfl)) (qf_le (b' := (T59 105 2).toInt) (lo' := 1) (hi' := (T59 105 6).toInt) pre3 (by omega) (by omega) (by omega))) (by show ((T59 105 5).toInt = 1) ∨ ((T59 105 7).toInt ≤ 4); first | with_reducible assumption | omega) (by show ((T59 105 6).toInt = 1) ∨ ((T59 105 8).toInt ≤ 4); first | with_reducible assumption | omega) r65 ((show LSQ T59 from (LSQ_ag (F := F) (G := T59) pre7 hI g91 (by decide +kernel) rfl rfl)) (x4_58) (by omega) (by omega)) (fun {FS43_94} {LFS43_94} hI95 g96 r97 r98 => ?_)
        have r99 : qf (FS43_94 77) 0 (FS43_94 73 6).toInt 0 ((64 * (FS43_94 105 2).toInt) - 1) := r97
        clear r97
        have q100 : (0) ≤ (FS43_94 73 6).toInt ∧ (FS43_94 73 6).toInt ≤ (192) := (show B 0 192 (FS43_94 73 6) from hI95 73 6)
        have r101 : ZQ FS43_94 := r98
        clear r98
        have g103 := agc_tr (agc_refl (fs := [7306]) (rs := [77, 999]) (F := T32)) g62 (by decide +kernel) (by decide +kernel)
        have g102 := agc_tr g103 g96 (by decide +kernel) (by decide +kernel)
        have e104 : (FS43_94 105 2).toInt = (F 105 2).toInt := (congrArg Int32.toInt ((((g96.1 105 2 rfl rfl).trans (g62.1 105 2 rfl rfl)).trans (g35.1 105 2 rfl rfl)).trans (g13.1 105 2 rfl rfl))).trans rfl
        have e105 : (x4_58 + 1).toInt = ((x4_58).toInt + 1) := (t_add b77 cqb_1_1_1 (by decide +kernel) (by decide +kernel)).trans (by rw [cqn_1])
        have q106 : (1) ≤ (x4_58 + 1).toInt ∧ (x4_58 + 1).toInt ≤ (3) := (show B 1 3 (x4_58 + 1) from B_w (B_add b77 cqb_1_1_1 (by decide +kernel) (by decide +kernel)) (by decide +kernel) (by decide +kernel))
        exact hR23 ⟨rfl, rfl, rfl, (B_w (B_add b77 cqb_1_1_1 (by decide +kernel) (by decide +kernel)) (by decide +kernel) (by decide +kernel)), _, _, rfl, hI95, g102, (qf_le (b' := (FS43_94 73 6).toInt) (lo' := 0) (hi' := (64 * (FS43_94 105 2).toInt) - 1) r99 (by omega) (by omega) (by omega)), r101⟩ (by show (3 - (x4_58 + 1).toInt).toNat < (3 - x4_58.toInt).toNat; omega)
set_option maxRecDepth 20000 in
set_option maxHeartbeats 4000000 in
theorem h_Sc_arrangeAlone_u73_x1105_a1 {b : Bool} {P : Nat → Nat → Nat} {x2 : Int32} {F : cF} {L : cL} {K : cs → Prop} (b_x2 : B 0 2 x2) (hI : IMc F) (pre0 : qf (F 77) 0 (F 73 6).toInt 0 ((64 * (F 105 2).toInt) - 1)) (pre1 : x2.toInt < (F 105 2).toInt) (pre2 : ZQ F) (pre3 : cz x2 F) (hK : ∀ {Z : cF} {LZ : cL}, IMc Z → agc [7306] [77, 999] F Z → (qf (Z 77) 0 (Z 73 6).toInt 0 ((64 * (Z 105 2).toInt) - 1)) → (ZQ Z) → K (Z, LZ, PC true b P)) : p_Sc_arrangeAlone UL 73 105 x2 (F, L, PC true b P) K := by
  have q1 : (0) ≤ (F 73 6).toInt ∧ (F 73 6).toInt ≤ (192) := (show B 0 192 (F 73 6) from hI 73 6)
  have q2 : (0) ≤ (x2).toInt ∧ (x2).toInt ≤ (2) := (show B 0 2 (x2) from B_w b_x2 (by decide +kernel) (by decide +kernel))
  have q3 : (1) ≤ (F 105 2).toInt ∧ (F 105 2).toInt ≤ (3) := (show B 1 3 (F 105 2) from hI 105 2)
  unfold p_Sc_arrangeAlone
  refine ⟨fun yx1 yx2 yx3 yS => (105 : Nat) = yx1 ∧ x2 = yx2 ∧ B 0 9 yx3 ∧ ∃ (T7 : cF) (LT7 : cL), yS = (T7, LT7, PC true b P) ∧ IMc T7 ∧ agc [7306] [77, 999] F T7 ∧ (qf (T7 77) 0 (T7 73 6).toInt 0 ((64 * (T7 105 2).toInt) - 1)) ∧ (ZQ T7), fun yx1 yx2 yx3 yS => (9 - yx3.toInt).toNat, ⟨rfl, rfl, (B_w cqb_0_0_0 (by decide +kernel) (by decide +kernel)), _, _, rfl, hI, (agc_refl (fs := [7306]) (rs := [77, 999]) (F := F)), (qf_le (b' := (F 73 6).toInt) (lo' := 0) (hi' := (64 * (F 105 2).toInt) - 1) pre0 (by omega) (by omega) (by omega)), pre2⟩, fun x1_4 x2_5 x3_6 ST7 hIv => ?_⟩
  obtain ⟨rfl, rfl, b8, T7, LT7, rfl, hI9, g10, r11, r12⟩ := hIv
  suffices hs : ∀ (R2 : Nat → Int32 → Int32 → cs → Prop), (∀ zx1 zx2 zx3 zS, ((105 : Nat) = zx1 ∧ x2 = zx2 ∧ B 0 9 zx3 ∧ ∃ (T7 : cF) (LT7 : cL), zS = (T7, LT7, PC true b P) ∧ IMc T7 ∧ agc [7306] [77, 999] F T7 ∧ (qf (T7 77) 0 (T7 73 6).toInt 0 ((64 * (T7 105 2).toInt) - 1)) ∧ (ZQ T7)) → (9 - zx3.toInt).toNat < (9 - x3_6.toInt).toNat → R2 zx1 zx2 zx3 zS) → b_Sc_arrangeAlone_2 UL 73 105 x2 x3_6 (T7, LT7, PC true b P) R2 K from hs _ (fun _ _ _ _ h1 h2 => ⟨h1, h2⟩)
  intro R2 hR20
  have hR2 := fun {zx1} {zx2} {zx3} {zS} => hR20 zx1 zx2 zx3 zS
  have q13 : (0) ≤ (T7 73 6).toInt ∧ (T7 73 6).toInt ≤ (192) := (show B 0 192 (T7 73 6) from hI9 73 6)
  unfold b_Sc_arrangeAlone_2
  refine ⟨(show c_cl UL 105 = 7 from cl_105), ?_⟩
  refine ⟨(show ¬ ((109 : Nat) = NU) from by decide +kernel), ?_⟩
  refine ⟨(show c_cl UL 109 = 902 from cl_109), ?_⟩
  refine ⟨(show vp_in (x2) 3 from vp_B b_x2 (by decide +kernel) (by decide +kernel)), ?_⟩
  refine ⟨fun hc => ?_, fun hc => ?_⟩
  · have hq14 := hc
    have q15 : (0) ≤ (F 109 x2.toNatClampNeg).toInt ∧ (F 109 x2.toNatClampNeg).toInt ≤ (64) := (show B 0 64 (F 109 x2.toNatClampNeg) from hI 109 x2.toNatClampNeg)
    have e16 : (T7 109 x2.toNatClampNeg).toInt = (F 109 x2.toNatClampNeg).toInt := (congrArg Int32.toInt (congrFun (g10.2 109 rfl rfl) x2.toNatClampNeg)).trans rfl
    have q17 : (0) ≤ (x3_6).toInt ∧ (x3_6).toInt ≤ (9) := (show B 0 9 (x3_6) from B_w b8 (by decide +kernel) (by decide +kernel))
    have e18 : (8 * x3_6).toInt = (8 * (x3_6).toInt) := (t_mul cqb_8_8_8 b8 (by decide +kernel) (by decide +kernel) (by decide +kernel)).trans (by rw [cqn_8])
    have q19 : (0) ≤ (8 * x3_6).toInt ∧ (8 * x3_6).toInt ≤ (72) := (show B 0 72 (8 * x3_6) from B_w (B_mul cqb_8_8_8 b8 (by decide +kernel) (by decide +kernel) (by decide +kernel)) (by decide +kernel) (by decide +kernel))
    have i20 : (T7 109 x2.toNatClampNeg).toInt ≤ (8 * x3_6).toInt := i_le hq14
    have g21 := agc_tr (agc_refl (fs := [7306]) (rs := [77, 999]) (F := F)) g10 (by decide +kernel) (by decide +kernel)
    have e22 : (T7 105 2).toInt = (F 105 2).toInt := (congrArg Int32.toInt (g10.1 105 2 rfl rfl)).trans rfl
    exact hK hI9 g21 (qf_le (b' := (T7 73 6).toInt) (lo' := 0) (hi' := (64 * (T7 105 2).toInt) - 1) r11 (by omega) (by omega) (by omega)) r12
  · have hq23 := (nle_lt hc)
    have b24 : B 0 63 (8 * x3_6) := B_w (B_ltL (B_mul cqb_8_8_8 b8 (by decide +kernel) (by decide +kernel) (by decide +kernel)) (B_eq (congrFun (g10.2 109 rfl rfl) x2.toNatClampNeg) (show B 0 64 (F 109 x2.toNatClampNeg) from hI 109 x2.toNatClampNeg)) hq23) (by decide +kernel) (by decide +kernel)
    have b25 : B 1 64 (F 109 x2.toNatClampNeg) := B_w (B_eq (Eq.symm (congrFun (g10.2 109 rfl rfl) x2.toNatClampNeg)) (B_ltR (B_mul cqb_8_8_8 b8 (by decide +kernel) (by decide +kernel) (by decide +kernel)) (B_eq (congrFun (g10.2 109 rfl rfl) x2.toNatClampNeg) (show B 0 64 (F 109 x2.toNatClampNeg) from hI 109 x2.toNatClampNeg)) hq23)) (by decide +kernel) (by decide +kernel)
    have q26 : (0) ≤ (x3_6).toInt ∧ (x3_6).toInt ≤ (9) := (show B 0 9 (x3_6) from B_w b8 (by decide +kernel) (by decide +kernel))
    have e27 : (8 * x3_6).toInt = (8 * (x3_6).toInt) := (t_mul cqb_8_8_8 b8 (by decide +kernel) (by decide +kernel) (by decide +kernel)).trans (by rw [cqn_8])
    have q28 : (0) ≤ (8 * x3_6).toInt ∧ (8 * x3_6).toInt ≤ (63) := (show B 0 63 (8 * x3_6) from B_w b24 (by decide +kernel) (by decide +kernel))
    have q29 : (1) ≤ (F 109 x2.toNatClampNeg).toInt ∧ (F 109 x2.toNatClampNeg).toInt ≤ (64) := (show B 1 64 (F 109 x2.toNatClampNeg) from B_w b25 (by decide +kernel) (by decide +kernel))
    have e30 : (T7 109 x2.toNatClampNeg).toInt = (F 109 x2.toNatClampNeg).toInt := (congrArg Int32.toInt (congrFun (g10.2 109 rfl rfl) x2.toNatClampNeg)).trans rfl
    have i31 := i_lt hq23
    have b32 : B 0 7 (x3_6) := ⟨by omega, by omega⟩
    have i33 : (8 * x3_6).toInt < (T7 109 x2.toNatClampNeg).toInt := i_lt hq23
    have e42 : (T7 105 2).toInt = (F 105 2).toInt := (congrArg Int32.toInt (g10.1 105 2 rfl rfl)).trans rfl
    refine ⟨fun yx1 yx2 yx3 yx4 yS => (105 : Nat) = yx1 ∧ x2 = yx2 ∧ x3_6 = yx3 ∧ B 0 9 yx4 ∧ ∃ (T38 : cF) (LT38 : cL), yS = (T38, LT38, PC true b P) ∧ IMc T38 ∧ agc [7306] [77, 999] T7 T38 ∧ (qf (T38 77) 0 (T38 73 6).toInt 0 ((64 * (T38 105 2).toInt) - 1)) ∧ (ZQ T38), fun yx1 yx2 yx3 yx4 yS => (9 - yx4.toInt).toNat, ⟨rfl, rfl, rfl, (B_w cqb_0_0_0 (by decide +kernel) (by decide +kernel)), _, _, rfl, hI9, (agc_refl (fs := [7306]) (rs := [77, 999]) (F := T7)), (qf_le (b' := (T7 73 6).toInt) (lo' := 0) (hi' := (64 * (T7 105 2).toInt) - 1) r11 (by omega) (by omega) (by omega)), r12⟩, fun x1_34 x2_35 x3_36 x4_37 ST38 hIv => ?_⟩
    obtain ⟨rfl, rfl, rfl, b39, T38, LT38, rfl, hI40, g41, r43, r44⟩ := hIv
    suffices hs : ∀ (R18 : Nat → Int32 → Int32 → Int32 → cs → Prop), (∀ zx1 zx2 zx3 zx4 zS, ((105 : Nat) = zx1 ∧ x2 = zx2 ∧ x3_6 = zx3 ∧ B 0 9 zx4 ∧ ∃ (T38 : cF) (LT38 : cL), zS = (T38, LT38, PC true b P) ∧ IMc T38 ∧ agc [7306] [77, 999] T7 T38 ∧ (qf (T38 77) 0 (T38 73 6).toInt 0 ((64 * (T38 105 2).toInt) - 1)) ∧ (ZQ T38)) → (9 - zx4.toInt).toNat < (9 - x4_37.toInt).toNat → R18 zx1 zx2 zx3 zx4 zS) → b_Sc_arrangeAlone_18 UL 73 105 x2 x3_6 x4_37 (T38, LT38, PC true b P) R2 R18 K from hs _ (fun _ _ _ _ _ h1 h2 => ⟨h1, h2⟩)
    intro R18 hR180
    have hR18 := fun {zx1} {zx2} {zx3} {zx4} {zS} => hR180 zx1 zx2 zx3 zx4 zS
    have q45 : (0) ≤ (T38 73 6).toInt ∧ (T38 73 6).toInt ≤ (192) := (show B 0 192 (T38 73 6) from hI40 73 6)
    unfold b_Sc_arrangeAlone_18
    refine ⟨(show c_cl UL 105 = 7 from cl_105), ?_⟩
    refine ⟨(show ¬ ((108 : Nat) = NU) from by decide +kernel), ?_⟩
    refine ⟨(show c_cl UL 108 = 902 from cl_108), ?_⟩
    refine ⟨(show vp_in (x2) 3 from vp_B b_x2 (by decide +kernel) (by decide +kernel)), ?_⟩
    refine ⟨fun hc => ?_, fun hc => ?_⟩
    · have hq46 := hc
      have q47 : (0) ≤ (F 108 x2.toNatClampNeg).toInt ∧ (F 108 x2.toNatClampNeg).toInt ≤ (64) := (show B 0 64 (F 108 x2.toNatClampNeg) from hI 108 x2.toNatClampNeg)
      have e48 : (T38 108 x2.toNatClampNeg).toInt = (F 108 x2.toNatClampNeg).toInt := (congrArg Int32.toInt ((congrFun (g41.2 108 rfl rfl) x2.toNatClampNeg).trans (congrFun (g10.2 108 rfl rfl) x2.toNatClampNeg))).trans rfl
      have q49 : (0) ≤ (x4_37).toInt ∧ (x4_37).toInt ≤ (9) := (show B 0 9 (x4_37) from B_w b39 (by decide +kernel) (by decide +kernel))
      have e50 : (8 * x4_37).toInt = (8 * (x4_37).toInt) := (t_mul cqb_8_8_8 b39 (by decide +kernel) (by decide +kernel) (by decide +kernel)).trans (by rw [cqn_8])
      have q51 : (0) ≤ (8 * x4_37).toInt ∧ (8 * x4_37).toInt ≤ (72) := (show B 0 72 (8 * x4_37) from B_w (B_mul cqb_8_8_8 b39 (by decide +kernel) (by decide +kernel) (by decide +kernel)) (by decide +kernel) (by decide +kernel))
      have i52 : (T38 108 x2.toNatClampNeg).toInt ≤ (8 * x4_37).toInt := i_le hq46
      have g54 := agc_tr (agc_refl (fs := [7306]) (rs := [77, 999]) (F := F)) g10 (by decide +kernel) (by decide +kernel)
      have g53 := agc_tr g54 g41 (by decide +kernel) (by decide +kernel)
      have e55 : (T38 105 2).toInt = (F 105 2).toInt := (congrArg Int32.toInt ((g41.1 105 2 rfl rfl).trans (g10.1 105 2 rfl rfl))).trans rfl
      have e56 : (x3_6 + 1).toInt = ((x3_6).toInt + 1) := (t_add b32 cqb_1_1_1 (by decide +kernel) (by decide +kernel)).trans (by rw [cqn_1])
      have q57 : (1) ≤ (x3_6 + 1).toInt ∧ (x3_6 + 1).toInt ≤ (8) := (show B 1 8 (x3_6 + 1) from B_w (B_add b32 cqb_1_1_1 (by decide +kernel) (by decide +kernel)) (by decide +kernel) (by decide +kernel))
      exact hR2 ⟨rfl, rfl, (B_w (B_add b32 cqb_1_1_1 (by decide +kernel) (by decide +kernel)) (by decide +kernel) (by decide +kernel)), _, _, rfl, hI40, g53, (qf_le (b' := (T38 73 6).toInt) (lo' := 0) (hi' := (64 * (T38 105 2).toInt) - 1) r43 (by omega) (by omega) (by omega)), r44⟩ (by show (9 - (x3_6 + 1).toInt).toNat < (9 - x3_6.toInt).toNat; omega)
    · have hq58 := (nle_lt hc)
      have b59 : B 0 63 (8 * x4_37) := B_w (B_ltL (B_mul cqb_8_8_8 b39 (by decide +kernel) (by decide +kernel) (by decide +kernel)) (B_eq ((congrFun (g41.2 108 rfl rfl) x2.toNatClampNeg).trans (congrFun (g10.2 108 rfl rfl) x2.toNatClampNeg)) (show B 0 64 (F 108 x2.toNatClampNeg) from hI 108 x2.toNatClampNeg)) hq58) (by decide +kernel) (by decide +kernel)
      have b60 : B 1 64 (F 108 x2.toNatClampNeg) := B_w (B_eq (Eq.symm ((congrFun (g41.2 108 rfl rfl) x2.toNatClampNeg).trans (congrFun (g10.2 108 rfl rfl) x2.toNatClampNeg))) (B_ltR (B_mul cqb_8_8_8 b39 (by decide +kernel) (by decide +kernel) (by decide +kernel)) (B_eq ((congrFun (g41.2 108 rfl rfl) x2.toNatClampNeg).trans (congrFun (g10.2 108 rfl rfl) x2.toNatClampNeg)) (show B 0 64 (F 108 x2.toNatClampNeg) from hI 108 x2.toNatClampNeg)) hq58)) (by decide +kernel) (by decide +kernel)
      have q61 : (0) ≤ (x4_37).toInt ∧ (x4_37).toInt ≤ (9) := (show B 0 9 (x4_37) from B_w b39 (by decide +kernel) (by decide +kernel))
      have e62 : (8 * x4_37).toInt = (8 * (x4_37).toInt) := (t_mul cqb_8_8_8 b39 (by decide +kernel) (by decide +kernel) (by decide +kernel)).trans (by rw [cqn_8])
      have q63 : (0) ≤ (8 * x4_37).toInt ∧ (8 * x4_37).toInt ≤ (63) := (show B 0 63 (8 * x4_37) from B_w b59 (by decide +kernel) (by decide +kernel))
      have q64 : (1) ≤ (F 108 x2.toNatClampNeg).toInt ∧ (F 108 x2.toNatClampNeg).toInt ≤ (64) := (show B 1 64 (F 108 x2.toNatClampNeg) from B_w b60 (by decide +kernel) (by decide +kernel))
      have e65 : (T38 108 x2.toNatClampNeg).toInt = (F 108 x2.toNatClampNeg).toInt := (congrArg Int32.toInt ((congrFun (g41.2 108 rfl rfl) x2.toNatClampNeg).trans (congrFun (g10.2 108 rfl rfl) x2.toNatClampNeg))).trans rfl
      have i66 := i_lt hq58
      have b67 : B 0 7 (x4_37) := ⟨by omega, by omega⟩
      have i68 : (8 * x4_37).toInt < (T38 108 x2.toNatClampNeg).toInt := i_lt hq58
      refine ⟨(show ¬ ((110 : Nat) = NU) from by decide +kernel), ?_⟩
      refine ⟨(show c_cl UL 110 = 902 from cl_110), ?_⟩
      refine ⟨(show vp_in (x2) 3 from vp_B b_x2 (by decide +kernel) (by decide +kernel)), ?_⟩
      have e69 : (T38 105 2).toInt = (F 105 2).toInt := (congrArg Int32.toInt ((g41.1 105 2 rfl rfl).trans (g10.1 105 2 rfl rfl))).trans rfl
      have g71 := agc_tr (agc_refl (fs := [7306]) (rs := [77, 999]) (F := F)) g10 (by decide +kernel) (by decide +kernel)
      have g70 := agc_tr g71 g41 (by decide +kernel) (by decide +kernel)
      refine h_Sc_addBlock_u73_a1 b_x2 (B_w (B_add (B_mul b32 (B_eq ((congrFun (g41.2 110 rfl rfl) x2.toNatClampNeg).trans (congrFun (g10.2 110 rfl rfl) x2.toNatClampNeg)) (show B 0 8 (F 110 x2.toNatClampNeg) from hI 110 x2.toNatClampNeg)) (by decide +kernel) (by decide +kernel) (by decide +kernel)) b67 (by decide +kernel) (by decide +kernel)) (by decide +kernel) (by decide +kernel)) hI40 (qf_le (b' := (T38 73 6).toInt) (lo' := 0) (hi' := (64 * (T38 105 2).toInt) - 1) r43 (by omega) (by omega) (by omega)) (by show x2.toInt < (T38 105 2).toInt; first | with_reducible assumption | omega) r44 (cz_ag (F := F) (G := T38) pre3 hI g70 (by decide +kernel)) (fun {FS45_72} {LFS45_72} hI73 g74 r75 r76 => ?_)
      have r77 : qf (FS45_72 77) 0 (FS45_72 73 6).toInt 0 ((64 * (FS45_72 105 2).toInt) - 1) := r75
      clear r75
      have q78 : (0) ≤ (FS45_72 73 6).toInt ∧ (FS45_72 73 6).toInt ≤ (192) := (show B 0 192 (FS45_72 73 6) from hI73 73 6)
      have r79 : ZQ FS45_72 := r76
      clear r76
      have g81 := agc_tr (agc_refl (fs := [7306]) (rs := [77, 999]) (F := T7)) g41 (by decide +kernel) (by decide +kernel)
      have g80 := agc_tr g81 g74 (by decide +kernel) (by decide +kernel)
      have e82 : (FS45_72 105 2).toInt = (F 105 2).toInt := (congrArg Int32.toInt (((g74.1 105 2 rfl rfl).trans (g41.1 105 2 rfl rfl)).trans (g10.1 105 2 rfl rfl))).trans rfl
      have e83 : (x4_37 + 1).toInt = ((x4_37).toInt + 1) := (t_add b67 cqb_1_1_1 (by decide +kernel) (by decide +kernel)).trans (by rw [cqn_1])
      have q84 : (1) ≤ (x4_37 + 1).toInt ∧ (x4_37 + 1).toInt ≤ (8) := (show B 1 8 (x4_37 + 1) from B_w (B_add b67 cqb_1_1_1 (by decide +kernel) (by decide +kernel)) (by decide +kernel) (by decide +kernel))
      exact hR18 ⟨rfl, rfl, rfl, (B_w (B_add b67 cqb_1_1_1 (by decide +kernel) (by decide +kernel)) (by decide +kernel) (by decide +kernel)), _, _, rfl, hI73, g80, (qf_le (b' := (FS45_72 73 6).toInt) (lo' := 0) (hi' := (64 * (FS45_72 105 2).toInt) - 1) r77 (by omega) (by omega) (by omega)), r79⟩ (by show (9 - (x4_37 + 1).toInt).toNat < (9 - x4_37.toInt).toNat; omega)
set_option maxRecDepth 20000 in
set_option maxHeartbeats 4000000 in
theorem h_Sc_arrange_u73_x1105_a1 {b : Bool} {P : Nat → Nat → Nat} {F : cF} {L : cL} {K : cs → Prop} (hI : IMc F) (pre0 : qf (F 74) 0 (F 73 0).toInt 0 ((F 105 2).toInt - 1)) (pre1 : qf (F 106) 0 (F 105 2).toInt 1 (F 105 5).toInt) (pre2 : qf (F 107) 0 (F 105 2).toInt 1 (F 105 6).toInt) (pre3 : ((F 105 5).toInt = 1) ∨ ((F 105 7).toInt ≤ 4)) (pre4 : ((F 105 6).toInt = 1) ∨ ((F 105 8).toInt ≤ 4)) (pre5 : LSQ F) (hK : ∀ {Z : cF} {LZ : cL}, IMc Z → agc [7304, 7305, 7306] [77, 999] F Z → (qf (Z 77) 0 (Z 73 6).toInt 0 ((64 * (Z 105 2).toInt) - 1)) → (UPs 73 Z) → (ZQ Z) → K (Z, LZ, PC true b P)) : p_Sc_arrange UL 73 105 (F, L, PC true b P) K := by
  have q1 : (0) ≤ (F 73 0).toInt ∧ (F 73 0).toInt ≤ (3) := (show B 0 3 (F 73 0) from hI 73 0)
  have q2 : (1) ≤ (F 105 2).toInt ∧ (F 105 2).toInt ≤ (3) := (show B 1 3 (F 105 2) from hI 105 2)
  have q3 : (1) ≤ (F 105 5).toInt ∧ (F 105 5).toInt ≤ (2) := (show B 1 2 (F 105 5) from hI 105 5)
  have q4 : (1) ≤ (F 105 7).toInt ∧ (F 105 7).toInt ≤ (8) := (show B 1 8 (F 105 7) from hI 105 7)
  have q5 : (1) ≤ (F 105 6).toInt ∧ (F 105 6).toInt ≤ (2) := (show B 1 2 (F 105 6) from hI 105 6)
  have q6 : (1) ≤ (F 105 8).toInt ∧ (F 105 8).toInt ≤ (8) := (show B 1 8 (F 105 8) from hI 105 8)
  unfold p_Sc_arrange
  have hj7 : ∀ {T8 : cF} {LT8 : cL}, IMc T8 → agc [7305, 7306] [77, 999] F T8 → (qf (T8 77) 0 (T8 73 6).toInt 0 ((64 * (T8 105 2).toInt) - 1)) → (ZQ T8) → b_Sc_arrange_46 UL 73 (T8, LT8, PC true b P) K := by
    intro T8 LT8 hI9 g10 r11 r12
    have q13 : (0) ≤ (T8 73 6).toInt ∧ (T8 73 6).toInt ≤ (192) := (show B 0 192 (T8 73 6) from hI9 73 6)
    unfold b_Sc_arrange_46
    refine ⟨fun hc => ?_, fun hc => ?_⟩
    · have hq14 := hc
      have b15 : B 1 12 (T8 73 5) := B_w (B_leR cqb_1_1_1 (show B 0 12 (T8 73 5) from hI9 73 5) hq14) (by decide +kernel) (by decide +kernel)
      refine ⟨B_nz b15 (by decide +kernel), ?_⟩
      unfold b_Sc_arrange_68
      have hI16 := IMc_u (u := 73) (i := 4) (v := (T8 73 6) / (T8 73 5)) hI9 (show B 0 192 ((T8 73 6) / (T8 73 5)) from (B_w (show B 0 192 ((T8 73 6) / (T8 73 5)) from B_div2 (show B 0 192 (T8 73 6) from hI9 73 6) b15 (by decide +kernel) (by decide +kernel) (by decide +kernel) (by decide +kernel)) (by decide +kernel) (by decide +kernel)))
      have g18 := agc_tr (agc_refl (fs := [7304, 7305, 7306]) (rs := [77, 999]) (F := F)) g10 (by decide +kernel) (by decide +kernel)
      have g17 := agc_f (u := 73) (k := 4) (v := (T8 73 6) / (T8 73 5)) g18 rfl (by decide +kernel)
      have q19 : (1) ≤ (T8 73 5).toInt ∧ (T8 73 5).toInt ≤ (12) := (show B 1 12 (T8 73 5) from B_w b15 (by decide +kernel) (by decide +kernel))
      have e20 : ((T8 73 6) / (T8 73 5)).toInt = ((T8 73 6).toInt / (T8 73 5).toInt) := (t_div (show B 0 192 (T8 73 6) from hI9 73 6) b15 (by decide +kernel) (by decide +kernel)).trans (by rfl)
      have q21 : (0) ≤ ((T8 73 6) / (T8 73 5)).toInt ∧ ((T8 73 6) / (T8 73 5)).toInt ≤ (192) := (show B 0 192 ((T8 73 6) / (T8 73 5)) from B_div2 (show B 0 192 (T8 73 6) from hI9 73 6) b15 (by decide +kernel) (by decide +kernel) (by decide +kernel) (by decide +kernel))
      have k22 : (T8 73 5).toInt * ((T8 73 6) / (T8 73 5)).toInt ≤ (T8 73 6).toInt := by rw [e20]; exact Int.mul_ediv_self_le (by omega)
      have e23 : (T8 105 2).toInt = (F 105 2).toInt := (congrArg Int32.toInt (g10.1 105 2 rfl rfl)).trans rfl
      have g24 := agc_f (u := 73) (k := 4) (v := (T8 73 6) / (T8 73 5)) (agc_refl (fs := [7304]) (rs := []) (F := T8)) rfl (by decide +kernel)
      exact hK hI16 g17 (qf_le (b' := (T8 73 6).toInt) (lo' := 0) (hi' := (64 * (T8 105 2).toInt) - 1) r11 (by omega) (by omega) (by omega)) (by show (T8 73 5).toInt * ((T8 73 6) / (T8 73 5)).toInt ≤ (T8 73 6).toInt; first | with_reducible assumption | omega) (ZQ_ag (F := T8) (G := va_up T8 73 (upd (T8 73) 4 ((T8 73 6) / (T8 73 5)))) r12 hI9 g24 (by decide +kernel) rfl rfl)
    · have hq25 := (nle_lt hc)
      have b26 : B 0 0 (T8 73 5) := B_w (B_ltL (show B 0 12 (T8 73 5) from hI9 73 5) cqb_1_1_1 hq25) (by decide +kernel) (by decide +kernel)
      unfold b_Sc_arrange_68
      have hI27 := IMc_u (u := 73) (i := 4) (v := 0) hI9 (show B 0 192 (0) from (B_w cqb_0_0_0 (by decide +kernel) (by decide +kernel)))
      have g29 := agc_tr (agc_refl (fs := [7304, 7305, 7306]) (rs := [77, 999]) (F := F)) g10 (by decide +kernel) (by decide +kernel)
      have g28 := agc_f (u := 73) (k := 4) (v := 0) g29 rfl (by decide +kernel)
      have q30 : (0) ≤ (T8 73 5).toInt ∧ (T8 73 5).toInt ≤ (0) := (show B 0 0 (T8 73 5) from B_w b26 (by decide +kernel) (by decide +kernel))
      have k31 : (T8 73 5).toInt * 0 = 0 := Int.mul_zero _
      have e32 : (T8 105 2).toInt = (F 105 2).toInt := (congrArg Int32.toInt (g10.1 105 2 rfl rfl)).trans rfl
      have g33 := agc_f (u := 73) (k := 4) (v := 0) (agc_refl (fs := [7304]) (rs := []) (F := T8)) rfl (by decide +kernel)
      exact hK hI27 g28 (qf_le (b' := (T8 73 6).toInt) (lo' := 0) (hi' := (64 * (T8 105 2).toInt) - 1) r11 (by omega) (by omega) (by omega)) (by show (T8 73 5).toInt * (0 : Int) ≤ (T8 73 6).toInt; first | with_reducible assumption | omega) (ZQ_ag (F := T8) (G := va_up T8 73 (upd (T8 73) 4 0)) r12 hI9 g33 (by decide +kernel) rfl rfl)
  refine ⟨fun hc => ?_, fun hc => ?_⟩
  · have i34 : (F 73 0).toInt ≠ (1 : Int32).toInt := i_ne hc
    have n35 : (1 : Int32).toInt = 1 := cqn_1
    have hI36 := IMc_u (u := 73) (i := 6) (v := 0) hI (show B 0 192 (0) from (B_w cqb_0_0_0 (by decide +kernel) (by decide +kernel)))
    refine h_Sc_blocksTogether_u73_x1105 hI36 (fun {v35_37} b39 => ?_)
    have hI40 := IMc_u (u := 73) (i := 5) (v := v35_37) hI36 (show B 0 12 (v35_37) from (B_w b39 (by decide +kernel) (by decide +kernel)))
    have g42 := agc_f (u := 73) (k := 6) (v := 0) (agc_refl (fs := [7305, 7306]) (rs := []) (F := F)) rfl (by decide +kernel)
    have g41 := agc_f (u := 73) (k := 5) (v := v35_37) g42 rfl (by decide +kernel)
    refine h_Sc_arrangeTogether_u73_x1105_a1 hI40 (qf_0 (b := 0) (by omega)) (qf_le (b' := (F 73 0).toInt) (lo' := 0) (hi' := (F 105 2).toInt - 1) pre0 (by omega) (by omega) (by omega)) (qf_le (b' := (F 105 2).toInt) (lo' := 1) (hi' := (F 105 5).toInt) pre1 (by omega) (by omega) (by omega)) (qf_le (b' := (F 105 2).toInt) (lo' := 1) (hi' := (F 105 6).toInt) pre2 (by omega) (by omega) (by omega)) (by show ((F 105 5).toInt = 1) ∨ ((F 105 7).toInt ≤ 4); first | with_reducible assumption | omega) (by show ((F 105 6).toInt = 1) ∨ ((F 105 8).toInt ≤ 4); first | with_reducible assumption | omega) (fun j h0 h1 => absurd (show j.toInt < 0 from h1) (by omega)) (LSQ_ag (F := F) (G := va_up (va_up F 73 (upd (F 73) 6 0)) 73 (upd ((va_up F 73 (upd (F 73) 6 0)) 73) 5 v35_37)) pre5 hI g41 (by decide +kernel) rfl rfl) (fun {FS43_43} {LFS43_43} hI44 g45 r46 r47 => ?_)
    have r48 : qf (FS43_43 77) 0 (FS43_43 73 6).toInt 0 ((64 * (FS43_43 105 2).toInt) - 1) := r46
    clear r46
    have q49 : (0) ≤ (FS43_43 73 6).toInt ∧ (FS43_43 73 6).toInt ≤ (192) := (show B 0 192 (FS43_43 73 6) from hI44 73 6)
    have r50 : ZQ FS43_43 := r47
    clear r47
    have g53 := agc_f (u := 73) (k := 6) (v := 0) (agc_refl (fs := [7305, 7306]) (rs := [77, 999]) (F := F)) rfl (by decide +kernel)
    have g52 := agc_f (u := 73) (k := 5) (v := v35_37) g53 rfl (by decide +kernel)
    have g51 := agc_tr g52 g45 (by decide +kernel) (by decide +kernel)
    have e54 : (FS43_43 105 2).toInt = (F 105 2).toInt := (congrArg Int32.toInt (g45.1 105 2 rfl rfl)).trans rfl
    exact hj7 hI44 g51 (qf_le (b' := (FS43_43 73 6).toInt) (lo' := 0) (hi' := (64 * (FS43_43 105 2).toInt) - 1) r48 (by omega) (by omega) (by omega)) r50
  · have b55 : B 1 1 (F 73 0) := B_w (B_eq hc cqb_1_1_1) (by decide +kernel) (by decide +kernel)
    have q56 : (1) ≤ (F 73 0).toInt ∧ (F 73 0).toInt ≤ (1) := (show B 1 1 (F 73 0) from B_w b55 (by decide +kernel) (by decide +kernel))
    have i57 : (F 73 0).toInt = (1 : Int32).toInt := congrArg Int32.toInt hc
    have n58 : (1 : Int32).toInt = 1 := cqn_1
    refine ⟨(show ¬ ((74 : Nat) = NU) from by decide +kernel), ?_⟩
    refine ⟨(show c_cl UL 74 = 902 from cl_74), ?_⟩
    refine ⟨(show vp_in (0) 3 from vp_B cqb_0_0_0 (by decide +kernel) (by decide +kernel)), ?_⟩
    have n59 : (0 : Int32).toInt = 0 := cqn_0
    have r60 : 0 ≤ (F 74 (0 : Int32).toNatClampNeg).toInt ∧ (F 74 (0 : Int32).toNatClampNeg).toInt ≤ ((F 105 2).toInt - 1) := qf_at pre0 (x := (0 : Int32)) (by omega) (by omega)
    have hI61 := IMc_u (u := 73) (i := 6) (v := 0) hI (show B 0 192 (0) from (B_w cqb_0_0_0 (by decide +kernel) (by decide +kernel)))
    have hI62 := IMc_u (u := 73) (i := 5) (v := 1) hI61 (show B 0 12 (1) from (B_w cqb_1_1_1 (by decide +kernel) (by decide +kernel)))
    have q63 : (0) ≤ (F 74 (0 : Int32).toNatClampNeg).toInt ∧ (F 74 (0 : Int32).toNatClampNeg).toInt ≤ (2) := (show B 0 2 (F 74 (0 : Int32).toNatClampNeg) from hI 74 (0 : Int32).toNatClampNeg)
    have g65 := agc_f (u := 73) (k := 6) (v := 0) (agc_refl (fs := [7305, 7306]) (rs := []) (F := F)) rfl (by decide +kernel)
    have g64 := agc_f (u := 73) (k := 5) (v := 1) g65 rfl (by decide +kernel)
    refine h_Sc_arrangeAlone_u73_x1105_a1 (B_w (show B 0 2 (F 74 (0 : Int32).toNatClampNeg) from hI 74 (0 : Int32).toNatClampNeg) (by decide +kernel) (by decide +kernel)) hI62 (qf_0 (b := 0) (by omega)) (by show (F 74 (0 : Int32).toNatClampNeg).toInt < (F 105 2).toInt; first | with_reducible assumption | omega) (fun j h0 h1 => absurd (show j.toInt < 0 from h1) (by omega)) (cz_ag (F := F) (G := va_up (va_up F 73 (upd (F 73) 6 0)) 73 (upd ((va_up F 73 (upd (F 73) 6 0)) 73) 5 1)) ((show LSQ F from pre5) ((0 : Int32)) (by decide +kernel) (by omega)) hI g64 (by decide +kernel)) (fun {FS26_66} {LFS26_66} hI67 g68 r69 r70 => ?_)
    have r71 : qf (FS26_66 77) 0 (FS26_66 73 6).toInt 0 ((64 * (FS26_66 105 2).toInt) - 1) := r69
    clear r69
    have q72 : (0) ≤ (FS26_66 73 6).toInt ∧ (FS26_66 73 6).toInt ≤ (192) := (show B 0 192 (FS26_66 73 6) from hI67 73 6)
    have r73 : ZQ FS26_66 := r70
    clear r70
    have g76 := agc_f (u := 73) (k := 6) (v := 0) (agc_refl (fs := [7305, 7306]) (rs := [77, 999]) (F := F)) rfl (by decide +kernel)
    have g75 := agc_f (u := 73) (k := 5) (v := 1) g76 rfl (by decide +kernel)
    have g74 := agc_tr g75 g68 (by decide +kernel) (by decide +kernel)
    have e77 : (FS26_66 105 2).toInt = (F 105 2).toInt := (congrArg Int32.toInt (g68.1 105 2 rfl rfl)).trans rfl
    exact hj7 hI67 g74 (qf_le (b' := (FS26_66 73 6).toInt) (lo' := 0) (hi' := (64 * (FS26_66 105 2).toInt) - 1) r71 (by omega) (by omega) (by omega)) r73
set_option maxRecDepth 20000 in
set_option maxHeartbeats 4000000 in
theorem h_Sc_addLayer_u73_a0 {b : Bool} {P : Nat → Nat → Nat} {x1 : Int32} {x2 : Int32} {x3 : Int32} {F : cF} {L : cL} {K : cs → Prop} (b_x1 : B 0 2 x1) (b_x2 : B 0 3 x2) (b_x3 : B 0 3 x3) (hI : IMc F) (pre0 : qf (F 74) 0 (F 73 0).toInt 0 ((F 63 2).toInt - 1)) (pre1 : x1.toInt < (F 63 2).toInt) (pre2 : LSQ F) (pre3 : CQi x2 F) (pre4 : CQi x3 F) (hK : ∀ {Z : cF} {LZ : cL}, IMc Z → agc [7300] [74, 75, 76] F Z → (qf (Z 74) 0 (Z 73 0).toInt 0 ((Z 63 2).toInt - 1)) → (LSQ Z) → K (Z, LZ, PC false b P)) : p_Sc_addLayer UL 73 x1 x2 x3 (F, L, PC false b P) K := by
  have q1 : (0) ≤ (F 73 0).toInt ∧ (F 73 0).toInt ≤ (3) := (show B 0 3 (F 73 0) from hI 73 0)
  have q2 : (0) ≤ (x1).toInt ∧ (x1).toInt ≤ (2) := (show B 0 2 (x1) from B_w b_x1 (by decide +kernel) (by decide +kernel))
  have q3 : (1) ≤ (F 63 2).toInt ∧ (F 63 2).toInt ≤ (3) := (show B 1 3 (F 63 2) from hI 63 2)
  unfold p_Sc_addLayer
  refine ⟨fun hc => ?_, fun hc => ?_⟩
  · have hq4 := hc
    have b5 : B 3 3 (F 73 0) := B_w (B_leR cqb_3_3_3 (show B 0 3 (F 73 0) from hI 73 0) hq4) (by decide +kernel) (by decide +kernel)
    have q6 : (3) ≤ (F 73 0).toInt ∧ (F 73 0).toInt ≤ (3) := (show B 3 3 (F 73 0) from B_w b5 (by decide +kernel) (by decide +kernel))
    unfold b_Sc_addLayer_42
    exact hK hI (agc_refl (fs := [7300]) (rs := [74, 75, 76]) (F := F)) (qf_le (b' := (F 73 0).toInt) (lo' := 0) (hi' := (F 63 2).toInt - 1) pre0 (by omega) (by omega) (by omega)) pre2
  · have hq7 := (nle_lt hc)
    have b8 : B 0 2 (F 73 0) := B_w (B_ltL (show B 0 3 (F 73 0) from hI 73 0) cqb_3_3_3 hq7) (by decide +kernel) (by decide +kernel)
    have q9 : (0) ≤ (F 73 0).toInt ∧ (F 73 0).toInt ≤ (2) := (show B 0 2 (F 73 0) from B_w b8 (by decide +kernel) (by decide +kernel))
    refine ⟨(show ¬ ((74 : Nat) = NU) from by decide +kernel), ?_⟩
    refine ⟨(show c_cl UL 74 = 902 from cl_74), ?_⟩
    refine ⟨(show vp_in (F 73 0) 3 from vp_B b8 (by decide +kernel) (by decide +kernel)), ?_⟩
    refine ⟨(show ¬ ((75 : Nat) = NU) from by decide +kernel), ?_⟩
    refine ⟨(show c_cl UL 75 = 902 from cl_75), ?_⟩
    refine ⟨(show vp_in (x1) 3 from vp_B b_x1 (by decide +kernel) (by decide +kernel)), ?_⟩
    refine ⟨(show ¬ ((76 : Nat) = NU) from by decide +kernel), ?_⟩
    refine ⟨(show c_cl UL 76 = 902 from cl_76), ?_⟩
    refine ⟨(show vp_in (x1) 3 from vp_B b_x1 (by decide +kernel) (by decide +kernel)), ?_⟩
    unfold b_Sc_addLayer_42
    have hI10 := IMc_u (u := 74) (i := (F 73 0).toNatClampNeg) (v := x1) hI (show B 0 2 (x1) from (B_w b_x1 (by decide +kernel) (by decide +kernel)))
    have hI11 := IMc_u (u := 75) (i := x1.toNatClampNeg) (v := x2) hI10 (show B 0 3 (x2) from (B_w b_x2 (by decide +kernel) (by decide +kernel)))
    have hI12 := IMc_u (u := 76) (i := x1.toNatClampNeg) (v := x3) hI11 (show B 0 3 (x3) from (B_w b_x3 (by decide +kernel) (by decide +kernel)))
    have hI13 := IMc_u (u := 73) (i := 0) (v := (F 73 0) + 1) hI12 (show B 0 3 ((F 73 0) + 1) from (B_w (B_add b8 cqb_1_1_1 (by decide +kernel) (by decide +kernel)) (by decide +kernel) (by decide +kernel)))
    have g17 := agc_r (u := 74) (w := upd (F 74) (F 73 0).toNatClampNeg x1) (agc_refl (fs := [7300]) (rs := [74, 75, 76]) (F := F)) rfl (by decide +kernel)
    have g16 := agc_r (u := 75) (w := upd (F 75) x1.toNatClampNeg x2) g17 rfl (by decide +kernel)
    have g15 := agc_r (u := 76) (w := upd (F 76) x1.toNatClampNeg x3) g16 rfl (by decide +kernel)
    have g14 := agc_f (u := 73) (k := 0) (v := (F 73 0) + 1) g15 rfl (by decide +kernel)
    have e18 : ((F 73 0) + 1).toInt = ((F 73 0).toInt + 1) := (t_add b8 cqb_1_1_1 (by decide +kernel) (by decide +kernel)).trans (by rw [cqn_1])
    have q19 : (1) ≤ ((F 73 0) + 1).toInt ∧ ((F 73 0) + 1).toInt ≤ (3) := (show B 1 3 ((F 73 0) + 1) from B_w (B_add b8 cqb_1_1_1 (by decide +kernel) (by decide +kernel)) (by decide +kernel) (by decide +kernel))
    exact hK hI13 g14 (qf_le (b' := ((F 73 0) + 1).toInt) (lo' := 0) (hi' := (F 63 2).toInt - 1) (qf_ext (x := F 73 0) (b' := ((F 73 0) + 1).toInt) (qf_le (b' := (F 73 0).toInt) (lo' := 0) (hi' := (F 63 2).toInt - 1) pre0 (by omega) (by omega) (by omega)) (fun _ => ⟨by omega, by omega⟩) (by omega) (by omega) (by omega)) (by omega) (by omega) (by omega)) (LSQ_up (F := F) (G := va_up (va_up (va_up (va_up F 74 (upd (F 74) (F 73 0).toNatClampNeg x1)) 75 (upd (F 75) x1.toNatClampNeg x2)) 76 (upd (F 76) x1.toNatClampNeg x3)) 73 (upd (F 73) 0 ((F 73 0) + 1))) pre2 hI pre3 pre4 b_x1 b_x2 b_x3 g14 (by decide +kernel) rfl rfl rfl (by show ((F 73 0) + 1).toInt = _; first | with_reducible assumption | omega))
set_option maxRecDepth 20000 in
set_option maxHeartbeats 4000000 in
theorem h_Sc_addLayer_u73_a1 {b : Bool} {P : Nat → Nat → Nat} {x1 : Int32} {x2 : Int32} {x3 : Int32} {F : cF} {L : cL} {K : cs → Prop} (b_x1 : B 0 2 x1) (b_x2 : B 0 3 x2) (b_x3 : B 0 3 x3) (hI : IMc F) (pre0 : qf (F 74) 0 (F 73 0).toInt 0 ((F 105 2).toInt - 1)) (pre1 : x1.toInt < (F 105 2).toInt) (pre2 : LSQ F) (pre3 : CQi x2 F) (pre4 : CQi x3 F) (hK : ∀ {Z : cF} {LZ : cL}, IMc Z → agc [7300] [74, 75, 76] F Z → (qf (Z 74) 0 (Z 73 0).toInt 0 ((Z 105 2).toInt - 1)) → (LSQ Z) → K (Z, LZ, PC true b P)) : p_Sc_addLayer UL 73 x1 x2 x3 (F, L, PC true b P) K := by
  have q1 : (0) ≤ (F 73 0).toInt ∧ (F 73 0).toInt ≤ (3) := (show B 0 3 (F 73 0) from hI 73 0)
  have q2 : (0) ≤ (x1).toInt ∧ (x1).toInt ≤ (2) := (show B 0 2 (x1) from B_w b_x1 (by decide +kernel) (by decide +kernel))
  have q3 : (1) ≤ (F 105 2).toInt ∧ (F 105 2).toInt ≤ (3) := (show B 1 3 (F 105 2) from hI 105 2)
  unfold p_Sc_addLayer
  refine ⟨fun hc => ?_, fun hc => ?_⟩
  · have hq4 := hc
    have b5 : B 3 3 (F 73 0) := B_w (B_leR cqb_3_3_3 (show B 0 3 (F 73 0) from hI 73 0) hq4) (by decide +kernel) (by decide +kernel)
    have q6 : (3) ≤ (F 73 0).toInt ∧ (F 73 0).toInt ≤ (3) := (show B 3 3 (F 73 0) from B_w b5 (by decide +kernel) (by decide +kernel))
    unfold b_Sc_addLayer_42
    exact hK hI (agc_refl (fs := [7300]) (rs := [74, 75, 76]) (F := F)) (qf_le (b' := (F 73 0).toInt) (lo' := 0) (hi' := (F 105 2).toInt - 1) pre0 (by omega) (by omega) (by omega)) pre2
  · have hq7 := (nle_lt hc)
    have b8 : B 0 2 (F 73 0) := B_w (B_ltL (show B 0 3 (F 73 0) from hI 73 0) cqb_3_3_3 hq7) (by decide +kernel) (by decide +kernel)
    have q9 : (0) ≤ (F 73 0).toInt ∧ (F 73 0).toInt ≤ (2) := (show B 0 2 (F 73 0) from B_w b8 (by decide +kernel) (by decide +kernel))
    refine ⟨(show ¬ ((74 : Nat) = NU) from by decide +kernel), ?_⟩
    refine ⟨(show c_cl UL 74 = 902 from cl_74), ?_⟩
    refine ⟨(show vp_in (F 73 0) 3 from vp_B b8 (by decide +kernel) (by decide +kernel)), ?_⟩
    refine ⟨(show ¬ ((75 : Nat) = NU) from by decide +kernel), ?_⟩
    refine ⟨(show c_cl UL 75 = 902 from cl_75), ?_⟩
    refine ⟨(show vp_in (x1) 3 from vp_B b_x1 (by decide +kernel) (by decide +kernel)), ?_⟩
    refine ⟨(show ¬ ((76 : Nat) = NU) from by decide +kernel), ?_⟩
    refine ⟨(show c_cl UL 76 = 902 from cl_76), ?_⟩
    refine ⟨(show vp_in (x1) 3 from vp_B b_x1 (by decide +kernel) (by decide +kernel)), ?_⟩
    unfold b_Sc_addLayer_42
    have hI10 := IMc_u (u := 74) (i := (F 73 0).toNatClampNeg) (v := x1) hI (show B 0 2 (x1) from (B_w b_x1 (by decide +kernel) (by decide +kernel)))
    have hI11 := IMc_u (u := 75) (i := x1.toNatClampNeg) (v := x2) hI10 (show B 0 3 (x2) from (B_w b_x2 (by decide +kernel) (by decide +kernel)))
    have hI12 := IMc_u (u := 76) (i := x1.toNatClampNeg) (v := x3) hI11 (show B 0 3 (x3) from (B_w b_x3 (by decide +kernel) (by decide +kernel)))
    have hI13 := IMc_u (u := 73) (i := 0) (v := (F 73 0) + 1) hI12 (show B 0 3 ((F 73 0) + 1) from (B_w (B_add b8 cqb_1_1_1 (by decide +kernel) (by decide +kernel)) (by decide +kernel) (by decide +kernel)))
    have g17 := agc_r (u := 74) (w := upd (F 74) (F 73 0).toNatClampNeg x1) (agc_refl (fs := [7300]) (rs := [74, 75, 76]) (F := F)) rfl (by decide +kernel)
    have g16 := agc_r (u := 75) (w := upd (F 75) x1.toNatClampNeg x2) g17 rfl (by decide +kernel)
    have g15 := agc_r (u := 76) (w := upd (F 76) x1.toNatClampNeg x3) g16 rfl (by decide +kernel)
    have g14 := agc_f (u := 73) (k := 0) (v := (F 73 0) + 1) g15 rfl (by decide +kernel)
    have e18 : ((F 73 0) + 1).toInt = ((F 73 0).toInt + 1) := (t_add b8 cqb_1_1_1 (by decide +kernel) (by decide +kernel)).trans (by rw [cqn_1])
    have q19 : (1) ≤ ((F 73 0) + 1).toInt ∧ ((F 73 0) + 1).toInt ≤ (3) := (show B 1 3 ((F 73 0) + 1) from B_w (B_add b8 cqb_1_1_1 (by decide +kernel) (by decide +kernel)) (by decide +kernel) (by decide +kernel))
    exact hK hI13 g14 (qf_le (b' := ((F 73 0) + 1).toInt) (lo' := 0) (hi' := (F 105 2).toInt - 1) (qf_ext (x := F 73 0) (b' := ((F 73 0) + 1).toInt) (qf_le (b' := (F 73 0).toInt) (lo' := 0) (hi' := (F 105 2).toInt - 1) pre0 (by omega) (by omega) (by omega)) (fun _ => ⟨by omega, by omega⟩) (by omega) (by omega) (by omega)) (by omega) (by omega) (by omega)) (LSQ_up (F := F) (G := va_up (va_up (va_up (va_up F 74 (upd (F 74) (F 73 0).toNatClampNeg x1)) 75 (upd (F 75) x1.toNatClampNeg x2)) 76 (upd (F 76) x1.toNatClampNeg x3)) 73 (upd (F 73) 0 ((F 73 0) + 1))) pre2 hI pre3 pre4 b_x1 b_x2 b_x3 g14 (by decide +kernel) rfl rfl rfl (by show ((F 73 0) + 1).toInt = _; first | with_reducible assumption | omega))
