set_option maxRecDepth 20000 in
set_option maxHeartbeats 4000000 in
theorem h_Sc_blocksTogether_u73_x163 {a : Bool} {b : Bool} {P : Nat → Nat → Nat} {F : cF} {L : cL} {K : Int32 → cs → Prop} (hI : IMc F) (hK : ∀ {v : Int32}, B 0 12 v → K v (F, L, PC a b P)) : p_Sc_blocksTogether UL 73 63 (F, L, PC a b P) K := by
  unfold p_Sc_blocksTogether
  refine ⟨fun yx1 yx2 yx3 yS => (63 : Nat) = yx1 ∧ B 0 12 yx2 ∧ B 0 3 yx3 ∧ (F, L, PC a b P) = yS ∧ (yx2.toInt ≤ (4 * yx3.toInt)), fun yx1 yx2 yx3 yS => (3 - yx3.toInt).toNat, ⟨rfl, (B_w (show B 0 0 (0 : Int32) from ⟨by decide +kernel, by decide +kernel⟩) (by decide +kernel) (by decide +kernel)), (B_w (show B 0 0 (0 : Int32) from ⟨by decide +kernel, by decide +kernel⟩) (by decide +kernel) (by decide +kernel)), rfl, (by show 0 ≤ (4 * 0); omega)⟩, fun x1_1 x2_2 x3_3 ST4 hIv => ?_⟩
  obtain ⟨rfl, b5, b6, rfl, r7⟩ := hIv
  suffices hs : ∀ (R4 : Nat → Int32 → Int32 → cs → Prop), (∀ zx1 zx2 zx3 zS, ((63 : Nat) = zx1 ∧ B 0 12 zx2 ∧ B 0 3 zx3 ∧ (F, L, PC a b P) = zS ∧ (zx2.toInt ≤ (4 * zx3.toInt))) → (3 - zx3.toInt).toNat < (3 - x3_3.toInt).toNat → R4 zx1 zx2 zx3 zS) → b_Sc_blocksTogether_4 UL 73 63 x2_2 x3_3 (F, L, PC a b P) R4 K from hs _ (fun _ _ _ _ h1 h2 => ⟨h1, h2⟩)
  intro R4 hR40
  have hR4 := fun {zx1} {zx2} {zx3} {zS} => hR40 zx1 zx2 zx3 zS
  have q8 : (0) ≤ (x2_2).toInt ∧ (x2_2).toInt ≤ (12) := (show B 0 12 (x2_2) from B_w b5 (by decide +kernel) (by decide +kernel))
  have q9 : (0) ≤ (x3_3).toInt ∧ (x3_3).toInt ≤ (3) := (show B 0 3 (x3_3) from B_w b6 (by decide +kernel) (by decide +kernel))
  unfold b_Sc_blocksTogether_4
  refine ⟨fun hc => ?_, fun hc => ?_⟩
  · have hq10 := hc
    have q11 : (0) ≤ (F 73 0).toInt ∧ (F 73 0).toInt ≤ (3) := (show B 0 3 (F 73 0) from B_w (show B 0 3 (F 73 0) from hI 73 0) (by decide +kernel) (by decide +kernel))
    have i12 : (F 73 0).toInt ≤ (x3_3).toInt := i_le hq10
    exact hK b5
  · have hq13 := (nle_lt hc)
    have b14 : B 0 2 (x3_3) := B_w (B_ltL b6 (show B 0 3 (F 73 0) from hI 73 0) hq13) (by decide +kernel) (by decide +kernel)
    have q15 : (0) ≤ (x3_3).toInt ∧ (x3_3).toInt ≤ (2) := (show B 0 2 (x3_3) from B_w b14 (by decide +kernel) (by decide +kernel))
    have b16 : B 1 3 (F 73 0) := B_w (B_ltR b6 (show B 0 3 (F 73 0) from hI 73 0) hq13) (by decide +kernel) (by decide +kernel)
    have q17 : (1) ≤ (F 73 0).toInt ∧ (F 73 0).toInt ≤ (3) := (show B 1 3 (F 73 0) from B_w b16 (by decide +kernel) (by decide +kernel))
    have i18 : (x3_3).toInt < (F 73 0).toInt := i_lt hq13
    refine ⟨(show c_cl UL 63 = 7 from cl_63), ?_⟩
    refine ⟨(show ¬ ((64 : Nat) = NU) from by decide +kernel), ?_⟩
    refine ⟨(show ¬ ((74 : Nat) = NU) from by decide +kernel), ?_⟩
    refine ⟨(show c_cl UL 74 = 902 from cl_74), ?_⟩
    refine ⟨(show vp_in (x3_3) 3 from vp_B b14 (by decide +kernel) (by decide +kernel)), ?_⟩
    refine ⟨(show c_cl UL 64 = 902 from cl_64), ?_⟩
    refine ⟨(show vp_in (F 74 x3_3.toNatClampNeg) 3 from vp_B (show B 0 2 (F 74 x3_3.toNatClampNeg) from hI 74 x3_3.toNatClampNeg) (by decide +kernel) (by decide +kernel)), ?_⟩
    refine ⟨(show ¬ ((65 : Nat) = NU) from by decide +kernel), ?_⟩
    refine ⟨(show ¬ ((74 : Nat) = NU) from by decide +kernel), ?_⟩
    refine ⟨(show vp_in (x3_3) 3 from vp_B b14 (by decide +kernel) (by decide +kernel)), ?_⟩
    refine ⟨(show c_cl UL 65 = 902 from cl_65), ?_⟩
    refine ⟨(show vp_in (F 74 x3_3.toNatClampNeg) 3 from vp_B (show B 0 2 (F 74 x3_3.toNatClampNeg) from hI 74 x3_3.toNatClampNeg) (by decide +kernel) (by decide +kernel)), ?_⟩
    have q19 : (1) ≤ (F 64 (F 74 x3_3.toNatClampNeg).toNatClampNeg).toInt ∧ (F 64 (F 74 x3_3.toNatClampNeg).toNatClampNeg).toInt ≤ (2) := (show B 1 2 (F 64 (F 74 x3_3.toNatClampNeg).toNatClampNeg) from B_w (show B 1 2 (F 64 (F 74 x3_3.toNatClampNeg).toNatClampNeg) from hI 64 (F 74 x3_3.toNatClampNeg).toNatClampNeg) (by decide +kernel) (by decide +kernel))
    have q20 : (1) ≤ (F 65 (F 74 x3_3.toNatClampNeg).toNatClampNeg).toInt ∧ (F 65 (F 74 x3_3.toNatClampNeg).toNatClampNeg).toInt ≤ (2) := (show B 1 2 (F 65 (F 74 x3_3.toNatClampNeg).toNatClampNeg) from B_w (show B 1 2 (F 65 (F 74 x3_3.toNatClampNeg).toNatClampNeg) from hI 65 (F 74 x3_3.toNatClampNeg).toNatClampNeg) (by decide +kernel) (by decide +kernel))
    have e21 : ((F 64 (F 74 x3_3.toNatClampNeg).toNatClampNeg) * (F 65 (F 74 x3_3.toNatClampNeg).toNatClampNeg)).toInt = ((F 64 (F 74 x3_3.toNatClampNeg).toNatClampNeg).toInt * (F 65 (F 74 x3_3.toNatClampNeg).toNatClampNeg).toInt) := (t_mul (show B 1 2 (F 64 (F 74 x3_3.toNatClampNeg).toNatClampNeg) from hI 64 (F 74 x3_3.toNatClampNeg).toNatClampNeg) (show B 1 2 (F 65 (F 74 x3_3.toNatClampNeg).toNatClampNeg) from hI 65 (F 74 x3_3.toNatClampNeg).toNatClampNeg) (by decide +kernel) (by decide +kernel) (by decide +kernel)).trans (by rfl)
    have q22 : (1) ≤ ((F 64 (F 74 x3_3.toNatClampNeg).toNatClampNeg) * (F 65 (F 74 x3_3.toNatClampNeg).toNatClampNeg)).toInt ∧ ((F 64 (F 74 x3_3.toNatClampNeg).toNatClampNeg) * (F 65 (F 74 x3_3.toNatClampNeg).toNatClampNeg)).toInt ≤ (4) := (show B 1 4 ((F 64 (F 74 x3_3.toNatClampNeg).toNatClampNeg) * (F 65 (F 74 x3_3.toNatClampNeg).toNatClampNeg)) from B_w (B_mul (show B 1 2 (F 64 (F 74 x3_3.toNatClampNeg).toNatClampNeg) from hI 64 (F 74 x3_3.toNatClampNeg).toNatClampNeg) (show B 1 2 (F 65 (F 74 x3_3.toNatClampNeg).toNatClampNeg) from hI 65 (F 74 x3_3.toNatClampNeg).toNatClampNeg) (by decide +kernel) (by decide +kernel) (by decide +kernel)) (by decide +kernel) (by decide +kernel))
    have e23 : (x2_2 + ((F 64 (F 74 x3_3.toNatClampNeg).toNatClampNeg) * (F 65 (F 74 x3_3.toNatClampNeg).toNatClampNeg))).toInt = ((x2_2).toInt + ((F 64 (F 74 x3_3.toNatClampNeg).toNatClampNeg).toInt * (F 65 (F 74 x3_3.toNatClampNeg).toNatClampNeg).toInt)) := (t_add b5 (B_mul (show B 1 2 (F 64 (F 74 x3_3.toNatClampNeg).toNatClampNeg) from hI 64 (F 74 x3_3.toNatClampNeg).toNatClampNeg) (show B 1 2 (F 65 (F 74 x3_3.toNatClampNeg).toNatClampNeg) from hI 65 (F 74 x3_3.toNatClampNeg).toNatClampNeg) (by decide +kernel) (by decide +kernel) (by decide +kernel)) (by decide +kernel) (by decide +kernel)).trans (by rw [e21])
    have q24 : (1) ≤ (x2_2 + ((F 64 (F 74 x3_3.toNatClampNeg).toNatClampNeg) * (F 65 (F 74 x3_3.toNatClampNeg).toNatClampNeg))).toInt ∧ (x2_2 + ((F 64 (F 74 x3_3.toNatClampNeg).toNatClampNeg) * (F 65 (F 74 x3_3.toNatClampNeg).toNatClampNeg))).toInt ≤ (16) := (show B 1 16 (x2_2 + ((F 64 (F 74 x3_3.toNatClampNeg).toNatClampNeg) * (F 65 (F 74 x3_3.toNatClampNeg).toNatClampNeg))) from B_w (B_add b5 (B_mul (show B 1 2 (F 64 (F 74 x3_3.toNatClampNeg).toNatClampNeg) from hI 64 (F 74 x3_3.toNatClampNeg).toNatClampNeg) (show B 1 2 (F 65 (F 74 x3_3.toNatClampNeg).toNatClampNeg) from hI 65 (F 74 x3_3.toNatClampNeg).toNatClampNeg) (by decide +kernel) (by decide +kernel) (by decide +kernel)) (by decide +kernel) (by decide +kernel)) (by decide +kernel) (by decide +kernel))
    have e25 : (x3_3 + 1).toInt = ((x3_3).toInt + 1) := (t_add b14 (show B 1 1 (1 : Int32) from ⟨by decide +kernel, by decide +kernel⟩) (by decide +kernel) (by decide +kernel)).trans (by rw [(show (1 : Int32).toInt = 1 from by decide +kernel)])
    have q26 : (1) ≤ (x3_3 + 1).toInt ∧ (x3_3 + 1).toInt ≤ (3) := (show B 1 3 (x3_3 + 1) from B_w (B_add b14 (show B 1 1 (1 : Int32) from ⟨by decide +kernel, by decide +kernel⟩) (by decide +kernel) (by decide +kernel)) (by decide +kernel) (by decide +kernel))
    exact hR4 ⟨rfl, (show B 0 12 (x2_2 + ((F 64 (F 74 x3_3.toNatClampNeg).toNatClampNeg) * (F 65 (F 74 x3_3.toNatClampNeg).toNatClampNeg))) from ⟨by omega, by omega⟩), (B_w (B_add b14 (show B 1 1 (1 : Int32) from ⟨by decide +kernel, by decide +kernel⟩) (by decide +kernel) (by decide +kernel)) (by decide +kernel) (by decide +kernel)), rfl, (by show (x2_2 + ((F 64 (F 74 x3_3.toNatClampNeg).toNatClampNeg) * (F 65 (F 74 x3_3.toNatClampNeg).toNatClampNeg))).toInt ≤ (4 * (x3_3 + 1).toInt); omega)⟩ (by show (3 - (x3_3 + 1).toInt).toNat < (3 - x3_3.toInt).toNat; omega)
set_option maxRecDepth 20000 in
set_option maxHeartbeats 4000000 in
theorem h_Sc_addBlock_u73_a0 {b : Bool} {P : Nat → Nat → Nat} {x1 : Int32} {x2 : Int32} {F : cF} {L : cL} {K : cs → Prop} (b_x1 : B 0 2 x1) (b_x2 : B 0 63 x2) (hI : IMc F) (pre0 : qf (F 77) 0 (F 73 6).toInt 0 ((64 * (F 63 2).toInt) - 1)) (pre1 : x1.toInt < (F 63 2).toInt) (hK : ∀ {Z : cF} {LZ : cL}, IMc Z → agc [7306] [77] F Z → (qf (Z 77) 0 (Z 73 6).toInt 0 ((64 * (Z 63 2).toInt) - 1)) → K (Z, LZ, PC false b P)) : p_Sc_addBlock UL 73 x1 x2 (F, L, PC false b P) K := by
  have q1 : (0) ≤ (F 73 6).toInt ∧ (F 73 6).toInt ≤ (192) := (show B 0 192 (F 73 6) from B_w (show B 0 192 (F 73 6) from hI 73 6) (by decide +kernel) (by decide +kernel))
  have q2 : (0) ≤ (x1).toInt ∧ (x1).toInt ≤ (2) := (show B 0 2 (x1) from B_w b_x1 (by decide +kernel) (by decide +kernel))
  have q3 : (1) ≤ (F 63 2).toInt ∧ (F 63 2).toInt ≤ (3) := (show B 1 3 (F 63 2) from B_w (show B 1 3 (F 63 2) from hI 63 2) (by decide +kernel) (by decide +kernel))
  unfold p_Sc_addBlock
  refine ⟨(show ¬ ((77 : Nat) = NU) from by decide +kernel), ?_⟩
  refine ⟨(show c_cl UL 77 = 902 from cl_77), ?_⟩
  refine ⟨fun hc => ?_, fun hc => ?_⟩
  · have hq4 := hc
    have b5 : B 192 192 (F 73 6) := B_w (B_leR (show B 192 192 (192 : Int32) from ⟨by decide +kernel, by decide +kernel⟩) (show B 0 192 (F 73 6) from hI 73 6) hq4) (by decide +kernel) (by decide +kernel)
    have q6 : (192) ≤ (F 73 6).toInt ∧ (F 73 6).toInt ≤ (192) := (show B 192 192 (F 73 6) from B_w b5 (by decide +kernel) (by decide +kernel))
    unfold b_Sc_addBlock_37
    exact hK hI (agc_refl (fs := [7306]) (rs := [77]) (F := F)) (qf_le (b' := (F 73 6).toInt) (lo' := 0) (hi' := (64 * (F 63 2).toInt) - 1) pre0 (by omega) (by omega) (by omega))
  · have hq7 := (nle_lt hc)
    have b8 : B 0 191 (F 73 6) := B_w (B_ltL (show B 0 192 (F 73 6) from hI 73 6) (show B 192 192 (192 : Int32) from ⟨by decide +kernel, by decide +kernel⟩) hq7) (by decide +kernel) (by decide +kernel)
    have q9 : (0) ≤ (F 73 6).toInt ∧ (F 73 6).toInt ≤ (191) := (show B 0 191 (F 73 6) from B_w b8 (by decide +kernel) (by decide +kernel))
    refine ⟨(show ¬ ((77 : Nat) = NU) from by decide +kernel), ?_⟩
    refine ⟨(show vp_in (F 73 6) 192 from vp_B b8 (by decide +kernel) (by decide +kernel)), ?_⟩
    unfold b_Sc_addBlock_37
    have hI10 := IMc_u (u := 77) (i := (F 73 6).toNatClampNeg) (v := (64 * x1) + x2) hI (show B 0 191 ((64 * x1) + x2) from (B_w (B_add (B_mul (show B 64 64 (64 : Int32) from ⟨by decide +kernel, by decide +kernel⟩) b_x1 (by decide +kernel) (by decide +kernel) (by decide +kernel)) b_x2 (by decide +kernel) (by decide +kernel)) (by decide +kernel) (by decide +kernel)))
    have hI11 := IMc_u (u := 73) (i := 6) (v := (F 73 6) + 1) hI10 (show B 0 192 ((F 73 6) + 1) from (B_w (B_add b8 (show B 1 1 (1 : Int32) from ⟨by decide +kernel, by decide +kernel⟩) (by decide +kernel) (by decide +kernel)) (by decide +kernel) (by decide +kernel)))
    have g13 := agc_r (u := 77) (w := upd (F 77) (F 73 6).toNatClampNeg ((64 * x1) + x2)) (agc_refl (fs := [7306]) (rs := [77]) (F := F)) rfl (by decide +kernel)
    have g12 := agc_f (u := 73) (k := 6) (v := (F 73 6) + 1) g13 rfl (by decide +kernel)
    have e14 : ((F 73 6) + 1).toInt = ((F 73 6).toInt + 1) := (t_add b8 (show B 1 1 (1 : Int32) from ⟨by decide +kernel, by decide +kernel⟩) (by decide +kernel) (by decide +kernel)).trans (by rw [(show (1 : Int32).toInt = 1 from by decide +kernel)])
    have q15 : (1) ≤ ((F 73 6) + 1).toInt ∧ ((F 73 6) + 1).toInt ≤ (192) := (show B 1 192 ((F 73 6) + 1) from B_w (B_add b8 (show B 1 1 (1 : Int32) from ⟨by decide +kernel, by decide +kernel⟩) (by decide +kernel) (by decide +kernel)) (by decide +kernel) (by decide +kernel))
    have e16 : (64 * x1).toInt = (64 * (x1).toInt) := (t_mul (show B 64 64 (64 : Int32) from ⟨by decide +kernel, by decide +kernel⟩) b_x1 (by decide +kernel) (by decide +kernel) (by decide +kernel)).trans (by rw [(show (64 : Int32).toInt = 64 from by decide +kernel)])
    have q17 : (0) ≤ (64 * x1).toInt ∧ (64 * x1).toInt ≤ (128) := (show B 0 128 (64 * x1) from B_w (B_mul (show B 64 64 (64 : Int32) from ⟨by decide +kernel, by decide +kernel⟩) b_x1 (by decide +kernel) (by decide +kernel) (by decide +kernel)) (by decide +kernel) (by decide +kernel))
    have q18 : (0) ≤ (x2).toInt ∧ (x2).toInt ≤ (63) := (show B 0 63 (x2) from B_w b_x2 (by decide +kernel) (by decide +kernel))
    have e19 : ((64 * x1) + x2).toInt = ((64 * (x1).toInt) + (x2).toInt) := (t_add (B_mul (show B 64 64 (64 : Int32) from ⟨by decide +kernel, by decide +kernel⟩) b_x1 (by decide +kernel) (by decide +kernel) (by decide +kernel)) b_x2 (by decide +kernel) (by decide +kernel)).trans (by rw [e16])
    have q20 : (0) ≤ ((64 * x1) + x2).toInt ∧ ((64 * x1) + x2).toInt ≤ (191) := (show B 0 191 ((64 * x1) + x2) from B_w (B_add (B_mul (show B 64 64 (64 : Int32) from ⟨by decide +kernel, by decide +kernel⟩) b_x1 (by decide +kernel) (by decide +kernel) (by decide +kernel)) b_x2 (by decide +kernel) (by decide +kernel)) (by decide +kernel) (by decide +kernel))
    exact hK hI11 g12 (qf_le (b' := ((F 73 6) + 1).toInt) (lo' := 0) (hi' := (64 * (F 63 2).toInt) - 1) (qf_ext (x := F 73 6) (b' := ((F 73 6) + 1).toInt) (qf_le (b' := (F 73 6).toInt) (lo' := 0) (hi' := (64 * (F 63 2).toInt) - 1) pre0 (by omega) (by omega) (by omega)) (fun _ => ⟨by omega, by omega⟩) (by omega) (by omega) (by omega)) (by omega) (by omega) (by omega))
set_option maxRecDepth 20000 in
set_option maxHeartbeats 4000000 in
theorem h_Sc_addStretch_u73_x163_a0 {b : Bool} {P : Nat → Nat → Nat} {x2 : Int32} {x3 : Int32} {x4 : Int32} {F : cF} {L : cL} {K : cs → Prop} (b_x2 : B 0 2 x2) (b_x3 : B 0 7 x3) (b_x4 : B 0 7 x4) (hI : IMc F) (pre0 : qf (F 77) 0 (F 73 6).toInt 0 ((64 * (F 63 2).toInt) - 1)) (pre1 : x2.toInt < (F 63 2).toInt) (pre2 : x3.toInt < (F 63 7).toInt) (pre3 : x4.toInt < (F 63 8).toInt) (pre4 : qf (F 64) 0 (F 63 2).toInt 1 (F 63 5).toInt) (pre5 : qf (F 65) 0 (F 63 2).toInt 1 (F 63 6).toInt) (pre6 : ((F 63 5).toInt = 1) ∨ ((F 63 7).toInt ≤ 4)) (pre7 : ((F 63 6).toInt = 1) ∨ ((F 63 8).toInt ≤ 4)) (hK : ∀ {Z : cF} {LZ : cL}, IMc Z → agc [7306] [77, 999] F Z → (qf (Z 77) 0 (Z 73 6).toInt 0 ((64 * (Z 63 2).toInt) - 1)) → K (Z, LZ, PC false b P)) : p_Sc_addStretch UL 73 63 x2 x3 x4 (F, L, PC false b P) K := by
  have q1 : (0) ≤ (F 73 6).toInt ∧ (F 73 6).toInt ≤ (192) := (show B 0 192 (F 73 6) from B_w (show B 0 192 (F 73 6) from hI 73 6) (by decide +kernel) (by decide +kernel))
  have q2 : (0) ≤ (x2).toInt ∧ (x2).toInt ≤ (2) := (show B 0 2 (x2) from B_w b_x2 (by decide +kernel) (by decide +kernel))
  have q3 : (1) ≤ (F 63 2).toInt ∧ (F 63 2).toInt ≤ (3) := (show B 1 3 (F 63 2) from B_w (show B 1 3 (F 63 2) from hI 63 2) (by decide +kernel) (by decide +kernel))
  have q4 : (0) ≤ (x3).toInt ∧ (x3).toInt ≤ (7) := (show B 0 7 (x3) from B_w b_x3 (by decide +kernel) (by decide +kernel))
  have q5 : (1) ≤ (F 63 7).toInt ∧ (F 63 7).toInt ≤ (8) := (show B 1 8 (F 63 7) from B_w (show B 1 8 (F 63 7) from hI 63 7) (by decide +kernel) (by decide +kernel))
  have q6 : (0) ≤ (x4).toInt ∧ (x4).toInt ≤ (7) := (show B 0 7 (x4) from B_w b_x4 (by decide +kernel) (by decide +kernel))
  have q7 : (1) ≤ (F 63 8).toInt ∧ (F 63 8).toInt ≤ (8) := (show B 1 8 (F 63 8) from B_w (show B 1 8 (F 63 8) from hI 63 8) (by decide +kernel) (by decide +kernel))
  have q8 : (1) ≤ (F 63 5).toInt ∧ (F 63 5).toInt ≤ (2) := (show B 1 2 (F 63 5) from B_w (show B 1 2 (F 63 5) from hI 63 5) (by decide +kernel) (by decide +kernel))
  have q9 : (1) ≤ (F 63 6).toInt ∧ (F 63 6).toInt ≤ (2) := (show B 1 2 (F 63 6) from B_w (show B 1 2 (F 63 6) from hI 63 6) (by decide +kernel) (by decide +kernel))
  unfold p_Sc_addStretch
  rcases sp_12 (show B 1 2 (F 63 5) from B_w (show B 1 2 (F 63 5) from hI 63 5) (by decide +kernel) (by decide +kernel)) with hcs | hcs
  · have b10 : B 1 1 (F 63 5) := B_eq hcs (show B 1 1 (1 : Int32) from ⟨by decide +kernel, by decide +kernel⟩)
    have q11 : (1) ≤ (F 63 5).toInt ∧ (F 63 5).toInt ≤ (1) := (show B 1 1 (F 63 5) from B_w b10 (by decide +kernel) (by decide +kernel))
    rcases sp_12 (show B 1 2 (F 63 6) from B_w (show B 1 2 (F 63 6) from hI 63 6) (by decide +kernel) (by decide +kernel)) with hcs | hcs
    · have b12 : B 1 1 (F 63 6) := B_eq hcs (show B 1 1 (1 : Int32) from ⟨by decide +kernel, by decide +kernel⟩)
      have q13 : (1) ≤ (F 63 6).toInt ∧ (F 63 6).toInt ≤ (1) := (show B 1 1 (F 63 6) from B_w b12 (by decide +kernel) (by decide +kernel))
      refine ⟨(show c_cl UL 63 = 7 from cl_63), ?_⟩
      refine ⟨(show ¬ ((64 : Nat) = NU) from by decide +kernel), ?_⟩
      refine ⟨(show c_cl UL 64 = 902 from cl_64), ?_⟩
      refine ⟨(show vp_in (x2) 3 from vp_B b_x2 (by decide +kernel) (by decide +kernel)), ?_⟩
      refine ⟨(show ¬ ((65 : Nat) = NU) from by decide +kernel), ?_⟩
      refine ⟨(show c_cl UL 65 = 902 from cl_65), ?_⟩
      refine ⟨(show vp_in (x2) 3 from vp_B b_x2 (by decide +kernel) (by decide +kernel)), ?_⟩
      refine ⟨fun yx1 yx2 yx5 yx6 yx7 yS => (63 : Nat) = yx1 ∧ x2 = yx2 ∧ (x3 * (F 64 x2.toNatClampNeg)) = yx5 ∧ (x4 * (F 65 x2.toNatClampNeg)) = yx6 ∧ B 0 2 yx7 ∧ ∃ (T19 : cF) (LT19 : cL), yS = (T19, LT19, PC false b P) ∧ IMc T19 ∧ agc [7306] [77, 999] F T19 ∧ (qf (T19 77) 0 (T19 73 6).toInt 0 ((64 * (T19 63 2).toInt) - 1)), fun yx1 yx2 yx5 yx6 yx7 yS => (2 - yx7.toInt).toNat, ⟨rfl, rfl, rfl, rfl, (B_w (show B 0 0 (0 : Int32) from ⟨by decide +kernel, by decide +kernel⟩) (by decide +kernel) (by decide +kernel)), _, _, rfl, hI, (agc_refl (fs := [7306]) (rs := [77, 999]) (F := F)), (qf_le (b' := (F 73 6).toInt) (lo' := 0) (hi' := (64 * (F 63 2).toInt) - 1) pre0 (by omega) (by omega) (by omega))⟩, fun x1_14 x2_15 x5_16 x6_17 x7_18 ST19 hIv => ?_⟩
      obtain ⟨rfl, rfl, rfl, rfl, b20, T19, LT19, rfl, hI21, g22, r23⟩ := hIv
      suffices hs : ∀ (R24 : Nat → Int32 → Int32 → Int32 → Int32 → cs → Prop), (∀ zx1 zx2 zx5 zx6 zx7 zS, ((63 : Nat) = zx1 ∧ x2 = zx2 ∧ (x3 * (F 64 x2.toNatClampNeg)) = zx5 ∧ (x4 * (F 65 x2.toNatClampNeg)) = zx6 ∧ B 0 2 zx7 ∧ ∃ (T19 : cF) (LT19 : cL), zS = (T19, LT19, PC false b P) ∧ IMc T19 ∧ agc [7306] [77, 999] F T19 ∧ (qf (T19 77) 0 (T19 73 6).toInt 0 ((64 * (T19 63 2).toInt) - 1))) → (2 - zx7.toInt).toNat < (2 - x7_18.toInt).toNat → R24 zx1 zx2 zx5 zx6 zx7 zS) → b_Sc_addStretch_24 UL 73 63 x2 (x3 * (F 64 x2.toNatClampNeg)) (x4 * (F 65 x2.toNatClampNeg)) x7_18 (T19, LT19, PC false b P) R24 K from hs _ (fun _ _ _ _ _ _ h1 h2 => ⟨h1, h2⟩)
      intro R24 hR240
      have hR24 := fun {zx1} {zx2} {zx5} {zx6} {zx7} {zS} => hR240 zx1 zx2 zx5 zx6 zx7 zS
      have q24 : (0) ≤ (T19 73 6).toInt ∧ (T19 73 6).toInt ≤ (192) := (show B 0 192 (T19 73 6) from B_w (show B 0 192 (T19 73 6) from hI21 73 6) (by decide +kernel) (by decide +kernel))
      unfold b_Sc_addStretch_24
      refine ⟨(show c_cl UL 63 = 7 from cl_63), ?_⟩
      refine ⟨(show ¬ ((65 : Nat) = NU) from by decide +kernel), ?_⟩
      refine ⟨(show c_cl UL 65 = 902 from cl_65), ?_⟩
      refine ⟨(show vp_in (x2) 3 from vp_B b_x2 (by decide +kernel) (by decide +kernel)), ?_⟩
      refine ⟨fun hc => ?_, fun hc => ?_⟩
      · have r25 : 1 ≤ (F 65 x2.toNatClampNeg).toInt ∧ (F 65 x2.toNatClampNeg).toInt ≤ (F 63 6).toInt := qf_at pre5 (x := x2) (by omega) (by omega)
        have b26 : B 1 1 (F 65 x2.toNatClampNeg) := ⟨by omega, by omega⟩
        have hq27 := hc
        have b28 : B 1 2 (x7_18) := B_w (B_leR (B_eq (congrFun (g22.2 65 rfl rfl) x2.toNatClampNeg) b26) b20 hq27) (by decide +kernel) (by decide +kernel)
        have q29 : (1) ≤ (F 65 x2.toNatClampNeg).toInt ∧ (F 65 x2.toNatClampNeg).toInt ≤ (1) := (show B 1 1 (F 65 x2.toNatClampNeg) from B_w b26 (by decide +kernel) (by decide +kernel))
        have e30 : (T19 65 x2.toNatClampNeg).toInt = (F 65 x2.toNatClampNeg).toInt := (congrArg Int32.toInt (congrFun (g22.2 65 rfl rfl) x2.toNatClampNeg)).trans rfl
        have q31 : (1) ≤ (x7_18).toInt ∧ (x7_18).toInt ≤ (2) := (show B 1 2 (x7_18) from B_w b28 (by decide +kernel) (by decide +kernel))
        have i32 : (T19 65 x2.toNatClampNeg).toInt ≤ (x7_18).toInt := i_le hq27
        have g33 := agc_tr (agc_refl (fs := [7306]) (rs := [77, 999]) (F := F)) g22 (by decide +kernel) (by decide +kernel)
        have e34 : (T19 63 2).toInt = (F 63 2).toInt := (congrArg Int32.toInt (g22.1 63 2 rfl rfl)).trans rfl
        exact hK hI21 g33 (qf_le (b' := (T19 73 6).toInt) (lo' := 0) (hi' := (64 * (T19 63 2).toInt) - 1) r23 (by omega) (by omega) (by omega))
      · have r35 : 1 ≤ (F 65 x2.toNatClampNeg).toInt ∧ (F 65 x2.toNatClampNeg).toInt ≤ (F 63 6).toInt := qf_at pre5 (x := x2) (by omega) (by omega)
        have b36 : B 1 1 (F 65 x2.toNatClampNeg) := ⟨by omega, by omega⟩
        have hq37 := (nle_lt hc)
        have b38 : B 0 0 (x7_18) := B_w (B_ltL b20 (B_eq (congrFun (g22.2 65 rfl rfl) x2.toNatClampNeg) b36) hq37) (by decide +kernel) (by decide +kernel)
        have q39 : (0) ≤ (x7_18).toInt ∧ (x7_18).toInt ≤ (0) := (show B 0 0 (x7_18) from B_w b38 (by decide +kernel) (by decide +kernel))
        have q40 : (1) ≤ (F 65 x2.toNatClampNeg).toInt ∧ (F 65 x2.toNatClampNeg).toInt ≤ (1) := (show B 1 1 (F 65 x2.toNatClampNeg) from B_w b36 (by decide +kernel) (by decide +kernel))
        have e41 : (T19 65 x2.toNatClampNeg).toInt = (F 65 x2.toNatClampNeg).toInt := (congrArg Int32.toInt (congrFun (g22.2 65 rfl rfl) x2.toNatClampNeg)).trans rfl
        have i42 : (x7_18).toInt < (T19 65 x2.toNatClampNeg).toInt := i_lt hq37
        have e53 : (T19 63 2).toInt = (F 63 2).toInt := (congrArg Int32.toInt (g22.1 63 2 rfl rfl)).trans rfl
        refine ⟨fun yx1 yx2 yx5 yx6 yx7 yx8 yS => (63 : Nat) = yx1 ∧ x2 = yx2 ∧ (x3 * (F 64 x2.toNatClampNeg)) = yx5 ∧ (x4 * (F 65 x2.toNatClampNeg)) = yx6 ∧ x7_18 = yx7 ∧ B 0 2 yx8 ∧ ∃ (T49 : cF) (LT49 : cL), yS = (T49, LT49, PC false b P) ∧ IMc T49 ∧ agc [7306] [77, 999] T19 T49 ∧ (qf (T49 77) 0 (T49 73 6).toInt 0 ((64 * (T49 63 2).toInt) - 1)), fun yx1 yx2 yx5 yx6 yx7 yx8 yS => (2 - yx8.toInt).toNat, ⟨rfl, rfl, rfl, rfl, rfl, (B_w (show B 0 0 (0 : Int32) from ⟨by decide +kernel, by decide +kernel⟩) (by decide +kernel) (by decide +kernel)), _, _, rfl, hI21, (agc_refl (fs := [7306]) (rs := [77, 999]) (F := T19)), (qf_le (b' := (T19 73 6).toInt) (lo' := 0) (hi' := (64 * (T19 63 2).toInt) - 1) r23 (by omega) (by omega) (by omega))⟩, fun x1_43 x2_44 x5_45 x6_46 x7_47 x8_48 ST49 hIv => ?_⟩
        obtain ⟨rfl, rfl, rfl, rfl, rfl, b50, T49, LT49, rfl, hI51, g52, r54⟩ := hIv
        suffices hs : ∀ (R38 : Nat → Int32 → Int32 → Int32 → Int32 → Int32 → cs → Prop), (∀ zx1 zx2 zx5 zx6 zx7 zx8 zS, ((63 : Nat) = zx1 ∧ x2 = zx2 ∧ (x3 * (F 64 x2.toNatClampNeg)) = zx5 ∧ (x4 * (F 65 x2.toNatClampNeg)) = zx6 ∧ x7_18 = zx7 ∧ B 0 2 zx8 ∧ ∃ (T49 : cF) (LT49 : cL), zS = (T49, LT49, PC false b P) ∧ IMc T49 ∧ agc [7306] [77, 999] T19 T49 ∧ (qf (T49 77) 0 (T49 73 6).toInt 0 ((64 * (T49 63 2).toInt) - 1))) → (2 - zx8.toInt).toNat < (2 - x8_48.toInt).toNat → R38 zx1 zx2 zx5 zx6 zx7 zx8 zS) → b_Sc_addStretch_38 UL 73 63 x2 (x3 * (F 64 x2.toNatClampNeg)) (x4 * (F 65 x2.toNatClampNeg)) x7_18 x8_48 (T49, LT49, PC false b P) R24 R38 K from hs _ (fun _ _ _ _ _ _ _ h1 h2 => ⟨h1, h2⟩)
        intro R38 hR380
        have hR38 := fun {zx1} {zx2} {zx5} {zx6} {zx7} {zx8} {zS} => hR380 zx1 zx2 zx5 zx6 zx7 zx8 zS
        have q55 : (0) ≤ (T49 73 6).toInt ∧ (T49 73 6).toInt ≤ (192) := (show B 0 192 (T49 73 6) from B_w (show B 0 192 (T49 73 6) from hI51 73 6) (by decide +kernel) (by decide +kernel))
        unfold b_Sc_addStretch_38
        refine ⟨(show c_cl UL 63 = 7 from cl_63), ?_⟩
        refine ⟨(show ¬ ((64 : Nat) = NU) from by decide +kernel), ?_⟩
        refine ⟨(show c_cl UL 64 = 902 from cl_64), ?_⟩
        refine ⟨(show vp_in (x2) 3 from vp_B b_x2 (by decide +kernel) (by decide +kernel)), ?_⟩
        refine ⟨fun hc => ?_, fun hc => ?_⟩
        · have r56 : 1 ≤ (F 64 x2.toNatClampNeg).toInt ∧ (F 64 x2.toNatClampNeg).toInt ≤ (F 63 5).toInt := qf_at pre4 (x := x2) (by omega) (by omega)
          have b57 : B 1 1 (F 64 x2.toNatClampNeg) := ⟨by omega, by omega⟩
          have hq58 := hc
          have b59 : B 1 2 (x8_48) := B_w (B_leR (B_eq ((congrFun (g52.2 64 rfl rfl) x2.toNatClampNeg).trans (congrFun (g22.2 64 rfl rfl) x2.toNatClampNeg)) b57) b50 hq58) (by decide +kernel) (by decide +kernel)
          have q60 : (1) ≤ (F 64 x2.toNatClampNeg).toInt ∧ (F 64 x2.toNatClampNeg).toInt ≤ (1) := (show B 1 1 (F 64 x2.toNatClampNeg) from B_w b57 (by decide +kernel) (by decide +kernel))
          have e61 : (T49 64 x2.toNatClampNeg).toInt = (F 64 x2.toNatClampNeg).toInt := (congrArg Int32.toInt ((congrFun (g52.2 64 rfl rfl) x2.toNatClampNeg).trans (congrFun (g22.2 64 rfl rfl) x2.toNatClampNeg))).trans rfl
          have q62 : (1) ≤ (x8_48).toInt ∧ (x8_48).toInt ≤ (2) := (show B 1 2 (x8_48) from B_w b59 (by decide +kernel) (by decide +kernel))
          have i63 : (T49 64 x2.toNatClampNeg).toInt ≤ (x8_48).toInt := i_le hq58
          have g65 := agc_tr (agc_refl (fs := [7306]) (rs := [77, 999]) (F := F)) g22 (by decide +kernel) (by decide +kernel)
          have g64 := agc_tr g65 g52 (by decide +kernel) (by decide +kernel)
          have e66 : (T49 63 2).toInt = (F 63 2).toInt := (congrArg Int32.toInt ((g52.1 63 2 rfl rfl).trans (g22.1 63 2 rfl rfl))).trans rfl
          have e67 : (x7_18 + 1).toInt = ((x7_18).toInt + 1) := (t_add b38 (show B 1 1 (1 : Int32) from ⟨by decide +kernel, by decide +kernel⟩) (by decide +kernel) (by decide +kernel)).trans (by rw [(show (1 : Int32).toInt = 1 from by decide +kernel)])
          have q68 : (1) ≤ (x7_18 + 1).toInt ∧ (x7_18 + 1).toInt ≤ (1) := (show B 1 1 (x7_18 + 1) from B_w (B_add b38 (show B 1 1 (1 : Int32) from ⟨by decide +kernel, by decide +kernel⟩) (by decide +kernel) (by decide +kernel)) (by decide +kernel) (by decide +kernel))
          exact hR24 ⟨rfl, rfl, rfl, rfl, (B_w (B_add b38 (show B 1 1 (1 : Int32) from ⟨by decide +kernel, by decide +kernel⟩) (by decide +kernel) (by decide +kernel)) (by decide +kernel) (by decide +kernel)), _, _, rfl, hI51, g64, (qf_le (b' := (T49 73 6).toInt) (lo' := 0) (hi' := (64 * (T49 63 2).toInt) - 1) r54 (by omega) (by omega) (by omega))⟩ (by show (2 - (x7_18 + 1).toInt).toNat < (2 - x7_18.toInt).toNat; omega)
        · have r69 : 1 ≤ (F 64 x2.toNatClampNeg).toInt ∧ (F 64 x2.toNatClampNeg).toInt ≤ (F 63 5).toInt := qf_at pre4 (x := x2) (by omega) (by omega)
          have b70 : B 1 1 (F 64 x2.toNatClampNeg) := ⟨by omega, by omega⟩
          have hq71 := (nle_lt hc)
          have b72 : B 0 0 (x8_48) := B_w (B_ltL b50 (B_eq ((congrFun (g52.2 64 rfl rfl) x2.toNatClampNeg).trans (congrFun (g22.2 64 rfl rfl) x2.toNatClampNeg)) b70) hq71) (by decide +kernel) (by decide +kernel)
          have q73 : (0) ≤ (x8_48).toInt ∧ (x8_48).toInt ≤ (0) := (show B 0 0 (x8_48) from B_w b72 (by decide +kernel) (by decide +kernel))
          have q74 : (1) ≤ (F 64 x2.toNatClampNeg).toInt ∧ (F 64 x2.toNatClampNeg).toInt ≤ (1) := (show B 1 1 (F 64 x2.toNatClampNeg) from B_w b70 (by decide +kernel) (by decide +kernel))
          have e75 : (T49 64 x2.toNatClampNeg).toInt = (F 64 x2.toNatClampNeg).toInt := (congrArg Int32.toInt ((congrFun (g52.2 64 rfl rfl) x2.toNatClampNeg).trans (congrFun (g22.2 64 rfl rfl) x2.toNatClampNeg))).trans rfl
          have i76 : (x8_48).toInt < (T49 64 x2.toNatClampNeg).toInt := i_lt hq71
          refine ⟨(show ¬ ((68 : Nat) = NU) from by decide +kernel), ?_⟩
          refine ⟨(show c_cl UL 68 = 902 from cl_68), ?_⟩
          refine ⟨(show vp_in (x2) 3 from vp_B b_x2 (by decide +kernel) (by decide +kernel)), ?_⟩
          have e77 : (T49 63 2).toInt = (F 63 2).toInt := (congrArg Int32.toInt ((g52.1 63 2 rfl rfl).trans (g22.1 63 2 rfl rfl))).trans rfl
          refine h_Sc_addBlock_u73_a0 b_x2 (B_w (B_add (B_add (B_mul (B_add (B_mul b_x4 b36 (by decide +kernel) (by decide +kernel) (by decide +kernel)) b38 (by decide +kernel) (by decide +kernel)) (B_eq ((congrFun (g52.2 68 rfl rfl) x2.toNatClampNeg).trans (congrFun (g22.2 68 rfl rfl) x2.toNatClampNeg)) (show B 0 8 (F 68 x2.toNatClampNeg) from hI 68 x2.toNatClampNeg)) (by decide +kernel) (by decide +kernel) (by decide +kernel)) (B_mul b_x3 b70 (by decide +kernel) (by decide +kernel) (by decide +kernel)) (by decide +kernel) (by decide +kernel)) b72 (by decide +kernel) (by decide +kernel)) (by decide +kernel) (by decide +kernel)) hI51 (qf_le (b' := (T49 73 6).toInt) (lo' := 0) (hi' := (64 * (T49 63 2).toInt) - 1) r54 (by omega) (by omega) (by omega)) (by show x2.toInt < (T49 63 2).toInt; omega) (fun {FS69_78} {LFS69_78} hI79 g80 r81 => ?_)
          have r82 : qf (FS69_78 77) 0 (FS69_78 73 6).toInt 0 ((64 * (FS69_78 63 2).toInt) - 1) := r81
          clear r81
          have q83 : (0) ≤ (FS69_78 73 6).toInt ∧ (FS69_78 73 6).toInt ≤ (192) := (show B 0 192 (FS69_78 73 6) from B_w (show B 0 192 (FS69_78 73 6) from hI79 73 6) (by decide +kernel) (by decide +kernel))
          have g85 := agc_tr (agc_refl (fs := [7306]) (rs := [77, 999]) (F := T19)) g52 (by decide +kernel) (by decide +kernel)
          have g84 := agc_tr g85 g80 (by decide +kernel) (by decide +kernel)
          have e86 : (FS69_78 63 2).toInt = (F 63 2).toInt := (congrArg Int32.toInt (((g80.1 63 2 rfl rfl).trans (g52.1 63 2 rfl rfl)).trans (g22.1 63 2 rfl rfl))).trans rfl
          have e87 : (x8_48 + 1).toInt = ((x8_48).toInt + 1) := (t_add b72 (show B 1 1 (1 : Int32) from ⟨by decide +kernel, by decide +kernel⟩) (by decide +kernel) (by decide +kernel)).trans (by rw [(show (1 : Int32).toInt = 1 from by decide +kernel)])
          have q88 : (1) ≤ (x8_48 + 1).toInt ∧ (x8_48 + 1).toInt ≤ (1) := (show B 1 1 (x8_48 + 1) from B_w (B_add b72 (show B 1 1 (1 : Int32) from ⟨by decide +kernel, by decide +kernel⟩) (by decide +kernel) (by decide +kernel)) (by decide +kernel) (by decide +kernel))
          exact hR38 ⟨rfl, rfl, rfl, rfl, rfl, (B_w (B_add b72 (show B 1 1 (1 : Int32) from ⟨by decide +kernel, by decide +kernel⟩) (by decide +kernel) (by decide +kernel)) (by decide +kernel) (by decide +kernel)), _, _, rfl, hI79, g84, (qf_le (b' := (FS69_78 73 6).toInt) (lo' := 0) (hi' := (64 * (FS69_78 63 2).toInt) - 1) r82 (by omega) (by omega) (by omega))⟩ (by show (2 - (x8_48 + 1).toInt).toNat < (2 - x8_48.toInt).toNat; omega)
    · have b89 : B 2 2 (F 63 6) := B_eq hcs (show B 2 2 (2 : Int32) from ⟨by decide +kernel, by decide +kernel⟩)
      have q90 : (2) ≤ (F 63 6).toInt ∧ (F 63 6).toInt ≤ (2) := (show B 2 2 (F 63 6) from B_w b89 (by decide +kernel) (by decide +kernel))
      have b91 : B 0 3 (x4) := ⟨by omega, by omega⟩
      refine ⟨(show c_cl UL 63 = 7 from cl_63), ?_⟩
      refine ⟨(show ¬ ((64 : Nat) = NU) from by decide +kernel), ?_⟩
      refine ⟨(show c_cl UL 64 = 902 from cl_64), ?_⟩
      refine ⟨(show vp_in (x2) 3 from vp_B b_x2 (by decide +kernel) (by decide +kernel)), ?_⟩
      refine ⟨(show ¬ ((65 : Nat) = NU) from by decide +kernel), ?_⟩
      refine ⟨(show c_cl UL 65 = 902 from cl_65), ?_⟩
      refine ⟨(show vp_in (x2) 3 from vp_B b_x2 (by decide +kernel) (by decide +kernel)), ?_⟩
      refine ⟨fun yx1 yx2 yx5 yx6 yx7 yS => (63 : Nat) = yx1 ∧ x2 = yx2 ∧ (x3 * (F 64 x2.toNatClampNeg)) = yx5 ∧ (x4 * (F 65 x2.toNatClampNeg)) = yx6 ∧ B 0 2 yx7 ∧ ∃ (T97 : cF) (LT97 : cL), yS = (T97, LT97, PC false b P) ∧ IMc T97 ∧ agc [7306] [77, 999] F T97 ∧ (qf (T97 77) 0 (T97 73 6).toInt 0 ((64 * (T97 63 2).toInt) - 1)), fun yx1 yx2 yx5 yx6 yx7 yS => (2 - yx7.toInt).toNat, ⟨rfl, rfl, rfl, rfl, (B_w (show B 0 0 (0 : Int32) from ⟨by decide +kernel, by decide +kernel⟩) (by decide +kernel) (by decide +kernel)), _, _, rfl, hI, (agc_refl (fs := [7306]) (rs := [77, 999]) (F := F)), (qf_le (b' := (F 73 6).toInt) (lo' := 0) (hi' := (64 * (F 63 2).toInt) - 1) pre0 (by omega) (by omega) (by omega))⟩, fun x1_92 x2_93 x5_94 x6_95 x7_96 ST97 hIv => ?_⟩
      obtain ⟨rfl, rfl, rfl, rfl, b98, T97, LT97, rfl, hI99, g100, r101⟩ := hIv
      suffices hs : ∀ (R24 : Nat → Int32 → Int32 → Int32 → Int32 → cs → Prop), (∀ zx1 zx2 zx5 zx6 zx7 zS, ((63 : Nat) = zx1 ∧ x2 = zx2 ∧ (x3 * (F 64 x2.toNatClampNeg)) = zx5 ∧ (x4 * (F 65 x2.toNatClampNeg)) = zx6 ∧ B 0 2 zx7 ∧ ∃ (T97 : cF) (LT97 : cL), zS = (T97, LT97, PC false b P) ∧ IMc T97 ∧ agc [7306] [77, 999] F T97 ∧ (qf (T97 77) 0 (T97 73 6).toInt 0 ((64 * (T97 63 2).toInt) - 1))) → (2 - zx7.toInt).toNat < (2 - x7_96.toInt).toNat → R24 zx1 zx2 zx5 zx6 zx7 zS) → b_Sc_addStretch_24 UL 73 63 x2 (x3 * (F 64 x2.toNatClampNeg)) (x4 * (F 65 x2.toNatClampNeg)) x7_96 (T97, LT97, PC false b P) R24 K from hs _ (fun _ _ _ _ _ _ h1 h2 => ⟨h1, h2⟩)
      intro R24 hR240
      have hR24 := fun {zx1} {zx2} {zx5} {zx6} {zx7} {zS} => hR240 zx1 zx2 zx5 zx6 zx7 zS
      have q102 : (0) ≤ (T97 73 6).toInt ∧ (T97 73 6).toInt ≤ (192) := (show B 0 192 (T97 73 6) from B_w (show B 0 192 (T97 73 6) from hI99 73 6) (by decide +kernel) (by decide +kernel))
      unfold b_Sc_addStretch_24
      refine ⟨(show c_cl UL 63 = 7 from cl_63), ?_⟩
      refine ⟨(show ¬ ((65 : Nat) = NU) from by decide +kernel), ?_⟩
      refine ⟨(show c_cl UL 65 = 902 from cl_65), ?_⟩
      refine ⟨(show vp_in (x2) 3 from vp_B b_x2 (by decide +kernel) (by decide +kernel)), ?_⟩
      refine ⟨fun hc => ?_, fun hc => ?_⟩
      · have r103 : 1 ≤ (F 65 x2.toNatClampNeg).toInt ∧ (F 65 x2.toNatClampNeg).toInt ≤ (F 63 6).toInt := qf_at pre5 (x := x2) (by omega) (by omega)
        have hq104 := hc
        have b105 : B 1 2 (x7_96) := B_w (B_leR (B_eq (congrFun (g100.2 65 rfl rfl) x2.toNatClampNeg) (show B 1 2 (F 65 x2.toNatClampNeg) from hI 65 x2.toNatClampNeg)) b98 hq104) (by decide +kernel) (by decide +kernel)
        have q106 : (1) ≤ (F 65 x2.toNatClampNeg).toInt ∧ (F 65 x2.toNatClampNeg).toInt ≤ (2) := (show B 1 2 (F 65 x2.toNatClampNeg) from B_w (show B 1 2 (F 65 x2.toNatClampNeg) from hI 65 x2.toNatClampNeg) (by decide +kernel) (by decide +kernel))
        have e107 : (T97 65 x2.toNatClampNeg).toInt = (F 65 x2.toNatClampNeg).toInt := (congrArg Int32.toInt (congrFun (g100.2 65 rfl rfl) x2.toNatClampNeg)).trans rfl
        have q108 : (1) ≤ (x7_96).toInt ∧ (x7_96).toInt ≤ (2) := (show B 1 2 (x7_96) from B_w b105 (by decide +kernel) (by decide +kernel))
        have i109 : (T97 65 x2.toNatClampNeg).toInt ≤ (x7_96).toInt := i_le hq104
        have g110 := agc_tr (agc_refl (fs := [7306]) (rs := [77, 999]) (F := F)) g100 (by decide +kernel) (by decide +kernel)
        have e111 : (T97 63 2).toInt = (F 63 2).toInt := (congrArg Int32.toInt (g100.1 63 2 rfl rfl)).trans rfl
        exact hK hI99 g110 (qf_le (b' := (T97 73 6).toInt) (lo' := 0) (hi' := (64 * (T97 63 2).toInt) - 1) r101 (by omega) (by omega) (by omega))
      · have r112 : 1 ≤ (F 65 x2.toNatClampNeg).toInt ∧ (F 65 x2.toNatClampNeg).toInt ≤ (F 63 6).toInt := qf_at pre5 (x := x2) (by omega) (by omega)
        have hq113 := (nle_lt hc)
        have b114 : B 0 1 (x7_96) := B_w (B_ltL b98 (B_eq (congrFun (g100.2 65 rfl rfl) x2.toNatClampNeg) (show B 1 2 (F 65 x2.toNatClampNeg) from hI 65 x2.toNatClampNeg)) hq113) (by decide +kernel) (by decide +kernel)
        have q115 : (0) ≤ (x7_96).toInt ∧ (x7_96).toInt ≤ (1) := (show B 0 1 (x7_96) from B_w b114 (by decide +kernel) (by decide +kernel))
        have q116 : (1) ≤ (F 65 x2.toNatClampNeg).toInt ∧ (F 65 x2.toNatClampNeg).toInt ≤ (2) := (show B 1 2 (F 65 x2.toNatClampNeg) from B_w (show B 1 2 (F 65 x2.toNatClampNeg) from hI 65 x2.toNatClampNeg) (by decide +kernel) (by decide +kernel))
        have e117 : (T97 65 x2.toNatClampNeg).toInt = (F 65 x2.toNatClampNeg).toInt := (congrArg Int32.toInt (congrFun (g100.2 65 rfl rfl) x2.toNatClampNeg)).trans rfl
        have i118 : (x7_96).toInt < (T97 65 x2.toNatClampNeg).toInt := i_lt hq113
        have e129 : (T97 63 2).toInt = (F 63 2).toInt := (congrArg Int32.toInt (g100.1 63 2 rfl rfl)).trans rfl
        refine ⟨fun yx1 yx2 yx5 yx6 yx7 yx8 yS => (63 : Nat) = yx1 ∧ x2 = yx2 ∧ (x3 * (F 64 x2.toNatClampNeg)) = yx5 ∧ (x4 * (F 65 x2.toNatClampNeg)) = yx6 ∧ x7_96 = yx7 ∧ B 0 2 yx8 ∧ ∃ (T125 : cF) (LT125 : cL), yS = (T125, LT125, PC false b P) ∧ IMc T125 ∧ agc [7306] [77, 999] T97 T125 ∧ (qf (T125 77) 0 (T125 73 6).toInt 0 ((64 * (T125 63 2).toInt) - 1)), fun yx1 yx2 yx5 yx6 yx7 yx8 yS => (2 - yx8.toInt).toNat, ⟨rfl, rfl, rfl, rfl, rfl, (B_w (show B 0 0 (0 : Int32) from ⟨by decide +kernel, by decide +kernel⟩) (by decide +kernel) (by decide +kernel)), _, _, rfl, hI99, (agc_refl (fs := [7306]) (rs := [77, 999]) (F := T97)), (qf_le (b' := (T97 73 6).toInt) (lo' := 0) (hi' := (64 * (T97 63 2).toInt) - 1) r101 (by omega) (by omega) (by omega))⟩, fun x1_119 x2_120 x5_121 x6_122 x7_123 x8_124 ST125 hIv => ?_⟩
        obtain ⟨rfl, rfl, rfl, rfl, rfl, b126, T125, LT125, rfl, hI127, g128, r130⟩ := hIv
        suffices hs : ∀ (R38 : Nat → Int32 → Int32 → Int32 → Int32 → Int32 → cs → Prop), (∀ zx1 zx2 zx5 zx6 zx7 zx8 zS, ((63 : Nat) = zx1 ∧ x2 = zx2 ∧ (x3 * (F 64 x2.toNatClampNeg)) = zx5 ∧ (x4 * (F 65 x2.toNatClampNeg)) = zx6 ∧ x7_96 = zx7 ∧ B 0 2 zx8 ∧ ∃ (T125 : cF) (LT125 : cL), zS = (T125, LT125, PC false b P) ∧ IMc T125 ∧ agc [7306] [77, 999] T97 T125 ∧ (qf (T125 77) 0 (T125 73 6).toInt 0 ((64 * (T125 63 2).toInt) - 1))) → (2 - zx8.toInt).toNat < (2 - x8_124.toInt).toNat → R38 zx1 zx2 zx5 zx6 zx7 zx8 zS) → b_Sc_addStretch_38 UL 73 63 x2 (x3 * (F 64 x2.toNatClampNeg)) (x4 * (F 65 x2.toNatClampNeg)) x7_96 x8_124 (T125, LT125, PC false b P) R24 R38 K from hs _ (fun _ _ _ _ _ _ _ h1 h2 => ⟨h1, h2⟩)
        intro R38 hR380
        have hR38 := fun {zx1} {zx2} {zx5} {zx6} {zx7} {zx8} {zS} => hR380 zx1 zx2 zx5 zx6 zx7 zx8 zS
        have q131 : (0) ≤ (T125 73 6).toInt ∧ (T125 73 6).toInt ≤ (192) := (show B 0 192 (T125 73 6) from B_w (show B 0 192 (T125 73 6) from hI127 73 6) (by decide +kernel) (by decide +kernel))
        unfold b_Sc_addStretch_38
        refine ⟨(show c_cl UL 63 = 7 from cl_63), ?_⟩
        refine ⟨(show ¬ ((64 : Nat) = NU) from by decide +kernel), ?_⟩
        refine ⟨(show c_cl UL 64 = 902 from cl_64), ?_⟩
        refine ⟨(show vp_in (x2) 3 from vp_B b_x2 (by decide +kernel) (by decide +kernel)), ?_⟩
        refine ⟨fun hc => ?_, fun hc => ?_⟩
        · have r132 : 1 ≤ (F 64 x2.toNatClampNeg).toInt ∧ (F 64 x2.toNatClampNeg).toInt ≤ (F 63 5).toInt := qf_at pre4 (x := x2) (by omega) (by omega)
          have b133 : B 1 1 (F 64 x2.toNatClampNeg) := ⟨by omega, by omega⟩
          have hq134 := hc
          have b135 : B 1 2 (x8_124) := B_w (B_leR (B_eq ((congrFun (g128.2 64 rfl rfl) x2.toNatClampNeg).trans (congrFun (g100.2 64 rfl rfl) x2.toNatClampNeg)) b133) b126 hq134) (by decide +kernel) (by decide +kernel)
          have q136 : (1) ≤ (F 64 x2.toNatClampNeg).toInt ∧ (F 64 x2.toNatClampNeg).toInt ≤ (1) := (show B 1 1 (F 64 x2.toNatClampNeg) from B_w b133 (by decide +kernel) (by decide +kernel))
          have e137 : (T125 64 x2.toNatClampNeg).toInt = (F 64 x2.toNatClampNeg).toInt := (congrArg Int32.toInt ((congrFun (g128.2 64 rfl rfl) x2.toNatClampNeg).trans (congrFun (g100.2 64 rfl rfl) x2.toNatClampNeg))).trans rfl
          have q138 : (1) ≤ (x8_124).toInt ∧ (x8_124).toInt ≤ (2) := (show B 1 2 (x8_124) from B_w b135 (by decide +kernel) (by decide +kernel))
          have i139 : (T125 64 x2.toNatClampNeg).toInt ≤ (x8_124).toInt := i_le hq134
          have g141 := agc_tr (agc_refl (fs := [7306]) (rs := [77, 999]) (F := F)) g100 (by decide +kernel) (by decide +kernel)
          have g140 := agc_tr g141 g128 (by decide +kernel) (by decide +kernel)
          have e142 : (T125 63 2).toInt = (F 63 2).toInt := (congrArg Int32.toInt ((g128.1 63 2 rfl rfl).trans (g100.1 63 2 rfl rfl))).trans rfl
          have e143 : (x7_96 + 1).toInt = ((x7_96).toInt + 1) := (t_add b114 (show B 1 1 (1 : Int32) from ⟨by decide +kernel, by decide +kernel⟩) (by decide +kernel) (by decide +kernel)).trans (by rw [(show (1 : Int32).toInt = 1 from by decide +kernel)])
          have q144 : (1) ≤ (x7_96 + 1).toInt ∧ (x7_96 + 1).toInt ≤ (2) := (show B 1 2 (x7_96 + 1) from B_w (B_add b114 (show B 1 1 (1 : Int32) from ⟨by decide +kernel, by decide +kernel⟩) (by decide +kernel) (by decide +kernel)) (by decide +kernel) (by decide +kernel))
          exact hR24 ⟨rfl, rfl, rfl, rfl, (B_w (B_add b114 (show B 1 1 (1 : Int32) from ⟨by decide +kernel, by decide +kernel⟩) (by decide +kernel) (by decide +kernel)) (by decide +kernel) (by decide +kernel)), _, _, rfl, hI127, g140, (qf_le (b' := (T125 73 6).toInt) (lo' := 0) (hi' := (64 * (T125 63 2).toInt) - 1) r130 (by omega) (by omega) (by omega))⟩ (by show (2 - (x7_96 + 1).toInt).toNat < (2 - x7_96.toInt).toNat; omega)
        · have r145 : 1 ≤ (F 64 x2.toNatClampNeg).toInt ∧ (F 64 x2.toNatClampNeg).toInt ≤ (F 63 5).toInt := qf_at pre4 (x := x2) (by omega) (by omega)
          have b146 : B 1 1 (F 64 x2.toNatClampNeg) := ⟨by omega, by omega⟩
          have hq147 := (nle_lt hc)
          have b148 : B 0 0 (x8_124) := B_w (B_ltL b126 (B_eq ((congrFun (g128.2 64 rfl rfl) x2.toNatClampNeg).trans (congrFun (g100.2 64 rfl rfl) x2.toNatClampNeg)) b146) hq147) (by decide +kernel) (by decide +kernel)
          have q149 : (0) ≤ (x8_124).toInt ∧ (x8_124).toInt ≤ (0) := (show B 0 0 (x8_124) from B_w b148 (by decide +kernel) (by decide +kernel))
          have q150 : (1) ≤ (F 64 x2.toNatClampNeg).toInt ∧ (F 64 x2.toNatClampNeg).toInt ≤ (1) := (show B 1 1 (F 64 x2.toNatClampNeg) from B_w b146 (by decide +kernel) (by decide +kernel))
          have e151 : (T125 64 x2.toNatClampNeg).toInt = (F 64 x2.toNatClampNeg).toInt := (congrArg Int32.toInt ((congrFun (g128.2 64 rfl rfl) x2.toNatClampNeg).trans (congrFun (g100.2 64 rfl rfl) x2.toNatClampNeg))).trans rfl
          have i152 : (x8_124).toInt < (T125 64 x2.toNatClampNeg).toInt := i_lt hq147
          refine ⟨(show ¬ ((68 : Nat) = NU) from by decide +kernel), ?_⟩
          refine ⟨(show c_cl UL 68 = 902 from cl_68), ?_⟩
          refine ⟨(show vp_in (x2) 3 from vp_B b_x2 (by decide +kernel) (by decide +kernel)), ?_⟩
          have e153 : (T125 63 2).toInt = (F 63 2).toInt := (congrArg Int32.toInt ((g128.1 63 2 rfl rfl).trans (g100.1 63 2 rfl rfl))).trans rfl
          refine h_Sc_addBlock_u73_a0 b_x2 (B_w (B_add (B_add (B_mul (B_add (B_mul b91 (show B 1 2 (F 65 x2.toNatClampNeg) from hI 65 x2.toNatClampNeg) (by decide +kernel) (by decide +kernel) (by decide +kernel)) b114 (by decide +kernel) (by decide +kernel)) (B_eq ((congrFun (g128.2 68 rfl rfl) x2.toNatClampNeg).trans (congrFun (g100.2 68 rfl rfl) x2.toNatClampNeg)) (show B 0 8 (F 68 x2.toNatClampNeg) from hI 68 x2.toNatClampNeg)) (by decide +kernel) (by decide +kernel) (by decide +kernel)) (B_mul b_x3 b146 (by decide +kernel) (by decide +kernel) (by decide +kernel)) (by decide +kernel) (by decide +kernel)) b148 (by decide +kernel) (by decide +kernel)) (by decide +kernel) (by decide +kernel)) hI127 (qf_le (b' := (T125 73 6).toInt) (lo' := 0) (hi' := (64 * (T125 63 2).toInt) - 1) r130 (by omega) (by omega) (by omega)) (by show x2.toInt < (T125 63 2).toInt; omega) (fun {FS69_154} {LFS69_154} hI155 g156 r157 => ?_)
          have r158 : qf (FS69_154 77) 0 (FS69_154 73 6).toInt 0 ((64 * (FS69_154 63 2).toInt) - 1) := r157
          clear r157
          have q159 : (0) ≤ (FS69_154 73 6).toInt ∧ (FS69_154 73 6).toInt ≤ (192) := (show B 0 192 (FS69_154 73 6) from B_w (show B 0 192 (FS69_154 73 6) from hI155 73 6) (by decide +kernel) (by decide +kernel))
          have g161 := agc_tr (agc_refl (fs := [7306]) (rs := [77, 999]) (F := T97)) g128 (by decide +kernel) (by decide +kernel)
          have g160 := agc_tr g161 g156 (by decide +kernel) (by decide +kernel)
          have e162 : (FS69_154 63 2).toInt = (F 63 2).toInt := (congrArg Int32.toInt (((g156.1 63 2 rfl rfl).trans (g128.1 63 2 rfl rfl)).trans (g100.1 63 2 rfl rfl))).trans rfl
          have e163 : (x8_124 + 1).toInt = ((x8_124).toInt + 1) := (t_add b148 (show B 1 1 (1 : Int32) from ⟨by decide +kernel, by decide +kernel⟩) (by decide +kernel) (by decide +kernel)).trans (by rw [(show (1 : Int32).toInt = 1 from by decide +kernel)])
          have q164 : (1) ≤ (x8_124 + 1).toInt ∧ (x8_124 + 1).toInt ≤ (1) := (show B 1 1 (x8_124 + 1) from B_w (B_add b148 (show B 1 1 (1 : Int32) from ⟨by decide +kernel, by decide +kernel⟩) (by decide +kernel) (by decide +kernel)) (by decide +kernel) (by decide +kernel))
          exact hR38 ⟨rfl, rfl, rfl, rfl, rfl, (B_w (B_add b148 (show B 1 1 (1 : Int32) from ⟨by decide +kernel, by decide +kernel⟩) (by decide +kernel) (by decide +kernel)) (by decide +kernel) (by decide +kernel)), _, _, rfl, hI155, g160, (qf_le (b' := (FS69_154 73 6).toInt) (lo' := 0) (hi' := (64 * (FS69_154 63 2).toInt) - 1) r158 (by omega) (by omega) (by omega))⟩ (by show (2 - (x8_124 + 1).toInt).toNat < (2 - x8_124.toInt).toNat; omega)
  · have b165 : B 2 2 (F 63 5) := B_eq hcs (show B 2 2 (2 : Int32) from ⟨by decide +kernel, by decide +kernel⟩)
    have q166 : (2) ≤ (F 63 5).toInt ∧ (F 63 5).toInt ≤ (2) := (show B 2 2 (F 63 5) from B_w b165 (by decide +kernel) (by decide +kernel))
    have b167 : B 0 3 (x3) := ⟨by omega, by omega⟩
    rcases sp_12 (show B 1 2 (F 63 6) from B_w (show B 1 2 (F 63 6) from hI 63 6) (by decide +kernel) (by decide +kernel)) with hcs | hcs
    · have b168 : B 1 1 (F 63 6) := B_eq hcs (show B 1 1 (1 : Int32) from ⟨by decide +kernel, by decide +kernel⟩)
      have q169 : (1) ≤ (F 63 6).toInt ∧ (F 63 6).toInt ≤ (1) := (show B 1 1 (F 63 6) from B_w b168 (by decide +kernel) (by decide +kernel))
      refine ⟨(show c_cl UL 63 = 7 from cl_63), ?_⟩
      refine ⟨(show ¬ ((64 : Nat) = NU) from by decide +kernel), ?_⟩
      refine ⟨(show c_cl UL 64 = 902 from cl_64), ?_⟩
      refine ⟨(show vp_in (x2) 3 from vp_B b_x2 (by decide +kernel) (by decide +kernel)), ?_⟩
      refine ⟨(show ¬ ((65 : Nat) = NU) from by decide +kernel), ?_⟩
      refine ⟨(show c_cl UL 65 = 902 from cl_65), ?_⟩
      refine ⟨(show vp_in (x2) 3 from vp_B b_x2 (by decide +kernel) (by decide +kernel)), ?_⟩
      refine ⟨fun yx1 yx2 yx5 yx6 yx7 yS => (63 : Nat) = yx1 ∧ x2 = yx2 ∧ (x3 * (F 64 x2.toNatClampNeg)) = yx5 ∧ (x4 * (F 65 x2.toNatClampNeg)) = yx6 ∧ B 0 2 yx7 ∧ ∃ (T175 : cF) (LT175 : cL), yS = (T175, LT175, PC false b P) ∧ IMc T175 ∧ agc [7306] [77, 999] F T175 ∧ (qf (T175 77) 0 (T175 73 6).toInt 0 ((64 * (T175 63 2).toInt) - 1)), fun yx1 yx2 yx5 yx6 yx7 yS => (2 - yx7.toInt).toNat, ⟨rfl, rfl, rfl, rfl, (B_w (show B 0 0 (0 : Int32) from ⟨by decide +kernel, by decide +kernel⟩) (by decide +kernel) (by decide +kernel)), _, _, rfl, hI, (agc_refl (fs := [7306]) (rs := [77, 999]) (F := F)), (qf_le (b' := (F 73 6).toInt) (lo' := 0) (hi' := (64 * (F 63 2).toInt) - 1) pre0 (by omega) (by omega) (by omega))⟩, fun x1_170 x2_171 x5_172 x6_173 x7_174 ST175 hIv => ?_⟩
      obtain ⟨rfl, rfl, rfl, rfl, b176, T175, LT175, rfl, hI177, g178, r179⟩ := hIv
      suffices hs : ∀ (R24 : Nat → Int32 → Int32 → Int32 → Int32 → cs → Prop), (∀ zx1 zx2 zx5 zx6 zx7 zS, ((63 : Nat) = zx1 ∧ x2 = zx2 ∧ (x3 * (F 64 x2.toNatClampNeg)) = zx5 ∧ (x4 * (F 65 x2.toNatClampNeg)) = zx6 ∧ B 0 2 zx7 ∧ ∃ (T175 : cF) (LT175 : cL), zS = (T175, LT175, PC false b P) ∧ IMc T175 ∧ agc [7306] [77, 999] F T175 ∧ (qf (T175 77) 0 (T175 73 6).toInt 0 ((64 * (T175 63 2).toInt) - 1))) → (2 - zx7.toInt).toNat < (2 - x7_174.toInt).toNat → R24 zx1 zx2 zx5 zx6 zx7 zS) → b_Sc_addStretch_24 UL 73 63 x2 (x3 * (F 64 x2.toNatClampNeg)) (x4 * (F 65 x2.toNatClampNeg)) x7_174 (T175, LT175, PC false b P) R24 K from hs _ (fun _ _ _ _ _ _ h1 h2 => ⟨h1, h2⟩)
      intro R24 hR240
      have hR24 := fun {zx1} {zx2} {zx5} {zx6} {zx7} {zS} => hR240 zx1 zx2 zx5 zx6 zx7 zS
      have q180 : (0) ≤ (T175 73 6).toInt ∧ (T175 73 6).toInt ≤ (192) := (show B 0 192 (T175 73 6) from B_w (show B 0 192 (T175 73 6) from hI177 73 6) (by decide +kernel) (by decide +kernel))
      unfold b_Sc_addStretch_24
      refine ⟨(show c_cl UL 63 = 7 from cl_63), ?_⟩
      refine ⟨(show ¬ ((65 : Nat) = NU) from by decide +kernel), ?_⟩
      refine ⟨(show c_cl UL 65 = 902 from cl_65), ?_⟩
      refine ⟨(show vp_in (x2) 3 from vp_B b_x2 (by decide +kernel) (by decide +kernel)), ?_⟩
      refine ⟨fun hc => ?_, fun hc => ?_⟩
      · have r181 : 1 ≤ (F 65 x2.toNatClampNeg).toInt ∧ (F 65 x2.toNatClampNeg).toInt ≤ (F 63 6).toInt := qf_at pre5 (x := x2) (by omega) (by omega)
        have b182 : B 1 1 (F 65 x2.toNatClampNeg) := ⟨by omega, by omega⟩
        have hq183 := hc
        have b184 : B 1 2 (x7_174) := B_w (B_leR (B_eq (congrFun (g178.2 65 rfl rfl) x2.toNatClampNeg) b182) b176 hq183) (by decide +kernel) (by decide +kernel)
        have q185 : (1) ≤ (F 65 x2.toNatClampNeg).toInt ∧ (F 65 x2.toNatClampNeg).toInt ≤ (1) := (show B 1 1 (F 65 x2.toNatClampNeg) from B_w b182 (by decide +kernel) (by decide +kernel))
        have e186 : (T175 65 x2.toNatClampNeg).toInt = (F 65 x2.toNatClampNeg).toInt := (congrArg Int32.toInt (congrFun (g178.2 65 rfl rfl) x2.toNatClampNeg)).trans rfl
        have q187 : (1) ≤ (x7_174).toInt ∧ (x7_174).toInt ≤ (2) := (show B 1 2 (x7_174) from B_w b184 (by decide +kernel) (by decide +kernel))
        have i188 : (T175 65 x2.toNatClampNeg).toInt ≤ (x7_174).toInt := i_le hq183
        have g189 := agc_tr (agc_refl (fs := [7306]) (rs := [77, 999]) (F := F)) g178 (by decide +kernel) (by decide +kernel)
        have e190 : (T175 63 2).toInt = (F 63 2).toInt := (congrArg Int32.toInt (g178.1 63 2 rfl rfl)).trans rfl
        exact hK hI177 g189 (qf_le (b' := (T175 73 6).toInt) (lo' := 0) (hi' := (64 * (T175 63 2).toInt) - 1) r179 (by omega) (by omega) (by omega))
      · have r191 : 1 ≤ (F 65 x2.toNatClampNeg).toInt ∧ (F 65 x2.toNatClampNeg).toInt ≤ (F 63 6).toInt := qf_at pre5 (x := x2) (by omega) (by omega)
        have b192 : B 1 1 (F 65 x2.toNatClampNeg) := ⟨by omega, by omega⟩
        have hq193 := (nle_lt hc)
        have b194 : B 0 0 (x7_174) := B_w (B_ltL b176 (B_eq (congrFun (g178.2 65 rfl rfl) x2.toNatClampNeg) b192) hq193) (by decide +kernel) (by decide +kernel)
        have q195 : (0) ≤ (x7_174).toInt ∧ (x7_174).toInt ≤ (0) := (show B 0 0 (x7_174) from B_w b194 (by decide +kernel) (by decide +kernel))
        have q196 : (1) ≤ (F 65 x2.toNatClampNeg).toInt ∧ (F 65 x2.toNatClampNeg).toInt ≤ (1) := (show B 1 1 (F 65 x2.toNatClampNeg) from B_w b192 (by decide +kernel) (by decide +kernel))
        have e197 : (T175 65 x2.toNatClampNeg).toInt = (F 65 x2.toNatClampNeg).toInt := (congrArg Int32.toInt (congrFun (g178.2 65 rfl rfl) x2.toNatClampNeg)).trans rfl
        have i198 : (x7_174).toInt < (T175 65 x2.toNatClampNeg).toInt := i_lt hq193
        have e209 : (T175 63 2).toInt = (F 63 2).toInt := (congrArg Int32.toInt (g178.1 63 2 rfl rfl)).trans rfl
        refine ⟨fun yx1 yx2 yx5 yx6 yx7 yx8 yS => (63 : Nat) = yx1 ∧ x2 = yx2 ∧ (x3 * (F 64 x2.toNatClampNeg)) = yx5 ∧ (x4 * (F 65 x2.toNatClampNeg)) = yx6 ∧ x7_174 = yx7 ∧ B 0 2 yx8 ∧ ∃ (T205 : cF) (LT205 : cL), yS = (T205, LT205, PC false b P) ∧ IMc T205 ∧ agc [7306] [77, 999] T175 T205 ∧ (qf (T205 77) 0 (T205 73 6).toInt 0 ((64 * (T205 63 2).toInt) - 1)), fun yx1 yx2 yx5 yx6 yx7 yx8 yS => (2 - yx8.toInt).toNat, ⟨rfl, rfl, rfl, rfl, rfl, (B_w (show B 0 0 (0 : Int32) from ⟨by decide +kernel, by decide +kernel⟩) (by decide +kernel) (by decide +kernel)), _, _, rfl, hI177, (agc_refl (fs := [7306]) (rs := [77, 999]) (F := T175)), (qf_le (b' := (T175 73 6).toInt) (lo' := 0) (hi' := (64 * (T175 63 2).toInt) - 1) r179 (by omega) (by omega) (by omega))⟩, fun x1_199 x2_200 x5_201 x6_202 x7_203 x8_204 ST205 hIv => ?_⟩
        obtain ⟨rfl, rfl, rfl, rfl, rfl, b206, T205, LT205, rfl, hI207, g208, r210⟩ := hIv
        suffices hs : ∀ (R38 : Nat → Int32 → Int32 → Int32 → Int32 → Int32 → cs → Prop), (∀ zx1 zx2 zx5 zx6 zx7 zx8 zS, ((63 : Nat) = zx1 ∧ x2 = zx2 ∧ (x3 * (F 64 x2.toNatClampNeg)) = zx5 ∧ (x4 * (F 65 x2.toNatClampNeg)) = zx6 ∧ x7_174 = zx7 ∧ B 0 2 zx8 ∧ ∃ (T205 : cF) (LT205 : cL), zS = (T205, LT205, PC false b P) ∧ IMc T205 ∧ agc [7306] [77, 999] T175 T205 ∧ (qf (T205 77) 0 (T205 73 6).toInt 0 ((64 * (T205 63 2).toInt) - 1))) → (2 - zx8.toInt).toNat < (2 - x8_204.toInt).toNat → R38 zx1 zx2 zx5 zx6 zx7 zx8 zS) → b_Sc_addStretch_38 UL 73 63 x2 (x3 * (F 64 x2.toNatClampNeg)) (x4 * (F 65 x2.toNatClampNeg)) x7_174 x8_204 (T205, LT205, PC false b P) R24 R38 K from hs _ (fun _ _ _ _ _ _ _ h1 h2 => ⟨h1, h2⟩)
        intro R38 hR380
        have hR38 := fun {zx1} {zx2} {zx5} {zx6} {zx7} {zx8} {zS} => hR380 zx1 zx2 zx5 zx6 zx7 zx8 zS
        have q211 : (0) ≤ (T205 73 6).toInt ∧ (T205 73 6).toInt ≤ (192) := (show B 0 192 (T205 73 6) from B_w (show B 0 192 (T205 73 6) from hI207 73 6) (by decide +kernel) (by decide +kernel))
        unfold b_Sc_addStretch_38
        refine ⟨(show c_cl UL 63 = 7 from cl_63), ?_⟩
        refine ⟨(show ¬ ((64 : Nat) = NU) from by decide +kernel), ?_⟩
        refine ⟨(show c_cl UL 64 = 902 from cl_64), ?_⟩
        refine ⟨(show vp_in (x2) 3 from vp_B b_x2 (by decide +kernel) (by decide +kernel)), ?_⟩
        refine ⟨fun hc => ?_, fun hc => ?_⟩
        · have r212 : 1 ≤ (F 64 x2.toNatClampNeg).toInt ∧ (F 64 x2.toNatClampNeg).toInt ≤ (F 63 5).toInt := qf_at pre4 (x := x2) (by omega) (by omega)
          have hq213 := hc
          have b214 : B 1 2 (x8_204) := B_w (B_leR (B_eq ((congrFun (g208.2 64 rfl rfl) x2.toNatClampNeg).trans (congrFun (g178.2 64 rfl rfl) x2.toNatClampNeg)) (show B 1 2 (F 64 x2.toNatClampNeg) from hI 64 x2.toNatClampNeg)) b206 hq213) (by decide +kernel) (by decide +kernel)
          have q215 : (1) ≤ (F 64 x2.toNatClampNeg).toInt ∧ (F 64 x2.toNatClampNeg).toInt ≤ (2) := (show B 1 2 (F 64 x2.toNatClampNeg) from B_w (show B 1 2 (F 64 x2.toNatClampNeg) from hI 64 x2.toNatClampNeg) (by decide +kernel) (by decide +kernel))
          have e216 : (T205 64 x2.toNatClampNeg).toInt = (F 64 x2.toNatClampNeg).toInt := (congrArg Int32.toInt ((congrFun (g208.2 64 rfl rfl) x2.toNatClampNeg).trans (congrFun (g178.2 64 rfl rfl) x2.toNatClampNeg))).trans rfl
          have q217 : (1) ≤ (x8_204).toInt ∧ (x8_204).toInt ≤ (2) := (show B 1 2 (x8_204) from B_w b214 (by decide +kernel) (by decide +kernel))
          have i218 : (T205 64 x2.toNatClampNeg).toInt ≤ (x8_204).toInt := i_le hq213
          have g220 := agc_tr (agc_refl (fs := [7306]) (rs := [77, 999]) (F := F)) g178 (by decide +kernel) (by decide +kernel)
          have g219 := agc_tr g220 g208 (by decide +kernel) (by decide +kernel)
          have e221 : (T205 63 2).toInt = (F 63 2).toInt := (congrArg Int32.toInt ((g208.1 63 2 rfl rfl).trans (g178.1 63 2 rfl rfl))).trans rfl
          have e222 : (x7_174 + 1).toInt = ((x7_174).toInt + 1) := (t_add b194 (show B 1 1 (1 : Int32) from ⟨by decide +kernel, by decide +kernel⟩) (by decide +kernel) (by decide +kernel)).trans (by rw [(show (1 : Int32).toInt = 1 from by decide +kernel)])
          have q223 : (1) ≤ (x7_174 + 1).toInt ∧ (x7_174 + 1).toInt ≤ (1) := (show B 1 1 (x7_174 + 1) from B_w (B_add b194 (show B 1 1 (1 : Int32) from ⟨by decide +kernel, by decide +kernel⟩) (by decide +kernel) (by decide +kernel)) (by decide +kernel) (by decide +kernel))
          exact hR24 ⟨rfl, rfl, rfl, rfl, (B_w (B_add b194 (show B 1 1 (1 : Int32) from ⟨by decide +kernel, by decide +kernel⟩) (by decide +kernel) (by decide +kernel)) (by decide +kernel) (by decide +kernel)), _, _, rfl, hI207, g219, (qf_le (b' := (T205 73 6).toInt) (lo' := 0) (hi' := (64 * (T205 63 2).toInt) - 1) r210 (by omega) (by omega) (by omega))⟩ (by show (2 - (x7_174 + 1).toInt).toNat < (2 - x7_174.toInt).toNat; omega)
        · have r224 : 1 ≤ (F 64 x2.toNatClampNeg).toInt ∧ (F 64 x2.toNatClampNeg).toInt ≤ (F 63 5).toInt := qf_at pre4 (x := x2) (by omega) (by omega)
          have hq225 := (nle_lt hc)
          have b226 : B 0 1 (x8_204) := B_w (B_ltL b206 (B_eq ((congrFun (g208.2 64 rfl rfl) x2.toNatClampNeg).trans (congrFun (g178.2 64 rfl rfl) x2.toNatClampNeg)) (show B 1 2 (F 64 x2.toNatClampNeg) from hI 64 x2.toNatClampNeg)) hq225) (by decide +kernel) (by decide +kernel)
          have q227 : (0) ≤ (x8_204).toInt ∧ (x8_204).toInt ≤ (1) := (show B 0 1 (x8_204) from B_w b226 (by decide +kernel) (by decide +kernel))
          have q228 : (1) ≤ (F 64 x2.toNatClampNeg).toInt ∧ (F 64 x2.toNatClampNeg).toInt ≤ (2) := (show B 1 2 (F 64 x2.toNatClampNeg) from B_w (show B 1 2 (F 64 x2.toNatClampNeg) from hI 64 x2.toNatClampNeg) (by decide +kernel) (by decide +kernel))
          have e229 : (T205 64 x2.toNatClampNeg).toInt = (F 64 x2.toNatClampNeg).toInt := (congrArg Int32.toInt ((congrFun (g208.2 64 rfl rfl) x2.toNatClampNeg).trans (congrFun (g178.2 64 rfl rfl) x2.toNatClampNeg))).trans rfl
          have i230 : (x8_204).toInt < (T205 64 x2.toNatClampNeg).toInt := i_lt hq225
          refine ⟨(show ¬ ((68 : Nat) = NU) from by decide +kernel), ?_⟩
          refine ⟨(show c_cl UL 68 = 902 from cl_68), ?_⟩
          refine ⟨(show vp_in (x2) 3 from vp_B b_x2 (by decide +kernel) (by decide +kernel)), ?_⟩
          have e231 : (T205 63 2).toInt = (F 63 2).toInt := (congrArg Int32.toInt ((g208.1 63 2 rfl rfl).trans (g178.1 63 2 rfl rfl))).trans rfl
          refine h_Sc_addBlock_u73_a0 b_x2 (B_w (B_add (B_add (B_mul (B_add (B_mul b_x4 b192 (by decide +kernel) (by decide +kernel) (by decide +kernel)) b194 (by decide +kernel) (by decide +kernel)) (B_eq ((congrFun (g208.2 68 rfl rfl) x2.toNatClampNeg).trans (congrFun (g178.2 68 rfl rfl) x2.toNatClampNeg)) (show B 0 8 (F 68 x2.toNatClampNeg) from hI 68 x2.toNatClampNeg)) (by decide +kernel) (by decide +kernel) (by decide +kernel)) (B_mul b167 (show B 1 2 (F 64 x2.toNatClampNeg) from hI 64 x2.toNatClampNeg) (by decide +kernel) (by decide +kernel) (by decide +kernel)) (by decide +kernel) (by decide +kernel)) b226 (by decide +kernel) (by decide +kernel)) (by decide +kernel) (by decide +kernel)) hI207 (qf_le (b' := (T205 73 6).toInt) (lo' := 0) (hi' := (64 * (T205 63 2).toInt) - 1) r210 (by omega) (by omega) (by omega)) (by show x2.toInt < (T205 63 2).toInt; omega) (fun {FS69_232} {LFS69_232} hI233 g234 r235 => ?_)
          have r236 : qf (FS69_232 77) 0 (FS69_232 73 6).toInt 0 ((64 * (FS69_232 63 2).toInt) - 1) := r235
          clear r235
          have q237 : (0) ≤ (FS69_232 73 6).toInt ∧ (FS69_232 73 6).toInt ≤ (192) := (show B 0 192 (FS69_232 73 6) from B_w (show B 0 192 (FS69_232 73 6) from hI233 73 6) (by decide +kernel) (by decide +kernel))
          have g239 := agc_tr (agc_refl (fs := [7306]) (rs := [77, 999]) (F := T175)) g208 (by decide +kernel) (by decide +kernel)
          have g238 := agc_tr g239 g234 (by decide +kernel) (by decide +kernel)
          have e240 : (FS69_232 63 2).toInt = (F 63 2).toInt := (congrArg Int32.toInt (((g234.1 63 2 rfl rfl).trans (g208.1 63 2 rfl rfl)).trans (g178.1 63 2 rfl rfl))).trans rfl
          have e241 : (x8_204 + 1).toInt = ((x8_204).toInt + 1) := (t_add b226 (show B 1 1 (1 : Int32) from ⟨by decide +kernel, by decide +kernel⟩) (by decide +kernel) (by decide +kernel)).trans (by rw [(show (1 : Int32).toInt = 1 from by decide +kernel)])
          have q242 : (1) ≤ (x8_204 + 1).toInt ∧ (x8_204 + 1).toInt ≤ (2) := (show B 1 2 (x8_204 + 1) from B_w (B_add b226 (show B 1 1 (1 : Int32) from ⟨by decide +kernel, by decide +kernel⟩) (by decide +kernel) (by decide +kernel)) (by decide +kernel) (by decide +kernel))
          exact hR38 ⟨rfl, rfl, rfl, rfl, rfl, (B_w (B_add b226 (show B 1 1 (1 : Int32) from ⟨by decide +kernel, by decide +kernel⟩) (by decide +kernel) (by decide +kernel)) (by decide +kernel) (by decide +kernel)), _, _, rfl, hI233, g238, (qf_le (b' := (FS69_232 73 6).toInt) (lo' := 0) (hi' := (64 * (FS69_232 63 2).toInt) - 1) r236 (by omega) (by omega) (by omega))⟩ (by show (2 - (x8_204 + 1).toInt).toNat < (2 - x8_204.toInt).toNat; omega)
    · have b243 : B 2 2 (F 63 6) := B_eq hcs (show B 2 2 (2 : Int32) from ⟨by decide +kernel, by decide +kernel⟩)
      have q244 : (2) ≤ (F 63 6).toInt ∧ (F 63 6).toInt ≤ (2) := (show B 2 2 (F 63 6) from B_w b243 (by decide +kernel) (by decide +kernel))
      have b245 : B 0 3 (x4) := ⟨by omega, by omega⟩
      refine ⟨(show c_cl UL 63 = 7 from cl_63), ?_⟩
      refine ⟨(show ¬ ((64 : Nat) = NU) from by decide +kernel), ?_⟩
      refine ⟨(show c_cl UL 64 = 902 from cl_64), ?_⟩
      refine ⟨(show vp_in (x2) 3 from vp_B b_x2 (by decide +kernel) (by decide +kernel)), ?_⟩
      refine ⟨(show ¬ ((65 : Nat) = NU) from by decide +kernel), ?_⟩
      refine ⟨(show c_cl UL 65 = 902 from cl_65), ?_⟩
      refine ⟨(show vp_in (x2) 3 from vp_B b_x2 (by decide +kernel) (by decide +kernel)), ?_⟩
      refine ⟨fun yx1 yx2 yx5 yx6 yx7 yS => (63 : Nat) = yx1 ∧ x2 = yx2 ∧ (x3 * (F 64 x2.toNatClampNeg)) = yx5 ∧ (x4 * (F 65 x2.toNatClampNeg)) = yx6 ∧ B 0 2 yx7 ∧ ∃ (T251 : cF) (LT251 : cL), yS = (T251, LT251, PC false b P) ∧ IMc T251 ∧ agc [7306] [77, 999] F T251 ∧ (qf (T251 77) 0 (T251 73 6).toInt 0 ((64 * (T251 63 2).toInt) - 1)), fun yx1 yx2 yx5 yx6 yx7 yS => (2 - yx7.toInt).toNat, ⟨rfl, rfl, rfl, rfl, (B_w (show B 0 0 (0 : Int32) from ⟨by decide +kernel, by decide +kernel⟩) (by decide +kernel) (by decide +kernel)), _, _, rfl, hI, (agc_refl (fs := [7306]) (rs := [77, 999]) (F := F)), (qf_le (b' := (F 73 6).toInt) (lo' := 0) (hi' := (64 * (F 63 2).toInt) - 1) pre0 (by omega) (by omega) (by omega))⟩, fun x1_246 x2_247 x5_248 x6_249 x7_250 ST251 hIv => ?_⟩
      obtain ⟨rfl, rfl, rfl, rfl, b252, T251, LT251, rfl, hI253, g254, r255⟩ := hIv
      suffices hs : ∀ (R24 : Nat → Int32 → Int32 → Int32 → Int32 → cs → Prop), (∀ zx1 zx2 zx5 zx6 zx7 zS, ((63 : Nat) = zx1 ∧ x2 = zx2 ∧ (x3 * (F 64 x2.toNatClampNeg)) = zx5 ∧ (x4 * (F 65 x2.toNatClampNeg)) = zx6 ∧ B 0 2 zx7 ∧ ∃ (T251 : cF) (LT251 : cL), zS = (T251, LT251, PC false b P) ∧ IMc T251 ∧ agc [7306] [77, 999] F T251 ∧ (qf (T251 77) 0 (T251 73 6).toInt 0 ((64 * (T251 63 2).toInt) - 1))) → (2 - zx7.toInt).toNat < (2 - x7_250.toInt).toNat → R24 zx1 zx2 zx5 zx6 zx7 zS) → b_Sc_addStretch_24 UL 73 63 x2 (x3 * (F 64 x2.toNatClampNeg)) (x4 * (F 65 x2.toNatClampNeg)) x7_250 (T251, LT251, PC false b P) R24 K from hs _ (fun _ _ _ _ _ _ h1 h2 => ⟨h1, h2⟩)
      intro R24 hR240
      have hR24 := fun {zx1} {zx2} {zx5} {zx6} {zx7} {zS} => hR240 zx1 zx2 zx5 zx6 zx7 zS
      have q256 : (0) ≤ (T251 73 6).toInt ∧ (T251 73 6).toInt ≤ (192) := (show B 0 192 (T251 73 6) from B_w (show B 0 192 (T251 73 6) from hI253 73 6) (by decide +kernel) (by decide +kernel))
      unfold b_Sc_addStretch_24
      refine ⟨(show c_cl UL 63 = 7 from cl_63), ?_⟩
      refine ⟨(show ¬ ((65 : Nat) = NU) from by decide +kernel), ?_⟩
      refine ⟨(show c_cl UL 65 = 902 from cl_65), ?_⟩
      refine ⟨(show vp_in (x2) 3 from vp_B b_x2 (by decide +kernel) (by decide +kernel)), ?_⟩
      refine ⟨fun hc => ?_, fun hc => ?_⟩
      · have r257 : 1 ≤ (F 65 x2.toNatClampNeg).toInt ∧ (F 65 x2.toNatClampNeg).toInt ≤ (F 63 6).toInt := qf_at pre5 (x := x2) (by omega) (by omega)
        have hq258 := hc
        have b259 : B 1 2 (x7_250) := B_w (B_leR (B_eq (congrFun (g254.2 65 rfl rfl) x2.toNatClampNeg) (show B 1 2 (F 65 x2.toNatClampNeg) from hI 65 x2.toNatClampNeg)) b252 hq258) (by decide +kernel) (by decide +kernel)
        have q260 : (1) ≤ (F 65 x2.toNatClampNeg).toInt ∧ (F 65 x2.toNatClampNeg).toInt ≤ (2) := (show B 1 2 (F 65 x2.toNatClampNeg) from B_w (show B 1 2 (F 65 x2.toNatClampNeg) from hI 65 x2.toNatClampNeg) (by decide +kernel) (by decide +kernel))
        have e261 : (T251 65 x2.toNatClampNeg).toInt = (F 65 x2.toNatClampNeg).toInt := (congrArg Int32.toInt (congrFun (g254.2 65 rfl rfl) x2.toNatClampNeg)).trans rfl
        have q262 : (1) ≤ (x7_250).toInt ∧ (x7_250).toInt ≤ (2) := (show B 1 2 (x7_250) from B_w b259 (by decide +kernel) (by decide +kernel))
        have i263 : (T251 65 x2.toNatClampNeg).toInt ≤ (x7_250).toInt := i_le hq258
        have g264 := agc_tr (agc_refl (fs := [7306]) (rs := [77, 999]) (F := F)) g254 (by decide +kernel) (by decide +kernel)
        have e265 : (T251 63 2).toInt = (F 63 2).toInt := (congrArg Int32.toInt (g254.1 63 2 rfl rfl)).trans rfl
        exact hK hI253 g264 (qf_le (b' := (T251 73 6).toInt) (lo' := 0) (hi' := (64 * (T251 63 2).toInt) - 1) r255 (by omega) (by omega) (by omega))
      · have r266 : 1 ≤ (F 65 x2.toNatClampNeg).toInt ∧ (F 65 x2.toNatClampNeg).toInt ≤ (F 63 6).toInt := qf_at pre5 (x := x2) (by omega) (by omega)
        have hq267 := (nle_lt hc)
        have b268 : B 0 1 (x7_250) := B_w (B_ltL b252 (B_eq (congrFun (g254.2 65 rfl rfl) x2.toNatClampNeg) (show B 1 2 (F 65 x2.toNatClampNeg) from hI 65 x2.toNatClampNeg)) hq267) (by decide +kernel) (by decide +kernel)
        have q269 : (0) ≤ (x7_250).toInt ∧ (x7_250).toInt ≤ (1) := (show B 0 1 (x7_250) from B_w b268 (by decide +kernel) (by decide +kernel))
        have q270 : (1) ≤ (F 65 x2.toNatClampNeg).toInt ∧ (F 65 x2.toNatClampNeg).toInt ≤ (2) := (show B 1 2 (F 65 x2.toNatClampNeg) from B_w (show B 1 2 (F 65 x2.toNatClampNeg) from hI 65 x2.toNatClampNeg) (by decide +kernel) (by decide +kernel))
        have e271 : (T251 65 x2.toNatClampNeg).toInt = (F 65 x2.toNatClampNeg).toInt := (congrArg Int32.toInt (congrFun (g254.2 65 rfl rfl) x2.toNatClampNeg)).trans rfl
        have i272 : (x7_250).toInt < (T251 65 x2.toNatClampNeg).toInt := i_lt hq267
        have e283 : (T251 63 2).toInt = (F 63 2).toInt := (congrArg Int32.toInt (g254.1 63 2 rfl rfl)).trans rfl
        refine ⟨fun yx1 yx2 yx5 yx6 yx7 yx8 yS => (63 : Nat) = yx1 ∧ x2 = yx2 ∧ (x3 * (F 64 x2.toNatClampNeg)) = yx5 ∧ (x4 * (F 65 x2.toNatClampNeg)) = yx6 ∧ x7_250 = yx7 ∧ B 0 2 yx8 ∧ ∃ (T279 : cF) (LT279 : cL), yS = (T279, LT279, PC false b P) ∧ IMc T279 ∧ agc [7306] [77, 999] T251 T279 ∧ (qf (T279 77) 0 (T279 73 6).toInt 0 ((64 * (T279 63 2).toInt) - 1)), fun yx1 yx2 yx5 yx6 yx7 yx8 yS => (2 - yx8.toInt).toNat, ⟨rfl, rfl, rfl, rfl, rfl, (B_w (show B 0 0 (0 : Int32) from ⟨by decide +kernel, by decide +kernel⟩) (by decide +kernel) (by decide +kernel)), _, _, rfl, hI253, (agc_refl (fs := [7306]) (rs := [77, 999]) (F := T251)), (qf_le (b' := (T251 73 6).toInt) (lo' := 0) (hi' := (64 * (T251 63 2).toInt) - 1) r255 (by omega) (by omega) (by omega))⟩, fun x1_273 x2_274 x5_275 x6_276 x7_277 x8_278 ST279 hIv => ?_⟩
        obtain ⟨rfl, rfl, rfl, rfl, rfl, b280, T279, LT279, rfl, hI281, g282, r284⟩ := hIv
        suffices hs : ∀ (R38 : Nat → Int32 → Int32 → Int32 → Int32 → Int32 → cs → Prop), (∀ zx1 zx2 zx5 zx6 zx7 zx8 zS, ((63 : Nat) = zx1 ∧ x2 = zx2 ∧ (x3 * (F 64 x2.toNatClampNeg)) = zx5 ∧ (x4 * (F 65 x2.toNatClampNeg)) = zx6 ∧ x7_250 = zx7 ∧ B 0 2 zx8 ∧ ∃ (T279 : cF) (LT279 : cL), zS = (T279, LT279, PC false b P) ∧ IMc T279 ∧ agc [7306] [77, 999] T251 T279 ∧ (qf (T279 77) 0 (T279 73 6).toInt 0 ((64 * (T279 63 2).toInt) - 1))) → (2 - zx8.toInt).toNat < (2 - x8_278.toInt).toNat → R38 zx1 zx2 zx5 zx6 zx7 zx8 zS) → b_Sc_addStretch_38 UL 73 63 x2 (x3 * (F 64 x2.toNatClampNeg)) (x4 * (F 65 x2.toNatClampNeg)) x7_250 x8_278 (T279, LT279, PC false b P) R24 R38 K from hs _ (fun _ _ _ _ _ _ _ h1 h2 => ⟨h1, h2⟩)
        intro R38 hR380
        have hR38 := fun {zx1} {zx2} {zx5} {zx6} {zx7} {zx8} {zS} => hR380 zx1 zx2 zx5 zx6 zx7 zx8 zS
        have q285 : (0) ≤ (T279 73 6).toInt ∧ (T279 73 6).toInt ≤ (192) := (show B 0 192 (T279 73 6) from B_w (show B 0 192 (T279 73 6) from hI281 73 6) (by decide +kernel) (by decide +kernel))
        unfold b_Sc_addStretch_38
        refine ⟨(show c_cl UL 63 = 7 from cl_63), ?_⟩
        refine ⟨(show ¬ ((64 : Nat) = NU) from by decide +kernel), ?_⟩
        refine ⟨(show c_cl UL 64 = 902 from cl_64), ?_⟩
        refine ⟨(show vp_in (x2) 3 from vp_B b_x2 (by decide +kernel) (by decide +kernel)), ?_⟩
        refine ⟨fun hc => ?_, fun hc => ?_⟩
        · have r286 : 1 ≤ (F 64 x2.toNatClampNeg).toInt ∧ (F 64 x2.toNatClampNeg).toInt ≤ (F 63 5).toInt := qf_at pre4 (x := x2) (by omega) (by omega)
          have hq287 := hc
          have b288 : B 1 2 (x8_278) := B_w (B_leR (B_eq ((congrFun (g282.2 64 rfl rfl) x2.toNatClampNeg).trans (congrFun (g254.2 64 rfl rfl) x2.toNatClampNeg)) (show B 1 2 (F 64 x2.toNatClampNeg) from hI 64 x2.toNatClampNeg)) b280 hq287) (by decide +kernel) (by decide +kernel)
          have q289 : (1) ≤ (F 64 x2.toNatClampNeg).toInt ∧ (F 64 x2.toNatClampNeg).toInt ≤ (2) := (show B 1 2 (F 64 x2.toNatClampNeg) from B_w (show B 1 2 (F 64 x2.toNatClampNeg) from hI 64 x2.toNatClampNeg) (by decide +kernel) (by decide +kernel))
          have e290 : (T279 64 x2.toNatClampNeg).toInt = (F 64 x2.toNatClampNeg).toInt := (congrArg Int32.toInt ((congrFun (g282.2 64 rfl rfl) x2.toNatClampNeg).trans (congrFun (g254.2 64 rfl rfl) x2.toNatClampNeg))).trans rfl
          have q291 : (1) ≤ (x8_278).toInt ∧ (x8_278).toInt ≤ (2) := (show B 1 2 (x8_278) from B_w b288 (by decide +kernel) (by decide +kernel))
          have i292 : (T279 64 x2.toNatClampNeg).toInt ≤ (x8_278).toInt := i_le hq287
          have g294 := agc_tr (agc_refl (fs := [7306]) (rs := [77, 999]) (F := F)) g254 (by decide +kernel) (by decide +kernel)
          have g293 := agc_tr g294 g282 (by decide +kernel) (by decide +kernel)
          have e295 : (T279 63 2).toInt = (F 63 2).toInt := (congrArg Int32.toInt ((g282.1 63 2 rfl rfl).trans (g254.1 63 2 rfl rfl))).trans rfl
          have e296 : (x7_250 + 1).toInt = ((x7_250).toInt + 1) := (t_add b268 (show B 1 1 (1 : Int32) from ⟨by decide +kernel, by decide +kernel⟩) (by decide +kernel) (by decide +kernel)).trans (by rw [(show (1 : Int32).toInt = 1 from by decide +kernel)])
          have q297 : (1) ≤ (x7_250 + 1).toInt ∧ (x7_250 + 1).toInt ≤ (2) := (show B 1 2 (x7_250 + 1) from B_w (B_add b268 (show B 1 1 (1 : Int32) from ⟨by decide +kernel, by decide +kernel⟩) (by decide +kernel) (by decide +kernel)) (by decide +kernel) (by decide +kernel))
          exact hR24 ⟨rfl, rfl, rfl, rfl, (B_w (B_add b268 (show B 1 1 (1 : Int32) from ⟨by decide +kernel, by decide +kernel⟩) (by decide +kernel) (by decide +kernel)) (by decide +kernel) (by decide +kernel)), _, _, rfl, hI281, g293, (qf_le (b' := (T279 73 6).toInt) (lo' := 0) (hi' := (64 * (T279 63 2).toInt) - 1) r284 (by omega) (by omega) (by omega))⟩ (by show (2 - (x7_250 + 1).toInt).toNat < (2 - x7_250.toInt).toNat; omega)
        · have r298 : 1 ≤ (F 64 x2.toNatClampNeg).toInt ∧ (F 64 x2.toNatClampNeg).toInt ≤ (F 63 5).toInt := qf_at pre4 (x := x2) (by omega) (by omega)
          have hq299 := (nle_lt hc)
          have b300 : B 0 1 (x8_278) := B_w (B_ltL b280 (B_eq ((congrFun (g282.2 64 rfl rfl) x2.toNatClampNeg).trans (congrFun (g254.2 64 rfl rfl) x2.toNatClampNeg)) (show B 1 2 (F 64 x2.toNatClampNeg) from hI 64 x2.toNatClampNeg)) hq299) (by decide +kernel) (by decide +kernel)
          have q301 : (0) ≤ (x8_278).toInt ∧ (x8_278).toInt ≤ (1) := (show B 0 1 (x8_278) from B_w b300 (by decide +kernel) (by decide +kernel))
          have q302 : (1) ≤ (F 64 x2.toNatClampNeg).toInt ∧ (F 64 x2.toNatClampNeg).toInt ≤ (2) := (show B 1 2 (F 64 x2.toNatClampNeg) from B_w (show B 1 2 (F 64 x2.toNatClampNeg) from hI 64 x2.toNatClampNeg) (by decide +kernel) (by decide +kernel))
          have e303 : (T279 64 x2.toNatClampNeg).toInt = (F 64 x2.toNatClampNeg).toInt := (congrArg Int32.toInt ((congrFun (g282.2 64 rfl rfl) x2.toNatClampNeg).trans (congrFun (g254.2 64 rfl rfl) x2.toNatClampNeg))).trans rfl
          have i304 : (x8_278).toInt < (T279 64 x2.toNatClampNeg).toInt := i_lt hq299
          refine ⟨(show ¬ ((68 : Nat) = NU) from by decide +kernel), ?_⟩
          refine ⟨(show c_cl UL 68 = 902 from cl_68), ?_⟩
          refine ⟨(show vp_in (x2) 3 from vp_B b_x2 (by decide +kernel) (by decide +kernel)), ?_⟩
          have e305 : (T279 63 2).toInt = (F 63 2).toInt := (congrArg Int32.toInt ((g282.1 63 2 rfl rfl).trans (g254.1 63 2 rfl rfl))).trans rfl
          refine h_Sc_addBlock_u73_a0 b_x2 (B_w (B_add (B_add (B_mul (B_add (B_mul b245 (show B 1 2 (F 65 x2.toNatClampNeg) from hI 65 x2.toNatClampNeg) (by decide +kernel) (by decide +kernel) (by decide +kernel)) b268 (by decide +kernel) (by decide +kernel)) (B_eq ((congrFun (g282.2 68 rfl rfl) x2.toNatClampNeg).trans (congrFun (g254.2 68 rfl rfl) x2.toNatClampNeg)) (show B 0 8 (F 68 x2.toNatClampNeg) from hI 68 x2.toNatClampNeg)) (by decide +kernel) (by decide +kernel) (by decide +kernel)) (B_mul b167 (show B 1 2 (F 64 x2.toNatClampNeg) from hI 64 x2.toNatClampNeg) (by decide +kernel) (by decide +kernel) (by decide +kernel)) (by decide +kernel) (by decide +kernel)) b300 (by decide +kernel) (by decide +kernel)) (by decide +kernel) (by decide +kernel)) hI281 (qf_le (b' := (T279 73 6).toInt) (lo' := 0) (hi' := (64 * (T279 63 2).toInt) - 1) r284 (by omega) (by omega) (by omega)) (by show x2.toInt < (T279 63 2).toInt; omega) (fun {FS69_306} {LFS69_306} hI307 g308 r309 => ?_)
          have r310 : qf (FS69_306 77) 0 (FS69_306 73 6).toInt 0 ((64 * (FS69_306 63 2).toInt) - 1) := r309
          clear r309
          have q311 : (0) ≤ (FS69_306 73 6).toInt ∧ (FS69_306 73 6).toInt ≤ (192) := (show B 0 192 (FS69_306 73 6) from B_w (show B 0 192 (FS69_306 73 6) from hI307 73 6) (by decide +kernel) (by decide +kernel))
          have g313 := agc_tr (agc_refl (fs := [7306]) (rs := [77, 999]) (F := T251)) g282 (by decide +kernel) (by decide +kernel)
          have g312 := agc_tr g313 g308 (by decide +kernel) (by decide +kernel)
          have e314 : (FS69_306 63 2).toInt = (F 63 2).toInt := (congrArg Int32.toInt (((g308.1 63 2 rfl rfl).trans (g282.1 63 2 rfl rfl)).trans (g254.1 63 2 rfl rfl))).trans rfl
          have e315 : (x8_278 + 1).toInt = ((x8_278).toInt + 1) := (t_add b300 (show B 1 1 (1 : Int32) from ⟨by decide +kernel, by decide +kernel⟩) (by decide +kernel) (by decide +kernel)).trans (by rw [(show (1 : Int32).toInt = 1 from by decide +kernel)])
          have q316 : (1) ≤ (x8_278 + 1).toInt ∧ (x8_278 + 1).toInt ≤ (2) := (show B 1 2 (x8_278 + 1) from B_w (B_add b300 (show B 1 1 (1 : Int32) from ⟨by decide +kernel, by decide +kernel⟩) (by decide +kernel) (by decide +kernel)) (by decide +kernel) (by decide +kernel))
          exact hR38 ⟨rfl, rfl, rfl, rfl, rfl, (B_w (B_add b300 (show B 1 1 (1 : Int32) from ⟨by decide +kernel, by decide +kernel⟩) (by decide +kernel) (by decide +kernel)) (by decide +kernel) (by decide +kernel)), _, _, rfl, hI307, g312, (qf_le (b' := (FS69_306 73 6).toInt) (lo' := 0) (hi' := (64 * (FS69_306 63 2).toInt) - 1) r310 (by omega) (by omega) (by omega))⟩ (by show (2 - (x8_278 + 1).toInt).toNat < (2 - x8_278.toInt).toNat; omega)
set_option maxRecDepth 20000 in
set_option maxHeartbeats 4000000 in
theorem h_Sc_arrangeTogether_u73_x163_a0 {b : Bool} {P : Nat → Nat → Nat} {F : cF} {L : cL} {K : cs → Prop} (hI : IMc F) (pre0 : qf (F 77) 0 (F 73 6).toInt 0 ((64 * (F 63 2).toInt) - 1)) (pre1 : qf (F 74) 0 (F 73 0).toInt 0 ((F 63 2).toInt - 1)) (pre2 : qf (F 64) 0 (F 63 2).toInt 1 (F 63 5).toInt) (pre3 : qf (F 65) 0 (F 63 2).toInt 1 (F 63 6).toInt) (pre4 : ((F 63 5).toInt = 1) ∨ ((F 63 7).toInt ≤ 4)) (pre5 : ((F 63 6).toInt = 1) ∨ ((F 63 8).toInt ≤ 4)) (hK : ∀ {Z : cF} {LZ : cL}, IMc Z → agc [7306] [77, 999] F Z → (qf (Z 77) 0 (Z 73 6).toInt 0 ((64 * (Z 63 2).toInt) - 1)) → K (Z, LZ, PC false b P)) : p_Sc_arrangeTogether UL 73 63 (F, L, PC false b P) K := by
  have q1 : (0) ≤ (F 73 6).toInt ∧ (F 73 6).toInt ≤ (192) := (show B 0 192 (F 73 6) from B_w (show B 0 192 (F 73 6) from hI 73 6) (by decide +kernel) (by decide +kernel))
  have q2 : (0) ≤ (F 73 0).toInt ∧ (F 73 0).toInt ≤ (3) := (show B 0 3 (F 73 0) from B_w (show B 0 3 (F 73 0) from hI 73 0) (by decide +kernel) (by decide +kernel))
  have q3 : (1) ≤ (F 63 2).toInt ∧ (F 63 2).toInt ≤ (3) := (show B 1 3 (F 63 2) from B_w (show B 1 3 (F 63 2) from hI 63 2) (by decide +kernel) (by decide +kernel))
  have q4 : (1) ≤ (F 63 5).toInt ∧ (F 63 5).toInt ≤ (2) := (show B 1 2 (F 63 5) from B_w (show B 1 2 (F 63 5) from hI 63 5) (by decide +kernel) (by decide +kernel))
  have q5 : (1) ≤ (F 63 7).toInt ∧ (F 63 7).toInt ≤ (8) := (show B 1 8 (F 63 7) from B_w (show B 1 8 (F 63 7) from hI 63 7) (by decide +kernel) (by decide +kernel))
  have q6 : (1) ≤ (F 63 6).toInt ∧ (F 63 6).toInt ≤ (2) := (show B 1 2 (F 63 6) from B_w (show B 1 2 (F 63 6) from hI 63 6) (by decide +kernel) (by decide +kernel))
  have q7 : (1) ≤ (F 63 8).toInt ∧ (F 63 8).toInt ≤ (8) := (show B 1 8 (F 63 8) from B_w (show B 1 8 (F 63 8) from hI 63 8) (by decide +kernel) (by decide +kernel))
  unfold p_Sc_arrangeTogether
  refine ⟨fun yx1 yx2 yS => (63 : Nat) = yx1 ∧ B 0 8 yx2 ∧ ∃ (T10 : cF) (LT10 : cL), yS = (T10, LT10, PC false b P) ∧ IMc T10 ∧ agc [7306] [77, 999] F T10 ∧ (qf (T10 77) 0 (T10 73 6).toInt 0 ((64 * (T10 63 2).toInt) - 1)), fun yx1 yx2 yS => (8 - yx2.toInt).toNat, ⟨rfl, (B_w (show B 0 0 (0 : Int32) from ⟨by decide +kernel, by decide +kernel⟩) (by decide +kernel) (by decide +kernel)), _, _, rfl, hI, (agc_refl (fs := [7306]) (rs := [77, 999]) (F := F)), (qf_le (b' := (F 73 6).toInt) (lo' := 0) (hi' := (64 * (F 63 2).toInt) - 1) pre0 (by omega) (by omega) (by omega))⟩, fun x1_8 x2_9 ST10 hIv => ?_⟩
  obtain ⟨rfl, b11, T10, LT10, rfl, hI12, g13, r14⟩ := hIv
  suffices hs : ∀ (R2 : Nat → Int32 → cs → Prop), (∀ zx1 zx2 zS, ((63 : Nat) = zx1 ∧ B 0 8 zx2 ∧ ∃ (T10 : cF) (LT10 : cL), zS = (T10, LT10, PC false b P) ∧ IMc T10 ∧ agc [7306] [77, 999] F T10 ∧ (qf (T10 77) 0 (T10 73 6).toInt 0 ((64 * (T10 63 2).toInt) - 1))) → (8 - zx2.toInt).toNat < (8 - x2_9.toInt).toNat → R2 zx1 zx2 zS) → b_Sc_arrangeTogether_2 UL 73 63 x2_9 (T10, LT10, PC false b P) R2 K from hs _ (fun _ _ _ h1 h2 => ⟨h1, h2⟩)
  intro R2 hR20
  have hR2 := fun {zx1} {zx2} {zS} => hR20 zx1 zx2 zS
  have q15 : (0) ≤ (T10 73 6).toInt ∧ (T10 73 6).toInt ≤ (192) := (show B 0 192 (T10 73 6) from B_w (show B 0 192 (T10 73 6) from hI12 73 6) (by decide +kernel) (by decide +kernel))
  unfold b_Sc_arrangeTogether_2
  refine ⟨(show c_cl UL 63 = 7 from cl_63), ?_⟩
  refine ⟨fun hc => ?_, fun hc => ?_⟩
  · have hq16 := hc
    have b17 : B 1 8 (x2_9) := B_w (B_leR (B_eq (g13.1 63 8 rfl rfl) (show B 1 8 (F 63 8) from hI 63 8)) b11 hq16) (by decide +kernel) (by decide +kernel)
    have e18 : (T10 63 8).toInt = (F 63 8).toInt := (congrArg Int32.toInt (g13.1 63 8 rfl rfl)).trans rfl
    have q19 : (1) ≤ (x2_9).toInt ∧ (x2_9).toInt ≤ (8) := (show B 1 8 (x2_9) from B_w b17 (by decide +kernel) (by decide +kernel))
    have i20 : (T10 63 8).toInt ≤ (x2_9).toInt := i_le hq16
    have g21 := agc_tr (agc_refl (fs := [7306]) (rs := [77, 999]) (F := F)) g13 (by decide +kernel) (by decide +kernel)
    have e22 : (T10 63 2).toInt = (F 63 2).toInt := (congrArg Int32.toInt (g13.1 63 2 rfl rfl)).trans rfl
    exact hK hI12 g21 (qf_le (b' := (T10 73 6).toInt) (lo' := 0) (hi' := (64 * (T10 63 2).toInt) - 1) r14 (by omega) (by omega) (by omega))
  · have hq23 := (nle_lt hc)
    have b24 : B 0 7 (x2_9) := B_w (B_ltL b11 (B_eq (g13.1 63 8 rfl rfl) (show B 1 8 (F 63 8) from hI 63 8)) hq23) (by decide +kernel) (by decide +kernel)
    have q25 : (0) ≤ (x2_9).toInt ∧ (x2_9).toInt ≤ (7) := (show B 0 7 (x2_9) from B_w b24 (by decide +kernel) (by decide +kernel))
    have e26 : (T10 63 8).toInt = (F 63 8).toInt := (congrArg Int32.toInt (g13.1 63 8 rfl rfl)).trans rfl
    have i27 : (x2_9).toInt < (T10 63 8).toInt := i_lt hq23
    have e35 : (T10 63 2).toInt = (F 63 2).toInt := (congrArg Int32.toInt (g13.1 63 2 rfl rfl)).trans rfl
    refine ⟨fun yx1 yx2 yx3 yS => (63 : Nat) = yx1 ∧ x2_9 = yx2 ∧ B 0 8 yx3 ∧ ∃ (T31 : cF) (LT31 : cL), yS = (T31, LT31, PC false b P) ∧ IMc T31 ∧ agc [7306] [77, 999] T10 T31 ∧ (qf (T31 77) 0 (T31 73 6).toInt 0 ((64 * (T31 63 2).toInt) - 1)), fun yx1 yx2 yx3 yS => (8 - yx3.toInt).toNat, ⟨rfl, rfl, (B_w (show B 0 0 (0 : Int32) from ⟨by decide +kernel, by decide +kernel⟩) (by decide +kernel) (by decide +kernel)), _, _, rfl, hI12, (agc_refl (fs := [7306]) (rs := [77, 999]) (F := T10)), (qf_le (b' := (T10 73 6).toInt) (lo' := 0) (hi' := (64 * (T10 63 2).toInt) - 1) r14 (by omega) (by omega) (by omega))⟩, fun x1_28 x2_29 x3_30 ST31 hIv => ?_⟩
    obtain ⟨rfl, rfl, b32, T31, LT31, rfl, hI33, g34, r36⟩ := hIv
    suffices hs : ∀ (R12 : Nat → Int32 → Int32 → cs → Prop), (∀ zx1 zx2 zx3 zS, ((63 : Nat) = zx1 ∧ x2_9 = zx2 ∧ B 0 8 zx3 ∧ ∃ (T31 : cF) (LT31 : cL), zS = (T31, LT31, PC false b P) ∧ IMc T31 ∧ agc [7306] [77, 999] T10 T31 ∧ (qf (T31 77) 0 (T31 73 6).toInt 0 ((64 * (T31 63 2).toInt) - 1))) → (8 - zx3.toInt).toNat < (8 - x3_30.toInt).toNat → R12 zx1 zx2 zx3 zS) → b_Sc_arrangeTogether_12 UL 73 63 x2_9 x3_30 (T31, LT31, PC false b P) R2 R12 K from hs _ (fun _ _ _ _ h1 h2 => ⟨h1, h2⟩)
    intro R12 hR120
    have hR12 := fun {zx1} {zx2} {zx3} {zS} => hR120 zx1 zx2 zx3 zS
    have q37 : (0) ≤ (T31 73 6).toInt ∧ (T31 73 6).toInt ≤ (192) := (show B 0 192 (T31 73 6) from B_w (show B 0 192 (T31 73 6) from hI33 73 6) (by decide +kernel) (by decide +kernel))
    unfold b_Sc_arrangeTogether_12
    refine ⟨(show c_cl UL 63 = 7 from cl_63), ?_⟩
    refine ⟨fun hc => ?_, fun hc => ?_⟩
    · have hq38 := hc
      have b39 : B 1 8 (x3_30) := B_w (B_leR (B_eq ((g34.1 63 7 rfl rfl).trans (g13.1 63 7 rfl rfl)) (show B 1 8 (F 63 7) from hI 63 7)) b32 hq38) (by decide +kernel) (by decide +kernel)
      have e40 : (T31 63 7).toInt = (F 63 7).toInt := (congrArg Int32.toInt ((g34.1 63 7 rfl rfl).trans (g13.1 63 7 rfl rfl))).trans rfl
      have q41 : (1) ≤ (x3_30).toInt ∧ (x3_30).toInt ≤ (8) := (show B 1 8 (x3_30) from B_w b39 (by decide +kernel) (by decide +kernel))
      have i42 : (T31 63 7).toInt ≤ (x3_30).toInt := i_le hq38
      have g44 := agc_tr (agc_refl (fs := [7306]) (rs := [77, 999]) (F := F)) g13 (by decide +kernel) (by decide +kernel)
      have g43 := agc_tr g44 g34 (by decide +kernel) (by decide +kernel)
      have e45 : (T31 63 2).toInt = (F 63 2).toInt := (congrArg Int32.toInt ((g34.1 63 2 rfl rfl).trans (g13.1 63 2 rfl rfl))).trans rfl
      have e46 : (x2_9 + 1).toInt = ((x2_9).toInt + 1) := (t_add b24 (show B 1 1 (1 : Int32) from ⟨by decide +kernel, by decide +kernel⟩) (by decide +kernel) (by decide +kernel)).trans (by rw [(show (1 : Int32).toInt = 1 from by decide +kernel)])
      have q47 : (1) ≤ (x2_9 + 1).toInt ∧ (x2_9 + 1).toInt ≤ (8) := (show B 1 8 (x2_9 + 1) from B_w (B_add b24 (show B 1 1 (1 : Int32) from ⟨by decide +kernel, by decide +kernel⟩) (by decide +kernel) (by decide +kernel)) (by decide +kernel) (by decide +kernel))
      exact hR2 ⟨rfl, (B_w (B_add b24 (show B 1 1 (1 : Int32) from ⟨by decide +kernel, by decide +kernel⟩) (by decide +kernel) (by decide +kernel)) (by decide +kernel) (by decide +kernel)), _, _, rfl, hI33, g43, (qf_le (b' := (T31 73 6).toInt) (lo' := 0) (hi' := (64 * (T31 63 2).toInt) - 1) r36 (by omega) (by omega) (by omega))⟩ (by show (8 - (x2_9 + 1).toInt).toNat < (8 - x2_9.toInt).toNat; omega)
    · have hq48 := (nle_lt hc)
      have b49 : B 0 7 (x3_30) := B_w (B_ltL b32 (B_eq ((g34.1 63 7 rfl rfl).trans (g13.1 63 7 rfl rfl)) (show B 1 8 (F 63 7) from hI 63 7)) hq48) (by decide +kernel) (by decide +kernel)
      have q50 : (0) ≤ (x3_30).toInt ∧ (x3_30).toInt ≤ (7) := (show B 0 7 (x3_30) from B_w b49 (by decide +kernel) (by decide +kernel))
      have e51 : (T31 63 7).toInt = (F 63 7).toInt := (congrArg Int32.toInt ((g34.1 63 7 rfl rfl).trans (g13.1 63 7 rfl rfl))).trans rfl
      have i52 : (x3_30).toInt < (T31 63 7).toInt := i_lt hq48
      have e61 : (T31 63 2).toInt = (F 63 2).toInt := (congrArg Int32.toInt ((g34.1 63 2 rfl rfl).trans (g13.1 63 2 rfl rfl))).trans rfl
      refine ⟨fun yx1 yx2 yx3 yx4 yS => (63 : Nat) = yx1 ∧ x2_9 = yx2 ∧ x3_30 = yx3 ∧ B 0 3 yx4 ∧ ∃ (T57 : cF) (LT57 : cL), yS = (T57, LT57, PC false b P) ∧ IMc T57 ∧ agc [7306] [77, 999] T31 T57 ∧ (qf (T57 77) 0 (T57 73 6).toInt 0 ((64 * (T57 63 2).toInt) - 1)), fun yx1 yx2 yx3 yx4 yS => (3 - yx4.toInt).toNat, ⟨rfl, rfl, rfl, (B_w (show B 0 0 (0 : Int32) from ⟨by decide +kernel, by decide +kernel⟩) (by decide +kernel) (by decide +kernel)), _, _, rfl, hI33, (agc_refl (fs := [7306]) (rs := [77, 999]) (F := T31)), (qf_le (b' := (T31 73 6).toInt) (lo' := 0) (hi' := (64 * (T31 63 2).toInt) - 1) r36 (by omega) (by omega) (by omega))⟩, fun x1_53 x2_54 x3_55 x4_56 ST57 hIv => ?_⟩
      obtain ⟨rfl, rfl, rfl, b58, T57, LT57, rfl, hI59, g60, r62⟩ := hIv
      suffices hs : ∀ (R23 : Nat → Int32 → Int32 → Int32 → cs → Prop), (∀ zx1 zx2 zx3 zx4 zS, ((63 : Nat) = zx1 ∧ x2_9 = zx2 ∧ x3_30 = zx3 ∧ B 0 3 zx4 ∧ ∃ (T57 : cF) (LT57 : cL), zS = (T57, LT57, PC false b P) ∧ IMc T57 ∧ agc [7306] [77, 999] T31 T57 ∧ (qf (T57 77) 0 (T57 73 6).toInt 0 ((64 * (T57 63 2).toInt) - 1))) → (3 - zx4.toInt).toNat < (3 - x4_56.toInt).toNat → R23 zx1 zx2 zx3 zx4 zS) → b_Sc_arrangeTogether_23 UL 73 63 x2_9 x3_30 x4_56 (T57, LT57, PC false b P) R2 R12 R23 K from hs _ (fun _ _ _ _ _ h1 h2 => ⟨h1, h2⟩)
      intro R23 hR230
      have hR23 := fun {zx1} {zx2} {zx3} {zx4} {zS} => hR230 zx1 zx2 zx3 zx4 zS
      have q63 : (0) ≤ (T57 73 6).toInt ∧ (T57 73 6).toInt ≤ (192) := (show B 0 192 (T57 73 6) from B_w (show B 0 192 (T57 73 6) from hI59 73 6) (by decide +kernel) (by decide +kernel))
      unfold b_Sc_arrangeTogether_23
      refine ⟨fun hc => ?_, fun hc => ?_⟩
      · have hq64 := hc
        have e65 : (T57 73 0).toInt = (F 73 0).toInt := (congrArg Int32.toInt (((g60.1 73 0 rfl rfl).trans (g34.1 73 0 rfl rfl)).trans (g13.1 73 0 rfl rfl))).trans rfl
        have q66 : (0) ≤ (x4_56).toInt ∧ (x4_56).toInt ≤ (3) := (show B 0 3 (x4_56) from B_w b58 (by decide +kernel) (by decide +kernel))
        have i67 : (T57 73 0).toInt ≤ (x4_56).toInt := i_le hq64
        have g69 := agc_tr (agc_refl (fs := [7306]) (rs := [77, 999]) (F := T10)) g34 (by decide +kernel) (by decide +kernel)
        have g68 := agc_tr g69 g60 (by decide +kernel) (by decide +kernel)
        have e70 : (T57 63 2).toInt = (F 63 2).toInt := (congrArg Int32.toInt (((g60.1 63 2 rfl rfl).trans (g34.1 63 2 rfl rfl)).trans (g13.1 63 2 rfl rfl))).trans rfl
        have e71 : (x3_30 + 1).toInt = ((x3_30).toInt + 1) := (t_add b49 (show B 1 1 (1 : Int32) from ⟨by decide +kernel, by decide +kernel⟩) (by decide +kernel) (by decide +kernel)).trans (by rw [(show (1 : Int32).toInt = 1 from by decide +kernel)])
        have q72 : (1) ≤ (x3_30 + 1).toInt ∧ (x3_30 + 1).toInt ≤ (8) := (show B 1 8 (x3_30 + 1) from B_w (B_add b49 (show B 1 1 (1 : Int32) from ⟨by decide +kernel, by decide +kernel⟩) (by decide +kernel) (by decide +kernel)) (by decide +kernel) (by decide +kernel))
        exact hR12 ⟨rfl, rfl, (B_w (B_add b49 (show B 1 1 (1 : Int32) from ⟨by decide +kernel, by decide +kernel⟩) (by decide +kernel) (by decide +kernel)) (by decide +kernel) (by decide +kernel)), _, _, rfl, hI59, g68, (qf_le (b' := (T57 73 6).toInt) (lo' := 0) (hi' := (64 * (T57 63 2).toInt) - 1) r62 (by omega) (by omega) (by omega))⟩ (by show (8 - (x3_30 + 1).toInt).toNat < (8 - x3_30.toInt).toNat; omega)
      · have hq73 := (nle_lt hc)
        have b74 : B 0 2 (x4_56) := B_w (B_ltL b58 (B_eq (((g60.1 73 0 rfl rfl).trans (g34.1 73 0 rfl rfl)).trans (g13.1 73 0 rfl rfl)) (show B 0 3 (F 73 0) from hI 73 0)) hq73) (by decide +kernel) (by decide +kernel)
        have b75 : B 1 3 (F 73 0) := B_w (B_eq (Eq.symm (((g60.1 73 0 rfl rfl).trans (g34.1 73 0 rfl rfl)).trans (g13.1 73 0 rfl rfl))) (B_ltR b58 (B_eq (((g60.1 73 0 rfl rfl).trans (g34.1 73 0 rfl rfl)).trans (g13.1 73 0 rfl rfl)) (show B 0 3 (F 73 0) from hI 73 0)) hq73)) (by decide +kernel) (by decide +kernel)
        have q76 : (1) ≤ (F 73 0).toInt ∧ (F 73 0).toInt ≤ (3) := (show B 1 3 (F 73 0) from B_w b75 (by decide +kernel) (by decide +kernel))
        have q77 : (0) ≤ (x4_56).toInt ∧ (x4_56).toInt ≤ (2) := (show B 0 2 (x4_56) from B_w b74 (by decide +kernel) (by decide +kernel))
        have e78 : (T57 73 0).toInt = (F 73 0).toInt := (congrArg Int32.toInt (((g60.1 73 0 rfl rfl).trans (g34.1 73 0 rfl rfl)).trans (g13.1 73 0 rfl rfl))).trans rfl
        have i79 : (x4_56).toInt < (T57 73 0).toInt := i_lt hq73
        refine ⟨(show ¬ ((74 : Nat) = NU) from by decide +kernel), ?_⟩
        refine ⟨(show c_cl UL 74 = 902 from cl_74), ?_⟩
        refine ⟨(show vp_in (x4_56) 3 from vp_B b74 (by decide +kernel) (by decide +kernel)), ?_⟩
        have r80 : 0 ≤ (F 74 x4_56.toNatClampNeg).toInt ∧ (F 74 x4_56.toNatClampNeg).toInt ≤ ((F 63 2).toInt - 1) := qf_at pre1 (x := x4_56) (by omega) (by omega)
        have e81 : (T57 63 2).toInt = (F 63 2).toInt := (congrArg Int32.toInt (((g60.1 63 2 rfl rfl).trans (g34.1 63 2 rfl rfl)).trans (g13.1 63 2 rfl rfl))).trans rfl
        have q82 : (0) ≤ (F 74 x4_56.toNatClampNeg).toInt ∧ (F 74 x4_56.toNatClampNeg).toInt ≤ (2) := (show B 0 2 (F 74 x4_56.toNatClampNeg) from B_w (show B 0 2 (F 74 x4_56.toNatClampNeg) from hI 74 x4_56.toNatClampNeg) (by decide +kernel) (by decide +kernel))
        have e83 : (T57 74 x4_56.toNatClampNeg).toInt = (F 74 x4_56.toNatClampNeg).toInt := (congrArg Int32.toInt (((congrFun (g60.2 74 rfl rfl) x4_56.toNatClampNeg).trans (congrFun (g34.2 74 rfl rfl) x4_56.toNatClampNeg)).trans (congrFun (g13.2 74 rfl rfl) x4_56.toNatClampNeg))).trans rfl
        have e84 : (T57 63 7).toInt = (F 63 7).toInt := (congrArg Int32.toInt (((g60.1 63 7 rfl rfl).trans (g34.1 63 7 rfl rfl)).trans (g13.1 63 7 rfl rfl))).trans rfl
        have e85 : (T57 63 8).toInt = (F 63 8).toInt := (congrArg Int32.toInt (((g60.1 63 8 rfl rfl).trans (g34.1 63 8 rfl rfl)).trans (g13.1 63 8 rfl rfl))).trans rfl
        have e86 : (T57 63 5).toInt = (F 63 5).toInt := (congrArg Int32.toInt (((g60.1 63 5 rfl rfl).trans (g34.1 63 5 rfl rfl)).trans (g13.1 63 5 rfl rfl))).trans rfl
        have e87 : (T57 63 6).toInt = (F 63 6).toInt := (congrArg Int32.toInt (((g60.1 63 6 rfl rfl).trans (g34.1 63 6 rfl rfl)).trans (g13.1 63 6 rfl rfl))).trans rfl
        refine h_Sc_addStretch_u73_x163_a0 (B_w (B_eq (((congrFun (g60.2 74 rfl rfl) x4_56.toNatClampNeg).trans (congrFun (g34.2 74 rfl rfl) x4_56.toNatClampNeg)).trans (congrFun (g13.2 74 rfl rfl) x4_56.toNatClampNeg)) (show B 0 2 (F 74 x4_56.toNatClampNeg) from hI 74 x4_56.toNatClampNeg)) (by decide +kernel) (by decide +kernel)) b49 b24 hI59 (qf_le (b' := (T57 73 6).toInt) (lo' := 0) (hi' := (64 * (T57 63 2).toInt) - 1) r62 (by omega) (by omega) (by omega)) (by show (T57 74 x4_56.toNatClampNeg).toInt < (T57 63 2).toInt; omega) (by show x3_30.toInt < (T57 63 7).toInt; omega) (by show x2_9.toInt < (T57 63 8).toInt; omega) (qf_eq (((g60.2 64 rfl rfl).trans (g34.2 64 rfl rfl)).trans (g13.2 64 rfl rfl)) (qf_le (b' := (T57 63 2).toInt) (lo' := 1) (hi' := (T57 63 5).toInt) pre2 (by omega) (by omega) (by omega))) (qf_eq (((g60.2 65 rfl rfl).trans (g34.2 65 rfl rfl)).trans (g13.2 65 rfl rfl)) (qf_le (b' := (T57 63 2).toInt) (lo' := 1) (hi' := (T57 63 6).toInt) pre3 (by omega) (by omega) (by omega))) (by show ((T57 63 5).toInt = 1) ∨ ((T57 63 7).toInt ≤ 4); omega) (by show ((T57 63 6).toInt = 1) ∨ ((T57 63 8).toInt ≤ 4); omega) (fun {FS43_88} {LFS43_88} hI89 g90 r91 => ?_)
        have r92 : qf (FS43_88 77) 0 (FS43_88 73 6).toInt 0 ((64 * (FS43_88 63 2).toInt) - 1) := r91
        clear r91
        have q93 : (0) ≤ (FS43_88 73 6).toInt ∧ (FS43_88 73 6).toInt ≤ (192) := (show B 0 192 (FS43_88 73 6) from B_w (show B 0 192 (FS43_88 73 6) from hI89 73 6) (by decide +kernel) (by decide +kernel))
        have g95 := agc_tr (agc_refl (fs := [7306]) (rs := [77, 999]) (F := T31)) g60 (by decide +kernel) (by decide +kernel)
        have g94 := agc_tr g95 g90 (by decide +kernel) (by decide +kernel)
        have e96 : (FS43_88 63 2).toInt = (F 63 2).toInt := (congrArg Int32.toInt ((((g90.1 63 2 rfl rfl).trans (g60.1 63 2 rfl rfl)).trans (g34.1 63 2 rfl rfl)).trans (g13.1 63 2 rfl rfl))).trans rfl
        have e97 : (x4_56 + 1).toInt = ((x4_56).toInt + 1) := (t_add b74 (show B 1 1 (1 : Int32) from ⟨by decide +kernel, by decide +kernel⟩) (by decide +kernel) (by decide +kernel)).trans (by rw [(show (1 : Int32).toInt = 1 from by decide +kernel)])
        have q98 : (1) ≤ (x4_56 + 1).toInt ∧ (x4_56 + 1).toInt ≤ (3) := (show B 1 3 (x4_56 + 1) from B_w (B_add b74 (show B 1 1 (1 : Int32) from ⟨by decide +kernel, by decide +kernel⟩) (by decide +kernel) (by decide +kernel)) (by decide +kernel) (by decide +kernel))
        exact hR23 ⟨rfl, rfl, rfl, (B_w (B_add b74 (show B 1 1 (1 : Int32) from ⟨by decide +kernel, by decide +kernel⟩) (by decide +kernel) (by decide +kernel)) (by decide +kernel) (by decide +kernel)), _, _, rfl, hI89, g94, (qf_le (b' := (FS43_88 73 6).toInt) (lo' := 0) (hi' := (64 * (FS43_88 63 2).toInt) - 1) r92 (by omega) (by omega) (by omega))⟩ (by show (3 - (x4_56 + 1).toInt).toNat < (3 - x4_56.toInt).toNat; omega)
set_option maxRecDepth 20000 in
set_option maxHeartbeats 4000000 in
theorem h_Sc_arrangeAlone_u73_x163_a0 {b : Bool} {P : Nat → Nat → Nat} {x2 : Int32} {F : cF} {L : cL} {K : cs → Prop} (b_x2 : B 0 2 x2) (hI : IMc F) (pre0 : qf (F 77) 0 (F 73 6).toInt 0 ((64 * (F 63 2).toInt) - 1)) (pre1 : x2.toInt < (F 63 2).toInt) (hK : ∀ {Z : cF} {LZ : cL}, IMc Z → agc [7306] [77, 999] F Z → (qf (Z 77) 0 (Z 73 6).toInt 0 ((64 * (Z 63 2).toInt) - 1)) → K (Z, LZ, PC false b P)) : p_Sc_arrangeAlone UL 73 63 x2 (F, L, PC false b P) K := by
  have q1 : (0) ≤ (F 73 6).toInt ∧ (F 73 6).toInt ≤ (192) := (show B 0 192 (F 73 6) from B_w (show B 0 192 (F 73 6) from hI 73 6) (by decide +kernel) (by decide +kernel))
  have q2 : (0) ≤ (x2).toInt ∧ (x2).toInt ≤ (2) := (show B 0 2 (x2) from B_w b_x2 (by decide +kernel) (by decide +kernel))
  have q3 : (1) ≤ (F 63 2).toInt ∧ (F 63 2).toInt ≤ (3) := (show B 1 3 (F 63 2) from B_w (show B 1 3 (F 63 2) from hI 63 2) (by decide +kernel) (by decide +kernel))
  unfold p_Sc_arrangeAlone
  refine ⟨fun yx1 yx2 yx3 yS => (63 : Nat) = yx1 ∧ x2 = yx2 ∧ B 0 9 yx3 ∧ ∃ (T7 : cF) (LT7 : cL), yS = (T7, LT7, PC false b P) ∧ IMc T7 ∧ agc [7306] [77, 999] F T7 ∧ (qf (T7 77) 0 (T7 73 6).toInt 0 ((64 * (T7 63 2).toInt) - 1)), fun yx1 yx2 yx3 yS => (9 - yx3.toInt).toNat, ⟨rfl, rfl, (B_w (show B 0 0 (0 : Int32) from ⟨by decide +kernel, by decide +kernel⟩) (by decide +kernel) (by decide +kernel)), _, _, rfl, hI, (agc_refl (fs := [7306]) (rs := [77, 999]) (F := F)), (qf_le (b' := (F 73 6).toInt) (lo' := 0) (hi' := (64 * (F 63 2).toInt) - 1) pre0 (by omega) (by omega) (by omega))⟩, fun x1_4 x2_5 x3_6 ST7 hIv => ?_⟩
  obtain ⟨rfl, rfl, b8, T7, LT7, rfl, hI9, g10, r11⟩ := hIv
  suffices hs : ∀ (R2 : Nat → Int32 → Int32 → cs → Prop), (∀ zx1 zx2 zx3 zS, ((63 : Nat) = zx1 ∧ x2 = zx2 ∧ B 0 9 zx3 ∧ ∃ (T7 : cF) (LT7 : cL), zS = (T7, LT7, PC false b P) ∧ IMc T7 ∧ agc [7306] [77, 999] F T7 ∧ (qf (T7 77) 0 (T7 73 6).toInt 0 ((64 * (T7 63 2).toInt) - 1))) → (9 - zx3.toInt).toNat < (9 - x3_6.toInt).toNat → R2 zx1 zx2 zx3 zS) → b_Sc_arrangeAlone_2 UL 73 63 x2 x3_6 (T7, LT7, PC false b P) R2 K from hs _ (fun _ _ _ _ h1 h2 => ⟨h1, h2⟩)
  intro R2 hR20
  have hR2 := fun {zx1} {zx2} {zx3} {zS} => hR20 zx1 zx2 zx3 zS
  have q12 : (0) ≤ (T7 73 6).toInt ∧ (T7 73 6).toInt ≤ (192) := (show B 0 192 (T7 73 6) from B_w (show B 0 192 (T7 73 6) from hI9 73 6) (by decide +kernel) (by decide +kernel))
  unfold b_Sc_arrangeAlone_2
  refine ⟨(show c_cl UL 63 = 7 from cl_63), ?_⟩
  refine ⟨(show ¬ ((67 : Nat) = NU) from by decide +kernel), ?_⟩
  refine ⟨(show c_cl UL 67 = 902 from cl_67), ?_⟩
  refine ⟨(show vp_in (x2) 3 from vp_B b_x2 (by decide +kernel) (by decide +kernel)), ?_⟩
  refine ⟨fun hc => ?_, fun hc => ?_⟩
  · have hq13 := hc
    have q14 : (0) ≤ (F 67 x2.toNatClampNeg).toInt ∧ (F 67 x2.toNatClampNeg).toInt ≤ (64) := (show B 0 64 (F 67 x2.toNatClampNeg) from B_w (show B 0 64 (F 67 x2.toNatClampNeg) from hI 67 x2.toNatClampNeg) (by decide +kernel) (by decide +kernel))
    have e15 : (T7 67 x2.toNatClampNeg).toInt = (F 67 x2.toNatClampNeg).toInt := (congrArg Int32.toInt (congrFun (g10.2 67 rfl rfl) x2.toNatClampNeg)).trans rfl
    have q16 : (0) ≤ (x3_6).toInt ∧ (x3_6).toInt ≤ (9) := (show B 0 9 (x3_6) from B_w b8 (by decide +kernel) (by decide +kernel))
    have e17 : (8 * x3_6).toInt = (8 * (x3_6).toInt) := (t_mul (show B 8 8 (8 : Int32) from ⟨by decide +kernel, by decide +kernel⟩) b8 (by decide +kernel) (by decide +kernel) (by decide +kernel)).trans (by rw [(show (8 : Int32).toInt = 8 from by decide +kernel)])
    have q18 : (0) ≤ (8 * x3_6).toInt ∧ (8 * x3_6).toInt ≤ (72) := (show B 0 72 (8 * x3_6) from B_w (B_mul (show B 8 8 (8 : Int32) from ⟨by decide +kernel, by decide +kernel⟩) b8 (by decide +kernel) (by decide +kernel) (by decide +kernel)) (by decide +kernel) (by decide +kernel))
    have i19 : (T7 67 x2.toNatClampNeg).toInt ≤ (8 * x3_6).toInt := i_le hq13
    have g20 := agc_tr (agc_refl (fs := [7306]) (rs := [77, 999]) (F := F)) g10 (by decide +kernel) (by decide +kernel)
    have e21 : (T7 63 2).toInt = (F 63 2).toInt := (congrArg Int32.toInt (g10.1 63 2 rfl rfl)).trans rfl
    exact hK hI9 g20 (qf_le (b' := (T7 73 6).toInt) (lo' := 0) (hi' := (64 * (T7 63 2).toInt) - 1) r11 (by omega) (by omega) (by omega))
  · have hq22 := (nle_lt hc)
    have b23 : B 0 63 (8 * x3_6) := B_w (B_ltL (B_mul (show B 8 8 (8 : Int32) from ⟨by decide +kernel, by decide +kernel⟩) b8 (by decide +kernel) (by decide +kernel) (by decide +kernel)) (B_eq (congrFun (g10.2 67 rfl rfl) x2.toNatClampNeg) (show B 0 64 (F 67 x2.toNatClampNeg) from hI 67 x2.toNatClampNeg)) hq22) (by decide +kernel) (by decide +kernel)
    have b24 : B 1 64 (F 67 x2.toNatClampNeg) := B_w (B_eq (Eq.symm (congrFun (g10.2 67 rfl rfl) x2.toNatClampNeg)) (B_ltR (B_mul (show B 8 8 (8 : Int32) from ⟨by decide +kernel, by decide +kernel⟩) b8 (by decide +kernel) (by decide +kernel) (by decide +kernel)) (B_eq (congrFun (g10.2 67 rfl rfl) x2.toNatClampNeg) (show B 0 64 (F 67 x2.toNatClampNeg) from hI 67 x2.toNatClampNeg)) hq22)) (by decide +kernel) (by decide +kernel)
    have q25 : (0) ≤ (x3_6).toInt ∧ (x3_6).toInt ≤ (9) := (show B 0 9 (x3_6) from B_w b8 (by decide +kernel) (by decide +kernel))
    have e26 : (8 * x3_6).toInt = (8 * (x3_6).toInt) := (t_mul (show B 8 8 (8 : Int32) from ⟨by decide +kernel, by decide +kernel⟩) b8 (by decide +kernel) (by decide +kernel) (by decide +kernel)).trans (by rw [(show (8 : Int32).toInt = 8 from by decide +kernel)])
    have q27 : (0) ≤ (8 * x3_6).toInt ∧ (8 * x3_6).toInt ≤ (63) := (show B 0 63 (8 * x3_6) from B_w b23 (by decide +kernel) (by decide +kernel))
    have q28 : (1) ≤ (F 67 x2.toNatClampNeg).toInt ∧ (F 67 x2.toNatClampNeg).toInt ≤ (64) := (show B 1 64 (F 67 x2.toNatClampNeg) from B_w b24 (by decide +kernel) (by decide +kernel))
    have e29 : (T7 67 x2.toNatClampNeg).toInt = (F 67 x2.toNatClampNeg).toInt := (congrArg Int32.toInt (congrFun (g10.2 67 rfl rfl) x2.toNatClampNeg)).trans rfl
    have i30 := i_lt hq22
    have b31 : B 0 7 (x3_6) := ⟨by omega, by omega⟩
    have i32 : (8 * x3_6).toInt < (T7 67 x2.toNatClampNeg).toInt := i_lt hq22
    have e41 : (T7 63 2).toInt = (F 63 2).toInt := (congrArg Int32.toInt (g10.1 63 2 rfl rfl)).trans rfl
    refine ⟨fun yx1 yx2 yx3 yx4 yS => (63 : Nat) = yx1 ∧ x2 = yx2 ∧ x3_6 = yx3 ∧ B 0 9 yx4 ∧ ∃ (T37 : cF) (LT37 : cL), yS = (T37, LT37, PC false b P) ∧ IMc T37 ∧ agc [7306] [77, 999] T7 T37 ∧ (qf (T37 77) 0 (T37 73 6).toInt 0 ((64 * (T37 63 2).toInt) - 1)), fun yx1 yx2 yx3 yx4 yS => (9 - yx4.toInt).toNat, ⟨rfl, rfl, rfl, (B_w (show B 0 0 (0 : Int32) from ⟨by decide +kernel, by decide +kernel⟩) (by decide +kernel) (by decide +kernel)), _, _, rfl, hI9, (agc_refl (fs := [7306]) (rs := [77, 999]) (F := T7)), (qf_le (b' := (T7 73 6).toInt) (lo' := 0) (hi' := (64 * (T7 63 2).toInt) - 1) r11 (by omega) (by omega) (by omega))⟩, fun x1_33 x2_34 x3_35 x4_36 ST37 hIv => ?_⟩
    obtain ⟨rfl, rfl, rfl, b38, T37, LT37, rfl, hI39, g40, r42⟩ := hIv
    suffices hs : ∀ (R18 : Nat → Int32 → Int32 → Int32 → cs → Prop), (∀ zx1 zx2 zx3 zx4 zS, ((63 : Nat) = zx1 ∧ x2 = zx2 ∧ x3_6 = zx3 ∧ B 0 9 zx4 ∧ ∃ (T37 : cF) (LT37 : cL), zS = (T37, LT37, PC false b P) ∧ IMc T37 ∧ agc [7306] [77, 999] T7 T37 ∧ (qf (T37 77) 0 (T37 73 6).toInt 0 ((64 * (T37 63 2).toInt) - 1))) → (9 - zx4.toInt).toNat < (9 - x4_36.toInt).toNat → R18 zx1 zx2 zx3 zx4 zS) → b_Sc_arrangeAlone_18 UL 73 63 x2 x3_6 x4_36 (T37, LT37, PC false b P) R2 R18 K from hs _ (fun _ _ _ _ _ h1 h2 => ⟨h1, h2⟩)
    intro R18 hR180
    have hR18 := fun {zx1} {zx2} {zx3} {zx4} {zS} => hR180 zx1 zx2 zx3 zx4 zS
    have q43 : (0) ≤ (T37 73 6).toInt ∧ (T37 73 6).toInt ≤ (192) := (show B 0 192 (T37 73 6) from B_w (show B 0 192 (T37 73 6) from hI39 73 6) (by decide +kernel) (by decide +kernel))
    unfold b_Sc_arrangeAlone_18
    refine ⟨(show c_cl UL 63 = 7 from cl_63), ?_⟩
    refine ⟨(show ¬ ((66 : Nat) = NU) from by decide +kernel), ?_⟩
    refine ⟨(show c_cl UL 66 = 902 from cl_66), ?_⟩
    refine ⟨(show vp_in (x2) 3 from vp_B b_x2 (by decide +kernel) (by decide +kernel)), ?_⟩
    refine ⟨fun hc => ?_, fun hc => ?_⟩
    · have hq44 := hc
      have q45 : (0) ≤ (F 66 x2.toNatClampNeg).toInt ∧ (F 66 x2.toNatClampNeg).toInt ≤ (64) := (show B 0 64 (F 66 x2.toNatClampNeg) from B_w (show B 0 64 (F 66 x2.toNatClampNeg) from hI 66 x2.toNatClampNeg) (by decide +kernel) (by decide +kernel))
      have e46 : (T37 66 x2.toNatClampNeg).toInt = (F 66 x2.toNatClampNeg).toInt := (congrArg Int32.toInt ((congrFun (g40.2 66 rfl rfl) x2.toNatClampNeg).trans (congrFun (g10.2 66 rfl rfl) x2.toNatClampNeg))).trans rfl
      have q47 : (0) ≤ (x4_36).toInt ∧ (x4_36).toInt ≤ (9) := (show B 0 9 (x4_36) from B_w b38 (by decide +kernel) (by decide +kernel))
      have e48 : (8 * x4_36).toInt = (8 * (x4_36).toInt) := (t_mul (show B 8 8 (8 : Int32) from ⟨by decide +kernel, by decide +kernel⟩) b38 (by decide +kernel) (by decide +kernel) (by decide +kernel)).trans (by rw [(show (8 : Int32).toInt = 8 from by decide +kernel)])
      have q49 : (0) ≤ (8 * x4_36).toInt ∧ (8 * x4_36).toInt ≤ (72) := (show B 0 72 (8 * x4_36) from B_w (B_mul (show B 8 8 (8 : Int32) from ⟨by decide +kernel, by decide +kernel⟩) b38 (by decide +kernel) (by decide +kernel) (by decide +kernel)) (by decide +kernel) (by decide +kernel))
      have i50 : (T37 66 x2.toNatClampNeg).toInt ≤ (8 * x4_36).toInt := i_le hq44
      have g52 := agc_tr (agc_refl (fs := [7306]) (rs := [77, 999]) (F := F)) g10 (by decide +kernel) (by decide +kernel)
      have g51 := agc_tr g52 g40 (by decide +kernel) (by decide +kernel)
      have e53 : (T37 63 2).toInt = (F 63 2).toInt := (congrArg Int32.toInt ((g40.1 63 2 rfl rfl).trans (g10.1 63 2 rfl rfl))).trans rfl
      have e54 : (x3_6 + 1).toInt = ((x3_6).toInt + 1) := (t_add b31 (show B 1 1 (1 : Int32) from ⟨by decide +kernel, by decide +kernel⟩) (by decide +kernel) (by decide +kernel)).trans (by rw [(show (1 : Int32).toInt = 1 from by decide +kernel)])
      have q55 : (1) ≤ (x3_6 + 1).toInt ∧ (x3_6 + 1).toInt ≤ (8) := (show B 1 8 (x3_6 + 1) from B_w (B_add b31 (show B 1 1 (1 : Int32) from ⟨by decide +kernel, by decide +kernel⟩) (by decide +kernel) (by decide +kernel)) (by decide +kernel) (by decide +kernel))
      exact hR2 ⟨rfl, rfl, (B_w (B_add b31 (show B 1 1 (1 : Int32) from ⟨by decide +kernel, by decide +kernel⟩) (by decide +kernel) (by decide +kernel)) (by decide +kernel) (by decide +kernel)), _, _, rfl, hI39, g51, (qf_le (b' := (T37 73 6).toInt) (lo' := 0) (hi' := (64 * (T37 63 2).toInt) - 1) r42 (by omega) (by omega) (by omega))⟩ (by show (9 - (x3_6 + 1).toInt).toNat < (9 - x3_6.toInt).toNat; omega)
    · have hq56 := (nle_lt hc)
      have b57 : B 0 63 (8 * x4_36) := B_w (B_ltL (B_mul (show B 8 8 (8 : Int32) from ⟨by decide +kernel, by decide +kernel⟩) b38 (by decide +kernel) (by decide +kernel) (by decide +kernel)) (B_eq ((congrFun (g40.2 66 rfl rfl) x2.toNatClampNeg).trans (congrFun (g10.2 66 rfl rfl) x2.toNatClampNeg)) (show B 0 64 (F 66 x2.toNatClampNeg) from hI 66 x2.toNatClampNeg)) hq56) (by decide +kernel) (by decide +kernel)
      have b58 : B 1 64 (F 66 x2.toNatClampNeg) := B_w (B_eq (Eq.symm ((congrFun (g40.2 66 rfl rfl) x2.toNatClampNeg).trans (congrFun (g10.2 66 rfl rfl) x2.toNatClampNeg))) (B_ltR (B_mul (show B 8 8 (8 : Int32) from ⟨by decide +kernel, by decide +kernel⟩) b38 (by decide +kernel) (by decide +kernel) (by decide +kernel)) (B_eq ((congrFun (g40.2 66 rfl rfl) x2.toNatClampNeg).trans (congrFun (g10.2 66 rfl rfl) x2.toNatClampNeg)) (show B 0 64 (F 66 x2.toNatClampNeg) from hI 66 x2.toNatClampNeg)) hq56)) (by decide +kernel) (by decide +kernel)
      have q59 : (0) ≤ (x4_36).toInt ∧ (x4_36).toInt ≤ (9) := (show B 0 9 (x4_36) from B_w b38 (by decide +kernel) (by decide +kernel))
      have e60 : (8 * x4_36).toInt = (8 * (x4_36).toInt) := (t_mul (show B 8 8 (8 : Int32) from ⟨by decide +kernel, by decide +kernel⟩) b38 (by decide +kernel) (by decide +kernel) (by decide +kernel)).trans (by rw [(show (8 : Int32).toInt = 8 from by decide +kernel)])
      have q61 : (0) ≤ (8 * x4_36).toInt ∧ (8 * x4_36).toInt ≤ (63) := (show B 0 63 (8 * x4_36) from B_w b57 (by decide +kernel) (by decide +kernel))
      have q62 : (1) ≤ (F 66 x2.toNatClampNeg).toInt ∧ (F 66 x2.toNatClampNeg).toInt ≤ (64) := (show B 1 64 (F 66 x2.toNatClampNeg) from B_w b58 (by decide +kernel) (by decide +kernel))
      have e63 : (T37 66 x2.toNatClampNeg).toInt = (F 66 x2.toNatClampNeg).toInt := (congrArg Int32.toInt ((congrFun (g40.2 66 rfl rfl) x2.toNatClampNeg).trans (congrFun (g10.2 66 rfl rfl) x2.toNatClampNeg))).trans rfl
      have i64 := i_lt hq56
      have b65 : B 0 7 (x4_36) := ⟨by omega, by omega⟩
      have i66 : (8 * x4_36).toInt < (T37 66 x2.toNatClampNeg).toInt := i_lt hq56
      refine ⟨(show ¬ ((68 : Nat) = NU) from by decide +kernel), ?_⟩
      refine ⟨(show c_cl UL 68 = 902 from cl_68), ?_⟩
      refine ⟨(show vp_in (x2) 3 from vp_B b_x2 (by decide +kernel) (by decide +kernel)), ?_⟩
      have e67 : (T37 63 2).toInt = (F 63 2).toInt := (congrArg Int32.toInt ((g40.1 63 2 rfl rfl).trans (g10.1 63 2 rfl rfl))).trans rfl
      refine h_Sc_addBlock_u73_a0 b_x2 (B_w (B_add (B_mul b31 (B_eq ((congrFun (g40.2 68 rfl rfl) x2.toNatClampNeg).trans (congrFun (g10.2 68 rfl rfl) x2.toNatClampNeg)) (show B 0 8 (F 68 x2.toNatClampNeg) from hI 68 x2.toNatClampNeg)) (by decide +kernel) (by decide +kernel) (by decide +kernel)) b65 (by decide +kernel) (by decide +kernel)) (by decide +kernel) (by decide +kernel)) hI39 (qf_le (b' := (T37 73 6).toInt) (lo' := 0) (hi' := (64 * (T37 63 2).toInt) - 1) r42 (by omega) (by omega) (by omega)) (by show x2.toInt < (T37 63 2).toInt; omega) (fun {FS45_68} {LFS45_68} hI69 g70 r71 => ?_)
      have r72 : qf (FS45_68 77) 0 (FS45_68 73 6).toInt 0 ((64 * (FS45_68 63 2).toInt) - 1) := r71
      clear r71
      have q73 : (0) ≤ (FS45_68 73 6).toInt ∧ (FS45_68 73 6).toInt ≤ (192) := (show B 0 192 (FS45_68 73 6) from B_w (show B 0 192 (FS45_68 73 6) from hI69 73 6) (by decide +kernel) (by decide +kernel))
      have g75 := agc_tr (agc_refl (fs := [7306]) (rs := [77, 999]) (F := T7)) g40 (by decide +kernel) (by decide +kernel)
      have g74 := agc_tr g75 g70 (by decide +kernel) (by decide +kernel)
      have e76 : (FS45_68 63 2).toInt = (F 63 2).toInt := (congrArg Int32.toInt (((g70.1 63 2 rfl rfl).trans (g40.1 63 2 rfl rfl)).trans (g10.1 63 2 rfl rfl))).trans rfl
      have e77 : (x4_36 + 1).toInt = ((x4_36).toInt + 1) := (t_add b65 (show B 1 1 (1 : Int32) from ⟨by decide +kernel, by decide +kernel⟩) (by decide +kernel) (by decide +kernel)).trans (by rw [(show (1 : Int32).toInt = 1 from by decide +kernel)])
      have q78 : (1) ≤ (x4_36 + 1).toInt ∧ (x4_36 + 1).toInt ≤ (8) := (show B 1 8 (x4_36 + 1) from B_w (B_add b65 (show B 1 1 (1 : Int32) from ⟨by decide +kernel, by decide +kernel⟩) (by decide +kernel) (by decide +kernel)) (by decide +kernel) (by decide +kernel))
      exact hR18 ⟨rfl, rfl, rfl, (B_w (B_add b65 (show B 1 1 (1 : Int32) from ⟨by decide +kernel, by decide +kernel⟩) (by decide +kernel) (by decide +kernel)) (by decide +kernel) (by decide +kernel)), _, _, rfl, hI69, g74, (qf_le (b' := (FS45_68 73 6).toInt) (lo' := 0) (hi' := (64 * (FS45_68 63 2).toInt) - 1) r72 (by omega) (by omega) (by omega))⟩ (by show (9 - (x4_36 + 1).toInt).toNat < (9 - x4_36.toInt).toNat; omega)
set_option maxRecDepth 20000 in
set_option maxHeartbeats 4000000 in
theorem h_Sc_arrange_u73_x163_a0 {b : Bool} {P : Nat → Nat → Nat} {F : cF} {L : cL} {K : cs → Prop} (hI : IMc F) (pre0 : qf (F 74) 0 (F 73 0).toInt 0 ((F 63 2).toInt - 1)) (pre1 : qf (F 64) 0 (F 63 2).toInt 1 (F 63 5).toInt) (pre2 : qf (F 65) 0 (F 63 2).toInt 1 (F 63 6).toInt) (pre3 : ((F 63 5).toInt = 1) ∨ ((F 63 7).toInt ≤ 4)) (pre4 : ((F 63 6).toInt = 1) ∨ ((F 63 8).toInt ≤ 4)) (hK : ∀ {Z : cF} {LZ : cL}, IMc Z → agc [7304, 7305, 7306] [77, 999] F Z → (qf (Z 77) 0 (Z 73 6).toInt 0 ((64 * (Z 63 2).toInt) - 1)) → (UPs 73 Z) → K (Z, LZ, PC false b P)) : p_Sc_arrange UL 73 63 (F, L, PC false b P) K := by
  have q1 : (0) ≤ (F 73 0).toInt ∧ (F 73 0).toInt ≤ (3) := (show B 0 3 (F 73 0) from B_w (show B 0 3 (F 73 0) from hI 73 0) (by decide +kernel) (by decide +kernel))
  have q2 : (1) ≤ (F 63 2).toInt ∧ (F 63 2).toInt ≤ (3) := (show B 1 3 (F 63 2) from B_w (show B 1 3 (F 63 2) from hI 63 2) (by decide +kernel) (by decide +kernel))
  have q3 : (1) ≤ (F 63 5).toInt ∧ (F 63 5).toInt ≤ (2) := (show B 1 2 (F 63 5) from B_w (show B 1 2 (F 63 5) from hI 63 5) (by decide +kernel) (by decide +kernel))
  have q4 : (1) ≤ (F 63 7).toInt ∧ (F 63 7).toInt ≤ (8) := (show B 1 8 (F 63 7) from B_w (show B 1 8 (F 63 7) from hI 63 7) (by decide +kernel) (by decide +kernel))
  have q5 : (1) ≤ (F 63 6).toInt ∧ (F 63 6).toInt ≤ (2) := (show B 1 2 (F 63 6) from B_w (show B 1 2 (F 63 6) from hI 63 6) (by decide +kernel) (by decide +kernel))
  have q6 : (1) ≤ (F 63 8).toInt ∧ (F 63 8).toInt ≤ (8) := (show B 1 8 (F 63 8) from B_w (show B 1 8 (F 63 8) from hI 63 8) (by decide +kernel) (by decide +kernel))
  unfold p_Sc_arrange
  have hj7 : ∀ {T8 : cF} {LT8 : cL}, IMc T8 → agc [7305, 7306] [77, 999] F T8 → (qf (T8 77) 0 (T8 73 6).toInt 0 ((64 * (T8 63 2).toInt) - 1)) → b_Sc_arrange_46 UL 73 (T8, LT8, PC false b P) K := by
    intro T8 LT8 hI9 g10 r11
    have q12 : (0) ≤ (T8 73 6).toInt ∧ (T8 73 6).toInt ≤ (192) := (show B 0 192 (T8 73 6) from B_w (show B 0 192 (T8 73 6) from hI9 73 6) (by decide +kernel) (by decide +kernel))
    unfold b_Sc_arrange_46
    refine ⟨fun hc => ?_, fun hc => ?_⟩
    · have hq13 := hc
      have b14 : B 1 12 (T8 73 5) := B_w (B_leR (show B 1 1 (1 : Int32) from ⟨by decide +kernel, by decide +kernel⟩) (show B 0 12 (T8 73 5) from hI9 73 5) hq13) (by decide +kernel) (by decide +kernel)
      refine ⟨B_nz b14 (by decide +kernel), ?_⟩
      unfold b_Sc_arrange_68
      have hI15 := IMc_u (u := 73) (i := 4) (v := (T8 73 6) / (T8 73 5)) hI9 (show B 0 192 ((T8 73 6) / (T8 73 5)) from (B_w (show B 0 192 ((T8 73 6) / (T8 73 5)) from B_div2 (show B 0 192 (T8 73 6) from hI9 73 6) b14 (by decide +kernel) (by decide +kernel) (by decide +kernel) (by decide +kernel)) (by decide +kernel) (by decide +kernel)))
      have g17 := agc_tr (agc_refl (fs := [7304, 7305, 7306]) (rs := [77, 999]) (F := F)) g10 (by decide +kernel) (by decide +kernel)
      have g16 := agc_f (u := 73) (k := 4) (v := (T8 73 6) / (T8 73 5)) g17 rfl (by decide +kernel)
      have q18 : (1) ≤ (T8 73 5).toInt ∧ (T8 73 5).toInt ≤ (12) := (show B 1 12 (T8 73 5) from B_w b14 (by decide +kernel) (by decide +kernel))
      have e19 : ((T8 73 6) / (T8 73 5)).toInt = ((T8 73 6).toInt / (T8 73 5).toInt) := (t_div (show B 0 192 (T8 73 6) from hI9 73 6) b14 (by decide +kernel) (by decide +kernel)).trans (by rfl)
      have q20 : (0) ≤ ((T8 73 6) / (T8 73 5)).toInt ∧ ((T8 73 6) / (T8 73 5)).toInt ≤ (192) := (show B 0 192 ((T8 73 6) / (T8 73 5)) from B_w (show B 0 192 ((T8 73 6) / (T8 73 5)) from B_div2 (show B 0 192 (T8 73 6) from hI9 73 6) b14 (by decide +kernel) (by decide +kernel) (by decide +kernel) (by decide +kernel)) (by decide +kernel) (by decide +kernel))
      have k21 : (T8 73 5).toInt * ((T8 73 6) / (T8 73 5)).toInt ≤ (T8 73 6).toInt := by rw [e19]; exact Int.mul_ediv_self_le (by omega)
      have e22 : (T8 63 2).toInt = (F 63 2).toInt := (congrArg Int32.toInt (g10.1 63 2 rfl rfl)).trans rfl
      exact hK hI15 g16 (qf_le (b' := (T8 73 6).toInt) (lo' := 0) (hi' := (64 * (T8 63 2).toInt) - 1) r11 (by omega) (by omega) (by omega)) (by show (T8 73 5).toInt * ((T8 73 6) / (T8 73 5)).toInt ≤ 192; omega)
    · have hq23 := (nle_lt hc)
      have b24 : B 0 0 (T8 73 5) := B_w (B_ltL (show B 0 12 (T8 73 5) from hI9 73 5) (show B 1 1 (1 : Int32) from ⟨by decide +kernel, by decide +kernel⟩) hq23) (by decide +kernel) (by decide +kernel)
      unfold b_Sc_arrange_68
      have hI25 := IMc_u (u := 73) (i := 4) (v := 0) hI9 (show B 0 192 (0) from (B_w (show B 0 0 (0 : Int32) from ⟨by decide +kernel, by decide +kernel⟩) (by decide +kernel) (by decide +kernel)))
      have g27 := agc_tr (agc_refl (fs := [7304, 7305, 7306]) (rs := [77, 999]) (F := F)) g10 (by decide +kernel) (by decide +kernel)
      have g26 := agc_f (u := 73) (k := 4) (v := 0) g27 rfl (by decide +kernel)
      have q28 : (0) ≤ (T8 73 5).toInt ∧ (T8 73 5).toInt ≤ (0) := (show B 0 0 (T8 73 5) from B_w b24 (by decide +kernel) (by decide +kernel))
      have k29 : (T8 73 5).toInt * 0 = 0 := Int.mul_zero _
      have e30 : (T8 63 2).toInt = (F 63 2).toInt := (congrArg Int32.toInt (g10.1 63 2 rfl rfl)).trans rfl
      exact hK hI25 g26 (qf_le (b' := (T8 73 6).toInt) (lo' := 0) (hi' := (64 * (T8 63 2).toInt) - 1) r11 (by omega) (by omega) (by omega)) (by show (T8 73 5).toInt * (0 : Int) ≤ 192; omega)
  refine ⟨fun hc => ?_, fun hc => ?_⟩
  · have i31 : (F 73 0).toInt ≠ (1 : Int32).toInt := i_ne hc
    have n32 : (1 : Int32).toInt = 1 := by decide +kernel
    have hI33 := IMc_u (u := 73) (i := 6) (v := 0) hI (show B 0 192 (0) from (B_w (show B 0 0 (0 : Int32) from ⟨by decide +kernel, by decide +kernel⟩) (by decide +kernel) (by decide +kernel)))
    refine h_Sc_blocksTogether_u73_x163 hI33 (fun {v35_34} b36 => ?_)
    have hI37 := IMc_u (u := 73) (i := 5) (v := v35_34) hI33 (show B 0 12 (v35_34) from (B_w b36 (by decide +kernel) (by decide +kernel)))
    refine h_Sc_arrangeTogether_u73_x163_a0 hI37 (qf_0 (b := 0) (by omega)) (qf_le (b' := (F 73 0).toInt) (lo' := 0) (hi' := (F 63 2).toInt - 1) pre0 (by omega) (by omega) (by omega)) (qf_le (b' := (F 63 2).toInt) (lo' := 1) (hi' := (F 63 5).toInt) pre1 (by omega) (by omega) (by omega)) (qf_le (b' := (F 63 2).toInt) (lo' := 1) (hi' := (F 63 6).toInt) pre2 (by omega) (by omega) (by omega)) (by show ((F 63 5).toInt = 1) ∨ ((F 63 7).toInt ≤ 4); omega) (by show ((F 63 6).toInt = 1) ∨ ((F 63 8).toInt ≤ 4); omega) (fun {FS43_38} {LFS43_38} hI39 g40 r41 => ?_)
    have r42 : qf (FS43_38 77) 0 (FS43_38 73 6).toInt 0 ((64 * (FS43_38 63 2).toInt) - 1) := r41
    clear r41
    have q43 : (0) ≤ (FS43_38 73 6).toInt ∧ (FS43_38 73 6).toInt ≤ (192) := (show B 0 192 (FS43_38 73 6) from B_w (show B 0 192 (FS43_38 73 6) from hI39 73 6) (by decide +kernel) (by decide +kernel))
    have g46 := agc_f (u := 73) (k := 6) (v := 0) (agc_refl (fs := [7305, 7306]) (rs := [77, 999]) (F := F)) rfl (by decide +kernel)
    have g45 := agc_f (u := 73) (k := 5) (v := v35_34) g46 rfl (by decide +kernel)
    have g44 := agc_tr g45 g40 (by decide +kernel) (by decide +kernel)
    have e47 : (FS43_38 63 2).toInt = (F 63 2).toInt := (congrArg Int32.toInt (g40.1 63 2 rfl rfl)).trans rfl
    exact hj7 hI39 g44 (qf_le (b' := (FS43_38 73 6).toInt) (lo' := 0) (hi' := (64 * (FS43_38 63 2).toInt) - 1) r42 (by omega) (by omega) (by omega))
  · have b48 : B 1 1 (F 73 0) := B_w (B_eq hc (show B 1 1 (1 : Int32) from ⟨by decide +kernel, by decide +kernel⟩)) (by decide +kernel) (by decide +kernel)
    have q49 : (1) ≤ (F 73 0).toInt ∧ (F 73 0).toInt ≤ (1) := (show B 1 1 (F 73 0) from B_w b48 (by decide +kernel) (by decide +kernel))
    have i50 : (F 73 0).toInt = (1 : Int32).toInt := congrArg Int32.toInt hc
    have n51 : (1 : Int32).toInt = 1 := by decide +kernel
    refine ⟨(show ¬ ((74 : Nat) = NU) from by decide +kernel), ?_⟩
    refine ⟨(show c_cl UL 74 = 902 from cl_74), ?_⟩
    refine ⟨(show vp_in (0) 3 from vp_B (show B 0 0 (0 : Int32) from ⟨by decide +kernel, by decide +kernel⟩) (by decide +kernel) (by decide +kernel)), ?_⟩
    have n52 : (0 : Int32).toInt = 0 := by decide +kernel
    have r53 : 0 ≤ (F 74 (0 : Int32).toNatClampNeg).toInt ∧ (F 74 (0 : Int32).toNatClampNeg).toInt ≤ ((F 63 2).toInt - 1) := qf_at pre0 (x := (0 : Int32)) (by omega) (by omega)
    have hI54 := IMc_u (u := 73) (i := 6) (v := 0) hI (show B 0 192 (0) from (B_w (show B 0 0 (0 : Int32) from ⟨by decide +kernel, by decide +kernel⟩) (by decide +kernel) (by decide +kernel)))
    have hI55 := IMc_u (u := 73) (i := 5) (v := 1) hI54 (show B 0 12 (1) from (B_w (show B 1 1 (1 : Int32) from ⟨by decide +kernel, by decide +kernel⟩) (by decide +kernel) (by decide +kernel)))
    have q56 : (0) ≤ (F 74 (0 : Int32).toNatClampNeg).toInt ∧ (F 74 (0 : Int32).toNatClampNeg).toInt ≤ (2) := (show B 0 2 (F 74 (0 : Int32).toNatClampNeg) from B_w (show B 0 2 (F 74 (0 : Int32).toNatClampNeg) from hI 74 (0 : Int32).toNatClampNeg) (by decide +kernel) (by decide +kernel))
    refine h_Sc_arrangeAlone_u73_x163_a0 (B_w (show B 0 2 (F 74 (0 : Int32).toNatClampNeg) from hI 74 (0 : Int32).toNatClampNeg) (by decide +kernel) (by decide +kernel)) hI55 (qf_0 (b := 0) (by omega)) (by show (F 74 (0 : Int32).toNatClampNeg).toInt < (F 63 2).toInt; omega) (fun {FS26_57} {LFS26_57} hI58 g59 r60 => ?_)
    have r61 : qf (FS26_57 77) 0 (FS26_57 73 6).toInt 0 ((64 * (FS26_57 63 2).toInt) - 1) := r60
    clear r60
    have q62 : (0) ≤ (FS26_57 73 6).toInt ∧ (FS26_57 73 6).toInt ≤ (192) := (show B 0 192 (FS26_57 73 6) from B_w (show B 0 192 (FS26_57 73 6) from hI58 73 6) (by decide +kernel) (by decide +kernel))
    have g65 := agc_f (u := 73) (k := 6) (v := 0) (agc_refl (fs := [7305, 7306]) (rs := [77, 999]) (F := F)) rfl (by decide +kernel)
    have g64 := agc_f (u := 73) (k := 5) (v := 1) g65 rfl (by decide +kernel)
    have g63 := agc_tr g64 g59 (by decide +kernel) (by decide +kernel)
    have e66 : (FS26_57 63 2).toInt = (F 63 2).toInt := (congrArg Int32.toInt (g59.1 63 2 rfl rfl)).trans rfl
    exact hj7 hI58 g63 (qf_le (b' := (FS26_57 73 6).toInt) (lo' := 0) (hi' := (64 * (FS26_57 63 2).toInt) - 1) r61 (by omega) (by omega) (by omega))
set_option maxRecDepth 20000 in
set_option maxHeartbeats 4000000 in
theorem h_Sc_blocksTogether_u73_x1105 {a : Bool} {b : Bool} {P : Nat → Nat → Nat} {F : cF} {L : cL} {K : Int32 → cs → Prop} (hI : IMc F) (hK : ∀ {v : Int32}, B 0 12 v → K v (F, L, PC a b P)) : p_Sc_blocksTogether UL 73 105 (F, L, PC a b P) K := by
  unfold p_Sc_blocksTogether
  refine ⟨fun yx1 yx2 yx3 yS => (105 : Nat) = yx1 ∧ B 0 12 yx2 ∧ B 0 3 yx3 ∧ (F, L, PC a b P) = yS ∧ (yx2.toInt ≤ (4 * yx3.toInt)), fun yx1 yx2 yx3 yS => (3 - yx3.toInt).toNat, ⟨rfl, (B_w (show B 0 0 (0 : Int32) from ⟨by decide +kernel, by decide +kernel⟩) (by decide +kernel) (by decide +kernel)), (B_w (show B 0 0 (0 : Int32) from ⟨by decide +kernel, by decide +kernel⟩) (by decide +kernel) (by decide +kernel)), rfl, (by show 0 ≤ (4 * 0); omega)⟩, fun x1_1 x2_2 x3_3 ST4 hIv => ?_⟩
  obtain ⟨rfl, b5, b6, rfl, r7⟩ := hIv
  suffices hs : ∀ (R4 : Nat → Int32 → Int32 → cs → Prop), (∀ zx1 zx2 zx3 zS, ((105 : Nat) = zx1 ∧ B 0 12 zx2 ∧ B 0 3 zx3 ∧ (F, L, PC a b P) = zS ∧ (zx2.toInt ≤ (4 * zx3.toInt))) → (3 - zx3.toInt).toNat < (3 - x3_3.toInt).toNat → R4 zx1 zx2 zx3 zS) → b_Sc_blocksTogether_4 UL 73 105 x2_2 x3_3 (F, L, PC a b P) R4 K from hs _ (fun _ _ _ _ h1 h2 => ⟨h1, h2⟩)
  intro R4 hR40
  have hR4 := fun {zx1} {zx2} {zx3} {zS} => hR40 zx1 zx2 zx3 zS
  have q8 : (0) ≤ (x2_2).toInt ∧ (x2_2).toInt ≤ (12) := (show B 0 12 (x2_2) from B_w b5 (by decide +kernel) (by decide +kernel))
  have q9 : (0) ≤ (x3_3).toInt ∧ (x3_3).toInt ≤ (3) := (show B 0 3 (x3_3) from B_w b6 (by decide +kernel) (by decide +kernel))
  unfold b_Sc_blocksTogether_4
  refine ⟨fun hc => ?_, fun hc => ?_⟩
  · have hq10 := hc
    have q11 : (0) ≤ (F 73 0).toInt ∧ (F 73 0).toInt ≤ (3) := (show B 0 3 (F 73 0) from B_w (show B 0 3 (F 73 0) from hI 73 0) (by decide +kernel) (by decide +kernel))
    have i12 : (F 73 0).toInt ≤ (x3_3).toInt := i_le hq10
    exact hK b5
  · have hq13 := (nle_lt hc)
    have b14 : B 0 2 (x3_3) := B_w (B_ltL b6 (show B 0 3 (F 73 0) from hI 73 0) hq13) (by decide +kernel) (by decide +kernel)
    have q15 : (0) ≤ (x3_3).toInt ∧ (x3_3).toInt ≤ (2) := (show B 0 2 (x3_3) from B_w b14 (by decide +kernel) (by decide +kernel))
    have b16 : B 1 3 (F 73 0) := B_w (B_ltR b6 (show B 0 3 (F 73 0) from hI 73 0) hq13) (by decide +kernel) (by decide +kernel)
    have q17 : (1) ≤ (F 73 0).toInt ∧ (F 73 0).toInt ≤ (3) := (show B 1 3 (F 73 0) from B_w b16 (by decide +kernel) (by decide +kernel))
    have i18 : (x3_3).toInt < (F 73 0).toInt := i_lt hq13
    refine ⟨(show c_cl UL 105 = 7 from cl_105), ?_⟩
    refine ⟨(show ¬ ((106 : Nat) = NU) from by decide +kernel), ?_⟩
    refine ⟨(show ¬ ((74 : Nat) = NU) from by decide +kernel), ?_⟩
    refine ⟨(show c_cl UL 74 = 902 from cl_74), ?_⟩
    refine ⟨(show vp_in (x3_3) 3 from vp_B b14 (by decide +kernel) (by decide +kernel)), ?_⟩
    refine ⟨(show c_cl UL 106 = 902 from cl_106), ?_⟩
    refine ⟨(show vp_in (F 74 x3_3.toNatClampNeg) 3 from vp_B (show B 0 2 (F 74 x3_3.toNatClampNeg) from hI 74 x3_3.toNatClampNeg) (by decide +kernel) (by decide +kernel)), ?_⟩
    refine ⟨(show ¬ ((107 : Nat) = NU) from by decide +kernel), ?_⟩
    refine ⟨(show ¬ ((74 : Nat) = NU) from by decide +kernel), ?_⟩
    refine ⟨(show vp_in (x3_3) 3 from vp_B b14 (by decide +kernel) (by decide +kernel)), ?_⟩
    refine ⟨(show c_cl UL 107 = 902 from cl_107), ?_⟩
    refine ⟨(show vp_in (F 74 x3_3.toNatClampNeg) 3 from vp_B (show B 0 2 (F 74 x3_3.toNatClampNeg) from hI 74 x3_3.toNatClampNeg) (by decide +kernel) (by decide +kernel)), ?_⟩
    have q19 : (1) ≤ (F 106 (F 74 x3_3.toNatClampNeg).toNatClampNeg).toInt ∧ (F 106 (F 74 x3_3.toNatClampNeg).toNatClampNeg).toInt ≤ (2) := (show B 1 2 (F 106 (F 74 x3_3.toNatClampNeg).toNatClampNeg) from B_w (show B 1 2 (F 106 (F 74 x3_3.toNatClampNeg).toNatClampNeg) from hI 106 (F 74 x3_3.toNatClampNeg).toNatClampNeg) (by decide +kernel) (by decide +kernel))
    have q20 : (1) ≤ (F 107 (F 74 x3_3.toNatClampNeg).toNatClampNeg).toInt ∧ (F 107 (F 74 x3_3.toNatClampNeg).toNatClampNeg).toInt ≤ (2) := (show B 1 2 (F 107 (F 74 x3_3.toNatClampNeg).toNatClampNeg) from B_w (show B 1 2 (F 107 (F 74 x3_3.toNatClampNeg).toNatClampNeg) from hI 107 (F 74 x3_3.toNatClampNeg).toNatClampNeg) (by decide +kernel) (by decide +kernel))
    have e21 : ((F 106 (F 74 x3_3.toNatClampNeg).toNatClampNeg) * (F 107 (F 74 x3_3.toNatClampNeg).toNatClampNeg)).toInt = ((F 106 (F 74 x3_3.toNatClampNeg).toNatClampNeg).toInt * (F 107 (F 74 x3_3.toNatClampNeg).toNatClampNeg).toInt) := (t_mul (show B 1 2 (F 106 (F 74 x3_3.toNatClampNeg).toNatClampNeg) from hI 106 (F 74 x3_3.toNatClampNeg).toNatClampNeg) (show B 1 2 (F 107 (F 74 x3_3.toNatClampNeg).toNatClampNeg) from hI 107 (F 74 x3_3.toNatClampNeg).toNatClampNeg) (by decide +kernel) (by decide +kernel) (by decide +kernel)).trans (by rfl)
    have q22 : (1) ≤ ((F 106 (F 74 x3_3.toNatClampNeg).toNatClampNeg) * (F 107 (F 74 x3_3.toNatClampNeg).toNatClampNeg)).toInt ∧ ((F 106 (F 74 x3_3.toNatClampNeg).toNatClampNeg) * (F 107 (F 74 x3_3.toNatClampNeg).toNatClampNeg)).toInt ≤ (4) := (show B 1 4 ((F 106 (F 74 x3_3.toNatClampNeg).toNatClampNeg) * (F 107 (F 74 x3_3.toNatClampNeg).toNatClampNeg)) from B_w (B_mul (show B 1 2 (F 106 (F 74 x3_3.toNatClampNeg).toNatClampNeg) from hI 106 (F 74 x3_3.toNatClampNeg).toNatClampNeg) (show B 1 2 (F 107 (F 74 x3_3.toNatClampNeg).toNatClampNeg) from hI 107 (F 74 x3_3.toNatClampNeg).toNatClampNeg) (by decide +kernel) (by decide +kernel) (by decide +kernel)) (by decide +kernel) (by decide +kernel))
    have e23 : (x2_2 + ((F 106 (F 74 x3_3.toNatClampNeg).toNatClampNeg) * (F 107 (F 74 x3_3.toNatClampNeg).toNatClampNeg))).toInt = ((x2_2).toInt + ((F 106 (F 74 x3_3.toNatClampNeg).toNatClampNeg).toInt * (F 107 (F 74 x3_3.toNatClampNeg).toNatClampNeg).toInt)) := (t_add b5 (B_mul (show B 1 2 (F 106 (F 74 x3_3.toNatClampNeg).toNatClampNeg) from hI 106 (F 74 x3_3.toNatClampNeg).toNatClampNeg) (show B 1 2 (F 107 (F 74 x3_3.toNatClampNeg).toNatClampNeg) from hI 107 (F 74 x3_3.toNatClampNeg).toNatClampNeg) (by decide +kernel) (by decide +kernel) (by decide +kernel)) (by decide +kernel) (by decide +kernel)).trans (by rw [e21])
    have q24 : (1) ≤ (x2_2 + ((F 106 (F 74 x3_3.toNatClampNeg).toNatClampNeg) * (F 107 (F 74 x3_3.toNatClampNeg).toNatClampNeg))).toInt ∧ (x2_2 + ((F 106 (F 74 x3_3.toNatClampNeg).toNatClampNeg) * (F 107 (F 74 x3_3.toNatClampNeg).toNatClampNeg))).toInt ≤ (16) := (show B 1 16 (x2_2 + ((F 106 (F 74 x3_3.toNatClampNeg).toNatClampNeg) * (F 107 (F 74 x3_3.toNatClampNeg).toNatClampNeg))) from B_w (B_add b5 (B_mul (show B 1 2 (F 106 (F 74 x3_3.toNatClampNeg).toNatClampNeg) from hI 106 (F 74 x3_3.toNatClampNeg).toNatClampNeg) (show B 1 2 (F 107 (F 74 x3_3.toNatClampNeg).toNatClampNeg) from hI 107 (F 74 x3_3.toNatClampNeg).toNatClampNeg) (by decide +kernel) (by decide +kernel) (by decide +kernel)) (by decide +kernel) (by decide +kernel)) (by decide +kernel) (by decide +kernel))
    have e25 : (x3_3 + 1).toInt = ((x3_3).toInt + 1) := (t_add b14 (show B 1 1 (1 : Int32) from ⟨by decide +kernel, by decide +kernel⟩) (by decide +kernel) (by decide +kernel)).trans (by rw [(show (1 : Int32).toInt = 1 from by decide +kernel)])
    have q26 : (1) ≤ (x3_3 + 1).toInt ∧ (x3_3 + 1).toInt ≤ (3) := (show B 1 3 (x3_3 + 1) from B_w (B_add b14 (show B 1 1 (1 : Int32) from ⟨by decide +kernel, by decide +kernel⟩) (by decide +kernel) (by decide +kernel)) (by decide +kernel) (by decide +kernel))
    exact hR4 ⟨rfl, (show B 0 12 (x2_2 + ((F 106 (F 74 x3_3.toNatClampNeg).toNatClampNeg) * (F 107 (F 74 x3_3.toNatClampNeg).toNatClampNeg))) from ⟨by omega, by omega⟩), (B_w (B_add b14 (show B 1 1 (1 : Int32) from ⟨by decide +kernel, by decide +kernel⟩) (by decide +kernel) (by decide +kernel)) (by decide +kernel) (by decide +kernel)), rfl, (by show (x2_2 + ((F 106 (F 74 x3_3.toNatClampNeg).toNatClampNeg) * (F 107 (F 74 x3_3.toNatClampNeg).toNatClampNeg))).toInt ≤ (4 * (x3_3 + 1).toInt); omega)⟩ (by show (3 - (x3_3 + 1).toInt).toNat < (3 - x3_3.toInt).toNat; omega)
set_option maxRecDepth 20000 in
set_option maxHeartbeats 4000000 in
theorem h_Sc_addBlock_u73_a1 {b : Bool} {P : Nat → Nat → Nat} {x1 : Int32} {x2 : Int32} {F : cF} {L : cL} {K : cs → Prop} (b_x1 : B 0 2 x1) (b_x2 : B 0 63 x2) (hI : IMc F) (pre0 : qf (F 77) 0 (F 73 6).toInt 0 ((64 * (F 105 2).toInt) - 1)) (pre1 : x1.toInt < (F 105 2).toInt) (hK : ∀ {Z : cF} {LZ : cL}, IMc Z → agc [7306] [77] F Z → (qf (Z 77) 0 (Z 73 6).toInt 0 ((64 * (Z 105 2).toInt) - 1)) → K (Z, LZ, PC true b P)) : p_Sc_addBlock UL 73 x1 x2 (F, L, PC true b P) K := by
  have q1 : (0) ≤ (F 73 6).toInt ∧ (F 73 6).toInt ≤ (192) := (show B 0 192 (F 73 6) from B_w (show B 0 192 (F 73 6) from hI 73 6) (by decide +kernel) (by decide +kernel))
  have q2 : (0) ≤ (x1).toInt ∧ (x1).toInt ≤ (2) := (show B 0 2 (x1) from B_w b_x1 (by decide +kernel) (by decide +kernel))
  have q3 : (1) ≤ (F 105 2).toInt ∧ (F 105 2).toInt ≤ (3) := (show B 1 3 (F 105 2) from B_w (show B 1 3 (F 105 2) from hI 105 2) (by decide +kernel) (by decide +kernel))
  unfold p_Sc_addBlock
  refine ⟨(show ¬ ((77 : Nat) = NU) from by decide +kernel), ?_⟩
  refine ⟨(show c_cl UL 77 = 902 from cl_77), ?_⟩
  refine ⟨fun hc => ?_, fun hc => ?_⟩
  · have hq4 := hc
    have b5 : B 192 192 (F 73 6) := B_w (B_leR (show B 192 192 (192 : Int32) from ⟨by decide +kernel, by decide +kernel⟩) (show B 0 192 (F 73 6) from hI 73 6) hq4) (by decide +kernel) (by decide +kernel)
    have q6 : (192) ≤ (F 73 6).toInt ∧ (F 73 6).toInt ≤ (192) := (show B 192 192 (F 73 6) from B_w b5 (by decide +kernel) (by decide +kernel))
    unfold b_Sc_addBlock_37
    exact hK hI (agc_refl (fs := [7306]) (rs := [77]) (F := F)) (qf_le (b' := (F 73 6).toInt) (lo' := 0) (hi' := (64 * (F 105 2).toInt) - 1) pre0 (by omega) (by omega) (by omega))
  · have hq7 := (nle_lt hc)
    have b8 : B 0 191 (F 73 6) := B_w (B_ltL (show B 0 192 (F 73 6) from hI 73 6) (show B 192 192 (192 : Int32) from ⟨by decide +kernel, by decide +kernel⟩) hq7) (by decide +kernel) (by decide +kernel)
    have q9 : (0) ≤ (F 73 6).toInt ∧ (F 73 6).toInt ≤ (191) := (show B 0 191 (F 73 6) from B_w b8 (by decide +kernel) (by decide +kernel))
    refine ⟨(show ¬ ((77 : Nat) = NU) from by decide +kernel), ?_⟩
    refine ⟨(show vp_in (F 73 6) 192 from vp_B b8 (by decide +kernel) (by decide +kernel)), ?_⟩
    unfold b_Sc_addBlock_37
    have hI10 := IMc_u (u := 77) (i := (F 73 6).toNatClampNeg) (v := (64 * x1) + x2) hI (show B 0 191 ((64 * x1) + x2) from (B_w (B_add (B_mul (show B 64 64 (64 : Int32) from ⟨by decide +kernel, by decide +kernel⟩) b_x1 (by decide +kernel) (by decide +kernel) (by decide +kernel)) b_x2 (by decide +kernel) (by decide +kernel)) (by decide +kernel) (by decide +kernel)))
    have hI11 := IMc_u (u := 73) (i := 6) (v := (F 73 6) + 1) hI10 (show B 0 192 ((F 73 6) + 1) from (B_w (B_add b8 (show B 1 1 (1 : Int32) from ⟨by decide +kernel, by decide +kernel⟩) (by decide +kernel) (by decide +kernel)) (by decide +kernel) (by decide +kernel)))
    have g13 := agc_r (u := 77) (w := upd (F 77) (F 73 6).toNatClampNeg ((64 * x1) + x2)) (agc_refl (fs := [7306]) (rs := [77]) (F := F)) rfl (by decide +kernel)
    have g12 := agc_f (u := 73) (k := 6) (v := (F 73 6) + 1) g13 rfl (by decide +kernel)
    have e14 : ((F 73 6) + 1).toInt = ((F 73 6).toInt + 1) := (t_add b8 (show B 1 1 (1 : Int32) from ⟨by decide +kernel, by decide +kernel⟩) (by decide +kernel) (by decide +kernel)).trans (by rw [(show (1 : Int32).toInt = 1 from by decide +kernel)])
    have q15 : (1) ≤ ((F 73 6) + 1).toInt ∧ ((F 73 6) + 1).toInt ≤ (192) := (show B 1 192 ((F 73 6) + 1) from B_w (B_add b8 (show B 1 1 (1 : Int32) from ⟨by decide +kernel, by decide +kernel⟩) (by decide +kernel) (by decide +kernel)) (by decide +kernel) (by decide +kernel))
    have e16 : (64 * x1).toInt = (64 * (x1).toInt) := (t_mul (show B 64 64 (64 : Int32) from ⟨by decide +kernel, by decide +kernel⟩) b_x1 (by decide +kernel) (by decide +kernel) (by decide +kernel)).trans (by rw [(show (64 : Int32).toInt = 64 from by decide +kernel)])
    have q17 : (0) ≤ (64 * x1).toInt ∧ (64 * x1).toInt ≤ (128) := (show B 0 128 (64 * x1) from B_w (B_mul (show B 64 64 (64 : Int32) from ⟨by decide +kernel, by decide +kernel⟩) b_x1 (by decide +kernel) (by decide +kernel) (by decide +kernel)) (by decide +kernel) (by decide +kernel))
    have q18 : (0) ≤ (x2).toInt ∧ (x2).toInt ≤ (63) := (show B 0 63 (x2) from B_w b_x2 (by decide +kernel) (by decide +kernel))
    have e19 : ((64 * x1) + x2).toInt = ((64 * (x1).toInt) + (x2).toInt) := (t_add (B_mul (show B 64 64 (64 : Int32) from ⟨by decide +kernel, by decide +kernel⟩) b_x1 (by decide +kernel) (by decide +kernel) (by decide +kernel)) b_x2 (by decide +kernel) (by decide +kernel)).trans (by rw [e16])
    have q20 : (0) ≤ ((64 * x1) + x2).toInt ∧ ((64 * x1) + x2).toInt ≤ (191) := (show B 0 191 ((64 * x1) + x2) from B_w (B_add (B_mul (show B 64 64 (64 : Int32) from ⟨by decide +kernel, by decide +kernel⟩) b_x1 (by decide +kernel) (by decide +kernel) (by decide +kernel)) b_x2 (by decide +kernel) (by decide +kernel)) (by decide +kernel) (by decide +kernel))
    exact hK hI11 g12 (qf_le (b' := ((F 73 6) + 1).toInt) (lo' := 0) (hi' := (64 * (F 105 2).toInt) - 1) (qf_ext (x := F 73 6) (b' := ((F 73 6) + 1).toInt) (qf_le (b' := (F 73 6).toInt) (lo' := 0) (hi' := (64 * (F 105 2).toInt) - 1) pre0 (by omega) (by omega) (by omega)) (fun _ => ⟨by omega, by omega⟩) (by omega) (by omega) (by omega)) (by omega) (by omega) (by omega))
set_option maxRecDepth 20000 in
set_option maxHeartbeats 4000000 in
theorem h_Sc_addStretch_u73_x1105_a1 {b : Bool} {P : Nat → Nat → Nat} {x2 : Int32} {x3 : Int32} {x4 : Int32} {F : cF} {L : cL} {K : cs → Prop} (b_x2 : B 0 2 x2) (b_x3 : B 0 7 x3) (b_x4 : B 0 7 x4) (hI : IMc F) (pre0 : qf (F 77) 0 (F 73 6).toInt 0 ((64 * (F 105 2).toInt) - 1)) (pre1 : x2.toInt < (F 105 2).toInt) (pre2 : x3.toInt < (F 105 7).toInt) (pre3 : x4.toInt < (F 105 8).toInt) (pre4 : qf (F 106) 0 (F 105 2).toInt 1 (F 105 5).toInt) (pre5 : qf (F 107) 0 (F 105 2).toInt 1 (F 105 6).toInt) (pre6 : ((F 105 5).toInt = 1) ∨ ((F 105 7).toInt ≤ 4)) (pre7 : ((F 105 6).toInt = 1) ∨ ((F 105 8).toInt ≤ 4)) (hK : ∀ {Z : cF} {LZ : cL}, IMc Z → agc [7306] [77, 999] F Z → (qf (Z 77) 0 (Z 73 6).toInt 0 ((64 * (Z 105 2).toInt) - 1)) → K (Z, LZ, PC true b P)) : p_Sc_addStretch UL 73 105 x2 x3 x4 (F, L, PC true b P) K := by
  have q1 : (0) ≤ (F 73 6).toInt ∧ (F 73 6).toInt ≤ (192) := (show B 0 192 (F 73 6) from B_w (show B 0 192 (F 73 6) from hI 73 6) (by decide +kernel) (by decide +kernel))
  have q2 : (0) ≤ (x2).toInt ∧ (x2).toInt ≤ (2) := (show B 0 2 (x2) from B_w b_x2 (by decide +kernel) (by decide +kernel))
  have q3 : (1) ≤ (F 105 2).toInt ∧ (F 105 2).toInt ≤ (3) := (show B 1 3 (F 105 2) from B_w (show B 1 3 (F 105 2) from hI 105 2) (by decide +kernel) (by decide +kernel))
  have q4 : (0) ≤ (x3).toInt ∧ (x3).toInt ≤ (7) := (show B 0 7 (x3) from B_w b_x3 (by decide +kernel) (by decide +kernel))
  have q5 : (1) ≤ (F 105 7).toInt ∧ (F 105 7).toInt ≤ (8) := (show B 1 8 (F 105 7) from B_w (show B 1 8 (F 105 7) from hI 105 7) (by decide +kernel) (by decide +kernel))
  have q6 : (0) ≤ (x4).toInt ∧ (x4).toInt ≤ (7) := (show B 0 7 (x4) from B_w b_x4 (by decide +kernel) (by decide +kernel))
  have q7 : (1) ≤ (F 105 8).toInt ∧ (F 105 8).toInt ≤ (8) := (show B 1 8 (F 105 8) from B_w (show B 1 8 (F 105 8) from hI 105 8) (by decide +kernel) (by decide +kernel))
  have q8 : (1) ≤ (F 105 5).toInt ∧ (F 105 5).toInt ≤ (2) := (show B 1 2 (F 105 5) from B_w (show B 1 2 (F 105 5) from hI 105 5) (by decide +kernel) (by decide +kernel))
  have q9 : (1) ≤ (F 105 6).toInt ∧ (F 105 6).toInt ≤ (2) := (show B 1 2 (F 105 6) from B_w (show B 1 2 (F 105 6) from hI 105 6) (by decide +kernel) (by decide +kernel))
  unfold p_Sc_addStretch
  rcases sp_12 (show B 1 2 (F 105 5) from B_w (show B 1 2 (F 105 5) from hI 105 5) (by decide +kernel) (by decide +kernel)) with hcs | hcs
  · have b10 : B 1 1 (F 105 5) := B_eq hcs (show B 1 1 (1 : Int32) from ⟨by decide +kernel, by decide +kernel⟩)
    have q11 : (1) ≤ (F 105 5).toInt ∧ (F 105 5).toInt ≤ (1) := (show B 1 1 (F 105 5) from B_w b10 (by decide +kernel) (by decide +kernel))
    rcases sp_12 (show B 1 2 (F 105 6) from B_w (show B 1 2 (F 105 6) from hI 105 6) (by decide +kernel) (by decide +kernel)) with hcs | hcs
    · have b12 : B 1 1 (F 105 6) := B_eq hcs (show B 1 1 (1 : Int32) from ⟨by decide +kernel, by decide +kernel⟩)
      have q13 : (1) ≤ (F 105 6).toInt ∧ (F 105 6).toInt ≤ (1) := (show B 1 1 (F 105 6) from B_w b12 (by decide +kernel) (by decide +kernel))
      refine ⟨(show c_cl UL 105 = 7 from cl_105), ?_⟩
      refine ⟨(show ¬ ((106 : Nat) = NU) from by decide +kernel), ?_⟩
      refine ⟨(show c_cl UL 106 = 902 from cl_106), ?_⟩
      refine ⟨(show vp_in (x2) 3 from vp_B b_x2 (by decide +kernel) (by decide +kernel)), ?_⟩
      refine ⟨(show ¬ ((107 : Nat) = NU) from by decide +kernel), ?_⟩
      refine ⟨(show c_cl UL 107 = 902 from cl_107), ?_⟩
      refine ⟨(show vp_in (x2) 3 from vp_B b_x2 (by decide +kernel) (by decide +kernel)), ?_⟩
      refine ⟨fun yx1 yx2 yx5 yx6 yx7 yS => (105 : Nat) = yx1 ∧ x2 = yx2 ∧ (x3 * (F 106 x2.toNatClampNeg)) = yx5 ∧ (x4 * (F 107 x2.toNatClampNeg)) = yx6 ∧ B 0 2 yx7 ∧ ∃ (T19 : cF) (LT19 : cL), yS = (T19, LT19, PC true b P) ∧ IMc T19 ∧ agc [7306] [77, 999] F T19 ∧ (qf (T19 77) 0 (T19 73 6).toInt 0 ((64 * (T19 105 2).toInt) - 1)), fun yx1 yx2 yx5 yx6 yx7 yS => (2 - yx7.toInt).toNat, ⟨rfl, rfl, rfl, rfl, (B_w (show B 0 0 (0 : Int32) from ⟨by decide +kernel, by decide +kernel⟩) (by decide +kernel) (by decide +kernel)), _, _, rfl, hI, (agc_refl (fs := [7306]) (rs := [77, 999]) (F := F)), (qf_le (b' := (F 73 6).toInt) (lo' := 0) (hi' := (64 * (F 105 2).toInt) - 1) pre0 (by omega) (by omega) (by omega))⟩, fun x1_14 x2_15 x5_16 x6_17 x7_18 ST19 hIv => ?_⟩
      obtain ⟨rfl, rfl, rfl, rfl, b20, T19, LT19, rfl, hI21, g22, r23⟩ := hIv
      suffices hs : ∀ (R24 : Nat → Int32 → Int32 → Int32 → Int32 → cs → Prop), (∀ zx1 zx2 zx5 zx6 zx7 zS, ((105 : Nat) = zx1 ∧ x2 = zx2 ∧ (x3 * (F 106 x2.toNatClampNeg)) = zx5 ∧ (x4 * (F 107 x2.toNatClampNeg)) = zx6 ∧ B 0 2 zx7 ∧ ∃ (T19 : cF) (LT19 : cL), zS = (T19, LT19, PC true b P) ∧ IMc T19 ∧ agc [7306] [77, 999] F T19 ∧ (qf (T19 77) 0 (T19 73 6).toInt 0 ((64 * (T19 105 2).toInt) - 1))) → (2 - zx7.toInt).toNat < (2 - x7_18.toInt).toNat → R24 zx1 zx2 zx5 zx6 zx7 zS) → b_Sc_addStretch_24 UL 73 105 x2 (x3 * (F 106 x2.toNatClampNeg)) (x4 * (F 107 x2.toNatClampNeg)) x7_18 (T19, LT19, PC true b P) R24 K from hs _ (fun _ _ _ _ _ _ h1 h2 => ⟨h1, h2⟩)
      intro R24 hR240
      have hR24 := fun {zx1} {zx2} {zx5} {zx6} {zx7} {zS} => hR240 zx1 zx2 zx5 zx6 zx7 zS
      have q24 : (0) ≤ (T19 73 6).toInt ∧ (T19 73 6).toInt ≤ (192) := (show B 0 192 (T19 73 6) from B_w (show B 0 192 (T19 73 6) from hI21 73 6) (by decide +kernel) (by decide +kernel))
      unfold b_Sc_addStretch_24
      refine ⟨(show c_cl UL 105 = 7 from cl_105), ?_⟩
      refine ⟨(show ¬ ((107 : Nat) = NU) from by decide +kernel), ?_⟩
      refine ⟨(show c_cl UL 107 = 902 from cl_107), ?_⟩
      refine ⟨(show vp_in (x2) 3 from vp_B b_x2 (by decide +kernel) (by decide +kernel)), ?_⟩
      refine ⟨fun hc => ?_, fun hc => ?_⟩
      · have r25 : 1 ≤ (F 107 x2.toNatClampNeg).toInt ∧ (F 107 x2.toNatClampNeg).toInt ≤ (F 105 6).toInt := qf_at pre5 (x := x2) (by omega) (by omega)
        have b26 : B 1 1 (F 107 x2.toNatClampNeg) := ⟨by omega, by omega⟩
        have hq27 := hc
        have b28 : B 1 2 (x7_18) := B_w (B_leR (B_eq (congrFun (g22.2 107 rfl rfl) x2.toNatClampNeg) b26) b20 hq27) (by decide +kernel) (by decide +kernel)
        have q29 : (1) ≤ (F 107 x2.toNatClampNeg).toInt ∧ (F 107 x2.toNatClampNeg).toInt ≤ (1) := (show B 1 1 (F 107 x2.toNatClampNeg) from B_w b26 (by decide +kernel) (by decide +kernel))
        have e30 : (T19 107 x2.toNatClampNeg).toInt = (F 107 x2.toNatClampNeg).toInt := (congrArg Int32.toInt (congrFun (g22.2 107 rfl rfl) x2.toNatClampNeg)).trans rfl
        have q31 : (1) ≤ (x7_18).toInt ∧ (x7_18).toInt ≤ (2) := (show B 1 2 (x7_18) from B_w b28 (by decide +kernel) (by decide +kernel))
        have i32 : (T19 107 x2.toNatClampNeg).toInt ≤ (x7_18).toInt := i_le hq27
        have g33 := agc_tr (agc_refl (fs := [7306]) (rs := [77, 999]) (F := F)) g22 (by decide +kernel) (by decide +kernel)
        have e34 : (T19 105 2).toInt = (F 105 2).toInt := (congrArg Int32.toInt (g22.1 105 2 rfl rfl)).trans rfl
        exact hK hI21 g33 (qf_le (b' := (T19 73 6).toInt) (lo' := 0) (hi' := (64 * (T19 105 2).toInt) - 1) r23 (by omega) (by omega) (by omega))
      · have r35 : 1 ≤ (F 107 x2.toNatClampNeg).toInt ∧ (F 107 x2.toNatClampNeg).toInt ≤ (F 105 6).toInt := qf_at pre5 (x := x2) (by omega) (by omega)
        have b36 : B 1 1 (F 107 x2.toNatClampNeg) := ⟨by omega, by omega⟩
        have hq37 := (nle_lt hc)
        have b38 : B 0 0 (x7_18) := B_w (B_ltL b20 (B_eq (congrFun (g22.2 107 rfl rfl) x2.toNatClampNeg) b36) hq37) (by decide +kernel) (by decide +kernel)
        have q39 : (0) ≤ (x7_18).toInt ∧ (x7_18).toInt ≤ (0) := (show B 0 0 (x7_18) from B_w b38 (by decide +kernel) (by decide +kernel))
        have q40 : (1) ≤ (F 107 x2.toNatClampNeg).toInt ∧ (F 107 x2.toNatClampNeg).toInt ≤ (1) := (show B 1 1 (F 107 x2.toNatClampNeg) from B_w b36 (by decide +kernel) (by decide +kernel))
        have e41 : (T19 107 x2.toNatClampNeg).toInt = (F 107 x2.toNatClampNeg).toInt := (congrArg Int32.toInt (congrFun (g22.2 107 rfl rfl) x2.toNatClampNeg)).trans rfl
        have i42 : (x7_18).toInt < (T19 107 x2.toNatClampNeg).toInt := i_lt hq37
        have e53 : (T19 105 2).toInt = (F 105 2).toInt := (congrArg Int32.toInt (g22.1 105 2 rfl rfl)).trans rfl
        refine ⟨fun yx1 yx2 yx5 yx6 yx7 yx8 yS => (105 : Nat) = yx1 ∧ x2 = yx2 ∧ (x3 * (F 106 x2.toNatClampNeg)) = yx5 ∧ (x4 * (F 107 x2.toNatClampNeg)) = yx6 ∧ x7_18 = yx7 ∧ B 0 2 yx8 ∧ ∃ (T49 : cF) (LT49 : cL), yS = (T49, LT49, PC true b P) ∧ IMc T49 ∧ agc [7306] [77, 999] T19 T49 ∧ (qf (T49 77) 0 (T49 73 6).toInt 0 ((64 * (T49 105 2).toInt) - 1)), fun yx1 yx2 yx5 yx6 yx7 yx8 yS => (2 - yx8.toInt).toNat, ⟨rfl, rfl, rfl, rfl, rfl, (B_w (show B 0 0 (0 : Int32) from ⟨by decide +kernel, by decide +kernel⟩) (by decide +kernel) (by decide +kernel)), _, _, rfl, hI21, (agc_refl (fs := [7306]) (rs := [77, 999]) (F := T19)), (qf_le (b' := (T19 73 6).toInt) (lo' := 0) (hi' := (64 * (T19 105 2).toInt) - 1) r23 (by omega) (by omega) (by omega))⟩, fun x1_43 x2_44 x5_45 x6_46 x7_47 x8_48 ST49 hIv => ?_⟩
        obtain ⟨rfl, rfl, rfl, rfl, rfl, b50, T49, LT49, rfl, hI51, g52, r54⟩ := hIv
        suffices hs : ∀ (R38 : Nat → Int32 → Int32 → Int32 → Int32 → Int32 → cs → Prop), (∀ zx1 zx2 zx5 zx6 zx7 zx8 zS, ((105 : Nat) = zx1 ∧ x2 = zx2 ∧ (x3 * (F 106 x2.toNatClampNeg)) = zx5 ∧ (x4 * (F 107 x2.toNatClampNeg)) = zx6 ∧ x7_18 = zx7 ∧ B 0 2 zx8 ∧ ∃ (T49 : cF) (LT49 : cL), zS = (T49, LT49, PC true b P) ∧ IMc T49 ∧ agc [7306] [77, 999] T19 T49 ∧ (qf (T49 77) 0 (T49 73 6).toInt 0 ((64 * (T49 105 2).toInt) - 1))) → (2 - zx8.toInt).toNat < (2 - x8_48.toInt).toNat → R38 zx1 zx2 zx5 zx6 zx7 zx8 zS) → b_Sc_addStretch_38 UL 73 105 x2 (x3 * (F 106 x2.toNatClampNeg)) (x4 * (F 107 x2.toNatClampNeg)) x7_18 x8_48 (T49, LT49, PC true b P) R24 R38 K from hs _ (fun _ _ _ _ _ _ _ h1 h2 => ⟨h1, h2⟩)
        intro R38 hR380
        have hR38 := fun {zx1} {zx2} {zx5} {zx6} {zx7} {zx8} {zS} => hR380 zx1 zx2 zx5 zx6 zx7 zx8 zS
        have q55 : (0) ≤ (T49 73 6).toInt ∧ (T49 73 6).toInt ≤ (192) := (show B 0 192 (T49 73 6) from B_w (show B 0 192 (T49 73 6) from hI51 73 6) (by decide +kernel) (by decide +kernel))
        unfold b_Sc_addStretch_38
        refine ⟨(show c_cl UL 105 = 7 from cl_105), ?_⟩
        refine ⟨(show ¬ ((106 : Nat) = NU) from by decide +kernel), ?_⟩
        refine ⟨(show c_cl UL 106 = 902 from cl_106), ?_⟩
        refine ⟨(show vp_in (x2) 3 from vp_B b_x2 (by decide +kernel) (by decide +kernel)), ?_⟩
        refine ⟨fun hc => ?_, fun hc => ?_⟩
        · have r56 : 1 ≤ (F 106 x2.toNatClampNeg).toInt ∧ (F 106 x2.toNatClampNeg).toInt ≤ (F 105 5).toInt := qf_at pre4 (x := x2) (by omega) (by omega)
          have b57 : B 1 1 (F 106 x2.toNatClampNeg) := ⟨by omega, by omega⟩
          have hq58 := hc
          have b59 : B 1 2 (x8_48) := B_w (B_leR (B_eq ((congrFun (g52.2 106 rfl rfl) x2.toNatClampNeg).trans (congrFun (g22.2 106 rfl rfl) x2.toNatClampNeg)) b57) b50 hq58) (by decide +kernel) (by decide +kernel)
          have q60 : (1) ≤ (F 106 x2.toNatClampNeg).toInt ∧ (F 106 x2.toNatClampNeg).toInt ≤ (1) := (show B 1 1 (F 106 x2.toNatClampNeg) from B_w b57 (by decide +kernel) (by decide +kernel))
          have e61 : (T49 106 x2.toNatClampNeg).toInt = (F 106 x2.toNatClampNeg).toInt := (congrArg Int32.toInt ((congrFun (g52.2 106 rfl rfl) x2.toNatClampNeg).trans (congrFun (g22.2 106 rfl rfl) x2.toNatClampNeg))).trans rfl
          have q62 : (1) ≤ (x8_48).toInt ∧ (x8_48).toInt ≤ (2) := (show B 1 2 (x8_48) from B_w b59 (by decide +kernel) (by decide +kernel))
          have i63 : (T49 106 x2.toNatClampNeg).toInt ≤ (x8_48).toInt := i_le hq58
          have g65 := agc_tr (agc_refl (fs := [7306]) (rs := [77, 999]) (F := F)) g22 (by decide +kernel) (by decide +kernel)
          have g64 := agc_tr g65 g52 (by decide +kernel) (by decide +kernel)
          have e66 : (T49 105 2).toInt = (F 105 2).toInt := (congrArg Int32.toInt ((g52.1 105 2 rfl rfl).trans (g22.1 105 2 rfl rfl))).trans rfl
          have e67 : (x7_18 + 1).toInt = ((x7_18).toInt + 1) := (t_add b38 (show B 1 1 (1 : Int32) from ⟨by decide +kernel, by decide +kernel⟩) (by decide +kernel) (by decide +kernel)).trans (by rw [(show (1 : Int32).toInt = 1 from by decide +kernel)])
          have q68 : (1) ≤ (x7_18 + 1).toInt ∧ (x7_18 + 1).toInt ≤ (1) := (show B 1 1 (x7_18 + 1) from B_w (B_add b38 (show B 1 1 (1 : Int32) from ⟨by decide +kernel, by decide +kernel⟩) (by decide +kernel) (by decide +kernel)) (by decide +kernel) (by decide +kernel))
          exact hR24 ⟨rfl, rfl, rfl, rfl, (B_w (B_add b38 (show B 1 1 (1 : Int32) from ⟨by decide +kernel, by decide +kernel⟩) (by decide +kernel) (by decide +kernel)) (by decide +kernel) (by decide +kernel)), _, _, rfl, hI51, g64, (qf_le (b' := (T49 73 6).toInt) (lo' := 0) (hi' := (64 * (T49 105 2).toInt) - 1) r54 (by omega) (by omega) (by omega))⟩ (by show (2 - (x7_18 + 1).toInt).toNat < (2 - x7_18.toInt).toNat; omega)
        · have r69 : 1 ≤ (F 106 x2.toNatClampNeg).toInt ∧ (F 106 x2.toNatClampNeg).toInt ≤ (F 105 5).toInt := qf_at pre4 (x := x2) (by omega) (by omega)
          have b70 : B 1 1 (F 106 x2.toNatClampNeg) := ⟨by omega, by omega⟩
          have hq71 := (nle_lt hc)
          have b72 : B 0 0 (x8_48) := B_w (B_ltL b50 (B_eq ((congrFun (g52.2 106 rfl rfl) x2.toNatClampNeg).trans (congrFun (g22.2 106 rfl rfl) x2.toNatClampNeg)) b70) hq71) (by decide +kernel) (by decide +kernel)
          have q73 : (0) ≤ (x8_48).toInt ∧ (x8_48).toInt ≤ (0) := (show B 0 0 (x8_48) from B_w b72 (by decide +kernel) (by decide +kernel))
          have q74 : (1) ≤ (F 106 x2.toNatClampNeg).toInt ∧ (F 106 x2.toNatClampNeg).toInt ≤ (1) := (show B 1 1 (F 106 x2.toNatClampNeg) from B_w b70 (by decide +kernel) (by decide +kernel))
          have e75 : (T49 106 x2.toNatClampNeg).toInt = (F 106 x2.toNatClampNeg).toInt := (congrArg Int32.toInt ((congrFun (g52.2 106 rfl rfl) x2.toNatClampNeg).trans (congrFun (g22.2 106 rfl rfl) x2.toNatClampNeg))).trans rfl
          have i76 : (x8_48).toInt < (T49 106 x2.toNatClampNeg).toInt := i_lt hq71
          refine ⟨(show ¬ ((110 : Nat) = NU) from by decide +kernel), ?_⟩
          refine ⟨(show c_cl UL 110 = 902 from cl_110), ?_⟩
          refine ⟨(show vp_in (x2) 3 from vp_B b_x2 (by decide +kernel) (by decide +kernel)), ?_⟩
          have e77 : (T49 105 2).toInt = (F 105 2).toInt := (congrArg Int32.toInt ((g52.1 105 2 rfl rfl).trans (g22.1 105 2 rfl rfl))).trans rfl
          refine h_Sc_addBlock_u73_a1 b_x2 (B_w (B_add (B_add (B_mul (B_add (B_mul b_x4 b36 (by decide +kernel) (by decide +kernel) (by decide +kernel)) b38 (by decide +kernel) (by decide +kernel)) (B_eq ((congrFun (g52.2 110 rfl rfl) x2.toNatClampNeg).trans (congrFun (g22.2 110 rfl rfl) x2.toNatClampNeg)) (show B 0 8 (F 110 x2.toNatClampNeg) from hI 110 x2.toNatClampNeg)) (by decide +kernel) (by decide +kernel) (by decide +kernel)) (B_mul b_x3 b70 (by decide +kernel) (by decide +kernel) (by decide +kernel)) (by decide +kernel) (by decide +kernel)) b72 (by decide +kernel) (by decide +kernel)) (by decide +kernel) (by decide +kernel)) hI51 (qf_le (b' := (T49 73 6).toInt) (lo' := 0) (hi' := (64 * (T49 105 2).toInt) - 1) r54 (by omega) (by omega) (by omega)) (by show x2.toInt < (T49 105 2).toInt; omega) (fun {FS69_78} {LFS69_78} hI79 g80 r81 => ?_)
          have r82 : qf (FS69_78 77) 0 (FS69_78 73 6).toInt 0 ((64 * (FS69_78 105 2).toInt) - 1) := r81
          clear r81
          have q83 : (0) ≤ (FS69_78 73 6).toInt ∧ (FS69_78 73 6).toInt ≤ (192) := (show B 0 192 (FS69_78 73 6) from B_w (show B 0 192 (FS69_78 73 6) from hI79 73 6) (by decide +kernel) (by decide +kernel))
          have g85 := agc_tr (agc_refl (fs := [7306]) (rs := [77, 999]) (F := T19)) g52 (by decide +kernel) (by decide +kernel)
          have g84 := agc_tr g85 g80 (by decide +kernel) (by decide +kernel)
          have e86 : (FS69_78 105 2).toInt = (F 105 2).toInt := (congrArg Int32.toInt (((g80.1 105 2 rfl rfl).trans (g52.1 105 2 rfl rfl)).trans (g22.1 105 2 rfl rfl))).trans rfl
          have e87 : (x8_48 + 1).toInt = ((x8_48).toInt + 1) := (t_add b72 (show B 1 1 (1 : Int32) from ⟨by decide +kernel, by decide +kernel⟩) (by decide +kernel) (by decide +kernel)).trans (by rw [(show (1 : Int32).toInt = 1 from by decide +kernel)])
          have q88 : (1) ≤ (x8_48 + 1).toInt ∧ (x8_48 + 1).toInt ≤ (1) := (show B 1 1 (x8_48 + 1) from B_w (B_add b72 (show B 1 1 (1 : Int32) from ⟨by decide +kernel, by decide +kernel⟩) (by decide +kernel) (by decide +kernel)) (by decide +kernel) (by decide +kernel))
          exact hR38 ⟨rfl, rfl, rfl, rfl, rfl, (B_w (B_add b72 (show B 1 1 (1 : Int32) from ⟨by decide +kernel, by decide +kernel⟩) (by decide +kernel) (by decide +kernel)) (by decide +kernel) (by decide +kernel)), _, _, rfl, hI79, g84, (qf_le (b' := (FS69_78 73 6).toInt) (lo' := 0) (hi' := (64 * (FS69_78 105 2).toInt) - 1) r82 (by omega) (by omega) (by omega))⟩ (by show (2 - (x8_48 + 1).toInt).toNat < (2 - x8_48.toInt).toNat; omega)
    · have b89 : B 2 2 (F 105 6) := B_eq hcs (show B 2 2 (2 : Int32) from ⟨by decide +kernel, by decide +kernel⟩)
      have q90 : (2) ≤ (F 105 6).toInt ∧ (F 105 6).toInt ≤ (2) := (show B 2 2 (F 105 6) from B_w b89 (by decide +kernel) (by decide +kernel))
      have b91 : B 0 3 (x4) := ⟨by omega, by omega⟩
      refine ⟨(show c_cl UL 105 = 7 from cl_105), ?_⟩
      refine ⟨(show ¬ ((106 : Nat) = NU) from by decide +kernel), ?_⟩
      refine ⟨(show c_cl UL 106 = 902 from cl_106), ?_⟩
      refine ⟨(show vp_in (x2) 3 from vp_B b_x2 (by decide +kernel) (by decide +kernel)), ?_⟩
      refine ⟨(show ¬ ((107 : Nat) = NU) from by decide +kernel), ?_⟩
      refine ⟨(show c_cl UL 107 = 902 from cl_107), ?_⟩
      refine ⟨(show vp_in (x2) 3 from vp_B b_x2 (by decide +kernel) (by decide +kernel)), ?_⟩
      refine ⟨fun yx1 yx2 yx5 yx6 yx7 yS => (105 : Nat) = yx1 ∧ x2 = yx2 ∧ (x3 * (F 106 x2.toNatClampNeg)) = yx5 ∧ (x4 * (F 107 x2.toNatClampNeg)) = yx6 ∧ B 0 2 yx7 ∧ ∃ (T97 : cF) (LT97 : cL), yS = (T97, LT97, PC true b P) ∧ IMc T97 ∧ agc [7306] [77, 999] F T97 ∧ (qf (T97 77) 0 (T97 73 6).toInt 0 ((64 * (T97 105 2).toInt) - 1)), fun yx1 yx2 yx5 yx6 yx7 yS => (2 - yx7.toInt).toNat, ⟨rfl, rfl, rfl, rfl, (B_w (show B 0 0 (0 : Int32) from ⟨by decide +kernel, by decide +kernel⟩) (by decide +kernel) (by decide +kernel)), _, _, rfl, hI, (agc_refl (fs := [7306]) (rs := [77, 999]) (F := F)), (qf_le (b' := (F 73 6).toInt) (lo' := 0) (hi' := (64 * (F 105 2).toInt) - 1) pre0 (by omega) (by omega) (by omega))⟩, fun x1_92 x2_93 x5_94 x6_95 x7_96 ST97 hIv => ?_⟩
      obtain ⟨rfl, rfl, rfl, rfl, b98, T97, LT97, rfl, hI99, g100, r101⟩ := hIv
      suffices hs : ∀ (R24 : Nat → Int32 → Int32 → Int32 → Int32 → cs → Prop), (∀ zx1 zx2 zx5 zx6 zx7 zS, ((105 : Nat) = zx1 ∧ x2 = zx2 ∧ (x3 * (F 106 x2.toNatClampNeg)) = zx5 ∧ (x4 * (F 107 x2.toNatClampNeg)) = zx6 ∧ B 0 2 zx7 ∧ ∃ (T97 : cF) (LT97 : cL), zS = (T97, LT97, PC true b P) ∧ IMc T97 ∧ agc [7306] [77, 999] F T97 ∧ (qf (T97 77) 0 (T97 73 6).toInt 0 ((64 * (T97 105 2).toInt) - 1))) → (2 - zx7.toInt).toNat < (2 - x7_96.toInt).toNat → R24 zx1 zx2 zx5 zx6 zx7 zS) → b_Sc_addStretch_24 UL 73 105 x2 (x3 * (F 106 x2.toNatClampNeg)) (x4 * (F 107 x2.toNatClampNeg)) x7_96 (T97, LT97, PC true b P) R24 K from hs _ (fun _ _ _ _ _ _ h1 h2 => ⟨h1, h2⟩)
      intro R24 hR240
      have hR24 := fun {zx1} {zx2} {zx5} {zx6} {zx7} {zS} => hR240 zx1 zx2 zx5 zx6 zx7 zS
      have q102 : (0) ≤ (T97 73 6).toInt ∧ (T97 73 6).toInt ≤ (192) := (show B 0 192 (T97 73 6) from B_w (show B 0 192 (T97 73 6) from hI99 73 6) (by decide +kernel) (by decide +kernel))
      unfold b_Sc_addStretch_24
      refine ⟨(show c_cl UL 105 = 7 from cl_105), ?_⟩
      refine ⟨(show ¬ ((107 : Nat) = NU) from by decide +kernel), ?_⟩
      refine ⟨(show c_cl UL 107 = 902 from cl_107), ?_⟩
      refine ⟨(show vp_in (x2) 3 from vp_B b_x2 (by decide +kernel) (by decide +kernel)), ?_⟩
      refine ⟨fun hc => ?_, fun hc => ?_⟩
      · have r103 : 1 ≤ (F 107 x2.toNatClampNeg).toInt ∧ (F 107 x2.toNatClampNeg).toInt ≤ (F 105 6).toInt := qf_at pre5 (x := x2) (by omega) (by omega)
        have hq104 := hc
        have b105 : B 1 2 (x7_96) := B_w (B_leR (B_eq (congrFun (g100.2 107 rfl rfl) x2.toNatClampNeg) (show B 1 2 (F 107 x2.toNatClampNeg) from hI 107 x2.toNatClampNeg)) b98 hq104) (by decide +kernel) (by decide +kernel)
        have q106 : (1) ≤ (F 107 x2.toNatClampNeg).toInt ∧ (F 107 x2.toNatClampNeg).toInt ≤ (2) := (show B 1 2 (F 107 x2.toNatClampNeg) from B_w (show B 1 2 (F 107 x2.toNatClampNeg) from hI 107 x2.toNatClampNeg) (by decide +kernel) (by decide +kernel))
        have e107 : (T97 107 x2.toNatClampNeg).toInt = (F 107 x2.toNatClampNeg).toInt := (congrArg Int32.toInt (congrFun (g100.2 107 rfl rfl) x2.toNatClampNeg)).trans rfl
        have q108 : (1) ≤ (x7_96).toInt ∧ (x7_96).toInt ≤ (2) := (show B 1 2 (x7_96) from B_w b105 (by decide +kernel) (by decide +kernel))
        have i109 : (T97 107 x2.toNatClampNeg).toInt ≤ (x7_96).toInt := i_le hq104
        have g110 := agc_tr (agc_refl (fs := [7306]) (rs := [77, 999]) (F := F)) g100 (by decide +kernel) (by decide +kernel)
        have e111 : (T97 105 2).toInt = (F 105 2).toInt := (congrArg Int32.toInt (g100.1 105 2 rfl rfl)).trans rfl
        exact hK hI99 g110 (qf_le (b' := (T97 73 6).toInt) (lo' := 0) (hi' := (64 * (T97 105 2).toInt) - 1) r101 (by omega) (by omega) (by omega))
      · have r112 : 1 ≤ (F 107 x2.toNatClampNeg).toInt ∧ (F 107 x2.toNatClampNeg).toInt ≤ (F 105 6).toInt := qf_at pre5 (x := x2) (by omega) (by omega)
        have hq113 := (nle_lt hc)
        have b114 : B 0 1 (x7_96) := B_w (B_ltL b98 (B_eq (congrFun (g100.2 107 rfl rfl) x2.toNatClampNeg) (show B 1 2 (F 107 x2.toNatClampNeg) from hI 107 x2.toNatClampNeg)) hq113) (by decide +kernel) (by decide +kernel)
        have q115 : (0) ≤ (x7_96).toInt ∧ (x7_96).toInt ≤ (1) := (show B 0 1 (x7_96) from B_w b114 (by decide +kernel) (by decide +kernel))
        have q116 : (1) ≤ (F 107 x2.toNatClampNeg).toInt ∧ (F 107 x2.toNatClampNeg).toInt ≤ (2) := (show B 1 2 (F 107 x2.toNatClampNeg) from B_w (show B 1 2 (F 107 x2.toNatClampNeg) from hI 107 x2.toNatClampNeg) (by decide +kernel) (by decide +kernel))
        have e117 : (T97 107 x2.toNatClampNeg).toInt = (F 107 x2.toNatClampNeg).toInt := (congrArg Int32.toInt (congrFun (g100.2 107 rfl rfl) x2.toNatClampNeg)).trans rfl
        have i118 : (x7_96).toInt < (T97 107 x2.toNatClampNeg).toInt := i_lt hq113
        have e129 : (T97 105 2).toInt = (F 105 2).toInt := (congrArg Int32.toInt (g100.1 105 2 rfl rfl)).trans rfl
        refine ⟨fun yx1 yx2 yx5 yx6 yx7 yx8 yS => (105 : Nat) = yx1 ∧ x2 = yx2 ∧ (x3 * (F 106 x2.toNatClampNeg)) = yx5 ∧ (x4 * (F 107 x2.toNatClampNeg)) = yx6 ∧ x7_96 = yx7 ∧ B 0 2 yx8 ∧ ∃ (T125 : cF) (LT125 : cL), yS = (T125, LT125, PC true b P) ∧ IMc T125 ∧ agc [7306] [77, 999] T97 T125 ∧ (qf (T125 77) 0 (T125 73 6).toInt 0 ((64 * (T125 105 2).toInt) - 1)), fun yx1 yx2 yx5 yx6 yx7 yx8 yS => (2 - yx8.toInt).toNat, ⟨rfl, rfl, rfl, rfl, rfl, (B_w (show B 0 0 (0 : Int32) from ⟨by decide +kernel, by decide +kernel⟩) (by decide +kernel) (by decide +kernel)), _, _, rfl, hI99, (agc_refl (fs := [7306]) (rs := [77, 999]) (F := T97)), (qf_le (b' := (T97 73 6).toInt) (lo' := 0) (hi' := (64 * (T97 105 2).toInt) - 1) r101 (by omega) (by omega) (by omega))⟩, fun x1_119 x2_120 x5_121 x6_122 x7_123 x8_124 ST125 hIv => ?_⟩
        obtain ⟨rfl, rfl, rfl, rfl, rfl, b126, T125, LT125, rfl, hI127, g128, r130⟩ := hIv
        suffices hs : ∀ (R38 : Nat → Int32 → Int32 → Int32 → Int32 → Int32 → cs → Prop), (∀ zx1 zx2 zx5 zx6 zx7 zx8 zS, ((105 : Nat) = zx1 ∧ x2 = zx2 ∧ (x3 * (F 106 x2.toNatClampNeg)) = zx5 ∧ (x4 * (F 107 x2.toNatClampNeg)) = zx6 ∧ x7_96 = zx7 ∧ B 0 2 zx8 ∧ ∃ (T125 : cF) (LT125 : cL), zS = (T125, LT125, PC true b P) ∧ IMc T125 ∧ agc [7306] [77, 999] T97 T125 ∧ (qf (T125 77) 0 (T125 73 6).toInt 0 ((64 * (T125 105 2).toInt) - 1))) → (2 - zx8.toInt).toNat < (2 - x8_124.toInt).toNat → R38 zx1 zx2 zx5 zx6 zx7 zx8 zS) → b_Sc_addStretch_38 UL 73 105 x2 (x3 * (F 106 x2.toNatClampNeg)) (x4 * (F 107 x2.toNatClampNeg)) x7_96 x8_124 (T125, LT125, PC true b P) R24 R38 K from hs _ (fun _ _ _ _ _ _ _ h1 h2 => ⟨h1, h2⟩)
        intro R38 hR380
        have hR38 := fun {zx1} {zx2} {zx5} {zx6} {zx7} {zx8} {zS} => hR380 zx1 zx2 zx5 zx6 zx7 zx8 zS
        have q131 : (0) ≤ (T125 73 6).toInt ∧ (T125 73 6).toInt ≤ (192) := (show B 0 192 (T125 73 6) from B_w (show B 0 192 (T125 73 6) from hI127 73 6) (by decide +kernel) (by decide +kernel))
        unfold b_Sc_addStretch_38
        refine ⟨(show c_cl UL 105 = 7 from cl_105), ?_⟩
        refine ⟨(show ¬ ((106 : Nat) = NU) from by decide +kernel), ?_⟩
        refine ⟨(show c_cl UL 106 = 902 from cl_106), ?_⟩
        refine ⟨(show vp_in (x2) 3 from vp_B b_x2 (by decide +kernel) (by decide +kernel)), ?_⟩
        refine ⟨fun hc => ?_, fun hc => ?_⟩
        · have r132 : 1 ≤ (F 106 x2.toNatClampNeg).toInt ∧ (F 106 x2.toNatClampNeg).toInt ≤ (F 105 5).toInt := qf_at pre4 (x := x2) (by omega) (by omega)
          have b133 : B 1 1 (F 106 x2.toNatClampNeg) := ⟨by omega, by omega⟩
          have hq134 := hc
          have b135 : B 1 2 (x8_124) := B_w (B_leR (B_eq ((congrFun (g128.2 106 rfl rfl) x2.toNatClampNeg).trans (congrFun (g100.2 106 rfl rfl) x2.toNatClampNeg)) b133) b126 hq134) (by decide +kernel) (by decide +kernel)
          have q136 : (1) ≤ (F 106 x2.toNatClampNeg).toInt ∧ (F 106 x2.toNatClampNeg).toInt ≤ (1) := (show B 1 1 (F 106 x2.toNatClampNeg) from B_w b133 (by decide +kernel) (by decide +kernel))
          have e137 : (T125 106 x2.toNatClampNeg).toInt = (F 106 x2.toNatClampNeg).toInt := (congrArg Int32.toInt ((congrFun (g128.2 106 rfl rfl) x2.toNatClampNeg).trans (congrFun (g100.2 106 rfl rfl) x2.toNatClampNeg))).trans rfl
          have q138 : (1) ≤ (x8_124).toInt ∧ (x8_124).toInt ≤ (2) := (show B 1 2 (x8_124) from B_w b135 (by decide +kernel) (by decide +kernel))
          have i139 : (T125 106 x2.toNatClampNeg).toInt ≤ (x8_124).toInt := i_le hq134
          have g141 := agc_tr (agc_refl (fs := [7306]) (rs := [77, 999]) (F := F)) g100 (by decide +kernel) (by decide +kernel)
          have g140 := agc_tr g141 g128 (by decide +kernel) (by decide +kernel)
          have e142 : (T125 105 2).toInt = (F 105 2).toInt := (congrArg Int32.toInt ((g128.1 105 2 rfl rfl).trans (g100.1 105 2 rfl rfl))).trans rfl
          have e143 : (x7_96 + 1).toInt = ((x7_96).toInt + 1) := (t_add b114 (show B 1 1 (1 : Int32) from ⟨by decide +kernel, by decide +kernel⟩) (by decide +kernel) (by decide +kernel)).trans (by rw [(show (1 : Int32).toInt = 1 from by decide +kernel)])
          have q144 : (1) ≤ (x7_96 + 1).toInt ∧ (x7_96 + 1).toInt ≤ (2) := (show B 1 2 (x7_96 + 1) from B_w (B_add b114 (show B 1 1 (1 : Int32) from ⟨by decide +kernel, by decide +kernel⟩) (by decide +kernel) (by decide +kernel)) (by decide +kernel) (by decide +kernel))
          exact hR24 ⟨rfl, rfl, rfl, rfl, (B_w (B_add b114 (show B 1 1 (1 : Int32) from ⟨by decide +kernel, by decide +kernel⟩) (by decide +kernel) (by decide +kernel)) (by decide +kernel) (by decide +kernel)), _, _, rfl, hI127, g140, (qf_le (b' := (T125 73 6).toInt) (lo' := 0) (hi' := (64 * (T125 105 2).toInt) - 1) r130 (by omega) (by omega) (by omega))⟩ (by show (2 - (x7_96 + 1).toInt).toNat < (2 - x7_96.toInt).toNat; omega)
        · have r145 : 1 ≤ (F 106 x2.toNatClampNeg).toInt ∧ (F 106 x2.toNatClampNeg).toInt ≤ (F 105 5).toInt := qf_at pre4 (x := x2) (by omega) (by omega)
          have b146 : B 1 1 (F 106 x2.toNatClampNeg) := ⟨by omega, by omega⟩
          have hq147 := (nle_lt hc)
          have b148 : B 0 0 (x8_124) := B_w (B_ltL b126 (B_eq ((congrFun (g128.2 106 rfl rfl) x2.toNatClampNeg).trans (congrFun (g100.2 106 rfl rfl) x2.toNatClampNeg)) b146) hq147) (by decide +kernel) (by decide +kernel)
          have q149 : (0) ≤ (x8_124).toInt ∧ (x8_124).toInt ≤ (0) := (show B 0 0 (x8_124) from B_w b148 (by decide +kernel) (by decide +kernel))
          have q150 : (1) ≤ (F 106 x2.toNatClampNeg).toInt ∧ (F 106 x2.toNatClampNeg).toInt ≤ (1) := (show B 1 1 (F 106 x2.toNatClampNeg) from B_w b146 (by decide +kernel) (by decide +kernel))
          have e151 : (T125 106 x2.toNatClampNeg).toInt = (F 106 x2.toNatClampNeg).toInt := (congrArg Int32.toInt ((congrFun (g128.2 106 rfl rfl) x2.toNatClampNeg).trans (congrFun (g100.2 106 rfl rfl) x2.toNatClampNeg))).trans rfl
          have i152 : (x8_124).toInt < (T125 106 x2.toNatClampNeg).toInt := i_lt hq147
          refine ⟨(show ¬ ((110 : Nat) = NU) from by decide +kernel), ?_⟩
          refine ⟨(show c_cl UL 110 = 902 from cl_110), ?_⟩
          refine ⟨(show vp_in (x2) 3 from vp_B b_x2 (by decide +kernel) (by decide +kernel)), ?_⟩
          have e153 : (T125 105 2).toInt = (F 105 2).toInt := (congrArg Int32.toInt ((g128.1 105 2 rfl rfl).trans (g100.1 105 2 rfl rfl))).trans rfl
          refine h_Sc_addBlock_u73_a1 b_x2 (B_w (B_add (B_add (B_mul (B_add (B_mul b91 (show B 1 2 (F 107 x2.toNatClampNeg) from hI 107 x2.toNatClampNeg) (by decide +kernel) (by decide +kernel) (by decide +kernel)) b114 (by decide +kernel) (by decide +kernel)) (B_eq ((congrFun (g128.2 110 rfl rfl) x2.toNatClampNeg).trans (congrFun (g100.2 110 rfl rfl) x2.toNatClampNeg)) (show B 0 8 (F 110 x2.toNatClampNeg) from hI 110 x2.toNatClampNeg)) (by decide +kernel) (by decide +kernel) (by decide +kernel)) (B_mul b_x3 b146 (by decide +kernel) (by decide +kernel) (by decide +kernel)) (by decide +kernel) (by decide +kernel)) b148 (by decide +kernel) (by decide +kernel)) (by decide +kernel) (by decide +kernel)) hI127 (qf_le (b' := (T125 73 6).toInt) (lo' := 0) (hi' := (64 * (T125 105 2).toInt) - 1) r130 (by omega) (by omega) (by omega)) (by show x2.toInt < (T125 105 2).toInt; omega) (fun {FS69_154} {LFS69_154} hI155 g156 r157 => ?_)
          have r158 : qf (FS69_154 77) 0 (FS69_154 73 6).toInt 0 ((64 * (FS69_154 105 2).toInt) - 1) := r157
          clear r157
          have q159 : (0) ≤ (FS69_154 73 6).toInt ∧ (FS69_154 73 6).toInt ≤ (192) := (show B 0 192 (FS69_154 73 6) from B_w (show B 0 192 (FS69_154 73 6) from hI155 73 6) (by decide +kernel) (by decide +kernel))
          have g161 := agc_tr (agc_refl (fs := [7306]) (rs := [77, 999]) (F := T97)) g128 (by decide +kernel) (by decide +kernel)
          have g160 := agc_tr g161 g156 (by decide +kernel) (by decide +kernel)
          have e162 : (FS69_154 105 2).toInt = (F 105 2).toInt := (congrArg Int32.toInt (((g156.1 105 2 rfl rfl).trans (g128.1 105 2 rfl rfl)).trans (g100.1 105 2 rfl rfl))).trans rfl
          have e163 : (x8_124 + 1).toInt = ((x8_124).toInt + 1) := (t_add b148 (show B 1 1 (1 : Int32) from ⟨by decide +kernel, by decide +kernel⟩) (by decide +kernel) (by decide +kernel)).trans (by rw [(show (1 : Int32).toInt = 1 from by decide +kernel)])
          have q164 : (1) ≤ (x8_124 + 1).toInt ∧ (x8_124 + 1).toInt ≤ (1) := (show B 1 1 (x8_124 + 1) from B_w (B_add b148 (show B 1 1 (1 : Int32) from ⟨by decide +kernel, by decide +kernel⟩) (by decide +kernel) (by decide +kernel)) (by decide +kernel) (by decide +kernel))
          exact hR38 ⟨rfl, rfl, rfl, rfl, rfl, (B_w (B_add b148 (show B 1 1 (1 : Int32) from ⟨by decide +kernel, by decide +kernel⟩) (by decide +kernel) (by decide +kernel)) (by decide +kernel) (by decide +kernel)), _, _, rfl, hI155, g160, (qf_le (b' := (FS69_154 73 6).toInt) (lo' := 0) (hi' := (64 * (FS69_154 105 2).toInt) - 1) r158 (by omega) (by omega) (by omega))⟩ (by show (2 - (x8_124 + 1).toInt).toNat < (2 - x8_124.toInt).toNat; omega)
  · have b165 : B 2 2 (F 105 5) := B_eq hcs (show B 2 2 (2 : Int32) from ⟨by decide +kernel, by decide +kernel⟩)
    have q166 : (2) ≤ (F 105 5).toInt ∧ (F 105 5).toInt ≤ (2) := (show B 2 2 (F 105 5) from B_w b165 (by decide +kernel) (by decide +kernel))
    have b167 : B 0 3 (x3) := ⟨by omega, by omega⟩
    rcases sp_12 (show B 1 2 (F 105 6) from B_w (show B 1 2 (F 105 6) from hI 105 6) (by decide +kernel) (by decide +kernel)) with hcs | hcs
    · have b168 : B 1 1 (F 105 6) := B_eq hcs (show B 1 1 (1 : Int32) from ⟨by decide +kernel, by decide +kernel⟩)
      have q169 : (1) ≤ (F 105 6).toInt ∧ (F 105 6).toInt ≤ (1) := (show B 1 1 (F 105 6) from B_w b168 (by decide +kernel) (by decide +kernel))
      refine ⟨(show c_cl UL 105 = 7 from cl_105), ?_⟩
      refine ⟨(show ¬ ((106 : Nat) = NU) from by decide +kernel), ?_⟩
      refine ⟨(show c_cl UL 106 = 902 from cl_106), ?_⟩
      refine ⟨(show vp_in (x2) 3 from vp_B b_x2 (by decide +kernel) (by decide +kernel)), ?_⟩
      refine ⟨(show ¬ ((107 : Nat) = NU) from by decide +kernel), ?_⟩
      refine ⟨(show c_cl UL 107 = 902 from cl_107), ?_⟩
      refine ⟨(show vp_in (x2) 3 from vp_B b_x2 (by decide +kernel) (by decide +kernel)), ?_⟩
      refine ⟨fun yx1 yx2 yx5 yx6 yx7 yS => (105 : Nat) = yx1 ∧ x2 = yx2 ∧ (x3 * (F 106 x2.toNatClampNeg)) = yx5 ∧ (x4 * (F 107 x2.toNatClampNeg)) = yx6 ∧ B 0 2 yx7 ∧ ∃ (T175 : cF) (LT175 : cL), yS = (T175, LT175, PC true b P) ∧ IMc T175 ∧ agc [7306] [77, 999] F T175 ∧ (qf (T175 77) 0 (T175 73 6).toInt 0 ((64 * (T175 105 2).toInt) - 1)), fun yx1 yx2 yx5 yx6 yx7 yS => (2 - yx7.toInt).toNat, ⟨rfl, rfl, rfl, rfl, (B_w (show B 0 0 (0 : Int32) from ⟨by decide +kernel, by decide +kernel⟩) (by decide +kernel) (by decide +kernel)), _, _, rfl, hI, (agc_refl (fs := [7306]) (rs := [77, 999]) (F := F)), (qf_le (b' := (F 73 6).toInt) (lo' := 0) (hi' := (64 * (F 105 2).toInt) - 1) pre0 (by omega) (by omega) (by omega))⟩, fun x1_170 x2_171 x5_172 x6_173 x7_174 ST175 hIv => ?_⟩
      obtain ⟨rfl, rfl, rfl, rfl, b176, T175, LT175, rfl, hI177, g178, r179⟩ := hIv
      suffices hs : ∀ (R24 : Nat → Int32 → Int32 → Int32 → Int32 → cs → Prop), (∀ zx1 zx2 zx5 zx6 zx7 zS, ((105 : Nat) = zx1 ∧ x2 = zx2 ∧ (x3 * (F 106 x2.toNatClampNeg)) = zx5 ∧ (x4 * (F 107 x2.toNatClampNeg)) = zx6 ∧ B 0 2 zx7 ∧ ∃ (T175 : cF) (LT175 : cL), zS = (T175, LT175, PC true b P) ∧ IMc T175 ∧ agc [7306] [77, 999] F T175 ∧ (qf (T175 77) 0 (T175 73 6).toInt 0 ((64 * (T175 105 2).toInt) - 1))) → (2 - zx7.toInt).toNat < (2 - x7_174.toInt).toNat → R24 zx1 zx2 zx5 zx6 zx7 zS) → b_Sc_addStretch_24 UL 73 105 x2 (x3 * (F 106 x2.toNatClampNeg)) (x4 * (F 107 x2.toNatClampNeg)) x7_174 (T175, LT175, PC true b P) R24 K from hs _ (fun _ _ _ _ _ _ h1 h2 => ⟨h1, h2⟩)
      intro R24 hR240
      have hR24 := fun {zx1} {zx2} {zx5} {zx6} {zx7} {zS} => hR240 zx1 zx2 zx5 zx6 zx7 zS
      have q180 : (0) ≤ (T175 73 6).toInt ∧ (T175 73 6).toInt ≤ (192) := (show B 0 192 (T175 73 6) from B_w (show B 0 192 (T175 73 6) from hI177 73 6) (by decide +kernel) (by decide +kernel))
      unfold b_Sc_addStretch_24
      refine ⟨(show c_cl UL 105 = 7 from cl_105), ?_⟩
      refine ⟨(show ¬ ((107 : Nat) = NU) from by decide +kernel), ?_⟩
      refine ⟨(show c_cl UL 107 = 902 from cl_107), ?_⟩
      refine ⟨(show vp_in (x2) 3 from vp_B b_x2 (by decide +kernel) (by decide +kernel)), ?_⟩
      refine ⟨fun hc => ?_, fun hc => ?_⟩
      · have r181 : 1 ≤ (F 107 x2.toNatClampNeg).toInt ∧ (F 107 x2.toNatClampNeg).toInt ≤ (F 105 6).toInt := qf_at pre5 (x := x2) (by omega) (by omega)
        have b182 : B 1 1 (F 107 x2.toNatClampNeg) := ⟨by omega, by omega⟩
        have hq183 := hc
        have b184 : B 1 2 (x7_174) := B_w (B_leR (B_eq (congrFun (g178.2 107 rfl rfl) x2.toNatClampNeg) b182) b176 hq183) (by decide +kernel) (by decide +kernel)
        have q185 : (1) ≤ (F 107 x2.toNatClampNeg).toInt ∧ (F 107 x2.toNatClampNeg).toInt ≤ (1) := (show B 1 1 (F 107 x2.toNatClampNeg) from B_w b182 (by decide +kernel) (by decide +kernel))
        have e186 : (T175 107 x2.toNatClampNeg).toInt = (F 107 x2.toNatClampNeg).toInt := (congrArg Int32.toInt (congrFun (g178.2 107 rfl rfl) x2.toNatClampNeg)).trans rfl
        have q187 : (1) ≤ (x7_174).toInt ∧ (x7_174).toInt ≤ (2) := (show B 1 2 (x7_174) from B_w b184 (by decide +kernel) (by decide +kernel))
        have i188 : (T175 107 x2.toNatClampNeg).toInt ≤ (x7_174).toInt := i_le hq183
        have g189 := agc_tr (agc_refl (fs := [7306]) (rs := [77, 999]) (F := F)) g178 (by decide +kernel) (by decide +kernel)
        have e190 : (T175 105 2).toInt = (F 105 2).toInt := (congrArg Int32.toInt (g178.1 105 2 rfl rfl)).trans rfl
        exact hK hI177 g189 (qf_le (b' := (T175 73 6).toInt) (lo' := 0) (hi' := (64 * (T175 105 2).toInt) - 1) r179 (by omega) (by omega) (by omega))
      · have r191 : 1 ≤ (F 107 x2.toNatClampNeg).toInt ∧ (F 107 x2.toNatClampNeg).toInt ≤ (F 105 6).toInt := qf_at pre5 (x := x2) (by omega) (by omega)
        have b192 : B 1 1 (F 107 x2.toNatClampNeg) := ⟨by omega, by omega⟩
        have hq193 := (nle_lt hc)
        have b194 : B 0 0 (x7_174) := B_w (B_ltL b176 (B_eq (congrFun (g178.2 107 rfl rfl) x2.toNatClampNeg) b192) hq193) (by decide +kernel) (by decide +kernel)
        have q195 : (0) ≤ (x7_174).toInt ∧ (x7_174).toInt ≤ (0) := (show B 0 0 (x7_174) from B_w b194 (by decide +kernel) (by decide +kernel))
        have q196 : (1) ≤ (F 107 x2.toNatClampNeg).toInt ∧ (F 107 x2.toNatClampNeg).toInt ≤ (1) := (show B 1 1 (F 107 x2.toNatClampNeg) from B_w b192 (by decide +kernel) (by decide +kernel))
        have e197 : (T175 107 x2.toNatClampNeg).toInt = (F 107 x2.toNatClampNeg).toInt := (congrArg Int32.toInt (congrFun (g178.2 107 rfl rfl) x2.toNatClampNeg)).trans rfl
        have i198 : (x7_174).toInt < (T175 107 x2.toNatClampNeg).toInt := i_lt hq193
        have e209 : (T175 105 2).toInt = (F 105 2).toInt := (congrArg Int32.toInt (g178.1 105 2 rfl rfl)).trans rfl
        refine ⟨fun yx1 yx2 yx5 yx6 yx7 yx8 yS => (105 : Nat) = yx1 ∧ x2 = yx2 ∧ (x3 * (F 106 x2.toNatClampNeg)) = yx5 ∧ (x4 * (F 107 x2.toNatClampNeg)) = yx6 ∧ x7_174 = yx7 ∧ B 0 2 yx8 ∧ ∃ (T205 : cF) (LT205 : cL), yS = (T205, LT205, PC true b P) ∧ IMc T205 ∧ agc [7306] [77, 999] T175 T205 ∧ (qf (T205 77) 0 (T205 73 6).toInt 0 ((64 * (T205 105 2).toInt) - 1)), fun yx1 yx2 yx5 yx6 yx7 yx8 yS => (2 - yx8.toInt).toNat, ⟨rfl, rfl, rfl, rfl, rfl, (B_w (show B 0 0 (0 : Int32) from ⟨by decide +kernel, by decide +kernel⟩) (by decide +kernel) (by decide +kernel)), _, _, rfl, hI177, (agc_refl (fs := [7306]) (rs := [77, 999]) (F := T175)), (qf_le (b' := (T175 73 6).toInt) (lo' := 0) (hi' := (64 * (T175 105 2).toInt) - 1) r179 (by omega) (by omega) (by omega))⟩, fun x1_199 x2_200 x5_201 x6_202 x7_203 x8_204 ST205 hIv => ?_⟩
        obtain ⟨rfl, rfl, rfl, rfl, rfl, b206, T205, LT205, rfl, hI207, g208, r210⟩ := hIv
        suffices hs : ∀ (R38 : Nat → Int32 → Int32 → Int32 → Int32 → Int32 → cs → Prop), (∀ zx1 zx2 zx5 zx6 zx7 zx8 zS, ((105 : Nat) = zx1 ∧ x2 = zx2 ∧ (x3 * (F 106 x2.toNatClampNeg)) = zx5 ∧ (x4 * (F 107 x2.toNatClampNeg)) = zx6 ∧ x7_174 = zx7 ∧ B 0 2 zx8 ∧ ∃ (T205 : cF) (LT205 : cL), zS = (T205, LT205, PC true b P) ∧ IMc T205 ∧ agc [7306] [77, 999] T175 T205 ∧ (qf (T205 77) 0 (T205 73 6).toInt 0 ((64 * (T205 105 2).toInt) - 1))) → (2 - zx8.toInt).toNat < (2 - x8_204.toInt).toNat → R38 zx1 zx2 zx5 zx6 zx7 zx8 zS) → b_Sc_addStretch_38 UL 73 105 x2 (x3 * (F 106 x2.toNatClampNeg)) (x4 * (F 107 x2.toNatClampNeg)) x7_174 x8_204 (T205, LT205, PC true b P) R24 R38 K from hs _ (fun _ _ _ _ _ _ _ h1 h2 => ⟨h1, h2⟩)
        intro R38 hR380
        have hR38 := fun {zx1} {zx2} {zx5} {zx6} {zx7} {zx8} {zS} => hR380 zx1 zx2 zx5 zx6 zx7 zx8 zS
        have q211 : (0) ≤ (T205 73 6).toInt ∧ (T205 73 6).toInt ≤ (192) := (show B 0 192 (T205 73 6) from B_w (show B 0 192 (T205 73 6) from hI207 73 6) (by decide +kernel) (by decide +kernel))
        unfold b_Sc_addStretch_38
        refine ⟨(show c_cl UL 105 = 7 from cl_105), ?_⟩
        refine ⟨(show ¬ ((106 : Nat) = NU) from by decide +kernel), ?_⟩
        refine ⟨(show c_cl UL 106 = 902 from cl_106), ?_⟩
        refine ⟨(show vp_in (x2) 3 from vp_B b_x2 (by decide +kernel) (by decide +kernel)), ?_⟩
        refine ⟨fun hc => ?_, fun hc => ?_⟩
        · have r212 : 1 ≤ (F 106 x2.toNatClampNeg).toInt ∧ (F 106 x2.toNatClampNeg).toInt ≤ (F 105 5).toInt := qf_at pre4 (x := x2) (by omega) (by omega)
          have hq213 := hc
          have b214 : B 1 2 (x8_204) := B_w (B_leR (B_eq ((congrFun (g208.2 106 rfl rfl) x2.toNatClampNeg).trans (congrFun (g178.2 106 rfl rfl) x2.toNatClampNeg)) (show B 1 2 (F 106 x2.toNatClampNeg) from hI 106 x2.toNatClampNeg)) b206 hq213) (by decide +kernel) (by decide +kernel)
          have q215 : (1) ≤ (F 106 x2.toNatClampNeg).toInt ∧ (F 106 x2.toNatClampNeg).toInt ≤ (2) := (show B 1 2 (F 106 x2.toNatClampNeg) from B_w (show B 1 2 (F 106 x2.toNatClampNeg) from hI 106 x2.toNatClampNeg) (by decide +kernel) (by decide +kernel))
          have e216 : (T205 106 x2.toNatClampNeg).toInt = (F 106 x2.toNatClampNeg).toInt := (congrArg Int32.toInt ((congrFun (g208.2 106 rfl rfl) x2.toNatClampNeg).trans (congrFun (g178.2 106 rfl rfl) x2.toNatClampNeg))).trans rfl
          have q217 : (1) ≤ (x8_204).toInt ∧ (x8_204).toInt ≤ (2) := (show B 1 2 (x8_204) from B_w b214 (by decide +kernel) (by decide +kernel))
          have i218 : (T205 106 x2.toNatClampNeg).toInt ≤ (x8_204).toInt := i_le hq213
          have g220 := agc_tr (agc_refl (fs := [7306]) (rs := [77, 999]) (F := F)) g178 (by decide +kernel) (by decide +kernel)
          have g219 := agc_tr g220 g208 (by decide +kernel) (by decide +kernel)
          have e221 : (T205 105 2).toInt = (F 105 2).toInt := (congrArg Int32.toInt ((g208.1 105 2 rfl rfl).trans (g178.1 105 2 rfl rfl))).trans rfl
          have e222 : (x7_174 + 1).toInt = ((x7_174).toInt + 1) := (t_add b194 (show B 1 1 (1 : Int32) from ⟨by decide +kernel, by decide +kernel⟩) (by decide +kernel) (by decide +kernel)).trans (by rw [(show (1 : Int32).toInt = 1 from by decide +kernel)])
          have q223 : (1) ≤ (x7_174 + 1).toInt ∧ (x7_174 + 1).toInt ≤ (1) := (show B 1 1 (x7_174 + 1) from B_w (B_add b194 (show B 1 1 (1 : Int32) from ⟨by decide +kernel, by decide +kernel⟩) (by decide +kernel) (by decide +kernel)) (by decide +kernel) (by decide +kernel))
          exact hR24 ⟨rfl, rfl, rfl, rfl, (B_w (B_add b194 (show B 1 1 (1 : Int32) from ⟨by decide +kernel, by decide +kernel⟩) (by decide +kernel) (by decide +kernel)) (by decide +kernel) (by decide +kernel)), _, _, rfl, hI207, g219, (qf_le (b' := (T205 73 6).toInt) (lo' := 0) (hi' := (64 * (T205 105 2).toInt) - 1) r210 (by omega) (by omega) (by omega))⟩ (by show (2 - (x7_174 + 1).toInt).toNat < (2 - x7_174.toInt).toNat; omega)
        · have r224 : 1 ≤ (F 106 x2.toNatClampNeg).toInt ∧ (F 106 x2.toNatClampNeg).toInt ≤ (F 105 5).toInt := qf_at pre4 (x := x2) (by omega) (by omega)
          have hq225 := (nle_lt hc)
          have b226 : B 0 1 (x8_204) := B_w (B_ltL b206 (B_eq ((congrFun (g208.2 106 rfl rfl) x2.toNatClampNeg).trans (congrFun (g178.2 106 rfl rfl) x2.toNatClampNeg)) (show B 1 2 (F 106 x2.toNatClampNeg) from hI 106 x2.toNatClampNeg)) hq225) (by decide +kernel) (by decide +kernel)
          have q227 : (0) ≤ (x8_204).toInt ∧ (x8_204).toInt ≤ (1) := (show B 0 1 (x8_204) from B_w b226 (by decide +kernel) (by decide +kernel))
          have q228 : (1) ≤ (F 106 x2.toNatClampNeg).toInt ∧ (F 106 x2.toNatClampNeg).toInt ≤ (2) := (show B 1 2 (F 106 x2.toNatClampNeg) from B_w (show B 1 2 (F 106 x2.toNatClampNeg) from hI 106 x2.toNatClampNeg) (by decide +kernel) (by decide +kernel))
          have e229 : (T205 106 x2.toNatClampNeg).toInt = (F 106 x2.toNatClampNeg).toInt := (congrArg Int32.toInt ((congrFun (g208.2 106 rfl rfl) x2.toNatClampNeg).trans (congrFun (g178.2 106 rfl rfl) x2.toNatClampNeg))).trans rfl
          have i230 : (x8_204).toInt < (T205 106 x2.toNatClampNeg).toInt := i_lt hq225
          refine ⟨(show ¬ ((110 : Nat) = NU) from by decide +kernel), ?_⟩
          refine ⟨(show c_cl UL 110 = 902 from cl_110), ?_⟩
          refine ⟨(show vp_in (x2) 3 from vp_B b_x2 (by decide +kernel) (by decide +kernel)), ?_⟩
          have e231 : (T205 105 2).toInt = (F 105 2).toInt := (congrArg Int32.toInt ((g208.1 105 2 rfl rfl).trans (g178.1 105 2 rfl rfl))).trans rfl
          refine h_Sc_addBlock_u73_a1 b_x2 (B_w (B_add (B_add (B_mul (B_add (B_mul b_x4 b192 (by decide +kernel) (by decide +kernel) (by decide +kernel)) b194 (by decide +kernel) (by decide +kernel)) (B_eq ((congrFun (g208.2 110 rfl rfl) x2.toNatClampNeg).trans (congrFun (g178.2 110 rfl rfl) x2.toNatClampNeg)) (show B 0 8 (F 110 x2.toNatClampNeg) from hI 110 x2.toNatClampNeg)) (by decide +kernel) (by decide +kernel) (by decide +kernel)) (B_mul b167 (show B 1 2 (F 106 x2.toNatClampNeg) from hI 106 x2.toNatClampNeg) (by decide +kernel) (by decide +kernel) (by decide +kernel)) (by decide +kernel) (by decide +kernel)) b226 (by decide +kernel) (by decide +kernel)) (by decide +kernel) (by decide +kernel)) hI207 (qf_le (b' := (T205 73 6).toInt) (lo' := 0) (hi' := (64 * (T205 105 2).toInt) - 1) r210 (by omega) (by omega) (by omega)) (by show x2.toInt < (T205 105 2).toInt; omega) (fun {FS69_232} {LFS69_232} hI233 g234 r235 => ?_)
          have r236 : qf (FS69_232 77) 0 (FS69_232 73 6).toInt 0 ((64 * (FS69_232 105 2).toInt) - 1) := r235
          clear r235
          have q237 : (0) ≤ (FS69_232 73 6).toInt ∧ (FS69_232 73 6).toInt ≤ (192) := (show B 0 192 (FS69_232 73 6) from B_w (show B 0 192 (FS69_232 73 6) from hI233 73 6) (by decide +kernel) (by decide +kernel))
          have g239 := agc_tr (agc_refl (fs := [7306]) (rs := [77, 999]) (F := T175)) g208 (by decide +kernel) (by decide +kernel)
          have g238 := agc_tr g239 g234 (by decide +kernel) (by decide +kernel)
          have e240 : (FS69_232 105 2).toInt = (F 105 2).toInt := (congrArg Int32.toInt (((g234.1 105 2 rfl rfl).trans (g208.1 105 2 rfl rfl)).trans (g178.1 105 2 rfl rfl))).trans rfl
          have e241 : (x8_204 + 1).toInt = ((x8_204).toInt + 1) := (t_add b226 (show B 1 1 (1 : Int32) from ⟨by decide +kernel, by decide +kernel⟩) (by decide +kernel) (by decide +kernel)).trans (by rw [(show (1 : Int32).toInt = 1 from by decide +kernel)])
          have q242 : (1) ≤ (x8_204 + 1).toInt ∧ (x8_204 + 1).toInt ≤ (2) := (show B 1 2 (x8_204 + 1) from B_w (B_add b226 (show B 1 1 (1 : Int32) from ⟨by decide +kernel, by decide +kernel⟩) (by decide +kernel) (by decide +kernel)) (by decide +kernel) (by decide +kernel))
          exact hR38 ⟨rfl, rfl, rfl, rfl, rfl, (B_w (B_add b226 (show B 1 1 (1 : Int32) from ⟨by decide +kernel, by decide +kernel⟩) (by decide +kernel) (by decide +kernel)) (by decide +kernel) (by decide +kernel)), _, _, rfl, hI233, g238, (qf_le (b' := (FS69_232 73 6).toInt) (lo' := 0) (hi' := (64 * (FS69_232 105 2).toInt) - 1) r236 (by omega) (by omega) (by omega))⟩ (by show (2 - (x8_204 + 1).toInt).toNat < (2 - x8_204.toInt).toNat; omega)
    · have b243 : B 2 2 (F 105 6) := B_eq hcs (show B 2 2 (2 : Int32) from ⟨by decide +kernel, by decide +kernel⟩)
      have q244 : (2) ≤ (F 105 6).toInt ∧ (F 105 6).toInt ≤ (2) := (show B 2 2 (F 105 6) from B_w b243 (by decide +kernel) (by decide +kernel))
      have b245 : B 0 3 (x4) := ⟨by omega, by omega⟩
      refine ⟨(show c_cl UL 105 = 7 from cl_105), ?_⟩
      refine ⟨(show ¬ ((106 : Nat) = NU) from by decide +kernel), ?_⟩
      refine ⟨(show c_cl UL 106 = 902 from cl_106), ?_⟩
      refine ⟨(show vp_in (x2) 3 from vp_B b_x2 (by decide +kernel) (by decide +kernel)), ?_⟩
      refine ⟨(show ¬ ((107 : Nat) = NU) from by decide +kernel), ?_⟩
      refine ⟨(show c_cl UL 107 = 902 from cl_107), ?_⟩
      refine ⟨(show vp_in (x2) 3 from vp_B b_x2 (by decide +kernel) (by decide +kernel)), ?_⟩
      refine ⟨fun yx1 yx2 yx5 yx6 yx7 yS => (105 : Nat) = yx1 ∧ x2 = yx2 ∧ (x3 * (F 106 x2.toNatClampNeg)) = yx5 ∧ (x4 * (F 107 x2.toNatClampNeg)) = yx6 ∧ B 0 2 yx7 ∧ ∃ (T251 : cF) (LT251 : cL), yS = (T251, LT251, PC true b P) ∧ IMc T251 ∧ agc [7306] [77, 999] F T251 ∧ (qf (T251 77) 0 (T251 73 6).toInt 0 ((64 * (T251 105 2).toInt) - 1)), fun yx1 yx2 yx5 yx6 yx7 yS => (2 - yx7.toInt).toNat, ⟨rfl, rfl, rfl, rfl, (B_w (show B 0 0 (0 : Int32) from ⟨by decide +kernel, by decide +kernel⟩) (by decide +kernel) (by decide +kernel)), _, _, rfl, hI, (agc_refl (fs := [7306]) (rs := [77, 999]) (F := F)), (qf_le (b' := (F 73 6).toInt) (lo' := 0) (hi' := (64 * (F 105 2).toInt) - 1) pre0 (by omega) (by omega) (by omega))⟩, fun x1_246 x2_247 x5_248 x6_249 x7_250 ST251 hIv => ?_⟩
      obtain ⟨rfl, rfl, rfl, rfl, b252, T251, LT251, rfl, hI253, g254, r255⟩ := hIv
      suffices hs : ∀ (R24 : Nat → Int32 → Int32 → Int32 → Int32 → cs → Prop), (∀ zx1 zx2 zx5 zx6 zx7 zS, ((105 : Nat) = zx1 ∧ x2 = zx2 ∧ (x3 * (F 106 x2.toNatClampNeg)) = zx5 ∧ (x4 * (F 107 x2.toNatClampNeg)) = zx6 ∧ B 0 2 zx7 ∧ ∃ (T251 : cF) (LT251 : cL), zS = (T251, LT251, PC true b P) ∧ IMc T251 ∧ agc [7306] [77, 999] F T251 ∧ (qf (T251 77) 0 (T251 73 6).toInt 0 ((64 * (T251 105 2).toInt) - 1))) → (2 - zx7.toInt).toNat < (2 - x7_250.toInt).toNat → R24 zx1 zx2 zx5 zx6 zx7 zS) → b_Sc_addStretch_24 UL 73 105 x2 (x3 * (F 106 x2.toNatClampNeg)) (x4 * (F 107 x2.toNatClampNeg)) x7_250 (T251, LT251, PC true b P) R24 K from hs _ (fun _ _ _ _ _ _ h1 h2 => ⟨h1, h2⟩)
      intro R24 hR240
      have hR24 := fun {zx1} {zx2} {zx5} {zx6} {zx7} {zS} => hR240 zx1 zx2 zx5 zx6 zx7 zS
      have q256 : (0) ≤ (T251 73 6).toInt ∧ (T251 73 6).toInt ≤ (192) := (show B 0 192 (T251 73 6) from B_w (show B 0 192 (T251 73 6) from hI253 73 6) (by decide +kernel) (by decide +kernel))
      unfold b_Sc_addStretch_24
      refine ⟨(show c_cl UL 105 = 7 from cl_105), ?_⟩
      refine ⟨(show ¬ ((107 : Nat) = NU) from by decide +kernel), ?_⟩
      refine ⟨(show c_cl UL 107 = 902 from cl_107), ?_⟩
      refine ⟨(show vp_in (x2) 3 from vp_B b_x2 (by decide +kernel) (by decide +kernel)), ?_⟩
      refine ⟨fun hc => ?_, fun hc => ?_⟩
      · have r257 : 1 ≤ (F 107 x2.toNatClampNeg).toInt ∧ (F 107 x2.toNatClampNeg).toInt ≤ (F 105 6).toInt := qf_at pre5 (x := x2) (by omega) (by omega)
        have hq258 := hc
        have b259 : B 1 2 (x7_250) := B_w (B_leR (B_eq (congrFun (g254.2 107 rfl rfl) x2.toNatClampNeg) (show B 1 2 (F 107 x2.toNatClampNeg) from hI 107 x2.toNatClampNeg)) b252 hq258) (by decide +kernel) (by decide +kernel)
        have q260 : (1) ≤ (F 107 x2.toNatClampNeg).toInt ∧ (F 107 x2.toNatClampNeg).toInt ≤ (2) := (show B 1 2 (F 107 x2.toNatClampNeg) from B_w (show B 1 2 (F 107 x2.toNatClampNeg) from hI 107 x2.toNatClampNeg) (by decide +kernel) (by decide +kernel))
        have e261 : (T251 107 x2.toNatClampNeg).toInt = (F 107 x2.toNatClampNeg).toInt := (congrArg Int32.toInt (congrFun (g254.2 107 rfl rfl) x2.toNatClampNeg)).trans rfl
        have q262 : (1) ≤ (x7_250).toInt ∧ (x7_250).toInt ≤ (2) := (show B 1 2 (x7_250) from B_w b259 (by decide +kernel) (by decide +kernel))
        have i263 : (T251 107 x2.toNatClampNeg).toInt ≤ (x7_250).toInt := i_le hq258
        have g264 := agc_tr (agc_refl (fs := [7306]) (rs := [77, 999]) (F := F)) g254 (by decide +kernel) (by decide +kernel)
        have e265 : (T251 105 2).toInt = (F 105 2).toInt := (congrArg Int32.toInt (g254.1 105 2 rfl rfl)).trans rfl
        exact hK hI253 g264 (qf_le (b' := (T251 73 6).toInt) (lo' := 0) (hi' := (64 * (T251 105 2).toInt) - 1) r255 (by omega) (by omega) (by omega))
      · have r266 : 1 ≤ (F 107 x2.toNatClampNeg).toInt ∧ (F 107 x2.toNatClampNeg).toInt ≤ (F 105 6).toInt := qf_at pre5 (x := x2) (by omega) (by omega)
        have hq267 := (nle_lt hc)
        have b268 : B 0 1 (x7_250) := B_w (B_ltL b252 (B_eq (congrFun (g254.2 107 rfl rfl) x2.toNatClampNeg) (show B 1 2 (F 107 x2.toNatClampNeg) from hI 107 x2.toNatClampNeg)) hq267) (by decide +kernel) (by decide +kernel)
        have q269 : (0) ≤ (x7_250).toInt ∧ (x7_250).toInt ≤ (1) := (show B 0 1 (x7_250) from B_w b268 (by decide +kernel) (by decide +kernel))
        have q270 : (1) ≤ (F 107 x2.toNatClampNeg).toInt ∧ (F 107 x2.toNatClampNeg).toInt ≤ (2) := (show B 1 2 (F 107 x2.toNatClampNeg) from B_w (show B 1 2 (F 107 x2.toNatClampNeg) from hI 107 x2.toNatClampNeg) (by decide +kernel) (by decide +kernel))
        have e271 : (T251 107 x2.toNatClampNeg).toInt = (F 107 x2.toNatClampNeg).toInt := (congrArg Int32.toInt (congrFun (g254.2 107 rfl rfl) x2.toNatClampNeg)).trans rfl
        have i272 : (x7_250).toInt < (T251 107 x2.toNatClampNeg).toInt := i_lt hq267
        have e283 : (T251 105 2).toInt = (F 105 2).toInt := (congrArg Int32.toInt (g254.1 105 2 rfl rfl)).trans rfl
        refine ⟨fun yx1 yx2 yx5 yx6 yx7 yx8 yS => (105 : Nat) = yx1 ∧ x2 = yx2 ∧ (x3 * (F 106 x2.toNatClampNeg)) = yx5 ∧ (x4 * (F 107 x2.toNatClampNeg)) = yx6 ∧ x7_250 = yx7 ∧ B 0 2 yx8 ∧ ∃ (T279 : cF) (LT279 : cL), yS = (T279, LT279, PC true b P) ∧ IMc T279 ∧ agc [7306] [77, 999] T251 T279 ∧ (qf (T279 77) 0 (T279 73 6).toInt 0 ((64 * (T279 105 2).toInt) - 1)), fun yx1 yx2 yx5 yx6 yx7 yx8 yS => (2 - yx8.toInt).toNat, ⟨rfl, rfl, rfl, rfl, rfl, (B_w (show B 0 0 (0 : Int32) from ⟨by decide +kernel, by decide +kernel⟩) (by decide +kernel) (by decide +kernel)), _, _, rfl, hI253, (agc_refl (fs := [7306]) (rs := [77, 999]) (F := T251)), (qf_le (b' := (T251 73 6).toInt) (lo' := 0) (hi' := (64 * (T251 105 2).toInt) - 1) r255 (by omega) (by omega) (by omega))⟩, fun x1_273 x2_274 x5_275 x6_276 x7_277 x8_278 ST279 hIv => ?_⟩
        obtain ⟨rfl, rfl, rfl, rfl, rfl, b280, T279, LT279, rfl, hI281, g282, r284⟩ := hIv
        suffices hs : ∀ (R38 : Nat → Int32 → Int32 → Int32 → Int32 → Int32 → cs → Prop), (∀ zx1 zx2 zx5 zx6 zx7 zx8 zS, ((105 : Nat) = zx1 ∧ x2 = zx2 ∧ (x3 * (F 106 x2.toNatClampNeg)) = zx5 ∧ (x4 * (F 107 x2.toNatClampNeg)) = zx6 ∧ x7_250 = zx7 ∧ B 0 2 zx8 ∧ ∃ (T279 : cF) (LT279 : cL), zS = (T279, LT279, PC true b P) ∧ IMc T279 ∧ agc [7306] [77, 999] T251 T279 ∧ (qf (T279 77) 0 (T279 73 6).toInt 0 ((64 * (T279 105 2).toInt) - 1))) → (2 - zx8.toInt).toNat < (2 - x8_278.toInt).toNat → R38 zx1 zx2 zx5 zx6 zx7 zx8 zS) → b_Sc_addStretch_38 UL 73 105 x2 (x3 * (F 106 x2.toNatClampNeg)) (x4 * (F 107 x2.toNatClampNeg)) x7_250 x8_278 (T279, LT279, PC true b P) R24 R38 K from hs _ (fun _ _ _ _ _ _ _ h1 h2 => ⟨h1, h2⟩)
        intro R38 hR380
        have hR38 := fun {zx1} {zx2} {zx5} {zx6} {zx7} {zx8} {zS} => hR380 zx1 zx2 zx5 zx6 zx7 zx8 zS
        have q285 : (0) ≤ (T279 73 6).toInt ∧ (T279 73 6).toInt ≤ (192) := (show B 0 192 (T279 73 6) from B_w (show B 0 192 (T279 73 6) from hI281 73 6) (by decide +kernel) (by decide +kernel))
        unfold b_Sc_addStretch_38
        refine ⟨(show c_cl UL 105 = 7 from cl_105), ?_⟩
        refine ⟨(show ¬ ((106 : Nat) = NU) from by decide +kernel), ?_⟩
        refine ⟨(show c_cl UL 106 = 902 from cl_106), ?_⟩
        refine ⟨(show vp_in (x2) 3 from vp_B b_x2 (by decide +kernel) (by decide +kernel)), ?_⟩
        refine ⟨fun hc => ?_, fun hc => ?_⟩
        · have r286 : 1 ≤ (F 106 x2.toNatClampNeg).toInt ∧ (F 106 x2.toNatClampNeg).toInt ≤ (F 105 5).toInt := qf_at pre4 (x := x2) (by omega) (by omega)
          have hq287 := hc
          have b288 : B 1 2 (x8_278) := B_w (B_leR (B_eq ((congrFun (g282.2 106 rfl rfl) x2.toNatClampNeg).trans (congrFun (g254.2 106 rfl rfl) x2.toNatClampNeg)) (show B 1 2 (F 106 x2.toNatClampNeg) from hI 106 x2.toNatClampNeg)) b280 hq287) (by decide +kernel) (by decide +kernel)
          have q289 : (1) ≤ (F 106 x2.toNatClampNeg).toInt ∧ (F 106 x2.toNatClampNeg).toInt ≤ (2) := (show B 1 2 (F 106 x2.toNatClampNeg) from B_w (show B 1 2 (F 106 x2.toNatClampNeg) from hI 106 x2.toNatClampNeg) (by decide +kernel) (by decide +kernel))
          have e290 : (T279 106 x2.toNatClampNeg).toInt = (F 106 x2.toNatClampNeg).toInt := (congrArg Int32.toInt ((congrFun (g282.2 106 rfl rfl) x2.toNatClampNeg).trans (congrFun (g254.2 106 rfl rfl) x2.toNatClampNeg))).trans rfl
          have q291 : (1) ≤ (x8_278).toInt ∧ (x8_278).toInt ≤ (2) := (show B 1 2 (x8_278) from B_w b288 (by decide +kernel) (by decide +kernel))
          have i292 : (T279 106 x2.toNatClampNeg).toInt ≤ (x8_278).toInt := i_le hq287
          have g294 := agc_tr (agc_refl (fs := [7306]) (rs := [77, 999]) (F := F)) g254 (by decide +kernel) (by decide +kernel)
          have g293 := agc_tr g294 g282 (by decide +kernel) (by decide +kernel)
          have e295 : (T279 105 2).toInt = (F 105 2).toInt := (congrArg Int32.toInt ((g282.1 105 2 rfl rfl).trans (g254.1 105 2 rfl rfl))).trans rfl
          have e296 : (x7_250 + 1).toInt = ((x7_250).toInt + 1) := (t_add b268 (show B 1 1 (1 : Int32) from ⟨by decide +kernel, by decide +kernel⟩) (by decide +kernel) (by decide +kernel)).trans (by rw [(show (1 : Int32).toInt = 1 from by decide +kernel)])
          have q297 : (1) ≤ (x7_250 + 1).toInt ∧ (x7_250 + 1).toInt ≤ (2) := (show B 1 2 (x7_250 + 1) from B_w (B_add b268 (show B 1 1 (1 : Int32) from ⟨by decide +kernel, by decide +kernel⟩) (by decide +kernel) (by decide +kernel)) (by decide +kernel) (by decide +kernel))
          exact hR24 ⟨rfl, rfl, rfl, rfl, (B_w (B_add b268 (show B 1 1 (1 : Int32) from ⟨by decide +kernel, by decide +kernel⟩) (by decide +kernel) (by decide +kernel)) (by decide +kernel) (by decide +kernel)), _, _, rfl, hI281, g293, (qf_le (b' := (T279 73 6).toInt) (lo' := 0) (hi' := (64 * (T279 105 2).toInt) - 1) r284 (by omega) (by omega) (by omega))⟩ (by show (2 - (x7_250 + 1).toInt).toNat < (2 - x7_250.toInt).toNat; omega)
        · have r298 : 1 ≤ (F 106 x2.toNatClampNeg).toInt ∧ (F 106 x2.toNatClampNeg).toInt ≤ (F 105 5).toInt := qf_at pre4 (x := x2) (by omega) (by omega)
          have hq299 := (nle_lt hc)
          have b300 : B 0 1 (x8_278) := B_w (B_ltL b280 (B_eq ((congrFun (g282.2 106 rfl rfl) x2.toNatClampNeg).trans (congrFun (g254.2 106 rfl rfl) x2.toNatClampNeg)) (show B 1 2 (F 106 x2.toNatClampNeg) from hI 106 x2.toNatClampNeg)) hq299) (by decide +kernel) (by decide +kernel)
          have q301 : (0) ≤ (x8_278).toInt ∧ (x8_278).toInt ≤ (1) := (show B 0 1 (x8_278) from B_w b300 (by decide +kernel) (by decide +kernel))
          have q302 : (1) ≤ (F 106 x2.toNatClampNeg).toInt ∧ (F 106 x2.toNatClampNeg).toInt ≤ (2) := (show B 1 2 (F 106 x2.toNatClampNeg) from B_w (show B 1 2 (F 106 x2.toNatClampNeg) from hI 106 x2.toNatClampNeg) (by decide +kernel) (by decide +kernel))
          have e303 : (T279 106 x2.toNatClampNeg).toInt = (F 106 x2.toNatClampNeg).toInt := (congrArg Int32.toInt ((congrFun (g282.2 106 rfl rfl) x2.toNatClampNeg).trans (congrFun (g254.2 106 rfl rfl) x2.toNatClampNeg))).trans rfl
          have i304 : (x8_278).toInt < (T279 106 x2.toNatClampNeg).toInt := i_lt hq299
          refine ⟨(show ¬ ((110 : Nat) = NU) from by decide +kernel), ?_⟩
          refine ⟨(show c_cl UL 110 = 902 from cl_110), ?_⟩
          refine ⟨(show vp_in (x2) 3 from vp_B b_x2 (by decide +kernel) (by decide +kernel)), ?_⟩
          have e305 : (T279 105 2).toInt = (F 105 2).toInt := (congrArg Int32.toInt ((g282.1 105 2 rfl rfl).trans (g254.1 105 2 rfl rfl))).trans rfl
          refine h_Sc_addBlock_u73_a1 b_x2 (B_w (B_add (B_add (B_mul (B_add (B_mul b245 (show B 1 2 (F 107 x2.toNatClampNeg) from hI 107 x2.toNatClampNeg) (by decide +kernel) (by decide +kernel) (by decide +kernel)) b268 (by decide +kernel) (by decide +kernel)) (B_eq ((congrFun (g282.2 110 rfl rfl) x2.toNatClampNeg).trans (congrFun (g254.2 110 rfl rfl) x2.toNatClampNeg)) (show B 0 8 (F 110 x2.toNatClampNeg) from hI 110 x2.toNatClampNeg)) (by decide +kernel) (by decide +kernel) (by decide +kernel)) (B_mul b167 (show B 1 2 (F 106 x2.toNatClampNeg) from hI 106 x2.toNatClampNeg) (by decide +kernel) (by decide +kernel) (by decide +kernel)) (by decide +kernel) (by decide +kernel)) b300 (by decide +kernel) (by decide +kernel)) (by decide +kernel) (by decide +kernel)) hI281 (qf_le (b' := (T279 73 6).toInt) (lo' := 0) (hi' := (64 * (T279 105 2).toInt) - 1) r284 (by omega) (by omega) (by omega)) (by show x2.toInt < (T279 105 2).toInt; omega) (fun {FS69_306} {LFS69_306} hI307 g308 r309 => ?_)
          have r310 : qf (FS69_306 77) 0 (FS69_306 73 6).toInt 0 ((64 * (FS69_306 105 2).toInt) - 1) := r309
          clear r309
          have q311 : (0) ≤ (FS69_306 73 6).toInt ∧ (FS69_306 73 6).toInt ≤ (192) := (show B 0 192 (FS69_306 73 6) from B_w (show B 0 192 (FS69_306 73 6) from hI307 73 6) (by decide +kernel) (by decide +kernel))
          have g313 := agc_tr (agc_refl (fs := [7306]) (rs := [77, 999]) (F := T251)) g282 (by decide +kernel) (by decide +kernel)
          have g312 := agc_tr g313 g308 (by decide +kernel) (by decide +kernel)
          have e314 : (FS69_306 105 2).toInt = (F 105 2).toInt := (congrArg Int32.toInt (((g308.1 105 2 rfl rfl).trans (g282.1 105 2 rfl rfl)).trans (g254.1 105 2 rfl rfl))).trans rfl
          have e315 : (x8_278 + 1).toInt = ((x8_278).toInt + 1) := (t_add b300 (show B 1 1 (1 : Int32) from ⟨by decide +kernel, by decide +kernel⟩) (by decide +kernel) (by decide +kernel)).trans (by rw [(show (1 : Int32).toInt = 1 from by decide +kernel)])
          have q316 : (1) ≤ (x8_278 + 1).toInt ∧ (x8_278 + 1).toInt ≤ (2) := (show B 1 2 (x8_278 + 1) from B_w (B_add b300 (show B 1 1 (1 : Int32) from ⟨by decide +kernel, by decide +kernel⟩) (by decide +kernel) (by decide +kernel)) (by decide +kernel) (by decide +kernel))
          exact hR38 ⟨rfl, rfl, rfl, rfl, rfl, (B_w (B_add b300 (show B 1 1 (1 : Int32) from ⟨by decide +kernel, by decide +kernel⟩) (by decide +kernel) (by decide +kernel)) (by decide +kernel) (by decide +kernel)), _, _, rfl, hI307, g312, (qf_le (b' := (FS69_306 73 6).toInt) (lo' := 0) (hi' := (64 * (FS69_306 105 2).toInt) - 1) r310 (by omega) (by omega) (by omega))⟩ (by show (2 - (x8_278 + 1).toInt).toNat < (2 - x8_278.toInt).toNat; omega)
set_option maxRecDepth 20000 in
set_option maxHeartbeats 4000000 in
theorem h_Sc_arrangeTogether_u73_x1105_a1 {b : Bool} {P : Nat → Nat → Nat} {F : cF} {L : cL} {K : cs → Prop} (hI : IMc F) (pre0 : qf (F 77) 0 (F 73 6).toInt 0 ((64 * (F 105 2).toInt) - 1)) (pre1 : qf (F 74) 0 (F 73 0).toInt 0 ((F 105 2).toInt - 1)) (pre2 : qf (F 106) 0 (F 105 2).toInt 1 (F 105 5).toInt) (pre3 : qf (F 107) 0 (F 105 2).toInt 1 (F 105 6).toInt) (pre4 : ((F 105 5).toInt = 1) ∨ ((F 105 7).toInt ≤ 4)) (pre5 : ((F 105 6).toInt = 1) ∨ ((F 105 8).toInt ≤ 4)) (hK : ∀ {Z : cF} {LZ : cL}, IMc Z → agc [7306] [77, 999] F Z → (qf (Z 77) 0 (Z 73 6).toInt 0 ((64 * (Z 105 2).toInt) - 1)) → K (Z, LZ, PC true b P)) : p_Sc_arrangeTogether UL 73 105 (F, L, PC true b P) K := by
  have q1 : (0) ≤ (F 73 6).toInt ∧ (F 73 6).toInt ≤ (192) := (show B 0 192 (F 73 6) from B_w (show B 0 192 (F 73 6) from hI 73 6) (by decide +kernel) (by decide +kernel))
  have q2 : (0) ≤ (F 73 0).toInt ∧ (F 73 0).toInt ≤ (3) := (show B 0 3 (F 73 0) from B_w (show B 0 3 (F 73 0) from hI 73 0) (by decide +kernel) (by decide +kernel))
  have q3 : (1) ≤ (F 105 2).toInt ∧ (F 105 2).toInt ≤ (3) := (show B 1 3 (F 105 2) from B_w (show B 1 3 (F 105 2) from hI 105 2) (by decide +kernel) (by decide +kernel))
  have q4 : (1) ≤ (F 105 5).toInt ∧ (F 105 5).toInt ≤ (2) := (show B 1 2 (F 105 5) from B_w (show B 1 2 (F 105 5) from hI 105 5) (by decide +kernel) (by decide +kernel))
  have q5 : (1) ≤ (F 105 7).toInt ∧ (F 105 7).toInt ≤ (8) := (show B 1 8 (F 105 7) from B_w (show B 1 8 (F 105 7) from hI 105 7) (by decide +kernel) (by decide +kernel))
  have q6 : (1) ≤ (F 105 6).toInt ∧ (F 105 6).toInt ≤ (2) := (show B 1 2 (F 105 6) from B_w (show B 1 2 (F 105 6) from hI 105 6) (by decide +kernel) (by decide +kernel))
  have q7 : (1) ≤ (F 105 8).toInt ∧ (F 105 8).toInt ≤ (8) := (show B 1 8 (F 105 8) from B_w (show B 1 8 (F 105 8) from hI 105 8) (by decide +kernel) (by decide +kernel))
  unfold p_Sc_arrangeTogether
  refine ⟨fun yx1 yx2 yS => (105 : Nat) = yx1 ∧ B 0 8 yx2 ∧ ∃ (T10 : cF) (LT10 : cL), yS = (T10, LT10, PC true b P) ∧ IMc T10 ∧ agc [7306] [77, 999] F T10 ∧ (qf (T10 77) 0 (T10 73 6).toInt 0 ((64 * (T10 105 2).toInt) - 1)), fun yx1 yx2 yS => (8 - yx2.toInt).toNat, ⟨rfl, (B_w (show B 0 0 (0 : Int32) from ⟨by decide +kernel, by decide +kernel⟩) (by decide +kernel) (by decide +kernel)), _, _, rfl, hI, (agc_refl (fs := [7306]) (rs := [77, 999]) (F := F)), (qf_le (b' := (F 73 6).toInt) (lo' := 0) (hi' := (64 * (F 105 2).toInt) - 1) pre0 (by omega) (by omega) (by omega))⟩, fun x1_8 x2_9 ST10 hIv => ?_⟩
  obtain ⟨rfl, b11, T10, LT10, rfl, hI12, g13, r14⟩ := hIv
  suffices hs : ∀ (R2 : Nat → Int32 → cs → Prop), (∀ zx1 zx2 zS, ((105 : Nat) = zx1 ∧ B 0 8 zx2 ∧ ∃ (T10 : cF) (LT10 : cL), zS = (T10, LT10, PC true b P) ∧ IMc T10 ∧ agc [7306] [77, 999] F T10 ∧ (qf (T10 77) 0 (T10 73 6).toInt 0 ((64 * (T10 105 2).toInt) - 1))) → (8 - zx2.toInt).toNat < (8 - x2_9.toInt).toNat → R2 zx1 zx2 zS) → b_Sc_arrangeTogether_2 UL 73 105 x2_9 (T10, LT10, PC true b P) R2 K from hs _ (fun _ _ _ h1 h2 => ⟨h1, h2⟩)
  intro R2 hR20
  have hR2 := fun {zx1} {zx2} {zS} => hR20 zx1 zx2 zS
  have q15 : (0) ≤ (T10 73 6).toInt ∧ (T10 73 6).toInt ≤ (192) := (show B 0 192 (T10 73 6) from B_w (show B 0 192 (T10 73 6) from hI12 73 6) (by decide +kernel) (by decide +kernel))
  unfold b_Sc_arrangeTogether_2
  refine ⟨(show c_cl UL 105 = 7 from cl_105), ?_⟩
  refine ⟨fun hc => ?_, fun hc => ?_⟩
  · have hq16 := hc
    have b17 : B 1 8 (x2_9) := B_w (B_leR (B_eq (g13.1 105 8 rfl rfl) (show B 1 8 (F 105 8) from hI 105 8)) b11 hq16) (by decide +kernel) (by decide +kernel)
    have e18 : (T10 105 8).toInt = (F 105 8).toInt := (congrArg Int32.toInt (g13.1 105 8 rfl rfl)).trans rfl
    have q19 : (1) ≤ (x2_9).toInt ∧ (x2_9).toInt ≤ (8) := (show B 1 8 (x2_9) from B_w b17 (by decide +kernel) (by decide +kernel))
    have i20 : (T10 105 8).toInt ≤ (x2_9).toInt := i_le hq16
    have g21 := agc_tr (agc_refl (fs := [7306]) (rs := [77, 999]) (F := F)) g13 (by decide +kernel) (by decide +kernel)
    have e22 : (T10 105 2).toInt = (F 105 2).toInt := (congrArg Int32.toInt (g13.1 105 2 rfl rfl)).trans rfl
    exact hK hI12 g21 (qf_le (b' := (T10 73 6).toInt) (lo' := 0) (hi' := (64 * (T10 105 2).toInt) - 1) r14 (by omega) (by omega) (by omega))
  · have hq23 := (nle_lt hc)
    have b24 : B 0 7 (x2_9) := B_w (B_ltL b11 (B_eq (g13.1 105 8 rfl rfl) (show B 1 8 (F 105 8) from hI 105 8)) hq23) (by decide +kernel) (by decide +kernel)
    have q25 : (0) ≤ (x2_9).toInt ∧ (x2_9).toInt ≤ (7) := (show B 0 7 (x2_9) from B_w b24 (by decide +kernel) (by decide +kernel))
    have e26 : (T10 105 8).toInt = (F 105 8).toInt := (congrArg Int32.toInt (g13.1 105 8 rfl rfl)).trans rfl
    have i27 : (x2_9).toInt < (T10 105 8).toInt := i_lt hq23
    have e35 : (T10 105 2).toInt = (F 105 2).toInt := (congrArg Int32.toInt (g13.1 105 2 rfl rfl)).trans rfl
    refine ⟨fun yx1 yx2 yx3 yS => (105 : Nat) = yx1 ∧ x2_9 = yx2 ∧ B 0 8 yx3 ∧ ∃ (T31 : cF) (LT31 : cL), yS = (T31, LT31, PC true b P) ∧ IMc T31 ∧ agc [7306] [77, 999] T10 T31 ∧ (qf (T31 77) 0 (T31 73 6).toInt 0 ((64 * (T31 105 2).toInt) - 1)), fun yx1 yx2 yx3 yS => (8 - yx3.toInt).toNat, ⟨rfl, rfl, (B_w (show B 0 0 (0 : Int32) from ⟨by decide +kernel, by decide +kernel⟩) (by decide +kernel) (by decide +kernel)), _, _, rfl, hI12, (agc_refl (fs := [7306]) (rs := [77, 999]) (F := T10)), (qf_le (b' := (T10 73 6).toInt) (lo' := 0) (hi' := (64 * (T10 105 2).toInt) - 1) r14 (by omega) (by omega) (by omega))⟩, fun x1_28 x2_29 x3_30 ST31 hIv => ?_⟩
    obtain ⟨rfl, rfl, b32, T31, LT31, rfl, hI33, g34, r36⟩ := hIv
    suffices hs : ∀ (R12 : Nat → Int32 → Int32 → cs → Prop), (∀ zx1 zx2 zx3 zS, ((105 : Nat) = zx1 ∧ x2_9 = zx2 ∧ B 0 8 zx3 ∧ ∃ (T31 : cF) (LT31 : cL), zS = (T31, LT31, PC true b P) ∧ IMc T31 ∧ agc [7306] [77, 999] T10 T31 ∧ (qf (T31 77) 0 (T31 73 6).toInt 0 ((64 * (T31 105 2).toInt) - 1))) → (8 - zx3.toInt).toNat < (8 - x3_30.toInt).toNat → R12 zx1 zx2 zx3 zS) → b_Sc_arrangeTogether_12 UL 73 105 x2_9 x3_30 (T31, LT31, PC true b P) R2 R12 K from hs _ (fun _ _ _ _ h1 h2 => ⟨h1, h2⟩)
    intro R12 hR120
    have hR12 := fun {zx1} {zx2} {zx3} {zS} => hR120 zx1 zx2 zx3 zS
    have q37 : (0) ≤ (T31 73 6).toInt ∧ (T31 73 6).toInt ≤ (192) := (show B 0 192 (T31 73 6) from B_w (show B 0 192 (T31 73 6) from hI33 73 6) (by decide +kernel) (by decide +kernel))
    unfold b_Sc_arrangeTogether_12
    refine ⟨(show c_cl UL 105 = 7 from cl_105), ?_⟩
    refine ⟨fun hc => ?_, fun hc => ?_⟩
    · have hq38 := hc
      have b39 : B 1 8 (x3_30) := B_w (B_leR (B_eq ((g34.1 105 7 rfl rfl).trans (g13.1 105 7 rfl rfl)) (show B 1 8 (F 105 7) from hI 105 7)) b32 hq38) (by decide +kernel) (by decide +kernel)
      have e40 : (T31 105 7).toInt = (F 105 7).toInt := (congrArg Int32.toInt ((g34.1 105 7 rfl rfl).trans (g13.1 105 7 rfl rfl))).trans rfl
      have q41 : (1) ≤ (x3_30).toInt ∧ (x3_30).toInt ≤ (8) := (show B 1 8 (x3_30) from B_w b39 (by decide +kernel) (by decide +kernel))
      have i42 : (T31 105 7).toInt ≤ (x3_30).toInt := i_le hq38
      have g44 := agc_tr (agc_refl (fs := [7306]) (rs := [77, 999]) (F := F)) g13 (by decide +kernel) (by decide +kernel)
      have g43 := agc_tr g44 g34 (by decide +kernel) (by decide +kernel)
      have e45 : (T31 105 2).toInt = (F 105 2).toInt := (congrArg Int32.toInt ((g34.1 105 2 rfl rfl).trans (g13.1 105 2 rfl rfl))).trans rfl
      have e46 : (x2_9 + 1).toInt = ((x2_9).toInt + 1) := (t_add b24 (show B 1 1 (1 : Int32) from ⟨by decide +kernel, by decide +kernel⟩) (by decide +kernel) (by decide +kernel)).trans (by rw [(show (1 : Int32).toInt = 1 from by decide +kernel)])
      have q47 : (1) ≤ (x2_9 + 1).toInt ∧ (x2_9 + 1).toInt ≤ (8) := (show B 1 8 (x2_9 + 1) from B_w (B_add b24 (show B 1 1 (1 : Int32) from ⟨by decide +kernel, by decide +kernel⟩) (by decide +kernel) (by decide +kernel)) (by decide +kernel) (by decide +kernel))
      exact hR2 ⟨rfl, (B_w (B_add b24 (show B 1 1 (1 : Int32) from ⟨by decide +kernel, by decide +kernel⟩) (by decide +kernel) (by decide +kernel)) (by decide +kernel) (by decide +kernel)), _, _, rfl, hI33, g43, (qf_le (b' := (T31 73 6).toInt) (lo' := 0) (hi' := (64 * (T31 105 2).toInt) - 1) r36 (by omega) (by omega) (by omega))⟩ (by show (8 - (x2_9 + 1).toInt).toNat < (8 - x2_9.toInt).toNat; omega)
    · have hq48 := (nle_lt hc)
      have b49 : B 0 7 (x3_30) := B_w (B_ltL b32 (B_eq ((g34.1 105 7 rfl rfl).trans (g13.1 105 7 rfl rfl)) (show B 1 8 (F 105 7) from hI 105 7)) hq48) (by decide +kernel) (by decide +kernel)
      have q50 : (0) ≤ (x3_30).toInt ∧ (x3_30).toInt ≤ (7) := (show B 0 7 (x3_30) from B_w b49 (by decide +kernel) (by decide +kernel))
      have e51 : (T31 105 7).toInt = (F 105 7).toInt := (congrArg Int32.toInt ((g34.1 105 7 rfl rfl).trans (g13.1 105 7 rfl rfl))).trans rfl
      have i52 : (x3_30).toInt < (T31 105 7).toInt := i_lt hq48
      have e61 : (T31 105 2).toInt = (F 105 2).toInt := (congrArg Int32.toInt ((g34.1 105 2 rfl rfl).trans (g13.1 105 2 rfl rfl))).trans rfl
      refine ⟨fun yx1 yx2 yx3 yx4 yS => (105 : Nat) = yx1 ∧ x2_9 = yx2 ∧ x3_30 = yx3 ∧ B 0 3 yx4 ∧ ∃ (T57 : cF) (LT57 : cL), yS = (T57, LT57, PC true b P) ∧ IMc T57 ∧ agc [7306] [77, 999] T31 T57 ∧ (qf (T57 77) 0 (T57 73 6).toInt 0 ((64 * (T57 105 2).toInt) - 1)), fun yx1 yx2 yx3 yx4 yS => (3 - yx4.toInt).toNat, ⟨rfl, rfl, rfl, (B_w (show B 0 0 (0 : Int32) from ⟨by decide +kernel, by decide +kernel⟩) (by decide +kernel) (by decide +kernel)), _, _, rfl, hI33, (agc_refl (fs := [7306]) (rs := [77, 999]) (F := T31)), (qf_le (b' := (T31 73 6).toInt) (lo' := 0) (hi' := (64 * (T31 105 2).toInt) - 1) r36 (by omega) (by omega) (by omega))⟩, fun x1_53 x2_54 x3_55 x4_56 ST57 hIv => ?_⟩
      obtain ⟨rfl, rfl, rfl, b58, T57, LT57, rfl, hI59, g60, r62⟩ := hIv
      suffices hs : ∀ (R23 : Nat → Int32 → Int32 → Int32 → cs → Prop), (∀ zx1 zx2 zx3 zx4 zS, ((105 : Nat) = zx1 ∧ x2_9 = zx2 ∧ x3_30 = zx3 ∧ B 0 3 zx4 ∧ ∃ (T57 : cF) (LT57 : cL), zS = (T57, LT57, PC true b P) ∧ IMc T57 ∧ agc [7306] [77, 999] T31 T57 ∧ (qf (T57 77) 0 (T57 73 6).toInt 0 ((64 * (T57 105 2).toInt) - 1))) → (3 - zx4.toInt).toNat < (3 - x4_56.toInt).toNat → R23 zx1 zx2 zx3 zx4 zS) → b_Sc_arrangeTogether_23 UL 73 105 x2_9 x3_30 x4_56 (T57, LT57, PC true b P) R2 R12 R23 K from hs _ (fun _ _ _ _ _ h1 h2 => ⟨h1, h2⟩)
      intro R23 hR230
      have hR23 := fun {zx1} {zx2} {zx3} {zx4} {zS} => hR230 zx1 zx2 zx3 zx4 zS
      have q63 : (0) ≤ (T57 73 6).toInt ∧ (T57 73 6).toInt ≤ (192) := (show B 0 192 (T57 73 6) from B_w (show B 0 192 (T57 73 6) from hI59 73 6) (by decide +kernel) (by decide +kernel))
      unfold b_Sc_arrangeTogether_23
      refine ⟨fun hc => ?_, fun hc => ?_⟩
      · have hq64 := hc
        have e65 : (T57 73 0).toInt = (F 73 0).toInt := (congrArg Int32.toInt (((g60.1 73 0 rfl rfl).trans (g34.1 73 0 rfl rfl)).trans (g13.1 73 0 rfl rfl))).trans rfl
        have q66 : (0) ≤ (x4_56).toInt ∧ (x4_56).toInt ≤ (3) := (show B 0 3 (x4_56) from B_w b58 (by decide +kernel) (by decide +kernel))
        have i67 : (T57 73 0).toInt ≤ (x4_56).toInt := i_le hq64
        have g69 := agc_tr (agc_refl (fs := [7306]) (rs := [77, 999]) (F := T10)) g34 (by decide +kernel) (by decide +kernel)
        have g68 := agc_tr g69 g60 (by decide +kernel) (by decide +kernel)
        have e70 : (T57 105 2).toInt = (F 105 2).toInt := (congrArg Int32.toInt (((g60.1 105 2 rfl rfl).trans (g34.1 105 2 rfl rfl)).trans (g13.1 105 2 rfl rfl))).trans rfl
        have e71 : (x3_30 + 1).toInt = ((x3_30).toInt + 1) := (t_add b49 (show B 1 1 (1 : Int32) from ⟨by decide +kernel, by decide +kernel⟩) (by decide +kernel) (by decide +kernel)).trans (by rw [(show (1 : Int32).toInt = 1 from by decide +kernel)])
        have q72 : (1) ≤ (x3_30 + 1).toInt ∧ (x3_30 + 1).toInt ≤ (8) := (show B 1 8 (x3_30 + 1) from B_w (B_add b49 (show B 1 1 (1 : Int32) from ⟨by decide +kernel, by decide +kernel⟩) (by decide +kernel) (by decide +kernel)) (by decide +kernel) (by decide +kernel))
        exact hR12 ⟨rfl, rfl, (B_w (B_add b49 (show B 1 1 (1 : Int32) from ⟨by decide +kernel, by decide +kernel⟩) (by decide +kernel) (by decide +kernel)) (by decide +kernel) (by decide +kernel)), _, _, rfl, hI59, g68, (qf_le (b' := (T57 73 6).toInt) (lo' := 0) (hi' := (64 * (T57 105 2).toInt) - 1) r62 (by omega) (by omega) (by omega))⟩ (by show (8 - (x3_30 + 1).toInt).toNat < (8 - x3_30.toInt).toNat; omega)
      · have hq73 := (nle_lt hc)
        have b74 : B 0 2 (x4_56) := B_w (B_ltL b58 (B_eq (((g60.1 73 0 rfl rfl).trans (g34.1 73 0 rfl rfl)).trans (g13.1 73 0 rfl rfl)) (show B 0 3 (F 73 0) from hI 73 0)) hq73) (by decide +kernel) (by decide +kernel)
        have b75 : B 1 3 (F 73 0) := B_w (B_eq (Eq.symm (((g60.1 73 0 rfl rfl).trans (g34.1 73 0 rfl rfl)).trans (g13.1 73 0 rfl rfl))) (B_ltR b58 (B_eq (((g60.1 73 0 rfl rfl).trans (g34.1 73 0 rfl rfl)).trans (g13.1 73 0 rfl rfl)) (show B 0 3 (F 73 0) from hI 73 0)) hq73)) (by decide +kernel) (by decide +kernel)
        have q76 : (1) ≤ (F 73 0).toInt ∧ (F 73 0).toInt ≤ (3) := (show B 1 3 (F 73 0) from B_w b75 (by decide +kernel) (by decide +kernel))
        have q77 : (0) ≤ (x4_56).toInt ∧ (x4_56).toInt ≤ (2) := (show B 0 2 (x4_56) from B_w b74 (by decide +kernel) (by decide +kernel))
        have e78 : (T57 73 0).toInt = (F 73 0).toInt := (congrArg Int32.toInt (((g60.1 73 0 rfl rfl).trans (g34.1 73 0 rfl rfl)).trans (g13.1 73 0 rfl rfl))).trans rfl
        have i79 : (x4_56).toInt < (T57 73 0).toInt := i_lt hq73
        refine ⟨(show ¬ ((74 : Nat) = NU) from by decide +kernel), ?_⟩
        refine ⟨(show c_cl UL 74 = 902 from cl_74), ?_⟩
        refine ⟨(show vp_in (x4_56) 3 from vp_B b74 (by decide +kernel) (by decide +kernel)), ?_⟩
        have r80 : 0 ≤ (F 74 x4_56.toNatClampNeg).toInt ∧ (F 74 x4_56.toNatClampNeg).toInt ≤ ((F 105 2).toInt - 1) := qf_at pre1 (x := x4_56) (by omega) (by omega)
        have e81 : (T57 105 2).toInt = (F 105 2).toInt := (congrArg Int32.toInt (((g60.1 105 2 rfl rfl).trans (g34.1 105 2 rfl rfl)).trans (g13.1 105 2 rfl rfl))).trans rfl
        have q82 : (0) ≤ (F 74 x4_56.toNatClampNeg).toInt ∧ (F 74 x4_56.toNatClampNeg).toInt ≤ (2) := (show B 0 2 (F 74 x4_56.toNatClampNeg) from B_w (show B 0 2 (F 74 x4_56.toNatClampNeg) from hI 74 x4_56.toNatClampNeg) (by decide +kernel) (by decide +kernel))
        have e83 : (T57 74 x4_56.toNatClampNeg).toInt = (F 74 x4_56.toNatClampNeg).toInt := (congrArg Int32.toInt (((congrFun (g60.2 74 rfl rfl) x4_56.toNatClampNeg).trans (congrFun (g34.2 74 rfl rfl) x4_56.toNatClampNeg)).trans (congrFun (g13.2 74 rfl rfl) x4_56.toNatClampNeg))).trans rfl
        have e84 : (T57 105 7).toInt = (F 105 7).toInt := (congrArg Int32.toInt (((g60.1 105 7 rfl rfl).trans (g34.1 105 7 rfl rfl)).trans (g13.1 105 7 rfl rfl))).trans rfl
        have e85 : (T57 105 8).toInt = (F 105 8).toInt := (congrArg Int32.toInt (((g60.1 105 8 rfl rfl).trans (g34.1 105 8 rfl rfl)).trans (g13.1 105 8 rfl rfl))).trans rfl
        have e86 : (T57 105 5).toInt = (F 105 5).toInt := (congrArg Int32.toInt (((g60.1 105 5 rfl rfl).trans (g34.1 105 5 rfl rfl)).trans (g13.1 105 5 rfl rfl))).trans rfl
        have e87 : (T57 105 6).toInt = (F 105 6).toInt := (congrArg Int32.toInt (((g60.1 105 6 rfl rfl).trans (g34.1 105 6 rfl rfl)).trans (g13.1 105 6 rfl rfl))).trans rfl
        refine h_Sc_addStretch_u73_x1105_a1 (B_w (B_eq (((congrFun (g60.2 74 rfl rfl) x4_56.toNatClampNeg).trans (congrFun (g34.2 74 rfl rfl) x4_56.toNatClampNeg)).trans (congrFun (g13.2 74 rfl rfl) x4_56.toNatClampNeg)) (show B 0 2 (F 74 x4_56.toNatClampNeg) from hI 74 x4_56.toNatClampNeg)) (by decide +kernel) (by decide +kernel)) b49 b24 hI59 (qf_le (b' := (T57 73 6).toInt) (lo' := 0) (hi' := (64 * (T57 105 2).toInt) - 1) r62 (by omega) (by omega) (by omega)) (by show (T57 74 x4_56.toNatClampNeg).toInt < (T57 105 2).toInt; omega) (by show x3_30.toInt < (T57 105 7).toInt; omega) (by show x2_9.toInt < (T57 105 8).toInt; omega) (qf_eq (((g60.2 106 rfl rfl).trans (g34.2 106 rfl rfl)).trans (g13.2 106 rfl rfl)) (qf_le (b' := (T57 105 2).toInt) (lo' := 1) (hi' := (T57 105 5).toInt) pre2 (by omega) (by omega) (by omega))) (qf_eq (((g60.2 107 rfl rfl).trans (g34.2 107 rfl rfl)).trans (g13.2 107 rfl rfl)) (qf_le (b' := (T57 105 2).toInt) (lo' := 1) (hi' := (T57 105 6).toInt) pre3 (by omega) (by omega) (by omega))) (by show ((T57 105 5).toInt = 1) ∨ ((T57 105 7).toInt ≤ 4); omega) (by show ((T57 105 6).toInt = 1) ∨ ((T57 105 8).toInt ≤ 4); omega) (fun {FS43_88} {LFS43_88} hI89 g90 r91 => ?_)
        have r92 : qf (FS43_88 77) 0 (FS43_88 73 6).toInt 0 ((64 * (FS43_88 105 2).toInt) - 1) := r91
        clear r91
        have q93 : (0) ≤ (FS43_88 73 6).toInt ∧ (FS43_88 73 6).toInt ≤ (192) := (show B 0 192 (FS43_88 73 6) from B_w (show B 0 192 (FS43_88 73 6) from hI89 73 6) (by decide +kernel) (by decide +kernel))
        have g95 := agc_tr (agc_refl (fs := [7306]) (rs := [77, 999]) (F := T31)) g60 (by decide +kernel) (by decide +kernel)
        have g94 := agc_tr g95 g90 (by decide +kernel) (by decide +kernel)
        have e96 : (FS43_88 105 2).toInt = (F 105 2).toInt := (congrArg Int32.toInt ((((g90.1 105 2 rfl rfl).trans (g60.1 105 2 rfl rfl)).trans (g34.1 105 2 rfl rfl)).trans (g13.1 105 2 rfl rfl))).trans rfl
        have e97 : (x4_56 + 1).toInt = ((x4_56).toInt + 1) := (t_add b74 (show B 1 1 (1 : Int32) from ⟨by decide +kernel, by decide +kernel⟩) (by decide +kernel) (by decide +kernel)).trans (by rw [(show (1 : Int32).toInt = 1 from by decide +kernel)])
        have q98 : (1) ≤ (x4_56 + 1).toInt ∧ (x4_56 + 1).toInt ≤ (3) := (show B 1 3 (x4_56 + 1) from B_w (B_add b74 (show B 1 1 (1 : Int32) from ⟨by decide +kernel, by decide +kernel⟩) (by decide +kernel) (by decide +kernel)) (by decide +kernel) (by decide +kernel))
        exact hR23 ⟨rfl, rfl, rfl, (B_w (B_add b74 (show B 1 1 (1 : Int32) from ⟨by decide +kernel, by decide +kernel⟩) (by decide +kernel) (by decide +kernel)) (by decide +kernel) (by decide +kernel)), _, _, rfl, hI89, g94, (qf_le (b' := (FS43_88 73 6).toInt) (lo' := 0) (hi' := (64 * (FS43_88 105 2).toInt) - 1) r92 (by omega) (by omega) (by omega))⟩ (by show (3 - (x4_56 + 1).toInt).toNat < (3 - x4_56.toInt).toNat; omega)
set_option maxRecDepth 20000 in
set_option maxHeartbeats 4000000 in
theorem h_Sc_arrangeAlone_u73_x1105_a1 {b : Bool} {P : Nat → Nat → Nat} {x2 : Int32} {F : cF} {L : cL} {K : cs → Prop} (b_x2 : B 0 2 x2) (hI : IMc F) (pre0 : qf (F 77) 0 (F 73 6).toInt 0 ((64 * (F 105 2).toInt) - 1)) (pre1 : x2.toInt < (F 105 2).toInt) (hK : ∀ {Z : cF} {LZ : cL}, IMc Z → agc [7306] [77, 999] F Z → (qf (Z 77) 0 (Z 73 6).toInt 0 ((64 * (Z 105 2).toInt) - 1)) → K (Z, LZ, PC true b P)) : p_Sc_arrangeAlone UL 73 105 x2 (F, L, PC true b P) K := by
  have q1 : (0) ≤ (F 73 6).toInt ∧ (F 73 6).toInt ≤ (192) := (show B 0 192 (F 73 6) from B_w (show B 0 192 (F 73 6) from hI 73 6) (by decide +kernel) (by decide +kernel))
  have q2 : (0) ≤ (x2).toInt ∧ (x2).toInt ≤ (2) := (show B 0 2 (x2) from B_w b_x2 (by decide +kernel) (by decide +kernel))
  have q3 : (1) ≤ (F 105 2).toInt ∧ (F 105 2).toInt ≤ (3) := (show B 1 3 (F 105 2) from B_w (show B 1 3 (F 105 2) from hI 105 2) (by decide +kernel) (by decide +kernel))
  unfold p_Sc_arrangeAlone
  refine ⟨fun yx1 yx2 yx3 yS => (105 : Nat) = yx1 ∧ x2 = yx2 ∧ B 0 9 yx3 ∧ ∃ (T7 : cF) (LT7 : cL), yS = (T7, LT7, PC true b P) ∧ IMc T7 ∧ agc [7306] [77, 999] F T7 ∧ (qf (T7 77) 0 (T7 73 6).toInt 0 ((64 * (T7 105 2).toInt) - 1)), fun yx1 yx2 yx3 yS => (9 - yx3.toInt).toNat, ⟨rfl, rfl, (B_w (show B 0 0 (0 : Int32) from ⟨by decide +kernel, by decide +kernel⟩) (by decide +kernel) (by decide +kernel)), _, _, rfl, hI, (agc_refl (fs := [7306]) (rs := [77, 999]) (F := F)), (qf_le (b' := (F 73 6).toInt) (lo' := 0) (hi' := (64 * (F 105 2).toInt) - 1) pre0 (by omega) (by omega) (by omega))⟩, fun x1_4 x2_5 x3_6 ST7 hIv => ?_⟩
  obtain ⟨rfl, rfl, b8, T7, LT7, rfl, hI9, g10, r11⟩ := hIv
  suffices hs : ∀ (R2 : Nat → Int32 → Int32 → cs → Prop), (∀ zx1 zx2 zx3 zS, ((105 : Nat) = zx1 ∧ x2 = zx2 ∧ B 0 9 zx3 ∧ ∃ (T7 : cF) (LT7 : cL), zS = (T7, LT7, PC true b P) ∧ IMc T7 ∧ agc [7306] [77, 999] F T7 ∧ (qf (T7 77) 0 (T7 73 6).toInt 0 ((64 * (T7 105 2).toInt) - 1))) → (9 - zx3.toInt).toNat < (9 - x3_6.toInt).toNat → R2 zx1 zx2 zx3 zS) → b_Sc_arrangeAlone_2 UL 73 105 x2 x3_6 (T7, LT7, PC true b P) R2 K from hs _ (fun _ _ _ _ h1 h2 => ⟨h1, h2⟩)
  intro R2 hR20
  have hR2 := fun {zx1} {zx2} {zx3} {zS} => hR20 zx1 zx2 zx3 zS
  have q12 : (0) ≤ (T7 73 6).toInt ∧ (T7 73 6).toInt ≤ (192) := (show B 0 192 (T7 73 6) from B_w (show B 0 192 (T7 73 6) from hI9 73 6) (by decide +kernel) (by decide +kernel))
  unfold b_Sc_arrangeAlone_2
  refine ⟨(show c_cl UL 105 = 7 from cl_105), ?_⟩
  refine ⟨(show ¬ ((109 : Nat) = NU) from by decide +kernel), ?_⟩
  refine ⟨(show c_cl UL 109 = 902 from cl_109), ?_⟩
  refine ⟨(show vp_in (x2) 3 from vp_B b_x2 (by decide +kernel) (by decide +kernel)), ?_⟩
  refine ⟨fun hc => ?_, fun hc => ?_⟩
  · have hq13 := hc
    have q14 : (0) ≤ (F 109 x2.toNatClampNeg).toInt ∧ (F 109 x2.toNatClampNeg).toInt ≤ (64) := (show B 0 64 (F 109 x2.toNatClampNeg) from B_w (show B 0 64 (F 109 x2.toNatClampNeg) from hI 109 x2.toNatClampNeg) (by decide +kernel) (by decide +kernel))
    have e15 : (T7 109 x2.toNatClampNeg).toInt = (F 109 x2.toNatClampNeg).toInt := (congrArg Int32.toInt (congrFun (g10.2 109 rfl rfl) x2.toNatClampNeg)).trans rfl
    have q16 : (0) ≤ (x3_6).toInt ∧ (x3_6).toInt ≤ (9) := (show B 0 9 (x3_6) from B_w b8 (by decide +kernel) (by decide +kernel))
    have e17 : (8 * x3_6).toInt = (8 * (x3_6).toInt) := (t_mul (show B 8 8 (8 : Int32) from ⟨by decide +kernel, by decide +kernel⟩) b8 (by decide +kernel) (by decide +kernel) (by decide +kernel)).trans (by rw [(show (8 : Int32).toInt = 8 from by decide +kernel)])
    have q18 : (0) ≤ (8 * x3_6).toInt ∧ (8 * x3_6).toInt ≤ (72) := (show B 0 72 (8 * x3_6) from B_w (B_mul (show B 8 8 (8 : Int32) from ⟨by decide +kernel, by decide +kernel⟩) b8 (by decide +kernel) (by decide +kernel) (by decide +kernel)) (by decide +kernel) (by decide +kernel))
    have i19 : (T7 109 x2.toNatClampNeg).toInt ≤ (8 * x3_6).toInt := i_le hq13
    have g20 := agc_tr (agc_refl (fs := [7306]) (rs := [77, 999]) (F := F)) g10 (by decide +kernel) (by decide +kernel)
    have e21 : (T7 105 2).toInt = (F 105 2).toInt := (congrArg Int32.toInt (g10.1 105 2 rfl rfl)).trans rfl
    exact hK hI9 g20 (qf_le (b' := (T7 73 6).toInt) (lo' := 0) (hi' := (64 * (T7 105 2).toInt) - 1) r11 (by omega) (by omega) (by omega))
  · have hq22 := (nle_lt hc)
    have b23 : B 0 63 (8 * x3_6) := B_w (B_ltL (B_mul (show B 8 8 (8 : Int32) from ⟨by decide +kernel, by decide +kernel⟩) b8 (by decide +kernel) (by decide +kernel) (by decide +kernel)) (B_eq (congrFun (g10.2 109 rfl rfl) x2.toNatClampNeg) (show B 0 64 (F 109 x2.toNatClampNeg) from hI 109 x2.toNatClampNeg)) hq22) (by decide +kernel) (by decide +kernel)
    have b24 : B 1 64 (F 109 x2.toNatClampNeg) := B_w (B_eq (Eq.symm (congrFun (g10.2 109 rfl rfl) x2.toNatClampNeg)) (B_ltR (B_mul (show B 8 8 (8 : Int32) from ⟨by decide +kernel, by decide +kernel⟩) b8 (by decide +kernel) (by decide +kernel) (by decide +kernel)) (B_eq (congrFun (g10.2 109 rfl rfl) x2.toNatClampNeg) (show B 0 64 (F 109 x2.toNatClampNeg) from hI 109 x2.toNatClampNeg)) hq22)) (by decide +kernel) (by decide +kernel)
    have q25 : (0) ≤ (x3_6).toInt ∧ (x3_6).toInt ≤ (9) := (show B 0 9 (x3_6) from B_w b8 (by decide +kernel) (by decide +kernel))
    have e26 : (8 * x3_6).toInt = (8 * (x3_6).toInt) := (t_mul (show B 8 8 (8 : Int32) from ⟨by decide +kernel, by decide +kernel⟩) b8 (by decide +kernel) (by decide +kernel) (by decide +kernel)).trans (by rw [(show (8 : Int32).toInt = 8 from by decide +kernel)])
    have q27 : (0) ≤ (8 * x3_6).toInt ∧ (8 * x3_6).toInt ≤ (63) := (show B 0 63 (8 * x3_6) from B_w b23 (by decide +kernel) (by decide +kernel))
    have q28 : (1) ≤ (F 109 x2.toNatClampNeg).toInt ∧ (F 109 x2.toNatClampNeg).toInt ≤ (64) := (show B 1 64 (F 109 x2.toNatClampNeg) from B_w b24 (by decide +kernel) (by decide +kernel))
    have e29 : (T7 109 x2.toNatClampNeg).toInt = (F 109 x2.toNatClampNeg).toInt := (congrArg Int32.toInt (congrFun (g10.2 109 rfl rfl) x2.toNatClampNeg)).trans rfl
    have i30 := i_lt hq22
    have b31 : B 0 7 (x3_6) := ⟨by omega, by omega⟩
    have i32 : (8 * x3_6).toInt < (T7 109 x2.toNatClampNeg).toInt := i_lt hq22
    have e41 : (T7 105 2).toInt = (F 105 2).toInt := (congrArg Int32.toInt (g10.1 105 2 rfl rfl)).trans rfl
    refine ⟨fun yx1 yx2 yx3 yx4 yS => (105 : Nat) = yx1 ∧ x2 = yx2 ∧ x3_6 = yx3 ∧ B 0 9 yx4 ∧ ∃ (T37 : cF) (LT37 : cL), yS = (T37, LT37, PC true b P) ∧ IMc T37 ∧ agc [7306] [77, 999] T7 T37 ∧ (qf (T37 77) 0 (T37 73 6).toInt 0 ((64 * (T37 105 2).toInt) - 1)), fun yx1 yx2 yx3 yx4 yS => (9 - yx4.toInt).toNat, ⟨rfl, rfl, rfl, (B_w (show B 0 0 (0 : Int32) from ⟨by decide +kernel, by decide +kernel⟩) (by decide +kernel) (by decide +kernel)), _, _, rfl, hI9, (agc_refl (fs := [7306]) (rs := [77, 999]) (F := T7)), (qf_le (b' := (T7 73 6).toInt) (lo' := 0) (hi' := (64 * (T7 105 2).toInt) - 1) r11 (by omega) (by omega) (by omega))⟩, fun x1_33 x2_34 x3_35 x4_36 ST37 hIv => ?_⟩
    obtain ⟨rfl, rfl, rfl, b38, T37, LT37, rfl, hI39, g40, r42⟩ := hIv
    suffices hs : ∀ (R18 : Nat → Int32 → Int32 → Int32 → cs → Prop), (∀ zx1 zx2 zx3 zx4 zS, ((105 : Nat) = zx1 ∧ x2 = zx2 ∧ x3_6 = zx3 ∧ B 0 9 zx4 ∧ ∃ (T37 : cF) (LT37 : cL), zS = (T37, LT37, PC true b P) ∧ IMc T37 ∧ agc [7306] [77, 999] T7 T37 ∧ (qf (T37 77) 0 (T37 73 6).toInt 0 ((64 * (T37 105 2).toInt) - 1))) → (9 - zx4.toInt).toNat < (9 - x4_36.toInt).toNat → R18 zx1 zx2 zx3 zx4 zS) → b_Sc_arrangeAlone_18 UL 73 105 x2 x3_6 x4_36 (T37, LT37, PC true b P) R2 R18 K from hs _ (fun _ _ _ _ _ h1 h2 => ⟨h1, h2⟩)
    intro R18 hR180
    have hR18 := fun {zx1} {zx2} {zx3} {zx4} {zS} => hR180 zx1 zx2 zx3 zx4 zS
    have q43 : (0) ≤ (T37 73 6).toInt ∧ (T37 73 6).toInt ≤ (192) := (show B 0 192 (T37 73 6) from B_w (show B 0 192 (T37 73 6) from hI39 73 6) (by decide +kernel) (by decide +kernel))
    unfold b_Sc_arrangeAlone_18
    refine ⟨(show c_cl UL 105 = 7 from cl_105), ?_⟩
    refine ⟨(show ¬ ((108 : Nat) = NU) from by decide +kernel), ?_⟩
    refine ⟨(show c_cl UL 108 = 902 from cl_108), ?_⟩
    refine ⟨(show vp_in (x2) 3 from vp_B b_x2 (by decide +kernel) (by decide +kernel)), ?_⟩
    refine ⟨fun hc => ?_, fun hc => ?_⟩
    · have hq44 := hc
      have q45 : (0) ≤ (F 108 x2.toNatClampNeg).toInt ∧ (F 108 x2.toNatClampNeg).toInt ≤ (64) := (show B 0 64 (F 108 x2.toNatClampNeg) from B_w (show B 0 64 (F 108 x2.toNatClampNeg) from hI 108 x2.toNatClampNeg) (by decide +kernel) (by decide +kernel))
      have e46 : (T37 108 x2.toNatClampNeg).toInt = (F 108 x2.toNatClampNeg).toInt := (congrArg Int32.toInt ((congrFun (g40.2 108 rfl rfl) x2.toNatClampNeg).trans (congrFun (g10.2 108 rfl rfl) x2.toNatClampNeg))).trans rfl
      have q47 : (0) ≤ (x4_36).toInt ∧ (x4_36).toInt ≤ (9) := (show B 0 9 (x4_36) from B_w b38 (by decide +kernel) (by decide +kernel))
      have e48 : (8 * x4_36).toInt = (8 * (x4_36).toInt) := (t_mul (show B 8 8 (8 : Int32) from ⟨by decide +kernel, by decide +kernel⟩) b38 (by decide +kernel) (by decide +kernel) (by decide +kernel)).trans (by rw [(show (8 : Int32).toInt = 8 from by decide +kernel)])
      have q49 : (0) ≤ (8 * x4_36).toInt ∧ (8 * x4_36).toInt ≤ (72) := (show B 0 72 (8 * x4_36) from B_w (B_mul (show B 8 8 (8 : Int32) from ⟨by decide +kernel, by decide +kernel⟩) b38 (by decide +kernel) (by decide +kernel) (by decide +kernel)) (by decide +kernel) (by decide +kernel))
      have i50 : (T37 108 x2.toNatClampNeg).toInt ≤ (8 * x4_36).toInt := i_le hq44
      have g52 := agc_tr (agc_refl (fs := [7306]) (rs := [77, 999]) (F := F)) g10 (by decide +kernel) (by decide +kernel)
      have g51 := agc_tr g52 g40 (by decide +kernel) (by decide +kernel)
      have e53 : (T37 105 2).toInt = (F 105 2).toInt := (congrArg Int32.toInt ((g40.1 105 2 rfl rfl).trans (g10.1 105 2 rfl rfl))).trans rfl
      have e54 : (x3_6 + 1).toInt = ((x3_6).toInt + 1) := (t_add b31 (show B 1 1 (1 : Int32) from ⟨by decide +kernel, by decide +kernel⟩) (by decide +kernel) (by decide +kernel)).trans (by rw [(show (1 : Int32).toInt = 1 from by decide +kernel)])
      have q55 : (1) ≤ (x3_6 + 1).toInt ∧ (x3_6 + 1).toInt ≤ (8) := (show B 1 8 (x3_6 + 1) from B_w (B_add b31 (show B 1 1 (1 : Int32) from ⟨by decide +kernel, by decide +kernel⟩) (by decide +kernel) (by decide +kernel)) (by decide +kernel) (by decide +kernel))
      exact hR2 ⟨rfl, rfl, (B_w (B_add b31 (show B 1 1 (1 : Int32) from ⟨by decide +kernel, by decide +kernel⟩) (by decide +kernel) (by decide +kernel)) (by decide +kernel) (by decide +kernel)), _, _, rfl, hI39, g51, (qf_le (b' := (T37 73 6).toInt) (lo' := 0) (hi' := (64 * (T37 105 2).toInt) - 1) r42 (by omega) (by omega) (by omega))⟩ (by show (9 - (x3_6 + 1).toInt).toNat < (9 - x3_6.toInt).toNat; omega)
    · have hq56 := (nle_lt hc)
      have b57 : B 0 63 (8 * x4_36) := B_w (B_ltL (B_mul (show B 8 8 (8 : Int32) from ⟨by decide +kernel, by decide +kernel⟩) b38 (by decide +kernel) (by decide +kernel) (by decide +kernel)) (B_eq ((congrFun (g40.2 108 rfl rfl) x2.toNatClampNeg).trans (congrFun (g10.2 108 rfl rfl) x2.toNatClampNeg)) (show B 0 64 (F 108 x2.toNatClampNeg) from hI 108 x2.toNatClampNeg)) hq56) (by decide +kernel) (by decide +kernel)
      have b58 : B 1 64 (F 108 x2.toNatClampNeg) := B_w (B_eq (Eq.symm ((congrFun (g40.2 108 rfl rfl) x2.toNatClampNeg).trans (congrFun (g10.2 108 rfl rfl) x2.toNatClampNeg))) (B_ltR (B_mul (show B 8 8 (8 : Int32) from ⟨by decide +kernel, by decide +kernel⟩) b38 (by decide +kernel) (by decide +kernel) (by decide +kernel)) (B_eq ((congrFun (g40.2 108 rfl rfl) x2.toNatClampNeg).trans (congrFun (g10.2 108 rfl rfl) x2.toNatClampNeg)) (show B 0 64 (F 108 x2.toNatClampNeg) from hI 108 x2.toNatClampNeg)) hq56)) (by decide +kernel) (by decide +kernel)
      have q59 : (0) ≤ (x4_36).toInt ∧ (x4_36).toInt ≤ (9) := (show B 0 9 (x4_36) from B_w b38 (by decide +kernel) (by decide +kernel))
      have e60 : (8 * x4_36).toInt = (8 * (x4_36).toInt) := (t_mul (show B 8 8 (8 : Int32) from ⟨by decide +kernel, by decide +kernel⟩) b38 (by decide +kernel) (by decide +kernel) (by decide +kernel)).trans (by rw [(show (8 : Int32).toInt = 8 from by decide +kernel)])
      have q61 : (0) ≤ (8 * x4_36).toInt ∧ (8 * x4_36).toInt ≤ (63) := (show B 0 63 (8 * x4_36) from B_w b57 (by decide +kernel) (by decide +kernel))
      have q62 : (1) ≤ (F 108 x2.toNatClampNeg).toInt ∧ (F 108 x2.toNatClampNeg).toInt ≤ (64) := (show B 1 64 (F 108 x2.toNatClampNeg) from B_w b58 (by decide +kernel) (by decide +kernel))
      have e63 : (T37 108 x2.toNatClampNeg).toInt = (F 108 x2.toNatClampNeg).toInt := (congrArg Int32.toInt ((congrFun (g40.2 108 rfl rfl) x2.toNatClampNeg).trans (congrFun (g10.2 108 rfl rfl) x2.toNatClampNeg))).trans rfl
      have i64 := i_lt hq56
      have b65 : B 0 7 (x4_36) := ⟨by omega, by omega⟩
      have i66 : (8 * x4_36).toInt < (T37 108 x2.toNatClampNeg).toInt := i_lt hq56
      refine ⟨(show ¬ ((110 : Nat) = NU) from by decide +kernel), ?_⟩
      refine ⟨(show c_cl UL 110 = 902 from cl_110), ?_⟩
      refine ⟨(show vp_in (x2) 3 from vp_B b_x2 (by decide +kernel) (by decide +kernel)), ?_⟩
      have e67 : (T37 105 2).toInt = (F 105 2).toInt := (congrArg Int32.toInt ((g40.1 105 2 rfl rfl).trans (g10.1 105 2 rfl rfl))).trans rfl
      refine h_Sc_addBlock_u73_a1 b_x2 (B_w (B_add (B_mul b31 (B_eq ((congrFun (g40.2 110 rfl rfl) x2.toNatClampNeg).trans (congrFun (g10.2 110 rfl rfl) x2.toNatClampNeg)) (show B 0 8 (F 110 x2.toNatClampNeg) from hI 110 x2.toNatClampNeg)) (by decide +kernel) (by decide +kernel) (by decide +kernel)) b65 (by decide +kernel) (by decide +kernel)) (by decide +kernel) (by decide +kernel)) hI39 (qf_le (b' := (T37 73 6).toInt) (lo' := 0) (hi' := (64 * (T37 105 2).toInt) - 1) r42 (by omega) (by omega) (by omega)) (by show x2.toInt < (T37 105 2).toInt; omega) (fun {FS45_68} {LFS45_68} hI69 g70 r71 => ?_)
      have r72 : qf (FS45_68 77) 0 (FS45_68 73 6).toInt 0 ((64 * (FS45_68 105 2).toInt) - 1) := r71
      clear r71
      have q73 : (0) ≤ (FS45_68 73 6).toInt ∧ (FS45_68 73 6).toInt ≤ (192) := (show B 0 192 (FS45_68 73 6) from B_w (show B 0 192 (FS45_68 73 6) from hI69 73 6) (by decide +kernel) (by decide +kernel))
      have g75 := agc_tr (agc_refl (fs := [7306]) (rs := [77, 999]) (F := T7)) g40 (by decide +kernel) (by decide +kernel)
      have g74 := agc_tr g75 g70 (by decide +kernel) (by decide +kernel)
      have e76 : (FS45_68 105 2).toInt = (F 105 2).toInt := (congrArg Int32.toInt (((g70.1 105 2 rfl rfl).trans (g40.1 105 2 rfl rfl)).trans (g10.1 105 2 rfl rfl))).trans rfl
      have e77 : (x4_36 + 1).toInt = ((x4_36).toInt + 1) := (t_add b65 (show B 1 1 (1 : Int32) from ⟨by decide +kernel, by decide +kernel⟩) (by decide +kernel) (by decide +kernel)).trans (by rw [(show (1 : Int32).toInt = 1 from by decide +kernel)])
      have q78 : (1) ≤ (x4_36 + 1).toInt ∧ (x4_36 + 1).toInt ≤ (8) := (show B 1 8 (x4_36 + 1) from B_w (B_add b65 (show B 1 1 (1 : Int32) from ⟨by decide +kernel, by decide +kernel⟩) (by decide +kernel) (by decide +kernel)) (by decide +kernel) (by decide +kernel))
      exact hR18 ⟨rfl, rfl, rfl, (B_w (B_add b65 (show B 1 1 (1 : Int32) from ⟨by decide +kernel, by decide +kernel⟩) (by decide +kernel) (by decide +kernel)) (by decide +kernel) (by decide +kernel)), _, _, rfl, hI69, g74, (qf_le (b' := (FS45_68 73 6).toInt) (lo' := 0) (hi' := (64 * (FS45_68 105 2).toInt) - 1) r72 (by omega) (by omega) (by omega))⟩ (by show (9 - (x4_36 + 1).toInt).toNat < (9 - x4_36.toInt).toNat; omega)
set_option maxRecDepth 20000 in
set_option maxHeartbeats 4000000 in
theorem h_Sc_arrange_u73_x1105_a1 {b : Bool} {P : Nat → Nat → Nat} {F : cF} {L : cL} {K : cs → Prop} (hI : IMc F) (pre0 : qf (F 74) 0 (F 73 0).toInt 0 ((F 105 2).toInt - 1)) (pre1 : qf (F 106) 0 (F 105 2).toInt 1 (F 105 5).toInt) (pre2 : qf (F 107) 0 (F 105 2).toInt 1 (F 105 6).toInt) (pre3 : ((F 105 5).toInt = 1) ∨ ((F 105 7).toInt ≤ 4)) (pre4 : ((F 105 6).toInt = 1) ∨ ((F 105 8).toInt ≤ 4)) (hK : ∀ {Z : cF} {LZ : cL}, IMc Z → agc [7304, 7305, 7306] [77, 999] F Z → (qf (Z 77) 0 (Z 73 6).toInt 0 ((64 * (Z 105 2).toInt) - 1)) → (UPs 73 Z) → K (Z, LZ, PC true b P)) : p_Sc_arrange UL 73 105 (F, L, PC true b P) K := by
  have q1 : (0) ≤ (F 73 0).toInt ∧ (F 73 0).toInt ≤ (3) := (show B 0 3 (F 73 0) from B_w (show B 0 3 (F 73 0) from hI 73 0) (by decide +kernel) (by decide +kernel))
  have q2 : (1) ≤ (F 105 2).toInt ∧ (F 105 2).toInt ≤ (3) := (show B 1 3 (F 105 2) from B_w (show B 1 3 (F 105 2) from hI 105 2) (by decide +kernel) (by decide +kernel))
  have q3 : (1) ≤ (F 105 5).toInt ∧ (F 105 5).toInt ≤ (2) := (show B 1 2 (F 105 5) from B_w (show B 1 2 (F 105 5) from hI 105 5) (by decide +kernel) (by decide +kernel))
  have q4 : (1) ≤ (F 105 7).toInt ∧ (F 105 7).toInt ≤ (8) := (show B 1 8 (F 105 7) from B_w (show B 1 8 (F 105 7) from hI 105 7) (by decide +kernel) (by decide +kernel))
  have q5 : (1) ≤ (F 105 6).toInt ∧ (F 105 6).toInt ≤ (2) := (show B 1 2 (F 105 6) from B_w (show B 1 2 (F 105 6) from hI 105 6) (by decide +kernel) (by decide +kernel))
  have q6 : (1) ≤ (F 105 8).toInt ∧ (F 105 8).toInt ≤ (8) := (show B 1 8 (F 105 8) from B_w (show B 1 8 (F 105 8) from hI 105 8) (by decide +kernel) (by decide +kernel))
  unfold p_Sc_arrange
  have hj7 : ∀ {T8 : cF} {LT8 : cL}, IMc T8 → agc [7305, 7306] [77, 999] F T8 → (qf (T8 77) 0 (T8 73 6).toInt 0 ((64 * (T8 105 2).toInt) - 1)) → b_Sc_arrange_46 UL 73 (T8, LT8, PC true b P) K := by
    intro T8 LT8 hI9 g10 r11
    have q12 : (0) ≤ (T8 73 6).toInt ∧ (T8 73 6).toInt ≤ (192) := (show B 0 192 (T8 73 6) from B_w (show B 0 192 (T8 73 6) from hI9 73 6) (by decide +kernel) (by decide +kernel))
    unfold b_Sc_arrange_46
    refine ⟨fun hc => ?_, fun hc => ?_⟩
    · have hq13 := hc
      have b14 : B 1 12 (T8 73 5) := B_w (B_leR (show B 1 1 (1 : Int32) from ⟨by decide +kernel, by decide +kernel⟩) (show B 0 12 (T8 73 5) from hI9 73 5) hq13) (by decide +kernel) (by decide +kernel)
      refine ⟨B_nz b14 (by decide +kernel), ?_⟩
      unfold b_Sc_arrange_68
      have hI15 := IMc_u (u := 73) (i := 4) (v := (T8 73 6) / (T8 73 5)) hI9 (show B 0 192 ((T8 73 6) / (T8 73 5)) from (B_w (show B 0 192 ((T8 73 6) / (T8 73 5)) from B_div2 (show B 0 192 (T8 73 6) from hI9 73 6) b14 (by decide +kernel) (by decide +kernel) (by decide +kernel) (by decide +kernel)) (by decide +kernel) (by decide +kernel)))
      have g17 := agc_tr (agc_refl (fs := [7304, 7305, 7306]) (rs := [77, 999]) (F := F)) g10 (by decide +kernel) (by decide +kernel)
      have g16 := agc_f (u := 73) (k := 4) (v := (T8 73 6) / (T8 73 5)) g17 rfl (by decide +kernel)
      have q18 : (1) ≤ (T8 73 5).toInt ∧ (T8 73 5).toInt ≤ (12) := (show B 1 12 (T8 73 5) from B_w b14 (by decide +kernel) (by decide +kernel))
      have e19 : ((T8 73 6) / (T8 73 5)).toInt = ((T8 73 6).toInt / (T8 73 5).toInt) := (t_div (show B 0 192 (T8 73 6) from hI9 73 6) b14 (by decide +kernel) (by decide +kernel)).trans (by rfl)
      have q20 : (0) ≤ ((T8 73 6) / (T8 73 5)).toInt ∧ ((T8 73 6) / (T8 73 5)).toInt ≤ (192) := (show B 0 192 ((T8 73 6) / (T8 73 5)) from B_w (show B 0 192 ((T8 73 6) / (T8 73 5)) from B_div2 (show B 0 192 (T8 73 6) from hI9 73 6) b14 (by decide +kernel) (by decide +kernel) (by decide +kernel) (by decide +kernel)) (by decide +kernel) (by decide +kernel))
      have k21 : (T8 73 5).toInt * ((T8 73 6) / (T8 73 5)).toInt ≤ (T8 73 6).toInt := by rw [e19]; exact Int.mul_ediv_self_le (by omega)
      have e22 : (T8 105 2).toInt = (F 105 2).toInt := (congrArg Int32.toInt (g10.1 105 2 rfl rfl)).trans rfl
      exact hK hI15 g16 (qf_le (b' := (T8 73 6).toInt) (lo' := 0) (hi' := (64 * (T8 105 2).toInt) - 1) r11 (by omega) (by omega) (by omega)) (by show (T8 73 5).toInt * ((T8 73 6) / (T8 73 5)).toInt ≤ 192; omega)
    · have hq23 := (nle_lt hc)
      have b24 : B 0 0 (T8 73 5) := B_w (B_ltL (show B 0 12 (T8 73 5) from hI9 73 5) (show B 1 1 (1 : Int32) from ⟨by decide +kernel, by decide +kernel⟩) hq23) (by decide +kernel) (by decide +kernel)
      unfold b_Sc_arrange_68
      have hI25 := IMc_u (u := 73) (i := 4) (v := 0) hI9 (show B 0 192 (0) from (B_w (show B 0 0 (0 : Int32) from ⟨by decide +kernel, by decide +kernel⟩) (by decide +kernel) (by decide +kernel)))
      have g27 := agc_tr (agc_refl (fs := [7304, 7305, 7306]) (rs := [77, 999]) (F := F)) g10 (by decide +kernel) (by decide +kernel)
      have g26 := agc_f (u := 73) (k := 4) (v := 0) g27 rfl (by decide +kernel)
      have q28 : (0) ≤ (T8 73 5).toInt ∧ (T8 73 5).toInt ≤ (0) := (show B 0 0 (T8 73 5) from B_w b24 (by decide +kernel) (by decide +kernel))
      have k29 : (T8 73 5).toInt * 0 = 0 := Int.mul_zero _
      have e30 : (T8 105 2).toInt = (F 105 2).toInt := (congrArg Int32.toInt (g10.1 105 2 rfl rfl)).trans rfl
      exact hK hI25 g26 (qf_le (b' := (T8 73 6).toInt) (lo' := 0) (hi' := (64 * (T8 105 2).toInt) - 1) r11 (by omega) (by omega) (by omega)) (by show (T8 73 5).toInt * (0 : Int) ≤ 192; omega)
  refine ⟨fun hc => ?_, fun hc => ?_⟩
  · have i31 : (F 73 0).toInt ≠ (1 : Int32).toInt := i_ne hc
    have n32 : (1 : Int32).toInt = 1 := by decide +kernel
    have hI33 := IMc_u (u := 73) (i := 6) (v := 0) hI (show B 0 192 (0) from (B_w (show B 0 0 (0 : Int32) from ⟨by decide +kernel, by decide +kernel⟩) (by decide +kernel) (by decide +kernel)))
    refine h_Sc_blocksTogether_u73_x1105 hI33 (fun {v35_34} b36 => ?_)
    have hI37 := IMc_u (u := 73) (i := 5) (v := v35_34) hI33 (show B 0 12 (v35_34) from (B_w b36 (by decide +kernel) (by decide +kernel)))
    refine h_Sc_arrangeTogether_u73_x1105_a1 hI37 (qf_0 (b := 0) (by omega)) (qf_le (b' := (F 73 0).toInt) (lo' := 0) (hi' := (F 105 2).toInt - 1) pre0 (by omega) (by omega) (by omega)) (qf_le (b' := (F 105 2).toInt) (lo' := 1) (hi' := (F 105 5).toInt) pre1 (by omega) (by omega) (by omega)) (qf_le (b' := (F 105 2).toInt) (lo' := 1) (hi' := (F 105 6).toInt) pre2 (by omega) (by omega) (by omega)) (by show ((F 105 5).toInt = 1) ∨ ((F 105 7).toInt ≤ 4); omega) (by show ((F 105 6).toInt = 1) ∨ ((F 105 8).toInt ≤ 4); omega) (fun {FS43_38} {LFS43_38} hI39 g40 r41 => ?_)
    have r42 : qf (FS43_38 77) 0 (FS43_38 73 6).toInt 0 ((64 * (FS43_38 105 2).toInt) - 1) := r41
    clear r41
    have q43 : (0) ≤ (FS43_38 73 6).toInt ∧ (FS43_38 73 6).toInt ≤ (192) := (show B 0 192 (FS43_38 73 6) from B_w (show B 0 192 (FS43_38 73 6) from hI39 73 6) (by decide +kernel) (by decide +kernel))
    have g46 := agc_f (u := 73) (k := 6) (v := 0) (agc_refl (fs := [7305, 7306]) (rs := [77, 999]) (F := F)) rfl (by decide +kernel)
    have g45 := agc_f (u := 73) (k := 5) (v := v35_34) g46 rfl (by decide +kernel)
    have g44 := agc_tr g45 g40 (by decide +kernel) (by decide +kernel)
    have e47 : (FS43_38 105 2).toInt = (F 105 2).toInt := (congrArg Int32.toInt (g40.1 105 2 rfl rfl)).trans rfl
    exact hj7 hI39 g44 (qf_le (b' := (FS43_38 73 6).toInt) (lo' := 0) (hi' := (64 * (FS43_38 105 2).toInt) - 1) r42 (by omega) (by omega) (by omega))
  · have b48 : B 1 1 (F 73 0) := B_w (B_eq hc (show B 1 1 (1 : Int32) from ⟨by decide +kernel, by decide +kernel⟩)) (by decide +kernel) (by decide +kernel)
    have q49 : (1) ≤ (F 73 0).toInt ∧ (F 73 0).toInt ≤ (1) := (show B 1 1 (F 73 0) from B_w b48 (by decide +kernel) (by decide +kernel))
    have i50 : (F 73 0).toInt = (1 : Int32).toInt := congrArg Int32.toInt hc
    have n51 : (1 : Int32).toInt = 1 := by decide +kernel
    refine ⟨(show ¬ ((74 : Nat) = NU) from by decide +kernel), ?_⟩
    refine ⟨(show c_cl UL 74 = 902 from cl_74), ?_⟩
    refine ⟨(show vp_in (0) 3 from vp_B (show B 0 0 (0 : Int32) from ⟨by decide +kernel, by decide +kernel⟩) (by decide +kernel) (by decide +kernel)), ?_⟩
    have n52 : (0 : Int32).toInt = 0 := by decide +kernel
    have r53 : 0 ≤ (F 74 (0 : Int32).toNatClampNeg).toInt ∧ (F 74 (0 : Int32).toNatClampNeg).toInt ≤ ((F 105 2).toInt - 1) := qf_at pre0 (x := (0 : Int32)) (by omega) (by omega)
    have hI54 := IMc_u (u := 73) (i := 6) (v := 0) hI (show B 0 192 (0) from (B_w (show B 0 0 (0 : Int32) from ⟨by decide +kernel, by decide +kernel⟩) (by decide +kernel) (by decide +kernel)))
    have hI55 := IMc_u (u := 73) (i := 5) (v := 1) hI54 (show B 0 12 (1) from (B_w (show B 1 1 (1 : Int32) from ⟨by decide +kernel, by decide +kernel⟩) (by decide +kernel) (by decide +kernel)))
    have q56 : (0) ≤ (F 74 (0 : Int32).toNatClampNeg).toInt ∧ (F 74 (0 : Int32).toNatClampNeg).toInt ≤ (2) := (show B 0 2 (F 74 (0 : Int32).toNatClampNeg) from B_w (show B 0 2 (F 74 (0 : Int32).toNatClampNeg) from hI 74 (0 : Int32).toNatClampNeg) (by decide +kernel) (by decide +kernel))
    refine h_Sc_arrangeAlone_u73_x1105_a1 (B_w (show B 0 2 (F 74 (0 : Int32).toNatClampNeg) from hI 74 (0 : Int32).toNatClampNeg) (by decide +kernel) (by decide +kernel)) hI55 (qf_0 (b := 0) (by omega)) (by show (F 74 (0 : Int32).toNatClampNeg).toInt < (F 105 2).toInt; omega) (fun {FS26_57} {LFS26_57} hI58 g59 r60 => ?_)
    have r61 : qf (FS26_57 77) 0 (FS26_57 73 6).toInt 0 ((64 * (FS26_57 105 2).toInt) - 1) := r60
    clear r60
    have q62 : (0) ≤ (FS26_57 73 6).toInt ∧ (FS26_57 73 6).toInt ≤ (192) := (show B 0 192 (FS26_57 73 6) from B_w (show B 0 192 (FS26_57 73 6) from hI58 73 6) (by decide +kernel) (by decide +kernel))
    have g65 := agc_f (u := 73) (k := 6) (v := 0) (agc_refl (fs := [7305, 7306]) (rs := [77, 999]) (F := F)) rfl (by decide +kernel)
    have g64 := agc_f (u := 73) (k := 5) (v := 1) g65 rfl (by decide +kernel)
    have g63 := agc_tr g64 g59 (by decide +kernel) (by decide +kernel)
    have e66 : (FS26_57 105 2).toInt = (F 105 2).toInt := (congrArg Int32.toInt (g59.1 105 2 rfl rfl)).trans rfl
    exact hj7 hI58 g63 (qf_le (b' := (FS26_57 73 6).toInt) (lo' := 0) (hi' := (64 * (FS26_57 105 2).toInt) - 1) r61 (by omega) (by omega) (by omega))
set_option maxRecDepth 20000 in
set_option maxHeartbeats 4000000 in
theorem h_Sc_addLayer_u73_a0 {b : Bool} {P : Nat → Nat → Nat} {x1 : Int32} {x2 : Int32} {x3 : Int32} {F : cF} {L : cL} {K : cs → Prop} (b_x1 : B 0 2 x1) (b_x2 : B 0 3 x2) (b_x3 : B 0 3 x3) (hI : IMc F) (pre0 : qf (F 74) 0 (F 73 0).toInt 0 ((F 63 2).toInt - 1)) (pre1 : x1.toInt < (F 63 2).toInt) (hK : ∀ {Z : cF} {LZ : cL}, IMc Z → agc [7300] [74, 75, 76] F Z → (qf (Z 74) 0 (Z 73 0).toInt 0 ((Z 63 2).toInt - 1)) → K (Z, LZ, PC false b P)) : p_Sc_addLayer UL 73 x1 x2 x3 (F, L, PC false b P) K := by
  have q1 : (0) ≤ (F 73 0).toInt ∧ (F 73 0).toInt ≤ (3) := (show B 0 3 (F 73 0) from B_w (show B 0 3 (F 73 0) from hI 73 0) (by decide +kernel) (by decide +kernel))
  have q2 : (0) ≤ (x1).toInt ∧ (x1).toInt ≤ (2) := (show B 0 2 (x1) from B_w b_x1 (by decide +kernel) (by decide +kernel))
  have q3 : (1) ≤ (F 63 2).toInt ∧ (F 63 2).toInt ≤ (3) := (show B 1 3 (F 63 2) from B_w (show B 1 3 (F 63 2) from hI 63 2) (by decide +kernel) (by decide +kernel))
  unfold p_Sc_addLayer
  refine ⟨fun hc => ?_, fun hc => ?_⟩
  · have hq4 := hc
    have b5 : B 3 3 (F 73 0) := B_w (B_leR (show B 3 3 (3 : Int32) from ⟨by decide +kernel, by decide +kernel⟩) (show B 0 3 (F 73 0) from hI 73 0) hq4) (by decide +kernel) (by decide +kernel)
    have q6 : (3) ≤ (F 73 0).toInt ∧ (F 73 0).toInt ≤ (3) := (show B 3 3 (F 73 0) from B_w b5 (by decide +kernel) (by decide +kernel))
    unfold b_Sc_addLayer_42
    exact hK hI (agc_refl (fs := [7300]) (rs := [74, 75, 76]) (F := F)) (qf_le (b' := (F 73 0).toInt) (lo' := 0) (hi' := (F 63 2).toInt - 1) pre0 (by omega) (by omega) (by omega))
  · have hq7 := (nle_lt hc)
    have b8 : B 0 2 (F 73 0) := B_w (B_ltL (show B 0 3 (F 73 0) from hI 73 0) (show B 3 3 (3 : Int32) from ⟨by decide +kernel, by decide +kernel⟩) hq7) (by decide +kernel) (by decide +kernel)
    have q9 : (0) ≤ (F 73 0).toInt ∧ (F 73 0).toInt ≤ (2) := (show B 0 2 (F 73 0) from B_w b8 (by decide +kernel) (by decide +kernel))
    refine ⟨(show ¬ ((74 : Nat) = NU) from by decide +kernel), ?_⟩
    refine ⟨(show c_cl UL 74 = 902 from cl_74), ?_⟩
    refine ⟨(show vp_in (F 73 0) 3 from vp_B b8 (by decide +kernel) (by decide +kernel)), ?_⟩
    refine ⟨(show ¬ ((75 : Nat) = NU) from by decide +kernel), ?_⟩
    refine ⟨(show c_cl UL 75 = 902 from cl_75), ?_⟩
    refine ⟨(show vp_in (x1) 3 from vp_B b_x1 (by decide +kernel) (by decide +kernel)), ?_⟩
    refine ⟨(show ¬ ((76 : Nat) = NU) from by decide +kernel), ?_⟩
    refine ⟨(show c_cl UL 76 = 902 from cl_76), ?_⟩
    refine ⟨(show vp_in (x1) 3 from vp_B b_x1 (by decide +kernel) (by decide +kernel)), ?_⟩
    unfold b_Sc_addLayer_42
    have hI10 := IMc_u (u := 74) (i := (F 73 0).toNatClampNeg) (v := x1) hI (show B 0 2 (x1) from (B_w b_x1 (by decide +kernel) (by decide +kernel)))
    have hI11 := IMc_u (u := 75) (i := x1.toNatClampNeg) (v := x2) hI10 (show B 0 3 (x2) from (B_w b_x2 (by decide +kernel) (by decide +kernel)))
    have hI12 := IMc_u (u := 76) (i := x1.toNatClampNeg) (v := x3) hI11 (show B 0 3 (x3) from (B_w b_x3 (by decide +kernel) (by decide +kernel)))
    have hI13 := IMc_u (u := 73) (i := 0) (v := (F 73 0) + 1) hI12 (show B 0 3 ((F 73 0) + 1) from (B_w (B_add b8 (show B 1 1 (1 : Int32) from ⟨by decide +kernel, by decide +kernel⟩) (by decide +kernel) (by decide +kernel)) (by decide +kernel) (by decide +kernel)))
    have g17 := agc_r (u := 74) (w := upd (F 74) (F 73 0).toNatClampNeg x1) (agc_refl (fs := [7300]) (rs := [74, 75, 76]) (F := F)) rfl (by decide +kernel)
    have g16 := agc_r (u := 75) (w := upd (F 75) x1.toNatClampNeg x2) g17 rfl (by decide +kernel)
    have g15 := agc_r (u := 76) (w := upd (F 76) x1.toNatClampNeg x3) g16 rfl (by decide +kernel)
    have g14 := agc_f (u := 73) (k := 0) (v := (F 73 0) + 1) g15 rfl (by decide +kernel)
    have e18 : ((F 73 0) + 1).toInt = ((F 73 0).toInt + 1) := (t_add b8 (show B 1 1 (1 : Int32) from ⟨by decide +kernel, by decide +kernel⟩) (by decide +kernel) (by decide +kernel)).trans (by rw [(show (1 : Int32).toInt = 1 from by decide +kernel)])
    have q19 : (1) ≤ ((F 73 0) + 1).toInt ∧ ((F 73 0) + 1).toInt ≤ (3) := (show B 1 3 ((F 73 0) + 1) from B_w (B_add b8 (show B 1 1 (1 : Int32) from ⟨by decide +kernel, by decide +kernel⟩) (by decide +kernel) (by decide +kernel)) (by decide +kernel) (by decide +kernel))
    exact hK hI13 g14 (qf_le (b' := ((F 73 0) + 1).toInt) (lo' := 0) (hi' := (F 63 2).toInt - 1) (qf_ext (x := F 73 0) (b' := ((F 73 0) + 1).toInt) (qf_le (b' := (F 73 0).toInt) (lo' := 0) (hi' := (F 63 2).toInt - 1) pre0 (by omega) (by omega) (by omega)) (fun _ => ⟨by omega, by omega⟩) (by omega) (by omega) (by omega)) (by omega) (by omega) (by omega))
set_option maxRecDepth 20000 in
set_option maxHeartbeats 4000000 in
theorem h_Sc_addLayer_u73_a1 {b : Bool} {P : Nat → Nat → Nat} {x1 : Int32} {x2 : Int32} {x3 : Int32} {F : cF} {L : cL} {K : cs → Prop} (b_x1 : B 0 2 x1) (b_x2 : B 0 3 x2) (b_x3 : B 0 3 x3) (hI : IMc F) (pre0 : qf (F 74) 0 (F 73 0).toInt 0 ((F 105 2).toInt - 1)) (pre1 : x1.toInt < (F 105 2).toInt) (hK : ∀ {Z : cF} {LZ : cL}, IMc Z → agc [7300] [74, 75, 76] F Z → (qf (Z 74) 0 (Z 73 0).toInt 0 ((Z 105 2).toInt - 1)) → K (Z, LZ, PC true b P)) : p_Sc_addLayer UL 73 x1 x2 x3 (F, L, PC true b P) K := by
  have q1 : (0) ≤ (F 73 0).toInt ∧ (F 73 0).toInt ≤ (3) := (show B 0 3 (F 73 0) from B_w (show B 0 3 (F 73 0) from hI 73 0) (by decide +kernel) (by decide +kernel))
  have q2 : (0) ≤ (x1).toInt ∧ (x1).toInt ≤ (2) := (show B 0 2 (x1) from B_w b_x1 (by decide +kernel) (by decide +kernel))
  have q3 : (1) ≤ (F 105 2).toInt ∧ (F 105 2).toInt ≤ (3) := (show B 1 3 (F 105 2) from B_w (show B 1 3 (F 105 2) from hI 105 2) (by decide +kernel) (by decide +kernel))
  unfold p_Sc_addLayer
  refine ⟨fun hc => ?_, fun hc => ?_⟩
  · have hq4 := hc
    have b5 : B 3 3 (F 73 0) := B_w (B_leR (show B 3 3 (3 : Int32) from ⟨by decide +kernel, by decide +kernel⟩) (show B 0 3 (F 73 0) from hI 73 0) hq4) (by decide +kernel) (by decide +kernel)
    have q6 : (3) ≤ (F 73 0).toInt ∧ (F 73 0).toInt ≤ (3) := (show B 3 3 (F 73 0) from B_w b5 (by decide +kernel) (by decide +kernel))
    unfold b_Sc_addLayer_42
    exact hK hI (agc_refl (fs := [7300]) (rs := [74, 75, 76]) (F := F)) (qf_le (b' := (F 73 0).toInt) (lo' := 0) (hi' := (F 105 2).toInt - 1) pre0 (by omega) (by omega) (by omega))
  · have hq7 := (nle_lt hc)
    have b8 : B 0 2 (F 73 0) := B_w (B_ltL (show B 0 3 (F 73 0) from hI 73 0) (show B 3 3 (3 : Int32) from ⟨by decide +kernel, by decide +kernel⟩) hq7) (by decide +kernel) (by decide +kernel)
    have q9 : (0) ≤ (F 73 0).toInt ∧ (F 73 0).toInt ≤ (2) := (show B 0 2 (F 73 0) from B_w b8 (by decide +kernel) (by decide +kernel))
    refine ⟨(show ¬ ((74 : Nat) = NU) from by decide +kernel), ?_⟩
    refine ⟨(show c_cl UL 74 = 902 from cl_74), ?_⟩
    refine ⟨(show vp_in (F 73 0) 3 from vp_B b8 (by decide +kernel) (by decide +kernel)), ?_⟩
    refine ⟨(show ¬ ((75 : Nat) = NU) from by decide +kernel), ?_⟩
    refine ⟨(show c_cl UL 75 = 902 from cl_75), ?_⟩
    refine ⟨(show vp_in (x1) 3 from vp_B b_x1 (by decide +kernel) (by decide +kernel)), ?_⟩
    refine ⟨(show ¬ ((76 : Nat) = NU) from by decide +kernel), ?_⟩
    refine ⟨(show c_cl UL 76 = 902 from cl_76), ?_⟩
    refine ⟨(show vp_in (x1) 3 from vp_B b_x1 (by decide +kernel) (by decide +kernel)), ?_⟩
    unfold b_Sc_addLayer_42
    have hI10 := IMc_u (u := 74) (i := (F 73 0).toNatClampNeg) (v := x1) hI (show B 0 2 (x1) from (B_w b_x1 (by decide +kernel) (by decide +kernel)))
    have hI11 := IMc_u (u := 75) (i := x1.toNatClampNeg) (v := x2) hI10 (show B 0 3 (x2) from (B_w b_x2 (by decide +kernel) (by decide +kernel)))
    have hI12 := IMc_u (u := 76) (i := x1.toNatClampNeg) (v := x3) hI11 (show B 0 3 (x3) from (B_w b_x3 (by decide +kernel) (by decide +kernel)))
    have hI13 := IMc_u (u := 73) (i := 0) (v := (F 73 0) + 1) hI12 (show B 0 3 ((F 73 0) + 1) from (B_w (B_add b8 (show B 1 1 (1 : Int32) from ⟨by decide +kernel, by decide +kernel⟩) (by decide +kernel) (by decide +kernel)) (by decide +kernel) (by decide +kernel)))
    have g17 := agc_r (u := 74) (w := upd (F 74) (F 73 0).toNatClampNeg x1) (agc_refl (fs := [7300]) (rs := [74, 75, 76]) (F := F)) rfl (by decide +kernel)
    have g16 := agc_r (u := 75) (w := upd (F 75) x1.toNatClampNeg x2) g17 rfl (by decide +kernel)
    have g15 := agc_r (u := 76) (w := upd (F 76) x1.toNatClampNeg x3) g16 rfl (by decide +kernel)
    have g14 := agc_f (u := 73) (k := 0) (v := (F 73 0) + 1) g15 rfl (by decide +kernel)
    have e18 : ((F 73 0) + 1).toInt = ((F 73 0).toInt + 1) := (t_add b8 (show B 1 1 (1 : Int32) from ⟨by decide +kernel, by decide +kernel⟩) (by decide +kernel) (by decide +kernel)).trans (by rw [(show (1 : Int32).toInt = 1 from by decide +kernel)])
    have q19 : (1) ≤ ((F 73 0) + 1).toInt ∧ ((F 73 0) + 1).toInt ≤ (3) := (show B 1 3 ((F 73 0) + 1) from B_w (B_add b8 (show B 1 1 (1 : Int32) from ⟨by decide +kernel, by decide +kernel⟩) (by decide +kernel) (by decide +kernel)) (by decide +kernel) (by decide +kernel))
    exact hK hI13 g14 (qf_le (b' := ((F 73 0) + 1).toInt) (lo' := 0) (hi' := (F 105 2).toInt - 1) (qf_ext (x := F 73 0) (b' := ((F 73 0) + 1).toInt) (qf_le (b' := (F 73 0).toInt) (lo' := 0) (hi' := (F 105 2).toInt - 1) pre0 (by omega) (by omega) (by omega)) (fun _ => ⟨by omega, by omega⟩) (by omega) (by omega) (by omega)) (by omega) (by omega) (by omega))
