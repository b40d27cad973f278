set_option maxRecDepth 20000 in
set_option maxHeartbeats 4000000 in
theorem h_Ar_fillI_x040_x10 {a : Bool} {b : Bool} {P : Nat → Nat → Nat} {F : cF} {L : cL} {K : cs → Prop} (hI : IMc F) (hK : ∀ {Z : cF} {LZ : cL}, IMc Z → agc [] [40] F Z → K (Z, LZ, PC a b P)) : p_Ar_fillI UL 40 0 (F, L, PC a b P) K := by
  unfold p_Ar_fillI
  refine ⟨(show c_cl UL 40 = 902 from cl_40), ?_⟩
  refine ⟨fun yx0 yx1 yx2 yx3 yS => (40 : Nat) = yx0 ∧ (0 : Int32) = yx1 ∧ (257 : Int32) = yx3 ∧ B 0 65536 yx2 ∧ ∃ (T5 : cF) (LT5 : cL), yS = (T5, LT5, PC a b P) ∧ IMc T5 ∧ agc [] [40] F T5, fun yx0 yx1 yx2 yx3 yS => (65536 - yx2.toInt).toNat, ⟨rfl, rfl, rfl, (B_w cqb_0_0_0 (by decide +kernel) (by decide +kernel)), _, _, rfl, hI, (agc_refl (fs := []) (rs := [40]) (F := F))⟩, fun x0_1 x1_2 x2_3 x3_4 ST5 hIv => ?_⟩
  obtain ⟨rfl, rfl, rfl, b6, T5, LT5, rfl, hI7, g8⟩ := hIv
  suffices hs : ∀ (R5 : Nat → Int32 → Int32 → Int32 → cs → Prop), (∀ zx0 zx1 zx2 zx3 zS, ((40 : Nat) = zx0 ∧ (0 : Int32) = zx1 ∧ (257 : Int32) = zx3 ∧ B 0 65536 zx2 ∧ ∃ (T5 : cF) (LT5 : cL), zS = (T5, LT5, PC a b P) ∧ IMc T5 ∧ agc [] [40] F T5) → (65536 - zx2.toInt).toNat < (65536 - x2_3.toInt).toNat → R5 zx0 zx1 zx2 zx3 zS) → b_Ar_fillI_5 UL 40 0 x2_3 257 (T5, LT5, PC a b P) R5 K from hs _ (fun _ _ _ _ _ h1 h2 => ⟨h1, h2⟩)
  intro R5 hR50
  have hR5 := fun {zx0} {zx1} {zx2} {zx3} {zS} => hR50 zx0 zx1 zx2 zx3 zS
  unfold b_Ar_fillI_5
  refine ⟨fun hc => ?_, fun hc => ?_⟩
  · have hq9 := hc
    have b10 : B 257 65536 (x2_3) := B_w (B_leR cqb_257_257_257 b6 hq9) (by decide +kernel) (by decide +kernel)
    have g11 := agc_tr (agc_refl (fs := []) (rs := [40]) (F := F)) g8 (by decide +kernel) (by decide +kernel)
    exact hK hI7 g11
  · have hq12 := (nle_lt hc)
    have b13 : B 0 256 (x2_3) := B_w (B_ltL b6 cqb_257_257_257 hq12) (by decide +kernel) (by decide +kernel)
    refine ⟨(show c_cl UL 40 = 902 from cl_40), ?_⟩
    refine ⟨(show vp_in (x2_3) 257 from vp_B b13 (by decide +kernel) (by decide +kernel)), ?_⟩
    have hI14 := IMc_u (u := 40) (i := x2_3.toNatClampNeg) (v := 0) hI7 (show B (-2147483648) 2147483647 (0) from (B_w cqb_0_0_0 (by decide +kernel) (by decide +kernel)))
    have g16 := agc_tr (agc_refl (fs := []) (rs := [40]) (F := F)) g8 (by decide +kernel) (by decide +kernel)
    have g15 := agc_r (u := 40) (w := upd (T5 40) x2_3.toNatClampNeg 0) g16 rfl (by decide +kernel)
    have q17 : (0) ≤ (x2_3).toInt ∧ (x2_3).toInt ≤ (256) := (show B 0 256 (x2_3) from B_w b13 (by decide +kernel) (by decide +kernel))
    have e18 : (x2_3 + 1).toInt = ((x2_3).toInt + 1) := (t_add b13 cqb_1_1_1 (by decide +kernel) (by decide +kernel)).trans (by rw [cqn_1])
    have q19 : (1) ≤ (x2_3 + 1).toInt ∧ (x2_3 + 1).toInt ≤ (257) := (show B 1 257 (x2_3 + 1) from B_w (B_add b13 cqb_1_1_1 (by decide +kernel) (by decide +kernel)) (by decide +kernel) (by decide +kernel))
    exact hR5 ⟨rfl, rfl, rfl, (B_w (B_add b13 cqb_1_1_1 (by decide +kernel) (by decide +kernel)) (by decide +kernel) (by decide +kernel)), _, _, rfl, hI14, g15⟩ (by show (65536 - (x2_3 + 1).toInt).toNat < (65536 - x2_3.toInt).toNat; omega)
set_option maxRecDepth 20000 in
set_option maxHeartbeats 4000000 in
theorem h_Ar_fillI_x041_x10 {a : Bool} {b : Bool} {P : Nat → Nat → Nat} {F : cF} {L : cL} {K : cs → Prop} (hI : IMc F) (hK : ∀ {Z : cF} {LZ : cL}, IMc Z → agc [] [41] F Z → K (Z, LZ, PC a b P)) : p_Ar_fillI UL 41 0 (F, L, PC a b P) K := by
  unfold p_Ar_fillI
  refine ⟨(show c_cl UL 41 = 902 from cl_41), ?_⟩
  refine ⟨fun yx0 yx1 yx2 yx3 yS => (41 : Nat) = yx0 ∧ (0 : Int32) = yx1 ∧ (257 : Int32) = yx3 ∧ B 0 65536 yx2 ∧ ∃ (T5 : cF) (LT5 : cL), yS = (T5, LT5, PC a b P) ∧ IMc T5 ∧ agc [] [41] F T5, fun yx0 yx1 yx2 yx3 yS => (65536 - yx2.toInt).toNat, ⟨rfl, rfl, rfl, (B_w cqb_0_0_0 (by decide +kernel) (by decide +kernel)), _, _, rfl, hI, (agc_refl (fs := []) (rs := [41]) (F := F))⟩, fun x0_1 x1_2 x2_3 x3_4 ST5 hIv => ?_⟩
  obtain ⟨rfl, rfl, rfl, b6, T5, LT5, rfl, hI7, g8⟩ := hIv
  suffices hs : ∀ (R5 : Nat → Int32 → Int32 → Int32 → cs → Prop), (∀ zx0 zx1 zx2 zx3 zS, ((41 : Nat) = zx0 ∧ (0 : Int32) = zx1 ∧ (257 : Int32) = zx3 ∧ B 0 65536 zx2 ∧ ∃ (T5 : cF) (LT5 : cL), zS = (T5, LT5, PC a b P) ∧ IMc T5 ∧ agc [] [41] F T5) → (65536 - zx2.toInt).toNat < (65536 - x2_3.toInt).toNat → R5 zx0 zx1 zx2 zx3 zS) → b_Ar_fillI_5 UL 41 0 x2_3 257 (T5, LT5, PC a b P) R5 K from hs _ (fun _ _ _ _ _ h1 h2 => ⟨h1, h2⟩)
  intro R5 hR50
  have hR5 := fun {zx0} {zx1} {zx2} {zx3} {zS} => hR50 zx0 zx1 zx2 zx3 zS
  unfold b_Ar_fillI_5
  refine ⟨fun hc => ?_, fun hc => ?_⟩
  · have hq9 := hc
    have b10 : B 257 65536 (x2_3) := B_w (B_leR cqb_257_257_257 b6 hq9) (by decide +kernel) (by decide +kernel)
    have g11 := agc_tr (agc_refl (fs := []) (rs := [41]) (F := F)) g8 (by decide +kernel) (by decide +kernel)
    exact hK hI7 g11
  · have hq12 := (nle_lt hc)
    have b13 : B 0 256 (x2_3) := B_w (B_ltL b6 cqb_257_257_257 hq12) (by decide +kernel) (by decide +kernel)
    refine ⟨(show c_cl UL 41 = 902 from cl_41), ?_⟩
    refine ⟨(show vp_in (x2_3) 257 from vp_B b13 (by decide +kernel) (by decide +kernel)), ?_⟩
    have hI14 := IMc_u (u := 41) (i := x2_3.toNatClampNeg) (v := 0) hI7 (show B (-2147483648) 2147483647 (0) from (B_w cqb_0_0_0 (by decide +kernel) (by decide +kernel)))
    have g16 := agc_tr (agc_refl (fs := []) (rs := [41]) (F := F)) g8 (by decide +kernel) (by decide +kernel)
    have g15 := agc_r (u := 41) (w := upd (T5 41) x2_3.toNatClampNeg 0) g16 rfl (by decide +kernel)
    have q17 : (0) ≤ (x2_3).toInt ∧ (x2_3).toInt ≤ (256) := (show B 0 256 (x2_3) from B_w b13 (by decide +kernel) (by decide +kernel))
    have e18 : (x2_3 + 1).toInt = ((x2_3).toInt + 1) := (t_add b13 cqb_1_1_1 (by decide +kernel) (by decide +kernel)).trans (by rw [cqn_1])
    have q19 : (1) ≤ (x2_3 + 1).toInt ∧ (x2_3 + 1).toInt ≤ (257) := (show B 1 257 (x2_3 + 1) from B_w (B_add b13 cqb_1_1_1 (by decide +kernel) (by decide +kernel)) (by decide +kernel) (by decide +kernel))
    exact hR5 ⟨rfl, rfl, rfl, (B_w (B_add b13 cqb_1_1_1 (by decide +kernel) (by decide +kernel)) (by decide +kernel) (by decide +kernel)), _, _, rfl, hI14, g15⟩ (by show (65536 - (x2_3 + 1).toInt).toNat < (65536 - x2_3.toInt).toNat; omega)
set_option maxRecDepth 20000 in
set_option maxHeartbeats 4000000 in
theorem h_Oc_begin_u39 {a : Bool} {b : Bool} {P : Nat → Nat → Nat} {F : cF} {L : cL} {K : cs → Prop} (hI : IMc F) (hK : ∀ {Z : cF} {LZ : cL}, IMc Z → agc [] [40, 41] F Z → K (Z, LZ, PC a b P)) : p_Oc_begin UL 39 (F, L, PC a b P) K := by
  unfold p_Oc_begin
  refine ⟨(show ¬ ((40 : Nat) = NU) from by decide +kernel), ?_⟩
  refine h_Ar_fillI_x040_x10 hI (fun {FS5_1} {LFS5_1} hI2 g3 => ?_)
  refine ⟨(show ¬ ((41 : Nat) = NU) from by decide +kernel), ?_⟩
  refine h_Ar_fillI_x041_x10 hI2 (fun {FS13_4} {LFS13_4} hI5 g6 => ?_)
  have g8 := agc_tr (agc_refl (fs := []) (rs := [40, 41]) (F := F)) g3 (by decide +kernel) (by decide +kernel)
  have g7 := agc_tr g8 g6 (by decide +kernel) (by decide +kernel)
  exact hK hI5 g7
theorem h_Oc_begin_ui32 {a : Bool} {b : Bool} {P : Nat → Nat → Nat} {u : Int32} {F : cF} {L : cL} {K : cs → Prop} (hx : B 0 1 u) (hI : IMc F) (hK : ∀ {Z : cF} {LZ : cL}, IMc Z → agc [] [34, 35, 40, 41] F Z → K (Z, LZ, PC a b P)) : p_Oc_begin UL (PC a b P 32 u.toNatClampNeg) (F, L, PC a b P) K := by
  rcases sp_01 hx with rfl | rfl
  · exact h_Oc_begin_u33 hI (fun hI g => hK hI (agc_tr agc_refl g (by decide +kernel) (by decide +kernel)))
  · exact h_Oc_begin_u39 hI (fun hI g => hK hI (agc_tr agc_refl g (by decide +kernel) (by decide +kernel)))
set_option maxRecDepth 20000 in
set_option maxHeartbeats 4000000 in
theorem h_Ar_fillI_x047_x10 {a : Bool} {b : Bool} {P : Nat → Nat → Nat} {F : cF} {L : cL} {K : cs → Prop} (hI : IMc F) (hK : ∀ {Z : cF} {LZ : cL}, IMc Z → agc [] [47] F Z → K (Z, LZ, PC a b P)) : p_Ar_fillI UL 47 0 (F, L, PC a b P) K := by
  unfold p_Ar_fillI
  refine ⟨(show c_cl UL 47 = 902 from cl_47), ?_⟩
  refine ⟨fun yx0 yx1 yx2 yx3 yS => (47 : Nat) = yx0 ∧ (0 : Int32) = yx1 ∧ (257 : Int32) = yx3 ∧ B 0 65536 yx2 ∧ ∃ (T5 : cF) (LT5 : cL), yS = (T5, LT5, PC a b P) ∧ IMc T5 ∧ agc [] [47] F T5, fun yx0 yx1 yx2 yx3 yS => (65536 - yx2.toInt).toNat, ⟨rfl, rfl, rfl, (B_w cqb_0_0_0 (by decide +kernel) (by decide +kernel)), _, _, rfl, hI, (agc_refl (fs := []) (rs := [47]) (F := F))⟩, fun x0_1 x1_2 x2_3 x3_4 ST5 hIv => ?_⟩
  obtain ⟨rfl, rfl, rfl, b6, T5, LT5, rfl, hI7, g8⟩ := hIv
  suffices hs : ∀ (R5 : Nat → Int32 → Int32 → Int32 → cs → Prop), (∀ zx0 zx1 zx2 zx3 zS, ((47 : Nat) = zx0 ∧ (0 : Int32) = zx1 ∧ (257 : Int32) = zx3 ∧ B 0 65536 zx2 ∧ ∃ (T5 : cF) (LT5 : cL), zS = (T5, LT5, PC a b P) ∧ IMc T5 ∧ agc [] [47] F T5) → (65536 - zx2.toInt).toNat < (65536 - x2_3.toInt).toNat → R5 zx0 zx1 zx2 zx3 zS) → b_Ar_fillI_5 UL 47 0 x2_3 257 (T5, LT5, PC a b P) R5 K from hs _ (fun _ _ _ _ _ h1 h2 => ⟨h1, h2⟩)
  intro R5 hR50
  have hR5 := fun {zx0} {zx1} {zx2} {zx3} {zS} => hR50 zx0 zx1 zx2 zx3 zS
  unfold b_Ar_fillI_5
  refine ⟨fun hc => ?_, fun hc => ?_⟩
  · have hq9 := hc
    have b10 : B 257 65536 (x2_3) := B_w (B_leR cqb_257_257_257 b6 hq9) (by decide +kernel) (by decide +kernel)
    have g11 := agc_tr (agc_refl (fs := []) (rs := [47]) (F := F)) g8 (by decide +kernel) (by decide +kernel)
    exact hK hI7 g11
  · have hq12 := (nle_lt hc)
    have b13 : B 0 256 (x2_3) := B_w (B_ltL b6 cqb_257_257_257 hq12) (by decide +kernel) (by decide +kernel)
    refine ⟨(show c_cl UL 47 = 902 from cl_47), ?_⟩
    refine ⟨(show vp_in (x2_3) 257 from vp_B b13 (by decide +kernel) (by decide +kernel)), ?_⟩
    have hI14 := IMc_u (u := 47) (i := x2_3.toNatClampNeg) (v := 0) hI7 (show B (-2147483648) 2147483647 (0) from (B_w cqb_0_0_0 (by decide +kernel) (by decide +kernel)))
    have g16 := agc_tr (agc_refl (fs := []) (rs := [47]) (F := F)) g8 (by decide +kernel) (by decide +kernel)
    have g15 := agc_r (u := 47) (w := upd (T5 47) x2_3.toNatClampNeg 0) g16 rfl (by decide +kernel)
    have q17 : (0) ≤ (x2_3).toInt ∧ (x2_3).toInt ≤ (256) := (show B 0 256 (x2_3) from B_w b13 (by decide +kernel) (by decide +kernel))
    have e18 : (x2_3 + 1).toInt = ((x2_3).toInt + 1) := (t_add b13 cqb_1_1_1 (by decide +kernel) (by decide +kernel)).trans (by rw [cqn_1])
    have q19 : (1) ≤ (x2_3 + 1).toInt ∧ (x2_3 + 1).toInt ≤ (257) := (show B 1 257 (x2_3 + 1) from B_w (B_add b13 cqb_1_1_1 (by decide +kernel) (by decide +kernel)) (by decide +kernel) (by decide +kernel))
    exact hR5 ⟨rfl, rfl, rfl, (B_w (B_add b13 cqb_1_1_1 (by decide +kernel) (by decide +kernel)) (by decide +kernel) (by decide +kernel)), _, _, rfl, hI14, g15⟩ (by show (65536 - (x2_3 + 1).toInt).toNat < (65536 - x2_3.toInt).toNat; omega)
set_option maxRecDepth 20000 in
set_option maxHeartbeats 4000000 in
theorem h_Ar_fillI_x048_x10 {a : Bool} {b : Bool} {P : Nat → Nat → Nat} {F : cF} {L : cL} {K : cs → Prop} (hI : IMc F) (hK : ∀ {Z : cF} {LZ : cL}, IMc Z → agc [] [48] F Z → K (Z, LZ, PC a b P)) : p_Ar_fillI UL 48 0 (F, L, PC a b P) K := by
  unfold p_Ar_fillI
  refine ⟨(show c_cl UL 48 = 902 from cl_48), ?_⟩
  refine ⟨fun yx0 yx1 yx2 yx3 yS => (48 : Nat) = yx0 ∧ (0 : Int32) = yx1 ∧ (257 : Int32) = yx3 ∧ B 0 65536 yx2 ∧ ∃ (T5 : cF) (LT5 : cL), yS = (T5, LT5, PC a b P) ∧ IMc T5 ∧ agc [] [48] F T5, fun yx0 yx1 yx2 yx3 yS => (65536 - yx2.toInt).toNat, ⟨rfl, rfl, rfl, (B_w cqb_0_0_0 (by decide +kernel) (by decide +kernel)), _, _, rfl, hI, (agc_refl (fs := []) (rs := [48]) (F := F))⟩, fun x0_1 x1_2 x2_3 x3_4 ST5 hIv => ?_⟩
  obtain ⟨rfl, rfl, rfl, b6, T5, LT5, rfl, hI7, g8⟩ := hIv
  suffices hs : ∀ (R5 : Nat → Int32 → Int32 → Int32 → cs → Prop), (∀ zx0 zx1 zx2 zx3 zS, ((48 : Nat) = zx0 ∧ (0 : Int32) = zx1 ∧ (257 : Int32) = zx3 ∧ B 0 65536 zx2 ∧ ∃ (T5 : cF) (LT5 : cL), zS = (T5, LT5, PC a b P) ∧ IMc T5 ∧ agc [] [48] F T5) → (65536 - zx2.toInt).toNat < (65536 - x2_3.toInt).toNat → R5 zx0 zx1 zx2 zx3 zS) → b_Ar_fillI_5 UL 48 0 x2_3 257 (T5, LT5, PC a b P) R5 K from hs _ (fun _ _ _ _ _ h1 h2 => ⟨h1, h2⟩)
  intro R5 hR50
  have hR5 := fun {zx0} {zx1} {zx2} {zx3} {zS} => hR50 zx0 zx1 zx2 zx3 zS
  unfold b_Ar_fillI_5
  refine ⟨fun hc => ?_, fun hc => ?_⟩
  · have hq9 := hc
    have b10 : B 257 65536 (x2_3) := B_w (B_leR cqb_257_257_257 b6 hq9) (by decide +kernel) (by decide +kernel)
    have g11 := agc_tr (agc_refl (fs := []) (rs := [48]) (F := F)) g8 (by decide +kernel) (by decide +kernel)
    exact hK hI7 g11
  · have hq12 := (nle_lt hc)
    have b13 : B 0 256 (x2_3) := B_w (B_ltL b6 cqb_257_257_257 hq12) (by decide +kernel) (by decide +kernel)
    refine ⟨(show c_cl UL 48 = 902 from cl_48), ?_⟩
    refine ⟨(show vp_in (x2_3) 257 from vp_B b13 (by decide +kernel) (by decide +kernel)), ?_⟩
    have hI14 := IMc_u (u := 48) (i := x2_3.toNatClampNeg) (v := 0) hI7 (show B (-2147483648) 2147483647 (0) from (B_w cqb_0_0_0 (by decide +kernel) (by decide +kernel)))
    have g16 := agc_tr (agc_refl (fs := []) (rs := [48]) (F := F)) g8 (by decide +kernel) (by decide +kernel)
    have g15 := agc_r (u := 48) (w := upd (T5 48) x2_3.toNatClampNeg 0) g16 rfl (by decide +kernel)
    have q17 : (0) ≤ (x2_3).toInt ∧ (x2_3).toInt ≤ (256) := (show B 0 256 (x2_3) from B_w b13 (by decide +kernel) (by decide +kernel))
    have e18 : (x2_3 + 1).toInt = ((x2_3).toInt + 1) := (t_add b13 cqb_1_1_1 (by decide +kernel) (by decide +kernel)).trans (by rw [cqn_1])
    have q19 : (1) ≤ (x2_3 + 1).toInt ∧ (x2_3 + 1).toInt ≤ (257) := (show B 1 257 (x2_3 + 1) from B_w (B_add b13 cqb_1_1_1 (by decide +kernel) (by decide +kernel)) (by decide +kernel) (by decide +kernel))
    exact hR5 ⟨rfl, rfl, rfl, (B_w (B_add b13 cqb_1_1_1 (by decide +kernel) (by decide +kernel)) (by decide +kernel) (by decide +kernel)), _, _, rfl, hI14, g15⟩ (by show (65536 - (x2_3 + 1).toInt).toNat < (65536 - x2_3.toInt).toNat; omega)
set_option maxRecDepth 20000 in
set_option maxHeartbeats 4000000 in
theorem h_Oc_begin_u46 {a : Bool} {b : Bool} {P : Nat → Nat → Nat} {F : cF} {L : cL} {K : cs → Prop} (hI : IMc F) (hK : ∀ {Z : cF} {LZ : cL}, IMc Z → agc [] [47, 48] F Z → K (Z, LZ, PC a b P)) : p_Oc_begin UL 46 (F, L, PC a b P) K := by
  unfold p_Oc_begin
  refine ⟨(show ¬ ((47 : Nat) = NU) from by decide +kernel), ?_⟩
  refine h_Ar_fillI_x047_x10 hI (fun {FS5_1} {LFS5_1} hI2 g3 => ?_)
  refine ⟨(show ¬ ((48 : Nat) = NU) from by decide +kernel), ?_⟩
  refine h_Ar_fillI_x048_x10 hI2 (fun {FS13_4} {LFS13_4} hI5 g6 => ?_)
  have g8 := agc_tr (agc_refl (fs := []) (rs := [47, 48]) (F := F)) g3 (by decide +kernel) (by decide +kernel)
  have g7 := agc_tr g8 g6 (by decide +kernel) (by decide +kernel)
  exact hK hI5 g7
set_option maxRecDepth 20000 in
set_option maxHeartbeats 4000000 in
theorem h_Ar_fillI_x053_x10 {a : Bool} {b : Bool} {P : Nat → Nat → Nat} {F : cF} {L : cL} {K : cs → Prop} (hI : IMc F) (hK : ∀ {Z : cF} {LZ : cL}, IMc Z → agc [] [53] F Z → K (Z, LZ, PC a b P)) : p_Ar_fillI UL 53 0 (F, L, PC a b P) K := by
  unfold p_Ar_fillI
  refine ⟨(show c_cl UL 53 = 902 from cl_53), ?_⟩
  refine ⟨fun yx0 yx1 yx2 yx3 yS => (53 : Nat) = yx0 ∧ (0 : Int32) = yx1 ∧ (257 : Int32) = yx3 ∧ B 0 65536 yx2 ∧ ∃ (T5 : cF) (LT5 : cL), yS = (T5, LT5, PC a b P) ∧ IMc T5 ∧ agc [] [53] F T5, fun yx0 yx1 yx2 yx3 yS => (65536 - yx2.toInt).toNat, ⟨rfl, rfl, rfl, (B_w cqb_0_0_0 (by decide +kernel) (by decide +kernel)), _, _, rfl, hI, (agc_refl (fs := []) (rs := [53]) (F := F))⟩, fun x0_1 x1_2 x2_3 x3_4 ST5 hIv => ?_⟩
  obtain ⟨rfl, rfl, rfl, b6, T5, LT5, rfl, hI7, g8⟩ := hIv
  suffices hs : ∀ (R5 : Nat → Int32 → Int32 → Int32 → cs → Prop), (∀ zx0 zx1 zx2 zx3 zS, ((53 : Nat) = zx0 ∧ (0 : Int32) = zx1 ∧ (257 : Int32) = zx3 ∧ B 0 65536 zx2 ∧ ∃ (T5 : cF) (LT5 : cL), zS = (T5, LT5, PC a b P) ∧ IMc T5 ∧ agc [] [53] F T5) → (65536 - zx2.toInt).toNat < (65536 - x2_3.toInt).toNat → R5 zx0 zx1 zx2 zx3 zS) → b_Ar_fillI_5 UL 53 0 x2_3 257 (T5, LT5, PC a b P) R5 K from hs _ (fun _ _ _ _ _ h1 h2 => ⟨h1, h2⟩)
  intro R5 hR50
  have hR5 := fun {zx0} {zx1} {zx2} {zx3} {zS} => hR50 zx0 zx1 zx2 zx3 zS
  unfold b_Ar_fillI_5
  refine ⟨fun hc => ?_, fun hc => ?_⟩
  · have hq9 := hc
    have b10 : B 257 65536 (x2_3) := B_w (B_leR cqb_257_257_257 b6 hq9) (by decide +kernel) (by decide +kernel)
    have g11 := agc_tr (agc_refl (fs := []) (rs := [53]) (F := F)) g8 (by decide +kernel) (by decide +kernel)
    exact hK hI7 g11
  · have hq12 := (nle_lt hc)
    have b13 : B 0 256 (x2_3) := B_w (B_ltL b6 cqb_257_257_257 hq12) (by decide +kernel) (by decide +kernel)
    refine ⟨(show c_cl UL 53 = 902 from cl_53), ?_⟩
    refine ⟨(show vp_in (x2_3) 257 from vp_B b13 (by decide +kernel) (by decide +kernel)), ?_⟩
    have hI14 := IMc_u (u := 53) (i := x2_3.toNatClampNeg) (v := 0) hI7 (show B (-2147483648) 2147483647 (0) from (B_w cqb_0_0_0 (by decide +kernel) (by decide +kernel)))
    have g16 := agc_tr (agc_refl (fs := []) (rs := [53]) (F := F)) g8 (by decide +kernel) (by decide +kernel)
    have g15 := agc_r (u := 53) (w := upd (T5 53) x2_3.toNatClampNeg 0) g16 rfl (by decide +kernel)
    have q17 : (0) ≤ (x2_3).toInt ∧ (x2_3).toInt ≤ (256) := (show B 0 256 (x2_3) from B_w b13 (by decide +kernel) (by decide +kernel))
    have e18 : (x2_3 + 1).toInt = ((x2_3).toInt + 1) := (t_add b13 cqb_1_1_1 (by decide +kernel) (by decide +kernel)).trans (by rw [cqn_1])
    have q19 : (1) ≤ (x2_3 + 1).toInt ∧ (x2_3 + 1).toInt ≤ (257) := (show B 1 257 (x2_3 + 1) from B_w (B_add b13 cqb_1_1_1 (by decide +kernel) (by decide +kernel)) (by decide +kernel) (by decide +kernel))
    exact hR5 ⟨rfl, rfl, rfl, (B_w (B_add b13 cqb_1_1_1 (by decide +kernel) (by decide +kernel)) (by decide +kernel) (by decide +kernel)), _, _, rfl, hI14, g15⟩ (by show (65536 - (x2_3 + 1).toInt).toNat < (65536 - x2_3.toInt).toNat; omega)
set_option maxRecDepth 20000 in
set_option maxHeartbeats 4000000 in
theorem h_Ar_fillI_x054_x10 {a : Bool} {b : Bool} {P : Nat → Nat → Nat} {F : cF} {L : cL} {K : cs → Prop} (hI : IMc F) (hK : ∀ {Z : cF} {LZ : cL}, IMc Z → agc [] [54] F Z → K (Z, LZ, PC a b P)) : p_Ar_fillI UL 54 0 (F, L, PC a b P) K := by
  unfold p_Ar_fillI
  refine ⟨(show c_cl UL 54 = 902 from cl_54), ?_⟩
  refine ⟨fun yx0 yx1 yx2 yx3 yS => (54 : Nat) = yx0 ∧ (0 : Int32) = yx1 ∧ (257 : Int32) = yx3 ∧ B 0 65536 yx2 ∧ ∃ (T5 : cF) (LT5 : cL), yS = (T5, LT5, PC a b P) ∧ IMc T5 ∧ agc [] [54] F T5, fun yx0 yx1 yx2 yx3 yS => (65536 - yx2.toInt).toNat, ⟨rfl, rfl, rfl, (B_w cqb_0_0_0 (by decide +kernel) (by decide +kernel)), _, _, rfl, hI, (agc_refl (fs := []) (rs := [54]) (F := F))⟩, fun x0_1 x1_2 x2_3 x3_4 ST5 hIv => ?_⟩
  obtain ⟨rfl, rfl, rfl, b6, T5, LT5, rfl, hI7, g8⟩ := hIv
  suffices hs : ∀ (R5 : Nat → Int32 → Int32 → Int32 → cs → Prop), (∀ zx0 zx1 zx2 zx3 zS, ((54 : Nat) = zx0 ∧ (0 : Int32) = zx1 ∧ (257 : Int32) = zx3 ∧ B 0 65536 zx2 ∧ ∃ (T5 : cF) (LT5 : cL), zS = (T5, LT5, PC a b P) ∧ IMc T5 ∧ agc [] [54] F T5) → (65536 - zx2.toInt).toNat < (65536 - x2_3.toInt).toNat → R5 zx0 zx1 zx2 zx3 zS) → b_Ar_fillI_5 UL 54 0 x2_3 257 (T5, LT5, PC a b P) R5 K from hs _ (fun _ _ _ _ _ h1 h2 => ⟨h1, h2⟩)
  intro R5 hR50
  have hR5 := fun {zx0} {zx1} {zx2} {zx3} {zS} => hR50 zx0 zx1 zx2 zx3 zS
  unfold b_Ar_fillI_5
  refine ⟨fun hc => ?_, fun hc => ?_⟩
  · have hq9 := hc
    have b10 : B 257 65536 (x2_3) := B_w (B_leR cqb_257_257_257 b6 hq9) (by decide +kernel) (by decide +kernel)
    have g11 := agc_tr (agc_refl (fs := []) (rs := [54]) (F := F)) g8 (by decide +kernel) (by decide +kernel)
    exact hK hI7 g11
  · have hq12 := (nle_lt hc)
    have b13 : B 0 256 (x2_3) := B_w (B_ltL b6 cqb_257_257_257 hq12) (by decide +kernel) (by decide +kernel)
    refine ⟨(show c_cl UL 54 = 902 from cl_54), ?_⟩
    refine ⟨(show vp_in (x2_3) 257 from vp_B b13 (by decide +kernel) (by decide +kernel)), ?_⟩
    have hI14 := IMc_u (u := 54) (i := x2_3.toNatClampNeg) (v := 0) hI7 (show B (-2147483648) 2147483647 (0) from (B_w cqb_0_0_0 (by decide +kernel) (by decide +kernel)))
    have g16 := agc_tr (agc_refl (fs := []) (rs := [54]) (F := F)) g8 (by decide +kernel) (by decide +kernel)
    have g15 := agc_r (u := 54) (w := upd (T5 54) x2_3.toNatClampNeg 0) g16 rfl (by decide +kernel)
    have q17 : (0) ≤ (x2_3).toInt ∧ (x2_3).toInt ≤ (256) := (show B 0 256 (x2_3) from B_w b13 (by decide +kernel) (by decide +kernel))
    have e18 : (x2_3 + 1).toInt = ((x2_3).toInt + 1) := (t_add b13 cqb_1_1_1 (by decide +kernel) (by decide +kernel)).trans (by rw [cqn_1])
    have q19 : (1) ≤ (x2_3 + 1).toInt ∧ (x2_3 + 1).toInt ≤ (257) := (show B 1 257 (x2_3 + 1) from B_w (B_add b13 cqb_1_1_1 (by decide +kernel) (by decide +kernel)) (by decide +kernel) (by decide +kernel))
    exact hR5 ⟨rfl, rfl, rfl, (B_w (B_add b13 cqb_1_1_1 (by decide +kernel) (by decide +kernel)) (by decide +kernel) (by decide +kernel)), _, _, rfl, hI14, g15⟩ (by show (65536 - (x2_3 + 1).toInt).toNat < (65536 - x2_3.toInt).toNat; omega)
set_option maxRecDepth 20000 in
set_option maxHeartbeats 4000000 in
theorem h_Oc_begin_u52 {a : Bool} {b : Bool} {P : Nat → Nat → Nat} {F : cF} {L : cL} {K : cs → Prop} (hI : IMc F) (hK : ∀ {Z : cF} {LZ : cL}, IMc Z → agc [] [53, 54] F Z → K (Z, LZ, PC a b P)) : p_Oc_begin UL 52 (F, L, PC a b P) K := by
  unfold p_Oc_begin
  refine ⟨(show ¬ ((53 : Nat) = NU) from by decide +kernel), ?_⟩
  refine h_Ar_fillI_x053_x10 hI (fun {FS5_1} {LFS5_1} hI2 g3 => ?_)
  refine ⟨(show ¬ ((54 : Nat) = NU) from by decide +kernel), ?_⟩
  refine h_Ar_fillI_x054_x10 hI2 (fun {FS13_4} {LFS13_4} hI5 g6 => ?_)
  have g8 := agc_tr (agc_refl (fs := []) (rs := [53, 54]) (F := F)) g3 (by decide +kernel) (by decide +kernel)
  have g7 := agc_tr g8 g6 (by decide +kernel) (by decide +kernel)
  exact hK hI5 g7
theorem h_Oc_begin_ui45 {a : Bool} {b : Bool} {P : Nat → Nat → Nat} {u : Int32} {F : cF} {L : cL} {K : cs → Prop} (hx : B 0 1 u) (hI : IMc F) (hK : ∀ {Z : cF} {LZ : cL}, IMc Z → agc [] [47, 48, 53, 54] F Z → K (Z, LZ, PC a b P)) : p_Oc_begin UL (PC a b P 45 u.toNatClampNeg) (F, L, PC a b P) K := by
  rcases sp_01 hx with rfl | rfl
  · exact h_Oc_begin_u46 hI (fun hI g => hK hI (agc_tr agc_refl g (by decide +kernel) (by decide +kernel)))
  · exact h_Oc_begin_u52 hI (fun hI g => hK hI (agc_tr agc_refl g (by decide +kernel) (by decide +kernel)))
set_option maxRecDepth 20000 in
set_option maxHeartbeats 4000000 in
theorem h_Pa_makeCodes_u4 {a : Bool} {b : Bool} {P : Nat → Nat → Nat} {x1 : Int32} {F : cF} {L : cL} {K : cs → Prop} (b_x1 : B 0 65535 x1) (hI : IMc F) (pre0 : UPs 22 F) (hK : ∀ {bZ : Bool} {Z : cF} {LZ : cL}, IMc Z → agc [409, 410, 411, 501, 2701, 3304, 3904, 4604, 5204] [6, 28, 29, 30, 31, 34, 35, 36, 37, 38, 40, 41, 42, 43, 44, 47, 48, 49, 50, 51, 53, 54, 55, 56, 57, 58, 999] F Z → (UPs 22 Z) → K (Z, LZ, PC a bZ P)) : p_Pa_makeCodes UL 4 x1 (F, L, PC a b P) K := by
  unfold p_Pa_makeCodes
  refine ⟨fun yx1 yx2 yS => x1 = yx1 ∧ B 0 2 yx2 ∧ ∃ (T3 : cF) (LT3 : cL), yS = (T3, LT3, PC a b P) ∧ IMc T3 ∧ agc [] [34, 35, 40, 41, 47, 48, 53, 54, 999] F T3 ∧ (UPs 22 T3), fun yx1 yx2 yS => (2 - yx2.toInt).toNat, ⟨rfl, (B_w cqb_0_0_0 (by decide +kernel) (by decide +kernel)), _, _, rfl, hI, (agc_refl (fs := []) (rs := [34, 35, 40, 41, 47, 48, 53, 54, 999]) (F := F)), (UPs_tr (F := F) (G := F) pre0 rfl rfl rfl)⟩, fun x1_1 x2_2 ST3 hIv => ?_⟩
  obtain ⟨rfl, b4, T3, LT3, rfl, hI5, g6, r7⟩ := hIv
  suffices hs : ∀ (R2 : Int32 → Int32 → cs → Prop), (∀ zx1 zx2 zS, (x1 = zx1 ∧ B 0 2 zx2 ∧ ∃ (T3 : cF) (LT3 : cL), zS = (T3, LT3, PC a b P) ∧ IMc T3 ∧ agc [] [34, 35, 40, 41, 47, 48, 53, 54, 999] F T3 ∧ (UPs 22 T3)) → (2 - zx2.toInt).toNat < (2 - x2_2.toInt).toNat → R2 zx1 zx2 zS) → b_Pa_makeCodes_2 UL 4 x1 x2_2 (T3, LT3, PC a b P) R2 K from hs _ (fun _ _ _ h1 h2 => ⟨h1, h2⟩)
  intro R2 hR20
  have hR2 := fun {zx1} {zx2} {zS} => hR20 zx1 zx2 zS
  unfold b_Pa_makeCodes_2
  refine ⟨fun hc => ?_, fun hc => ?_⟩
  · have hq8 := hc
    have q9 : (0) ≤ (F 4 8).toInt ∧ (F 4 8).toInt ≤ (2) := (show B 0 2 (F 4 8) from hI 4 8)
    have e10 : (T3 4 8).toInt = (F 4 8).toInt := (congrArg Int32.toInt (g6.1 4 8 rfl rfl)).trans rfl
    have q11 : (0) ≤ (x2_2).toInt ∧ (x2_2).toInt ≤ (2) := (show B 0 2 (x2_2) from B_w b4 (by decide +kernel) (by decide +kernel))
    have i12 : (T3 4 8).toInt ≤ (x2_2).toInt := i_le hq8
    have hI13 := IMc_u (u := 4) (i := 9) (v := 1) hI5 (show B 0 1 (1) from (B_w cqb_1_1_1 (by decide +kernel) (by decide +kernel)))
    refine h_Pa_writeData_u4 b_x1 hI13 (UPs_tr (F := T3) (G := va_up T3 4 (upd (T3 4) 9 1)) r7 (Eq.trans (g6.1 22 5 rfl rfl) (Eq.symm (g6.1 22 5 rfl rfl))) (Eq.trans (g6.1 22 4 rfl rfl) (Eq.symm (g6.1 22 4 rfl rfl))) (Eq.trans (g6.1 22 6 rfl rfl) (Eq.symm (g6.1 22 6 rfl rfl)))) (fun {FS41_14} {LFS41_14} hI15 g16 => ?_)
    have hI22 := IMc_u (u := 4) (i := 9) (v := 0) hI15 (show B 0 1 (0) from (B_w cqb_0_0_0 (by decide +kernel) (by decide +kernel)))
    refine ⟨fun yx2 yS => B 0 2 yx2 ∧ ∃ (bT18 : Bool) (T18 : cF) (LT18 : cL), yS = (T18, LT18, PC a bT18 P) ∧ IMc T18 ∧ agc [2701, 3304, 3904, 4604, 5204] [28, 29, 30, 31, 35, 36, 37, 38, 41, 42, 43, 44, 48, 49, 50, 51, 54, 55, 56, 57, 999] (va_up FS41_14 4 (upd (FS41_14 4) 9 0)) T18 ∧ (UPs 22 T18), fun yx2 yS => (2 - yx2.toInt).toNat, ⟨(B_w cqb_0_0_0 (by decide +kernel) (by decide +kernel)), _, _, _, rfl, hI22, (agc_refl (fs := [2701, 3304, 3904, 4604, 5204]) (rs := [28, 29, 30, 31, 35, 36, 37, 38, 41, 42, 43, 44, 48, 49, 50, 51, 54, 55, 56, 57, 999]) (F := va_up FS41_14 4 (upd (FS41_14 4) 9 0))), (UPs_tr (F := T3) (G := va_up FS41_14 4 (upd (FS41_14 4) 9 0)) r7 (Eq.trans ((g16.1 22 5 rfl rfl).trans (g6.1 22 5 rfl rfl)) (Eq.symm (g6.1 22 5 rfl rfl))) (Eq.trans ((g16.1 22 4 rfl rfl).trans (g6.1 22 4 rfl rfl)) (Eq.symm (g6.1 22 4 rfl rfl))) (Eq.trans ((g16.1 22 6 rfl rfl).trans (g6.1 22 6 rfl rfl)) (Eq.symm (g6.1 22 6 rfl rfl))))⟩, fun x2_17 ST18 hIv => ?_⟩
    obtain ⟨b19, bT18, T18, LT18, rfl, hI20, g21, r23⟩ := hIv
    suffices hs : ∀ (R51 : Int32 → cs → Prop), (∀ zx2 zS, (B 0 2 zx2 ∧ ∃ (bT18 : Bool) (T18 : cF) (LT18 : cL), zS = (T18, LT18, PC a bT18 P) ∧ IMc T18 ∧ agc [2701, 3304, 3904, 4604, 5204] [28, 29, 30, 31, 35, 36, 37, 38, 41, 42, 43, 44, 48, 49, 50, 51, 54, 55, 56, 57, 999] (va_up FS41_14 4 (upd (FS41_14 4) 9 0)) T18 ∧ (UPs 22 T18)) → (2 - zx2.toInt).toNat < (2 - x2_17.toInt).toNat → R51 zx2 zS) → b_Pa_makeCodes_51 UL 4 x2_17 (T18, LT18, PC a bT18 P) R51 K from hs _ (fun _ _ h1 h2 => ⟨h1, h2⟩)
    intro R51 hR510
    have hR51 := fun {zx2} {zS} => hR510 zx2 zS
    unfold b_Pa_makeCodes_51
    refine ⟨fun hc => ?_, fun hc => ?_⟩
    · have hq24 := hc
      have e25 : (T18 4 8).toInt = (F 4 8).toInt := (congrArg Int32.toInt (((g21.1 4 8 rfl rfl).trans (g16.1 4 8 rfl rfl)).trans (g6.1 4 8 rfl rfl))).trans rfl
      have q26 : (0) ≤ (x2_17).toInt ∧ (x2_17).toInt ≤ (2) := (show B 0 2 (x2_17) from B_w b19 (by decide +kernel) (by decide +kernel))
      have i27 : (T18 4 8).toInt ≤ (x2_17).toInt := i_le hq24
      have g32 := agc_tr (agc_refl (fs := [409, 410, 411, 501, 2701, 3304, 3904, 4604, 5204]) (rs := [6, 28, 29, 30, 31, 34, 35, 36, 37, 38, 40, 41, 42, 43, 44, 47, 48, 49, 50, 51, 53, 54, 55, 56, 57, 58, 999]) (F := F)) g6 (by decide +kernel) (by decide +kernel)
      have g31 := agc_f (u := 4) (k := 9) (v := 1) g32 rfl (by decide +kernel)
      have g30 := agc_tr g31 g16 (by decide +kernel) (by decide +kernel)
      have g29 := agc_f (u := 4) (k := 9) (v := 0) g30 rfl (by decide +kernel)
      have g28 := agc_tr g29 g21 (by decide +kernel) (by decide +kernel)
      exact hK hI20 g28 (UPs_tr (F := T18) (G := T18) r23 (Eq.trans (((g21.1 22 5 rfl rfl).trans (g16.1 22 5 rfl rfl)).trans (g6.1 22 5 rfl rfl)) (Eq.symm (((g21.1 22 5 rfl rfl).trans (g16.1 22 5 rfl rfl)).trans (g6.1 22 5 rfl rfl)))) (Eq.trans (((g21.1 22 4 rfl rfl).trans (g16.1 22 4 rfl rfl)).trans (g6.1 22 4 rfl rfl)) (Eq.symm (((g21.1 22 4 rfl rfl).trans (g16.1 22 4 rfl rfl)).trans (g6.1 22 4 rfl rfl)))) (Eq.trans (((g21.1 22 6 rfl rfl).trans (g16.1 22 6 rfl rfl)).trans (g6.1 22 6 rfl rfl)) (Eq.symm (((g21.1 22 6 rfl rfl).trans (g16.1 22 6 rfl rfl)).trans (g6.1 22 6 rfl rfl)))))
    · have hq33 := (nle_lt hc)
      have b34 : B 0 1 (x2_17) := B_w (B_ltL b19 (B_eq (((g21.1 4 8 rfl rfl).trans (g16.1 4 8 rfl rfl)).trans (g6.1 4 8 rfl rfl)) (show B 0 2 (F 4 8) from hI 4 8)) hq33) (by decide +kernel) (by decide +kernel)
      have b35 : B 1 2 (F 4 8) := B_w (B_eq (Eq.symm (((g21.1 4 8 rfl rfl).trans (g16.1 4 8 rfl rfl)).trans (g6.1 4 8 rfl rfl))) (B_ltR b19 (B_eq (((g21.1 4 8 rfl rfl).trans (g16.1 4 8 rfl rfl)).trans (g6.1 4 8 rfl rfl)) (show B 0 2 (F 4 8) from hI 4 8)) hq33)) (by decide +kernel) (by decide +kernel)
      have q36 : (1) ≤ (F 4 8).toInt ∧ (F 4 8).toInt ≤ (2) := (show B 1 2 (F 4 8) from B_w b35 (by decide +kernel) (by decide +kernel))
      have q37 : (0) ≤ (x2_17).toInt ∧ (x2_17).toInt ≤ (1) := (show B 0 1 (x2_17) from B_w b34 (by decide +kernel) (by decide +kernel))
      have e38 : (T18 4 8).toInt = (F 4 8).toInt := (congrArg Int32.toInt (((g21.1 4 8 rfl rfl).trans (g16.1 4 8 rfl rfl)).trans (g6.1 4 8 rfl rfl))).trans rfl
      have i39 : (x2_17).toInt < (T18 4 8).toInt := i_lt hq33
      refine ⟨(show ¬ ((27 : Nat) = NU) from by decide +kernel), ?_⟩
      refine ⟨(show ¬ ((32 : Nat) = NU) from by decide +kernel), ?_⟩
      refine ⟨(show c_cl UL 32 = 950 from cl_32), ?_⟩
      refine ⟨(show vp_in (x2_17) 2 from vp_B b34 (by decide +kernel) (by decide +kernel)), ?_⟩
      refine ⟨(show ¬ ((PC a bT18 P) 32 x2_17.toNatClampNeg = NU) from nu_32 b34), ?_⟩
      refine ⟨(show c_cl UL 27 = 4 from cl_27), ?_⟩
      refine h_Li_setLengths_u27_x1i32 b34 hI20 (fun {bFS69_40} {FS69_40} {LFS69_40} hI41 g42 => ?_)
      refine ⟨(show ¬ ((32 : Nat) = NU) from by decide +kernel), ?_⟩
      refine ⟨(show c_cl UL 32 = 950 from cl_32), ?_⟩
      refine ⟨(show vp_in (x2_17) 2 from vp_B b34 (by decide +kernel) (by decide +kernel)), ?_⟩
      refine ⟨(show ¬ ((PC a bFS69_40 P) 32 x2_17.toNatClampNeg = NU) from nu_32 b34), ?_⟩
      refine ⟨(show c_cl UL ((PC a bFS69_40 P) 32 x2_17.toNatClampNeg) = 5 from cx_32 b34), ?_⟩
      refine h_Oc_giveOut_ui32 b34 hI41 (fun {FS78_43} {LFS78_43} hI44 g45 => ?_)
      refine ⟨(show ¬ ((27 : Nat) = NU) from by decide +kernel), ?_⟩
      refine ⟨(show ¬ ((45 : Nat) = NU) from by decide +kernel), ?_⟩
      refine ⟨(show c_cl UL 45 = 950 from cl_45), ?_⟩
      refine ⟨(show vp_in (x2_17) 2 from vp_B b34 (by decide +kernel) (by decide +kernel)), ?_⟩
      refine ⟨(show ¬ ((PC a bFS69_40 P) 45 x2_17.toNatClampNeg = NU) from nu_45 b34), ?_⟩
      refine ⟨(show c_cl UL 27 = 4 from cl_27), ?_⟩
      refine h_Li_setLengths_u27_x1i45 b34 hI44 (fun {bFS91_46} {FS91_46} {LFS91_46} hI47 g48 => ?_)
      refine ⟨(show ¬ ((45 : Nat) = NU) from by decide +kernel), ?_⟩
      refine ⟨(show c_cl UL 45 = 950 from cl_45), ?_⟩
      refine ⟨(show vp_in (x2_17) 2 from vp_B b34 (by decide +kernel) (by decide +kernel)), ?_⟩
      refine ⟨(show ¬ ((PC a bFS91_46 P) 45 x2_17.toNatClampNeg = NU) from nu_45 b34), ?_⟩
      refine ⟨(show c_cl UL ((PC a bFS91_46 P) 45 x2_17.toNatClampNeg) = 5 from cx_45 b34), ?_⟩
      refine h_Oc_giveOut_ui45 b34 hI47 (fun {FS100_49} {LFS100_49} hI50 g51 => ?_)
      have g56 := agc_tr (agc_refl (fs := [2701, 3304, 3904, 4604, 5204]) (rs := [28, 29, 30, 31, 35, 36, 37, 38, 41, 42, 43, 44, 48, 49, 50, 51, 54, 55, 56, 57, 999]) (F := va_up FS41_14 4 (upd (FS41_14 4) 9 0))) g21 (by decide +kernel) (by decide +kernel)
      have g55 := agc_tr g56 g42 (by decide +kernel) (by decide +kernel)
      have g54 := agc_tr g55 g45 (by decide +kernel) (by decide +kernel)
      have g53 := agc_tr g54 g48 (by decide +kernel) (by decide +kernel)
      have g52 := agc_tr g53 g51 (by decide +kernel) (by decide +kernel)
      have e57 : (x2_17 + 1).toInt = ((x2_17).toInt + 1) := (t_add b34 cqb_1_1_1 (by decide +kernel) (by decide +kernel)).trans (by rw [cqn_1])
      have q58 : (1) ≤ (x2_17 + 1).toInt ∧ (x2_17 + 1).toInt ≤ (2) := (show B 1 2 (x2_17 + 1) from B_w (B_add b34 cqb_1_1_1 (by decide +kernel) (by decide +kernel)) (by decide +kernel) (by decide +kernel))
      exact hR51 ⟨(B_w (B_add b34 cqb_1_1_1 (by decide +kernel) (by decide +kernel)) (by decide +kernel) (by decide +kernel)), _, _, _, rfl, hI50, g52, (UPs_tr (F := T18) (G := FS100_49) r23 (Eq.trans (((((((g51.1 22 5 rfl rfl).trans (g48.1 22 5 rfl rfl)).trans (g45.1 22 5 rfl rfl)).trans (g42.1 22 5 rfl rfl)).trans (g21.1 22 5 rfl rfl)).trans (g16.1 22 5 rfl rfl)).trans (g6.1 22 5 rfl rfl)) (Eq.symm (((g21.1 22 5 rfl rfl).trans (g16.1 22 5 rfl rfl)).trans (g6.1 22 5 rfl rfl)))) (Eq.trans (((((((g51.1 22 4 rfl rfl).trans (g48.1 22 4 rfl rfl)).trans (g45.1 22 4 rfl rfl)).trans (g42.1 22 4 rfl rfl)).trans (g21.1 22 4 rfl rfl)).trans (g16.1 22 4 rfl rfl)).trans (g6.1 22 4 rfl rfl)) (Eq.symm (((g21.1 22 4 rfl rfl).trans (g16.1 22 4 rfl rfl)).trans (g6.1 22 4 rfl rfl)))) (Eq.trans (((((((g51.1 22 6 rfl rfl).trans (g48.1 22 6 rfl rfl)).trans (g45.1 22 6 rfl rfl)).trans (g42.1 22 6 rfl rfl)).trans (g21.1 22 6 rfl rfl)).trans (g16.1 22 6 rfl rfl)).trans (g6.1 22 6 rfl rfl)) (Eq.symm (((g21.1 22 6 rfl rfl).trans (g16.1 22 6 rfl rfl)).trans (g6.1 22 6 rfl rfl)))))⟩ (by show (2 - (x2_17 + 1).toInt).toNat < (2 - x2_17.toInt).toNat; omega)
  · have hq59 := (nle_lt hc)
    have b60 : B 0 1 (x2_2) := B_w (B_ltL b4 (B_eq (g6.1 4 8 rfl rfl) (show B 0 2 (F 4 8) from hI 4 8)) hq59) (by decide +kernel) (by decide +kernel)
    have b61 : B 1 2 (F 4 8) := B_w (B_eq (Eq.symm (g6.1 4 8 rfl rfl)) (B_ltR b4 (B_eq (g6.1 4 8 rfl rfl) (show B 0 2 (F 4 8) from hI 4 8)) hq59)) (by decide +kernel) (by decide +kernel)
    have q62 : (0) ≤ (x2_2).toInt ∧ (x2_2).toInt ≤ (1) := (show B 0 1 (x2_2) from B_w b60 (by decide +kernel) (by decide +kernel))
    have q63 : (1) ≤ (F 4 8).toInt ∧ (F 4 8).toInt ≤ (2) := (show B 1 2 (F 4 8) from B_w b61 (by decide +kernel) (by decide +kernel))
    have e64 : (T3 4 8).toInt = (F 4 8).toInt := (congrArg Int32.toInt (g6.1 4 8 rfl rfl)).trans rfl
    have i65 : (x2_2).toInt < (T3 4 8).toInt := i_lt hq59
    refine ⟨(show ¬ ((32 : Nat) = NU) from by decide +kernel), ?_⟩
    refine ⟨(show c_cl UL 32 = 950 from cl_32), ?_⟩
    refine ⟨(show vp_in (x2_2) 2 from vp_B b60 (by decide +kernel) (by decide +kernel)), ?_⟩
    refine ⟨(show ¬ ((PC a b P) 32 x2_2.toNatClampNeg = NU) from nu_32 b60), ?_⟩
    refine ⟨(show c_cl UL ((PC a b P) 32 x2_2.toNatClampNeg) = 5 from cx_32 b60), ?_⟩
    refine h_Oc_begin_ui32 b60 hI5 (fun {FS16_66} {LFS16_66} hI67 g68 => ?_)
    refine ⟨(show ¬ ((45 : Nat) = NU) from by decide +kernel), ?_⟩
    refine ⟨(show c_cl UL 45 = 950 from cl_45), ?_⟩
    refine ⟨(show vp_in (x2_2) 2 from vp_B b60 (by decide +kernel) (by decide +kernel)), ?_⟩
    refine ⟨(show ¬ ((PC a b P) 45 x2_2.toNatClampNeg = NU) from nu_45 b60), ?_⟩
    refine ⟨(show c_cl UL ((PC a b P) 45 x2_2.toNatClampNeg) = 5 from cx_45 b60), ?_⟩
    refine h_Oc_begin_ui45 b60 hI67 (fun {FS25_69} {LFS25_69} hI70 g71 => ?_)
    have g74 := agc_tr (agc_refl (fs := []) (rs := [34, 35, 40, 41, 47, 48, 53, 54, 999]) (F := F)) g6 (by decide +kernel) (by decide +kernel)
    have g73 := agc_tr g74 g68 (by decide +kernel) (by decide +kernel)
    have g72 := agc_tr g73 g71 (by decide +kernel) (by decide +kernel)
    have e75 : (x2_2 + 1).toInt = ((x2_2).toInt + 1) := (t_add b60 cqb_1_1_1 (by decide +kernel) (by decide +kernel)).trans (by rw [cqn_1])
    have q76 : (1) ≤ (x2_2 + 1).toInt ∧ (x2_2 + 1).toInt ≤ (2) := (show B 1 2 (x2_2 + 1) from B_w (B_add b60 cqb_1_1_1 (by decide +kernel) (by decide +kernel)) (by decide +kernel) (by decide +kernel))
    exact hR2 ⟨rfl, (B_w (B_add b60 cqb_1_1_1 (by decide +kernel) (by decide +kernel)) (by decide +kernel) (by decide +kernel)), _, _, rfl, hI70, g72, (UPs_tr (F := T3) (G := FS25_69) r7 (Eq.trans (((g71.1 22 5 rfl rfl).trans (g68.1 22 5 rfl rfl)).trans (g6.1 22 5 rfl rfl)) (Eq.symm (g6.1 22 5 rfl rfl))) (Eq.trans (((g71.1 22 4 rfl rfl).trans (g68.1 22 4 rfl rfl)).trans (g6.1 22 4 rfl rfl)) (Eq.symm (g6.1 22 4 rfl rfl))) (Eq.trans (((g71.1 22 6 rfl rfl).trans (g68.1 22 6 rfl rfl)).trans (g6.1 22 6 rfl rfl)) (Eq.symm (g6.1 22 6 rfl rfl))))⟩ (by show (2 - (x2_2 + 1).toInt).toNat < (2 - x2_2.toInt).toNat; omega)
set_option maxRecDepth 20000 in
set_option maxHeartbeats 4000000 in
theorem h_B_pack_u0 {a : Bool} {b : Bool} {P : Nat → Nat → Nat} {x1 : Int32} {x2 : Int32} {x3 : Int32} {F : cF} {L : cL} {K : Int32 → cs → Prop} {T : Nat → cs → Prop} (hI : IMc F) (hK : ∀ {v : Int32} {bZ : Bool} {Z : cF} {LZ : cL}, B 0 65536 v → IMc Z → agc [408, 409, 410, 411, 501, 1200, 1201, 1202, 1205, 1206, 1207, 1208, 1216, 1217, 2200, 2204, 2205, 2206, 2701, 3304, 3904, 4604, 5204] [6, 9, 10, 13, 14, 15, 16, 17, 18, 19, 21, 23, 24, 25, 26, 28, 29, 30, 31, 34, 35, 36, 37, 38, 40, 41, 42, 43, 44, 47, 48, 49, 50, 51, 53, 54, 55, 56, 57, 58, 999] F Z → K v (Z, LZ, PC a bZ P)) (hT14 : ∀ {Z : cF} {LZ : cL}, IMc Z → agc [] [] F Z → T 14 (Z, LZ, PC a b P)) : p_B_pack UL 0 x1 x2 x3 (F, L, PC a b P) K T := by
  unfold p_B_pack
  refine h_B_isWithin  (fun {v3_1} b2 r3 r4 => ?_)
  rcases sp_01 b2 with rfl | rfl
  · have r5 : ((0 : Int) = 0) ∨ ((1 ≤ x1.toInt) ∧ (x1.toInt ≤ 2)) := r3
    clear r3
    have r6 : ((0 : Int) = 1) ∨ ((x1.toInt < 1) ∨ (2 < x1.toInt)) := r4
    clear r4
    refine ⟨fun hc => ?_, fun hc => ?_⟩
    · have i7 : (0 : Int32).toInt = (0 : Int32).toInt := congrArg Int32.toInt hc
      have n8 : (0 : Int32).toInt = 0 := cqn_0
      have n9 : (0 : Int32).toInt = 0 := cqn_0
      unfold b_B_pack_28
      exact hT14 hI (agc_refl (fs := []) (rs := []) (F := F)) 
    · exact (hc (B_z cqb_0_0_0)).elim
  · have r10 : ((1 : Int) = 0) ∨ ((1 ≤ x1.toInt) ∧ (x1.toInt ≤ 2)) := r3
    clear r3
    have r11 : ((1 : Int) = 1) ∨ ((x1.toInt < 1) ∨ (2 < x1.toInt)) := r4
    clear r4
    have b12 : B 1 2 (x1) := ⟨by omega, by omega⟩
    refine ⟨fun hc => ?_, fun hc => ?_⟩
    · exact (B_dis cqb_1_1_1 cqb_0_0_0 hc (by decide +kernel)).elim
    · have i13 : (1 : Int32).toInt ≠ (0 : Int32).toInt := i_ne hc
      have n14 : (1 : Int32).toInt = 1 := cqn_1
      have n15 : (0 : Int32).toInt = 0 := cqn_0
      refine h_B_isWithin  (fun {v12_16} b17 r18 r19 => ?_)
      rcases sp_01 b17 with rfl | rfl
      · have r20 : ((0 : Int) = 0) ∨ ((1 ≤ x2.toInt) ∧ (x2.toInt ≤ 2)) := r18
        clear r18
        have r21 : ((0 : Int) = 1) ∨ ((x2.toInt < 1) ∨ (2 < x2.toInt)) := r19
        clear r19
        refine ⟨fun hc => ?_, fun hc => ?_⟩
        · have i22 : (0 : Int32).toInt = (0 : Int32).toInt := congrArg Int32.toInt hc
          have n23 : (0 : Int32).toInt = 0 := cqn_0
          have n24 : (0 : Int32).toInt = 0 := cqn_0
          unfold b_B_pack_28
          exact hT14 hI (agc_refl (fs := []) (rs := []) (F := F)) 
        · exact (hc (B_z cqb_0_0_0)).elim
      · have r25 : ((1 : Int) = 0) ∨ ((1 ≤ x2.toInt) ∧ (x2.toInt ≤ 2)) := r18
        clear r18
        have r26 : ((1 : Int) = 1) ∨ ((x2.toInt < 1) ∨ (2 < x2.toInt)) := r19
        clear r19
        have b27 : B 1 2 (x2) := ⟨by omega, by omega⟩
        refine ⟨fun hc => ?_, fun hc => ?_⟩
        · exact (B_dis cqb_1_1_1 cqb_0_0_0 hc (by decide +kernel)).elim
        · have i28 : (1 : Int32).toInt ≠ (0 : Int32).toInt := i_ne hc
          have n29 : (1 : Int32).toInt = 1 := cqn_1
          have n30 : (0 : Int32).toInt = 0 := cqn_0
          refine h_B_isWithin  (fun {v22_31} b32 r33 r34 => ?_)
          rcases sp_01 b32 with rfl | rfl
          · have r35 : ((0 : Int) = 0) ∨ ((0 ≤ x3.toInt) ∧ (x3.toInt ≤ 65535)) := r33
            clear r33
            have r36 : ((0 : Int) = 1) ∨ ((x3.toInt < 0) ∨ (65535 < x3.toInt)) := r34
            clear r34
            refine ⟨fun hc => ?_, fun hc => ?_⟩
            · exact (hc (B_z cqb_0_0_0)).elim
            · have i37 : (0 : Int32).toInt = (0 : Int32).toInt := congrArg Int32.toInt hc
              have n38 : (0 : Int32).toInt = 0 := cqn_0
              have n39 : (0 : Int32).toInt = 0 := cqn_0
              unfold b_B_pack_28
              exact hT14 hI (agc_refl (fs := []) (rs := []) (F := F)) 
          · have r40 : ((1 : Int) = 0) ∨ ((0 ≤ x3.toInt) ∧ (x3.toInt ≤ 65535)) := r33
            clear r33
            have r41 : ((1 : Int) = 1) ∨ ((x3.toInt < 0) ∨ (65535 < x3.toInt)) := r34
            clear r34
            have b42 : B 0 65535 (x3) := ⟨by omega, by omega⟩
            refine ⟨fun hc => ?_, fun hc => ?_⟩
            · have i43 : (1 : Int32).toInt ≠ (0 : Int32).toInt := i_ne hc
              have n44 : (1 : Int32).toInt = 1 := cqn_1
              have n45 : (0 : Int32).toInt = 0 := cqn_0
              refine ⟨(show ¬ ((4 : Nat) = NU) from by decide +kernel), ?_⟩
              refine ⟨(show ¬ ((1 : Nat) = NU) from by decide +kernel), ?_⟩
              refine ⟨(show ¬ ((3 : Nat) = NU) from by decide +kernel), ?_⟩
              refine ⟨(show c_cl UL 4 = 6 from cl_4), ?_⟩
              refine h_Pa_makeLevels_u4_x11_x23 b12 b27 hI (fun {FS52_46} {LFS52_46} hI47 g48 r49 => ?_)
              have r50 : UPs 22 FS52_46 := r49
              clear r49
              refine ⟨(show ¬ ((4 : Nat) = NU) from by decide +kernel), ?_⟩
              refine ⟨(show c_cl UL 4 = 6 from cl_4), ?_⟩
              refine h_Pa_makeCodes_u4 b42 hI47 (UPs_tr (F := FS52_46) (G := FS52_46) r50 rfl rfl rfl) (fun {bFS60_51} {FS60_51} {LFS60_51} hI52 g53 r54 => ?_)
              have r55 : UPs 22 FS60_51 := r54
              clear r54
              refine ⟨(show ¬ ((4 : Nat) = NU) from by decide +kernel), ?_⟩
              refine ⟨(show ¬ ((3 : Nat) = NU) from by decide +kernel), ?_⟩
              refine ⟨(show c_cl UL 4 = 6 from cl_4), ?_⟩
              refine h_Pa_write_u4_x13 b42 hI52 (UPs_tr (F := FS60_51) (G := FS60_51) r55 (Eq.trans (g53.1 22 5 rfl rfl) (Eq.symm (g53.1 22 5 rfl rfl))) (Eq.trans (g53.1 22 4 rfl rfl) (Eq.symm (g53.1 22 4 rfl rfl))) (Eq.trans (g53.1 22 6 rfl rfl) (Eq.symm (g53.1 22 6 rfl rfl)))) (fun {FS72_56} {LFS72_56} hI57 g58 => ?_)
              refine ⟨(show ¬ ((5 : Nat) = NU) from by decide +kernel), ?_⟩
              refine ⟨(show c_cl UL 5 = 9 from cl_5), ?_⟩
              have g61 := agc_tr (agc_refl (fs := [408, 409, 410, 411, 501, 1200, 1201, 1202, 1205, 1206, 1207, 1208, 1216, 1217, 2200, 2204, 2205, 2206, 2701, 3304, 3904, 4604, 5204]) (rs := [6, 9, 10, 13, 14, 15, 16, 17, 18, 19, 21, 23, 24, 25, 26, 28, 29, 30, 31, 34, 35, 36, 37, 38, 40, 41, 42, 43, 44, 47, 48, 49, 50, 51, 53, 54, 55, 56, 57, 58, 999]) (F := F)) g48 (by decide +kernel) (by decide +kernel)
              have g60 := agc_tr g61 g53 (by decide +kernel) (by decide +kernel)
              have g59 := agc_tr g60 g58 (by decide +kernel) (by decide +kernel)
              exact hK (B_w (show B 0 65536 (FS72_56 5 1) from hI57 5 1) (by decide +kernel) (by decide +kernel)) hI57 g59
            · exact (B_dis cqb_1_1_1 cqb_0_0_0 hc (by decide +kernel)).elim
