set_option maxRecDepth 20000 in
set_option maxHeartbeats 1000000 in
theorem sf_b_about_75_s00 {S : ms} {K : Int32 → ms → Prop} (hI : IM S) (hK : ∀ {v : Int32} {yS : ms}, B 0 64 v → IM yS → K v yS) : b_about_75 0 S K := by
  unfold b_about_75
  exact hK (B_w (show B 0 0 (0 : Int32) from ⟨by decide, by decide⟩) (by decide) (by decide)) hI
set_option maxRecDepth 20000 in
set_option maxHeartbeats 1000000 in
theorem sf_b_about_28_s11 {x1 : Int32} {S : ms} {K : Int32 → ms → Prop} (b_x1 : B (-2147483648) 2147483647 x1) (hI : IM S) (hK : ∀ {v : Int32} {yS : ms}, B 0 64 v → IM yS → K v yS) : b_about_28 x1 1 S K := by
  unfold b_about_28
  refine ⟨fun hc => ?_, fun hc => ?_⟩
  · exact (B_dead_le (show B 1 1 (1 : Int32) from ⟨by decide, by decide⟩) (show B 0 0 (0 : Int32) from ⟨by decide, by decide⟩) hc (by decide)).elim
  · have hq1 := (nle_lt hc)
    have hI2 := IM_f (k := 0) (v := 1) hI (show B 1 1 (1 : Int32) from ⟨by decide, by decide⟩) (by decide) (by decide)
    exact sf_b_about_75_s00 hI2 hK
set_option maxRecDepth 20000 in
set_option maxHeartbeats 1000000 in
theorem sf_b_about_10 {x1 : Int32} {S : ms} {K : Int32 → ms → Prop} (b_x1 : B (-2147483648) 2147483647 x1) (hI : IM S) (hK : ∀ {v : Int32} {yS : ms}, B 0 64 v → IM yS → K v yS) : b_about_10 x1 S K := by
  unfold b_about_10
  exact sf_b_about_28_s11 b_x1 hI hK
set_option maxRecDepth 20000 in
set_option maxHeartbeats 1000000 in
theorem sf_b_about_75 {s0 : Int32} {S : ms} {K : Int32 → ms → Prop} (b_s0 : B 0 64 s0) (hI : IM S) (hK : ∀ {v : Int32} {yS : ms}, B 0 64 v → IM yS → K v yS) : b_about_75 s0 S K := by
  unfold b_about_75
  exact hK b_s0 hI
set_option maxRecDepth 20000 in
set_option maxHeartbeats 1000000 in
theorem sf_b_about_28_s10 {x1 : Int32} {S : ms} {K : Int32 → ms → Prop} (b_x1 : B 0 2 x1) (hI : IM S) (hK : ∀ {v : Int32} {yS : ms}, B 0 64 v → IM yS → K v yS) : b_about_28 x1 0 S K := by
  unfold b_about_28
  refine ⟨fun hc => ?_, fun hc => ?_⟩
  · have hq1 := hc
    refine ⟨fun hc => ?_, fun hc => ?_⟩
    · have b2 := B_n0 b_x1 hc
      refine ⟨fun hc => ?_, fun hc => ?_⟩
      · have hz := hc
        refine ⟨vp_B (show B 1 1 (1 : Int32) from ⟨by decide, by decide⟩) (by decide) (by decide), ?_⟩
        have hI3 := IM_f (k := 0) (v := 0) hI (show B 0 0 (0 : Int32) from ⟨by decide, by decide⟩) (by decide) (by decide)
        exact sf_b_about_75 (B_w (br_14 hI _) (by decide) (by decide)) hI3 hK
      · have b4 := B_eq hc (show B 1 1 (1 : Int32) from ⟨by decide, by decide⟩)
        refine ⟨vp_B (show B 1 1 (1 : Int32) from ⟨by decide, by decide⟩) (by decide) (by decide), ?_⟩
        have hI5 := IM_f (k := 0) (v := 0) hI (show B 0 0 (0 : Int32) from ⟨by decide, by decide⟩) (by decide) (by decide)
        exact sf_b_about_75 (B_w (br_13 hI _) (by decide) (by decide)) hI5 hK
    · have b6 := B_eq hc (show B 0 0 (0 : Int32) from ⟨by decide, by decide⟩)
      refine ⟨vp_B (show B 1 1 (1 : Int32) from ⟨by decide, by decide⟩) (by decide) (by decide), ?_⟩
      have hI7 := IM_f (k := 0) (v := 0) hI (show B 0 0 (0 : Int32) from ⟨by decide, by decide⟩) (by decide) (by decide)
      exact sf_b_about_75 (B_w (br_12 hI _) (by decide) (by decide)) hI7 hK
  · exact (B_dead_lt (show B 0 0 (0 : Int32) from ⟨by decide, by decide⟩) (show B 0 0 (0 : Int32) from ⟨by decide, by decide⟩) (nle_lt hc) (by decide)).elim
set_option maxRecDepth 20000 in
set_option maxHeartbeats 1000000 in
theorem sf_b_about_28_s12 {x1 : Int32} {S : ms} {K : Int32 → ms → Prop} (b_x1 : B 0 2 x1) (hI : IM S) (hK : ∀ {v : Int32} {yS : ms}, B 0 64 v → IM yS → K v yS) : b_about_28 x1 2 S K := by
  unfold b_about_28
  refine ⟨fun hc => ?_, fun hc => ?_⟩
  · exact (B_dead_le (show B 2 2 (2 : Int32) from ⟨by decide, by decide⟩) (show B 0 0 (0 : Int32) from ⟨by decide, by decide⟩) hc (by decide)).elim
  · have hq1 := (nle_lt hc)
    have hI2 := IM_f (k := 0) (v := 2) hI (show B 2 2 (2 : Int32) from ⟨by decide, by decide⟩) (by decide) (by decide)
    exact sf_b_about_75_s00 hI2 hK
set_option maxRecDepth 20000 in
set_option maxHeartbeats 1000000 in
theorem sf_b_about_75_s08 {S : ms} {K : Int32 → ms → Prop} (hI : IM S) (hK : ∀ {v : Int32} {yS : ms}, B 0 64 v → IM yS → K v yS) : b_about_75 8 S K := by
  unfold b_about_75
  exact hK (B_w (show B 8 8 (8 : Int32) from ⟨by decide, by decide⟩) (by decide) (by decide)) hI
set_option maxRecDepth 20000 in
set_option maxHeartbeats 1000000 in
theorem sf_b_at_67_s00 {S : ms} {K : Int32 → ms → Prop} (hI : IM S) (hK : ∀ {v : Int32} {yS : ms}, B (-2147483648) 2147483647 v → IM yS → K v yS) : b_at_67 0 S K := by
  unfold b_at_67
  exact hK (B_w (show B 0 0 (0 : Int32) from ⟨by decide, by decide⟩) (by decide) (by decide)) hI
set_option maxRecDepth 20000 in
set_option maxHeartbeats 1000000 in
theorem sf_b_at_42_s11 {x1 : Int32} {x2 : Int32} {x3 : Int32} {S : ms} {K : Int32 → ms → Prop} (b_x1 : B (-2147483648) 2147483647 x1) (b_x2 : B (-2147483648) 2147483647 x2) (b_x3 : B (-2147483648) 2147483647 x3) (hI : IM S) (hK : ∀ {v : Int32} {yS : ms}, B (-2147483648) 2147483647 v → IM yS → K v yS) : b_at_42 x1 x2 x3 1 S K := by
  unfold b_at_42
  refine ⟨fun hc => ?_, fun hc => ?_⟩
  · exact (B_dead_le (show B 1 1 (1 : Int32) from ⟨by decide, by decide⟩) (show B 0 0 (0 : Int32) from ⟨by decide, by decide⟩) hc (by decide)).elim
  · have hq1 := (nle_lt hc)
    have hI2 := IM_f (k := 0) (v := 1) hI (show B 1 1 (1 : Int32) from ⟨by decide, by decide⟩) (by decide) (by decide)
    exact sf_b_at_67_s00 hI2 hK
set_option maxRecDepth 20000 in
set_option maxHeartbeats 1000000 in
theorem sf_b_at_37 {x1 : Int32} {x2 : Int32} {x3 : Int32} {S : ms} {K : Int32 → ms → Prop} (b_x1 : B (-2147483648) 2147483647 x1) (b_x2 : B (-2147483648) 2147483647 x2) (b_x3 : B (-2147483648) 2147483647 x3) (hI : IM S) (hK : ∀ {v : Int32} {yS : ms}, B (-2147483648) 2147483647 v → IM yS → K v yS) : b_at_37 x1 x2 x3 S K := by
  unfold b_at_37
  exact sf_b_at_42_s11 b_x1 b_x2 b_x3 hI hK
set_option maxRecDepth 20000 in
set_option maxHeartbeats 1000000 in
theorem sf_b_at_67 {s0 : Int32} {S : ms} {K : Int32 → ms → Prop} (b_s0 : B (-2147483648) 2147483647 s0) (hI : IM S) (hK : ∀ {v : Int32} {yS : ms}, B (-2147483648) 2147483647 v → IM yS → K v yS) : b_at_67 s0 S K := by
  unfold b_at_67
  exact hK b_s0 hI
set_option maxRecDepth 20000 in
set_option maxHeartbeats 1000000 in
theorem sf_b_at_42_s10 {x1 : Int32} {x2 : Int32} {x3 : Int32} {S : ms} {K : Int32 → ms → Prop} (b_x1 : B 0 63 x1) (b_x2 : B 0 63 x2) (b_x3 : B 0 2 x3) (hI : IM S) (hK : ∀ {v : Int32} {yS : ms}, B (-2147483648) 2147483647 v → IM yS → K v yS) : b_at_42 x1 x2 x3 0 S K := by
  unfold b_at_42
  refine ⟨fun hc => ?_, fun hc => ?_⟩
  · have hq1 := hc
    unfold p_cell
    refine ⟨vp_B (B_add (B_mul (show B 3 3 (3 : Int32) from ⟨by decide, by decide⟩) (B_add (B_mul (show B 64 64 (64 : Int32) from ⟨by decide, by decide⟩) b_x2 (by decide) (by decide) (by decide)) b_x1 (by decide) (by decide)) (by decide) (by decide) (by decide)) b_x3 (by decide) (by decide)) (by decide) (by decide), ?_⟩
    have hI2 := IM_f (k := 0) (v := 0) hI (show B 0 0 (0 : Int32) from ⟨by decide, by decide⟩) (by decide) (by decide)
    exact sf_b_at_67 (br_4 hI _) hI2 hK
  · exact (B_dead_lt (show B 0 0 (0 : Int32) from ⟨by decide, by decide⟩) (show B 0 0 (0 : Int32) from ⟨by decide, by decide⟩) (nle_lt hc) (by decide)).elim
set_option maxRecDepth 20000 in
set_option maxHeartbeats 1000000 in
theorem sf_b_byteOf_29 {s0 : Int32} {S : ms} {K : Int32 → ms → Prop} (b_s0 : B 0 255 s0) (hI : IM S) (hK : ∀ {v : Int32} {yS : ms}, B 0 255 v → IM yS → K v yS) : b_byteOf_29 s0 S K := by
  unfold b_byteOf_29
  exact hK b_s0 hI
set_option maxRecDepth 20000 in
set_option maxHeartbeats 1000000 in
theorem sf_b_canvas_38_s11 {x1 : Int32} {x2 : Int32} {x3 : Int32} {S : ms} {K : ms → Prop} (b_x1 : B (-2147483648) 2147483647 x1) (b_x2 : B (-2147483648) 2147483647 x2) (b_x3 : B (-2147483648) 2147483647 x3) (hI : IM S) (hK : ∀ {yS : ms}, IM yS → K yS) : b_canvas_38 x1 x2 x3 1 S K := by
  unfold b_canvas_38
  refine ⟨fun hc => ?_, fun hc => ?_⟩
  · exact (B_dead_le (show B 1 1 (1 : Int32) from ⟨by decide, by decide⟩) (show B 0 0 (0 : Int32) from ⟨by decide, by decide⟩) hc (by decide)).elim
  · have hq1 := (nle_lt hc)
    have hI2 := IM_f (k := 0) (v := 1) hI (show B 1 1 (1 : Int32) from ⟨by decide, by decide⟩) (by decide) (by decide)
    exact hK hI2
set_option maxRecDepth 20000 in
set_option maxHeartbeats 1000000 in
theorem sf_b_canvas_33 {x1 : Int32} {x2 : Int32} {x3 : Int32} {S : ms} {K : ms → Prop} (b_x1 : B (-2147483648) 2147483647 x1) (b_x2 : B (-2147483648) 2147483647 x2) (b_x3 : B (-2147483648) 2147483647 x3) (hI : IM S) (hK : ∀ {yS : ms}, IM yS → K yS) : b_canvas_33 x1 x2 x3 S K := by
  unfold b_canvas_33
  exact sf_b_canvas_38_s11 b_x1 b_x2 b_x3 hI hK
set_option maxRecDepth 20000 in
set_option maxHeartbeats 1000000 in
theorem sf_b_canvas_67 {x4 : Int32} {S : ms} {m_R67 : Int} {R67 : Int32 → ms → Prop} {K : ms → Prop} (b_x4 : B 0 12288 x4) (hm_R67 : m_R67 ≤ x4.toInt) (hI : IM S) (hR67 : ∀ {y_x4 : Int32} {y_S : ms}, B 0 12288 y_x4 → m_R67 < y_x4.toInt → IM y_S → R67 y_x4 y_S) (hK : ∀ {yS : ms}, IM yS → K yS) : b_canvas_67 x4 S R67 K := by
  unfold b_canvas_67
  refine ⟨fun hc => ?_, fun hc => ?_⟩
  · have hq1 := hc
    have b2 := B_leR (show B 12288 12288 (12288 : Int32) from ⟨by decide, by decide⟩) b_x4 hq1
    exact hK hI
  · have hq3 := (nle_lt hc)
    have b4 := B_ltL b_x4 (show B 12288 12288 (12288 : Int32) from ⟨by decide, by decide⟩) hq3
    refine ⟨vp_B b4 (by decide) (by decide), ?_⟩
    have hI5 := IM_r (r := 4) (i := x4.toNatClampNeg) (v := 0) hI (show B 0 0 (0 : Int32) from ⟨by decide, by decide⟩) (by decide) (by decide)
    exact hR67 (B_w (B_add b4 (show B 1 1 (1 : Int32) from ⟨by decide, by decide⟩) (by decide) (by decide)) (by decide) (by decide)) (inc_lt b4 hm_R67 (by decide) (by decide)) hI5
theorem sf_e_canvas_67 {x4 : Int32} {S : ms} {K : ms → Prop} (b_x4 : B 0 12288 x4) (hI : IM S) (hK : ∀ {yS : ms}, IM yS → K yS) : e_canvas_67 x4 S K := by
  refine ⟨fun y_x4 y_S => B 0 12288 y_x4 ∧ IM y_S, fun y_x4 y_S => (12288 - y_x4.toInt).toNat, ⟨b_x4, hI⟩, fun y_x4 y_S hIv => ?_⟩
  obtain ⟨c_x4, cI⟩ := hIv
  exact sf_b_canvas_67 c_x4 (Int.le_refl _) cI (fun d_x4 dlt dI => ⟨⟨d_x4, dI⟩, (by have h1 := dlt; have h2 := d_x4.2; have h3 := c_x4.2; dsimp only; omega)⟩) hK
set_option maxRecDepth 20000 in
set_option maxHeartbeats 1000000 in
theorem sf_b_canvas_38_s10 {x1 : Int32} {x2 : Int32} {x3 : Int32} {S : ms} {K : ms → Prop} (b_x1 : B 1 64 x1) (b_x2 : B 1 64 x2) (b_x3 : B 1 3 x3) (hI : IM S) (hK : ∀ {yS : ms}, IM yS → K yS) : b_canvas_38 x1 x2 x3 0 S K := by
  unfold b_canvas_38
  refine ⟨fun hc => ?_, fun hc => ?_⟩
  · have hq1 := hc
    have hI2 := IM_f (k := 0) (v := 0) hI (show B 0 0 (0 : Int32) from ⟨by decide, by decide⟩) (by decide) (by decide)
    have hI3 := IM_f (k := 1) (v := x1) hI2 b_x1 (by decide) (by decide)
    have hI4 := IM_f (k := 2) (v := x2) hI3 b_x2 (by decide) (by decide)
    have hI5 := IM_f (k := 3) (v := x3) hI4 b_x3 (by decide) (by decide)
    exact sf_e_canvas_67 (B_w (show B 0 0 (0 : Int32) from ⟨by decide, by decide⟩) (by decide) (by decide)) hI5 hK
  · exact (B_dead_lt (show B 0 0 (0 : Int32) from ⟨by decide, by decide⟩) (show B 0 0 (0 : Int32) from ⟨by decide, by decide⟩) (nle_lt hc) (by decide)).elim
set_option maxRecDepth 20000 in
set_option maxHeartbeats 1000000 in
theorem sf_b_canvas_37 {x1 : Int32} {x2 : Int32} {x3 : Int32} {S : ms} {K : ms → Prop} (b_x1 : B 1 64 x1) (b_x2 : B 1 64 x2) (b_x3 : B 1 3 x3) (hI : IM S) (hK : ∀ {yS : ms}, IM yS → K yS) : b_canvas_37 x1 x2 x3 S K := by
  unfold b_canvas_37
  exact sf_b_canvas_38_s10 b_x1 b_x2 b_x3 hI hK
set_option maxRecDepth 20000 in
set_option maxHeartbeats 1000000 in
theorem sf_b_change_33_s11 {x1 : Int32} {x2 : Int32} {S : ms} {K : Int32 → ms → Prop} (b_x1 : B (-2147483648) 2147483647 x1) (b_x2 : B (-2147483648) 2147483647 x2) (hI : IM S) (hK : ∀ {v : Int32} {yS : ms}, B (-2147483648) 2147483647 v → IM yS → K v yS) : b_change_33 x1 x2 1 S K := by
  unfold b_change_33
  refine ⟨fun hc => ?_, fun hc => ?_⟩
  · exact (B_dead_le (show B 1 1 (1 : Int32) from ⟨by decide, by decide⟩) (show B 0 0 (0 : Int32) from ⟨by decide, by decide⟩) hc (by decide)).elim
  · have hq1 := (nle_lt hc)
    have hI2 := IM_f (k := 0) (v := 1) hI (show B 1 1 (1 : Int32) from ⟨by decide, by decide⟩) (by decide) (by decide)
    exact hK (B_w (show B 0 0 (0 : Int32) from ⟨by decide, by decide⟩) (by decide) (by decide)) hI2
set_option maxRecDepth 20000 in
set_option maxHeartbeats 1000000 in
theorem sf_b_change_13 {x1 : Int32} {x2 : Int32} {S : ms} {K : Int32 → ms → Prop} (b_x1 : B (-2147483648) 2147483647 x1) (b_x2 : B (-2147483648) 2147483647 x2) (hI : IM S) (hK : ∀ {v : Int32} {yS : ms}, B (-2147483648) 2147483647 v → IM yS → K v yS) : b_change_13 x1 x2 S K := by
  unfold b_change_13
  exact sf_b_change_33_s11 b_x1 b_x2 hI hK
set_option maxRecDepth 20000 in
set_option maxHeartbeats 1000000 in
theorem sf_b_change_33_s12 {x1 : Int32} {x2 : Int32} {S : ms} {K : Int32 → ms → Prop} (b_x1 : B 0 32767 x1) (b_x2 : B (-2147483648) 2147483647 x2) (hI : IM S) (hK : ∀ {v : Int32} {yS : ms}, B (-2147483648) 2147483647 v → IM yS → K v yS) : b_change_33 x1 x2 2 S K := by
  unfold b_change_33
  refine ⟨fun hc => ?_, fun hc => ?_⟩
  · exact (B_dead_le (show B 2 2 (2 : Int32) from ⟨by decide, by decide⟩) (show B 0 0 (0 : Int32) from ⟨by decide, by decide⟩) hc (by decide)).elim
  · have hq1 := (nle_lt hc)
    have hI2 := IM_f (k := 0) (v := 2) hI (show B 2 2 (2 : Int32) from ⟨by decide, by decide⟩) (by decide) (by decide)
    exact hK (B_w (show B 0 0 (0 : Int32) from ⟨by decide, by decide⟩) (by decide) (by decide)) hI2
set_option maxRecDepth 20000 in
set_option maxHeartbeats 1000000 in
theorem sf_b_change_28 {x1 : Int32} {x2 : Int32} {S : ms} {K : Int32 → ms → Prop} (b_x1 : B 0 32767 x1) (b_x2 : B (-2147483648) 2147483647 x2) (hI : IM S) (hK : ∀ {v : Int32} {yS : ms}, B (-2147483648) 2147483647 v → IM yS → K v yS) : b_change_28 x1 x2 S K := by
  unfold b_change_28
  exact sf_b_change_33_s12 b_x1 b_x2 hI hK
set_option maxRecDepth 20000 in
set_option maxHeartbeats 1000000 in
theorem sf_b_change_33_s10 {x1 : Int32} {x2 : Int32} {S : ms} {K : Int32 → ms → Prop} (b_x1 : B 0 32767 x1) (b_x2 : B 0 255 x2) (hI : IM S) (hK : ∀ {v : Int32} {yS : ms}, B (-2147483648) 2147483647 v → IM yS → K v yS) : b_change_33 x1 x2 0 S K := by
  unfold b_change_33
  refine ⟨fun hc => ?_, fun hc => ?_⟩
  · have hq1 := hc
    refine ⟨vp_B b_x1 (by decide) (by decide), ?_⟩
    refine ⟨vp_B b_x1 (by decide) (by decide), ?_⟩
    refine ⟨vp_B b_x1 (by decide) (by decide), ?_⟩
    have hI2 := IM_r (r := 6) (i := x1.toNatClampNeg) (v := (S.2.1 6 x1.toNatClampNeg) ^^^ x2) hI (B_any _) (by decide) (by decide)
    have hI3 := IM_f (k := 0) (v := 0) hI2 (show B 0 0 (0 : Int32) from ⟨by decide, by decide⟩) (by decide) (by decide)
    exact hK (B_any _) hI3
  · exact (B_dead_lt (show B 0 0 (0 : Int32) from ⟨by decide, by decide⟩) (show B 0 0 (0 : Int32) from ⟨by decide, by decide⟩) (nle_lt hc) (by decide)).elim
set_option maxRecDepth 20000 in
set_option maxHeartbeats 1000000 in
theorem sf_b_codeSize_34 {x1 : Int32} {x3 : Int32} {s0 : Int32} {S : ms} {m_R5 : Int} {R5 : Int32 → Int32 → Int32 → ms → Prop} {K : Int32 → ms → Prop} (b_x1 : B 0 3 x1) (b_x3 : B 0 255 x3) (b_s0 : B (-2147483648) 2147483647 s0) (hm_R5 : m_R5 ≤ x3.toInt) (hI : IM S) (hR5 : ∀ {y_x1 : Int32} {y_x2 : Int32} {y_x3 : Int32} {y_S : ms}, B 0 3 y_x1 → B (-2147483648) 2147483647 y_x2 → B 0 256 y_x3 → m_R5 < y_x3.toInt → IM y_S → R5 y_x1 y_x2 y_x3 y_S) (hK : ∀ {v : Int32} {yS : ms}, B (-2147483648) 2147483647 v → IM yS → K v yS) : b_codeSize_34 x1 x3 s0 S R5 K := by
  unfold b_codeSize_34
  exact hR5 b_x1 b_s0 (B_w (B_add b_x3 (show B 1 1 (1 : Int32) from ⟨by decide, by decide⟩) (by decide) (by decide)) (by decide) (by decide)) (inc_lt b_x3 hm_R5 (by decide) (by decide)) hI
set_option maxRecDepth 20000 in
set_option maxHeartbeats 1000000 in
theorem sf_b_codeSize_34_s017 {x1 : Int32} {x3 : Int32} {S : ms} {m_R5 : Int} {R5 : Int32 → Int32 → Int32 → ms → Prop} {K : Int32 → ms → Prop} (b_x1 : B 0 0 x1) (b_x3 : B 0 0 x3) (hm_R5 : m_R5 ≤ x3.toInt) (hI : IM S) (hR5 : ∀ {y_x1 : Int32} {y_x2 : Int32} {y_x3 : Int32} {y_S : ms}, B 0 3 y_x1 → B (-2147483648) 2147483647 y_x2 → B 0 256 y_x3 → m_R5 < y_x3.toInt → IM y_S → R5 y_x1 y_x2 y_x3 y_S) (hK : ∀ {v : Int32} {yS : ms}, B (-2147483648) 2147483647 v → IM yS → K v yS) : b_codeSize_34 x1 x3 17 S R5 K := by
  unfold b_codeSize_34
  exact hR5 (B_w b_x1 (by decide) (by decide)) (B_w (show B 17 17 (17 : Int32) from ⟨by decide, by decide⟩) (by decide) (by decide)) (B_w (B_add b_x3 (show B 1 1 (1 : Int32) from ⟨by decide, by decide⟩) (by decide) (by decide)) (by decide) (by decide)) (inc_lt b_x3 hm_R5 (by decide) (by decide)) hI
set_option maxRecDepth 20000 in
set_option maxHeartbeats 1000000 in
theorem sf_b_codeSize_34_s018 {x1 : Int32} {x3 : Int32} {S : ms} {m_R5 : Int} {R5 : Int32 → Int32 → Int32 → ms → Prop} {K : Int32 → ms → Prop} (b_x1 : B 0 0 x1) (b_x3 : B 0 0 x3) (hm_R5 : m_R5 ≤ x3.toInt) (hI : IM S) (hR5 : ∀ {y_x1 : Int32} {y_x2 : Int32} {y_x3 : Int32} {y_S : ms}, B 0 3 y_x1 → B (-2147483648) 2147483647 y_x2 → B 0 256 y_x3 → m_R5 < y_x3.toInt → IM y_S → R5 y_x1 y_x2 y_x3 y_S) (hK : ∀ {v : Int32} {yS : ms}, B (-2147483648) 2147483647 v → IM yS → K v yS) : b_codeSize_34 x1 x3 18 S R5 K := by
  unfold b_codeSize_34
  exact hR5 (B_w b_x1 (by decide) (by decide)) (B_w (show B 18 18 (18 : Int32) from ⟨by decide, by decide⟩) (by decide) (by decide)) (B_w (B_add b_x3 (show B 1 1 (1 : Int32) from ⟨by decide, by decide⟩) (by decide) (by decide)) (by decide) (by decide)) (inc_lt b_x3 hm_R5 (by decide) (by decide)) hI
set_option maxRecDepth 20000 in
set_option maxHeartbeats 1000000 in
theorem sf_b_codeSize_5 {x1 : Int32} {x2 : Int32} {x3 : Int32} {S : ms} {m_R5 : Int} {R5 : Int32 → Int32 → Int32 → ms → Prop} {K : Int32 → ms → Prop} (b_x1 : B 0 3 x1) (b_x2 : B (-2147483648) 2147483647 x2) (b_x3 : B 0 256 x3) (hm_R5 : m_R5 ≤ x3.toInt) (hI : IM S) (hR5 : ∀ {y_x1 : Int32} {y_x2 : Int32} {y_x3 : Int32} {y_S : ms}, B 0 3 y_x1 → B (-2147483648) 2147483647 y_x2 → B 0 256 y_x3 → m_R5 < y_x3.toInt → IM y_S → R5 y_x1 y_x2 y_x3 y_S) (hK : ∀ {v : Int32} {yS : ms}, B (-2147483648) 2147483647 v → IM yS → K v yS) : b_codeSize_5 x1 x2 x3 S R5 K := by
  unfold b_codeSize_5
  refine ⟨fun hc => ?_, fun hc => ?_⟩
  · have hq1 := hc
    have b2 := B_leR (show B 256 256 (256 : Int32) from ⟨by decide, by decide⟩) b_x3 hq1
    exact hK b_x2 hI
  · have hq3 := (nle_lt hc)
    have b4 := B_ltL b_x3 (show B 256 256 (256 : Int32) from ⟨by decide, by decide⟩) hq3
    refine ⟨vp_B (B_add (B_mul (show B 257 257 (257 : Int32) from ⟨by decide, by decide⟩) b_x1 (by decide) (by decide) (by decide)) b4 (by decide) (by decide)) (by decide) (by decide), ?_⟩
    refine ⟨fun hc => ?_, fun hc => ?_⟩
    · have hq5 := hc
      have b6 := B_leL (br_27 hI _) (show B 0 0 (0 : Int32) from ⟨by decide, by decide⟩) hq5
      exact sf_b_codeSize_34 b_x1 b4 b_x2 hm_R5 hI hR5 hK
    · have hq7 := (nle_lt hc)
      have b8 := B_ltR (show B 0 0 (0 : Int32) from ⟨by decide, by decide⟩) (br_27 hI _) hq7
      exact sf_b_codeSize_34 b_x1 b4 (B_any _) hm_R5 hI hR5 hK
set_option maxRecDepth 20000 in
set_option maxHeartbeats 1000000 in
theorem sf_b_end_37 {s1 : Int32} {S : ms} {K : ms → Prop} (b_s1 : B 0 32768 s1) (hI : IM S) (hK : ∀ {yS : ms}, IM yS → K yS) : b_end_37 s1 S K := by
  unfold b_end_37
  have hI1 := IM_f (k := 7) (v := s1) hI b_s1 (by decide) (by decide)
  exact hK hI1
set_option maxRecDepth 20000 in
set_option maxHeartbeats 1000000 in
theorem sf_b_end_18_s11 {x1 : Int32} {S : ms} {K : ms → Prop} (b_x1 : B (-2147483648) 2147483647 x1) (hI : IM S) (hK : ∀ {yS : ms}, IM yS → K yS) : b_end_18 x1 1 S K := by
  unfold b_end_18
  refine ⟨fun hc => ?_, fun hc => ?_⟩
  · exact (B_dead_le (show B 1 1 (1 : Int32) from ⟨by decide, by decide⟩) (show B 0 0 (0 : Int32) from ⟨by decide, by decide⟩) hc (by decide)).elim
  · have hq1 := (nle_lt hc)
    have hI2 := IM_f (k := 0) (v := 1) hI (show B 1 1 (1 : Int32) from ⟨by decide, by decide⟩) (by decide) (by decide)
    exact sf_b_end_37 (bf_7 hI) hI2 hK
set_option maxRecDepth 20000 in
set_option maxHeartbeats 1000000 in
theorem sf_b_end_13 {x1 : Int32} {S : ms} {K : ms → Prop} (b_x1 : B (-2147483648) 2147483647 x1) (hI : IM S) (hK : ∀ {yS : ms}, IM yS → K yS) : b_end_13 x1 S K := by
  unfold b_end_13
  exact sf_b_end_18_s11 b_x1 hI hK
set_option maxRecDepth 20000 in
set_option maxHeartbeats 1000000 in
theorem sf_b_end_18_s10 {x1 : Int32} {S : ms} {K : ms → Prop} (b_x1 : B 0 32768 x1) (hI : IM S) (hK : ∀ {yS : ms}, IM yS → K yS) : b_end_18 x1 0 S K := by
  unfold b_end_18
  refine ⟨fun hc => ?_, fun hc => ?_⟩
  · have hq1 := hc
    have hI2 := IM_f (k := 0) (v := 0) hI (show B 0 0 (0 : Int32) from ⟨by decide, by decide⟩) (by decide) (by decide)
    exact sf_b_end_37 b_x1 hI2 hK
  · exact (B_dead_lt (show B 0 0 (0 : Int32) from ⟨by decide, by decide⟩) (show B 0 0 (0 : Int32) from ⟨by decide, by decide⟩) (nle_lt hc) (by decide)).elim
set_option maxRecDepth 20000 in
set_option maxHeartbeats 1000000 in
theorem sf_b_end_37_s10 {S : ms} {K : ms → Prop} (hI : IM S) (hK : ∀ {yS : ms}, IM yS → K yS) : b_end_37 0 S K := by
  unfold b_end_37
  have hI1 := IM_f (k := 7) (v := 0) hI (show B 0 0 (0 : Int32) from ⟨by decide, by decide⟩) (by decide) (by decide)
  exact hK hI1
set_option maxRecDepth 20000 in
set_option maxHeartbeats 1000000 in
theorem sf_b_entry_81 {S : ms} {K : ms → Prop} (hI : IM S) (hK : ∀ {yS : ms}, IM yS → K yS) : b_entry_81 S K := by
  unfold b_entry_81
  exact hK hI
set_option maxRecDepth 20000 in
set_option maxHeartbeats 1000000 in
theorem sf_b_entry_53_s11 {x1 : Int32} {x2 : Int32} {x3 : Int32} {x4 : Int32} {S : ms} {K : ms → Prop} (b_x1 : B (-2147483648) 2147483647 x1) (b_x2 : B (-2147483648) 2147483647 x2) (b_x3 : B (-2147483648) 2147483647 x3) (b_x4 : B (-2147483648) 2147483647 x4) (hI : IM S) (hK : ∀ {yS : ms}, IM yS → K yS) : b_entry_53 x1 x2 x3 x4 1 S K := by
  unfold b_entry_53
  refine ⟨fun hc => ?_, fun hc => ?_⟩
  · have hz := hc
    have hI1 := IM_f (k := 0) (v := 1) hI (show B 1 1 (1 : Int32) from ⟨by decide, by decide⟩) (by decide) (by decide)
    exact sf_b_entry_81 hI1 hK
  · exact (B_dis (show B 1 1 (1 : Int32) from ⟨by decide, by decide⟩) (show B 0 0 (0 : Int32) from ⟨by decide, by decide⟩) hc (by decide)).elim
set_option maxRecDepth 20000 in
set_option maxHeartbeats 1000000 in
theorem sf_b_entry_21 {x1 : Int32} {x2 : Int32} {x3 : Int32} {x4 : Int32} {S : ms} {K : ms → Prop} (b_x1 : B (-2147483648) 2147483647 x1) (b_x2 : B (-2147483648) 2147483647 x2) (b_x3 : B (-2147483648) 2147483647 x3) (b_x4 : B (-2147483648) 2147483647 x4) (hI : IM S) (hK : ∀ {yS : ms}, IM yS → K yS) : b_entry_21 x1 x2 x3 x4 S K := by
  unfold b_entry_21
  exact sf_b_entry_53_s11 b_x1 b_x2 b_x3 b_x4 hI hK
set_option maxRecDepth 20000 in
set_option maxHeartbeats 1000000 in
theorem sf_b_entry_53_s12 {x1 : Int32} {x2 : Int32} {x3 : Int32} {x4 : Int32} {S : ms} {K : ms → Prop} (b_x1 : B (-2147483648) 2147483647 x1) (b_x2 : B 0 7 x2) (b_x3 : B 0 7 x3) (b_x4 : B (-2147483648) 2147483647 x4) (hI : IM S) (hK : ∀ {yS : ms}, IM yS → K yS) : b_entry_53 x1 x2 x3 x4 2 S K := by
  unfold b_entry_53
  refine ⟨fun hc => ?_, fun hc => ?_⟩
  · have hz := hc
    have hI1 := IM_f (k := 0) (v := 2) hI (show B 2 2 (2 : Int32) from ⟨by decide, by decide⟩) (by decide) (by decide)
    exact sf_b_entry_81 hI1 hK
  · exact (B_dis (show B 2 2 (2 : Int32) from ⟨by decide, by decide⟩) (show B 0 0 (0 : Int32) from ⟨by decide, by decide⟩) hc (by decide)).elim
set_option maxRecDepth 20000 in
set_option maxHeartbeats 1000000 in
theorem sf_b_entry_48 {x1 : Int32} {x2 : Int32} {x3 : Int32} {x4 : Int32} {S : ms} {K : ms → Prop} (b_x1 : B (-2147483648) 2147483647 x1) (b_x2 : B 0 7 x2) (b_x3 : B 0 7 x3) (b_x4 : B (-2147483648) 2147483647 x4) (hI : IM S) (hK : ∀ {yS : ms}, IM yS → K yS) : b_entry_48 x1 x2 x3 x4 S K := by
  unfold b_entry_48
  exact sf_b_entry_53_s12 b_x1 b_x2 b_x3 b_x4 hI hK
set_option maxRecDepth 20000 in
set_option maxHeartbeats 1000000 in
theorem sf_b_entry_53_s10 {x1 : Int32} {x2 : Int32} {x3 : Int32} {x4 : Int32} {S : ms} {K : ms → Prop} (b_x1 : B 0 1 x1) (b_x2 : B 0 7 x2) (b_x3 : B 0 7 x3) (b_x4 : B 1 255 x4) (hI : IM S) (hK : ∀ {yS : ms}, IM yS → K yS) : b_entry_53 x1 x2 x3 x4 0 S K := by
  unfold b_entry_53
  refine ⟨fun hc => ?_, fun hc => ?_⟩
  · exact (hc (B_z (show B 0 0 (0 : Int32) from ⟨by decide, by decide⟩))).elim
  · have b1 := B_eq hc (show B 0 0 (0 : Int32) from ⟨by decide, by decide⟩)
    refine ⟨vp_B (B_add (B_add (B_mul (show B 64 64 (64 : Int32) from ⟨by decide, by decide⟩) b_x1 (by decide) (by decide) (by decide)) (B_mul (show B 8 8 (8 : Int32) from ⟨by decide, by decide⟩) b_x2 (by decide) (by decide) (by decide)) (by decide) (by decide)) b_x3 (by decide) (by decide)) (by decide) (by decide), ?_⟩
    have hI2 := IM_r (r := 5) (i := (((64 * x1) + (8 * x2)) + x3).toNatClampNeg) (v := x4) hI b_x4 (by decide) (by decide)
    have hI3 := IM_f (k := 0) (v := 0) hI2 (show B 0 0 (0 : Int32) from ⟨by decide, by decide⟩) (by decide) (by decide)
    exact sf_b_entry_81 hI3 hK
set_option maxRecDepth 20000 in
set_option maxHeartbeats 1000000 in
theorem sf_b_entry_34 {x1 : Int32} {x2 : Int32} {x3 : Int32} {x4 : Int32} {S : ms} {K : ms → Prop} (b_x1 : B 0 1 x1) (b_x2 : B 0 7 x2) (b_x3 : B 0 7 x3) (b_x4 : B (-2147483648) 2147483647 x4) (hI : IM S) (hK : ∀ {yS : ms}, IM yS → K yS) : b_entry_34 x1 x2 x3 x4 S K := by
  unfold b_entry_34
  refine ⟨fun hc => ?_, fun hc => ?_⟩
  · have hq1 := hc
    have b2 := B_ltL b_x4 (show B 1 1 (1 : Int32) from ⟨by decide, by decide⟩) hq1
    exact sf_b_entry_48 (B_w b_x1 (by decide) (by decide)) b_x2 b_x3 (B_w b2 (by decide) (by decide)) hI hK
  · have hq3 := (nlt_le hc)
    have b4 := B_leR (show B 1 1 (1 : Int32) from ⟨by decide, by decide⟩) b_x4 hq3
    refine ⟨fun hc => ?_, fun hc => ?_⟩
    · have hq5 := hc
      have b6 := B_leL b4 (show B 255 255 (255 : Int32) from ⟨by decide, by decide⟩) hq5
      exact sf_b_entry_53_s10 b_x1 b_x2 b_x3 b6 hI hK
    · have hq7 := (nle_lt hc)
      have b8 := B_ltR (show B 255 255 (255 : Int32) from ⟨by decide, by decide⟩) b4 hq7
      exact sf_b_entry_48 (B_w b_x1 (by decide) (by decide)) b_x2 b_x3 (B_w b8 (by decide) (by decide)) hI hK
set_option maxRecDepth 20000 in
set_option maxHeartbeats 1000000 in
theorem sf_b_fail_17 {S : ms} {K : Int32 → ms → Prop} (hI : IM S) (hK : ∀ {v : Int32} {yS : ms}, B 0 0 v → IM yS → K v yS) : b_fail_17 S K := by
  unfold b_fail_17
  exact hK (show B 0 0 (0 : Int32) from ⟨by decide, by decide⟩) hI
set_option maxRecDepth 20000 in
set_option maxHeartbeats 1000000 in
theorem sf_b_feed_18_s11 {x1 : Int32} {x2 : Int32} {x3 : Int32} {x4 : Int32} {x5 : Int32} {S : ms} {K : Int32 → ms → Prop} (b_x1 : B (-2147483648) 2147483647 x1) (b_x2 : B (-2147483648) 2147483647 x2) (b_x3 : B (-2147483648) 2147483647 x3) (b_x4 : B (-2147483648) 2147483647 x4) (b_x5 : B (-2147483648) 2147483647 x5) (hI : IM S) (hK : ∀ {v : Int32} {yS : ms}, B 0 32768 v → IM yS → K v yS) : b_feed_18 x1 x2 x3 x4 x5 1 S K := by
  unfold b_feed_18
  refine ⟨fun hc => ?_, fun hc => ?_⟩
  · exact (B_dead_le (show B 1 1 (1 : Int32) from ⟨by decide, by decide⟩) (show B 0 0 (0 : Int32) from ⟨by decide, by decide⟩) hc (by decide)).elim
  · have hq1 := (nle_lt hc)
    have hI2 := IM_f (k := 0) (v := 1) hI (show B 1 1 (1 : Int32) from ⟨by decide, by decide⟩) (by decide) (by decide)
    exact hK (B_w (show B 0 0 (0 : Int32) from ⟨by decide, by decide⟩) (by decide) (by decide)) hI2
set_option maxRecDepth 20000 in
set_option maxHeartbeats 1000000 in
theorem sf_b_greatest_59 {x1 : Int32} {x2 : Int32} {x4 : Int32} {s0 : Int32} {S : ms} {m_R5 : Int} {R5 : Int32 → Int32 → Int32 → Int32 → ms → Prop} {K : Int32 → ms → Prop} (b_x1 : B 0 2 x1) (b_x2 : B 0 1 x2) (b_x4 : B 0 2 x4) (b_s0 : B 1 268435456 s0) (hm_R5 : m_R5 ≤ x4.toInt) (hI : IM S) (hR5 : ∀ {y_x1 : Int32} {y_x2 : Int32} {y_x3 : Int32} {y_x4 : Int32} {y_S : ms}, B 0 2 y_x1 → B 0 1 y_x2 → B 1 268435456 y_x3 → B 0 3 y_x4 → m_R5 < y_x4.toInt → IM y_S → R5 y_x1 y_x2 y_x3 y_x4 y_S) (hK : ∀ {v : Int32} {yS : ms}, B 1 268435456 v → IM yS → K v yS) : b_greatest_59 x1 x2 x4 s0 S R5 K := by
  unfold b_greatest_59
  exact hR5 b_x1 b_x2 b_s0 (B_w (B_add b_x4 (show B 1 1 (1 : Int32) from ⟨by decide, by decide⟩) (by decide) (by decide)) (by decide) (by decide)) (inc_lt b_x4 hm_R5 (by decide) (by decide)) hI
set_option maxRecDepth 20000 in
set_option maxHeartbeats 1000000 in
theorem sf_b_greatest_45 {x1 : Int32} {x2 : Int32} {x3 : Int32} {x4 : Int32} {s0 : Int32} {S : ms} {m_R5 : Int} {R5 : Int32 → Int32 → Int32 → Int32 → ms → Prop} {K : Int32 → ms → Prop} (b_x1 : B 0 2 x1) (b_x2 : B 0 1 x2) (b_x3 : B 1 268435456 x3) (b_x4 : B 0 2 x4) (b_s0 : B (-268435457) 268435456 s0) (hm_R5 : m_R5 ≤ x4.toInt) (hI : IM S) (hR5 : ∀ {y_x1 : Int32} {y_x2 : Int32} {y_x3 : Int32} {y_x4 : Int32} {y_S : ms}, B 0 2 y_x1 → B 0 1 y_x2 → B 1 268435456 y_x3 → B 0 3 y_x4 → m_R5 < y_x4.toInt → IM y_S → R5 y_x1 y_x2 y_x3 y_x4 y_S) (hK : ∀ {v : Int32} {yS : ms}, B 1 268435456 v → IM yS → K v yS) : b_greatest_45 x1 x2 x3 x4 s0 S R5 K := by
  unfold b_greatest_45
  refine ⟨fun hc => ?_, fun hc => ?_⟩
  · have hq1 := hc
    exact sf_b_greatest_59 b_x1 b_x2 b_x4 b_x3 hm_R5 hI hR5 hK
  · have hq2 := (nle_lt hc)
    have b3 := B_ltL b_x3 b_s0 hq2
    have b4 := B_ltR b_x3 b_s0 hq2
    exact sf_b_greatest_59 b_x1 b_x2 b_x4 (B_w b4 (by decide) (by decide)) hm_R5 hI hR5 hK
set_option maxRecDepth 20000 in
set_option maxHeartbeats 1000000 in
theorem sf_b_greatest_5 {x1 : Int32} {x2 : Int32} {x3 : Int32} {x4 : Int32} {S : ms} {m_R5 : Int} {R5 : Int32 → Int32 → Int32 → Int32 → ms → Prop} {K : Int32 → ms → Prop} (b_x1 : B 0 2 x1) (b_x2 : B 0 1 x2) (b_x3 : B 1 268435456 x3) (b_x4 : B 0 3 x4) (hm_R5 : m_R5 ≤ x4.toInt) (hI : IM S) (hR5 : ∀ {y_x1 : Int32} {y_x2 : Int32} {y_x3 : Int32} {y_x4 : Int32} {y_S : ms}, B 0 2 y_x1 → B 0 1 y_x2 → B 1 268435456 y_x3 → B 0 3 y_x4 → m_R5 < y_x4.toInt → IM y_S → R5 y_x1 y_x2 y_x3 y_x4 y_S) (hK : ∀ {v : Int32} {yS : ms}, B 1 268435456 v → IM yS → K v yS) : b_greatest_5 x1 x2 x3 x4 S R5 K := by
  unfold b_greatest_5
  refine ⟨vp_B b_x1 (by decide) (by decide), ?_⟩
  refine ⟨fun hc => ?_, fun hc => ?_⟩
  · have hq1 := hc
    exact hK b_x3 hI
  · have hq2 := (nle_lt hc)
    have b3 := B_ltL b_x4 (br_14 hI _) hq2
    have b4 := B_ltR b_x4 (br_14 hI _) hq2
    refine ⟨fun hc => ?_, fun hc => ?_⟩
    · have b5 := B_eq hc (show B 0 0 (0 : Int32) from ⟨by decide, by decide⟩)
      refine ⟨vp_B (B_add (B_mul (show B 3 3 (3 : Int32) from ⟨by decide, by decide⟩) b_x1 (by decide) (by decide) (by decide)) b3 (by decide) (by decide)) (by decide) (by decide), ?_⟩
      exact sf_b_greatest_45 b_x1 (B_w b5 (by decide) (by decide)) b_x3 b3 (B_w (br_16 hI _) (by decide) (by decide)) hm_R5 hI hR5 hK
    · have b6 := B_n0 b_x2 hc
      refine ⟨vp_B (B_add (B_mul (show B 3 3 (3 : Int32) from ⟨by decide, by decide⟩) b_x1 (by decide) (by decide) (by decide)) b3 (by decide) (by decide)) (by decide) (by decide), ?_⟩
      exact sf_b_greatest_45 b_x1 (B_w b6 (by decide) (by decide)) b_x3 b3 (br_15 hI _) hm_R5 hI hR5 hK
set_option maxRecDepth 20000 in
set_option maxHeartbeats 1000000 in
theorem sf_b_greatest_59_s01 {x1 : Int32} {x2 : Int32} {x4 : Int32} {S : ms} {m_R5 : Int} {R5 : Int32 → Int32 → Int32 → Int32 → ms → Prop} {K : Int32 → ms → Prop} (b_x1 : B 0 1 x1) (b_x2 : B 0 1 x2) (b_x4 : B 0 0 x4) (hm_R5 : m_R5 ≤ x4.toInt) (hI : IM S) (hR5 : ∀ {y_x1 : Int32} {y_x2 : Int32} {y_x3 : Int32} {y_x4 : Int32} {y_S : ms}, B 0 2 y_x1 → B 0 1 y_x2 → B 1 268435456 y_x3 → B 0 3 y_x4 → m_R5 < y_x4.toInt → IM y_S → R5 y_x1 y_x2 y_x3 y_x4 y_S) (hK : ∀ {v : Int32} {yS : ms}, B 1 268435456 v → IM yS → K v yS) : b_greatest_59 x1 x2 x4 1 S R5 K := by
  unfold b_greatest_59
  exact hR5 (B_w b_x1 (by decide) (by decide)) b_x2 (B_w (show B 1 1 (1 : Int32) from ⟨by decide, by decide⟩) (by decide) (by decide)) (B_w (B_add b_x4 (show B 1 1 (1 : Int32) from ⟨by decide, by decide⟩) (by decide) (by decide)) (by decide) (by decide)) (inc_lt b_x4 hm_R5 (by decide) (by decide)) hI
set_option maxRecDepth 20000 in
set_option maxHeartbeats 1000000 in
theorem sf_b_greatest_59_s02 {x1 : Int32} {x2 : Int32} {x4 : Int32} {S : ms} {m_R5 : Int} {R5 : Int32 → Int32 → Int32 → Int32 → ms → Prop} {K : Int32 → ms → Prop} (b_x1 : B 0 1 x1) (b_x2 : B 0 1 x2) (b_x4 : B 0 2 x4) (hm_R5 : m_R5 ≤ x4.toInt) (hI : IM S) (hR5 : ∀ {y_x1 : Int32} {y_x2 : Int32} {y_x3 : Int32} {y_x4 : Int32} {y_S : ms}, B 0 2 y_x1 → B 0 1 y_x2 → B 1 268435456 y_x3 → B 0 3 y_x4 → m_R5 < y_x4.toInt → IM y_S → R5 y_x1 y_x2 y_x3 y_x4 y_S) (hK : ∀ {v : Int32} {yS : ms}, B 1 268435456 v → IM yS → K v yS) : b_greatest_59 x1 x2 x4 2 S R5 K := by
  unfold b_greatest_59
  exact hR5 (B_w b_x1 (by decide) (by decide)) b_x2 (B_w (show B 2 2 (2 : Int32) from ⟨by decide, by decide⟩) (by decide) (by decide)) (B_w (B_add b_x4 (show B 1 1 (1 : Int32) from ⟨by decide, by decide⟩) (by decide) (by decide)) (by decide) (by decide)) (inc_lt b_x4 hm_R5 (by decide) (by decide)) hI
set_option maxRecDepth 20000 in
set_option maxHeartbeats 1000000 in
theorem sf_b_init_420 {x1 : Int32} {x2 : Int32} {x3 : Int32} {S : ms} {m_R356 : Int} {m_R364 : Int} {R356 : Int32 → Int32 → ms → Prop} {R364 : Int32 → Int32 → Int32 → ms → Prop} {K : ms → Prop} (b_x1 : B 0 64 x1) (b_x2 : B 0 15 x2) (b_x3 : B 0 15 x3) (hm_R356 : m_R356 ≤ x2.toInt) (hm_R364 : m_R364 ≤ x3.toInt) (hI : IM S) (hR356 : ∀ {y_x1 : Int32} {y_x2 : Int32} {y_S : ms}, B 0 64 y_x1 → B 0 16 y_x2 → m_R356 < y_x2.toInt → IM y_S → R356 y_x1 y_x2 y_S) (hR364 : ∀ {y_x1 : Int32} {y_x2 : Int32} {y_x3 : Int32} {y_S : ms}, B 0 64 y_x1 → B 0 15 y_x2 → B 0 16 y_x3 → m_R364 < y_x3.toInt → m_R356 ≤ y_x2.toInt → IM y_S → R364 y_x1 y_x2 y_x3 y_S) (hK : ∀ {yS : ms}, IM yS → K yS) : b_init_420 x1 x2 x3 S R356 R364 K := by
  unfold b_init_420
  exact hR364 b_x1 b_x2 (B_w (B_add b_x3 (show B 1 1 (1 : Int32) from ⟨by decide, by decide⟩) (by decide) (by decide)) (by decide) (by decide)) (inc_lt b_x3 hm_R364 (by decide) (by decide)) hm_R356 hI
set_option maxRecDepth 20000 in
set_option maxHeartbeats 1000000 in
theorem sf_b_init_383_s00 {x1 : Int32} {x2 : Int32} {x3 : Int32} {S : ms} {m_R356 : Int} {m_R364 : Int} {R356 : Int32 → Int32 → ms → Prop} {R364 : Int32 → Int32 → Int32 → ms → Prop} {K : ms → Prop} (b_x1 : B 0 1 x1) (b_x2 : B 0 0 x2) (b_x3 : B 0 0 x3) (hm_R356 : m_R356 ≤ x2.toInt) (hm_R364 : m_R364 ≤ x3.toInt) (hI : IM S) (hR356 : ∀ {y_x1 : Int32} {y_x2 : Int32} {y_S : ms}, B 0 64 y_x1 → B 0 16 y_x2 → m_R356 < y_x2.toInt → IM y_S → R356 y_x1 y_x2 y_S) (hR364 : ∀ {y_x1 : Int32} {y_x2 : Int32} {y_x3 : Int32} {y_S : ms}, B 0 64 y_x1 → B 0 15 y_x2 → B 0 16 y_x3 → m_R364 < y_x3.toInt → m_R356 ≤ y_x2.toInt → IM y_S → R364 y_x1 y_x2 y_x3 y_S) (hK : ∀ {yS : ms}, IM yS → K yS) : b_init_383 x1 x2 x3 0 S R356 R364 K := by
  unfold b_init_383
  refine ⟨fun hc => ?_, fun hc => ?_⟩
  · exact (B_dead_le (show B 8 8 (8 : Int32) from ⟨by decide, by decide⟩) (show B 0 0 (0 : Int32) from ⟨by decide, by decide⟩) hc (by decide)).elim
  · have hq1 := (nle_lt hc)
    refine ⟨fun hc => ?_, fun hc => ?_⟩
    · exact (B_dead_le (show B 8 8 (8 : Int32) from ⟨by decide, by decide⟩) (B_sub b_x2 (show B 0 0 (0 : Int32) from ⟨by decide, by decide⟩) (by decide) (by decide)) hc (by decide)).elim
    · have hq2 := (nle_lt hc)
      refine ⟨vp_B b_x1 (by decide) (by decide), ?_⟩
      have hI3 := IM_r (r := 22) (i := x1.toNatClampNeg) (v := ((8 * 0) + x2) - 0) hI (B_sub (B_add (B_mul (show B 8 8 (8 : Int32) from ⟨by decide, by decide⟩) (show B 0 0 (0 : Int32) from ⟨by decide, by decide⟩) (by decide) (by decide) (by decide)) b_x2 (by decide) (by decide)) (show B 0 0 (0 : Int32) from ⟨by decide, by decide⟩) (by decide) (by decide)) (by decide) (by decide)
      exact sf_b_init_420 (B_w (B_add b_x1 (show B 1 1 (1 : Int32) from ⟨by decide, by decide⟩) (by decide) (by decide)) (by decide) (by decide)) (B_w b_x2 (by decide) (by decide)) (B_w b_x3 (by decide) (by decide)) hm_R356 hm_R364 hI3 hR356 hR364 hK
set_option maxRecDepth 20000 in
set_option maxHeartbeats 1000000 in
theorem sf_b_turn1_133_s00 {K : Int32 → Prop} (hK : ∀ {v : Int32}, B (-4096) 4096 v → K v) : b_turn1_133 0 K := by
  unfold b_turn1_133
  exact hK (B_w (show B 0 0 (0 : Int32) from ⟨by decide, by decide⟩) (by decide) (by decide))
set_option maxRecDepth 20000 in
set_option maxHeartbeats 1000000 in
theorem sf_b_turn1_120_s00 {x1 : Int32} {K : Int32 → Prop} (b_x1 : B 0 16 x1) (hK : ∀ {v : Int32}, B (-4096) 4096 v → K v) : b_turn1_120 x1 0 K := by
  unfold b_turn1_120
  refine ⟨fun hc => ?_, fun hc => ?_⟩
  · have hq1 := hc
    have b2 := B_leL b_x1 (show B 8 8 (8 : Int32) from ⟨by decide, by decide⟩) hq1
    exact sf_b_turn1_133_s00 hK
  · have hq3 := (nle_lt hc)
    have b4 := B_ltR (show B 8 8 (8 : Int32) from ⟨by decide, by decide⟩) b_x1 hq3
    exact sf_b_turn1_133_s00 hK
set_option maxRecDepth 20000 in
set_option maxHeartbeats 1000000 in
theorem sf_b_turn1_133_s0799 {K : Int32 → Prop} (hK : ∀ {v : Int32}, B (-4096) 4096 v → K v) : b_turn1_133 799 K := by
  unfold b_turn1_133
  exact hK (B_w (show B 799 799 (799 : Int32) from ⟨by decide, by decide⟩) (by decide) (by decide))
set_option maxRecDepth 20000 in
set_option maxHeartbeats 1000000 in
theorem sf_b_turn1_133_s0m799 {K : Int32 → Prop} (hK : ∀ {v : Int32}, B (-4096) 4096 v → K v) : b_turn1_133 (-799) K := by
  unfold b_turn1_133
  exact hK (B_w (show B (-799) (-799) (-799 : Int32) from ⟨by decide, by decide⟩) (by decide) (by decide))
set_option maxRecDepth 20000 in
set_option maxHeartbeats 1000000 in
theorem sf_b_turn1_120_s0799 {x1 : Int32} {K : Int32 → Prop} (b_x1 : B 0 16 x1) (hK : ∀ {v : Int32}, B (-4096) 4096 v → K v) : b_turn1_120 x1 799 K := by
  unfold b_turn1_120
  refine ⟨fun hc => ?_, fun hc => ?_⟩
  · have hq1 := hc
    have b2 := B_leL b_x1 (show B 8 8 (8 : Int32) from ⟨by decide, by decide⟩) hq1
    exact sf_b_turn1_133_s0799 hK
  · have hq3 := (nle_lt hc)
    have b4 := B_ltR (show B 8 8 (8 : Int32) from ⟨by decide, by decide⟩) b_x1 hq3
    exact sf_b_turn1_133_s0m799 hK
set_option maxRecDepth 20000 in
set_option maxHeartbeats 1000000 in
theorem sf_b_turn1_133_s01567 {K : Int32 → Prop} (hK : ∀ {v : Int32}, B (-4096) 4096 v → K v) : b_turn1_133 1567 K := by
  unfold b_turn1_133
  exact hK (B_w (show B 1567 1567 (1567 : Int32) from ⟨by decide, by decide⟩) (by decide) (by decide))
set_option maxRecDepth 20000 in
set_option maxHeartbeats 1000000 in
theorem sf_b_turn1_133_s0m1567 {K : Int32 → Prop} (hK : ∀ {v : Int32}, B (-4096) 4096 v → K v) : b_turn1_133 (-1567) K := by
  unfold b_turn1_133
  exact hK (B_w (show B (-1567) (-1567) (-1567 : Int32) from ⟨by decide, by decide⟩) (by decide) (by decide))
set_option maxRecDepth 20000 in
set_option maxHeartbeats 1000000 in
theorem sf_b_turn1_120_s01567 {x1 : Int32} {K : Int32 → Prop} (b_x1 : B 0 16 x1) (hK : ∀ {v : Int32}, B (-4096) 4096 v → K v) : b_turn1_120 x1 1567 K := by
  unfold b_turn1_120
  refine ⟨fun hc => ?_, fun hc => ?_⟩
  · have hq1 := hc
    have b2 := B_leL b_x1 (show B 8 8 (8 : Int32) from ⟨by decide, by decide⟩) hq1
    exact sf_b_turn1_133_s01567 hK
  · have hq3 := (nle_lt hc)
    have b4 := B_ltR (show B 8 8 (8 : Int32) from ⟨by decide, by decide⟩) b_x1 hq3
    exact sf_b_turn1_133_s0m1567 hK
set_option maxRecDepth 20000 in
set_option maxHeartbeats 1000000 in
theorem sf_b_turn1_133_s02276 {K : Int32 → Prop} (hK : ∀ {v : Int32}, B (-4096) 4096 v → K v) : b_turn1_133 2276 K := by
  unfold b_turn1_133
  exact hK (B_w (show B 2276 2276 (2276 : Int32) from ⟨by decide, by decide⟩) (by decide) (by decide))
set_option maxRecDepth 20000 in
set_option maxHeartbeats 1000000 in
theorem sf_b_turn1_133_s0m2276 {K : Int32 → Prop} (hK : ∀ {v : Int32}, B (-4096) 4096 v → K v) : b_turn1_133 (-2276) K := by
  unfold b_turn1_133
  exact hK (B_w (show B (-2276) (-2276) (-2276 : Int32) from ⟨by decide, by decide⟩) (by decide) (by decide))
set_option maxRecDepth 20000 in
set_option maxHeartbeats 1000000 in
theorem sf_b_turn1_120_s02276 {x1 : Int32} {K : Int32 → Prop} (b_x1 : B 0 16 x1) (hK : ∀ {v : Int32}, B (-4096) 4096 v → K v) : b_turn1_120 x1 2276 K := by
  unfold b_turn1_120
  refine ⟨fun hc => ?_, fun hc => ?_⟩
  · have hq1 := hc
    have b2 := B_leL b_x1 (show B 8 8 (8 : Int32) from ⟨by decide, by decide⟩) hq1
    exact sf_b_turn1_133_s02276 hK
  · have hq3 := (nle_lt hc)
    have b4 := B_ltR (show B 8 8 (8 : Int32) from ⟨by decide, by decide⟩) b_x1 hq3
    exact sf_b_turn1_133_s0m2276 hK
set_option maxRecDepth 20000 in
set_option maxHeartbeats 1000000 in
theorem sf_b_turn1_133_s02896 {K : Int32 → Prop} (hK : ∀ {v : Int32}, B (-4096) 4096 v → K v) : b_turn1_133 2896 K := by
  unfold b_turn1_133
  exact hK (B_w (show B 2896 2896 (2896 : Int32) from ⟨by decide, by decide⟩) (by decide) (by decide))
set_option maxRecDepth 20000 in
set_option maxHeartbeats 1000000 in
theorem sf_b_turn1_133_s0m2896 {K : Int32 → Prop} (hK : ∀ {v : Int32}, B (-4096) 4096 v → K v) : b_turn1_133 (-2896) K := by
  unfold b_turn1_133
  exact hK (B_w (show B (-2896) (-2896) (-2896 : Int32) from ⟨by decide, by decide⟩) (by decide) (by decide))
set_option maxRecDepth 20000 in
set_option maxHeartbeats 1000000 in
theorem sf_b_turn1_120_s02896 {x1 : Int32} {K : Int32 → Prop} (b_x1 : B 0 16 x1) (hK : ∀ {v : Int32}, B (-4096) 4096 v → K v) : b_turn1_120 x1 2896 K := by
  unfold b_turn1_120
  refine ⟨fun hc => ?_, fun hc => ?_⟩
  · have hq1 := hc
    have b2 := B_leL b_x1 (show B 8 8 (8 : Int32) from ⟨by decide, by decide⟩) hq1
    exact sf_b_turn1_133_s02896 hK
  · have hq3 := (nle_lt hc)
    have b4 := B_ltR (show B 8 8 (8 : Int32) from ⟨by decide, by decide⟩) b_x1 hq3
    exact sf_b_turn1_133_s0m2896 hK
set_option maxRecDepth 20000 in
set_option maxHeartbeats 1000000 in
theorem sf_b_turn1_133_s03406 {K : Int32 → Prop} (hK : ∀ {v : Int32}, B (-4096) 4096 v → K v) : b_turn1_133 3406 K := by
  unfold b_turn1_133
  exact hK (B_w (show B 3406 3406 (3406 : Int32) from ⟨by decide, by decide⟩) (by decide) (by decide))
set_option maxRecDepth 20000 in
set_option maxHeartbeats 1000000 in
theorem sf_b_turn1_133_s0m3406 {K : Int32 → Prop} (hK : ∀ {v : Int32}, B (-4096) 4096 v → K v) : b_turn1_133 (-3406) K := by
  unfold b_turn1_133
  exact hK (B_w (show B (-3406) (-3406) (-3406 : Int32) from ⟨by decide, by decide⟩) (by decide) (by decide))
set_option maxRecDepth 20000 in
set_option maxHeartbeats 1000000 in
theorem sf_b_turn1_120_s03406 {x1 : Int32} {K : Int32 → Prop} (b_x1 : B 0 16 x1) (hK : ∀ {v : Int32}, B (-4096) 4096 v → K v) : b_turn1_120 x1 3406 K := by
  unfold b_turn1_120
  refine ⟨fun hc => ?_, fun hc => ?_⟩
  · have hq1 := hc
    have b2 := B_leL b_x1 (show B 8 8 (8 : Int32) from ⟨by decide, by decide⟩) hq1
    exact sf_b_turn1_133_s03406 hK
  · have hq3 := (nle_lt hc)
    have b4 := B_ltR (show B 8 8 (8 : Int32) from ⟨by decide, by decide⟩) b_x1 hq3
    exact sf_b_turn1_133_s0m3406 hK
set_option maxRecDepth 20000 in
set_option maxHeartbeats 1000000 in
theorem sf_b_turn1_133_s03784 {K : Int32 → Prop} (hK : ∀ {v : Int32}, B (-4096) 4096 v → K v) : b_turn1_133 3784 K := by
  unfold b_turn1_133
  exact hK (B_w (show B 3784 3784 (3784 : Int32) from ⟨by decide, by decide⟩) (by decide) (by decide))
set_option maxRecDepth 20000 in
set_option maxHeartbeats 1000000 in
theorem sf_b_turn1_133_s0m3784 {K : Int32 → Prop} (hK : ∀ {v : Int32}, B (-4096) 4096 v → K v) : b_turn1_133 (-3784) K := by
  unfold b_turn1_133
  exact hK (B_w (show B (-3784) (-3784) (-3784 : Int32) from ⟨by decide, by decide⟩) (by decide) (by decide))
set_option maxRecDepth 20000 in
set_option maxHeartbeats 1000000 in
theorem sf_b_turn1_120_s03784 {x1 : Int32} {K : Int32 → Prop} (b_x1 : B 0 16 x1) (hK : ∀ {v : Int32}, B (-4096) 4096 v → K v) : b_turn1_120 x1 3784 K := by
  unfold b_turn1_120
  refine ⟨fun hc => ?_, fun hc => ?_⟩
  · have hq1 := hc
    have b2 := B_leL b_x1 (show B 8 8 (8 : Int32) from ⟨by decide, by decide⟩) hq1
    exact sf_b_turn1_133_s03784 hK
  · have hq3 := (nle_lt hc)
    have b4 := B_ltR (show B 8 8 (8 : Int32) from ⟨by decide, by decide⟩) b_x1 hq3
    exact sf_b_turn1_133_s0m3784 hK
set_option maxRecDepth 20000 in
set_option maxHeartbeats 1000000 in
theorem sf_b_turn1_133_s04017 {K : Int32 → Prop} (hK : ∀ {v : Int32}, B (-4096) 4096 v → K v) : b_turn1_133 4017 K := by
  unfold b_turn1_133
  exact hK (B_w (show B 4017 4017 (4017 : Int32) from ⟨by decide, by decide⟩) (by decide) (by decide))
set_option maxRecDepth 20000 in
set_option maxHeartbeats 1000000 in
theorem sf_b_turn1_133_s0m4017 {K : Int32 → Prop} (hK : ∀ {v : Int32}, B (-4096) 4096 v → K v) : b_turn1_133 (-4017) K := by
  unfold b_turn1_133
  exact hK (B_w (show B (-4017) (-4017) (-4017 : Int32) from ⟨by decide, by decide⟩) (by decide) (by decide))
set_option maxRecDepth 20000 in
set_option maxHeartbeats 1000000 in
theorem sf_b_turn1_120_s04017 {x1 : Int32} {K : Int32 → Prop} (b_x1 : B 0 16 x1) (hK : ∀ {v : Int32}, B (-4096) 4096 v → K v) : b_turn1_120 x1 4017 K := by
  unfold b_turn1_120
  refine ⟨fun hc => ?_, fun hc => ?_⟩
  · have hq1 := hc
    have b2 := B_leL b_x1 (show B 8 8 (8 : Int32) from ⟨by decide, by decide⟩) hq1
    exact sf_b_turn1_133_s04017 hK
  · have hq3 := (nle_lt hc)
    have b4 := B_ltR (show B 8 8 (8 : Int32) from ⟨by decide, by decide⟩) b_x1 hq3
    exact sf_b_turn1_133_s0m4017 hK
set_option maxRecDepth 20000 in
set_option maxHeartbeats 1000000 in
theorem sf_b_turn1_133_s04096 {K : Int32 → Prop} (hK : ∀ {v : Int32}, B (-4096) 4096 v → K v) : b_turn1_133 4096 K := by
  unfold b_turn1_133
  exact hK (B_w (show B 4096 4096 (4096 : Int32) from ⟨by decide, by decide⟩) (by decide) (by decide))
set_option maxRecDepth 20000 in
set_option maxHeartbeats 1000000 in
theorem sf_b_turn1_133_s0m4096 {K : Int32 → Prop} (hK : ∀ {v : Int32}, B (-4096) 4096 v → K v) : b_turn1_133 (-4096) K := by
  unfold b_turn1_133
  exact hK (B_w (show B (-4096) (-4096) (-4096 : Int32) from ⟨by decide, by decide⟩) (by decide) (by decide))
set_option maxRecDepth 20000 in
set_option maxHeartbeats 1000000 in
theorem sf_b_turn1_120_s04096 {x1 : Int32} {K : Int32 → Prop} (b_x1 : B 0 16 x1) (hK : ∀ {v : Int32}, B (-4096) 4096 v → K v) : b_turn1_120 x1 4096 K := by
  unfold b_turn1_120
  refine ⟨fun hc => ?_, fun hc => ?_⟩
  · have hq1 := hc
    have b2 := B_leL b_x1 (show B 8 8 (8 : Int32) from ⟨by decide, by decide⟩) hq1
    exact sf_b_turn1_133_s04096 hK
  · have hq3 := (nle_lt hc)
    have b4 := B_ltR (show B 8 8 (8 : Int32) from ⟨by decide, by decide⟩) b_x1 hq3
    exact sf_b_turn1_133_s0m4096 hK
set_option maxRecDepth 20000 in
set_option maxHeartbeats 1000000 in
theorem sf_b_turn1_29 {x1 : Int32} {s0 : Int32} {K : Int32 → Prop} (b_x1 : B 0 16 x1) (b_s0 : B 0 8 s0) (hK : ∀ {v : Int32}, B (-4096) 4096 v → K v) : b_turn1_29 x1 s0 K := by
  unfold b_turn1_29
  refine ⟨fun hc => ?_, fun hc => ?_⟩
  · have b1 := B_n0 b_s0 hc
    refine ⟨fun hc => ?_, fun hc => ?_⟩
    · have hz := hc
      refine ⟨fun hc => ?_, fun hc => ?_⟩
      · have hz := hc
        refine ⟨fun hc => ?_, fun hc => ?_⟩
        · have hz := hc
          refine ⟨fun hc => ?_, fun hc => ?_⟩
          · have hz := hc
            refine ⟨fun hc => ?_, fun hc => ?_⟩
            · have hz := hc
              refine ⟨fun hc => ?_, fun hc => ?_⟩
              · have hz := hc
                refine ⟨fun hc => ?_, fun hc => ?_⟩
                · have hz := hc
                  exact sf_b_turn1_120_s00 b_x1 hK
                · have b2 := B_eq hc (show B 7 7 (7 : Int32) from ⟨by decide, by decide⟩)
                  exact sf_b_turn1_120_s0799 b_x1 hK
              · have b3 := B_eq hc (show B 6 6 (6 : Int32) from ⟨by decide, by decide⟩)
                exact sf_b_turn1_120_s01567 b_x1 hK
            · have b4 := B_eq hc (show B 5 5 (5 : Int32) from ⟨by decide, by decide⟩)
              exact sf_b_turn1_120_s02276 b_x1 hK
          · have b5 := B_eq hc (show B 4 4 (4 : Int32) from ⟨by decide, by decide⟩)
            exact sf_b_turn1_120_s02896 b_x1 hK
        · have b6 := B_eq hc (show B 3 3 (3 : Int32) from ⟨by decide, by decide⟩)
          exact sf_b_turn1_120_s03406 b_x1 hK
      · have b7 := B_eq hc (show B 2 2 (2 : Int32) from ⟨by decide, by decide⟩)
        exact sf_b_turn1_120_s03784 b_x1 hK
    · have b8 := B_eq hc (show B 1 1 (1 : Int32) from ⟨by decide, by decide⟩)
      exact sf_b_turn1_120_s04017 b_x1 hK
  · have b9 := B_eq hc (show B 0 0 (0 : Int32) from ⟨by decide, by decide⟩)
    exact sf_b_turn1_120_s04096 b_x1 hK
set_option maxRecDepth 20000 in
set_option maxHeartbeats 1000000 in
theorem sf_b_turn1_14 {s0 : Int32} {K : Int32 → Prop} (b_s0 : B 0 16 s0) (hK : ∀ {v : Int32}, B (-4096) 4096 v → K v) : b_turn1_14 s0 K := by
  unfold b_turn1_14
  refine ⟨fun hc => ?_, fun hc => ?_⟩
  · have hq1 := hc
    have b2 := B_leL b_s0 (show B 8 8 (8 : Int32) from ⟨by decide, by decide⟩) hq1
    exact sf_b_turn1_29 (B_w b2 (by decide) (by decide)) b2 hK
  · have hq3 := (nle_lt hc)
    have b4 := B_ltR (show B 8 8 (8 : Int32) from ⟨by decide, by decide⟩) b_s0 hq3
    exact sf_b_turn1_29 (B_w b4 (by decide) (by decide)) (B_w (B_sub (show B 16 16 (16 : Int32) from ⟨by decide, by decide⟩) b4 (by decide) (by decide)) (by decide) (by decide)) hK
set_option maxRecDepth 20000 in
set_option maxHeartbeats 1000000 in
theorem sf_p_turn1 {x0 : Int32} {K : Int32 → Prop} (b_x0 : B 0 31 x0) (hK : ∀ {v : Int32}, B (-4096) 4096 v → K v) : p_turn1 x0 K := by
  unfold p_turn1
  refine ⟨fun hc => ?_, fun hc => ?_⟩
  · have hq1 := hc
    have b2 := B_leL b_x0 (show B 16 16 (16 : Int32) from ⟨by decide, by decide⟩) hq1
    exact sf_b_turn1_14 b2 hK
  · have hq3 := (nle_lt hc)
    have b4 := B_ltR (show B 16 16 (16 : Int32) from ⟨by decide, by decide⟩) b_x0 hq3
    exact sf_b_turn1_14 (B_w (B_sub (show B 32 32 (32 : Int32) from ⟨by decide, by decide⟩) b4 (by decide) (by decide)) (by decide) (by decide)) hK
set_option maxRecDepth 20000 in
set_option maxHeartbeats 1000000 in
theorem sf_b_init_481 {x2 : Int32} {x3 : Int32} {s1 : Int32} {s2 : Int32} {S : ms} {m_R434 : Int} {m_R442 : Int} {R434 : Int32 → ms → Prop} {R442 : Int32 → Int32 → ms → Prop} {K : ms → Prop} (b_x2 : B 0 7 x2) (b_x3 : B 1 7 x3) (b_s1 : B 1 63 s1) (b_s2 : B (-4096) 4096 s2) (hm_R434 : m_R434 ≤ x2.toInt) (hm_R442 : m_R442 ≤ x3.toInt) (hI : IM S) (hR434 : ∀ {y_x2 : Int32} {y_S : ms}, B 0 8 y_x2 → m_R434 < y_x2.toInt → IM y_S → R434 y_x2 y_S) (hR442 : ∀ {y_x2 : Int32} {y_x3 : Int32} {y_S : ms}, B 0 7 y_x2 → B 0 8 y_x3 → m_R442 < y_x3.toInt → m_R434 ≤ y_x2.toInt → IM y_S → R442 y_x2 y_x3 y_S) (hK : ∀ {yS : ms}, IM yS → K yS) : b_init_481 x2 x3 s1 s2 S R434 R442 K := by
  unfold b_init_481
  refine ⟨vp_B b_s1 (by decide) (by decide), ?_⟩
  have hI1 := IM_r (r := 23) (i := s1.toNatClampNeg) (v := s2) hI b_s2 (by decide) (by decide)
  exact hR442 b_x2 (B_w (B_add b_x3 (show B 1 1 (1 : Int32) from ⟨by decide, by decide⟩) (by decide) (by decide)) (by decide) (by decide)) (inc_lt b_x3 hm_R442 (by decide) (by decide)) hm_R434 hI1
set_option maxRecDepth 20000 in
set_option maxHeartbeats 1000000 in
theorem sf_b_init_481_s22896 {x2 : Int32} {x3 : Int32} {s1 : Int32} {S : ms} {m_R434 : Int} {m_R442 : Int} {R434 : Int32 → ms → Prop} {R442 : Int32 → Int32 → ms → Prop} {K : ms → Prop} (b_x2 : B 0 7 x2) (b_x3 : B 0 0 x3) (b_s1 : B 0 56 s1) (hm_R434 : m_R434 ≤ x2.toInt) (hm_R442 : m_R442 ≤ x3.toInt) (hI : IM S) (hR434 : ∀ {y_x2 : Int32} {y_S : ms}, B 0 8 y_x2 → m_R434 < y_x2.toInt → IM y_S → R434 y_x2 y_S) (hR442 : ∀ {y_x2 : Int32} {y_x3 : Int32} {y_S : ms}, B 0 7 y_x2 → B 0 8 y_x3 → m_R442 < y_x3.toInt → m_R434 ≤ y_x2.toInt → IM y_S → R442 y_x2 y_x3 y_S) (hK : ∀ {yS : ms}, IM yS → K yS) : b_init_481 x2 x3 s1 2896 S R434 R442 K := by
  unfold b_init_481
  refine ⟨vp_B b_s1 (by decide) (by decide), ?_⟩
  have hI1 := IM_r (r := 23) (i := s1.toNatClampNeg) (v := 2896) hI (show B 2896 2896 (2896 : Int32) from ⟨by decide, by decide⟩) (by decide) (by decide)
  exact hR442 b_x2 (B_w (B_add b_x3 (show B 1 1 (1 : Int32) from ⟨by decide, by decide⟩) (by decide) (by decide)) (by decide) (by decide)) (inc_lt b_x3 hm_R442 (by decide) (by decide)) hm_R434 hI1
set_option maxRecDepth 20000 in
set_option maxHeartbeats 1000000 in
theorem sf_b_init_442 {x2 : Int32} {x3 : Int32} {S : ms} {m_R434 : Int} {m_R442 : Int} {R434 : Int32 → ms → Prop} {R442 : Int32 → Int32 → ms → Prop} {K : ms → Prop} (b_x2 : B 0 7 x2) (b_x3 : B 0 8 x3) (hm_R434 : m_R434 ≤ x2.toInt) (hm_R442 : m_R442 ≤ x3.toInt) (hI : IM S) (hR434 : ∀ {y_x2 : Int32} {y_S : ms}, B 0 8 y_x2 → m_R434 < y_x2.toInt → IM y_S → R434 y_x2 y_S) (hR442 : ∀ {y_x2 : Int32} {y_x3 : Int32} {y_S : ms}, B 0 7 y_x2 → B 0 8 y_x3 → m_R442 < y_x3.toInt → m_R434 ≤ y_x2.toInt → IM y_S → R442 y_x2 y_x3 y_S) (hK : ∀ {yS : ms}, IM yS → K yS) : b_init_442 x2 x3 S R434 R442 K := by
  unfold b_init_442
  refine ⟨fun hc => ?_, fun hc => ?_⟩
  · have hq1 := hc
    have b2 := B_leR (show B 8 8 (8 : Int32) from ⟨by decide, by decide⟩) b_x3 hq1
    exact hR434 (B_w (B_add b_x2 (show B 1 1 (1 : Int32) from ⟨by decide, by decide⟩) (by decide) (by decide)) (by decide) (by decide)) (inc_lt b_x2 hm_R434 (by decide) (by decide)) hI
  · have hq3 := (nle_lt hc)
    have b4 := B_ltL b_x3 (show B 8 8 (8 : Int32) from ⟨by decide, by decide⟩) hq3
    refine ⟨fun hc => ?_, fun hc => ?_⟩
    · have b5 := B_n0 b4 hc
      refine sf_p_turn1 (B_rem (B_mul (B_add (B_mul (show B 2 2 (2 : Int32) from ⟨by decide, by decide⟩) b_x2 (by decide) (by decide) (by decide)) (show B 1 1 (1 : Int32) from ⟨by decide, by decide⟩) (by decide) (by decide)) b5 (by decide) (by decide) (by decide)) (show B 32 32 (32 : Int32) from ⟨by decide, by decide⟩) (by decide) (by decide)) (fun {v478} b_v478 => ?_)
      exact sf_b_init_481 b_x2 b5 (B_add (B_mul (show B 8 8 (8 : Int32) from ⟨by decide, by decide⟩) b_x2 (by decide) (by decide) (by decide)) b5 (by decide) (by decide)) b_v478 hm_R434 hm_R442 hI hR434 hR442 hK
    · have b6 := B_eq hc (show B 0 0 (0 : Int32) from ⟨by decide, by decide⟩)
      exact sf_b_init_481_s22896 b_x2 b6 (B_add (B_mul (show B 8 8 (8 : Int32) from ⟨by decide, by decide⟩) b_x2 (by decide) (by decide) (by decide)) b6 (by decide) (by decide)) hm_R434 hm_R442 hI hR434 hR442 hK
theorem sf_e_init_442 {x2 : Int32} {x3 : Int32} {S : ms} {m_R434 : Int} {R434 : Int32 → ms → Prop} {K : ms → Prop} (b_x2 : B 0 7 x2) (b_x3 : B 0 8 x3) (hm_R434 : m_R434 ≤ x2.toInt) (hI : IM S) (hR434 : ∀ {y_x2 : Int32} {y_S : ms}, B 0 8 y_x2 → m_R434 < y_x2.toInt → IM y_S → R434 y_x2 y_S) (hK : ∀ {yS : ms}, IM yS → K yS) : e_init_442 x2 x3 S R434 K := by
  refine ⟨fun y_x2 y_x3 y_S => B 0 7 y_x2 ∧ B 0 8 y_x3 ∧ m_R434 ≤ y_x2.toInt ∧ IM y_S, fun y_x2 y_x3 y_S => (8 - y_x3.toInt).toNat, ⟨b_x2, b_x3, hm_R434, hI⟩, fun y_x2 y_x3 y_S hIv => ?_⟩
  obtain ⟨c_x2, c_x3, cm_R434, cI⟩ := hIv
  exact sf_b_init_442 c_x2 c_x3 cm_R434 (Int.le_refl _) cI hR434 (fun d_x2 d_x3 dlt dm_R434 dI => ⟨⟨d_x2, d_x3, dm_R434, dI⟩, (by have h1 := dlt; have h2 := d_x3.2; have h3 := c_x3.2; dsimp only; omega)⟩) hK
set_option maxRecDepth 20000 in
set_option maxHeartbeats 1000000 in
theorem sf_b_init_434 {x2 : Int32} {S : ms} {m_R434 : Int} {R434 : Int32 → ms → Prop} {K : ms → Prop} (b_x2 : B 0 8 x2) (hm_R434 : m_R434 ≤ x2.toInt) (hI : IM S) (hR434 : ∀ {y_x2 : Int32} {y_S : ms}, B 0 8 y_x2 → m_R434 < y_x2.toInt → IM y_S → R434 y_x2 y_S) (hK : ∀ {yS : ms}, IM yS → K yS) : b_init_434 x2 S R434 K := by
  unfold b_init_434
  refine ⟨fun hc => ?_, fun hc => ?_⟩
  · have hq1 := hc
    have b2 := B_leR (show B 8 8 (8 : Int32) from ⟨by decide, by decide⟩) b_x2 hq1
    exact hK hI
  · have hq3 := (nle_lt hc)
    have b4 := B_ltL b_x2 (show B 8 8 (8 : Int32) from ⟨by decide, by decide⟩) hq3
    exact sf_e_init_442 b4 (B_w (show B 0 0 (0 : Int32) from ⟨by decide, by decide⟩) (by decide) (by decide)) hm_R434 hI hR434 hK
set_option maxRecDepth 20000 in
set_option maxHeartbeats 1000000 in
theorem sf_b_init_481_s10_s22896 {x2 : Int32} {x3 : Int32} {S : ms} {m_R434 : Int} {m_R442 : Int} {R434 : Int32 → ms → Prop} {R442 : Int32 → Int32 → ms → Prop} {K : ms → Prop} (b_x2 : B 0 0 x2) (b_x3 : B 0 0 x3) (hm_R434 : m_R434 ≤ x2.toInt) (hm_R442 : m_R442 ≤ x3.toInt) (hI : IM S) (hR434 : ∀ {y_x2 : Int32} {y_S : ms}, B 0 8 y_x2 → m_R434 < y_x2.toInt → IM y_S → R434 y_x2 y_S) (hR442 : ∀ {y_x2 : Int32} {y_x3 : Int32} {y_S : ms}, B 0 7 y_x2 → B 0 8 y_x3 → m_R442 < y_x3.toInt → m_R434 ≤ y_x2.toInt → IM y_S → R442 y_x2 y_x3 y_S) (hK : ∀ {yS : ms}, IM yS → K yS) : b_init_481 x2 x3 0 2896 S R434 R442 K := by
  unfold b_init_481
  refine ⟨vp_B (show B 0 0 (0 : Int32) from ⟨by decide, by decide⟩) (by decide) (by decide), ?_⟩
  have hI1 := IM_r (r := 23) (i := (0 : Int32).toNatClampNeg) (v := 2896) hI (show B 2896 2896 (2896 : Int32) from ⟨by decide, by decide⟩) (by decide) (by decide)
  exact hR442 (B_w b_x2 (by decide) (by decide)) (B_w (B_add b_x3 (show B 1 1 (1 : Int32) from ⟨by decide, by decide⟩) (by decide) (by decide)) (by decide) (by decide)) (inc_lt b_x3 hm_R442 (by decide) (by decide)) hm_R434 hI1
set_option maxRecDepth 20000 in
set_option maxHeartbeats 1000000 in
theorem sf_b_init_481_s11 {x2 : Int32} {x3 : Int32} {s2 : Int32} {S : ms} {m_R434 : Int} {m_R442 : Int} {R434 : Int32 → ms → Prop} {R442 : Int32 → Int32 → ms → Prop} {K : ms → Prop} (b_x2 : B 0 0 x2) (b_x3 : B 1 1 x3) (b_s2 : B 4017 4096 s2) (hm_R434 : m_R434 ≤ x2.toInt) (hm_R442 : m_R442 ≤ x3.toInt) (hI : IM S) (hR434 : ∀ {y_x2 : Int32} {y_S : ms}, B 0 8 y_x2 → m_R434 < y_x2.toInt → IM y_S → R434 y_x2 y_S) (hR442 : ∀ {y_x2 : Int32} {y_x3 : Int32} {y_S : ms}, B 0 7 y_x2 → B 0 8 y_x3 → m_R442 < y_x3.toInt → m_R434 ≤ y_x2.toInt → IM y_S → R442 y_x2 y_x3 y_S) (hK : ∀ {yS : ms}, IM yS → K yS) : b_init_481 x2 x3 1 s2 S R434 R442 K := by
  unfold b_init_481
  refine ⟨vp_B (show B 1 1 (1 : Int32) from ⟨by decide, by decide⟩) (by decide) (by decide), ?_⟩
  have hI1 := IM_r (r := 23) (i := (1 : Int32).toNatClampNeg) (v := s2) hI b_s2 (by decide) (by decide)
  exact hR442 (B_w b_x2 (by decide) (by decide)) (B_w (B_add b_x3 (show B 1 1 (1 : Int32) from ⟨by decide, by decide⟩) (by decide) (by decide)) (by decide) (by decide)) (inc_lt b_x3 hm_R442 (by decide) (by decide)) hm_R434 hI1
set_option maxRecDepth 20000 in
set_option maxHeartbeats 1000000 in
theorem sf_b_isDone_34 {x1 : Int32} {S : ms} {K : Int32 → ms → Prop} (b_x1 : B 0 1 x1) (hI : IM S) (hK : ∀ {v : Int32} {yS : ms}, B 0 1 v → IM yS → K v yS) : b_isDone_34 x1 S K := by
  unfold b_isDone_34
  refine ⟨B_nar b_x1 (by decide) (by decide), ?_⟩
  exact hK b_x1 hI
set_option maxRecDepth 20000 in
set_option maxHeartbeats 1000000 in
theorem sf_b_isDone_7 {x1 : Int32} {x2 : Int32} {S : ms} {m_R7 : Int} {R7 : Int32 → Int32 → ms → Prop} {K : Int32 → ms → Prop} (b_x1 : B 0 1 x1) (b_x2 : B 0 3 x2) (hm_R7 : m_R7 ≤ x2.toInt) (hI : IM S) (hR7 : ∀ {y_x1 : Int32} {y_x2 : Int32} {y_S : ms}, B 0 1 y_x1 → B 0 3 y_x2 → m_R7 < y_x2.toInt → IM y_S → R7 y_x1 y_x2 y_S) (hK : ∀ {v : Int32} {yS : ms}, B 0 1 v → IM yS → K v yS) : b_isDone_7 x1 x2 S R7 K := by
  unfold b_isDone_7
  refine ⟨vp_B (show B 2 2 (2 : Int32) from ⟨by decide, by decide⟩) (by decide) (by decide), ?_⟩
  refine ⟨fun hc => ?_, fun hc => ?_⟩
  · have hq1 := hc
    exact sf_b_isDone_34 b_x1 hI hK
  · have hq2 := (nle_lt hc)
    have b3 := B_ltL b_x2 (br_14 hI _) hq2
    have b4 := B_ltR b_x2 (br_14 hI _) hq2
    refine ⟨fun hc => ?_, fun hc => ?_⟩
    · have b5 := B_eq hc (show B 0 0 (0 : Int32) from ⟨by decide, by decide⟩)
      exact sf_b_isDone_34 (B_w b5 (by decide) (by decide)) hI hK
    · have b6 := B_n0 b_x1 hc
      refine ⟨vp_B b3 (by decide) (by decide), ?_⟩
      exact hR7 (br_47 hI _) (B_w (B_add b3 (show B 1 1 (1 : Int32) from ⟨by decide, by decide⟩) (by decide) (by decide)) (by decide) (by decide)) (inc_lt b3 hm_R7 (by decide) (by decide)) hI
set_option maxRecDepth 20000 in
set_option maxHeartbeats 1000000 in
theorem sf_b_isOut_77_s01 {S : ms} {K : Int32 → ms → Prop} (hI : IM S) (hK : ∀ {v : Int32} {yS : ms}, B 0 1 v → IM yS → K v yS) : b_isOut_77 1 S K := by
  unfold b_isOut_77
  refine ⟨B_nar (show B 1 1 (1 : Int32) from ⟨by decide, by decide⟩) (by decide) (by decide), ?_⟩
  exact hK (B_w (show B 1 1 (1 : Int32) from ⟨by decide, by decide⟩) (by decide) (by decide)) hI
set_option maxRecDepth 20000 in
set_option maxHeartbeats 1000000 in
theorem sf_b_isOut_62_s11 {S : ms} {K : Int32 → ms → Prop} (hI : IM S) (hK : ∀ {v : Int32} {yS : ms}, B 0 1 v → IM yS → K v yS) : b_isOut_62 1 S K := by
  unfold b_isOut_62
  refine ⟨fun hc => ?_, fun hc => ?_⟩
  · exact (B_dead_le (show B 1 1 (1 : Int32) from ⟨by decide, by decide⟩) (show B 0 0 (0 : Int32) from ⟨by decide, by decide⟩) hc (by decide)).elim
  · have hq1 := (nle_lt hc)
    have hI2 := IM_f (k := 0) (v := 1) hI (show B 1 1 (1 : Int32) from ⟨by decide, by decide⟩) (by decide) (by decide)
    exact sf_b_isOut_77_s01 hI2 hK
set_option maxRecDepth 20000 in
set_option maxHeartbeats 1000000 in
theorem sf_b_isOut_57 {S : ms} {K : Int32 → ms → Prop} (hI : IM S) (hK : ∀ {v : Int32} {yS : ms}, B 0 1 v → IM yS → K v yS) : b_isOut_57 S K := by
  unfold b_isOut_57
  exact sf_b_isOut_62_s11 hI hK
set_option maxRecDepth 20000 in
set_option maxHeartbeats 1000000 in
theorem sf_b_isOut_77_s00 {S : ms} {K : Int32 → ms → Prop} (hI : IM S) (hK : ∀ {v : Int32} {yS : ms}, B 0 1 v → IM yS → K v yS) : b_isOut_77 0 S K := by
  unfold b_isOut_77
  refine ⟨B_nar (show B 0 0 (0 : Int32) from ⟨by decide, by decide⟩) (by decide) (by decide), ?_⟩
  exact hK (B_w (show B 0 0 (0 : Int32) from ⟨by decide, by decide⟩) (by decide) (by decide)) hI
set_option maxRecDepth 20000 in
set_option maxHeartbeats 1000000 in
theorem sf_b_isOut_62_s10 {S : ms} {K : Int32 → ms → Prop} (hI : IM S) (hK : ∀ {v : Int32} {yS : ms}, B 0 1 v → IM yS → K v yS) : b_isOut_62 0 S K := by
  unfold b_isOut_62
  refine ⟨fun hc => ?_, fun hc => ?_⟩
  · have hq1 := hc
    have hI2 := IM_f (k := 0) (v := 0) hI (show B 0 0 (0 : Int32) from ⟨by decide, by decide⟩) (by decide) (by decide)
    exact sf_b_isOut_77_s00 hI2 hK
  · exact (B_dead_lt (show B 0 0 (0 : Int32) from ⟨by decide, by decide⟩) (show B 0 0 (0 : Int32) from ⟨by decide, by decide⟩) (nle_lt hc) (by decide)).elim
set_option maxRecDepth 20000 in
set_option maxHeartbeats 1000000 in
theorem sf_b_layerNamed_29 {x1 : Int32} {x3 : Int32} {s0 : Int32} {S : ms} {m_R4 : Int} {R4 : Int32 → Int32 → Int32 → ms → Prop} {K : Int32 → ms → Prop} (b_x1 : B (-2147483648) 2147483647 x1) (b_x3 : B 0 2 x3) (b_s0 : B (-1) 2 s0) (hm_R4 : m_R4 ≤ x3.toInt) (hI : IM S) (hR4 : ∀ {y_x1 : Int32} {y_x2 : Int32} {y_x3 : Int32} {y_S : ms}, B (-2147483648) 2147483647 y_x1 → B (-1) 2 y_x2 → B 0 3 y_x3 → m_R4 < y_x3.toInt → IM y_S → R4 y_x1 y_x2 y_x3 y_S) (hK : ∀ {v : Int32} {yS : ms}, B (-1) 2 v → IM yS → K v yS) : b_layerNamed_29 x1 x3 s0 S R4 K := by
  unfold b_layerNamed_29
  exact hR4 b_x1 b_s0 (B_w (B_add b_x3 (show B 1 1 (1 : Int32) from ⟨by decide, by decide⟩) (by decide) (by decide)) (by decide) (by decide)) (inc_lt b_x3 hm_R4 (by decide) (by decide)) hI
set_option maxRecDepth 20000 in
set_option maxHeartbeats 1000000 in
theorem sf_b_layerNamed_29_s0m1 {x1 : Int32} {x3 : Int32} {S : ms} {m_R4 : Int} {R4 : Int32 → Int32 → Int32 → ms → Prop} {K : Int32 → ms → Prop} (b_x1 : B 0 255 x1) (b_x3 : B 0 0 x3) (hm_R4 : m_R4 ≤ x3.toInt) (hI : IM S) (hR4 : ∀ {y_x1 : Int32} {y_x2 : Int32} {y_x3 : Int32} {y_S : ms}, B (-2147483648) 2147483647 y_x1 → B (-1) 2 y_x2 → B 0 3 y_x3 → m_R4 < y_x3.toInt → IM y_S → R4 y_x1 y_x2 y_x3 y_S) (hK : ∀ {v : Int32} {yS : ms}, B (-1) 2 v → IM yS → K v yS) : b_layerNamed_29 x1 x3 (-1) S R4 K := by
  unfold b_layerNamed_29
  exact hR4 (B_w b_x1 (by decide) (by decide)) (B_w (show B (-1) (-1) (-1 : Int32) from ⟨by decide, by decide⟩) (by decide) (by decide)) (B_w (B_add b_x3 (show B 1 1 (1 : Int32) from ⟨by decide, by decide⟩) (by decide) (by decide)) (by decide) (by decide)) (inc_lt b_x3 hm_R4 (by decide) (by decide)) hI
set_option maxRecDepth 20000 in
set_option maxHeartbeats 1000000 in
theorem sf_b_layerNamed_29_s00 {x1 : Int32} {x3 : Int32} {S : ms} {m_R4 : Int} {R4 : Int32 → Int32 → Int32 → ms → Prop} {K : Int32 → ms → Prop} (b_x1 : B 0 0 x1) (b_x3 : B 0 0 x3) (hm_R4 : m_R4 ≤ x3.toInt) (hI : IM S) (hR4 : ∀ {y_x1 : Int32} {y_x2 : Int32} {y_x3 : Int32} {y_S : ms}, B (-2147483648) 2147483647 y_x1 → B (-1) 2 y_x2 → B 0 3 y_x3 → m_R4 < y_x3.toInt → IM y_S → R4 y_x1 y_x2 y_x3 y_S) (hK : ∀ {v : Int32} {yS : ms}, B (-1) 2 v → IM yS → K v yS) : b_layerNamed_29 x1 x3 0 S R4 K := by
  unfold b_layerNamed_29
  exact hR4 (B_w b_x1 (by decide) (by decide)) (B_w (show B 0 0 (0 : Int32) from ⟨by decide, by decide⟩) (by decide) (by decide)) (B_w (B_add b_x3 (show B 1 1 (1 : Int32) from ⟨by decide, by decide⟩) (by decide) (by decide)) (by decide) (by decide)) (inc_lt b_x3 hm_R4 (by decide) (by decide)) hI
set_option maxRecDepth 20000 in
set_option maxHeartbeats 1000000 in
theorem sf_b_layerNamed_4 {x1 : Int32} {x2 : Int32} {x3 : Int32} {S : ms} {m_R4 : Int} {R4 : Int32 → Int32 → Int32 → ms → Prop} {K : Int32 → ms → Prop} (b_x1 : B (-2147483648) 2147483647 x1) (b_x2 : B (-1) 2 x2) (b_x3 : B 0 3 x3) (hm_R4 : m_R4 ≤ x3.toInt) (hI : IM S) (hR4 : ∀ {y_x1 : Int32} {y_x2 : Int32} {y_x3 : Int32} {y_S : ms}, B (-2147483648) 2147483647 y_x1 → B (-1) 2 y_x2 → B 0 3 y_x3 → m_R4 < y_x3.toInt → IM y_S → R4 y_x1 y_x2 y_x3 y_S) (hK : ∀ {v : Int32} {yS : ms}, B (-1) 2 v → IM yS → K v yS) : b_layerNamed_4 x1 x2 x3 S R4 K := by
  unfold b_layerNamed_4
  refine ⟨vp_B (show B 2 2 (2 : Int32) from ⟨by decide, by decide⟩) (by decide) (by decide), ?_⟩
  refine ⟨fun hc => ?_, fun hc => ?_⟩
  · have hq1 := hc
    exact hK b_x2 hI
  · have hq2 := (nle_lt hc)
    have b3 := B_ltL b_x3 (br_14 hI _) hq2
    have b4 := B_ltR b_x3 (br_14 hI _) hq2
    refine ⟨vp_B b3 (by decide) (by decide), ?_⟩
    refine ⟨fun hc => ?_, fun hc => ?_⟩
    · have hz := hc
      exact sf_b_layerNamed_29 b_x1 b3 b_x2 hm_R4 hI hR4 hK
    · have b5 := B_eq hc b_x1
      exact sf_b_layerNamed_29 b_x1 b3 (B_w b3 (by decide) (by decide)) hm_R4 hI hR4 hK
set_option maxRecDepth 20000 in
set_option maxHeartbeats 1000000 in
theorem sf_b_level_148_s00 {S : ms} {K : Int32 → ms → Prop} (hI : IM S) (hK : ∀ {v : Int32} {yS : ms}, B (-2147483648) 2147483647 v → IM yS → K v yS) : b_level_148 0 S K := by
  unfold b_level_148
  exact hK (B_w (show B 0 0 (0 : Int32) from ⟨by decide, by decide⟩) (by decide) (by decide)) hI
set_option maxRecDepth 20000 in
set_option maxHeartbeats 1000000 in
theorem sf_b_level_123_s13 {x1 : Int32} {x2 : Int32} {x3 : Int32} {x4 : Int32} {x5 : Int32} {S : ms} {K : Int32 → ms → Prop} (b_x1 : B 0 1 x1) (b_x2 : B (-2147483648) 2147483647 x2) (b_x3 : B (-2147483648) 2147483647 x3) (b_x4 : B (-2147483648) 2147483647 x4) (b_x5 : B 0 0 x5) (hI : IM S) (hK : ∀ {v : Int32} {yS : ms}, B (-2147483648) 2147483647 v → IM yS → K v yS) : b_level_123 x1 x2 x3 x4 x5 3 S K := by
  unfold b_level_123
  refine ⟨fun hc => ?_, fun hc => ?_⟩
  · have b1 := B_eq hc (show B 0 0 (0 : Int32) from ⟨by decide, by decide⟩)
    have hI2 := IM_f (k := 0) (v := 3) hI (show B 3 3 (3 : Int32) from ⟨by decide, by decide⟩) (by decide) (by decide)
    exact sf_b_level_148_s00 hI2 hK
  · exact (hc (B_z b_x5)).elim
set_option maxRecDepth 20000 in
set_option maxHeartbeats 1000000 in
theorem sf_b_level_148 {s0 : Int32} {S : ms} {K : Int32 → ms → Prop} (b_s0 : B (-2147483648) 2147483647 s0) (hI : IM S) (hK : ∀ {v : Int32} {yS : ms}, B (-2147483648) 2147483647 v → IM yS → K v yS) : b_level_148 s0 S K := by
  unfold b_level_148
  exact hK b_s0 hI
set_option maxRecDepth 20000 in
set_option maxHeartbeats 1000000 in
theorem sf_b_level_33_s11 {S : ms} {K : Int32 → ms → Prop} (hI : IM S) (hK : ∀ {v : Int32} {yS : ms}, B (-2147483648) 2147483647 v → IM yS → K v yS) : b_level_33 1 S K := by
  unfold b_level_33
  have hI1 := IM_f (k := 0) (v := 1) hI (show B 1 1 (1 : Int32) from ⟨by decide, by decide⟩) (by decide) (by decide)
  exact hK (B_w (show B 0 0 (0 : Int32) from ⟨by decide, by decide⟩) (by decide) (by decide)) hI1
set_option maxRecDepth 20000 in
set_option maxHeartbeats 1000000 in
theorem sf_b_level_28 {S : ms} {K : Int32 → ms → Prop} (hI : IM S) (hK : ∀ {v : Int32} {yS : ms}, B (-2147483648) 2147483647 v → IM yS → K v yS) : b_level_28 S K := by
  unfold b_level_28
  exact sf_b_level_33_s11 hI hK
set_option maxRecDepth 20000 in
set_option maxHeartbeats 1000000 in
theorem sf_b_level_33_s12 {S : ms} {K : Int32 → ms → Prop} (hI : IM S) (hK : ∀ {v : Int32} {yS : ms}, B (-2147483648) 2147483647 v → IM yS → K v yS) : b_level_33 2 S K := by
  unfold b_level_33
  have hI1 := IM_f (k := 0) (v := 2) hI (show B 2 2 (2 : Int32) from ⟨by decide, by decide⟩) (by decide) (by decide)
  exact hK (B_w (show B 0 0 (0 : Int32) from ⟨by decide, by decide⟩) (by decide) (by decide)) hI1
set_option maxRecDepth 20000 in
set_option maxHeartbeats 1000000 in
theorem sf_b_level_18 {x1 : Int32} {S : ms} {K : Int32 → ms → Prop} (b_x1 : B (-2147483648) 2147483647 x1) (hI : IM S) (hK : ∀ {v : Int32} {yS : ms}, B (-2147483648) 2147483647 v → IM yS → K v yS) : b_level_18 x1 S K := by
  unfold b_level_18
  refine ⟨fun hc => ?_, fun hc => ?_⟩
  · have hq1 := hc
    have b2 := B_ltL b_x1 (show B 0 0 (0 : Int32) from ⟨by decide, by decide⟩) hq1
    exact sf_b_level_28 hI hK
  · have hq3 := (nlt_le hc)
    have b4 := B_leR (show B 0 0 (0 : Int32) from ⟨by decide, by decide⟩) b_x1 hq3
    refine ⟨fun hc => ?_, fun hc => ?_⟩
    · have hq5 := hc
      have b6 := B_leL b4 (show B 1 1 (1 : Int32) from ⟨by decide, by decide⟩) hq5
      exact sf_b_level_33_s12 hI hK
    · have hq7 := (nle_lt hc)
      have b8 := B_ltR (show B 1 1 (1 : Int32) from ⟨by decide, by decide⟩) b4 hq7
      exact sf_b_level_28 hI hK
set_option maxRecDepth 20000 in
set_option maxHeartbeats 1000000 in
theorem sf_b_makeCode_151 {x1 : Int32} {x2 : Int32} {x3 : Int32} {S : ms} {m_R4 : Int} {R4 : Int32 → Int32 → Int32 → ms → Prop} {K : ms → Prop} (b_x1 : B (-2147483648) 2147483647 x1) (b_x2 : B (-2147483648) 2147483647 x2) (b_x3 : B 0 256 x3) (hm_R4 : m_R4 ≤ x3.toInt) (hI : IM S) (hR4 : ∀ {y_x1 : Int32} {y_x2 : Int32} {y_x3 : Int32} {y_S : ms}, B (-2147483648) 2147483647 y_x1 → B (-2147483648) 2147483647 y_x2 → B 0 257 y_x3 → m_R4 < y_x3.toInt → IM y_S → R4 y_x1 y_x2 y_x3 y_S) (hK : ∀ {yS : ms}, IM yS → K yS) : b_makeCode_151 x1 x2 x3 S R4 K := by
  unfold b_makeCode_151
  exact hR4 b_x1 b_x2 (B_w (B_add b_x3 (show B 1 1 (1 : Int32) from ⟨by decide, by decide⟩) (by decide) (by decide)) (by decide) (by decide)) (inc_lt b_x3 hm_R4 (by decide) (by decide)) hI
set_option maxRecDepth 20000 in
set_option maxHeartbeats 1000000 in
theorem sf_b_makeCode_435_s20 {x1 : Int32} {x2 : Int32} {x4 : Int32} {s1 : Int32} {S : ms} {m_R394 : Int} {R394 : Int32 → Int32 → Int32 → ms → Prop} {K : ms → Prop} (b_x1 : B (-2147483648) 2147483647 x1) (b_x2 : B (-2147483648) 2147483647 x2) (b_x4 : B 0 8319 x4) (b_s1 : B 0 8319 s1) (hm_R394 : m_R394 ≤ x4.toInt) (hI : IM S) (hR394 : ∀ {y_x1 : Int32} {y_x2 : Int32} {y_x4 : Int32} {y_S : ms}, B (-2147483648) 2147483647 y_x1 → B (-2147483648) 2147483647 y_x2 → B 0 8320 y_x4 → m_R394 < y_x4.toInt → IM y_S → R394 y_x1 y_x2 y_x4 y_S) (hK : ∀ {yS : ms}, IM yS → K yS) : b_makeCode_435 x1 x2 x4 s1 0 S R394 K := by
  unfold b_makeCode_435
  refine ⟨vp_B b_s1 (by decide) (by decide), ?_⟩
  have hI1 := IM_r (r := 31) (i := s1.toNatClampNeg) (v := 0) hI (show B 0 0 (0 : Int32) from ⟨by decide, by decide⟩) (by decide) (by decide)
  exact hR394 b_x1 b_x2 (B_w (B_add b_x4 (show B 1 1 (1 : Int32) from ⟨by decide, by decide⟩) (by decide) (by decide)) (by decide) (by decide)) (inc_lt b_x4 hm_R394 (by decide) (by decide)) hI1
set_option maxRecDepth 20000 in
set_option maxHeartbeats 1000000 in
theorem sf_b_makeCode_434 {x1 : Int32} {x2 : Int32} {x4 : Int32} {s1 : Int32} {S : ms} {m_R394 : Int} {R394 : Int32 → Int32 → Int32 → ms → Prop} {K : ms → Prop} (b_x1 : B (-2147483648) 2147483647 x1) (b_x2 : B (-2147483648) 2147483647 x2) (b_x4 : B 0 8319 x4) (b_s1 : B 0 8319 s1) (hm_R394 : m_R394 ≤ x4.toInt) (hI : IM S) (hR394 : ∀ {y_x1 : Int32} {y_x2 : Int32} {y_x4 : Int32} {y_S : ms}, B (-2147483648) 2147483647 y_x1 → B (-2147483648) 2147483647 y_x2 → B 0 8320 y_x4 → m_R394 < y_x4.toInt → IM y_S → R394 y_x1 y_x2 y_x4 y_S) (hK : ∀ {yS : ms}, IM yS → K yS) : b_makeCode_434 x1 x2 x4 s1 S R394 K := by
  unfold b_makeCode_434
  exact sf_b_makeCode_435_s20 b_x1 b_x2 b_x4 b_s1 hm_R394 hI hR394 hK
set_option maxRecDepth 20000 in
set_option maxHeartbeats 1000000 in
theorem sf_b_makeCode_435_s10_s20 {x1 : Int32} {x2 : Int32} {x4 : Int32} {S : ms} {m_R394 : Int} {R394 : Int32 → Int32 → Int32 → ms → Prop} {K : ms → Prop} (b_x1 : B 0 0 x1) (b_x2 : B 0 1027 x2) (b_x4 : B 0 0 x4) (hm_R394 : m_R394 ≤ x4.toInt) (hI : IM S) (hR394 : ∀ {y_x1 : Int32} {y_x2 : Int32} {y_x4 : Int32} {y_S : ms}, B (-2147483648) 2147483647 y_x1 → B (-2147483648) 2147483647 y_x2 → B 0 8320 y_x4 → m_R394 < y_x4.toInt → IM y_S → R394 y_x1 y_x2 y_x4 y_S) (hK : ∀ {yS : ms}, IM yS → K yS) : b_makeCode_435 x1 x2 x4 0 0 S R394 K := by
  unfold b_makeCode_435
  refine ⟨vp_B (show B 0 0 (0 : Int32) from ⟨by decide, by decide⟩) (by decide) (by decide), ?_⟩
  have hI1 := IM_r (r := 31) (i := (0 : Int32).toNatClampNeg) (v := 0) hI (show B 0 0 (0 : Int32) from ⟨by decide, by decide⟩) (by decide) (by decide)
  exact hR394 (B_w b_x1 (by decide) (by decide)) (B_w b_x2 (by decide) (by decide)) (B_w (B_add b_x4 (show B 1 1 (1 : Int32) from ⟨by decide, by decide⟩) (by decide) (by decide)) (by decide) (by decide)) (inc_lt b_x4 hm_R394 (by decide) (by decide)) hI1
set_option maxRecDepth 20000 in
set_option maxHeartbeats 1000000 in
theorem sf_b_makeCode_434_s10 {x1 : Int32} {x2 : Int32} {x4 : Int32} {S : ms} {m_R394 : Int} {R394 : Int32 → Int32 → Int32 → ms → Prop} {K : ms → Prop} (b_x1 : B 0 0 x1) (b_x2 : B 0 1027 x2) (b_x4 : B 0 0 x4) (hm_R394 : m_R394 ≤ x4.toInt) (hI : IM S) (hR394 : ∀ {y_x1 : Int32} {y_x2 : Int32} {y_x4 : Int32} {y_S : ms}, B (-2147483648) 2147483647 y_x1 → B (-2147483648) 2147483647 y_x2 → B 0 8320 y_x4 → m_R394 < y_x4.toInt → IM y_S → R394 y_x1 y_x2 y_x4 y_S) (hK : ∀ {yS : ms}, IM yS → K yS) : b_makeCode_434 x1 x2 x4 0 S R394 K := by
  unfold b_makeCode_434
  exact sf_b_makeCode_435_s10_s20 b_x1 b_x2 b_x4 hm_R394 hI hR394 hK
set_option maxRecDepth 20000 in
set_option maxHeartbeats 1000000 in
theorem sf_b_makeCode_435_s17800_s20 {x1 : Int32} {x2 : Int32} {x4 : Int32} {S : ms} {m_R394 : Int} {R394 : Int32 → Int32 → Int32 → ms → Prop} {K : ms → Prop} (b_x1 : B 0 0 x1) (b_x2 : B (-2147483648) 2147483647 x2) (b_x4 : B 7800 7800 x4) (hm_R394 : m_R394 ≤ x4.toInt) (hI : IM S) (hR394 : ∀ {y_x1 : Int32} {y_x2 : Int32} {y_x4 : Int32} {y_S : ms}, B (-2147483648) 2147483647 y_x1 → B (-2147483648) 2147483647 y_x2 → B 0 8320 y_x4 → m_R394 < y_x4.toInt → IM y_S → R394 y_x1 y_x2 y_x4 y_S) (hK : ∀ {yS : ms}, IM yS → K yS) : b_makeCode_435 x1 x2 x4 7800 0 S R394 K := by
  unfold b_makeCode_435
  refine ⟨vp_B (show B 7800 7800 (7800 : Int32) from ⟨by decide, by decide⟩) (by decide) (by decide), ?_⟩
  have hI1 := IM_r (r := 31) (i := (7800 : Int32).toNatClampNeg) (v := 0) hI (show B 0 0 (0 : Int32) from ⟨by decide, by decide⟩) (by decide) (by decide)
  exact hR394 (B_w b_x1 (by decide) (by decide)) b_x2 (B_w (B_add b_x4 (show B 1 1 (1 : Int32) from ⟨by decide, by decide⟩) (by decide) (by decide)) (by decide) (by decide)) (inc_lt b_x4 hm_R394 (by decide) (by decide)) hI1
set_option maxRecDepth 20000 in
set_option maxHeartbeats 1000000 in
theorem sf_b_makeCode_434_s17800 {x1 : Int32} {x2 : Int32} {x4 : Int32} {S : ms} {m_R394 : Int} {R394 : Int32 → Int32 → Int32 → ms → Prop} {K : ms → Prop} (b_x1 : B 0 0 x1) (b_x2 : B (-2147483648) 2147483647 x2) (b_x4 : B 7800 7800 x4) (hm_R394 : m_R394 ≤ x4.toInt) (hI : IM S) (hR394 : ∀ {y_x1 : Int32} {y_x2 : Int32} {y_x4 : Int32} {y_S : ms}, B (-2147483648) 2147483647 y_x1 → B (-2147483648) 2147483647 y_x2 → B 0 8320 y_x4 → m_R394 < y_x4.toInt → IM y_S → R394 y_x1 y_x2 y_x4 y_S) (hK : ∀ {yS : ms}, IM yS → K yS) : b_makeCode_434 x1 x2 x4 7800 S R394 K := by
  unfold b_makeCode_434
  exact sf_b_makeCode_435_s17800_s20 b_x1 b_x2 b_x4 hm_R394 hI hR394 hK
set_option maxRecDepth 20000 in
set_option maxHeartbeats 1000000 in
theorem sf_b_makeCode_435_s17800_s21 {x1 : Int32} {x2 : Int32} {x4 : Int32} {S : ms} {m_R394 : Int} {R394 : Int32 → Int32 → Int32 → ms → Prop} {K : ms → Prop} (b_x1 : B 0 0 x1) (b_x2 : B (-2147483648) 2147483647 x2) (b_x4 : B 7800 7800 x4) (hm_R394 : m_R394 ≤ x4.toInt) (hI : IM S) (hR394 : ∀ {y_x1 : Int32} {y_x2 : Int32} {y_x4 : Int32} {y_S : ms}, B (-2147483648) 2147483647 y_x1 → B (-2147483648) 2147483647 y_x2 → B 0 8320 y_x4 → m_R394 < y_x4.toInt → IM y_S → R394 y_x1 y_x2 y_x4 y_S) (hK : ∀ {yS : ms}, IM yS → K yS) : b_makeCode_435 x1 x2 x4 7800 1 S R394 K := by
  unfold b_makeCode_435
  refine ⟨vp_B (show B 7800 7800 (7800 : Int32) from ⟨by decide, by decide⟩) (by decide) (by decide), ?_⟩
  have hI1 := IM_r (r := 31) (i := (7800 : Int32).toNatClampNeg) (v := 1) hI (show B 1 1 (1 : Int32) from ⟨by decide, by decide⟩) (by decide) (by decide)
  exact hR394 (B_w b_x1 (by decide) (by decide)) b_x2 (B_w (B_add b_x4 (show B 1 1 (1 : Int32) from ⟨by decide, by decide⟩) (by decide) (by decide)) (by decide) (by decide)) (inc_lt b_x4 hm_R394 (by decide) (by decide)) hI1
set_option maxRecDepth 20000 in
set_option maxHeartbeats 1000000 in
theorem sf_b_makeCode_435_s21 {x1 : Int32} {x2 : Int32} {x4 : Int32} {s1 : Int32} {S : ms} {m_R394 : Int} {R394 : Int32 → Int32 → Int32 → ms → Prop} {K : ms → Prop} (b_x1 : B (-2147483648) 2147483647 x1) (b_x2 : B (-2147483648) 2147483647 x2) (b_x4 : B 7800 8319 x4) (b_s1 : B 7800 8319 s1) (hm_R394 : m_R394 ≤ x4.toInt) (hI : IM S) (hR394 : ∀ {y_x1 : Int32} {y_x2 : Int32} {y_x4 : Int32} {y_S : ms}, B (-2147483648) 2147483647 y_x1 → B (-2147483648) 2147483647 y_x2 → B 0 8320 y_x4 → m_R394 < y_x4.toInt → IM y_S → R394 y_x1 y_x2 y_x4 y_S) (hK : ∀ {yS : ms}, IM yS → K yS) : b_makeCode_435 x1 x2 x4 s1 1 S R394 K := by
  unfold b_makeCode_435
  refine ⟨vp_B b_s1 (by decide) (by decide), ?_⟩
  have hI1 := IM_r (r := 31) (i := s1.toNatClampNeg) (v := 1) hI (show B 1 1 (1 : Int32) from ⟨by decide, by decide⟩) (by decide) (by decide)
  exact hR394 b_x1 b_x2 (B_w (B_add b_x4 (show B 1 1 (1 : Int32) from ⟨by decide, by decide⟩) (by decide) (by decide)) (by decide) (by decide)) (inc_lt b_x4 hm_R394 (by decide) (by decide)) hI1
set_option maxRecDepth 20000 in
set_option maxHeartbeats 1000000 in
theorem sf_b_makeCode_568 {x1 : Int32} {x4 : Int32} {x5 : Int32} {S : ms} {m_R446 : Int} {m_R454 : Int} {R446 : Int32 → Int32 → ms → Prop} {R454 : Int32 → Int32 → Int32 → ms → Prop} {K : ms → Prop} (b_x1 : B (-2147483648) 2147483647 x1) (b_x4 : B 0 15 x4) (b_x5 : B 0 520 x5) (hm_R446 : x4.toInt ≤ m_R446) (hm_R454 : m_R454 ≤ x5.toInt) (hI : IM S) (hR446 : ∀ {y_x1 : Int32} {y_x4 : Int32} {y_S : ms}, B (-2147483648) 2147483647 y_x1 → B (-1) 15 y_x4 → y_x4.toInt < m_R446 → IM y_S → R446 y_x1 y_x4 y_S) (hR454 : ∀ {y_x1 : Int32} {y_x4 : Int32} {y_x5 : Int32} {y_S : ms}, B (-2147483648) 2147483647 y_x1 → B 0 15 y_x4 → B 0 1023 y_x5 → m_R454 < y_x5.toInt → y_x4.toInt ≤ m_R446 → IM y_S → R454 y_x1 y_x4 y_x5 y_S) (hK : ∀ {yS : ms}, IM yS → K yS) : b_makeCode_568 x1 x4 x5 S R446 R454 K := by
  unfold b_makeCode_568
  exact hR454 b_x1 b_x4 (B_w (B_add b_x5 (show B 1 1 (1 : Int32) from ⟨by decide, by decide⟩) (by decide) (by decide)) (by decide) (by decide)) (inc_lt b_x5 hm_R454 (by decide) (by decide)) hm_R446 hI
set_option maxRecDepth 20000 in
set_option maxHeartbeats 1000000 in
theorem sf_b_makeCode_646 {x1 : Int32} {x4 : Int32} {x5 : Int32} {x6 : Int32} {S : ms} {m_R586 : Int} {m_R602 : Int} {R586 : Int32 → Int32 → Int32 → ms → Prop} {R602 : Int32 → Int32 → Int32 → Int32 → ms → Prop} {K : ms → Prop} (b_x1 : B (-2147483648) 2147483647 x1) (b_x4 : B (-2147483648) 2147483647 x4) (b_x5 : B 1 16 x5) (b_x6 : B 0 255 x6) (hm_R586 : m_R586 ≤ x5.toInt) (hm_R602 : m_R602 ≤ x6.toInt) (hI : IM S) (hR586 : ∀ {y_x1 : Int32} {y_x4 : Int32} {y_x5 : Int32} {y_S : ms}, B (-2147483648) 2147483647 y_x1 → B (-2147483648) 2147483647 y_x4 → B 1 17 y_x5 → m_R586 < y_x5.toInt → IM y_S → R586 y_x1 y_x4 y_x5 y_S) (hR602 : ∀ {y_x1 : Int32} {y_x4 : Int32} {y_x5 : Int32} {y_x6 : Int32} {y_S : ms}, B (-2147483648) 2147483647 y_x1 → B (-2147483648) 2147483647 y_x4 → B 1 16 y_x5 → B 0 256 y_x6 → m_R602 < y_x6.toInt → m_R586 ≤ y_x5.toInt → IM y_S → R602 y_x1 y_x4 y_x5 y_x6 y_S) (hK : ∀ {yS : ms}, IM yS → K yS) : b_makeCode_646 x1 x4 x5 x6 S R586 R602 K := by
  unfold b_makeCode_646
  exact hR602 b_x1 b_x4 b_x5 (B_w (B_add b_x6 (show B 1 1 (1 : Int32) from ⟨by decide, by decide⟩) (by decide) (by decide)) (by decide) (by decide)) (inc_lt b_x6 hm_R602 (by decide) (by decide)) hm_R586 hI
set_option maxRecDepth 20000 in
set_option maxHeartbeats 1000000 in
theorem sf_b_makeGrids_109 {x1 : Int32} {x4 : Int32} {S : ms} {m_R109 : Int} {R109 : Int32 → Int32 → ms → Prop} {K : ms → Prop} (b_x1 : B 0 2 x1) (b_x4 : B 0 12288 x4) (hm_R109 : m_R109 ≤ x4.toInt) (hI : IM S) (hR109 : ∀ {y_x1 : Int32} {y_x4 : Int32} {y_S : ms}, B 0 2 y_x1 → B 0 12288 y_x4 → m_R109 < y_x4.toInt → IM y_S → R109 y_x1 y_x4 y_S) (hK : ∀ {yS : ms}, IM yS → K yS) : b_makeGrids_109 x1 x4 S R109 K := by
  unfold b_makeGrids_109
  refine ⟨fun hc => ?_, fun hc => ?_⟩
  · have hq1 := hc
    have b2 := B_leR (show B 12288 12288 (12288 : Int32) from ⟨by decide, by decide⟩) b_x4 hq1
    exact hK hI
  · have hq3 := (nle_lt hc)
    have b4 := B_ltL b_x4 (show B 12288 12288 (12288 : Int32) from ⟨by decide, by decide⟩) hq3
    refine ⟨vp_B (B_add (B_mul (show B 12288 12288 (12288 : Int32) from ⟨by decide, by decide⟩) b_x1 (by decide) (by decide) (by decide)) b4 (by decide) (by decide)) (by decide) (by decide), ?_⟩
    have hI5 := IM_r (r := 19) (i := ((12288 * x1) + x4).toNatClampNeg) (v := 0) hI (show B 0 0 (0 : Int32) from ⟨by decide, by decide⟩) (by decide) (by decide)
    exact hR109 b_x1 (B_w (B_add b4 (show B 1 1 (1 : Int32) from ⟨by decide, by decide⟩) (by decide) (by decide)) (by decide) (by decide)) (inc_lt b4 hm_R109 (by decide) (by decide)) hI5
set_option maxRecDepth 20000 in
set_option maxHeartbeats 1000000 in
theorem sf_b_makeLevels_114_s10_s30_s40 {x1 : Int32} {x2 : Int32} {x3 : Int32} {x4 : Int32} {x5 : Int32} {x6 : Int32} {x7 : Int32} {S : ms} {m_R48 : Int} {R48 : Int32 → Int32 → Int32 → Int32 → Int32 → Int32 → Int32 → ms → Prop} {K : ms → Prop} (b_x1 : B 0 2 x1) (b_x2 : B 0 0 x2) (b_x3 : B 1 973 x3) (b_x4 : B 1 973 x4) (b_x5 : B 0 0 x5) (b_x6 : B 0 0 x6) (b_x7 : B 0 0 x7) (hm_R48 : m_R48 ≤ x7.toInt) (hI : IM S) (hR48 : ∀ {y_x1 : Int32} {y_x2 : Int32} {y_x3 : Int32} {y_x4 : Int32} {y_x5 : Int32} {y_x6 : Int32} {y_x7 : Int32} {y_S : ms}, B 0 2 y_x1 → B (-2147483648) 2147483647 y_x2 → B (-2147483648) 2147483647 y_x3 → B (-1) 2147483647 y_x4 → B (-2147483648) 2147483647 y_x5 → B (-2147483648) 2147483647 y_x6 → B 0 64 y_x7 → m_R48 < y_x7.toInt → IM y_S → R48 y_x1 y_x2 y_x3 y_x4 y_x5 y_x6 y_x7 y_S) (hK : ∀ {yS : ms}, IM yS → K yS) : b_makeLevels_114 x1 x2 x3 x4 x5 x6 x7 0 0 0 S R48 K := by
  unfold b_makeLevels_114
  refine ⟨vp_B (B_add (show B 0 0 (0 : Int32) from ⟨by decide, by decide⟩) (show B 0 0 (0 : Int32) from ⟨by decide, by decide⟩) (by decide) (by decide)) (by decide) (by decide), ?_⟩
  refine ⟨vp_B (show B 0 0 (0 : Int32) from ⟨by decide, by decide⟩) (by decide) (by decide), ?_⟩
  have hI1 := IM_r (r := 25) (i := (0 : Int32).toNatClampNeg) (v := S.2.1 21 ((0 : Int32) + 0).toNatClampNeg) hI (br_21 hI _) (by decide) (by decide)
  exact hR48 b_x1 (B_w b_x2 (by decide) (by decide)) (B_w b_x3 (by decide) (by decide)) (B_w b_x4 (by decide) (by decide)) (B_w b_x5 (by decide) (by decide)) (B_w b_x6 (by decide) (by decide)) (B_w (B_add b_x7 (show B 1 1 (1 : Int32) from ⟨by decide, by decide⟩) (by decide) (by decide)) (by decide) (by decide)) (inc_lt b_x7 hm_R48 (by decide) (by decide)) hI1
set_option maxRecDepth 20000 in
set_option maxHeartbeats 1000000 in
theorem sf_b_mayCome_99_s01 {S : ms} {K : Int32 → ms → Prop} (hI : IM S) (hK : ∀ {v : Int32} {yS : ms}, B 0 1 v → IM yS → K v yS) : b_mayCome_99 1 S K := by
  unfold b_mayCome_99
  refine ⟨B_nar (show B 1 1 (1 : Int32) from ⟨by decide, by decide⟩) (by decide) (by decide), ?_⟩
  exact hK (B_w (show B 1 1 (1 : Int32) from ⟨by decide, by decide⟩) (by decide) (by decide)) hI
set_option maxRecDepth 20000 in
set_option maxHeartbeats 1000000 in
theorem sf_b_mayCome_94 {S : ms} {K : Int32 → ms → Prop} (hI : IM S) (hK : ∀ {v : Int32} {yS : ms}, B 0 1 v → IM yS → K v yS) : b_mayCome_94 S K := by
  unfold b_mayCome_94
  exact sf_b_mayCome_99_s01 hI hK
set_option maxRecDepth 20000 in
set_option maxHeartbeats 1000000 in
theorem sf_b_mayCome_47_s01 {x1 : Int32} {S : ms} {K : Int32 → ms → Prop} (b_x1 : B 196 254 x1) (hI : IM S) (hK : ∀ {v : Int32} {yS : ms}, B 0 1 v → IM yS → K v yS) : b_mayCome_47 x1 1 S K := by
  unfold b_mayCome_47
  refine ⟨fun hc => ?_, fun hc => ?_⟩
  · have hz := hc
    exact sf_b_mayCome_94 hI hK
  · exact (B_dis (show B 1 1 (1 : Int32) from ⟨by decide, by decide⟩) (show B 0 0 (0 : Int32) from ⟨by decide, by decide⟩) hc (by decide)).elim
set_option maxRecDepth 20000 in
set_option maxHeartbeats 1000000 in
theorem sf_b_mayCome_42 {x1 : Int32} {S : ms} {K : Int32 → ms → Prop} (b_x1 : B 196 254 x1) (hI : IM S) (hK : ∀ {v : Int32} {yS : ms}, B 0 1 v → IM yS → K v yS) : b_mayCome_42 x1 S K := by
  unfold b_mayCome_42
  exact sf_b_mayCome_47_s01 b_x1 hI hK
set_option maxRecDepth 20000 in
set_option maxHeartbeats 1000000 in
theorem sf_b_mayCome_99_s00 {S : ms} {K : Int32 → ms → Prop} (hI : IM S) (hK : ∀ {v : Int32} {yS : ms}, B 0 1 v → IM yS → K v yS) : b_mayCome_99 0 S K := by
  unfold b_mayCome_99
  refine ⟨B_nar (show B 0 0 (0 : Int32) from ⟨by decide, by decide⟩) (by decide) (by decide), ?_⟩
  exact hK (B_w (show B 0 0 (0 : Int32) from ⟨by decide, by decide⟩) (by decide) (by decide)) hI
set_option maxRecDepth 20000 in
set_option maxHeartbeats 1000000 in
theorem sf_b_mayCome_98 {S : ms} {K : Int32 → ms → Prop} (hI : IM S) (hK : ∀ {v : Int32} {yS : ms}, B 0 1 v → IM yS → K v yS) : b_mayCome_98 S K := by
  unfold b_mayCome_98
  exact sf_b_mayCome_99_s00 hI hK
theorem sf_e_isDone_7 {x1 : Int32} {x2 : Int32} {S : ms} {K : Int32 → ms → Prop} (b_x1 : B 0 1 x1) (b_x2 : B 0 3 x2) (hI : IM S) (hK : ∀ {v : Int32} {yS : ms}, B 0 1 v → IM yS → K v yS) : e_isDone_7 x1 x2 S K := by
  refine ⟨fun y_x1 y_x2 y_S => B 0 1 y_x1 ∧ B 0 3 y_x2 ∧ IM y_S, fun y_x1 y_x2 y_S => (3 - y_x2.toInt).toNat, ⟨b_x1, b_x2, hI⟩, fun y_x1 y_x2 y_S hIv => ?_⟩
  obtain ⟨c_x1, c_x2, cI⟩ := hIv
  exact sf_b_isDone_7 c_x1 c_x2 (Int.le_refl _) cI (fun d_x1 d_x2 dlt dI => ⟨⟨d_x1, d_x2, dI⟩, (by have h1 := dlt; have h2 := d_x2.2; have h3 := c_x2.2; dsimp only; omega)⟩) hK
set_option maxRecDepth 20000 in
set_option maxHeartbeats 1000000 in
theorem sf_p_isDone {S : ms} {K : Int32 → ms → Prop} (hI : IM S) (hK : ∀ {v : Int32} {yS : ms}, B 0 1 v → IM yS → K v yS) : p_isDone S K := by
  unfold p_isDone
  exact sf_e_isDone_7 (bf_43 hI) (B_w (show B 0 0 (0 : Int32) from ⟨by decide, by decide⟩) (by decide) (by decide)) hI hK
set_option maxRecDepth 20000 in
set_option maxHeartbeats 1000000 in
theorem sf_b_mayCome_80 {x1 : Int32} {S : ms} {K : Int32 → ms → Prop} (b_x1 : B (-2147483648) 2147483647 x1) (hI : IM S) (hK : ∀ {v : Int32} {yS : ms}, B 0 1 v → IM yS → K v yS) : b_mayCome_80 x1 S K := by
  unfold b_mayCome_80
  refine ⟨fun hc => ?_, fun hc => ?_⟩
  · have hz := hc
    exact sf_b_mayCome_98 hI hK
  · have b1 := B_eq hc (show B 217 217 (217 : Int32) from ⟨by decide, by decide⟩)
    refine sf_p_isDone hI (fun {v88} {S88} b_v88 hI_S88 => ?_)
    refine ⟨fun hc => ?_, fun hc => ?_⟩
    · have b2 := B_eq hc (show B 0 0 (0 : Int32) from ⟨by decide, by decide⟩)
      exact sf_b_mayCome_98 hI_S88 hK
    · have b3 := B_n0 b_v88 hc
      exact sf_b_mayCome_94 hI_S88 hK
set_option maxRecDepth 20000 in
set_option maxHeartbeats 1000000 in
theorem sf_b_mayCome_66 {x1 : Int32} {S : ms} {K : Int32 → ms → Prop} (b_x1 : B (-2147483648) 2147483647 x1) (hI : IM S) (hK : ∀ {v : Int32} {yS : ms}, B 0 1 v → IM yS → K v yS) : b_mayCome_66 x1 S K := by
  unfold b_mayCome_66
  refine ⟨fun hc => ?_, fun hc => ?_⟩
  · have hz := hc
    exact sf_b_mayCome_80 b_x1 hI hK
  · have b1 := B_eq hc (show B 218 218 (218 : Int32) from ⟨by decide, by decide⟩)
    refine ⟨fun hc => ?_, fun hc => ?_⟩
    · have b2 := B_n0 (bf_43 hI) hc
      exact sf_b_mayCome_94 hI hK
    · have b3 := B_eq hc (show B 0 0 (0 : Int32) from ⟨by decide, by decide⟩)
      exact sf_b_mayCome_80 (B_w b1 (by decide) (by decide)) hI hK
set_option maxRecDepth 20000 in
set_option maxHeartbeats 1000000 in
theorem sf_b_must_18 {S : ms} {K : ms → Prop} (hI : IM S) (hK : ∀ {yS : ms}, IM yS → K yS) : b_must_18 S K := by
  unfold b_must_18
  exact hK hI
set_option maxRecDepth 20000 in
set_option maxHeartbeats 1000000 in
theorem sf_b_number_24 {S : ms} {K : ms → Prop} (hI : IM S) (hK : ∀ {yS : ms}, IM yS → K yS) : b_number_24 S K := by
  unfold b_number_24
  exact hK hI
set_option maxRecDepth 20000 in
set_option maxHeartbeats 1000000 in
theorem sf_b_out_38_s00 {S : ms} {K : Int32 → ms → Prop} (hI : IM S) (hK : ∀ {v : Int32} {yS : ms}, B (-2147483648) 2147483647 v → IM yS → K v yS) : b_out_38 0 S K := by
  unfold b_out_38
  exact hK (B_w (show B 0 0 (0 : Int32) from ⟨by decide, by decide⟩) (by decide) (by decide)) hI
set_option maxRecDepth 20000 in
set_option maxHeartbeats 1000000 in
theorem sf_b_out_18_s11 {x1 : Int32} {S : ms} {K : Int32 → ms → Prop} (b_x1 : B (-2147483648) 2147483647 x1) (hI : IM S) (hK : ∀ {v : Int32} {yS : ms}, B (-2147483648) 2147483647 v → IM yS → K v yS) : b_out_18 x1 1 S K := by
  unfold b_out_18
  refine ⟨fun hc => ?_, fun hc => ?_⟩
  · exact (B_dead_le (show B 1 1 (1 : Int32) from ⟨by decide, by decide⟩) (show B 0 0 (0 : Int32) from ⟨by decide, by decide⟩) hc (by decide)).elim
  · have hq1 := (nle_lt hc)
    have hI2 := IM_f (k := 0) (v := 1) hI (show B 1 1 (1 : Int32) from ⟨by decide, by decide⟩) (by decide) (by decide)
    exact sf_b_out_38_s00 hI2 hK
set_option maxRecDepth 20000 in
set_option maxHeartbeats 1000000 in
theorem sf_b_out_13 {x1 : Int32} {S : ms} {K : Int32 → ms → Prop} (b_x1 : B (-2147483648) 2147483647 x1) (hI : IM S) (hK : ∀ {v : Int32} {yS : ms}, B (-2147483648) 2147483647 v → IM yS → K v yS) : b_out_13 x1 S K := by
  unfold b_out_13
  exact sf_b_out_18_s11 b_x1 hI hK
set_option maxRecDepth 20000 in
set_option maxHeartbeats 1000000 in
theorem sf_b_out_38 {s0 : Int32} {S : ms} {K : Int32 → ms → Prop} (b_s0 : B (-2147483648) 2147483647 s0) (hI : IM S) (hK : ∀ {v : Int32} {yS : ms}, B (-2147483648) 2147483647 v → IM yS → K v yS) : b_out_38 s0 S K := by
  unfold b_out_38
  exact hK b_s0 hI
set_option maxRecDepth 20000 in
set_option maxHeartbeats 1000000 in
theorem sf_b_out_18_s10 {x1 : Int32} {S : ms} {K : Int32 → ms → Prop} (b_x1 : B 0 65535 x1) (hI : IM S) (hK : ∀ {v : Int32} {yS : ms}, B (-2147483648) 2147483647 v → IM yS → K v yS) : b_out_18 x1 0 S K := by
  unfold b_out_18
  refine ⟨fun hc => ?_, fun hc => ?_⟩
  · have hq1 := hc
    refine ⟨vp_B b_x1 (by decide) (by decide), ?_⟩
    have hI2 := IM_f (k := 0) (v := 0) hI (show B 0 0 (0 : Int32) from ⟨by decide, by decide⟩) (by decide) (by decide)
    exact sf_b_out_38 (br_8 hI _) hI2 hK
  · exact (B_dead_lt (show B 0 0 (0 : Int32) from ⟨by decide, by decide⟩) (show B 0 0 (0 : Int32) from ⟨by decide, by decide⟩) (nle_lt hc) (by decide)).elim
set_option maxRecDepth 20000 in
set_option maxHeartbeats 1000000 in
theorem sf_b_out_38_s0255 {S : ms} {K : Int32 → ms → Prop} (hI : IM S) (hK : ∀ {v : Int32} {yS : ms}, B (-2147483648) 2147483647 v → IM yS → K v yS) : b_out_38 255 S K := by
  unfold b_out_38
  exact hK (B_w (show B 255 255 (255 : Int32) from ⟨by decide, by decide⟩) (by decide) (by decide)) hI
set_option maxRecDepth 20000 in
set_option maxHeartbeats 1000000 in
theorem sf_b_pack_130_s21 {x1 : Int32} {x2 : Int32} {x3 : Int32} {x4 : Int32} {s1 : Int32} {S : ms} {m_R88 : Int} {R88 : Int32 → Int32 → Int32 → Int32 → ms → Prop} {K : Int32 → ms → Prop} (b_x1 : B 1 2 x1) (b_x2 : B 1 2 x2) (b_x3 : B 0 65535 x3) (b_x4 : B 1 2 x4) (b_s1 : B 1 2 s1) (hm_R88 : m_R88 ≤ x4.toInt) (hI : IM S) (hR88 : ∀ {y_x1 : Int32} {y_x2 : Int32} {y_x3 : Int32} {y_x4 : Int32} {y_S : ms}, B 1 2 y_x1 → B 1 2 y_x2 → B 0 65535 y_x3 → B 0 3 y_x4 → m_R88 < y_x4.toInt → IM y_S → R88 y_x1 y_x2 y_x3 y_x4 y_S) (hK : ∀ {v : Int32} {yS : ms}, B 0 65536 v → IM yS → K v yS) : b_pack_130 x1 x2 x3 x4 s1 1 S R88 K := by
  unfold b_pack_130
  refine ⟨vp_B b_s1 (by decide) (by decide), ?_⟩
  have hI1 := IM_r (r := 16) (i := s1.toNatClampNeg) (v := 1) hI (show B 1 1 (1 : Int32) from ⟨by decide, by decide⟩) (by decide) (by decide)
  exact hR88 b_x1 b_x2 b_x3 (B_w (B_add b_x4 (show B 1 1 (1 : Int32) from ⟨by decide, by decide⟩) (by decide) (by decide)) (by decide) (by decide)) (inc_lt b_x4 hm_R88 (by decide) (by decide)) hI1
set_option maxRecDepth 20000 in
set_option maxHeartbeats 1000000 in
theorem sf_b_pack_113_s11_s21 {x1 : Int32} {x2 : Int32} {x3 : Int32} {x4 : Int32} {S : ms} {m_R88 : Int} {R88 : Int32 → Int32 → Int32 → Int32 → ms → Prop} {K : Int32 → ms → Prop} (b_x1 : B 1 2 x1) (b_x2 : B 1 2 x2) (b_x3 : B 0 65535 x3) (b_x4 : B 1 1 x4) (hm_R88 : m_R88 ≤ x4.toInt) (hI : IM S) (hR88 : ∀ {y_x1 : Int32} {y_x2 : Int32} {y_x3 : Int32} {y_x4 : Int32} {y_S : ms}, B 1 2 y_x1 → B 1 2 y_x2 → B 0 65535 y_x3 → B 0 3 y_x4 → m_R88 < y_x4.toInt → IM y_S → R88 y_x1 y_x2 y_x3 y_x4 y_S) (hK : ∀ {v : Int32} {yS : ms}, B 0 65536 v → IM yS → K v yS) : b_pack_113 x1 x2 x3 x4 1 1 S R88 K := by
  unfold b_pack_113
  refine ⟨vp_B (show B 1 1 (1 : Int32) from ⟨by decide, by decide⟩) (by decide) (by decide), ?_⟩
  refine ⟨fun hc => ?_, fun hc => ?_⟩
  · have hz := hc
    have hI1 := IM_r (r := 15) (i := (1 : Int32).toNatClampNeg) (v := 1) hI (show B 1 1 (1 : Int32) from ⟨by decide, by decide⟩) (by decide) (by decide)
    exact sf_b_pack_130_s21 b_x1 b_x2 b_x3 (B_w b_x4 (by decide) (by decide)) (B_w b_x4 (by decide) (by decide)) hm_R88 hI1 hR88 hK
  · exact (B_dis b_x4 (show B 0 0 (0 : Int32) from ⟨by decide, by decide⟩) hc (by decide)).elim
set_option maxRecDepth 20000 in
set_option maxHeartbeats 1000000 in
theorem sf_b_pack_113_s21 {x1 : Int32} {x2 : Int32} {x3 : Int32} {x4 : Int32} {s1 : Int32} {S : ms} {m_R88 : Int} {R88 : Int32 → Int32 → Int32 → Int32 → ms → Prop} {K : Int32 → ms → Prop} (b_x1 : B 1 2 x1) (b_x2 : B 1 2 x2) (b_x3 : B 0 65535 x3) (b_x4 : B 1 2 x4) (b_s1 : B 1 2 s1) (hm_R88 : m_R88 ≤ x4.toInt) (hI : IM S) (hR88 : ∀ {y_x1 : Int32} {y_x2 : Int32} {y_x3 : Int32} {y_x4 : Int32} {y_S : ms}, B 1 2 y_x1 → B 1 2 y_x2 → B 0 65535 y_x3 → B 0 3 y_x4 → m_R88 < y_x4.toInt → IM y_S → R88 y_x1 y_x2 y_x3 y_x4 y_S) (hK : ∀ {v : Int32} {yS : ms}, B 0 65536 v → IM yS → K v yS) : b_pack_113 x1 x2 x3 x4 s1 1 S R88 K := by
  unfold b_pack_113
  refine ⟨vp_B b_s1 (by decide) (by decide), ?_⟩
  refine ⟨fun hc => ?_, fun hc => ?_⟩
  · have hz := hc
    have hI1 := IM_r (r := 15) (i := s1.toNatClampNeg) (v := 1) hI (show B 1 1 (1 : Int32) from ⟨by decide, by decide⟩) (by decide) (by decide)
    exact sf_b_pack_130_s21 b_x1 b_x2 b_x3 b_x4 b_x4 hm_R88 hI1 hR88 hK
  · exact (B_dis b_x4 (show B 0 0 (0 : Int32) from ⟨by decide, by decide⟩) hc (by decide)).elim
set_option maxRecDepth 20000 in
set_option maxHeartbeats 1000000 in
theorem sf_b_pack_130_s10 {x1 : Int32} {x2 : Int32} {x3 : Int32} {x4 : Int32} {s2 : Int32} {S : ms} {m_R88 : Int} {R88 : Int32 → Int32 → Int32 → Int32 → ms → Prop} {K : Int32 → ms → Prop} (b_x1 : B 1 2 x1) (b_x2 : B 1 2 x2) (b_x3 : B 0 65535 x3) (b_x4 : B 0 0 x4) (b_s2 : B 1 2 s2) (hm_R88 : m_R88 ≤ x4.toInt) (hI : IM S) (hR88 : ∀ {y_x1 : Int32} {y_x2 : Int32} {y_x3 : Int32} {y_x4 : Int32} {y_S : ms}, B 1 2 y_x1 → B 1 2 y_x2 → B 0 65535 y_x3 → B 0 3 y_x4 → m_R88 < y_x4.toInt → IM y_S → R88 y_x1 y_x2 y_x3 y_x4 y_S) (hK : ∀ {v : Int32} {yS : ms}, B 0 65536 v → IM yS → K v yS) : b_pack_130 x1 x2 x3 x4 0 s2 S R88 K := by
  unfold b_pack_130
  refine ⟨vp_B (show B 0 0 (0 : Int32) from ⟨by decide, by decide⟩) (by decide) (by decide), ?_⟩
  have hI1 := IM_r (r := 16) (i := (0 : Int32).toNatClampNeg) (v := s2) hI b_s2 (by decide) (by decide)
  exact hR88 b_x1 b_x2 b_x3 (B_w (B_add b_x4 (show B 1 1 (1 : Int32) from ⟨by decide, by decide⟩) (by decide) (by decide)) (by decide) (by decide)) (inc_lt b_x4 hm_R88 (by decide) (by decide)) hI1
set_option maxRecDepth 20000 in
set_option maxHeartbeats 1000000 in
theorem sf_b_pack_130_s11_s21 {x1 : Int32} {x2 : Int32} {x3 : Int32} {x4 : Int32} {S : ms} {m_R88 : Int} {R88 : Int32 → Int32 → Int32 → Int32 → ms → Prop} {K : Int32 → ms → Prop} (b_x1 : B 1 2 x1) (b_x2 : B 1 2 x2) (b_x3 : B 0 65535 x3) (b_x4 : B 1 1 x4) (hm_R88 : m_R88 ≤ x4.toInt) (hI : IM S) (hR88 : ∀ {y_x1 : Int32} {y_x2 : Int32} {y_x3 : Int32} {y_x4 : Int32} {y_S : ms}, B 1 2 y_x1 → B 1 2 y_x2 → B 0 65535 y_x3 → B 0 3 y_x4 → m_R88 < y_x4.toInt → IM y_S → R88 y_x1 y_x2 y_x3 y_x4 y_S) (hK : ∀ {v : Int32} {yS : ms}, B 0 65536 v → IM yS → K v yS) : b_pack_130 x1 x2 x3 x4 1 1 S R88 K := by
  unfold b_pack_130
  refine ⟨vp_B (show B 1 1 (1 : Int32) from ⟨by decide, by decide⟩) (by decide) (by decide), ?_⟩
  have hI1 := IM_r (r := 16) (i := (1 : Int32).toNatClampNeg) (v := 1) hI (show B 1 1 (1 : Int32) from ⟨by decide, by decide⟩) (by decide) (by decide)
  exact hR88 b_x1 b_x2 b_x3 (B_w (B_add b_x4 (show B 1 1 (1 : Int32) from ⟨by decide, by decide⟩) (by decide) (by decide)) (by decide) (by decide)) (inc_lt b_x4 hm_R88 (by decide) (by decide)) hI1
set_option maxRecDepth 20000 in
set_option maxHeartbeats 1000000 in
theorem sf_b_pack_36_s11 {x1 : Int32} {x2 : Int32} {x3 : Int32} {S : ms} {K : Int32 → ms → Prop} (b_x1 : B (-2147483648) 2147483647 x1) (b_x2 : B (-2147483648) 2147483647 x2) (b_x3 : B (-2147483648) 2147483647 x3) (hI : IM S) (hK : ∀ {v : Int32} {yS : ms}, B 0 65536 v → IM yS → K v yS) : b_pack_36 x1 x2 x3 1 S K := by
  unfold b_pack_36
  refine ⟨fun hc => ?_, fun hc => ?_⟩
  · exact (B_dead_le (show B 1 1 (1 : Int32) from ⟨by decide, by decide⟩) (show B 0 0 (0 : Int32) from ⟨by decide, by decide⟩) hc (by decide)).elim
  · have hq1 := (nle_lt hc)
    have hI2 := IM_f (k := 0) (v := 1) hI (show B 1 1 (1 : Int32) from ⟨by decide, by decide⟩) (by decide) (by decide)
    exact hK (B_w (show B 0 0 (0 : Int32) from ⟨by decide, by decide⟩) (by decide) (by decide)) hI2
set_option maxRecDepth 20000 in
set_option maxHeartbeats 1000000 in
theorem sf_b_pack_31 {x1 : Int32} {x2 : Int32} {x3 : Int32} {S : ms} {K : Int32 → ms → Prop} (b_x1 : B (-2147483648) 2147483647 x1) (b_x2 : B (-2147483648) 2147483647 x2) (b_x3 : B (-2147483648) 2147483647 x3) (hI : IM S) (hK : ∀ {v : Int32} {yS : ms}, B 0 65536 v → IM yS → K v yS) : b_pack_31 x1 x2 x3 S K := by
  unfold b_pack_31
  exact sf_b_pack_36_s11 b_x1 b_x2 b_x3 hI hK
set_option maxRecDepth 20000 in
set_option maxHeartbeats 1000000 in
theorem sf_b_putBits_76 {x1 : Int32} {x3 : Int32} {S : ms} {m_R4 : Int} {R4 : Int32 → Int32 → ms → Prop} {K : ms → Prop} (b_x1 : B (-2147483648) 2147483647 x1) (b_x3 : B 0 2147483647 x3) (hm_R4 : x3.toInt ≤ m_R4) (hI : IM S) (hR4 : ∀ {y_x1 : Int32} {y_x3 : Int32} {y_S : ms}, B (-2147483648) 2147483647 y_x1 → B (-2147483648) 2147483647 y_x3 → y_x3.toInt < m_R4 → IM y_S → R4 y_x1 y_x3 y_S) (hK : ∀ {yS : ms}, IM yS → K yS) : b_putBits_76 x1 x3 S R4 K := by
  unfold b_putBits_76
  exact hR4 b_x1 (B_w (B_add b_x3 (show B (-1) (-1) (-1 : Int32) from ⟨by decide, by decide⟩) (by decide) (by decide)) (by decide) (by decide)) (dec_lt b_x3 hm_R4 (by decide)) hI
set_option maxRecDepth 20000 in
set_option maxHeartbeats 1000000 in
theorem sf_b_putBits_66 {x1 : Int32} {x3 : Int32} {S : ms} {m_R4 : Int} {R4 : Int32 → Int32 → ms → Prop} {K : ms → Prop} (b_x1 : B (-2147483648) 2147483647 x1) (b_x3 : B 0 2147483647 x3) (hm_R4 : x3.toInt ≤ m_R4) (hI : IM S) (hR4 : ∀ {y_x1 : Int32} {y_x3 : Int32} {y_S : ms}, B (-2147483648) 2147483647 y_x1 → B (-2147483648) 2147483647 y_x3 → y_x3.toInt < m_R4 → IM y_S → R4 y_x1 y_x3 y_S) (hK : ∀ {yS : ms}, IM yS → K yS) : b_putBits_66 x1 x3 S R4 K := by
  unfold b_putBits_66
  have hI1 := IM_f (k := 32) (v := 0) hI (show B 0 0 (0 : Int32) from ⟨by decide, by decide⟩) (by decide) (by decide)
  have hI2 := IM_f (k := 33) (v := 0) hI1 (show B 0 0 (0 : Int32) from ⟨by decide, by decide⟩) (by decide) (by decide)
  exact sf_b_putBits_76 b_x1 b_x3 hm_R4 hI2 hR4 hK
set_option maxRecDepth 20000 in
set_option maxHeartbeats 1000000 in
theorem sf_b_putCode_115 {x1 : Int32} {x3 : Int32} {x4 : Int32} {S : ms} {m_R75 : Int} {m_R84 : Int} {R75 : Int32 → Int32 → ms → Prop} {R84 : Int32 → Int32 → Int32 → ms → Prop} {K : ms → Prop} (b_x1 : B 0 3 x1) (b_x3 : B 1 16 x3) (b_x4 : B 0 255 x4) (hm_R75 : m_R75 ≤ x3.toInt) (hm_R84 : m_R84 ≤ x4.toInt) (hI : IM S) (hR75 : ∀ {y_x1 : Int32} {y_x3 : Int32} {y_S : ms}, B 0 3 y_x1 → B 1 17 y_x3 → m_R75 < y_x3.toInt → IM y_S → R75 y_x1 y_x3 y_S) (hR84 : ∀ {y_x1 : Int32} {y_x3 : Int32} {y_x4 : Int32} {y_S : ms}, B 0 3 y_x1 → B 1 16 y_x3 → B 0 256 y_x4 → m_R84 < y_x4.toInt → m_R75 ≤ y_x3.toInt → IM y_S → R84 y_x1 y_x3 y_x4 y_S) (hK : ∀ {yS : ms}, IM yS → K yS) : b_putCode_115 x1 x3 x4 S R75 R84 K := by
  unfold b_putCode_115
  exact hR84 b_x1 b_x3 (B_w (B_add b_x4 (show B 1 1 (1 : Int32) from ⟨by decide, by decide⟩) (by decide) (by decide)) (by decide) (by decide)) (inc_lt b_x4 hm_R84 (by decide) (by decide)) hm_R75 hI
set_option maxRecDepth 20000 in
set_option maxHeartbeats 1000000 in
theorem sf_b_putCode_53 {x1 : Int32} {x3 : Int32} {x5 : Int32} {s0 : Int32} {S : ms} {m_R7 : Int} {m_R19 : Int} {R7 : Int32 → Int32 → ms → Prop} {R19 : Int32 → Int32 → Int32 → Int32 → ms → Prop} {K : ms → Prop} (b_x1 : B 0 3 x1) (b_x3 : B 1 16 x3) (b_x5 : B 0 255 x5) (b_s0 : B (-2147483648) 2147483647 s0) (hm_R7 : m_R7 ≤ x3.toInt) (hm_R19 : m_R19 ≤ x5.toInt) (hI : IM S) (hR7 : ∀ {y_x1 : Int32} {y_x3 : Int32} {y_S : ms}, B 0 3 y_x1 → B 1 17 y_x3 → m_R7 < y_x3.toInt → IM y_S → R7 y_x1 y_x3 y_S) (hR19 : ∀ {y_x1 : Int32} {y_x3 : Int32} {y_x4 : Int32} {y_x5 : Int32} {y_S : ms}, B 0 3 y_x1 → B 1 16 y_x3 → B (-2147483648) 2147483647 y_x4 → B 0 256 y_x5 → m_R19 < y_x5.toInt → m_R7 ≤ y_x3.toInt → IM y_S → R19 y_x1 y_x3 y_x4 y_x5 y_S) (hK : ∀ {yS : ms}, IM yS → K yS) : b_putCode_53 x1 x3 x5 s0 S R7 R19 K := by
  unfold b_putCode_53
  exact hR19 b_x1 b_x3 b_s0 (B_w (B_add b_x5 (show B 1 1 (1 : Int32) from ⟨by decide, by decide⟩) (by decide) (by decide)) (by decide) (by decide)) (inc_lt b_x5 hm_R19 (by decide) (by decide)) hm_R7 hI
set_option maxRecDepth 20000 in
set_option maxHeartbeats 1000000 in
theorem sf_b_putCode_53_s00 {x1 : Int32} {x3 : Int32} {x5 : Int32} {S : ms} {m_R7 : Int} {m_R19 : Int} {R7 : Int32 → Int32 → ms → Prop} {R19 : Int32 → Int32 → Int32 → Int32 → ms → Prop} {K : ms → Prop} (b_x1 : B 0 0 x1) (b_x3 : B 1 1 x3) (b_x5 : B 0 0 x5) (hm_R7 : m_R7 ≤ x3.toInt) (hm_R19 : m_R19 ≤ x5.toInt) (hI : IM S) (hR7 : ∀ {y_x1 : Int32} {y_x3 : Int32} {y_S : ms}, B 0 3 y_x1 → B 1 17 y_x3 → m_R7 < y_x3.toInt → IM y_S → R7 y_x1 y_x3 y_S) (hR19 : ∀ {y_x1 : Int32} {y_x3 : Int32} {y_x4 : Int32} {y_x5 : Int32} {y_S : ms}, B 0 3 y_x1 → B 1 16 y_x3 → B (-2147483648) 2147483647 y_x4 → B 0 256 y_x5 → m_R19 < y_x5.toInt → m_R7 ≤ y_x3.toInt → IM y_S → R19 y_x1 y_x3 y_x4 y_x5 y_S) (hK : ∀ {yS : ms}, IM yS → K yS) : b_putCode_53 x1 x3 x5 0 S R7 R19 K := by
  unfold b_putCode_53
  exact hR19 (B_w b_x1 (by decide) (by decide)) (B_w b_x3 (by decide) (by decide)) (B_w (show B 0 0 (0 : Int32) from ⟨by decide, by decide⟩) (by decide) (by decide)) (B_w (B_add b_x5 (show B 1 1 (1 : Int32) from ⟨by decide, by decide⟩) (by decide) (by decide)) (by decide) (by decide)) (inc_lt b_x5 hm_R19 (by decide) (by decide)) hm_R7 hI
set_option maxRecDepth 20000 in
set_option maxHeartbeats 1000000 in
theorem sf_b_putCode_53_s01 {x1 : Int32} {x3 : Int32} {x5 : Int32} {S : ms} {m_R7 : Int} {m_R19 : Int} {R7 : Int32 → Int32 → ms → Prop} {R19 : Int32 → Int32 → Int32 → Int32 → ms → Prop} {K : ms → Prop} (b_x1 : B 0 0 x1) (b_x3 : B 1 1 x3) (b_x5 : B 0 0 x5) (hm_R7 : m_R7 ≤ x3.toInt) (hm_R19 : m_R19 ≤ x5.toInt) (hI : IM S) (hR7 : ∀ {y_x1 : Int32} {y_x3 : Int32} {y_S : ms}, B 0 3 y_x1 → B 1 17 y_x3 → m_R7 < y_x3.toInt → IM y_S → R7 y_x1 y_x3 y_S) (hR19 : ∀ {y_x1 : Int32} {y_x3 : Int32} {y_x4 : Int32} {y_x5 : Int32} {y_S : ms}, B 0 3 y_x1 → B 1 16 y_x3 → B (-2147483648) 2147483647 y_x4 → B 0 256 y_x5 → m_R19 < y_x5.toInt → m_R7 ≤ y_x3.toInt → IM y_S → R19 y_x1 y_x3 y_x4 y_x5 y_S) (hK : ∀ {yS : ms}, IM yS → K yS) : b_putCode_53 x1 x3 x5 1 S R7 R19 K := by
  unfold b_putCode_53
  exact hR19 (B_w b_x1 (by decide) (by decide)) (B_w b_x3 (by decide) (by decide)) (B_w (show B 1 1 (1 : Int32) from ⟨by decide, by decide⟩) (by decide) (by decide)) (B_w (B_add b_x5 (show B 1 1 (1 : Int32) from ⟨by decide, by decide⟩) (by decide) (by decide)) (by decide) (by decide)) (inc_lt b_x5 hm_R19 (by decide) (by decide)) hm_R7 hI
set_option maxRecDepth 20000 in
set_option maxHeartbeats 1000000 in
theorem sf_b_readBlock_146 {S : ms} {K : ms → Prop} (hI : IM S) (hK : ∀ {yS : ms}, IM yS → K yS) : b_readBlock_146 S K := by
  unfold b_readBlock_146
  exact hK hI
set_option maxRecDepth 20000 in
set_option maxHeartbeats 1000000 in
theorem sf_b_readBlock_248 {S : ms} {K : ms → Prop} (hI : IM S) (hK : ∀ {yS : ms}, IM yS → K yS) : b_readBlock_248 S K := by
  unfold b_readBlock_248
  exact hK hI
set_option maxRecDepth 20000 in
set_option maxHeartbeats 1000000 in
theorem sf_b_readCodes_362 {S : ms} {K : ms → Prop} (hI : IM S) (hK : ∀ {yS : ms}, IM yS → K yS) : b_readCodes_362 S K := by
  unfold b_readCodes_362
  exact hK hI
set_option maxRecDepth 20000 in
set_option maxHeartbeats 1000000 in
theorem sf_b_readData_226 {x2 : Int32} {x3 : Int32} {x4 : Int32} {x5 : Int32} {x6 : Int32} {S : ms} {m_R106 : Int} {m_R210 : Int} {R106 : Int32 → Int32 → Int32 → ms → Prop} {R210 : Int32 → Int32 → Int32 → Int32 → Int32 → ms → Prop} {K : ms → Prop} (b_x2 : B (-2147483648) 2147483647 x2) (b_x3 : B (-2147483648) 2147483647 x3) (b_x4 : B (-2147483648) 2147483647 x4) (b_x5 : B 0 1 x5) (b_x6 : B 0 2 x6) (hm_R106 : m_R106 ≤ x4.toInt) (hm_R210 : m_R210 ≤ x6.toInt) (hI : IM S) (hR106 : ∀ {y_x2 : Int32} {y_x3 : Int32} {y_x4 : Int32} {y_S : ms}, B (-2147483648) 2147483647 y_x2 → B (-2147483648) 2147483647 y_x3 → B (-2147483648) 2147483647 y_x4 → m_R106 < y_x4.toInt → IM y_S → R106 y_x2 y_x3 y_x4 y_S) (hR210 : ∀ {y_x2 : Int32} {y_x3 : Int32} {y_x4 : Int32} {y_x5 : Int32} {y_x6 : Int32} {y_S : ms}, B (-2147483648) 2147483647 y_x2 → B (-2147483648) 2147483647 y_x3 → B (-2147483648) 2147483647 y_x4 → B 0 1 y_x5 → B 0 3 y_x6 → m_R210 < y_x6.toInt → m_R106 ≤ y_x4.toInt → IM y_S → R210 y_x2 y_x3 y_x4 y_x5 y_x6 y_S) (hK : ∀ {yS : ms}, IM yS → K yS) : b_readData_226 x2 x3 x4 x5 x6 S R106 R210 K := by
  unfold b_readData_226
  refine ⟨vp_B b_x6 (by decide) (by decide), ?_⟩
  have hI1 := IM_r (r := 53) (i := x6.toNatClampNeg) (v := 0) hI (show B 0 0 (0 : Int32) from ⟨by decide, by decide⟩) (by decide) (by decide)
  exact hR210 b_x2 b_x3 b_x4 b_x5 (B_w (B_add b_x6 (show B 1 1 (1 : Int32) from ⟨by decide, by decide⟩) (by decide) (by decide)) (by decide) (by decide)) (inc_lt b_x6 hm_R210 (by decide) (by decide)) hm_R106 hI1
set_option maxRecDepth 20000 in
set_option maxHeartbeats 1000000 in
theorem sf_b_readData_260 {S : ms} {K : ms → Prop} (hI : IM S) (hK : ∀ {yS : ms}, IM yS → K yS) : b_readData_260 S K := by
  unfold b_readData_260
  exact hK hI
set_option maxRecDepth 20000 in
set_option maxHeartbeats 1000000 in
theorem sf_b_readFrame_257_s00 {x2 : Int32} {x3 : Int32} {x4 : Int32} {x5 : Int32} {x7 : Int32} {S : ms} {m_R192 : Int} {m_R223 : Int} {R192 : Int32 → Int32 → Int32 → Int32 → ms → Prop} {R223 : Int32 → Int32 → Int32 → Int32 → Int32 → Int32 → ms → Prop} {K : ms → Prop} (b_x2 : B 1 64 x2) (b_x3 : B 1 64 x3) (b_x4 : B 1 3 x4) (b_x5 : B 1 2 x5) (b_x7 : B 0 1 x7) (hm_R192 : m_R192 ≤ x5.toInt) (hm_R223 : m_R223 ≤ x7.toInt) (hI : IM S) (hR192 : ∀ {y_x2 : Int32} {y_x3 : Int32} {y_x4 : Int32} {y_x5 : Int32} {y_S : ms}, B (-2147483648) 2147483647 y_x2 → B (-2147483648) 2147483647 y_x3 → B (-2147483648) 2147483647 y_x4 → B 0 3 y_x5 → m_R192 < y_x5.toInt → IM y_S → R192 y_x2 y_x3 y_x4 y_x5 y_S) (hR223 : ∀ {y_x2 : Int32} {y_x3 : Int32} {y_x4 : Int32} {y_x5 : Int32} {y_x6 : Int32} {y_x7 : Int32} {y_S : ms}, B 1 64 y_x2 → B 1 64 y_x3 → B 1 3 y_x4 → B 0 2 y_x5 → B 0 1 y_x6 → B 0 2 y_x7 → m_R223 < y_x7.toInt → m_R192 ≤ y_x5.toInt → IM y_S → R223 y_x2 y_x3 y_x4 y_x5 y_x6 y_x7 y_S) (hK : ∀ {yS : ms}, IM yS → K yS) : b_readFrame_257 x2 x3 x4 x5 x7 0 S R192 R223 K := by
  unfold b_readFrame_257
  exact hR223 b_x2 b_x3 b_x4 (B_w b_x5 (by decide) (by decide)) (B_w (show B 0 0 (0 : Int32) from ⟨by decide, by decide⟩) (by decide) (by decide)) (B_w (B_add b_x7 (show B 1 1 (1 : Int32) from ⟨by decide, by decide⟩) (by decide) (by decide)) (by decide) (by decide)) (inc_lt b_x7 hm_R223 (by decide) (by decide)) hm_R192 hI
set_option maxRecDepth 20000 in
set_option maxHeartbeats 1000000 in
theorem sf_b_readFrame_256 {x2 : Int32} {x3 : Int32} {x4 : Int32} {x5 : Int32} {x7 : Int32} {S : ms} {m_R192 : Int} {m_R223 : Int} {R192 : Int32 → Int32 → Int32 → Int32 → ms → Prop} {R223 : Int32 → Int32 → Int32 → Int32 → Int32 → Int32 → ms → Prop} {K : ms → Prop} (b_x2 : B 1 64 x2) (b_x3 : B 1 64 x3) (b_x4 : B 1 3 x4) (b_x5 : B 1 2 x5) (b_x7 : B 0 1 x7) (hm_R192 : m_R192 ≤ x5.toInt) (hm_R223 : m_R223 ≤ x7.toInt) (hI : IM S) (hR192 : ∀ {y_x2 : Int32} {y_x3 : Int32} {y_x4 : Int32} {y_x5 : Int32} {y_S : ms}, B (-2147483648) 2147483647 y_x2 → B (-2147483648) 2147483647 y_x3 → B (-2147483648) 2147483647 y_x4 → B 0 3 y_x5 → m_R192 < y_x5.toInt → IM y_S → R192 y_x2 y_x3 y_x4 y_x5 y_S) (hR223 : ∀ {y_x2 : Int32} {y_x3 : Int32} {y_x4 : Int32} {y_x5 : Int32} {y_x6 : Int32} {y_x7 : Int32} {y_S : ms}, B 1 64 y_x2 → B 1 64 y_x3 → B 1 3 y_x4 → B 0 2 y_x5 → B 0 1 y_x6 → B 0 2 y_x7 → m_R223 < y_x7.toInt → m_R192 ≤ y_x5.toInt → IM y_S → R223 y_x2 y_x3 y_x4 y_x5 y_x6 y_x7 y_S) (hK : ∀ {yS : ms}, IM yS → K yS) : b_readFrame_256 x2 x3 x4 x5 x7 S R192 R223 K := by
  unfold b_readFrame_256
  exact sf_b_readFrame_257_s00 b_x2 b_x3 b_x4 b_x5 b_x7 hm_R192 hm_R223 hI hR192 hR223 hK
set_option maxRecDepth 20000 in
set_option maxHeartbeats 1000000 in
theorem sf_b_readFrame_257_s01 {x2 : Int32} {x3 : Int32} {x4 : Int32} {x5 : Int32} {x7 : Int32} {S : ms} {m_R192 : Int} {m_R223 : Int} {R192 : Int32 → Int32 → Int32 → Int32 → ms → Prop} {R223 : Int32 → Int32 → Int32 → Int32 → Int32 → Int32 → ms → Prop} {K : ms → Prop} (b_x2 : B 1 64 x2) (b_x3 : B 1 64 x3) (b_x4 : B 1 3 x4) (b_x5 : B 1 2 x5) (b_x7 : B 0 1 x7) (hm_R192 : m_R192 ≤ x5.toInt) (hm_R223 : m_R223 ≤ x7.toInt) (hI : IM S) (hR192 : ∀ {y_x2 : Int32} {y_x3 : Int32} {y_x4 : Int32} {y_x5 : Int32} {y_S : ms}, B (-2147483648) 2147483647 y_x2 → B (-2147483648) 2147483647 y_x3 → B (-2147483648) 2147483647 y_x4 → B 0 3 y_x5 → m_R192 < y_x5.toInt → IM y_S → R192 y_x2 y_x3 y_x4 y_x5 y_S) (hR223 : ∀ {y_x2 : Int32} {y_x3 : Int32} {y_x4 : Int32} {y_x5 : Int32} {y_x6 : Int32} {y_x7 : Int32} {y_S : ms}, B 1 64 y_x2 → B 1 64 y_x3 → B 1 3 y_x4 → B 0 2 y_x5 → B 0 1 y_x6 → B 0 2 y_x7 → m_R223 < y_x7.toInt → m_R192 ≤ y_x5.toInt → IM y_S → R223 y_x2 y_x3 y_x4 y_x5 y_x6 y_x7 y_S) (hK : ∀ {yS : ms}, IM yS → K yS) : b_readFrame_257 x2 x3 x4 x5 x7 1 S R192 R223 K := by
  unfold b_readFrame_257
  exact hR223 b_x2 b_x3 b_x4 (B_w b_x5 (by decide) (by decide)) (B_w (show B 1 1 (1 : Int32) from ⟨by decide, by decide⟩) (by decide) (by decide)) (B_w (B_add b_x7 (show B 1 1 (1 : Int32) from ⟨by decide, by decide⟩) (by decide) (by decide)) (by decide) (by decide)) (inc_lt b_x7 hm_R223 (by decide) (by decide)) hm_R192 hI
set_option maxRecDepth 20000 in
set_option maxHeartbeats 1000000 in
theorem sf_p_fail {x1 : Int32} {x2 : Int32} {S : ms} {K : Int32 → ms → Prop} (b_x1 : B 1 8 x1) (b_x2 : B (-2) 32768 x2) (hI : IM S) (hK : ∀ {v : Int32} {yS : ms}, B 0 0 v → IM yS → K v yS) : p_fail x1 x2 S K := by
  unfold p_fail
  refine ⟨fun hc => ?_, fun hc => ?_⟩
  · have b1 := B_n0 (bf_35 hI) hc
    exact sf_b_fail_17 hI hK
  · have b2 := B_eq hc (show B 0 0 (0 : Int32) from ⟨by decide, by decide⟩)
    have hI3 := IM_f (k := 35) (v := x1) hI b_x1 (by decide) (by decide)
    have hI4 := IM_f (k := 10) (v := x2) hI3 b_x2 (by decide) (by decide)
    exact sf_b_fail_17 hI4 hK
set_option maxRecDepth 20000 in
set_option maxHeartbeats 1000000 in
theorem sf_p_must {x1 : Int32} {x2 : Int32} {S : ms} {K : ms → Prop} (b_x1 : B 0 1 x1) (b_x2 : B (-2) 32768 x2) (hI : IM S) (hK : ∀ {yS : ms}, IM yS → K yS) : p_must x1 x2 S K := by
  unfold p_must
  refine ⟨fun hc => ?_, fun hc => ?_⟩
  · have b1 := B_n0 (bf_35 hI) hc
    exact sf_b_must_18 hI hK
  · have b2 := B_eq hc (show B 0 0 (0 : Int32) from ⟨by decide, by decide⟩)
    refine ⟨fun hc => ?_, fun hc => ?_⟩
    · have b3 := B_n0 b_x1 hc
      exact sf_b_must_18 hI hK
    · have b4 := B_eq hc (show B 0 0 (0 : Int32) from ⟨by decide, by decide⟩)
      refine sf_p_fail (B_w (show B 5 5 (5 : Int32) from ⟨by decide, by decide⟩) (by decide) (by decide)) b_x2 hI (fun {v14} {S14} b_v14 hI_S14 => ?_)
      exact sf_b_must_18 hI_S14 hK
set_option maxRecDepth 20000 in
set_option maxHeartbeats 1000000 in
theorem sf_b_readFrame_411_s10 {x2 : Int32} {x3 : Int32} {x4 : Int32} {x5 : Int32} {S : ms} {m_R192 : Int} {R192 : Int32 → Int32 → Int32 → Int32 → ms → Prop} {K : ms → Prop} (b_x2 : B 1 64 x2) (b_x3 : B 1 64 x3) (b_x4 : B 1 3 x4) (b_x5 : B 0 2 x5) (hm_R192 : m_R192 ≤ x5.toInt) (hI : IM S) (hR192 : ∀ {y_x2 : Int32} {y_x3 : Int32} {y_x4 : Int32} {y_x5 : Int32} {y_S : ms}, B (-2147483648) 2147483647 y_x2 → B (-2147483648) 2147483647 y_x3 → B (-2147483648) 2147483647 y_x4 → B 0 3 y_x5 → m_R192 < y_x5.toInt → IM y_S → R192 y_x2 y_x3 y_x4 y_x5 y_S) (hK : ∀ {yS : ms}, IM yS → K yS) : b_readFrame_411 x2 x3 x4 x5 0 S R192 K := by
  unfold b_readFrame_411
  refine sf_p_must (B_w (show B 0 0 (0 : Int32) from ⟨by decide, by decide⟩) (by decide) (by decide)) (B_w (B_sub (bf_34 hI) (show B 1 1 (1 : Int32) from ⟨by decide, by decide⟩) (by decide) (by decide)) (by decide) (by decide)) hI (fun {S417} hI_S417 => ?_)
  exact hR192 (B_w b_x2 (by decide) (by decide)) (B_w b_x3 (by decide) (by decide)) (B_w b_x4 (by decide) (by decide)) (B_w (B_add b_x5 (show B 1 1 (1 : Int32) from ⟨by decide, by decide⟩) (by decide) (by decide)) (by decide) (by decide)) (inc_lt b_x5 hm_R192 (by decide) (by decide)) hI_S417
set_option maxRecDepth 20000 in
set_option maxHeartbeats 1000000 in
theorem sf_b_readFrame_411_s11 {x2 : Int32} {x3 : Int32} {x4 : Int32} {x5 : Int32} {S : ms} {m_R192 : Int} {R192 : Int32 → Int32 → Int32 → Int32 → ms → Prop} {K : ms → Prop} (b_x2 : B 1 64 x2) (b_x3 : B 1 64 x3) (b_x4 : B 1 3 x4) (b_x5 : B 0 2 x5) (hm_R192 : m_R192 ≤ x5.toInt) (hI : IM S) (hR192 : ∀ {y_x2 : Int32} {y_x3 : Int32} {y_x4 : Int32} {y_x5 : Int32} {y_S : ms}, B (-2147483648) 2147483647 y_x2 → B (-2147483648) 2147483647 y_x3 → B (-2147483648) 2147483647 y_x4 → B 0 3 y_x5 → m_R192 < y_x5.toInt → IM y_S → R192 y_x2 y_x3 y_x4 y_x5 y_S) (hK : ∀ {yS : ms}, IM yS → K yS) : b_readFrame_411 x2 x3 x4 x5 1 S R192 K := by
  unfold b_readFrame_411
  refine sf_p_must (B_w (show B 1 1 (1 : Int32) from ⟨by decide, by decide⟩) (by decide) (by decide)) (B_w (B_sub (bf_34 hI) (show B 1 1 (1 : Int32) from ⟨by decide, by decide⟩) (by decide) (by decide)) (by decide) (by decide)) hI (fun {S417} hI_S417 => ?_)
  exact hR192 (B_w b_x2 (by decide) (by decide)) (B_w b_x3 (by decide) (by decide)) (B_w b_x4 (by decide) (by decide)) (B_w (B_add b_x5 (show B 1 1 (1 : Int32) from ⟨by decide, by decide⟩) (by decide) (by decide)) (by decide) (by decide)) (inc_lt b_x5 hm_R192 (by decide) (by decide)) hI_S417
set_option maxRecDepth 20000 in
set_option maxHeartbeats 1000000 in
theorem sf_b_readFrame_393 {x2 : Int32} {x3 : Int32} {x4 : Int32} {x5 : Int32} {s1 : Int32} {s2 : Int32} {S : ms} {m_R192 : Int} {R192 : Int32 → Int32 → Int32 → Int32 → ms → Prop} {K : ms → Prop} (b_x2 : B 1 64 x2) (b_x3 : B 1 64 x3) (b_x4 : B 1 3 x4) (b_x5 : B 0 2 x5) (b_s1 : B 0 2 s1) (b_s2 : B (-2147483648) 2147483647 s2) (hm_R192 : m_R192 ≤ x5.toInt) (hI : IM S) (hR192 : ∀ {y_x2 : Int32} {y_x3 : Int32} {y_x4 : Int32} {y_x5 : Int32} {y_S : ms}, B (-2147483648) 2147483647 y_x2 → B (-2147483648) 2147483647 y_x3 → B (-2147483648) 2147483647 y_x4 → B 0 3 y_x5 → m_R192 < y_x5.toInt → IM y_S → R192 y_x2 y_x3 y_x4 y_x5 y_S) (hK : ∀ {yS : ms}, IM yS → K yS) : b_readFrame_393 x2 x3 x4 x5 s1 s2 S R192 K := by
  unfold b_readFrame_393
  refine ⟨vp_B b_s1 (by decide) (by decide), ?_⟩
  refine ⟨vp_B b_x5 (by decide) (by decide), ?_⟩
  refine ⟨fun hc => ?_, fun hc => ?_⟩
  · have hq1 := hc
    have b2 := B_leR (show B 4 4 (4 : Int32) from ⟨by decide, by decide⟩) (B_any _) hq1
    have hI3 := IM_r (r := 45) (i := s1.toNatClampNeg) (v := s2) hI b_s2 (by decide) (by decide)
    exact sf_b_readFrame_411_s10 b_x2 b_x3 b_x4 b_x5 hm_R192 hI3 hR192 hK
  · have hq4 := (nle_lt hc)
    have b5 := B_ltL (B_any _) (show B 4 4 (4 : Int32) from ⟨by decide, by decide⟩) hq4
    have hI6 := IM_r (r := 45) (i := s1.toNatClampNeg) (v := s2) hI b_s2 (by decide) (by decide)
    exact sf_b_readFrame_411_s11 b_x2 b_x3 b_x4 b_x5 hm_R192 hI6 hR192 hK
set_option maxRecDepth 20000 in
set_option maxHeartbeats 1000000 in
theorem sf_b_readFrame_393_s10 {x2 : Int32} {x3 : Int32} {x4 : Int32} {x5 : Int32} {s2 : Int32} {S : ms} {m_R192 : Int} {R192 : Int32 → Int32 → Int32 → Int32 → ms → Prop} {K : ms → Prop} (b_x2 : B 1 64 x2) (b_x3 : B 1 64 x3) (b_x4 : B 1 3 x4) (b_x5 : B 0 0 x5) (b_s2 : B 0 255 s2) (hm_R192 : m_R192 ≤ x5.toInt) (hI : IM S) (hR192 : ∀ {y_x2 : Int32} {y_x3 : Int32} {y_x4 : Int32} {y_x5 : Int32} {y_S : ms}, B (-2147483648) 2147483647 y_x2 → B (-2147483648) 2147483647 y_x3 → B (-2147483648) 2147483647 y_x4 → B 0 3 y_x5 → m_R192 < y_x5.toInt → IM y_S → R192 y_x2 y_x3 y_x4 y_x5 y_S) (hK : ∀ {yS : ms}, IM yS → K yS) : b_readFrame_393 x2 x3 x4 x5 0 s2 S R192 K := by
  unfold b_readFrame_393
  refine ⟨vp_B (show B 0 0 (0 : Int32) from ⟨by decide, by decide⟩) (by decide) (by decide), ?_⟩
  refine ⟨vp_B b_x5 (by decide) (by decide), ?_⟩
  refine ⟨fun hc => ?_, fun hc => ?_⟩
  · have hq1 := hc
    have b2 := B_leR (show B 4 4 (4 : Int32) from ⟨by decide, by decide⟩) (B_any _) hq1
    have hI3 := IM_r (r := 45) (i := (0 : Int32).toNatClampNeg) (v := s2) hI b_s2 (by decide) (by decide)
    exact sf_b_readFrame_411_s10 b_x2 b_x3 b_x4 (B_w b_x5 (by decide) (by decide)) hm_R192 hI3 hR192 hK
  · have hq4 := (nle_lt hc)
    have b5 := B_ltL (B_any _) (show B 4 4 (4 : Int32) from ⟨by decide, by decide⟩) hq4
    have hI6 := IM_r (r := 45) (i := (0 : Int32).toNatClampNeg) (v := s2) hI b_s2 (by decide) (by decide)
    exact sf_b_readFrame_411_s11 b_x2 b_x3 b_x4 (B_w b_x5 (by decide) (by decide)) hm_R192 hI6 hR192 hK
set_option maxRecDepth 20000 in
set_option maxHeartbeats 1000000 in
theorem sf_b_readFrame_393_s10_s20 {x2 : Int32} {x3 : Int32} {x4 : Int32} {x5 : Int32} {S : ms} {m_R192 : Int} {R192 : Int32 → Int32 → Int32 → Int32 → ms → Prop} {K : ms → Prop} (b_x2 : B 1 64 x2) (b_x3 : B 1 64 x3) (b_x4 : B 1 3 x4) (b_x5 : B 0 0 x5) (hm_R192 : m_R192 ≤ x5.toInt) (hI : IM S) (hR192 : ∀ {y_x2 : Int32} {y_x3 : Int32} {y_x4 : Int32} {y_x5 : Int32} {y_S : ms}, B (-2147483648) 2147483647 y_x2 → B (-2147483648) 2147483647 y_x3 → B (-2147483648) 2147483647 y_x4 → B 0 3 y_x5 → m_R192 < y_x5.toInt → IM y_S → R192 y_x2 y_x3 y_x4 y_x5 y_S) (hK : ∀ {yS : ms}, IM yS → K yS) : b_readFrame_393 x2 x3 x4 x5 0 0 S R192 K := by
  unfold b_readFrame_393
  refine ⟨vp_B (show B 0 0 (0 : Int32) from ⟨by decide, by decide⟩) (by decide) (by decide), ?_⟩
  refine ⟨vp_B b_x5 (by decide) (by decide), ?_⟩
  refine ⟨fun hc => ?_, fun hc => ?_⟩
  · have hq1 := hc
    have b2 := B_leR (show B 4 4 (4 : Int32) from ⟨by decide, by decide⟩) (B_any _) hq1
    have hI3 := IM_r (r := 45) (i := (0 : Int32).toNatClampNeg) (v := 0) hI (show B 0 0 (0 : Int32) from ⟨by decide, by decide⟩) (by decide) (by decide)
    exact sf_b_readFrame_411_s10 b_x2 b_x3 b_x4 (B_w b_x5 (by decide) (by decide)) hm_R192 hI3 hR192 hK
  · have hq4 := (nle_lt hc)
    have b5 := B_ltL (B_any _) (show B 4 4 (4 : Int32) from ⟨by decide, by decide⟩) hq4
    have hI6 := IM_r (r := 45) (i := (0 : Int32).toNatClampNeg) (v := 0) hI (show B 0 0 (0 : Int32) from ⟨by decide, by decide⟩) (by decide) (by decide)
    exact sf_b_readFrame_411_s11 b_x2 b_x3 b_x4 (B_w b_x5 (by decide) (by decide)) hm_R192 hI6 hR192 hK
set_option maxRecDepth 20000 in
set_option maxHeartbeats 1000000 in
theorem sf_b_readFrame_393_s20 {x2 : Int32} {x3 : Int32} {x4 : Int32} {x5 : Int32} {s1 : Int32} {S : ms} {m_R192 : Int} {R192 : Int32 → Int32 → Int32 → Int32 → ms → Prop} {K : ms → Prop} (b_x2 : B 1 64 x2) (b_x3 : B 1 64 x3) (b_x4 : B 1 3 x4) (b_x5 : B 0 2 x5) (b_s1 : B 0 2 s1) (hm_R192 : m_R192 ≤ x5.toInt) (hI : IM S) (hR192 : ∀ {y_x2 : Int32} {y_x3 : Int32} {y_x4 : Int32} {y_x5 : Int32} {y_S : ms}, B (-2147483648) 2147483647 y_x2 → B (-2147483648) 2147483647 y_x3 → B (-2147483648) 2147483647 y_x4 → B 0 3 y_x5 → m_R192 < y_x5.toInt → IM y_S → R192 y_x2 y_x3 y_x4 y_x5 y_S) (hK : ∀ {yS : ms}, IM yS → K yS) : b_readFrame_393 x2 x3 x4 x5 s1 0 S R192 K := by
  unfold b_readFrame_393
  refine ⟨vp_B b_s1 (by decide) (by decide), ?_⟩
  refine ⟨vp_B b_x5 (by decide) (by decide), ?_⟩
  refine ⟨fun hc => ?_, fun hc => ?_⟩
  · have hq1 := hc
    have b2 := B_leR (show B 4 4 (4 : Int32) from ⟨by decide, by decide⟩) (B_any _) hq1
    have hI3 := IM_r (r := 45) (i := s1.toNatClampNeg) (v := 0) hI (show B 0 0 (0 : Int32) from ⟨by decide, by decide⟩) (by decide) (by decide)
    exact sf_b_readFrame_411_s10 b_x2 b_x3 b_x4 b_x5 hm_R192 hI3 hR192 hK
  · have hq4 := (nle_lt hc)
    have b5 := B_ltL (B_any _) (show B 4 4 (4 : Int32) from ⟨by decide, by decide⟩) hq4
    have hI6 := IM_r (r := 45) (i := s1.toNatClampNeg) (v := 0) hI (show B 0 0 (0 : Int32) from ⟨by decide, by decide⟩) (by decide) (by decide)
    exact sf_b_readFrame_411_s11 b_x2 b_x3 b_x4 b_x5 hm_R192 hI6 hR192 hK
set_option maxRecDepth 20000 in
set_option maxHeartbeats 1000000 in
theorem sf_b_readFrame_465 {S : ms} {K : ms → Prop} (hI : IM S) (hK : ∀ {yS : ms}, IM yS → K yS) : b_readFrame_465 S K := by
  unfold b_readFrame_465
  exact hK hI
set_option maxRecDepth 20000 in
set_option maxHeartbeats 1000000 in
theorem sf_b_readLength_45 {S : ms} {K : ms → Prop} (hI : IM S) (hK : ∀ {yS : ms}, IM yS → K yS) : b_readLength_45 S K := by
  unfold b_readLength_45
  exact hK hI
set_option maxRecDepth 20000 in
set_option maxHeartbeats 1000000 in
theorem sf_b_readMark_53 {x2 : Int32} {S : ms} {K : Int32 → ms → Prop} (b_x2 : B (-2147483648) 2147483647 x2) (hI : IM S) (hK : ∀ {v : Int32} {yS : ms}, B (-2147483648) 2147483647 v → IM yS → K v yS) : b_readMark_53 x2 S K := by
  unfold b_readMark_53
  exact hK b_x2 hI
set_option maxRecDepth 20000 in
set_option maxHeartbeats 1000000 in
theorem sf_b_readNumber_48 {s0 : Int32} {S : ms} {K : Int32 → ms → Prop} (b_s0 : B (-2147483648) 2147483647 s0) (hI : IM S) (hK : ∀ {v : Int32} {yS : ms}, B (-2147483648) 2147483647 v → IM yS → K v yS) : b_readNumber_48 s0 S K := by
  unfold b_readNumber_48
  exact hK b_s0 hI
set_option maxRecDepth 20000 in
set_option maxHeartbeats 1000000 in
theorem sf_b_readNumber_47 {x2 : Int32} {S : ms} {K : Int32 → ms → Prop} (b_x2 : B (-2147483648) 2147483647 x2) (hI : IM S) (hK : ∀ {v : Int32} {yS : ms}, B (-2147483648) 2147483647 v → IM yS → K v yS) : b_readNumber_47 x2 S K := by
  unfold b_readNumber_47
  exact sf_b_readNumber_48 b_x2 hI hK
set_option maxRecDepth 20000 in
set_option maxHeartbeats 1000000 in
theorem sf_b_readNumber_48_s0m1 {S : ms} {K : Int32 → ms → Prop} (hI : IM S) (hK : ∀ {v : Int32} {yS : ms}, B (-2147483648) 2147483647 v → IM yS → K v yS) : b_readNumber_48 (-1) S K := by
  unfold b_readNumber_48
  exact hK (B_w (show B (-1) (-1) (-1 : Int32) from ⟨by decide, by decide⟩) (by decide) (by decide)) hI
set_option maxRecDepth 20000 in
set_option maxHeartbeats 1000000 in
theorem sf_b_readScanHead_366 {x1 : Int32} {x2 : Int32} {x3 : Int32} {x4 : Int32} {x5 : Int32} {S : ms} {m_R79 : Int} {R79 : Int32 → Int32 → Int32 → Int32 → Int32 → ms → Prop} {K : ms → Prop} (b_x1 : B 1 3 x1) (b_x2 : B (-1) 32767 x2) (b_x3 : B (-1) 2 x3) (b_x4 : B (-2147483648) 2147483647 x4) (b_x5 : B 0 2 x5) (hm_R79 : m_R79 ≤ x5.toInt) (hI : IM S) (hR79 : ∀ {y_x1 : Int32} {y_x2 : Int32} {y_x3 : Int32} {y_x4 : Int32} {y_x5 : Int32} {y_S : ms}, B (-2147483648) 2147483647 y_x1 → B (-1) 32767 y_x2 → B (-1) 2 y_x3 → B (-2147483648) 2147483647 y_x4 → B 0 3 y_x5 → m_R79 < y_x5.toInt → IM y_S → R79 y_x1 y_x2 y_x3 y_x4 y_x5 y_S) (hK : ∀ {yS : ms}, IM yS → K yS) : b_readScanHead_366 x1 x2 x3 x4 x5 S R79 K := by
  unfold b_readScanHead_366
  exact hR79 (B_w b_x1 (by decide) (by decide)) b_x2 b_x3 b_x4 (B_w (B_add b_x5 (show B 1 1 (1 : Int32) from ⟨by decide, by decide⟩) (by decide) (by decide)) (by decide) (by decide)) (inc_lt b_x5 hm_R79 (by decide) (by decide)) hI
set_option maxRecDepth 20000 in
set_option maxHeartbeats 1000000 in
theorem sf_b_readScanHead_417_s10 {x1 : Int32} {x2 : Int32} {x4 : Int32} {x5 : Int32} {S : ms} {m_R375 : Int} {R375 : Int32 → Int32 → Int32 → Int32 → ms → Prop} {K : ms → Prop} (b_x1 : B 1 3 x1) (b_x2 : B (-1) 32767 x2) (b_x4 : B (-2147483648) 2147483647 x4) (b_x5 : B 0 2 x5) (hm_R375 : m_R375 ≤ x5.toInt) (hI : IM S) (hR375 : ∀ {y_x1 : Int32} {y_x2 : Int32} {y_x4 : Int32} {y_x5 : Int32} {y_S : ms}, B (-2147483648) 2147483647 y_x1 → B (-1) 32767 y_x2 → B (-2147483648) 2147483647 y_x4 → B 0 3 y_x5 → m_R375 < y_x5.toInt → IM y_S → R375 y_x1 y_x2 y_x4 y_x5 y_S) (hK : ∀ {yS : ms}, IM yS → K yS) : b_readScanHead_417 x1 x2 x4 x5 0 S R375 K := by
  unfold b_readScanHead_417
  refine sf_p_must (B_w (show B 0 0 (0 : Int32) from ⟨by decide, by decide⟩) (by decide) (by decide)) (B_w (B_sub (bf_34 hI) (show B 1 1 (1 : Int32) from ⟨by decide, by decide⟩) (by decide) (by decide)) (by decide) (by decide)) hI (fun {S423} hI_S423 => ?_)
  exact hR375 (B_w b_x1 (by decide) (by decide)) b_x2 b_x4 (B_w (B_add b_x5 (show B 1 1 (1 : Int32) from ⟨by decide, by decide⟩) (by decide) (by decide)) (by decide) (by decide)) (inc_lt b_x5 hm_R375 (by decide) (by decide)) hI_S423
set_option maxRecDepth 20000 in
set_option maxHeartbeats 1000000 in
theorem sf_b_readScanHead_417_s11 {x1 : Int32} {x2 : Int32} {x4 : Int32} {x5 : Int32} {S : ms} {m_R375 : Int} {R375 : Int32 → Int32 → Int32 → Int32 → ms → Prop} {K : ms → Prop} (b_x1 : B 1 3 x1) (b_x2 : B (-1) 32767 x2) (b_x4 : B (-2147483648) 2147483647 x4) (b_x5 : B 0 2 x5) (hm_R375 : m_R375 ≤ x5.toInt) (hI : IM S) (hR375 : ∀ {y_x1 : Int32} {y_x2 : Int32} {y_x4 : Int32} {y_x5 : Int32} {y_S : ms}, B (-2147483648) 2147483647 y_x1 → B (-1) 32767 y_x2 → B (-2147483648) 2147483647 y_x4 → B 0 3 y_x5 → m_R375 < y_x5.toInt → IM y_S → R375 y_x1 y_x2 y_x4 y_x5 y_S) (hK : ∀ {yS : ms}, IM yS → K yS) : b_readScanHead_417 x1 x2 x4 x5 1 S R375 K := by
  unfold b_readScanHead_417
  refine sf_p_must (B_w (show B 1 1 (1 : Int32) from ⟨by decide, by decide⟩) (by decide) (by decide)) (B_w (B_sub (bf_34 hI) (show B 1 1 (1 : Int32) from ⟨by decide, by decide⟩) (by decide) (by decide)) (by decide) (by decide)) hI (fun {S423} hI_S423 => ?_)
  exact hR375 (B_w b_x1 (by decide) (by decide)) b_x2 b_x4 (B_w (B_add b_x5 (show B 1 1 (1 : Int32) from ⟨by decide, by decide⟩) (by decide) (by decide)) (by decide) (by decide)) (inc_lt b_x5 hm_R375 (by decide) (by decide)) hI_S423
set_option maxRecDepth 20000 in
set_option maxHeartbeats 1000000 in
theorem sf_b_readScanHead_409_s20 {x1 : Int32} {x2 : Int32} {x4 : Int32} {x5 : Int32} {s1 : Int32} {S : ms} {m_R375 : Int} {R375 : Int32 → Int32 → Int32 → Int32 → ms → Prop} {K : ms → Prop} (b_x1 : B 1 3 x1) (b_x2 : B (-1) 32767 x2) (b_x4 : B (-2147483648) 2147483647 x4) (b_x5 : B 0 2 x5) (b_s1 : B (-2147483648) 2147483647 s1) (hm_R375 : m_R375 ≤ x5.toInt) (hI : IM S) (hR375 : ∀ {y_x1 : Int32} {y_x2 : Int32} {y_x4 : Int32} {y_x5 : Int32} {y_S : ms}, B (-2147483648) 2147483647 y_x1 → B (-1) 32767 y_x2 → B (-2147483648) 2147483647 y_x4 → B 0 3 y_x5 → m_R375 < y_x5.toInt → IM y_S → R375 y_x1 y_x2 y_x4 y_x5 y_S) (hK : ∀ {yS : ms}, IM yS → K yS) : b_readScanHead_409 x1 x2 x4 x5 s1 0 S R375 K := by
  unfold b_readScanHead_409
  refine ⟨fun hc => ?_, fun hc => ?_⟩
  · have hz := hc
    exact sf_b_readScanHead_417_s10 b_x1 b_x2 b_x4 b_x5 hm_R375 hI hR375 hK
  · have b1 := B_eq hc (show B 0 0 (0 : Int32) from ⟨by decide, by decide⟩)
    exact sf_b_readScanHead_417_s11 b_x1 b_x2 b_x4 b_x5 hm_R375 hI hR375 hK
set_option maxRecDepth 20000 in
set_option maxHeartbeats 1000000 in
theorem sf_b_readScanHead_409_s263 {x1 : Int32} {x2 : Int32} {x4 : Int32} {x5 : Int32} {s1 : Int32} {S : ms} {m_R375 : Int} {R375 : Int32 → Int32 → Int32 → Int32 → ms → Prop} {K : ms → Prop} (b_x1 : B 1 3 x1) (b_x2 : B (-1) 32767 x2) (b_x4 : B (-2147483648) 2147483647 x4) (b_x5 : B 1 1 x5) (b_s1 : B (-2147483648) 2147483647 s1) (hm_R375 : m_R375 ≤ x5.toInt) (hI : IM S) (hR375 : ∀ {y_x1 : Int32} {y_x2 : Int32} {y_x4 : Int32} {y_x5 : Int32} {y_S : ms}, B (-2147483648) 2147483647 y_x1 → B (-1) 32767 y_x2 → B (-2147483648) 2147483647 y_x4 → B 0 3 y_x5 → m_R375 < y_x5.toInt → IM y_S → R375 y_x1 y_x2 y_x4 y_x5 y_S) (hK : ∀ {yS : ms}, IM yS → K yS) : b_readScanHead_409 x1 x2 x4 x5 s1 63 S R375 K := by
  unfold b_readScanHead_409
  refine ⟨fun hc => ?_, fun hc => ?_⟩
  · have hz := hc
    exact sf_b_readScanHead_417_s10 b_x1 b_x2 b_x4 (B_w b_x5 (by decide) (by decide)) hm_R375 hI hR375 hK
  · have b1 := B_eq hc (show B 63 63 (63 : Int32) from ⟨by decide, by decide⟩)
    exact sf_b_readScanHead_417_s11 b_x1 b_x2 b_x4 (B_w b_x5 (by decide) (by decide)) hm_R375 hI hR375 hK
set_option maxRecDepth 20000 in
set_option maxHeartbeats 1000000 in
theorem sf_b_readScanHead_557 {S : ms} {K : ms → Prop} (hI : IM S) (hK : ∀ {yS : ms}, IM yS → K yS) : b_readScanHead_557 S K := by
  unfold b_readScanHead_557
  exact hK hI
set_option maxRecDepth 20000 in
set_option maxHeartbeats 1000000 in
theorem sf_b_readSection_157 {S : ms} {K : ms → Prop} (hI : IM S) (hK : ∀ {yS : ms}, IM yS → K yS) : b_readSection_157 S K := by
  unfold b_readSection_157
  exact hK hI
set_option maxRecDepth 20000 in
set_option maxHeartbeats 1000000 in
theorem sf_b_readSection_100 {s1 : Int32} {S : ms} {K : ms → Prop} (b_s1 : B (-2147483648) 2147483647 s1) (hI : IM S) (hK : ∀ {yS : ms}, IM yS → K yS) : b_readSection_100 s1 S K := by
  unfold b_readSection_100
  have hI1 := IM_f (k := 48) (v := s1) hI b_s1 (by decide) (by decide)
  exact sf_b_readSection_157 hI1 hK
set_option maxRecDepth 20000 in
set_option maxHeartbeats 1000000 in
theorem sf_b_readSection_100_s10 {S : ms} {K : ms → Prop} (hI : IM S) (hK : ∀ {yS : ms}, IM yS → K yS) : b_readSection_100 0 S K := by
  unfold b_readSection_100
  have hI1 := IM_f (k := 48) (v := 0) hI (show B 0 0 (0 : Int32) from ⟨by decide, by decide⟩) (by decide) (by decide)
  exact sf_b_readSection_157 hI1 hK
set_option maxRecDepth 20000 in
set_option maxHeartbeats 1000000 in
theorem sf_p_next {S : ms} {K : Int32 → ms → Prop} (hI : IM S) (hK : ∀ {v : Int32} {yS : ms}, B (-2147483648) 2147483647 v → IM yS → K v yS) : p_next S K := by
  unfold p_next
  refine ⟨fun hc => ?_, fun hc => ?_⟩
  · have hq1 := hc
    have b2 := B_ltL (bf_34 hI) (bf_7 hI) hq1
    have b3 := B_ltR (bf_34 hI) (bf_7 hI) hq1
    refine ⟨vp_B (B_sub (B_add b2 (show B 1 1 (1 : Int32) from ⟨by decide, by decide⟩) (by decide) (by decide)) (show B 1 1 (1 : Int32) from ⟨by decide, by decide⟩) (by decide) (by decide)) (by decide) (by decide), ?_⟩
    have hI4 := IM_f (k := 34) (v := (S.1 34) + 1) hI (B_add b2 (show B 1 1 (1 : Int32) from ⟨by decide, by decide⟩) (by decide) (by decide)) (by decide) (by decide)
    exact hK (br_6 hI _) hI4
  · have hq5 := (nlt_le hc)
    refine sf_p_fail (B_w (show B 1 1 (1 : Int32) from ⟨by decide, by decide⟩) (by decide) (by decide)) (B_w (bf_7 hI) (by decide) (by decide)) hI (fun {v17} {S17} b_v17 hI_S17 => ?_)
    exact hK (B_w (show B 0 0 (0 : Int32) from ⟨by decide, by decide⟩) (by decide) (by decide)) hI_S17
set_option maxRecDepth 20000 in
set_option maxHeartbeats 1000000 in
theorem sf_p_nextTwo {S : ms} {K : Int32 → ms → Prop} (hI : IM S) (hK : ∀ {v : Int32} {yS : ms}, B (-2147483648) 2147483647 v → IM yS → K v yS) : p_nextTwo S K := by
  unfold p_nextTwo
  refine sf_p_next hI (fun {v1} {S1} b_v1 hI_S1 => ?_)
  refine sf_p_next hI_S1 (fun {v6} {S6} b_v6 hI_S6 => ?_)
  exact hK (B_any _) hI_S6
set_option maxRecDepth 20000 in
set_option maxHeartbeats 1000000 in
theorem sf_b_readSection_84 {S : ms} {K : ms → Prop} (hI : IM S) (hK : ∀ {yS : ms}, IM yS → K yS) : b_readSection_84 S K := by
  unfold b_readSection_84
  refine ⟨fun hc => ?_, fun hc => ?_⟩
  · have b1 := B_n0 (bf_35 hI) hc
    exact sf_b_readSection_100_s10 hI hK
  · have b2 := B_eq hc (show B 0 0 (0 : Int32) from ⟨by decide, by decide⟩)
    refine sf_p_nextTwo hI (fun {v93} {S93} b_v93 hI_S93 => ?_)
    exact sf_b_readSection_100 b_v93 hI_S93 hK
set_option maxRecDepth 20000 in
set_option maxHeartbeats 1000000 in
theorem sf_b_readTables_144 {S : ms} {K : ms → Prop} (hI : IM S) (hK : ∀ {yS : ms}, IM yS → K yS) : b_readTables_144 S K := by
  unfold b_readTables_144
  exact hK hI
set_option maxRecDepth 20000 in
set_option maxHeartbeats 1000000 in
theorem sf_b_readUnit_160 {x3 : Int32} {x4 : Int32} {x5 : Int32} {S : ms} {m_R12 : Int} {R12 : Int32 → Int32 → Int32 → ms → Prop} {K : ms → Prop} (b_x3 : B (-2147483648) 2147483647 x3) (b_x4 : B (-2147483648) 2147483647 x4) (b_x5 : B 0 2 x5) (hm_R12 : m_R12 ≤ x5.toInt) (hI : IM S) (hR12 : ∀ {y_x3 : Int32} {y_x4 : Int32} {y_x5 : Int32} {y_S : ms}, B (-2147483648) 2147483647 y_x3 → B (-2147483648) 2147483647 y_x4 → B 0 3 y_x5 → m_R12 < y_x5.toInt → IM y_S → R12 y_x3 y_x4 y_x5 y_S) (hK : ∀ {yS : ms}, IM yS → K yS) : b_readUnit_160 x3 x4 x5 S R12 K := by
  unfold b_readUnit_160
  exact hR12 b_x3 b_x4 (B_w (B_add b_x5 (show B 1 1 (1 : Int32) from ⟨by decide, by decide⟩) (by decide) (by decide)) (by decide) (by decide)) (inc_lt b_x5 hm_R12 (by decide) (by decide)) hI
set_option maxRecDepth 20000 in
set_option maxHeartbeats 1000000 in
theorem sf_b_readUnit_166 {S : ms} {K : ms → Prop} (hI : IM S) (hK : ∀ {yS : ms}, IM yS → K yS) : b_readUnit_166 S K := by
  unfold b_readUnit_166
  exact hK hI
set_option maxRecDepth 20000 in
set_option maxHeartbeats 1000000 in
theorem sf_b_sampleAt_142 {s0 : Int32} {S : ms} {K : Int32 → ms → Prop} (b_s0 : B 0 255 s0) (hI : IM S) (hK : ∀ {v : Int32} {yS : ms}, B (-2147483648) 2147483647 v → IM yS → K v yS) : b_sampleAt_142 s0 S K := by
  unfold b_sampleAt_142
  exact hK (B_w b_s0 (by decide) (by decide)) hI
set_option maxRecDepth 20000 in
set_option maxHeartbeats 1000000 in
theorem sf_b_sampleAt_142_s0255 {S : ms} {K : Int32 → ms → Prop} (hI : IM S) (hK : ∀ {v : Int32} {yS : ms}, B (-2147483648) 2147483647 v → IM yS → K v yS) : b_sampleAt_142 255 S K := by
  unfold b_sampleAt_142
  exact hK (B_w (show B 255 255 (255 : Int32) from ⟨by decide, by decide⟩) (by decide) (by decide)) hI
set_option maxRecDepth 20000 in
set_option maxHeartbeats 1000000 in
theorem sf_b_sampleAt_142_s00 {S : ms} {K : Int32 → ms → Prop} (hI : IM S) (hK : ∀ {v : Int32} {yS : ms}, B (-2147483648) 2147483647 v → IM yS → K v yS) : b_sampleAt_142 0 S K := by
  unfold b_sampleAt_142
  exact hK (B_w (show B 0 0 (0 : Int32) from ⟨by decide, by decide⟩) (by decide) (by decide)) hI
set_option maxRecDepth 20000 in
set_option maxHeartbeats 1000000 in
theorem sf_b_sampleAt_115 {s0 : Int32} {S : ms} {K : Int32 → ms → Prop} (b_s0 : B (-2147483648) 2147483647 s0) (hI : IM S) (hK : ∀ {v : Int32} {yS : ms}, B (-2147483648) 2147483647 v → IM yS → K v yS) : b_sampleAt_115 s0 S K := by
  unfold b_sampleAt_115
  refine ⟨fun hc => ?_, fun hc => ?_⟩
  · have hq1 := hc
    have b2 := B_leR (show B 0 0 (0 : Int32) from ⟨by decide, by decide⟩) b_s0 hq1
    refine ⟨fun hc => ?_, fun hc => ?_⟩
    · have hq3 := hc
      have b4 := B_leL b2 (show B 255 255 (255 : Int32) from ⟨by decide, by decide⟩) hq3
      exact sf_b_sampleAt_142 b4 hI hK
    · have hq5 := (nle_lt hc)
      have b6 := B_ltR (show B 255 255 (255 : Int32) from ⟨by decide, by decide⟩) b2 hq5
      exact sf_b_sampleAt_142_s0255 hI hK
  · have hq7 := (nle_lt hc)
    have b8 := B_ltL b_s0 (show B 0 0 (0 : Int32) from ⟨by decide, by decide⟩) hq7
    exact sf_b_sampleAt_142_s00 hI hK
set_option maxRecDepth 20000 in
set_option maxHeartbeats 1000000 in
theorem sf_b_sampleAt_115_s0m227 {S : ms} {K : Int32 → ms → Prop} (hI : IM S) (hK : ∀ {v : Int32} {yS : ms}, B (-2147483648) 2147483647 v → IM yS → K v yS) : b_sampleAt_115 (-227) S K := by
  unfold b_sampleAt_115
  refine ⟨fun hc => ?_, fun hc => ?_⟩
  · exact (B_dead_le (show B 0 0 (0 : Int32) from ⟨by decide, by decide⟩) (show B (-227) (-227) (-227 : Int32) from ⟨by decide, by decide⟩) hc (by decide)).elim
  · have hq1 := (nle_lt hc)
    exact sf_b_sampleAt_142_s00 hI hK
set_option maxRecDepth 20000 in
set_option maxHeartbeats 1000000 in
theorem sf_b_sampleAt_115_s0m179 {S : ms} {K : Int32 → ms → Prop} (hI : IM S) (hK : ∀ {v : Int32} {yS : ms}, B (-2147483648) 2147483647 v → IM yS → K v yS) : b_sampleAt_115 (-179) S K := by
  unfold b_sampleAt_115
  refine ⟨fun hc => ?_, fun hc => ?_⟩
  · exact (B_dead_le (show B 0 0 (0 : Int32) from ⟨by decide, by decide⟩) (show B (-179) (-179) (-179 : Int32) from ⟨by decide, by decide⟩) hc (by decide)).elim
  · have hq1 := (nle_lt hc)
    exact sf_b_sampleAt_142_s00 hI hK
set_option maxRecDepth 20000 in
set_option maxHeartbeats 1000000 in
theorem sf_b_sampleAt_142_s0135 {S : ms} {K : Int32 → ms → Prop} (hI : IM S) (hK : ∀ {v : Int32} {yS : ms}, B (-2147483648) 2147483647 v → IM yS → K v yS) : b_sampleAt_142 135 S K := by
  unfold b_sampleAt_142
  exact hK (B_w (show B 135 135 (135 : Int32) from ⟨by decide, by decide⟩) (by decide) (by decide)) hI
set_option maxRecDepth 20000 in
set_option maxHeartbeats 1000000 in
theorem sf_b_sampleAt_115_s0135 {S : ms} {K : Int32 → ms → Prop} (hI : IM S) (hK : ∀ {v : Int32} {yS : ms}, B (-2147483648) 2147483647 v → IM yS → K v yS) : b_sampleAt_115 135 S K := by
  unfold b_sampleAt_115
  refine ⟨fun hc => ?_, fun hc => ?_⟩
  · have hq1 := hc
    refine ⟨fun hc => ?_, fun hc => ?_⟩
    · have hq2 := hc
      exact sf_b_sampleAt_142_s0135 hI hK
    · exact (B_dead_lt (show B 255 255 (255 : Int32) from ⟨by decide, by decide⟩) (show B 135 135 (135 : Int32) from ⟨by decide, by decide⟩) (nle_lt hc) (by decide)).elim
  · exact (B_dead_lt (show B 135 135 (135 : Int32) from ⟨by decide, by decide⟩) (show B 0 0 (0 : Int32) from ⟨by decide, by decide⟩) (nle_lt hc) (by decide)).elim
set_option maxRecDepth 20000 in
set_option maxHeartbeats 1000000 in
theorem sf_b_sampleOf_166 {s0 : Int32} {S : ms} {K : Int32 → ms → Prop} (b_s0 : B (-32768) 255 s0) (hI : IM S) (hK : ∀ {v : Int32} {yS : ms}, B (-2147483648) 2147483647 v → IM yS → K v yS) : b_sampleOf_166 s0 S K := by
  unfold b_sampleOf_166
  exact hK (B_w b_s0 (by decide) (by decide)) hI
set_option maxRecDepth 20000 in
set_option maxHeartbeats 1000000 in
theorem sf_b_sampleOf_166_s0255 {S : ms} {K : Int32 → ms → Prop} (hI : IM S) (hK : ∀ {v : Int32} {yS : ms}, B (-2147483648) 2147483647 v → IM yS → K v yS) : b_sampleOf_166 255 S K := by
  unfold b_sampleOf_166
  exact hK (B_w (show B 255 255 (255 : Int32) from ⟨by decide, by decide⟩) (by decide) (by decide)) hI
set_option maxRecDepth 20000 in
set_option maxHeartbeats 1000000 in
theorem sf_b_sampleOf_148 {s0 : Int32} {S : ms} {K : Int32 → ms → Prop} (b_s0 : B (-32768) 32895 s0) (hI : IM S) (hK : ∀ {v : Int32} {yS : ms}, B (-2147483648) 2147483647 v → IM yS → K v yS) : b_sampleOf_148 s0 S K := by
  unfold b_sampleOf_148
  refine ⟨fun hc => ?_, fun hc => ?_⟩
  · have hq1 := hc
    have b2 := B_leL b_s0 (show B 255 255 (255 : Int32) from ⟨by decide, by decide⟩) hq1
    exact sf_b_sampleOf_166 b2 hI hK
  · have hq3 := (nle_lt hc)
    have b4 := B_ltR (show B 255 255 (255 : Int32) from ⟨by decide, by decide⟩) b_s0 hq3
    exact sf_b_sampleOf_166_s0255 hI hK
set_option maxRecDepth 20000 in
set_option maxHeartbeats 1000000 in
theorem sf_b_sample_86_s00 {S : ms} {K : Int32 → ms → Prop} (hI : IM S) (hK : ∀ {v : Int32} {yS : ms}, B (-2147483648) 2147483647 v → IM yS → K v yS) : b_sample_86 0 S K := by
  unfold b_sample_86
  exact hK (B_w (show B 0 0 (0 : Int32) from ⟨by decide, by decide⟩) (by decide) (by decide)) hI
set_option maxRecDepth 20000 in
set_option maxHeartbeats 1000000 in
theorem sf_b_sample_65_s12 {x1 : Int32} {x2 : Int32} {x3 : Int32} {S : ms} {K : Int32 → ms → Prop} (b_x1 : B (-2147483648) 2147483647 x1) (b_x2 : B (-2147483648) 2147483647 x2) (b_x3 : B (-2147483648) 2147483647 x3) (hI : IM S) (hK : ∀ {v : Int32} {yS : ms}, B (-2147483648) 2147483647 v → IM yS → K v yS) : b_sample_65 x1 x2 x3 2 S K := by
  unfold b_sample_65
  refine ⟨fun hc => ?_, fun hc => ?_⟩
  · exact (B_dead_le (show B 2 2 (2 : Int32) from ⟨by decide, by decide⟩) (show B 0 0 (0 : Int32) from ⟨by decide, by decide⟩) hc (by decide)).elim
  · have hq1 := (nle_lt hc)
    have hI2 := IM_f (k := 0) (v := 2) hI (show B 2 2 (2 : Int32) from ⟨by decide, by decide⟩) (by decide) (by decide)
    exact sf_b_sample_86_s00 hI2 hK
set_option maxRecDepth 20000 in
set_option maxHeartbeats 1000000 in
theorem sf_b_sample_60 {x1 : Int32} {x2 : Int32} {x3 : Int32} {S : ms} {K : Int32 → ms → Prop} (b_x1 : B (-2147483648) 2147483647 x1) (b_x2 : B (-2147483648) 2147483647 x2) (b_x3 : B (-2147483648) 2147483647 x3) (hI : IM S) (hK : ∀ {v : Int32} {yS : ms}, B (-2147483648) 2147483647 v → IM yS → K v yS) : b_sample_60 x1 x2 x3 S K := by
  unfold b_sample_60
  exact sf_b_sample_65_s12 b_x1 b_x2 b_x3 hI hK
set_option maxRecDepth 20000 in
set_option maxHeartbeats 1000000 in
theorem sf_b_sample_65_s11 {x1 : Int32} {x2 : Int32} {x3 : Int32} {S : ms} {K : Int32 → ms → Prop} (b_x1 : B (-2147483648) 2147483647 x1) (b_x2 : B (-2147483648) 2147483647 x2) (b_x3 : B (-2147483648) 2147483647 x3) (hI : IM S) (hK : ∀ {v : Int32} {yS : ms}, B (-2147483648) 2147483647 v → IM yS → K v yS) : b_sample_65 x1 x2 x3 1 S K := by
  unfold b_sample_65
  refine ⟨fun hc => ?_, fun hc => ?_⟩
  · exact (B_dead_le (show B 1 1 (1 : Int32) from ⟨by decide, by decide⟩) (show B 0 0 (0 : Int32) from ⟨by decide, by decide⟩) hc (by decide)).elim
  · have hq1 := (nle_lt hc)
    have hI2 := IM_f (k := 0) (v := 1) hI (show B 1 1 (1 : Int32) from ⟨by decide, by decide⟩) (by decide) (by decide)
    exact sf_b_sample_86_s00 hI2 hK
set_option maxRecDepth 20000 in
set_option maxHeartbeats 1000000 in
theorem sf_b_sample_86 {s0 : Int32} {S : ms} {K : Int32 → ms → Prop} (b_s0 : B (-2147483648) 2147483647 s0) (hI : IM S) (hK : ∀ {v : Int32} {yS : ms}, B (-2147483648) 2147483647 v → IM yS → K v yS) : b_sample_86 s0 S K := by
  unfold b_sample_86
  exact hK b_s0 hI
set_option maxRecDepth 20000 in
set_option maxHeartbeats 1000000 in
theorem sf_b_scale_124 {S : ms} {K : ms → Prop} (hI : IM S) (hK : ∀ {yS : ms}, IM yS → K yS) : b_scale_124 S K := by
  unfold b_scale_124
  exact hK hI
set_option maxRecDepth 20000 in
set_option maxHeartbeats 1000000 in
theorem sf_b_symbol_51 {S : ms} {K : ms → Prop} (hI : IM S) (hK : ∀ {yS : ms}, IM yS → K yS) : b_symbol_51 S K := by
  unfold b_symbol_51
  exact hK hI
set_option maxRecDepth 20000 in
set_option maxHeartbeats 1000000 in
theorem sf_b_take_15_s11 {S : ms} {K : ms → Prop} (hI : IM S) (hK : ∀ {yS : ms}, IM yS → K yS) : b_take_15 1 S K := by
  unfold b_take_15
  refine ⟨fun hc => ?_, fun hc => ?_⟩
  · exact (B_dead_le (show B 1 1 (1 : Int32) from ⟨by decide, by decide⟩) (show B 0 0 (0 : Int32) from ⟨by decide, by decide⟩) hc (by decide)).elim
  · have hq1 := (nle_lt hc)
    have hI2 := IM_f (k := 0) (v := 1) hI (show B 1 1 (1 : Int32) from ⟨by decide, by decide⟩) (by decide) (by decide)
    exact hK hI2
set_option maxRecDepth 20000 in
set_option maxHeartbeats 1000000 in
theorem sf_b_tell_167 {x1 : Int32} {x2 : Int32} {x3 : Int32} {x4 : Int32} {x7 : Int32} {x8 : Int32} {S : ms} {m_R74 : Int} {R74 : Int32 → Int32 → Int32 → Int32 → Int32 → Int32 → ms → Prop} {K : ms → Prop} (b_x1 : B 0 1 x1) (b_x2 : B 0 2 x2) (b_x3 : B (-2147483648) 2147483647 x3) (b_x4 : B 0 2 x4) (b_x7 : B (-2147483648) 2147483647 x7) (b_x8 : B 1 63 x8) (hm_R74 : m_R74 ≤ x8.toInt) (hI : IM S) (hR74 : ∀ {y_x1 : Int32} {y_x2 : Int32} {y_x3 : Int32} {y_x4 : Int32} {y_x7 : Int32} {y_x8 : Int32} {y_S : ms}, B 0 1 y_x1 → B 0 2 y_x2 → B (-2147483648) 2147483647 y_x3 → B 0 2 y_x4 → B (-2147483648) 2147483647 y_x7 → B 1 64 y_x8 → m_R74 < y_x8.toInt → IM y_S → R74 y_x1 y_x2 y_x3 y_x4 y_x7 y_x8 y_S) (hK : ∀ {yS : ms}, IM yS → K yS) : b_tell_167 x1 x2 x3 x4 x7 x8 S R74 K := by
  unfold b_tell_167
  exact hR74 b_x1 b_x2 b_x3 b_x4 b_x7 (B_w (B_add b_x8 (show B 1 1 (1 : Int32) from ⟨by decide, by decide⟩) (by decide) (by decide)) (by decide) (by decide)) (inc_lt b_x8 hm_R74 (by decide) (by decide)) hI
set_option maxRecDepth 20000 in
set_option maxHeartbeats 1000000 in
theorem sf_b_tell_188 {S : ms} {K : ms → Prop} (hI : IM S) (hK : ∀ {yS : ms}, IM yS → K yS) : b_tell_188 S K := by
  unfold b_tell_188
  exact hK hI
set_option maxRecDepth 20000 in
set_option maxHeartbeats 1000000 in
theorem sf_b_toSamples_23 {x1 : Int32} {x2 : Int32} {x3 : Int64} {x5 : Int32} {S : ms} {m_R2 : Int} {m_R10 : Int} {m_R23 : Int} {R2 : Int32 → ms → Prop} {R10 : Int32 → Int32 → ms → Prop} {R23 : Int32 → Int32 → Int64 → Int32 → ms → Prop} {K : ms → Prop} (b_x1 : B 0 7 x1) (b_x2 : B 0 7 x2) (b_x5 : B 0 8 x5) (hm_R2 : m_R2 ≤ x1.toInt) (hm_R10 : m_R10 ≤ x2.toInt) (hm_R23 : m_R23 ≤ x5.toInt) (hI : IM S) (hR2 : ∀ {y_x1 : Int32} {y_S : ms}, B 0 8 y_x1 → m_R2 < y_x1.toInt → IM y_S → R2 y_x1 y_S) (hR10 : ∀ {y_x1 : Int32} {y_x2 : Int32} {y_S : ms}, B 0 7 y_x1 → B 0 8 y_x2 → m_R10 < y_x2.toInt → m_R2 ≤ y_x1.toInt → IM y_S → R10 y_x1 y_x2 y_S) (hR23 : ∀ {y_x1 : Int32} {y_x2 : Int32} {y_x3 : Int64} {y_x5 : Int32} {y_S : ms}, B 0 7 y_x1 → B 0 7 y_x2 → B 0 8 y_x5 → m_R23 < y_x5.toInt → m_R2 ≤ y_x1.toInt → m_R10 ≤ y_x2.toInt → IM y_S → R23 y_x1 y_x2 y_x3 y_x5 y_S) (hK : ∀ {yS : ms}, IM yS → K yS) : b_toSamples_23 x1 x2 x3 x5 S R2 R10 R23 K := by
  unfold b_toSamples_23
  refine ⟨fun hc => ?_, fun hc => ?_⟩
  · have hq1 := hc
    have b2 := B_leR (show B 8 8 (8 : Int32) from ⟨by decide, by decide⟩) b_x5 hq1
    refine ⟨vp_B (B_add (B_mul (show B 8 8 (8 : Int32) from ⟨by decide, by decide⟩) b_x1 (by decide) (by decide) (by decide)) b_x2 (by decide) (by decide)) (by decide) (by decide), ?_⟩
    have hI3 := IM_l (h := va_up S.2.2 24 (vp_updL (S.2.2 24) ((8 * x1) + x2).toNatClampNeg (x3 >>> ((9 : Int32).toInt64 &&& 63 : Int64) : Int64))) hI
    exact hR10 b_x1 (B_w (B_add b_x2 (show B 1 1 (1 : Int32) from ⟨by decide, by decide⟩) (by decide) (by decide)) (by decide) (by decide)) (inc_lt b_x2 hm_R10 (by decide) (by decide)) hm_R2 hI3
  · have hq4 := (nle_lt hc)
    have b5 := B_ltL b_x5 (show B 8 8 (8 : Int32) from ⟨by decide, by decide⟩) hq4
    refine ⟨vp_B (B_add (B_mul (show B 8 8 (8 : Int32) from ⟨by decide, by decide⟩) b_x2 (by decide) (by decide) (by decide)) b5 (by decide) (by decide)) (by decide) (by decide), ?_⟩
    refine ⟨vp_B (B_add (B_mul (show B 8 8 (8 : Int32) from ⟨by decide, by decide⟩) b_x1 (by decide) (by decide) (by decide)) b5 (by decide) (by decide)) (by decide) (by decide), ?_⟩
    exact hR23 b_x1 b_x2 (B_w (B_add b5 (show B 1 1 (1 : Int32) from ⟨by decide, by decide⟩) (by decide) (by decide)) (by decide) (by decide)) (inc_lt b5 hm_R23 (by decide) (by decide)) hm_R2 hm_R10 hI
theorem sf_e_toSamples_23 {x1 : Int32} {x2 : Int32} {x3 : Int64} {x5 : Int32} {S : ms} {m_R2 : Int} {m_R10 : Int} {R2 : Int32 → ms → Prop} {R10 : Int32 → Int32 → ms → Prop} {K : ms → Prop} (b_x1 : B 0 7 x1) (b_x2 : B 0 7 x2) (b_x5 : B 0 8 x5) (hm_R2 : m_R2 ≤ x1.toInt) (hm_R10 : m_R10 ≤ x2.toInt) (hI : IM S) (hR2 : ∀ {y_x1 : Int32} {y_S : ms}, B 0 8 y_x1 → m_R2 < y_x1.toInt → IM y_S → R2 y_x1 y_S) (hR10 : ∀ {y_x1 : Int32} {y_x2 : Int32} {y_S : ms}, B 0 7 y_x1 → B 0 8 y_x2 → m_R10 < y_x2.toInt → m_R2 ≤ y_x1.toInt → IM y_S → R10 y_x1 y_x2 y_S) (hK : ∀ {yS : ms}, IM yS → K yS) : e_toSamples_23 x1 x2 x3 x5 S R2 R10 K := by
  refine ⟨fun y_x1 y_x2 y_x3 y_x5 y_S => B 0 7 y_x1 ∧ B 0 7 y_x2 ∧ B 0 8 y_x5 ∧ m_R2 ≤ y_x1.toInt ∧ m_R10 ≤ y_x2.toInt ∧ IM y_S, fun y_x1 y_x2 y_x3 y_x5 y_S => (8 - y_x5.toInt).toNat, ⟨b_x1, b_x2, b_x5, hm_R2, hm_R10, hI⟩, fun y_x1 y_x2 y_x3 y_x5 y_S hIv => ?_⟩
  obtain ⟨c_x1, c_x2, c_x5, cm_R2, cm_R10, cI⟩ := hIv
  exact sf_b_toSamples_23 c_x1 c_x2 c_x5 cm_R2 cm_R10 (Int.le_refl _) cI hR2 hR10 (fun d_x1 d_x2 d_x5 dlt dm_R2 dm_R10 dI => ⟨⟨d_x1, d_x2, d_x5, dm_R2, dm_R10, dI⟩, (by have h1 := dlt; have h2 := d_x5.2; have h3 := c_x5.2; dsimp only; omega)⟩) hK
set_option maxRecDepth 20000 in
set_option maxHeartbeats 1000000 in
theorem sf_b_toSamples_10 {x1 : Int32} {x2 : Int32} {S : ms} {m_R2 : Int} {m_R10 : Int} {R2 : Int32 → ms → Prop} {R10 : Int32 → Int32 → ms → Prop} {K : ms → Prop} (b_x1 : B 0 7 x1) (b_x2 : B 0 8 x2) (hm_R2 : m_R2 ≤ x1.toInt) (hm_R10 : m_R10 ≤ x2.toInt) (hI : IM S) (hR2 : ∀ {y_x1 : Int32} {y_S : ms}, B 0 8 y_x1 → m_R2 < y_x1.toInt → IM y_S → R2 y_x1 y_S) (hR10 : ∀ {y_x1 : Int32} {y_x2 : Int32} {y_S : ms}, B 0 7 y_x1 → B 0 8 y_x2 → m_R10 < y_x2.toInt → m_R2 ≤ y_x1.toInt → IM y_S → R10 y_x1 y_x2 y_S) (hK : ∀ {yS : ms}, IM yS → K yS) : b_toSamples_10 x1 x2 S R2 R10 K := by
  unfold b_toSamples_10
  refine ⟨fun hc => ?_, fun hc => ?_⟩
  · have hq1 := hc
    have b2 := B_leR (show B 8 8 (8 : Int32) from ⟨by decide, by decide⟩) b_x2 hq1
    exact hR2 (B_w (B_add b_x1 (show B 1 1 (1 : Int32) from ⟨by decide, by decide⟩) (by decide) (by decide)) (by decide) (by decide)) (inc_lt b_x1 hm_R2 (by decide) (by decide)) hI
  · have hq3 := (nle_lt hc)
    have b4 := B_ltL b_x2 (show B 8 8 (8 : Int32) from ⟨by decide, by decide⟩) hq3
    exact sf_e_toSamples_23 b_x1 b4 (B_w (show B 0 0 (0 : Int32) from ⟨by decide, by decide⟩) (by decide) (by decide)) hm_R2 hm_R10 hI hR2 hR10 hK
set_option maxRecDepth 20000 in
set_option maxHeartbeats 1000000 in
theorem sf_b_toSamples_203 {x1 : Int32} {x2 : Int32} {s1 : Int32} {s2 : Int32} {S : ms} {m_R95 : Int} {m_R103 : Int} {R95 : Int32 → ms → Prop} {R103 : Int32 → Int32 → ms → Prop} {K : ms → Prop} (b_x1 : B 0 7 x1) (b_x2 : B 0 7 x2) (b_s1 : B 0 63 s1) (b_s2 : B (-2147483648) 2147483647 s2) (hm_R95 : m_R95 ≤ x1.toInt) (hm_R103 : m_R103 ≤ x2.toInt) (hI : IM S) (hR95 : ∀ {y_x1 : Int32} {y_S : ms}, B 0 8 y_x1 → m_R95 < y_x1.toInt → IM y_S → R95 y_x1 y_S) (hR103 : ∀ {y_x1 : Int32} {y_x2 : Int32} {y_S : ms}, B 0 7 y_x1 → B 0 8 y_x2 → m_R103 < y_x2.toInt → m_R95 ≤ y_x1.toInt → IM y_S → R103 y_x1 y_x2 y_S) (hK : ∀ {yS : ms}, IM yS → K yS) : b_toSamples_203 x1 x2 s1 s2 S R95 R103 K := by
  unfold b_toSamples_203
  refine ⟨vp_B b_s1 (by decide) (by decide), ?_⟩
  have hI1 := IM_r (r := 25) (i := s1.toNatClampNeg) (v := s2) hI b_s2 (by decide) (by decide)
  exact hR103 b_x1 (B_w (B_add b_x2 (show B 1 1 (1 : Int32) from ⟨by decide, by decide⟩) (by decide) (by decide)) (by decide) (by decide)) (inc_lt b_x2 hm_R103 (by decide) (by decide)) hm_R95 hI1
set_option maxRecDepth 20000 in
set_option maxHeartbeats 1000000 in
theorem sf_b_toSamples_203_s10 {x1 : Int32} {x2 : Int32} {s2 : Int32} {S : ms} {m_R95 : Int} {m_R103 : Int} {R95 : Int32 → ms → Prop} {R103 : Int32 → Int32 → ms → Prop} {K : ms → Prop} (b_x1 : B 0 0 x1) (b_x2 : B 0 0 x2) (b_s2 : B (-2147483648) 2147483647 s2) (hm_R95 : m_R95 ≤ x1.toInt) (hm_R103 : m_R103 ≤ x2.toInt) (hI : IM S) (hR95 : ∀ {y_x1 : Int32} {y_S : ms}, B 0 8 y_x1 → m_R95 < y_x1.toInt → IM y_S → R95 y_x1 y_S) (hR103 : ∀ {y_x1 : Int32} {y_x2 : Int32} {y_S : ms}, B 0 7 y_x1 → B 0 8 y_x2 → m_R103 < y_x2.toInt → m_R95 ≤ y_x1.toInt → IM y_S → R103 y_x1 y_x2 y_S) (hK : ∀ {yS : ms}, IM yS → K yS) : b_toSamples_203 x1 x2 0 s2 S R95 R103 K := by
  unfold b_toSamples_203
  refine ⟨vp_B (show B 0 0 (0 : Int32) from ⟨by decide, by decide⟩) (by decide) (by decide), ?_⟩
  have hI1 := IM_r (r := 25) (i := (0 : Int32).toNatClampNeg) (v := s2) hI b_s2 (by decide) (by decide)
  exact hR103 (B_w b_x1 (by decide) (by decide)) (B_w (B_add b_x2 (show B 1 1 (1 : Int32) from ⟨by decide, by decide⟩) (by decide) (by decide)) (by decide) (by decide)) (inc_lt b_x2 hm_R103 (by decide) (by decide)) hm_R95 hI1
set_option maxRecDepth 20000 in
set_option maxHeartbeats 1000000 in
theorem sf_b_toWeights_23 {x1 : Int32} {x2 : Int32} {x3 : Int64} {x5 : Int32} {S : ms} {m_R2 : Int} {m_R10 : Int} {m_R23 : Int} {R2 : Int32 → ms → Prop} {R10 : Int32 → Int32 → ms → Prop} {R23 : Int32 → Int32 → Int64 → Int32 → ms → Prop} {K : ms → Prop} (b_x1 : B 0 7 x1) (b_x2 : B 0 7 x2) (b_x5 : B 0 8 x5) (hm_R2 : m_R2 ≤ x1.toInt) (hm_R10 : m_R10 ≤ x2.toInt) (hm_R23 : m_R23 ≤ x5.toInt) (hI : IM S) (hR2 : ∀ {y_x1 : Int32} {y_S : ms}, B 0 8 y_x1 → m_R2 < y_x1.toInt → IM y_S → R2 y_x1 y_S) (hR10 : ∀ {y_x1 : Int32} {y_x2 : Int32} {y_S : ms}, B 0 7 y_x1 → B 0 8 y_x2 → m_R10 < y_x2.toInt → m_R2 ≤ y_x1.toInt → IM y_S → R10 y_x1 y_x2 y_S) (hR23 : ∀ {y_x1 : Int32} {y_x2 : Int32} {y_x3 : Int64} {y_x5 : Int32} {y_S : ms}, B 0 7 y_x1 → B 0 7 y_x2 → B 0 8 y_x5 → m_R23 < y_x5.toInt → m_R2 ≤ y_x1.toInt → m_R10 ≤ y_x2.toInt → IM y_S → R23 y_x1 y_x2 y_x3 y_x5 y_S) (hK : ∀ {yS : ms}, IM yS → K yS) : b_toWeights_23 x1 x2 x3 x5 S R2 R10 R23 K := by
  unfold b_toWeights_23
  refine ⟨fun hc => ?_, fun hc => ?_⟩
  · have hq1 := hc
    have b2 := B_leR (show B 8 8 (8 : Int32) from ⟨by decide, by decide⟩) b_x5 hq1
    refine ⟨vp_B (B_add (B_mul (show B 8 8 (8 : Int32) from ⟨by decide, by decide⟩) b_x1 (by decide) (by decide) (by decide)) b_x2 (by decide) (by decide)) (by decide) (by decide), ?_⟩
    have hI3 := IM_l (h := va_up S.2.2 24 (vp_updL (S.2.2 24) ((8 * x1) + x2).toNatClampNeg (x3 >>> ((9 : Int32).toInt64 &&& 63 : Int64) : Int64))) hI
    exact hR10 b_x1 (B_w (B_add b_x2 (show B 1 1 (1 : Int32) from ⟨by decide, by decide⟩) (by decide) (by decide)) (by decide) (by decide)) (inc_lt b_x2 hm_R10 (by decide) (by decide)) hm_R2 hI3
  · have hq4 := (nle_lt hc)
    have b5 := B_ltL b_x5 (show B 8 8 (8 : Int32) from ⟨by decide, by decide⟩) hq4
    refine ⟨vp_B (B_add (B_mul (show B 8 8 (8 : Int32) from ⟨by decide, by decide⟩) b5 (by decide) (by decide) (by decide)) b_x2 (by decide) (by decide)) (by decide) (by decide), ?_⟩
    refine ⟨vp_B (B_add (B_mul (show B 8 8 (8 : Int32) from ⟨by decide, by decide⟩) b_x1 (by decide) (by decide) (by decide)) b5 (by decide) (by decide)) (by decide) (by decide), ?_⟩
    exact hR23 b_x1 b_x2 (B_w (B_add b5 (show B 1 1 (1 : Int32) from ⟨by decide, by decide⟩) (by decide) (by decide)) (by decide) (by decide)) (inc_lt b5 hm_R23 (by decide) (by decide)) hm_R2 hm_R10 hI
theorem sf_e_toWeights_23 {x1 : Int32} {x2 : Int32} {x3 : Int64} {x5 : Int32} {S : ms} {m_R2 : Int} {m_R10 : Int} {R2 : Int32 → ms → Prop} {R10 : Int32 → Int32 → ms → Prop} {K : ms → Prop} (b_x1 : B 0 7 x1) (b_x2 : B 0 7 x2) (b_x5 : B 0 8 x5) (hm_R2 : m_R2 ≤ x1.toInt) (hm_R10 : m_R10 ≤ x2.toInt) (hI : IM S) (hR2 : ∀ {y_x1 : Int32} {y_S : ms}, B 0 8 y_x1 → m_R2 < y_x1.toInt → IM y_S → R2 y_x1 y_S) (hR10 : ∀ {y_x1 : Int32} {y_x2 : Int32} {y_S : ms}, B 0 7 y_x1 → B 0 8 y_x2 → m_R10 < y_x2.toInt → m_R2 ≤ y_x1.toInt → IM y_S → R10 y_x1 y_x2 y_S) (hK : ∀ {yS : ms}, IM yS → K yS) : e_toWeights_23 x1 x2 x3 x5 S R2 R10 K := by
  refine ⟨fun y_x1 y_x2 y_x3 y_x5 y_S => B 0 7 y_x1 ∧ B 0 7 y_x2 ∧ B 0 8 y_x5 ∧ m_R2 ≤ y_x1.toInt ∧ m_R10 ≤ y_x2.toInt ∧ IM y_S, fun y_x1 y_x2 y_x3 y_x5 y_S => (8 - y_x5.toInt).toNat, ⟨b_x1, b_x2, b_x5, hm_R2, hm_R10, hI⟩, fun y_x1 y_x2 y_x3 y_x5 y_S hIv => ?_⟩
  obtain ⟨c_x1, c_x2, c_x5, cm_R2, cm_R10, cI⟩ := hIv
  exact sf_b_toWeights_23 c_x1 c_x2 c_x5 cm_R2 cm_R10 (Int.le_refl _) cI hR2 hR10 (fun d_x1 d_x2 d_x5 dlt dm_R2 dm_R10 dI => ⟨⟨d_x1, d_x2, d_x5, dm_R2, dm_R10, dI⟩, (by have h1 := dlt; have h2 := d_x5.2; have h3 := c_x5.2; dsimp only; omega)⟩) hK
set_option maxRecDepth 20000 in
set_option maxHeartbeats 1000000 in
theorem sf_b_toWeights_10 {x1 : Int32} {x2 : Int32} {S : ms} {m_R2 : Int} {m_R10 : Int} {R2 : Int32 → ms → Prop} {R10 : Int32 → Int32 → ms → Prop} {K : ms → Prop} (b_x1 : B 0 7 x1) (b_x2 : B 0 8 x2) (hm_R2 : m_R2 ≤ x1.toInt) (hm_R10 : m_R10 ≤ x2.toInt) (hI : IM S) (hR2 : ∀ {y_x1 : Int32} {y_S : ms}, B 0 8 y_x1 → m_R2 < y_x1.toInt → IM y_S → R2 y_x1 y_S) (hR10 : ∀ {y_x1 : Int32} {y_x2 : Int32} {y_S : ms}, B 0 7 y_x1 → B 0 8 y_x2 → m_R10 < y_x2.toInt → m_R2 ≤ y_x1.toInt → IM y_S → R10 y_x1 y_x2 y_S) (hK : ∀ {yS : ms}, IM yS → K yS) : b_toWeights_10 x1 x2 S R2 R10 K := by
  unfold b_toWeights_10
  refine ⟨fun hc => ?_, fun hc => ?_⟩
  · have hq1 := hc
    have b2 := B_leR (show B 8 8 (8 : Int32) from ⟨by decide, by decide⟩) b_x2 hq1
    exact hR2 (B_w (B_add b_x1 (show B 1 1 (1 : Int32) from ⟨by decide, by decide⟩) (by decide) (by decide)) (by decide) (by decide)) (inc_lt b_x1 hm_R2 (by decide) (by decide)) hI
  · have hq3 := (nle_lt hc)
    have b4 := B_ltL b_x2 (show B 8 8 (8 : Int32) from ⟨by decide, by decide⟩) hq3
    exact sf_e_toWeights_23 b_x1 b4 (B_w (show B 0 0 (0 : Int32) from ⟨by decide, by decide⟩) (by decide) (by decide)) hm_R2 hm_R10 hI hR2 hR10 hK
set_option maxRecDepth 20000 in
set_option maxHeartbeats 1000000 in
theorem sf_b_toWeights_120 {x1 : Int32} {x2 : Int32} {x3 : Int64} {x5 : Int32} {S : ms} {m_R99 : Int} {m_R107 : Int} {m_R120 : Int} {R99 : Int32 → ms → Prop} {R107 : Int32 → Int32 → ms → Prop} {R120 : Int32 → Int32 → Int64 → Int32 → ms → Prop} {K : ms → Prop} (b_x1 : B 0 7 x1) (b_x2 : B 0 7 x2) (b_x5 : B 0 8 x5) (hm_R99 : m_R99 ≤ x1.toInt) (hm_R107 : m_R107 ≤ x2.toInt) (hm_R120 : m_R120 ≤ x5.toInt) (hI : IM S) (hR99 : ∀ {y_x1 : Int32} {y_S : ms}, B 0 8 y_x1 → m_R99 < y_x1.toInt → IM y_S → R99 y_x1 y_S) (hR107 : ∀ {y_x1 : Int32} {y_x2 : Int32} {y_S : ms}, B 0 7 y_x1 → B 0 8 y_x2 → m_R107 < y_x2.toInt → m_R99 ≤ y_x1.toInt → IM y_S → R107 y_x1 y_x2 y_S) (hR120 : ∀ {y_x1 : Int32} {y_x2 : Int32} {y_x3 : Int64} {y_x5 : Int32} {y_S : ms}, B 0 7 y_x1 → B 0 7 y_x2 → B 0 8 y_x5 → m_R120 < y_x5.toInt → m_R99 ≤ y_x1.toInt → m_R107 ≤ y_x2.toInt → IM y_S → R120 y_x1 y_x2 y_x3 y_x5 y_S) (hK : ∀ {yS : ms}, IM yS → K yS) : b_toWeights_120 x1 x2 x3 x5 S R99 R107 R120 K := by
  unfold b_toWeights_120
  refine ⟨fun hc => ?_, fun hc => ?_⟩
  · have hq1 := hc
    have b2 := B_leR (show B 8 8 (8 : Int32) from ⟨by decide, by decide⟩) b_x5 hq1
    refine ⟨vp_B (B_add (B_mul (show B 8 8 (8 : Int32) from ⟨by decide, by decide⟩) b_x2 (by decide) (by decide) (by decide)) b_x1 (by decide) (by decide)) (by decide) (by decide), ?_⟩
    have hI3 := IM_r (r := 25) (i := ((8 * x2) + x1).toNatClampNeg) (v := (x3 >>> ((17 : Int32).toInt64 &&& 63 : Int64) : Int64).toInt32) hI (B_any _) (by decide) (by decide)
    exact hR107 b_x1 (B_w (B_add b_x2 (show B 1 1 (1 : Int32) from ⟨by decide, by decide⟩) (by decide) (by decide)) (by decide) (by decide)) (inc_lt b_x2 hm_R107 (by decide) (by decide)) hm_R99 hI3
  · have hq4 := (nle_lt hc)
    have b5 := B_ltL b_x5 (show B 8 8 (8 : Int32) from ⟨by decide, by decide⟩) hq4
    refine ⟨vp_B (B_add (B_mul (show B 8 8 (8 : Int32) from ⟨by decide, by decide⟩) b5 (by decide) (by decide) (by decide)) b_x2 (by decide) (by decide)) (by decide) (by decide), ?_⟩
    refine ⟨vp_B (B_add (B_mul (show B 8 8 (8 : Int32) from ⟨by decide, by decide⟩) b5 (by decide) (by decide) (by decide)) b_x1 (by decide) (by decide)) (by decide) (by decide), ?_⟩
    exact hR120 b_x1 b_x2 (B_w (B_add b5 (show B 1 1 (1 : Int32) from ⟨by decide, by decide⟩) (by decide) (by decide)) (by decide) (by decide)) (inc_lt b5 hm_R120 (by decide) (by decide)) hm_R99 hm_R107 hI
theorem sf_e_toWeights_120 {x1 : Int32} {x2 : Int32} {x3 : Int64} {x5 : Int32} {S : ms} {m_R99 : Int} {m_R107 : Int} {R99 : Int32 → ms → Prop} {R107 : Int32 → Int32 → ms → Prop} {K : ms → Prop} (b_x1 : B 0 7 x1) (b_x2 : B 0 7 x2) (b_x5 : B 0 8 x5) (hm_R99 : m_R99 ≤ x1.toInt) (hm_R107 : m_R107 ≤ x2.toInt) (hI : IM S) (hR99 : ∀ {y_x1 : Int32} {y_S : ms}, B 0 8 y_x1 → m_R99 < y_x1.toInt → IM y_S → R99 y_x1 y_S) (hR107 : ∀ {y_x1 : Int32} {y_x2 : Int32} {y_S : ms}, B 0 7 y_x1 → B 0 8 y_x2 → m_R107 < y_x2.toInt → m_R99 ≤ y_x1.toInt → IM y_S → R107 y_x1 y_x2 y_S) (hK : ∀ {yS : ms}, IM yS → K yS) : e_toWeights_120 x1 x2 x3 x5 S R99 R107 K := by
  refine ⟨fun y_x1 y_x2 y_x3 y_x5 y_S => B 0 7 y_x1 ∧ B 0 7 y_x2 ∧ B 0 8 y_x5 ∧ m_R99 ≤ y_x1.toInt ∧ m_R107 ≤ y_x2.toInt ∧ IM y_S, fun y_x1 y_x2 y_x3 y_x5 y_S => (8 - y_x5.toInt).toNat, ⟨b_x1, b_x2, b_x5, hm_R99, hm_R107, hI⟩, fun y_x1 y_x2 y_x3 y_x5 y_S hIv => ?_⟩
  obtain ⟨c_x1, c_x2, c_x5, cm_R99, cm_R107, cI⟩ := hIv
  exact sf_b_toWeights_120 c_x1 c_x2 c_x5 cm_R99 cm_R107 (Int.le_refl _) cI hR99 hR107 (fun d_x1 d_x2 d_x5 dlt dm_R99 dm_R107 dI => ⟨⟨d_x1, d_x2, d_x5, dm_R99, dm_R107, dI⟩, (by have h1 := dlt; have h2 := d_x5.2; have h3 := c_x5.2; dsimp only; omega)⟩) hK
set_option maxRecDepth 20000 in
set_option maxHeartbeats 1000000 in
theorem sf_b_toWeights_107 {x1 : Int32} {x2 : Int32} {S : ms} {m_R99 : Int} {m_R107 : Int} {R99 : Int32 → ms → Prop} {R107 : Int32 → Int32 → ms → Prop} {K : ms → Prop} (b_x1 : B 0 7 x1) (b_x2 : B 0 8 x2) (hm_R99 : m_R99 ≤ x1.toInt) (hm_R107 : m_R107 ≤ x2.toInt) (hI : IM S) (hR99 : ∀ {y_x1 : Int32} {y_S : ms}, B 0 8 y_x1 → m_R99 < y_x1.toInt → IM y_S → R99 y_x1 y_S) (hR107 : ∀ {y_x1 : Int32} {y_x2 : Int32} {y_S : ms}, B 0 7 y_x1 → B 0 8 y_x2 → m_R107 < y_x2.toInt → m_R99 ≤ y_x1.toInt → IM y_S → R107 y_x1 y_x2 y_S) (hK : ∀ {yS : ms}, IM yS → K yS) : b_toWeights_107 x1 x2 S R99 R107 K := by
  unfold b_toWeights_107
  refine ⟨fun hc => ?_, fun hc => ?_⟩
  · have hq1 := hc
    have b2 := B_leR (show B 8 8 (8 : Int32) from ⟨by decide, by decide⟩) b_x2 hq1
    exact hR99 (B_w (B_add b_x1 (show B 1 1 (1 : Int32) from ⟨by decide, by decide⟩) (by decide) (by decide)) (by decide) (by decide)) (inc_lt b_x1 hm_R99 (by decide) (by decide)) hI
  · have hq3 := (nle_lt hc)
    have b4 := B_ltL b_x2 (show B 8 8 (8 : Int32) from ⟨by decide, by decide⟩) hq3
    exact sf_e_toWeights_120 b_x1 b4 (B_w (show B 0 0 (0 : Int32) from ⟨by decide, by decide⟩) (by decide) (by decide)) hm_R99 hm_R107 hI hR99 hR107 hK
theorem sf_e_toWeights_107 {x1 : Int32} {x2 : Int32} {S : ms} {m_R99 : Int} {R99 : Int32 → ms → Prop} {K : ms → Prop} (b_x1 : B 0 7 x1) (b_x2 : B 0 8 x2) (hm_R99 : m_R99 ≤ x1.toInt) (hI : IM S) (hR99 : ∀ {y_x1 : Int32} {y_S : ms}, B 0 8 y_x1 → m_R99 < y_x1.toInt → IM y_S → R99 y_x1 y_S) (hK : ∀ {yS : ms}, IM yS → K yS) : e_toWeights_107 x1 x2 S R99 K := by
  refine ⟨fun y_x1 y_x2 y_S => B 0 7 y_x1 ∧ B 0 8 y_x2 ∧ m_R99 ≤ y_x1.toInt ∧ IM y_S, fun y_x1 y_x2 y_S => (8 - y_x2.toInt).toNat, ⟨b_x1, b_x2, hm_R99, hI⟩, fun y_x1 y_x2 y_S hIv => ?_⟩
  obtain ⟨c_x1, c_x2, cm_R99, cI⟩ := hIv
  exact sf_b_toWeights_107 c_x1 c_x2 cm_R99 (Int.le_refl _) cI hR99 (fun d_x1 d_x2 dlt dm_R99 dI => ⟨⟨d_x1, d_x2, dm_R99, dI⟩, (by have h1 := dlt; have h2 := d_x2.2; have h3 := c_x2.2; dsimp only; omega)⟩) hK
set_option maxRecDepth 20000 in
set_option maxHeartbeats 1000000 in
theorem sf_b_toWeights_99 {x1 : Int32} {S : ms} {m_R99 : Int} {R99 : Int32 → ms → Prop} {K : ms → Prop} (b_x1 : B 0 8 x1) (hm_R99 : m_R99 ≤ x1.toInt) (hI : IM S) (hR99 : ∀ {y_x1 : Int32} {y_S : ms}, B 0 8 y_x1 → m_R99 < y_x1.toInt → IM y_S → R99 y_x1 y_S) (hK : ∀ {yS : ms}, IM yS → K yS) : b_toWeights_99 x1 S R99 K := by
  unfold b_toWeights_99
  refine ⟨fun hc => ?_, fun hc => ?_⟩
  · have hq1 := hc
    have b2 := B_leR (show B 8 8 (8 : Int32) from ⟨by decide, by decide⟩) b_x1 hq1
    exact hK hI
  · have hq3 := (nle_lt hc)
    have b4 := B_ltL b_x1 (show B 8 8 (8 : Int32) from ⟨by decide, by decide⟩) hq3
    exact sf_e_toWeights_107 b4 (B_w (show B 0 0 (0 : Int32) from ⟨by decide, by decide⟩) (by decide) (by decide)) hm_R99 hI hR99 hK
theorem sf_e_toWeights_99 {x1 : Int32} {S : ms} {K : ms → Prop} (b_x1 : B 0 8 x1) (hI : IM S) (hK : ∀ {yS : ms}, IM yS → K yS) : e_toWeights_99 x1 S K := by
  refine ⟨fun y_x1 y_S => B 0 8 y_x1 ∧ IM y_S, fun y_x1 y_S => (8 - y_x1.toInt).toNat, ⟨b_x1, hI⟩, fun y_x1 y_S hIv => ?_⟩
  obtain ⟨c_x1, cI⟩ := hIv
  exact sf_b_toWeights_99 c_x1 (Int.le_refl _) cI (fun d_x1 dlt dI => ⟨⟨d_x1, dI⟩, (by have h1 := dlt; have h2 := d_x1.2; have h3 := c_x1.2; dsimp only; omega)⟩) hK
theorem sf_e_toWeights_10 {x1 : Int32} {x2 : Int32} {S : ms} {m_R2 : Int} {R2 : Int32 → ms → Prop} {K : ms → Prop} (b_x1 : B 0 7 x1) (b_x2 : B 0 8 x2) (hm_R2 : m_R2 ≤ x1.toInt) (hI : IM S) (hR2 : ∀ {y_x1 : Int32} {y_S : ms}, B 0 8 y_x1 → m_R2 < y_x1.toInt → IM y_S → R2 y_x1 y_S) (hK : ∀ {yS : ms}, IM yS → K yS) : e_toWeights_10 x1 x2 S R2 K := by
  refine ⟨fun y_x1 y_x2 y_S => B 0 7 y_x1 ∧ B 0 8 y_x2 ∧ m_R2 ≤ y_x1.toInt ∧ IM y_S, fun y_x1 y_x2 y_S => (8 - y_x2.toInt).toNat, ⟨b_x1, b_x2, hm_R2, hI⟩, fun y_x1 y_x2 y_S hIv => ?_⟩
  obtain ⟨c_x1, c_x2, cm_R2, cI⟩ := hIv
  exact sf_b_toWeights_10 c_x1 c_x2 cm_R2 (Int.le_refl _) cI hR2 (fun d_x1 d_x2 dlt dm_R2 dI => ⟨⟨d_x1, d_x2, dm_R2, dI⟩, (by have h1 := dlt; have h2 := d_x2.2; have h3 := c_x2.2; dsimp only; omega)⟩) hK
set_option maxRecDepth 20000 in
set_option maxHeartbeats 1000000 in
theorem sf_b_toWeights_2 {x1 : Int32} {S : ms} {m_R2 : Int} {R2 : Int32 → ms → Prop} {K : ms → Prop} (b_x1 : B 0 8 x1) (hm_R2 : m_R2 ≤ x1.toInt) (hI : IM S) (hR2 : ∀ {y_x1 : Int32} {y_S : ms}, B 0 8 y_x1 → m_R2 < y_x1.toInt → IM y_S → R2 y_x1 y_S) (hK : ∀ {yS : ms}, IM yS → K yS) : b_toWeights_2 x1 S R2 K := by
  unfold b_toWeights_2
  refine ⟨fun hc => ?_, fun hc => ?_⟩
  · have hq1 := hc
    have b2 := B_leR (show B 8 8 (8 : Int32) from ⟨by decide, by decide⟩) b_x1 hq1
    exact sf_e_toWeights_99 (B_w (show B 0 0 (0 : Int32) from ⟨by decide, by decide⟩) (by decide) (by decide)) hI hK
  · have hq3 := (nle_lt hc)
    have b4 := B_ltL b_x1 (show B 8 8 (8 : Int32) from ⟨by decide, by decide⟩) hq3
    exact sf_e_toWeights_10 b4 (B_w (show B 0 0 (0 : Int32) from ⟨by decide, by decide⟩) (by decide) (by decide)) hm_R2 hI hR2 hK
set_option maxRecDepth 20000 in
set_option maxHeartbeats 1000000 in
theorem sf_b_turn2_15_s11 {S : ms} {K : Int32 → ms → Prop} (hI : IM S) (hK : ∀ {v : Int32} {yS : ms}, B 0 32768 v → IM yS → K v yS) : b_turn2_15 1 S K := by
  unfold b_turn2_15
  refine ⟨fun hc => ?_, fun hc => ?_⟩
  · exact (B_dead_le (show B 1 1 (1 : Int32) from ⟨by decide, by decide⟩) (show B 0 0 (0 : Int32) from ⟨by decide, by decide⟩) hc (by decide)).elim
  · have hq1 := (nle_lt hc)
    have hI2 := IM_f (k := 0) (v := 1) hI (show B 1 1 (1 : Int32) from ⟨by decide, by decide⟩) (by decide) (by decide)
    exact hK (B_w (show B 0 0 (0 : Int32) from ⟨by decide, by decide⟩) (by decide) (by decide)) hI2
set_option maxRecDepth 20000 in
set_option maxHeartbeats 1000000 in
theorem sf_b_unpack_148 {S : ms} {K : Int32 → ms → Prop} (hI : IM S) (hK : ∀ {v : Int32} {yS : ms}, B 0 8 v → IM yS → K v yS) : b_unpack_148 S K := by
  unfold b_unpack_148
  exact hK (bf_35 hI) hI
set_option maxRecDepth 20000 in
set_option maxHeartbeats 1000000 in
theorem sf_p_about {x1 : Int32} {S : ms} {K : Int32 → ms → Prop} (b_x1 : B (-2147483648) 2147483647 x1) (hI : IM S) (hK : ∀ {v : Int32} {yS : ms}, B 0 64 v → IM yS → K v yS) : p_about x1 S K := by
  unfold p_about
  refine ⟨fun hc => ?_, fun hc => ?_⟩
  · have hq1 := hc
    have b2 := B_ltL b_x1 (show B 0 0 (0 : Int32) from ⟨by decide, by decide⟩) hq1
    exact sf_b_about_10 (B_w b2 (by decide) (by decide)) hI hK
  · have hq3 := (nlt_le hc)
    have b4 := B_leR (show B 0 0 (0 : Int32) from ⟨by decide, by decide⟩) b_x1 hq3
    refine ⟨fun hc => ?_, fun hc => ?_⟩
    · have hq5 := hc
      have b6 := B_leL b4 (show B 2 2 (2 : Int32) from ⟨by decide, by decide⟩) hq5
      refine ⟨vp_B (show B 1 1 (1 : Int32) from ⟨by decide, by decide⟩) (by decide) (by decide), ?_⟩
      refine ⟨fun hc => ?_, fun hc => ?_⟩
      · have b7 := B_eq hc (show B 0 0 (0 : Int32) from ⟨by decide, by decide⟩)
        exact sf_b_about_28_s12 b6 hI hK
      · have b8 := B_n0 (br_11 hI _) hc
        exact sf_b_about_28_s10 b6 hI hK
    · have hq9 := (nle_lt hc)
      have b10 := B_ltR (show B 2 2 (2 : Int32) from ⟨by decide, by decide⟩) b4 hq9
      exact sf_b_about_10 (B_w b10 (by decide) (by decide)) hI hK
set_option maxRecDepth 20000 in
set_option maxHeartbeats 1000000 in
theorem sf_p_at {x1 : Int32} {x2 : Int32} {x3 : Int32} {S : ms} {K : Int32 → ms → Prop} (b_x1 : B (-2147483648) 2147483647 x1) (b_x2 : B (-2147483648) 2147483647 x2) (b_x3 : B (-2147483648) 2147483647 x3) (hI : IM S) (hK : ∀ {v : Int32} {yS : ms}, B (-2147483648) 2147483647 v → IM yS → K v yS) : p_at x1 x2 x3 S K := by
  unfold p_at
  refine ⟨fun hc => ?_, fun hc => ?_⟩
  · have hq1 := hc
    have b2 := B_ltL b_x1 (show B 0 0 (0 : Int32) from ⟨by decide, by decide⟩) hq1
    exact sf_b_at_37 (B_w b2 (by decide) (by decide)) b_x2 b_x3 hI hK
  · have hq3 := (nlt_le hc)
    have b4 := B_leR (show B 0 0 (0 : Int32) from ⟨by decide, by decide⟩) b_x1 hq3
    refine ⟨fun hc => ?_, fun hc => ?_⟩
    · have hq5 := hc
      have b6 := B_leR (bf_1 hI) b4 hq5
      exact sf_b_at_37 (B_w b6 (by decide) (by decide)) b_x2 b_x3 hI hK
    · have hq7 := (nle_lt hc)
      have b8 := B_ltL b4 (bf_1 hI) hq7
      refine ⟨fun hc => ?_, fun hc => ?_⟩
      · have hq9 := hc
        have b10 := B_ltL b_x2 (show B 0 0 (0 : Int32) from ⟨by decide, by decide⟩) hq9
        exact sf_b_at_37 (B_w b8 (by decide) (by decide)) (B_w b10 (by decide) (by decide)) b_x3 hI hK
      · have hq11 := (nlt_le hc)
        have b12 := B_leR (show B 0 0 (0 : Int32) from ⟨by decide, by decide⟩) b_x2 hq11
        refine ⟨fun hc => ?_, fun hc => ?_⟩
        · have hq13 := hc
          have b14 := B_leR (bf_2 hI) b12 hq13
          exact sf_b_at_37 (B_w b8 (by decide) (by decide)) (B_w b14 (by decide) (by decide)) b_x3 hI hK
        · have hq15 := (nle_lt hc)
          have b16 := B_ltL b12 (bf_2 hI) hq15
          refine ⟨fun hc => ?_, fun hc => ?_⟩
          · have hq17 := hc
            have b18 := B_ltL b_x3 (show B 0 0 (0 : Int32) from ⟨by decide, by decide⟩) hq17
            exact sf_b_at_37 (B_w b8 (by decide) (by decide)) (B_w b16 (by decide) (by decide)) (B_w b18 (by decide) (by decide)) hI hK
          · have hq19 := (nlt_le hc)
            have b20 := B_leR (show B 0 0 (0 : Int32) from ⟨by decide, by decide⟩) b_x3 hq19
            refine ⟨fun hc => ?_, fun hc => ?_⟩
            · have hq21 := hc
              have b22 := B_ltL b20 (bf_3 hI) hq21
              exact sf_b_at_42_s10 b8 b16 b22 hI hK
            · have hq23 := (nlt_le hc)
              have b24 := B_leR (bf_3 hI) b20 hq23
              exact sf_b_at_37 (B_w b8 (by decide) (by decide)) (B_w b16 (by decide) (by decide)) (B_w b24 (by decide) (by decide)) hI hK
set_option maxRecDepth 20000 in
set_option maxHeartbeats 1000000 in
theorem sf_p_canvas {x1 : Int32} {x2 : Int32} {x3 : Int32} {S : ms} {K : ms → Prop} (b_x1 : B (-2147483648) 2147483647 x1) (b_x2 : B (-2147483648) 2147483647 x2) (b_x3 : B (-2147483648) 2147483647 x3) (hI : IM S) (hK : ∀ {yS : ms}, IM yS → K yS) : p_canvas x1 x2 x3 S K := by
  unfold p_canvas
  refine ⟨fun hc => ?_, fun hc => ?_⟩
  · have hq1 := hc
    have b2 := B_ltL b_x1 (show B 1 1 (1 : Int32) from ⟨by decide, by decide⟩) hq1
    exact sf_b_canvas_33 (B_w b2 (by decide) (by decide)) b_x2 b_x3 hI hK
  · have hq3 := (nlt_le hc)
    have b4 := B_leR (show B 1 1 (1 : Int32) from ⟨by decide, by decide⟩) b_x1 hq3
    refine ⟨fun hc => ?_, fun hc => ?_⟩
    · have hq5 := hc
      have b6 := B_ltR (show B 64 64 (64 : Int32) from ⟨by decide, by decide⟩) b4 hq5
      exact sf_b_canvas_33 (B_w b6 (by decide) (by decide)) b_x2 b_x3 hI hK
    · have hq7 := (nlt_le hc)
      have b8 := B_leL b4 (show B 64 64 (64 : Int32) from ⟨by decide, by decide⟩) hq7
      refine ⟨fun hc => ?_, fun hc => ?_⟩
      · have hq9 := hc
        have b10 := B_ltL b_x2 (show B 1 1 (1 : Int32) from ⟨by decide, by decide⟩) hq9
        exact sf_b_canvas_33 (B_w b8 (by decide) (by decide)) (B_w b10 (by decide) (by decide)) b_x3 hI hK
      · have hq11 := (nlt_le hc)
        have b12 := B_leR (show B 1 1 (1 : Int32) from ⟨by decide, by decide⟩) b_x2 hq11
        refine ⟨fun hc => ?_, fun hc => ?_⟩
        · have hq13 := hc
          have b14 := B_ltR (show B 64 64 (64 : Int32) from ⟨by decide, by decide⟩) b12 hq13
          exact sf_b_canvas_33 (B_w b8 (by decide) (by decide)) (B_w b14 (by decide) (by decide)) b_x3 hI hK
        · have hq15 := (nlt_le hc)
          have b16 := B_leL b12 (show B 64 64 (64 : Int32) from ⟨by decide, by decide⟩) hq15
          refine ⟨fun hc => ?_, fun hc => ?_⟩
          · have b17 := B_eq hc (show B 1 1 (1 : Int32) from ⟨by decide, by decide⟩)
            exact sf_b_canvas_37 b8 b16 (B_w b17 (by decide) (by decide)) hI hK
          · have hz := hc
            refine ⟨fun hc => ?_, fun hc => ?_⟩
            · have b18 := B_eq hc (show B 3 3 (3 : Int32) from ⟨by decide, by decide⟩)
              exact sf_b_canvas_37 b8 b16 (B_w b18 (by decide) (by decide)) hI hK
            · have hz := hc
              exact sf_b_canvas_33 (B_w b8 (by decide) (by decide)) (B_w b16 (by decide) (by decide)) b_x3 hI hK
set_option maxRecDepth 20000 in
set_option maxHeartbeats 1000000 in
theorem sf_p_change {x1 : Int32} {x2 : Int32} {S : ms} {K : Int32 → ms → Prop} (b_x1 : B (-2147483648) 2147483647 x1) (b_x2 : B (-2147483648) 2147483647 x2) (hI : IM S) (hK : ∀ {v : Int32} {yS : ms}, B (-2147483648) 2147483647 v → IM yS → K v yS) : p_change x1 x2 S K := by
  unfold p_change
  refine ⟨fun hc => ?_, fun hc => ?_⟩
  · have hq1 := hc
    have b2 := B_ltL b_x1 (show B 0 0 (0 : Int32) from ⟨by decide, by decide⟩) hq1
    exact sf_b_change_13 (B_w b2 (by decide) (by decide)) b_x2 hI hK
  · have hq3 := (nlt_le hc)
    have b4 := B_leR (show B 0 0 (0 : Int32) from ⟨by decide, by decide⟩) b_x1 hq3
    refine ⟨fun hc => ?_, fun hc => ?_⟩
    · have hq5 := hc
      have b6 := B_ltL b4 (bf_7 hI) hq5
      have b7 := B_ltR b4 (bf_7 hI) hq5
      refine ⟨fun hc => ?_, fun hc => ?_⟩
      · have hq8 := hc
        have b9 := B_ltL b_x2 (show B 0 0 (0 : Int32) from ⟨by decide, by decide⟩) hq8
        exact sf_b_change_28 b6 (B_w b9 (by decide) (by decide)) hI hK
      · have hq10 := (nlt_le hc)
        have b11 := B_leR (show B 0 0 (0 : Int32) from ⟨by decide, by decide⟩) b_x2 hq10
        refine ⟨fun hc => ?_, fun hc => ?_⟩
        · have hq12 := hc
          have b13 := B_leL b11 (show B 255 255 (255 : Int32) from ⟨by decide, by decide⟩) hq12
          exact sf_b_change_33_s10 b6 b13 hI hK
        · have hq14 := (nle_lt hc)
          have b15 := B_ltR (show B 255 255 (255 : Int32) from ⟨by decide, by decide⟩) b11 hq14
          exact sf_b_change_28 b6 (B_w b15 (by decide) (by decide)) hI hK
    · have hq16 := (nlt_le hc)
      exact sf_b_change_13 (B_w b4 (by decide) (by decide)) b_x2 hI hK
theorem sf_e_codeSize_5 {x1 : Int32} {x2 : Int32} {x3 : Int32} {S : ms} {K : Int32 → ms → Prop} (b_x1 : B 0 3 x1) (b_x2 : B (-2147483648) 2147483647 x2) (b_x3 : B 0 256 x3) (hI : IM S) (hK : ∀ {v : Int32} {yS : ms}, B (-2147483648) 2147483647 v → IM yS → K v yS) : e_codeSize_5 x1 x2 x3 S K := by
  refine ⟨fun y_x1 y_x2 y_x3 y_S => B 0 3 y_x1 ∧ B (-2147483648) 2147483647 y_x2 ∧ B 0 256 y_x3 ∧ IM y_S, fun y_x1 y_x2 y_x3 y_S => (256 - y_x3.toInt).toNat, ⟨b_x1, b_x2, b_x3, hI⟩, fun y_x1 y_x2 y_x3 y_S hIv => ?_⟩
  obtain ⟨c_x1, c_x2, c_x3, cI⟩ := hIv
  exact sf_b_codeSize_5 c_x1 c_x2 c_x3 (Int.le_refl _) cI (fun d_x1 d_x2 d_x3 dlt dI => ⟨⟨d_x1, d_x2, d_x3, dI⟩, (by have h1 := dlt; have h2 := d_x3.2; have h3 := c_x3.2; dsimp only; omega)⟩) hK
set_option maxRecDepth 20000 in
set_option maxHeartbeats 1000000 in
theorem sf_p_codeSize {x1 : Int32} {S : ms} {K : Int32 → ms → Prop} (b_x1 : B 0 3 x1) (hI : IM S) (hK : ∀ {v : Int32} {yS : ms}, B (-2147483648) 2147483647 v → IM yS → K v yS) : p_codeSize x1 S K := by
  unfold p_codeSize
  exact sf_e_codeSize_5 b_x1 (B_w (show B 17 17 (17 : Int32) from ⟨by decide, by decide⟩) (by decide) (by decide)) (B_w (show B 0 0 (0 : Int32) from ⟨by decide, by decide⟩) (by decide) (by decide)) hI hK
set_option maxRecDepth 20000 in
set_option maxHeartbeats 1000000 in
theorem sf_p_end {x1 : Int32} {S : ms} {K : ms → Prop} (b_x1 : B (-2147483648) 2147483647 x1) (hI : IM S) (hK : ∀ {yS : ms}, IM yS → K yS) : p_end x1 S K := by
  unfold p_end
  refine ⟨fun hc => ?_, fun hc => ?_⟩
  · have hq1 := hc
    have b2 := B_ltL b_x1 (show B 0 0 (0 : Int32) from ⟨by decide, by decide⟩) hq1
    exact sf_b_end_13 (B_w b2 (by decide) (by decide)) hI hK
  · have hq3 := (nlt_le hc)
    have b4 := B_leR (show B 0 0 (0 : Int32) from ⟨by decide, by decide⟩) b_x1 hq3
    refine ⟨fun hc => ?_, fun hc => ?_⟩
    · have hq5 := hc
      have b6 := B_leL b4 (bf_7 hI) hq5
      exact sf_b_end_18_s10 b6 hI hK
    · have hq7 := (nle_lt hc)
      have b8 := B_ltR (bf_7 hI) b4 hq7
      exact sf_b_end_13 (B_w b8 (by decide) (by decide)) hI hK
set_option maxRecDepth 20000 in
set_option maxHeartbeats 1000000 in
theorem sf_p_entry {x1 : Int32} {x2 : Int32} {x3 : Int32} {x4 : Int32} {S : ms} {K : ms → Prop} (b_x1 : B (-2147483648) 2147483647 x1) (b_x2 : B (-2147483648) 2147483647 x2) (b_x3 : B (-2147483648) 2147483647 x3) (b_x4 : B (-2147483648) 2147483647 x4) (hI : IM S) (hK : ∀ {yS : ms}, IM yS → K yS) : p_entry x1 x2 x3 x4 S K := by
  unfold p_entry
  refine ⟨fun hc => ?_, fun hc => ?_⟩
  · have hq1 := hc
    have b2 := B_ltL b_x2 (show B 0 0 (0 : Int32) from ⟨by decide, by decide⟩) hq1
    exact sf_b_entry_21 b_x1 (B_w b2 (by decide) (by decide)) b_x3 b_x4 hI hK
  · have hq3 := (nlt_le hc)
    have b4 := B_leR (show B 0 0 (0 : Int32) from ⟨by decide, by decide⟩) b_x2 hq3
    refine ⟨fun hc => ?_, fun hc => ?_⟩
    · have hq5 := hc
      have b6 := B_ltR (show B 7 7 (7 : Int32) from ⟨by decide, by decide⟩) b4 hq5
      exact sf_b_entry_21 b_x1 (B_w b6 (by decide) (by decide)) b_x3 b_x4 hI hK
    · have hq7 := (nlt_le hc)
      have b8 := B_leL b4 (show B 7 7 (7 : Int32) from ⟨by decide, by decide⟩) hq7
      refine ⟨fun hc => ?_, fun hc => ?_⟩
      · have hq9 := hc
        have b10 := B_ltL b_x3 (show B 0 0 (0 : Int32) from ⟨by decide, by decide⟩) hq9
        exact sf_b_entry_21 b_x1 (B_w b8 (by decide) (by decide)) (B_w b10 (by decide) (by decide)) b_x4 hI hK
      · have hq11 := (nlt_le hc)
        have b12 := B_leR (show B 0 0 (0 : Int32) from ⟨by decide, by decide⟩) b_x3 hq11
        refine ⟨fun hc => ?_, fun hc => ?_⟩
        · have hq13 := hc
          have b14 := B_leL b12 (show B 7 7 (7 : Int32) from ⟨by decide, by decide⟩) hq13
          refine ⟨fun hc => ?_, fun hc => ?_⟩
          · have b15 := B_eq hc (show B 0 0 (0 : Int32) from ⟨by decide, by decide⟩)
            exact sf_b_entry_34 (B_w b15 (by decide) (by decide)) b8 b14 b_x4 hI hK
          · have hz := hc
            refine ⟨fun hc => ?_, fun hc => ?_⟩
            · have hz := hc
              exact sf_b_entry_48 b_x1 b8 b14 b_x4 hI hK
            · have b16 := B_eq hc (show B 1 1 (1 : Int32) from ⟨by decide, by decide⟩)
              exact sf_b_entry_34 (B_w b16 (by decide) (by decide)) b8 b14 b_x4 hI hK
        · have hq17 := (nle_lt hc)
          have b18 := B_ltR (show B 7 7 (7 : Int32) from ⟨by decide, by decide⟩) b12 hq17
          exact sf_b_entry_21 b_x1 (B_w b8 (by decide) (by decide)) (B_w b18 (by decide) (by decide)) b_x4 hI hK
theorem sf_e_greatest_5 {x1 : Int32} {x2 : Int32} {x3 : Int32} {x4 : Int32} {S : ms} {K : Int32 → ms → Prop} (b_x1 : B 0 2 x1) (b_x2 : B 0 1 x2) (b_x3 : B 1 268435456 x3) (b_x4 : B 0 3 x4) (hI : IM S) (hK : ∀ {v : Int32} {yS : ms}, B 1 268435456 v → IM yS → K v yS) : e_greatest_5 x1 x2 x3 x4 S K := by
  refine ⟨fun y_x1 y_x2 y_x3 y_x4 y_S => B 0 2 y_x1 ∧ B 0 1 y_x2 ∧ B 1 268435456 y_x3 ∧ B 0 3 y_x4 ∧ IM y_S, fun y_x1 y_x2 y_x3 y_x4 y_S => (3 - y_x4.toInt).toNat, ⟨b_x1, b_x2, b_x3, b_x4, hI⟩, fun y_x1 y_x2 y_x3 y_x4 y_S hIv => ?_⟩
  obtain ⟨c_x1, c_x2, c_x3, c_x4, cI⟩ := hIv
  exact sf_b_greatest_5 c_x1 c_x2 c_x3 c_x4 (Int.le_refl _) cI (fun d_x1 d_x2 d_x3 d_x4 dlt dI => ⟨⟨d_x1, d_x2, d_x3, d_x4, dI⟩, (by have h1 := dlt; have h2 := d_x4.2; have h3 := c_x4.2; dsimp only; omega)⟩) hK
set_option maxRecDepth 20000 in
set_option maxHeartbeats 1000000 in
theorem sf_p_greatest {x1 : Int32} {x2 : Int32} {S : ms} {K : Int32 → ms → Prop} (b_x1 : B 0 2 x1) (b_x2 : B 0 1 x2) (hI : IM S) (hK : ∀ {v : Int32} {yS : ms}, B 1 268435456 v → IM yS → K v yS) : p_greatest x1 x2 S K := by
  unfold p_greatest
  exact sf_e_greatest_5 b_x1 b_x2 (B_w (show B 1 1 (1 : Int32) from ⟨by decide, by decide⟩) (by decide) (by decide)) (B_w (show B 0 0 (0 : Int32) from ⟨by decide, by decide⟩) (by decide) (by decide)) hI hK
set_option maxRecDepth 20000 in
set_option maxHeartbeats 1000000 in
theorem sf_p_isOut {x1 : Int32} {x2 : Int32} {x3 : Int32} {x4 : Int32} {S : ms} {K : Int32 → ms → Prop} (b_x1 : B (-2147483648) 2147483647 x1) (b_x2 : B (-2147483648) 2147483647 x2) (b_x3 : B (-2147483648) 2147483647 x3) (b_x4 : B (-2147483648) 2147483647 x4) (hI : IM S) (hK : ∀ {v : Int32} {yS : ms}, B 0 1 v → IM yS → K v yS) : p_isOut x1 x2 x3 x4 S K := by
  unfold p_isOut
  refine ⟨fun hc => ?_, fun hc => ?_⟩
  · have hq1 := hc
    have b2 := B_ltL b_x1 (show B 0 0 (0 : Int32) from ⟨by decide, by decide⟩) hq1
    exact sf_b_isOut_57 hI hK
  · have hq3 := (nlt_le hc)
    have b4 := B_leR (show B 0 0 (0 : Int32) from ⟨by decide, by decide⟩) b_x1 hq3
    refine ⟨fun hc => ?_, fun hc => ?_⟩
    · have hq5 := hc
      have b6 := B_ltL b_x2 (show B 0 0 (0 : Int32) from ⟨by decide, by decide⟩) hq5
      exact sf_b_isOut_57 hI hK
    · have hq7 := (nlt_le hc)
      have b8 := B_leR (show B 0 0 (0 : Int32) from ⟨by decide, by decide⟩) b_x2 hq7
      refine ⟨fun hc => ?_, fun hc => ?_⟩
      · have hq9 := hc
        have b10 := B_ltL b_x3 (show B 1 1 (1 : Int32) from ⟨by decide, by decide⟩) hq9
        exact sf_b_isOut_57 hI hK
      · have hq11 := (nlt_le hc)
        have b12 := B_leR (show B 1 1 (1 : Int32) from ⟨by decide, by decide⟩) b_x3 hq11
        refine ⟨fun hc => ?_, fun hc => ?_⟩
        · have hq13 := hc
          have b14 := B_ltL b_x4 (show B 1 1 (1 : Int32) from ⟨by decide, by decide⟩) hq13
          exact sf_b_isOut_57 hI hK
        · have hq15 := (nlt_le hc)
          have b16 := B_leR (show B 1 1 (1 : Int32) from ⟨by decide, by decide⟩) b_x4 hq15
          refine ⟨fun hc => ?_, fun hc => ?_⟩
          · have hq17 := hc
            have b18 := B_leR (bf_1 hI) b4 hq17
            exact sf_b_isOut_57 hI hK
          · have hq19 := (nle_lt hc)
            have b20 := B_ltL b4 (bf_1 hI) hq19
            refine ⟨fun hc => ?_, fun hc => ?_⟩
            · have hq21 := hc
              have b22 := B_leR (bf_2 hI) b8 hq21
              exact sf_b_isOut_57 hI hK
            · have hq23 := (nle_lt hc)
              have b24 := B_ltL b8 (bf_2 hI) hq23
              refine ⟨fun hc => ?_, fun hc => ?_⟩
              · have hq25 := hc
                exact sf_b_isOut_57 hI hK
              · have hq26 := (nlt_le hc)
                have b27 := B_leL b12 (B_sub (bf_1 hI) b20 (by decide) (by decide)) hq26
                have b28 := B_leR b12 (B_sub (bf_1 hI) b20 (by decide) (by decide)) hq26
                refine ⟨fun hc => ?_, fun hc => ?_⟩
                · have hq29 := hc
                  have b30 := B_leL b16 (B_sub (bf_2 hI) b24 (by decide) (by decide)) hq29
                  have b31 := B_leR b16 (B_sub (bf_2 hI) b24 (by decide) (by decide)) hq29
                  exact sf_b_isOut_62_s10 hI hK
                · have hq32 := (nle_lt hc)
                  exact sf_b_isOut_57 hI hK
set_option maxRecDepth 20000 in
set_option maxHeartbeats 1000000 in
theorem sf_p_layerHigh {x1 : Int32} {x2 : Int32} {S : ms} {K : Int32 → ms → Prop} (b_x1 : B 0 2 x1) (b_x2 : B 0 2 x2) (hI : IM S) (hK : ∀ {v : Int32} {yS : ms}, B 0 2147483647 v → IM yS → K v yS) : p_layerHigh x1 x2 S K := by
  unfold p_layerHigh
  refine ⟨vp_B b_x1 (by decide) (by decide), ?_⟩
  refine ⟨vp_B (B_add (B_mul (show B 3 3 (3 : Int32) from ⟨by decide, by decide⟩) b_x1 (by decide) (by decide) (by decide)) b_x2 (by decide) (by decide)) (by decide) (by decide), ?_⟩
  refine sf_p_greatest b_x1 (B_w (show B 0 0 (0 : Int32) from ⟨by decide, by decide⟩) (by decide) (by decide)) hI (fun {v20} {S20} b_v20 hI_S20 => ?_)
  unfold p_upward
  refine ⟨B_nz b_v20 (by decide), ?_⟩
  exact hK (B_w (B_div (B_sub (B_add (B_mul (br_13 hI _) (br_16 hI _) (by decide) (by decide) (by decide)) b_v20 (by decide) (by decide)) (show B 1 1 (1 : Int32) from ⟨by decide, by decide⟩) (by decide) (by decide)) b_v20 (by decide) (by decide)) (by decide) (by decide)) hI_S20
theorem sf_e_layerNamed_4 {x1 : Int32} {x2 : Int32} {x3 : Int32} {S : ms} {K : Int32 → ms → Prop} (b_x1 : B (-2147483648) 2147483647 x1) (b_x2 : B (-1) 2 x2) (b_x3 : B 0 3 x3) (hI : IM S) (hK : ∀ {v : Int32} {yS : ms}, B (-1) 2 v → IM yS → K v yS) : e_layerNamed_4 x1 x2 x3 S K := by
  refine ⟨fun y_x1 y_x2 y_x3 y_S => B (-2147483648) 2147483647 y_x1 ∧ B (-1) 2 y_x2 ∧ B 0 3 y_x3 ∧ IM y_S, fun y_x1 y_x2 y_x3 y_S => (3 - y_x3.toInt).toNat, ⟨b_x1, b_x2, b_x3, hI⟩, fun y_x1 y_x2 y_x3 y_S hIv => ?_⟩
  obtain ⟨c_x1, c_x2, c_x3, cI⟩ := hIv
  exact sf_b_layerNamed_4 c_x1 c_x2 c_x3 (Int.le_refl _) cI (fun d_x1 d_x2 d_x3 dlt dI => ⟨⟨d_x1, d_x2, d_x3, dI⟩, (by have h1 := dlt; have h2 := d_x3.2; have h3 := c_x3.2; dsimp only; omega)⟩) hK
set_option maxRecDepth 20000 in
set_option maxHeartbeats 1000000 in
theorem sf_p_layerNamed {x1 : Int32} {S : ms} {K : Int32 → ms → Prop} (b_x1 : B (-2147483648) 2147483647 x1) (hI : IM S) (hK : ∀ {v : Int32} {yS : ms}, B (-1) 2 v → IM yS → K v yS) : p_layerNamed x1 S K := by
  unfold p_layerNamed
  exact sf_e_layerNamed_4 b_x1 (B_w (show B (-1) (-1) (-1 : Int32) from ⟨by decide, by decide⟩) (by decide) (by decide)) (B_w (show B 0 0 (0 : Int32) from ⟨by decide, by decide⟩) (by decide) (by decide)) hI hK
set_option maxRecDepth 20000 in
set_option maxHeartbeats 1000000 in
theorem sf_p_layerWide {x1 : Int32} {x2 : Int32} {S : ms} {K : Int32 → ms → Prop} (b_x1 : B 0 2 x1) (b_x2 : B 0 2 x2) (hI : IM S) (hK : ∀ {v : Int32} {yS : ms}, B (-2147483648) 2147483647 v → IM yS → K v yS) : p_layerWide x1 x2 S K := by
  unfold p_layerWide
  refine ⟨vp_B b_x1 (by decide) (by decide), ?_⟩
  refine ⟨vp_B (B_add (B_mul (show B 3 3 (3 : Int32) from ⟨by decide, by decide⟩) b_x1 (by decide) (by decide) (by decide)) b_x2 (by decide) (by decide)) (by decide) (by decide), ?_⟩
  refine sf_p_greatest b_x1 (B_w (show B 1 1 (1 : Int32) from ⟨by decide, by decide⟩) (by decide) (by decide)) hI (fun {v20} {S20} b_v20 hI_S20 => ?_)
  unfold p_upward
  refine ⟨B_nz b_v20 (by decide), ?_⟩
  exact hK (B_any _) hI_S20
set_option maxRecDepth 20000 in
set_option maxHeartbeats 1000000 in
theorem sf_p_nextWithin {S : ms} {K : Int32 → ms → Prop} (hI : IM S) (hK : ∀ {v : Int32} {yS : ms}, B (-2147483648) 2147483647 v → IM yS → K v yS) : p_nextWithin S K := by
  unfold p_nextWithin
  refine ⟨fun hc => ?_, fun hc => ?_⟩
  · have hq1 := hc
    have b2 := B_ltR (bf_34 hI) (bf_36 hI) hq1
    refine sf_p_next hI (fun {v24} {S24} b_v24 hI_S24 => ?_)
    exact hK b_v24 hI_S24
  · have hq3 := (nlt_le hc)
    have b4 := B_leL (bf_36 hI) (bf_34 hI) hq3
    refine sf_p_fail (B_w (show B 4 4 (4 : Int32) from ⟨by decide, by decide⟩) (by decide) (by decide)) (B_w (bf_37 hI) (by decide) (by decide)) hI (fun {v17} {S17} b_v17 hI_S17 => ?_)
    exact hK (B_w (show B 0 0 (0 : Int32) from ⟨by decide, by decide⟩) (by decide) (by decide)) hI_S17
set_option maxRecDepth 20000 in
set_option maxHeartbeats 1000000 in
theorem sf_p_out {x1 : Int32} {S : ms} {K : Int32 → ms → Prop} (b_x1 : B (-2147483648) 2147483647 x1) (hI : IM S) (hK : ∀ {v : Int32} {yS : ms}, B (-2147483648) 2147483647 v → IM yS → K v yS) : p_out x1 S K := by
  unfold p_out
  refine ⟨fun hc => ?_, fun hc => ?_⟩
  · have hq1 := hc
    have b2 := B_ltL b_x1 (show B 0 0 (0 : Int32) from ⟨by decide, by decide⟩) hq1
    exact sf_b_out_13 (B_w b2 (by decide) (by decide)) hI hK
  · have hq3 := (nlt_le hc)
    have b4 := B_leR (show B 0 0 (0 : Int32) from ⟨by decide, by decide⟩) b_x1 hq3
    refine ⟨fun hc => ?_, fun hc => ?_⟩
    · have hq5 := hc
      have b6 := B_ltL b4 (bf_9 hI) hq5
      have b7 := B_ltR b4 (bf_9 hI) hq5
      exact sf_b_out_18_s10 b6 hI hK
    · have hq8 := (nlt_le hc)
      exact sf_b_out_13 (B_w b4 (by decide) (by decide)) hI hK
set_option maxRecDepth 20000 in
set_option maxHeartbeats 1000000 in
theorem sf_p_place {S : ms} {K : Int32 → ms → Prop} (hI : IM S) (hK : ∀ {v : Int32} {yS : ms}, B (-2) 32768 v → IM yS → K v yS) : p_place S K := by
  unfold p_place
  have hI1 := IM_f (k := 0) (v := 0) hI (show B 0 0 (0 : Int32) from ⟨by decide, by decide⟩) (by decide) (by decide)
  exact hK (bf_10 hI) hI1
set_option maxRecDepth 20000 in
set_option maxHeartbeats 1000000 in
theorem sf_p_readLength {S : ms} {K : ms → Prop} (hI : IM S) (hK : ∀ {yS : ms}, IM yS → K yS) : p_readLength S K := by
  unfold p_readLength
  have hI1 := IM_f (k := 37) (v := S.1 34) hI (bf_34 hI) (by decide) (by decide)
  refine sf_p_nextTwo hI1 (fun {v9} {S9} b_v9 hI_S9 => ?_)
  refine ⟨fun hc => ?_, fun hc => ?_⟩
  · have b2 := B_n0 (bf_35 hI_S9) hc
    have hI3 := IM_f (k := 36) (v := (S9.1 37) + v9) hI_S9 (B_any _) (by decide) (by decide)
    exact sf_b_readLength_45 hI3 hK
  · have b4 := B_eq hc (show B 0 0 (0 : Int32) from ⟨by decide, by decide⟩)
    refine ⟨fun hc => ?_, fun hc => ?_⟩
    · have hq5 := hc
      have b6 := B_leR (show B 2 2 (2 : Int32) from ⟨by decide, by decide⟩) b_v9 hq5
      have hI7 := IM_f (k := 36) (v := (S9.1 37) + v9) hI_S9 (B_any _) (by decide) (by decide)
      exact sf_b_readLength_45 hI7 hK
    · have hq8 := (nle_lt hc)
      have b9 := B_ltL b_v9 (show B 2 2 (2 : Int32) from ⟨by decide, by decide⟩) hq8
      have hI10 := IM_f (k := 36) (v := (S9.1 37) + v9) hI_S9 (B_add (bf_37 hI_S9) b9 (by decide) (by decide)) (by decide) (by decide)
      refine sf_p_fail (B_w (show B 4 4 (4 : Int32) from ⟨by decide, by decide⟩) (by decide) (by decide)) (B_w (bf_37 hI_S9) (by decide) (by decide)) hI10 (fun {v41} {S41} b_v41 hI_S41 => ?_)
      exact sf_b_readLength_45 hI_S41 hK
set_option maxRecDepth 20000 in
set_option maxHeartbeats 1000000 in
theorem sf_p_size {S : ms} {K : Int32 → ms → Prop} (hI : IM S) (hK : ∀ {v : Int32} {yS : ms}, B 0 65536 v → IM yS → K v yS) : p_size S K := by
  unfold p_size
  have hI1 := IM_f (k := 0) (v := 0) hI (show B 0 0 (0 : Int32) from ⟨by decide, by decide⟩) (by decide) (by decide)
  exact hK (bf_9 hI) hI1
set_option maxRecDepth 20000 in
set_option maxHeartbeats 1000000 in
theorem sf_p_thrown {S : ms} {K : Int32 → ms → Prop} (hI : IM S) (hK : ∀ {v : Int32} {yS : ms}, B 0 3 v → IM yS → K v yS) : p_thrown S K := by
  unfold p_thrown
  exact hK (bf_0 hI) hI
theorem sf_e_toWeights_2 {x1 : Int32} {S : ms} {K : ms → Prop} (b_x1 : B 0 8 x1) (hI : IM S) (hK : ∀ {yS : ms}, IM yS → K yS) : e_toWeights_2 x1 S K := by
  refine ⟨fun y_x1 y_S => B 0 8 y_x1 ∧ IM y_S, fun y_x1 y_S => (8 - y_x1.toInt).toNat, ⟨b_x1, hI⟩, fun y_x1 y_S hIv => ?_⟩
  obtain ⟨c_x1, cI⟩ := hIv
  exact sf_b_toWeights_2 c_x1 (Int.le_refl _) cI (fun d_x1 dlt dI => ⟨⟨d_x1, dI⟩, (by have h1 := dlt; have h2 := d_x1.2; have h3 := c_x1.2; dsimp only; omega)⟩) hK
set_option maxRecDepth 20000 in
set_option maxHeartbeats 1000000 in
theorem sf_p_toWeights {S : ms} {K : ms → Prop} (hI : IM S) (hK : ∀ {yS : ms}, IM yS → K yS) : p_toWeights S K := by
  unfold p_toWeights
  exact sf_e_toWeights_2 (B_w (show B 0 0 (0 : Int32) from ⟨by decide, by decide⟩) (by decide) (by decide)) hI hK
