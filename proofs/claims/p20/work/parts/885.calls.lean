/-! EVERY CALL IS SAFE, on both sides -/
theorem vq : vp_in 0 (c_ln UL 115) := (show vp_in 0 1 from by unfold vp_in; decide)
theorem sc_canvas {a b : Bool} {P : Nat → Nat → Nat} {x1 : Int32} {x2 : Int32} {x3 : Int32} {F : cF} {L : cL} {K : Int32 → cs → Prop} (hI : IMc F) (h0 : ∀ {aZ bZ : Bool} {Z : cF} {LZ : cL}, IMc Z → (((1 ≤ x1.toInt) ∧ (x1.toInt ≤ 64)) ∧ (((1 ≤ x2.toInt) ∧ (x2.toInt ≤ 64)) ∧ ((x3.toInt = 1) ∨ (x3.toInt = 3)))) → K 0 (Z, LZ, PC aZ bZ P)) (h1 : ∀ {aZ bZ : Bool} {Z : cF} {LZ : cL}, IMc Z → (((x1.toInt < 1) ∨ (64 < x1.toInt)) ∨ (((x2.toInt < 1) ∨ (64 < x2.toInt)) ∨ ((x3.toInt < 1) ∨ ((x3.toInt = 2) ∨ (3 < x3.toInt))))) → K 1 (Z, LZ, PC aZ bZ P)) : p_Lw_canvas UL 0 x1 x2 x3 (F, L, PC a b P) K := by
  exact ⟨cl_0, h_B_canvas_u0 hI (fun hZ _ p2 => h0 hZ p2) (fun hZ _ p2 => ⟨rfl, h1 hZ p2⟩)⟩
theorem sm_canvas {x1 : Int32} {x2 : Int32} {x3 : Int32} {S : ms} {K : ms → Prop} (h : GM S) (hK : ∀ {Z : ms}, GM Z → ((((Z.1 0).toInt = 0) ∧ (((1 ≤ x1.toInt) ∧ (x1.toInt ≤ 64)) ∧ (((1 ≤ x2.toInt) ∧ (x2.toInt ≤ 64)) ∧ ((x3.toInt = 1) ∨ (x3.toInt = 3))))) ∨ (((Z.1 0).toInt = 1) ∧ (((x1.toInt < 1) ∨ (64 < x1.toInt)) ∨ (((x2.toInt < 1) ∨ (64 < x2.toInt)) ∨ ((x3.toInt < 1) ∨ ((x3.toInt = 2) ∨ (3 < x3.toInt))))))) → K Z) : p_canvas x1 x2 x3 S K :=
  h_canvas h.1 h.2.2.2.2.1 (fun hZ g q2 ans => hK (GM_pl h hZ g q2 rfl rfl rfl rfl rfl) ans)
theorem sc_fill {a b : Bool} {P : Nat → Nat → Nat} {x1 : Int32} {x2 : Int32} {x3 : Int32} {x4 : Int32} {x5 : Int32} {F : cF} {L : cL} {K : Int32 → cs → Prop} (hI : IMc F) (h0 : ∀ {aZ bZ : Bool} {Z : cF} {LZ : cL}, IMc Z → K 0 (Z, LZ, PC aZ bZ P)) (h1 : ∀ {aZ bZ : Bool} {Z : cF} {LZ : cL}, IMc Z → K 1 (Z, LZ, PC aZ bZ P)) : p_Lw_fill UL 0 x1 x2 x3 x4 x5 (F, L, PC a b P) K := by
  exact ⟨cl_0, h_B_fill_u0 hI (fun hZ _ => h0 hZ) (fun hZ _ => ⟨rfl, h1 hZ⟩)⟩
theorem sm_fill {x1 : Int32} {x2 : Int32} {x3 : Int32} {x4 : Int32} {x5 : Int32} {S : ms} {K : ms → Prop} (h : GM S) (hK : ∀ {Z : ms}, GM Z → K Z) : p_fill x1 x2 x3 x4 x5 S K :=
  h_fill h.1  (fun hZ g => hK (GM_ag h hZ g rfl rfl rfl rfl rfl rfl))
theorem sc_slope {a b : Bool} {P : Nat → Nat → Nat} {x1 : Int32} {x2 : Int32} {x3 : Int32} {x4 : Int32} {x5 : Int32} {x6 : Int32} {F : cF} {L : cL} {K : Int32 → cs → Prop} (hI : IMc F) (h0 : ∀ {aZ bZ : Bool} {Z : cF} {LZ : cL}, IMc Z → K 0 (Z, LZ, PC aZ bZ P)) (h1 : ∀ {aZ bZ : Bool} {Z : cF} {LZ : cL}, IMc Z → K 1 (Z, LZ, PC aZ bZ P)) : p_Lw_slope UL 0 x1 x2 x3 x4 x5 x6 (F, L, PC a b P) K := by
  exact ⟨cl_0, h_B_slope_u0 hI (fun hZ _ => h0 hZ) (fun hZ _ => ⟨rfl, h1 hZ⟩)⟩
theorem sm_slope {x1 : Int32} {x2 : Int32} {x3 : Int32} {x4 : Int32} {x5 : Int32} {x6 : Int32} {S : ms} {K : ms → Prop} (h : GM S) (hK : ∀ {Z : ms}, GM Z → K Z) : p_slope x1 x2 x3 x4 x5 x6 S K :=
  h_slope h.1  (fun hZ g => hK (GM_ag h hZ g rfl rfl rfl rfl rfl rfl))
theorem sc_at {a b : Bool} {P : Nat → Nat → Nat} {x1 : Int32} {x2 : Int32} {x3 : Int32} {F : cF} {L : cL} {K : Int32 → cs → Prop} (hI : IMc F) (h0 : ∀ {aZ bZ : Bool} {Z : cF} {LZ : cL}, IMc Z → K 0 (Z, LZ, PC aZ bZ P)) (h1 : ∀ {aZ bZ : Bool} {Z : cF} {LZ : cL}, IMc Z → K 1 (Z, LZ, PC aZ bZ P)) : p_Lw_at UL 0 x1 x2 x3 115 (F, L, PC a b P) K := by
  exact ⟨cl_0, h_B_at_u0 hI (fun _ => ⟨cl_115, vq, h0 hI⟩) (fun hZ _ => ⟨rfl, h1 hZ⟩)⟩
theorem sm_at {x1 : Int32} {x2 : Int32} {x3 : Int32} {S : ms} {K : Int32 → ms → Prop} (h : GM S) (hK : ∀ {v : Int32} {Z : ms}, GM Z → K v Z) : p_at x1 x2 x3 S K :=
  h_at h.1  (fun _ hZ g => hK (GM_ag h hZ g rfl rfl rfl rfl rfl rfl))
theorem sc_scale {a b : Bool} {P : Nat → Nat → Nat} {x1 : Int32} {x2 : Int32} {x3 : Int32} {F : cF} {L : cL} {K : Int32 → cs → Prop} (hI : IMc F) (h0 : ∀ {aZ bZ : Bool} {Z : cF} {LZ : cL}, IMc Z → (((0 ≤ x1.toInt) ∧ (x1.toInt ≤ 1)) ∧ ((((-1000) ≤ x2.toInt) ∧ (x2.toInt ≤ 1000)) ∧ (((-1000) ≤ x3.toInt) ∧ (x3.toInt ≤ 1000)))) → K 0 (Z, LZ, PC aZ bZ P)) (h1 : ∀ {aZ bZ : Bool} {Z : cF} {LZ : cL}, IMc Z → (((x1.toInt < 0) ∨ (1 < x1.toInt)) ∨ (((x2.toInt < (-1000)) ∨ (1000 < x2.toInt)) ∨ ((x3.toInt < (-1000)) ∨ (1000 < x3.toInt)))) → K 1 (Z, LZ, PC aZ bZ P)) : p_Lw_scale UL 0 x1 x2 x3 (F, L, PC a b P) K := by
  exact ⟨cl_0, h_B_scale_u0 hI (fun hZ _ p2 => h0 hZ p2) (fun hZ _ p2 => ⟨rfl, h1 hZ p2⟩)⟩
theorem sm_scale {x1 : Int32} {x2 : Int32} {x3 : Int32} {S : ms} {K : ms → Prop} (h : GM S) (hK : ∀ {Z : ms}, GM Z → ((((Z.1 0).toInt = 0) ∧ (((0 ≤ x1.toInt) ∧ (x1.toInt ≤ 1)) ∧ ((((-1000) ≤ x2.toInt) ∧ (x2.toInt ≤ 1000)) ∧ (((-1000) ≤ x3.toInt) ∧ (x3.toInt ≤ 1000))))) ∨ (((Z.1 0).toInt = 1) ∧ (((x1.toInt < 0) ∨ (1 < x1.toInt)) ∨ (((x2.toInt < (-1000)) ∨ (1000 < x2.toInt)) ∨ ((x3.toInt < (-1000)) ∨ (1000 < x3.toInt)))))) → K Z) : p_scale x1 x2 x3 S K :=
  h_scale h.1  (fun hZ g ans => hK (GM_ag h hZ g rfl rfl rfl rfl rfl rfl) ans)
theorem sc_entry {a b : Bool} {P : Nat → Nat → Nat} {x1 : Int32} {x2 : Int32} {x3 : Int32} {x4 : Int32} {F : cF} {L : cL} {K : Int32 → cs → Prop} (hI : IMc F) (h0 : ∀ {aZ bZ : Bool} {Z : cF} {LZ : cL}, IMc Z → (((0 ≤ x2.toInt) ∧ (x2.toInt ≤ 7)) ∧ ((0 ≤ x3.toInt) ∧ (x3.toInt ≤ 7))) → (((0 ≤ x1.toInt) ∧ (x1.toInt ≤ 1)) ∧ ((1 ≤ x4.toInt) ∧ (x4.toInt ≤ 255))) → K 0 (Z, LZ, PC aZ bZ P)) (h1 : ∀ {aZ bZ : Bool} {Z : cF} {LZ : cL}, IMc Z → (((x2.toInt < 0) ∨ (7 < x2.toInt)) ∨ ((x3.toInt < 0) ∨ (7 < x3.toInt))) → K 1 (Z, LZ, PC aZ bZ P)) (h2 : ∀ {aZ bZ : Bool} {Z : cF} {LZ : cL}, IMc Z → (((0 ≤ x2.toInt) ∧ (x2.toInt ≤ 7)) ∧ ((0 ≤ x3.toInt) ∧ (x3.toInt ≤ 7))) → (((x1.toInt < 0) ∨ (1 < x1.toInt)) ∨ ((x4.toInt < 1) ∨ (255 < x4.toInt))) → K 2 (Z, LZ, PC aZ bZ P)) : p_Lw_entry UL 0 x1 x2 x3 x4 (F, L, PC a b P) K := by
  exact ⟨cl_0, h_B_entry_u0 hI (fun hZ _ p2 p3 => h0 hZ p2 p3) (fun hZ _ p2 p3 => (Or.inr ⟨rfl, h2 hZ p2 p3⟩)) (fun hZ _ p2 => (Or.inl ⟨rfl, h1 hZ p2⟩))⟩
theorem sm_entry {x1 : Int32} {x2 : Int32} {x3 : Int32} {x4 : Int32} {S : ms} {K : ms → Prop} (h : GM S) (hK : ∀ {Z : ms}, GM Z → ((((Z.1 0).toInt = 0) ∧ ((((0 ≤ x2.toInt) ∧ (x2.toInt ≤ 7)) ∧ ((0 ≤ x3.toInt) ∧ (x3.toInt ≤ 7))) ∧ (((0 ≤ x1.toInt) ∧ (x1.toInt ≤ 1)) ∧ ((1 ≤ x4.toInt) ∧ (x4.toInt ≤ 255))))) ∨ ((((Z.1 0).toInt = 1) ∧ (((x2.toInt < 0) ∨ (7 < x2.toInt)) ∨ ((x3.toInt < 0) ∨ (7 < x3.toInt)))) ∨ (((Z.1 0).toInt = 2) ∧ ((((0 ≤ x2.toInt) ∧ (x2.toInt ≤ 7)) ∧ ((0 ≤ x3.toInt) ∧ (x3.toInt ≤ 7))) ∧ (((x1.toInt < 0) ∨ (1 < x1.toInt)) ∨ ((x4.toInt < 1) ∨ (255 < x4.toInt))))))) → K Z) : p_entry x1 x2 x3 x4 S K :=
  h_entry h.1  (fun hZ g ans => hK (GM_ag h hZ g rfl rfl rfl rfl rfl rfl) ans)
theorem sc_pack {a b : Bool} {P : Nat → Nat → Nat} {x1 : Int32} {x2 : Int32} {x3 : Int32} {F : cF} {L : cL} {K : Int32 → cs → Prop} (hI : IMc F) (h0 : ∀ {aZ bZ : Bool} {Z : cF} {LZ : cL}, IMc Z → K 0 (Z, LZ, PC aZ bZ P)) (h1 : ∀ {aZ bZ : Bool} {Z : cF} {LZ : cL}, IMc Z → K 1 (Z, LZ, PC aZ bZ P)) : p_Lw_pack UL 0 x1 x2 x3 115 (F, L, PC a b P) K := by
  exact ⟨cl_0, h_B_pack_u0 hI (fun _ hZ _ => ⟨cl_115, vq, h0 hZ⟩) (fun hZ _ => ⟨rfl, h1 hZ⟩)⟩
theorem sm_pack {x1 : Int32} {x2 : Int32} {x3 : Int32} {S : ms} {K : Int32 → ms → Prop} (h : GM S) (hK : ∀ {v : Int32} {Z : ms}, GM Z → K v Z) : p_pack x1 x2 x3 S K :=
  h_pack h.1 h.2.1 h.2.2.1 h.2.2.2.1 h.2.2.2.2.1 h.2.2.2.2.2 (fun _ hZ g q3 q4 q5 q6 q7 => hK (⟨hZ, q3, q4, q5, q6, q7⟩))
theorem sc_size {a b : Bool} {P : Nat → Nat → Nat} {F : cF} {L : cL} {K : Int32 → cs → Prop} (hI : IMc F) (h0 : ∀ {v : Int32} {aZ bZ : Bool} {Z : cF} {LZ : cL}, IMc Z → K v (Z, LZ, PC aZ bZ P)) : p_B_size UL 0 (F, L, PC a b P) K := by
  exact h_B_size_u0 hI (fun _ => h0 hI)
theorem sm_size {S : ms} {K : Int32 → ms → Prop} (h : GM S) (hK : ∀ {v : Int32} {Z : ms}, GM Z → K v Z) : p_size S K :=
  h_size h.1  (fun _ hZ g => hK (GM_ag h hZ g rfl rfl rfl rfl rfl rfl))
theorem sc_out {a b : Bool} {P : Nat → Nat → Nat} {x1 : Int32} {F : cF} {L : cL} {K : Int32 → cs → Prop} (hI : IMc F) (h0 : ∀ {aZ bZ : Bool} {Z : cF} {LZ : cL}, IMc Z → K 0 (Z, LZ, PC aZ bZ P)) (h1 : ∀ {aZ bZ : Bool} {Z : cF} {LZ : cL}, IMc Z → K 1 (Z, LZ, PC aZ bZ P)) : p_Lw_out UL 0 x1 115 (F, L, PC a b P) K := by
  exact ⟨cl_0, h_B_out_u0 hI (fun _ => ⟨cl_115, vq, h0 hI⟩) (fun hZ _ => ⟨rfl, h1 hZ⟩)⟩
theorem sm_out {x1 : Int32} {S : ms} {K : Int32 → ms → Prop} (h : GM S) (hK : ∀ {v : Int32} {Z : ms}, GM Z → K v Z) : p_out x1 S K :=
  h_out h.1  (fun _ hZ g => hK (GM_ag h hZ g rfl rfl rfl rfl rfl rfl))
theorem sc_feed {a b : Bool} {P : Nat → Nat → Nat} {x1 : Int32} {x2 : Int32} {x3 : Int32} {x4 : Int32} {x5 : Int32} {F : cF} {L : cL} {K : Int32 → cs → Prop} (hI : IMc F) (h0 : ∀ {aZ bZ : Bool} {Z : cF} {LZ : cL}, IMc Z → K 0 (Z, LZ, PC aZ bZ P)) (h1 : ∀ {aZ bZ : Bool} {Z : cF} {LZ : cL}, IMc Z → K 1 (Z, LZ, PC aZ bZ P)) : p_Lw_feed UL 0 x1 x2 x3 x4 x5 115 (F, L, PC a b P) K := by
  exact ⟨cl_0, h_B_feed_u0 hI (fun _ hZ _ => ⟨cl_115, vq, h0 hZ⟩) (fun hZ _ => ⟨rfl, h1 hZ⟩)⟩
theorem sm_feed {x1 : Int32} {x2 : Int32} {x3 : Int32} {x4 : Int32} {x5 : Int32} {S : ms} {K : Int32 → ms → Prop} (h : GM S) (hK : ∀ {v : Int32} {Z : ms}, GM Z → K v Z) : p_feed x1 x2 x3 x4 x5 S K :=
  h_feed h.1  (fun _ hZ g => hK (GM_ag h hZ g rfl rfl rfl rfl rfl rfl))
theorem sc_end {a b : Bool} {P : Nat → Nat → Nat} {x1 : Int32} {F : cF} {L : cL} {K : Int32 → cs → Prop} (hI : IMc F) (h0 : ∀ {aZ bZ : Bool} {Z : cF} {LZ : cL}, IMc Z → K 0 (Z, LZ, PC aZ bZ P)) (h1 : ∀ {aZ bZ : Bool} {Z : cF} {LZ : cL}, IMc Z → K 1 (Z, LZ, PC aZ bZ P)) : p_Lw_end UL 0 x1 (F, L, PC a b P) K := by
  exact ⟨cl_0, h_B_end_u0 hI (fun hZ _ => h0 hZ) (fun hZ _ => ⟨rfl, h1 hZ⟩)⟩
theorem sm_end {x1 : Int32} {S : ms} {K : ms → Prop} (h : GM S) (hK : ∀ {Z : ms}, GM Z → K Z) : p_end x1 S K :=
  h_end h.1  (fun hZ g => hK (GM_ag h hZ g rfl rfl rfl rfl rfl rfl))
theorem sc_change {a b : Bool} {P : Nat → Nat → Nat} {x1 : Int32} {x2 : Int32} {F : cF} {L : cL} {K : Int32 → cs → Prop} (hI : IMc F) (h0 : ∀ {aZ bZ : Bool} {Z : cF} {LZ : cL}, IMc Z → K 0 (Z, LZ, PC aZ bZ P)) (h1 : ∀ {aZ bZ : Bool} {Z : cF} {LZ : cL}, IMc Z → K 1 (Z, LZ, PC aZ bZ P)) (h2 : ∀ {aZ bZ : Bool} {Z : cF} {LZ : cL}, IMc Z → K 2 (Z, LZ, PC aZ bZ P)) : p_Lw_change UL 0 x1 x2 115 (F, L, PC a b P) K := by
  exact ⟨cl_0, h_B_change_u0 hI (fun _ hZ _ => ⟨cl_115, vq, h0 hZ⟩) (fun hZ _ => (Or.inr ⟨rfl, h2 hZ⟩)) (fun hZ _ => (Or.inl ⟨rfl, h1 hZ⟩))⟩
theorem sm_change {x1 : Int32} {x2 : Int32} {S : ms} {K : Int32 → ms → Prop} (h : GM S) (hK : ∀ {v : Int32} {Z : ms}, GM Z → K v Z) : p_change x1 x2 S K :=
  h_change h.1  (fun _ hZ g => hK (GM_ag h hZ g rfl rfl rfl rfl rfl rfl))
theorem sc_turn {a b : Bool} {P : Nat → Nat → Nat} {F : cF} {L : cL} {K : Int32 → cs → Prop} (hI : IMc F) (h0 : ∀ {aZ bZ : Bool} {Z : cF} {LZ : cL}, IMc Z → K 0 (Z, LZ, PC aZ bZ P)) (h1 : ∀ {aZ bZ : Bool} {Z : cF} {LZ : cL}, IMc Z → K 1 (Z, LZ, PC aZ bZ P)) : p_Lw_turn UL 0 115 (F, L, PC a b P) K := by
  exact ⟨cl_0, h_B_turn_u0 hI (fun _ hZ _ => ⟨cl_115, vq, h0 hZ⟩) (fun hZ _ => ⟨rfl, h1 hZ⟩)⟩
theorem sm_turn {S : ms} {K : Int32 → ms → Prop} (h : GM S) (hK : ∀ {v : Int32} {Z : ms}, GM Z → K v Z) : p_turn2 S K :=
  h_turn2 h.1  (fun _ hZ g => hK (GM_ag h hZ g rfl rfl rfl rfl rfl rfl))
theorem sc_unpack {a b : Bool} {P : Nat → Nat → Nat} {F : cF} {L : cL} {K : Int32 → cs → Prop} (hI : IMc F) (h0 : ∀ {v : Int32} {aZ bZ : Bool} {Z : cF} {LZ : cL}, IMc Z → K v (Z, LZ, PC aZ bZ P)) : p_B_unpack UL 0 (F, L, PC a b P) K := by
  exact h_B_unpack hI (fun hZ => h0 hZ)
theorem sm_unpack {S : ms} {K : Int32 → ms → Prop} (h : GM S) (hK : ∀ {v : Int32} {Z : ms}, GM Z → K v Z) : p_unpack S K :=
  h_unpack h.1 h.2.1 h.2.2.1 h.2.2.2.1 (fun _ hZ g q3 q4 q5 => hK (⟨hZ, q3, q4, q5, by rw [g.1 3 rfl]; exact h.2.2.2.2.1, fun c hc => by rw [g.2 27 rfl]; exact h.2.2.2.2.2 c hc⟩))
theorem sc_place {a b : Bool} {P : Nat → Nat → Nat} {F : cF} {L : cL} {K : Int32 → cs → Prop} (hI : IMc F) (h0 : ∀ {v : Int32} {aZ bZ : Bool} {Z : cF} {LZ : cL}, IMc Z → K v (Z, LZ, PC aZ bZ P)) : p_B_place UL 0 (F, L, PC a b P) K := by
  exact h_B_place_u0 hI (fun _ => h0 hI)
theorem sm_place {S : ms} {K : Int32 → ms → Prop} (h : GM S) (hK : ∀ {v : Int32} {Z : ms}, GM Z → K v Z) : p_place S K :=
  h_place h.1  (fun _ hZ g => hK (GM_ag h hZ g rfl rfl rfl rfl rfl rfl))
theorem sc_about {a b : Bool} {P : Nat → Nat → Nat} {x1 : Int32} {F : cF} {L : cL} {K : Int32 → cs → Prop} (hI : IMc F) (h0 : ∀ {aZ bZ : Bool} {Z : cF} {LZ : cL}, IMc Z → K 0 (Z, LZ, PC aZ bZ P)) (h1 : ∀ {aZ bZ : Bool} {Z : cF} {LZ : cL}, IMc Z → K 1 (Z, LZ, PC aZ bZ P)) (h2 : ∀ {aZ bZ : Bool} {Z : cF} {LZ : cL}, IMc Z → K 2 (Z, LZ, PC aZ bZ P)) : p_Lw_about UL 0 x1 115 (F, L, PC a b P) K := by
  cases a
  · exact ⟨cl_0, h_B_about_u0_a0 hI (fun _ => ⟨cl_115, vq, h0 hI⟩) (fun hZ _ => (Or.inr ⟨rfl, h2 hZ⟩)) (fun hZ _ => (Or.inl ⟨rfl, h1 hZ⟩))⟩
  · exact ⟨cl_0, h_B_about_u0_a1 hI (fun _ => ⟨cl_115, vq, h0 hI⟩) (fun hZ _ => (Or.inr ⟨rfl, h2 hZ⟩)) (fun hZ _ => (Or.inl ⟨rfl, h1 hZ⟩))⟩
theorem sm_about {x1 : Int32} {S : ms} {K : Int32 → ms → Prop} (h : GM S) (hK : ∀ {v : Int32} {Z : ms}, GM Z → K v Z) : p_about x1 S K :=
  h_about h.1  (fun _ hZ g => hK (GM_ag h hZ g rfl rfl rfl rfl rfl rfl))
theorem sc_sample {a b : Bool} {P : Nat → Nat → Nat} {x1 : Int32} {x2 : Int32} {x3 : Int32} {F : cF} {L : cL} {K : Int32 → cs → Prop} (hI : IMc F) (h0 : ∀ {aZ bZ : Bool} {Z : cF} {LZ : cL}, IMc Z → K 0 (Z, LZ, PC aZ bZ P)) (h1 : ∀ {aZ bZ : Bool} {Z : cF} {LZ : cL}, IMc Z → K 1 (Z, LZ, PC aZ bZ P)) (h2 : ∀ {aZ bZ : Bool} {Z : cF} {LZ : cL}, IMc Z → K 2 (Z, LZ, PC aZ bZ P)) : p_Lw_sample UL 0 x1 x2 x3 115 (F, L, PC a b P) K := by
  cases a
  · exact ⟨cl_0, h_B_sample_u0_a0 hI (fun _ hZ _ => ⟨cl_115, vq, h0 hZ⟩) (fun hZ _ => (Or.inl ⟨rfl, h1 hZ⟩)) (fun hZ _ => (Or.inr ⟨rfl, h2 hZ⟩))⟩
  · exact ⟨cl_0, h_B_sample_u0_a1 hI (fun _ hZ _ => ⟨cl_115, vq, h0 hZ⟩) (fun hZ _ => (Or.inl ⟨rfl, h1 hZ⟩)) (fun hZ _ => (Or.inr ⟨rfl, h2 hZ⟩))⟩
theorem sm_sample {x1 : Int32} {x2 : Int32} {x3 : Int32} {S : ms} {K : Int32 → ms → Prop} (h : GM S) (hK : ∀ {v : Int32} {Z : ms}, GM Z → K v Z) : p_sample x1 x2 x3 S K :=
  h_sample h.1 h.2.1 h.2.2.1 h.2.2.2.1 (fun _ hZ g => hK (GM_ag h hZ g rfl rfl rfl rfl rfl rfl))
theorem sc_level {a b : Bool} {P : Nat → Nat → Nat} {x1 : Int32} {x2 : Int32} {x3 : Int32} {x4 : Int32} {F : cF} {L : cL} {K : Int32 → cs → Prop} (hI : IMc F) (h0 : ∀ {aZ bZ : Bool} {Z : cF} {LZ : cL}, IMc Z → K 0 (Z, LZ, PC aZ bZ P)) (h1 : ∀ {aZ bZ : Bool} {Z : cF} {LZ : cL}, IMc Z → K 1 (Z, LZ, PC aZ bZ P)) (h2 : ∀ {aZ bZ : Bool} {Z : cF} {LZ : cL}, IMc Z → K 2 (Z, LZ, PC aZ bZ P)) (h3 : ∀ {aZ bZ : Bool} {Z : cF} {LZ : cL}, IMc Z → K 3 (Z, LZ, PC aZ bZ P)) : p_Lw_level UL 0 x1 x2 x3 x4 115 (F, L, PC a b P) K := by
  cases a
  · exact ⟨cl_0, h_B_level_u0_a0 hI (fun _ => ⟨cl_115, vq, h0 hI⟩) (fun hZ _ => (Or.inr (Or.inl ⟨rfl, h2 hZ⟩))) (fun hZ _ => (Or.inl ⟨rfl, h1 hZ⟩)) (fun hZ _ => (Or.inr (Or.inr ⟨rfl, h3 hZ⟩)))⟩
  · exact ⟨cl_0, h_B_level_u0_a1 hI (fun _ => ⟨cl_115, vq, h0 hI⟩) (fun hZ _ => (Or.inr (Or.inl ⟨rfl, h2 hZ⟩))) (fun hZ _ => (Or.inl ⟨rfl, h1 hZ⟩)) (fun hZ _ => (Or.inr (Or.inr ⟨rfl, h3 hZ⟩)))⟩
theorem sm_level {x1 : Int32} {x2 : Int32} {x3 : Int32} {x4 : Int32} {S : ms} {K : Int32 → ms → Prop} (h : GM S) (hK : ∀ {v : Int32} {Z : ms}, GM Z → K v Z) : p_level x1 x2 x3 x4 S K :=
  h_level h.1  (fun _ hZ g => hK (GM_ag h hZ g rfl rfl rfl rfl rfl rfl))
theorem sc_take {a b : Bool} {P : Nat → Nat → Nat} {F : cF} {L : cL} {K : Int32 → cs → Prop} (hI : IMc F) (h0 : ∀ {aZ bZ : Bool} {Z : cF} {LZ : cL}, IMc Z → K 0 (Z, LZ, PC aZ bZ P)) (h1 : ∀ {aZ bZ : Bool} {Z : cF} {LZ : cL}, IMc Z → K 1 (Z, LZ, PC aZ bZ P)) : p_Lw_take UL 0 (F, L, PC a b P) K := by
  cases a
  · exact ⟨cl_0, h_B_take_u0_a0 hI (fun hZ _ => h0 hZ) (fun hZ _ => ⟨rfl, h1 hZ⟩)⟩
  · exact ⟨cl_0, h_B_take_u0_a1 hI (fun hZ _ => h0 hZ) (fun hZ _ => ⟨rfl, h1 hZ⟩)⟩
theorem sm_take {S : ms} {K : ms → Prop} (h : GM S) (hK : ∀ {Z : ms}, GM Z → K Z) : p_take S K :=
  h_take h.1 h.2.1 h.2.2.1 h.2.2.2.1 h.2.2.2.2.1 (fun hZ g q2 => hK (GM_pl h hZ g q2 rfl rfl rfl rfl rfl))
