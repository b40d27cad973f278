/-! EVERY CALL, on both sides at once: the same answer, and RL again -/
theorem pl_3 {M : ms} (h : GM M) : ∃ n, (n = 1 ∨ n = 3) ∧ M.1 3 = nI n := by
  rcases h.2.2.2.2.1 with e | e
  · exact ⟨1, Or.inl rfl, Int32.toInt.inj (by rw [e]; decide)⟩
  · exact ⟨3, Or.inr rfl, Int32.toInt.inj (by rw [e]; decide)⟩
theorem p7_is {a b : Bool} {P : Nat → Nat → Nat} : PC a b P 0 7 = sU a := by cases a <;> rfl
theorem IM_row {M : ms} (h : IM M) {r : Nat} (hr : r < 58) (h5 : r ≠ 5) (k : Nat) : B (bR.getD r (0, 0)).1 (bR.getD r (0, 0)).2 (M.2.1 r k) := by
  refine h.2 r hr k ?_
  unfold okr
  rw [show Nat.beq r 5 = false from Bool.eq_false_iff.mpr (fun e => h5 (Nat.eq_of_beq_eq_true e))]
  rfl
theorem IM_tab {M : ms} (h : IM M) {k : Nat} (hk : k < 128) : B 1 255 (M.2.1 5 k) := by
  refine h.2 5 (by decide) k ?_
  unfold okr
  rw [show Nat.ble 128 k = false from Bool.eq_false_iff.mpr (fun e => by have := Nat.le_of_ble_eq_true e; omega)]
  rfl
theorem nat_of {x : Int32} {lo hi : Int} (h : B lo hi x) (h0 : 0 ≤ lo) : ∃ n : Nat, lo ≤ (n : Int) ∧ (n : Int) ≤ hi ∧ x = nI n := by
  refine ⟨x.toInt.toNat, ?_, ?_, nI_i (by have := h.1; omega)⟩
  · have := h.1; omega
  · have := h.1; have := h.2; omega
/-- what pack wants -/
theorem pk_of {u : Nat} {M : ms} {F : cF} (hI : IMc F) (hM : GM M) (h : RL u M F) : ∃ n W H, pkI n W H M F := by
  obtain ⟨n, hn, h3⟩ := pl_3 hM
  obtain ⟨W, w1, w2, hW⟩ := nat_of (hM.1.1 1 (by decide)) (by decide)
  obtain ⟨H, g1, g2, hH⟩ := nat_of (hM.1.1 2 (by decide)) (by decide)
  have w1 : (1 : Int) ≤ W := w1
  have w2 : (W : Int) ≤ 64 := w2
  have g1 : (1 : Int) ≤ H := g1
  have g2 : (H : Int) ≤ 64 := g2
  refine ⟨n, W, H, h.1, h.2.1, hn, ⟨by omega, by omega⟩, ⟨by omega, by omega⟩, hW, hH, h3, fun k hk => IM_tab hM.1 hk, fun k => IM_row hM.1 (by decide) (by decide) k, fun k hk => ?_, h.2.2.2.2.1.1, h.2.2.2.2.1.2.1, fun k => IM_row hM.1 (by decide) (by decide) k, fun k => hI 8 k, h.2.2.2.2.1.2.2.1, h.2.2.2.2.1.2.2.2.1, h.2.2.2.2.1.2.2.2.2⟩
  have t := h.1.2.2.2 (k % 64) (k / 64 % 64) (k / 4096) (by omega) (by omega) (by omega)
  unfold cvw cv at t
  rw [show 4096 * (k / 4096) + 64 * (k / 64 % 64) + k % 64 = k by omega] at t
  rw [t]
  exact IM_row hM.1 (r := 4) (by decide) (by decide) _

theorem lv_115 {L : cL} {x : Int64} : va_up L 115 (vp_updL (L 115) (0 : Int32).toNatClampNeg x) 115 0 = x := by
  rw [vu_at]
  simp [vp_updL]
theorem j_canvas {a b : Bool} {P : Nat → Nat → Nat} {F : cF} {L : cL} {M : ms} {x1 : Int32} {x2 : Int32} {x3 : Int32} (hI : IMc F) (hM : GM M) (hR : RL (sU a) M F) {G : Prop} (k : ∀ (c : Int32) (F' : cF) (L' : cL) (a' b' : Bool) (M' : ms), IMc F' → GM M' → RL (sU a') M' F' → c = M'.1 0 → (∀ K : Int32 → cs → Prop, K c (F', L', PC a' b' P) → p_Lw_canvas UL 0 x1 x2 x3 (F, L, PC a b P) K) → (∀ K : ms → Prop, K M' → p_canvas x1 x2 x3 M K) → G) : G := by
  have h1 : p_canvas x1 x2 x3 M (fun Z => (∀ K : ms → Prop, K Z → p_canvas x1 x2 x3 M K) ∧ GM Z) := d_p_canvas (sm_canvas (K := fun Z => GM Z) hM (fun h _ => h)) (fun Z hz hi => (hi _).mpr ⟨fun K hk => (hi K).mpr hk, hz⟩)
  have h2 : p_B_canvas UL 0 x1 x2 x3 (F, L, PC a b P) (fun S => (∀ (K : cs → Prop) (T : Nat → cs → Prop), K S → p_B_canvas UL 0 x1 x2 x3 (F, L, PC a b P) K T) ∧ IMc S.1) (fun c S => (∀ (K : cs → Prop) (T : Nat → cs → Prop), T c S → p_B_canvas UL 0 x1 x2 x3 (F, L, PC a b P) K T) ∧ IMc S.1) := d_p_B_canvas (sc_canvas (K := fun _ S => IMc S.1) hI (fun h _ => h) (fun h _ => h)).2 (fun S hz hi => (hi _ _).mpr ⟨fun K T hk => (hi K T).mpr hk, hz⟩) (fun c S hz hi => (hi _ _).mpr ⟨fun K T hk => (hi K T).mpr hk, hz.2⟩)
  rcases x_canvas h1 h2 with ⟨M', F', ha, hg, e0, rc, ⟨m1, m2⟩, ⟨c1, c2⟩⟩ | ⟨⟨m1, m2⟩, ⟨c1, c2⟩⟩
  · exact k 0 F' L a b M' c2 m2 (RL_can (sU_is a) hR (ag_w ha rfl rfl) (agc_w hg rfl rfl) rc) e0.symm (fun K hk => ⟨cl_0, c1 _ _ hk⟩) m1
  · exact k 1 F L a b _ c2 m2 (RL_0 hR) rfl (fun K hk => ⟨cl_0, c1 _ _ (⟨rfl, hk⟩)⟩) m1
theorem j_fill {a b : Bool} {P : Nat → Nat → Nat} {F : cF} {L : cL} {M : ms} {x1 : Int32} {x2 : Int32} {x3 : Int32} {x4 : Int32} {x5 : Int32} (hI : IMc F) (hM : GM M) (hR : RL (sU a) M F) {G : Prop} (k : ∀ (c : Int32) (F' : cF) (L' : cL) (a' b' : Bool) (M' : ms), IMc F' → GM M' → RL (sU a') M' F' → c = M'.1 0 → (∀ K : Int32 → cs → Prop, K c (F', L', PC a' b' P) → p_Lw_fill UL 0 x1 x2 x3 x4 x5 (F, L, PC a b P) K) → (∀ K : ms → Prop, K M' → p_fill x1 x2 x3 x4 x5 M K) → G) : G := by
  have h1 : p_fill x1 x2 x3 x4 x5 M (fun Z => (∀ K : ms → Prop, K Z → p_fill x1 x2 x3 x4 x5 M K) ∧ GM Z) := d_p_fill (sm_fill (K := fun Z => GM Z) hM (fun h => h)) (fun Z hz hi => (hi _).mpr ⟨fun K hk => (hi K).mpr hk, hz⟩)
  have h2 : p_B_fill UL 0 x1 x2 x3 x4 x5 (F, L, PC a b P) (fun S => (∀ (K : cs → Prop) (T : Nat → cs → Prop), K S → p_B_fill UL 0 x1 x2 x3 x4 x5 (F, L, PC a b P) K T) ∧ IMc S.1) (fun c S => (∀ (K : cs → Prop) (T : Nat → cs → Prop), T c S → p_B_fill UL 0 x1 x2 x3 x4 x5 (F, L, PC a b P) K T) ∧ IMc S.1) := d_p_B_fill (sc_fill (K := fun _ S => IMc S.1) hI (fun h => h) (fun h => h)).2 (fun S hz hi => (hi _ _).mpr ⟨fun K T hk => (hi K T).mpr hk, hz⟩) (fun c S hz hi => (hi _ _).mpr ⟨fun K T hk => (hi K T).mpr hk, hz.2⟩)
  obtain ⟨n, hn, h3⟩ := pl_3 hM
  rcases x_fill hM.1 hR.1 h3 hn h1 h2 with ⟨M', F', ha, hg, e0, rc, ⟨m1, m2⟩, ⟨c1, c2⟩⟩ | ⟨⟨m1, m2⟩, ⟨c1, c2⟩⟩
  · exact k 0 F' L a b M' c2 m2 (RL_can (sU_is a) hR (ag_w ha rfl rfl) (agc_w hg rfl rfl) rc) e0.symm (fun K hk => ⟨cl_0, c1 _ _ hk⟩) m1
  · exact k 1 F L a b _ c2 m2 (RL_0 hR) rfl (fun K hk => ⟨cl_0, c1 _ _ (⟨rfl, hk⟩)⟩) m1
theorem j_slope {a b : Bool} {P : Nat → Nat → Nat} {F : cF} {L : cL} {M : ms} {x1 : Int32} {x2 : Int32} {x3 : Int32} {x4 : Int32} {x5 : Int32} {x6 : Int32} (hI : IMc F) (hM : GM M) (hR : RL (sU a) M F) {G : Prop} (k : ∀ (c : Int32) (F' : cF) (L' : cL) (a' b' : Bool) (M' : ms), IMc F' → GM M' → RL (sU a') M' F' → c = M'.1 0 → (∀ K : Int32 → cs → Prop, K c (F', L', PC a' b' P) → p_Lw_slope UL 0 x1 x2 x3 x4 x5 x6 (F, L, PC a b P) K) → (∀ K : ms → Prop, K M' → p_slope x1 x2 x3 x4 x5 x6 M K) → G) : G := by
  have h1 : p_slope x1 x2 x3 x4 x5 x6 M (fun Z => (∀ K : ms → Prop, K Z → p_slope x1 x2 x3 x4 x5 x6 M K) ∧ GM Z) := d_p_slope (sm_slope (K := fun Z => GM Z) hM (fun h => h)) (fun Z hz hi => (hi _).mpr ⟨fun K hk => (hi K).mpr hk, hz⟩)
  have h2 : p_B_slope UL 0 x1 x2 x3 x4 x5 x6 (F, L, PC a b P) (fun S => (∀ (K : cs → Prop) (T : Nat → cs → Prop), K S → p_B_slope UL 0 x1 x2 x3 x4 x5 x6 (F, L, PC a b P) K T) ∧ IMc S.1) (fun c S => (∀ (K : cs → Prop) (T : Nat → cs → Prop), T c S → p_B_slope UL 0 x1 x2 x3 x4 x5 x6 (F, L, PC a b P) K T) ∧ IMc S.1) := d_p_B_slope (sc_slope (K := fun _ S => IMc S.1) hI (fun h => h) (fun h => h)).2 (fun S hz hi => (hi _ _).mpr ⟨fun K T hk => (hi K T).mpr hk, hz⟩) (fun c S hz hi => (hi _ _).mpr ⟨fun K T hk => (hi K T).mpr hk, hz.2⟩)
  obtain ⟨n, hn, h3⟩ := pl_3 hM
  rcases x_slope hM.1 hR.1 h3 hn h1 h2 with ⟨M', F', ha, hg, e0, rc, ⟨m1, m2⟩, ⟨c1, c2⟩⟩ | ⟨⟨m1, m2⟩, ⟨c1, c2⟩⟩
  · exact k 0 F' L a b M' c2 m2 (RL_can (sU_is a) hR (ag_w ha rfl rfl) (agc_w hg rfl rfl) rc) e0.symm (fun K hk => ⟨cl_0, c1 _ _ hk⟩) m1
  · exact k 1 F L a b _ c2 m2 (RL_0 hR) rfl (fun K hk => ⟨cl_0, c1 _ _ (⟨rfl, hk⟩)⟩) m1
theorem j_at {a b : Bool} {P : Nat → Nat → Nat} {F : cF} {L : cL} {M : ms} {x1 : Int32} {x2 : Int32} {x3 : Int32} (hI : IMc F) (hM : GM M) (hR : RL (sU a) M F) {G : Prop} (k : ∀ (c : Int32) (F' : cF) (L' : cL) (a' b' : Bool) (v : Int32) (M' : ms), IMc F' → GM M' → RL (sU a') M' F' → c = M'.1 0 → (c = 0 → L' 115 0 = v.toInt64) → (∀ K : Int32 → cs → Prop, K c (F', L', PC a' b' P) → p_Lw_at UL 0 x1 x2 x3 115 (F, L, PC a b P) K) → (∀ K : Int32 → ms → Prop, K v M' → p_at x1 x2 x3 M K) → G) : G := by
  have h1 : p_at x1 x2 x3 M (fun w Z => (∀ K : Int32 → ms → Prop, K w Z → p_at x1 x2 x3 M K) ∧ GM Z) := d_p_at (sm_at (K := fun w Z => GM Z) hM (fun h => h)) (fun w Z hz hi => (hi _).mpr ⟨fun K hk => (hi K).mpr hk, hz⟩)
  have h2 : p_B_at UL 0 x1 x2 x3 (F, L, PC a b P) (fun w S => (∀ (K : Int32 → cs → Prop) (T : Nat → cs → Prop), K w S → p_B_at UL 0 x1 x2 x3 (F, L, PC a b P) K T) ∧ IMc S.1) (fun c S => (∀ (K : Int32 → cs → Prop) (T : Nat → cs → Prop), T c S → p_B_at UL 0 x1 x2 x3 (F, L, PC a b P) K T) ∧ IMc S.1) := d_p_B_at (sc_at (K := fun _ S => IMc S.1) hI (fun h => h) (fun h => h)).2 (fun w S hz hi => (hi _ _).mpr ⟨fun K T hk => (hi K T).mpr hk, hz.2.2⟩) (fun c S hz hi => (hi _ _).mpr ⟨fun K T hk => (hi K T).mpr hk, hz.2⟩)
  rcases x_at hM.1 hR.1 h1 h2 with ⟨v, ⟨m1, m2⟩, ⟨c1, c2⟩⟩ | ⟨⟨m1, m2⟩, ⟨c1, c2⟩⟩
  · exact k 0 F (va_up L 115 (vp_updL (L 115) (0 : Int32).toNatClampNeg v.toInt64)) a b v _ c2 m2 (RL_0 hR) rfl (fun _ => lv_115) (fun K hk => ⟨cl_0, c1 _ _ ⟨cl_115, vq, hk⟩⟩) m1
  · exact k 1 F L a b 0 _ c2 m2 (RL_0 hR) rfl (fun q => absurd q (by decide)) (fun K hk => ⟨cl_0, c1 _ _ (⟨rfl, hk⟩)⟩) m1
theorem j_scale {a b : Bool} {P : Nat → Nat → Nat} {F : cF} {L : cL} {M : ms} {x1 : Int32} {x2 : Int32} {x3 : Int32} (hI : IMc F) (hM : GM M) (hR : RL (sU a) M F) {G : Prop} (k : ∀ (c : Int32) (F' : cF) (L' : cL) (a' b' : Bool) (M' : ms), IMc F' → GM M' → RL (sU a') M' F' → c = M'.1 0 → (∀ K : Int32 → cs → Prop, K c (F', L', PC a' b' P) → p_Lw_scale UL 0 x1 x2 x3 (F, L, PC a b P) K) → (∀ K : ms → Prop, K M' → p_scale x1 x2 x3 M K) → G) : G := by
  have h1 : p_scale x1 x2 x3 M (fun Z => (∀ K : ms → Prop, K Z → p_scale x1 x2 x3 M K) ∧ GM Z) := d_p_scale (sm_scale (K := fun Z => GM Z) hM (fun h _ => h)) (fun Z hz hi => (hi _).mpr ⟨fun K hk => (hi K).mpr hk, hz⟩)
  have h2 : p_B_scale UL 0 x1 x2 x3 (F, L, PC a b P) (fun S => (∀ (K : cs → Prop) (T : Nat → cs → Prop), K S → p_B_scale UL 0 x1 x2 x3 (F, L, PC a b P) K T) ∧ IMc S.1) (fun c S => (∀ (K : cs → Prop) (T : Nat → cs → Prop), T c S → p_B_scale UL 0 x1 x2 x3 (F, L, PC a b P) K T) ∧ IMc S.1) := d_p_B_scale (sc_scale (K := fun _ S => IMc S.1) hI (fun h _ => h) (fun h _ => h)).2 (fun S hz hi => (hi _ _).mpr ⟨fun K T hk => (hi K T).mpr hk, hz⟩) (fun c S hz hi => (hi _ _).mpr ⟨fun K T hk => (hi K T).mpr hk, hz.2⟩)
  rcases x_scale hR.2.1 h1 h2 with ⟨M', F', ha, hg, e0, rc, ⟨m1, m2⟩, ⟨c1, c2⟩⟩ | ⟨⟨m1, m2⟩, ⟨c1, c2⟩⟩
  · exact k 0 F' L a b M' c2 m2 (RL_tab (sU_is a) hR ha hg rc) e0.symm (fun K hk => ⟨cl_0, c1 _ _ hk⟩) m1
  · exact k 1 F L a b _ c2 m2 (RL_0 hR) rfl (fun K hk => ⟨cl_0, c1 _ _ (⟨rfl, hk⟩)⟩) m1
theorem j_entry {a b : Bool} {P : Nat → Nat → Nat} {F : cF} {L : cL} {M : ms} {x1 : Int32} {x2 : Int32} {x3 : Int32} {x4 : Int32} (hI : IMc F) (hM : GM M) (hR : RL (sU a) M F) {G : Prop} (k : ∀ (c : Int32) (F' : cF) (L' : cL) (a' b' : Bool) (M' : ms), IMc F' → GM M' → RL (sU a') M' F' → c = M'.1 0 → (∀ K : Int32 → cs → Prop, K c (F', L', PC a' b' P) → p_Lw_entry UL 0 x1 x2 x3 x4 (F, L, PC a b P) K) → (∀ K : ms → Prop, K M' → p_entry x1 x2 x3 x4 M K) → G) : G := by
  have h1 : p_entry x1 x2 x3 x4 M (fun Z => (∀ K : ms → Prop, K Z → p_entry x1 x2 x3 x4 M K) ∧ GM Z) := d_p_entry (sm_entry (K := fun Z => GM Z) hM (fun h _ => h)) (fun Z hz hi => (hi _).mpr ⟨fun K hk => (hi K).mpr hk, hz⟩)
  have h2 : p_B_entry UL 0 x1 x2 x3 x4 (F, L, PC a b P) (fun S => (∀ (K : cs → Prop) (T : Nat → cs → Prop), K S → p_B_entry UL 0 x1 x2 x3 x4 (F, L, PC a b P) K T) ∧ IMc S.1) (fun c S => (∀ (K : cs → Prop) (T : Nat → cs → Prop), T c S → p_B_entry UL 0 x1 x2 x3 x4 (F, L, PC a b P) K T) ∧ IMc S.1) := d_p_B_entry (sc_entry (K := fun _ S => IMc S.1) hI (fun h _ _ => h) (fun h _ => h) (fun h _ _ => h)).2 (fun S hz hi => (hi _ _).mpr ⟨fun K T hk => (hi K T).mpr hk, hz⟩) (fun c S hz hi => (hi _ _).mpr ⟨fun K T hk => (hi K T).mpr hk, (hz.elim (fun q => q.2) (fun q => q.2))⟩)
  rcases x_entry hR.2.1 h1 h2 with ⟨M', F', ha, hg, e0, rc, ⟨m1, m2⟩, ⟨c1, c2⟩⟩ | ⟨⟨m1, m2⟩, ⟨c1, c2⟩⟩ | ⟨⟨m1, m2⟩, ⟨c1, c2⟩⟩
  · exact k 0 F' L a b M' c2 m2 (RL_tab (sU_is a) hR ha hg rc) e0.symm (fun K hk => ⟨cl_0, c1 _ _ hk⟩) m1
  · exact k 1 F L a b _ c2 m2 (RL_0 hR) rfl (fun K hk => ⟨cl_0, c1 _ _ (Or.inl ⟨rfl, hk⟩)⟩) m1
  · exact k 2 F L a b _ c2 m2 (RL_0 hR) rfl (fun K hk => ⟨cl_0, c1 _ _ (Or.inr (⟨rfl, hk⟩))⟩) m1
theorem j_pack {a b : Bool} {P : Nat → Nat → Nat} {F : cF} {L : cL} {M : ms} {x1 : Int32} {x2 : Int32} {x3 : Int32} (hI : IMc F) (hM : GM M) (hR : RL (sU a) M F) {G : Prop} (k : ∀ (c : Int32) (F' : cF) (L' : cL) (a' b' : Bool) (v : Int32) (M' : ms), IMc F' → GM M' → RL (sU a') M' F' → c = M'.1 0 → (c = 0 → L' 115 0 = v.toInt64) → (∀ K : Int32 → cs → Prop, K c (F', L', PC a' b' P) → p_Lw_pack UL 0 x1 x2 x3 115 (F, L, PC a b P) K) → (∀ K : Int32 → ms → Prop, K v M' → p_pack x1 x2 x3 M K) → G) : G := by
  have h1 : p_pack x1 x2 x3 M (fun w Z => (∀ K : Int32 → ms → Prop, K w Z → p_pack x1 x2 x3 M K) ∧ GM Z) := d_p_pack (sm_pack (K := fun w Z => GM Z) hM (fun h => h)) (fun w Z hz hi => (hi _).mpr ⟨fun K hk => (hi K).mpr hk, hz⟩)
  have h2 : p_B_pack UL 0 x1 x2 x3 (F, L, PC a b P) (fun w S => (∀ (K : Int32 → cs → Prop) (T : Nat → cs → Prop), K w S → p_B_pack UL 0 x1 x2 x3 (F, L, PC a b P) K T) ∧ IMc S.1) (fun c S => (∀ (K : Int32 → cs → Prop) (T : Nat → cs → Prop), T c S → p_B_pack UL 0 x1 x2 x3 (F, L, PC a b P) K T) ∧ IMc S.1) := d_p_B_pack (sc_pack (K := fun _ S => IMc S.1) hI (fun h => h) (fun h => h)).2 (fun w S hz hi => (hi _ _).mpr ⟨fun K T hk => (hi K T).mpr hk, hz.2.2⟩) (fun c S hz hi => (hi _ _).mpr ⟨fun K T hk => (hi K T).mpr hk, hz.2⟩)
  obtain ⟨n, W, H, hp⟩ := pk_of hI hM hR
  rcases x_pack hp h1 h2 with ⟨A, D, M', F', L', b', po, ⟨m1, m2⟩, ⟨c1, c2⟩⟩ | ⟨⟨m1, m2⟩, ⟨c1, c2⟩⟩
  · have ev : F' 5 1 = M'.1 9 := po.1.1
    rw [ev] at c1
    exact k 0 F' (va_up L' 115 (vp_updL (L' 115) (0 : Int32).toNatClampNeg (M'.1 9).toInt64)) a b' (M'.1 9) M' c2 m2 (RL_pack (sU_is a) hR po) po.2.1.symm (fun _ => lv_115) (fun K hk => ⟨cl_0, c1 _ _ ⟨cl_115, vq, hk⟩⟩) m1
  · exact k 1 F L a b 0 _ c2 m2 (RL_0 hR) rfl (fun q => absurd q (by decide)) (fun K hk => ⟨cl_0, c1 _ _ (⟨rfl, hk⟩)⟩) m1
theorem j_out {a b : Bool} {P : Nat → Nat → Nat} {F : cF} {L : cL} {M : ms} {x1 : Int32} (hI : IMc F) (hM : GM M) (hR : RL (sU a) M F) {G : Prop} (k : ∀ (c : Int32) (F' : cF) (L' : cL) (a' b' : Bool) (v : Int32) (M' : ms), IMc F' → GM M' → RL (sU a') M' F' → c = M'.1 0 → (c = 0 → L' 115 0 = v.toInt64) → (∀ K : Int32 → cs → Prop, K c (F', L', PC a' b' P) → p_Lw_out UL 0 x1 115 (F, L, PC a b P) K) → (∀ K : Int32 → ms → Prop, K v M' → p_out x1 M K) → G) : G := by
  have h1 : p_out x1 M (fun w Z => (∀ K : Int32 → ms → Prop, K w Z → p_out x1 M K) ∧ GM Z) := d_p_out (sm_out (K := fun w Z => GM Z) hM (fun h => h)) (fun w Z hz hi => (hi _).mpr ⟨fun K hk => (hi K).mpr hk, hz⟩)
  have h2 : p_B_out UL 0 x1 (F, L, PC a b P) (fun w S => (∀ (K : Int32 → cs → Prop) (T : Nat → cs → Prop), K w S → p_B_out UL 0 x1 (F, L, PC a b P) K T) ∧ IMc S.1) (fun c S => (∀ (K : Int32 → cs → Prop) (T : Nat → cs → Prop), T c S → p_B_out UL 0 x1 (F, L, PC a b P) K T) ∧ IMc S.1) := d_p_B_out (sc_out (K := fun _ S => IMc S.1) hI (fun h => h) (fun h => h)).2 (fun w S hz hi => (hi _ _).mpr ⟨fun K T hk => (hi K T).mpr hk, hz.2.2⟩) (fun c S hz hi => (hi _ _).mpr ⟨fun K T hk => (hi K T).mpr hk, hz.2⟩)
  rcases x_out hR.2.2.2.1 h1 h2 with ⟨v, ⟨m1, m2⟩, ⟨c1, c2⟩⟩ | ⟨⟨m1, m2⟩, ⟨c1, c2⟩⟩
  · exact k 0 F (va_up L 115 (vp_updL (L 115) (0 : Int32).toNatClampNeg v.toInt64)) a b v _ c2 m2 (RL_0 hR) rfl (fun _ => lv_115) (fun K hk => ⟨cl_0, c1 _ _ ⟨cl_115, vq, hk⟩⟩) m1
  · exact k 1 F L a b 0 _ c2 m2 (RL_0 hR) rfl (fun q => absurd q (by decide)) (fun K hk => ⟨cl_0, c1 _ _ (⟨rfl, hk⟩)⟩) m1
theorem j_feed {a b : Bool} {P : Nat → Nat → Nat} {F : cF} {L : cL} {M : ms} {x1 : Int32} {x2 : Int32} {x3 : Int32} {x4 : Int32} {x5 : Int32} (hI : IMc F) (hM : GM M) (hR : RL (sU a) M F) {G : Prop} (k : ∀ (c : Int32) (F' : cF) (L' : cL) (a' b' : Bool) (v : Int32) (M' : ms), IMc F' → GM M' → RL (sU a') M' F' → c = M'.1 0 → (c = 0 → L' 115 0 = v.toInt64) → (∀ K : Int32 → cs → Prop, K c (F', L', PC a' b' P) → p_Lw_feed UL 0 x1 x2 x3 x4 x5 115 (F, L, PC a b P) K) → (∀ K : Int32 → ms → Prop, K v M' → p_feed x1 x2 x3 x4 x5 M K) → G) : G := by
  have h1 : p_feed x1 x2 x3 x4 x5 M (fun w Z => (∀ K : Int32 → ms → Prop, K w Z → p_feed x1 x2 x3 x4 x5 M K) ∧ GM Z) := d_p_feed (sm_feed (K := fun w Z => GM Z) hM (fun h => h)) (fun w Z hz hi => (hi _).mpr ⟨fun K hk => (hi K).mpr hk, hz⟩)
  have h2 : p_B_feed UL 0 x1 x2 x3 x4 x5 (F, L, PC a b P) (fun w S => (∀ (K : Int32 → cs → Prop) (T : Nat → cs → Prop), K w S → p_B_feed UL 0 x1 x2 x3 x4 x5 (F, L, PC a b P) K T) ∧ IMc S.1) (fun c S => (∀ (K : Int32 → cs → Prop) (T : Nat → cs → Prop), T c S → p_B_feed UL 0 x1 x2 x3 x4 x5 (F, L, PC a b P) K T) ∧ IMc S.1) := d_p_B_feed (sc_feed (K := fun _ S => IMc S.1) hI (fun h => h) (fun h => h)).2 (fun w S hz hi => (hi _ _).mpr ⟨fun K T hk => (hi K T).mpr hk, hz.2.2⟩) (fun c S hz hi => (hi _ _).mpr ⟨fun K T hk => (hi K T).mpr hk, hz.2⟩)
  rcases x_feed hM.1 hR.2.2.1 h1 h2 with ⟨v, M', F', ha, hg, e0, rc, ⟨m1, m2⟩, ⟨c1, c2⟩⟩ | ⟨⟨m1, m2⟩, ⟨c1, c2⟩⟩
  · exact k 0 F' (va_up L 115 (vp_updL (L 115) (0 : Int32).toNatClampNeg v.toInt64)) a b v M' c2 m2 (RL_tape (sU_is a) hR (ag_w ha rfl rfl) (agc_w hg rfl rfl) rc) e0.symm (fun _ => lv_115) (fun K hk => ⟨cl_0, c1 _ _ ⟨cl_115, vq, hk⟩⟩) m1
  · exact k 1 F L a b 0 _ c2 m2 (RL_0 hR) rfl (fun q => absurd q (by decide)) (fun K hk => ⟨cl_0, c1 _ _ (⟨rfl, hk⟩)⟩) m1
theorem j_end {a b : Bool} {P : Nat → Nat → Nat} {F : cF} {L : cL} {M : ms} {x1 : Int32} (hI : IMc F) (hM : GM M) (hR : RL (sU a) M F) {G : Prop} (k : ∀ (c : Int32) (F' : cF) (L' : cL) (a' b' : Bool) (M' : ms), IMc F' → GM M' → RL (sU a') M' F' → c = M'.1 0 → (∀ K : Int32 → cs → Prop, K c (F', L', PC a' b' P) → p_Lw_end UL 0 x1 (F, L, PC a b P) K) → (∀ K : ms → Prop, K M' → p_end x1 M K) → G) : G := by
  have h1 : p_end x1 M (fun Z => (∀ K : ms → Prop, K Z → p_end x1 M K) ∧ GM Z) := d_p_end (sm_end (K := fun Z => GM Z) hM (fun h => h)) (fun Z hz hi => (hi _).mpr ⟨fun K hk => (hi K).mpr hk, hz⟩)
  have h2 : p_B_end UL 0 x1 (F, L, PC a b P) (fun S => (∀ (K : cs → Prop) (T : Nat → cs → Prop), K S → p_B_end UL 0 x1 (F, L, PC a b P) K T) ∧ IMc S.1) (fun c S => (∀ (K : cs → Prop) (T : Nat → cs → Prop), T c S → p_B_end UL 0 x1 (F, L, PC a b P) K T) ∧ IMc S.1) := d_p_B_end (sc_end (K := fun _ S => IMc S.1) hI (fun h => h) (fun h => h)).2 (fun S hz hi => (hi _ _).mpr ⟨fun K T hk => (hi K T).mpr hk, hz⟩) (fun c S hz hi => (hi _ _).mpr ⟨fun K T hk => (hi K T).mpr hk, hz.2⟩)
  rcases x_end hR.2.2.1 h1 h2 with ⟨M', F', ha, hg, e0, rc, ⟨m1, m2⟩, ⟨c1, c2⟩⟩ | ⟨M', ha, e0, e7, ⟨m1, m2⟩, ⟨c1, c2⟩⟩
  · exact k 0 F' L a b M' c2 m2 (RL_tape (sU_is a) hR (ag_w ha rfl rfl) (agc_w hg rfl rfl) rc) e0.symm (fun K hk => ⟨cl_0, c1 _ _ hk⟩) m1
  · exact k 1 F L a b M' c2 m2 (RL_tape (sU_is a) hR (ag_w ha rfl rfl) agc_refl (rTape_k hR.2.2.1 e7 (ha.2 6 rfl) rfl rfl)) e0.symm (fun K hk => ⟨cl_0, c1 _ _ ⟨rfl, hk⟩⟩) m1
theorem j_change {a b : Bool} {P : Nat → Nat → Nat} {F : cF} {L : cL} {M : ms} {x1 : Int32} {x2 : Int32} (hI : IMc F) (hM : GM M) (hR : RL (sU a) M F) {G : Prop} (k : ∀ (c : Int32) (F' : cF) (L' : cL) (a' b' : Bool) (v : Int32) (M' : ms), IMc F' → GM M' → RL (sU a') M' F' → c = M'.1 0 → (c = 0 → L' 115 0 = v.toInt64) → (∀ K : Int32 → cs → Prop, K c (F', L', PC a' b' P) → p_Lw_change UL 0 x1 x2 115 (F, L, PC a b P) K) → (∀ K : Int32 → ms → Prop, K v M' → p_change x1 x2 M K) → G) : G := by
  have h1 : p_change x1 x2 M (fun w Z => (∀ K : Int32 → ms → Prop, K w Z → p_change x1 x2 M K) ∧ GM Z) := d_p_change (sm_change (K := fun w Z => GM Z) hM (fun h => h)) (fun w Z hz hi => (hi _).mpr ⟨fun K hk => (hi K).mpr hk, hz⟩)
  have h2 : p_B_change UL 0 x1 x2 (F, L, PC a b P) (fun w S => (∀ (K : Int32 → cs → Prop) (T : Nat → cs → Prop), K w S → p_B_change UL 0 x1 x2 (F, L, PC a b P) K T) ∧ IMc S.1) (fun c S => (∀ (K : Int32 → cs → Prop) (T : Nat → cs → Prop), T c S → p_B_change UL 0 x1 x2 (F, L, PC a b P) K T) ∧ IMc S.1) := d_p_B_change (sc_change (K := fun _ S => IMc S.1) hI (fun h => h) (fun h => h) (fun h => h)).2 (fun w S hz hi => (hi _ _).mpr ⟨fun K T hk => (hi K T).mpr hk, hz.2.2⟩) (fun c S hz hi => (hi _ _).mpr ⟨fun K T hk => (hi K T).mpr hk, (hz.elim (fun q => q.2) (fun q => q.2))⟩)
  rcases x_change hM.1 hR.2.2.1 h1 h2 with ⟨v, M', F', ha, hg, e0, rc, ⟨m1, m2⟩, ⟨c1, c2⟩⟩ | ⟨⟨m1, m2⟩, ⟨c1, c2⟩⟩ | ⟨⟨m1, m2⟩, ⟨c1, c2⟩⟩
  · exact k 0 F' (va_up L 115 (vp_updL (L 115) (0 : Int32).toNatClampNeg v.toInt64)) a b v M' c2 m2 (RL_tape (sU_is a) hR (ag_w ha rfl rfl) (agc_w hg rfl rfl) rc) e0.symm (fun _ => lv_115) (fun K hk => ⟨cl_0, c1 _ _ ⟨cl_115, vq, hk⟩⟩) m1
  · exact k 1 F L a b 0 _ c2 m2 (RL_0 hR) rfl (fun q => absurd q (by decide)) (fun K hk => ⟨cl_0, c1 _ _ (Or.inl ⟨rfl, hk⟩)⟩) m1
  · exact k 2 F L a b 0 _ c2 m2 (RL_0 hR) rfl (fun q => absurd q (by decide)) (fun K hk => ⟨cl_0, c1 _ _ (Or.inr (⟨rfl, hk⟩))⟩) m1
theorem j_turn {a b : Bool} {P : Nat → Nat → Nat} {F : cF} {L : cL} {M : ms} (hI : IMc F) (hM : GM M) (hR : RL (sU a) M F) {G : Prop} (k : ∀ (c : Int32) (F' : cF) (L' : cL) (a' b' : Bool) (v : Int32) (M' : ms), IMc F' → GM M' → RL (sU a') M' F' → c = M'.1 0 → (c = 0 → L' 115 0 = v.toInt64) → (∀ K : Int32 → cs → Prop, K c (F', L', PC a' b' P) → p_Lw_turn UL 0 115 (F, L, PC a b P) K) → (∀ K : Int32 → ms → Prop, K v M' → p_turn2 M K) → G) : G := by
  have h1 : p_turn2 M (fun w Z => (∀ K : Int32 → ms → Prop, K w Z → p_turn2 M K) ∧ GM Z) := d_p_turn2 (sm_turn (K := fun w Z => GM Z) hM (fun h => h)) (fun w Z hz hi => (hi _).mpr ⟨fun K hk => (hi K).mpr hk, hz⟩)
  have h2 : p_B_turn UL 0 (F, L, PC a b P) (fun w S => (∀ (K : Int32 → cs → Prop) (T : Nat → cs → Prop), K w S → p_B_turn UL 0 (F, L, PC a b P) K T) ∧ IMc S.1) (fun c S => (∀ (K : Int32 → cs → Prop) (T : Nat → cs → Prop), T c S → p_B_turn UL 0 (F, L, PC a b P) K T) ∧ IMc S.1) := d_p_B_turn (sc_turn (K := fun _ S => IMc S.1) hI (fun h => h) (fun h => h)).2 (fun w S hz hi => (hi _ _).mpr ⟨fun K T hk => (hi K T).mpr hk, hz.2.2⟩) (fun c S hz hi => (hi _ _).mpr ⟨fun K T hk => (hi K T).mpr hk, hz.2⟩)
  rcases x_turn hM.1 hI hR.2.2.1 hR.2.2.2.1 h1 h2 with ⟨v, M', F', ha, hg, e0, rc, ⟨m1, m2⟩, ⟨c1, c2⟩⟩ | ⟨⟨m1, m2⟩, ⟨c1, c2⟩⟩
  · exact k 0 F' (va_up L 115 (vp_updL (L 115) (0 : Int32).toNatClampNeg v.toInt64)) a b v M' c2 m2 (RL_tape (sU_is a) hR (ag_w ha rfl rfl) (agc_w hg rfl rfl) rc) e0.symm (fun _ => lv_115) (fun K hk => ⟨cl_0, c1 _ _ ⟨cl_115, vq, hk⟩⟩) m1
  · exact k 1 F L a b 0 _ c2 m2 (RL_0 hR) rfl (fun q => absurd q (by decide)) (fun K hk => ⟨cl_0, c1 _ _ (⟨rfl, hk⟩)⟩) m1
theorem j_about {a b : Bool} {P : Nat → Nat → Nat} {F : cF} {L : cL} {M : ms} {x1 : Int32} (hI : IMc F) (hM : GM M) (hR : RL (sU a) M F) {G : Prop} (k : ∀ (c : Int32) (F' : cF) (L' : cL) (a' b' : Bool) (v : Int32) (M' : ms), IMc F' → GM M' → RL (sU a') M' F' → c = M'.1 0 → (c = 0 → L' 115 0 = v.toInt64) → (∀ K : Int32 → cs → Prop, K c (F', L', PC a' b' P) → p_Lw_about UL 0 x1 115 (F, L, PC a b P) K) → (∀ K : Int32 → ms → Prop, K v M' → p_about x1 M K) → G) : G := by
  have h1 : p_about x1 M (fun w Z => (∀ K : Int32 → ms → Prop, K w Z → p_about x1 M K) ∧ GM Z) := d_p_about (sm_about (K := fun w Z => GM Z) hM (fun h => h)) (fun w Z hz hi => (hi _).mpr ⟨fun K hk => (hi K).mpr hk, hz⟩)
  have h2 : p_B_about UL 0 x1 (F, L, PC a b P) (fun w S => (∀ (K : Int32 → cs → Prop) (T : Nat → cs → Prop), K w S → p_B_about UL 0 x1 (F, L, PC a b P) K T) ∧ IMc S.1) (fun c S => (∀ (K : Int32 → cs → Prop) (T : Nat → cs → Prop), T c S → p_B_about UL 0 x1 (F, L, PC a b P) K T) ∧ IMc S.1) := d_p_B_about (sc_about (K := fun _ S => IMc S.1) hI (fun h => h) (fun h => h) (fun h => h)).2 (fun w S hz hi => (hi _ _).mpr ⟨fun K T hk => (hi K T).mpr hk, hz.2.2⟩) (fun c S hz hi => (hi _ _).mpr ⟨fun K T hk => (hi K T).mpr hk, (hz.elim (fun q => q.2) (fun q => q.2))⟩)
  rcases x_about (sU_is a) p7_is hR.2.2.2.2.2.2 h1 h2 with ⟨v, ⟨m1, m2⟩, ⟨c1, c2⟩⟩ | ⟨⟨m1, m2⟩, ⟨c1, c2⟩⟩ | ⟨⟨m1, m2⟩, ⟨c1, c2⟩⟩
  · exact k 0 F (va_up L 115 (vp_updL (L 115) (0 : Int32).toNatClampNeg v.toInt64)) a b v _ c2 m2 (RL_0 hR) rfl (fun _ => lv_115) (fun K hk => ⟨cl_0, c1 _ _ ⟨cl_115, vq, hk⟩⟩) m1
  · exact k 1 F L a b 0 _ c2 m2 (RL_0 hR) rfl (fun q => absurd q (by decide)) (fun K hk => ⟨cl_0, c1 _ _ (Or.inl ⟨rfl, hk⟩)⟩) m1
  · exact k 2 F L a b 0 _ c2 m2 (RL_0 hR) rfl (fun q => absurd q (by decide)) (fun K hk => ⟨cl_0, c1 _ _ (Or.inr (⟨rfl, hk⟩))⟩) m1
theorem j_sample {a b : Bool} {P : Nat → Nat → Nat} {F : cF} {L : cL} {M : ms} {x1 : Int32} {x2 : Int32} {x3 : Int32} (hI : IMc F) (hM : GM M) (hR : RL (sU a) M F) {G : Prop} (k : ∀ (c : Int32) (F' : cF) (L' : cL) (a' b' : Bool) (v : Int32) (M' : ms), IMc F' → GM M' → RL (sU a') M' F' → c = M'.1 0 → (c = 0 → L' 115 0 = v.toInt64) → (∀ K : Int32 → cs → Prop, K c (F', L', PC a' b' P) → p_Lw_sample UL 0 x1 x2 x3 115 (F, L, PC a b P) K) → (∀ K : Int32 → ms → Prop, K v M' → p_sample x1 x2 x3 M K) → G) : G := by
  have h1 : p_sample x1 x2 x3 M (fun w Z => (∀ K : Int32 → ms → Prop, K w Z → p_sample x1 x2 x3 M K) ∧ GM Z) := d_p_sample (sm_sample (K := fun w Z => GM Z) hM (fun h => h)) (fun w Z hz hi => (hi _).mpr ⟨fun K hk => (hi K).mpr hk, hz⟩)
  have h2 : p_B_sample UL 0 x1 x2 x3 (F, L, PC a b P) (fun w S => (∀ (K : Int32 → cs → Prop) (T : Nat → cs → Prop), K w S → p_B_sample UL 0 x1 x2 x3 (F, L, PC a b P) K T) ∧ IMc S.1) (fun c S => (∀ (K : Int32 → cs → Prop) (T : Nat → cs → Prop), T c S → p_B_sample UL 0 x1 x2 x3 (F, L, PC a b P) K T) ∧ IMc S.1) := d_p_B_sample (sc_sample (K := fun _ S => IMc S.1) hI (fun h => h) (fun h => h) (fun h => h)).2 (fun w S hz hi => (hi _ _).mpr ⟨fun K T hk => (hi K T).mpr hk, hz.2.2⟩) (fun c S hz hi => (hi _ _).mpr ⟨fun K T hk => (hi K T).mpr hk, (hz.elim (fun q => q.2) (fun q => q.2))⟩)
  rcases x_sample hI (sU_is a) p7_is hR.2.2.2.2.2.2 h1 h2 with ⟨v, F', L', hz, _, hp, ⟨m1, m2⟩, ⟨c1, c2⟩⟩ | ⟨⟨m1, m2⟩, ⟨c1, c2⟩⟩ | ⟨⟨m1, m2⟩, ⟨c1, c2⟩⟩
  · exact k 0 F' (va_up L' 115 (vp_updL (L' 115) (0 : Int32).toNatClampNeg v.toInt64)) a b v _ c2 m2 (RL_0 (RL_dr (sU_is a) hR hz hp)) rfl (fun _ => lv_115) (fun K hk => ⟨cl_0, c1 _ _ ⟨cl_115, vq, hk⟩⟩) m1
  · exact k 1 F L a b 0 _ c2 m2 (RL_0 hR) rfl (fun q => absurd q (by decide)) (fun K hk => ⟨cl_0, c1 _ _ (Or.inl ⟨rfl, hk⟩)⟩) m1
  · exact k 2 F L a b 0 _ c2 m2 (RL_0 hR) rfl (fun q => absurd q (by decide)) (fun K hk => ⟨cl_0, c1 _ _ (Or.inr (⟨rfl, hk⟩))⟩) m1
theorem j_level {a b : Bool} {P : Nat → Nat → Nat} {F : cF} {L : cL} {M : ms} {x1 : Int32} {x2 : Int32} {x3 : Int32} {x4 : Int32} (hI : IMc F) (hM : GM M) (hR : RL (sU a) M F) {G : Prop} (k : ∀ (c : Int32) (F' : cF) (L' : cL) (a' b' : Bool) (v : Int32) (M' : ms), IMc F' → GM M' → RL (sU a') M' F' → c = M'.1 0 → (c = 0 → L' 115 0 = v.toInt64) → (∀ K : Int32 → cs → Prop, K c (F', L', PC a' b' P) → p_Lw_level UL 0 x1 x2 x3 x4 115 (F, L, PC a b P) K) → (∀ K : Int32 → ms → Prop, K v M' → p_level x1 x2 x3 x4 M K) → G) : G := by
  have h1 : p_level x1 x2 x3 x4 M (fun w Z => (∀ K : Int32 → ms → Prop, K w Z → p_level x1 x2 x3 x4 M K) ∧ GM Z) := d_p_level (sm_level (K := fun w Z => GM Z) hM (fun h => h)) (fun w Z hz hi => (hi _).mpr ⟨fun K hk => (hi K).mpr hk, hz⟩)
  have h2 : p_B_level UL 0 x1 x2 x3 x4 (F, L, PC a b P) (fun w S => (∀ (K : Int32 → cs → Prop) (T : Nat → cs → Prop), K w S → p_B_level UL 0 x1 x2 x3 x4 (F, L, PC a b P) K T) ∧ IMc S.1) (fun c S => (∀ (K : Int32 → cs → Prop) (T : Nat → cs → Prop), T c S → p_B_level UL 0 x1 x2 x3 x4 (F, L, PC a b P) K T) ∧ IMc S.1) := d_p_B_level (sc_level (K := fun _ S => IMc S.1) hI (fun h => h) (fun h => h) (fun h => h) (fun h => h)).2 (fun w S hz hi => (hi _ _).mpr ⟨fun K T hk => (hi K T).mpr hk, hz.2.2⟩) (fun c S hz hi => (hi _ _).mpr ⟨fun K T hk => (hi K T).mpr hk, (hz.elim (fun q => q.2) (fun q => q.elim (fun q => q.2) (fun q => q.2)))⟩)
  rcases x_level (sU_is a) p7_is hR.2.2.2.2.2.2 hR.2.2.2.2.2.1 h1 h2 with ⟨v, ⟨m1, m2⟩, ⟨c1, c2⟩⟩ | ⟨⟨m1, m2⟩, ⟨c1, c2⟩⟩ | ⟨⟨m1, m2⟩, ⟨c1, c2⟩⟩ | ⟨⟨m1, m2⟩, ⟨c1, c2⟩⟩
  · exact k 0 F (va_up L 115 (vp_updL (L 115) (0 : Int32).toNatClampNeg v.toInt64)) a b v _ c2 m2 (RL_0 hR) rfl (fun _ => lv_115) (fun K hk => ⟨cl_0, c1 _ _ ⟨cl_115, vq, hk⟩⟩) m1
  · exact k 1 F L a b 0 _ c2 m2 (RL_0 hR) rfl (fun q => absurd q (by decide)) (fun K hk => ⟨cl_0, c1 _ _ (Or.inl ⟨rfl, hk⟩)⟩) m1
  · exact k 2 F L a b 0 _ c2 m2 (RL_0 hR) rfl (fun q => absurd q (by decide)) (fun K hk => ⟨cl_0, c1 _ _ (Or.inr (Or.inl ⟨rfl, hk⟩))⟩) m1
  · exact k 3 F L a b 0 _ c2 m2 (RL_0 hR) rfl (fun q => absurd q (by decide)) (fun K hk => ⟨cl_0, c1 _ _ (Or.inr (Or.inr (⟨rfl, hk⟩)))⟩) m1
theorem j_take {a b : Bool} {P : Nat → Nat → Nat} {F : cF} {L : cL} {M : ms} (hI : IMc F) (hM : GM M) (hR : RL (sU a) M F) {G : Prop} (k : ∀ (c : Int32) (F' : cF) (L' : cL) (a' b' : Bool) (M' : ms), IMc F' → GM M' → RL (sU a') M' F' → c = M'.1 0 → (∀ K : Int32 → cs → Prop, K c (F', L', PC a' b' P) → p_Lw_take UL 0 (F, L, PC a b P) K) → (∀ K : ms → Prop, K M' → p_take M K) → G) : G := by
  have h1 : p_take M (fun Z => (∀ K : ms → Prop, K Z → p_take M K) ∧ GM Z) := d_p_take (sm_take (K := fun Z => GM Z) hM (fun h => h)) (fun Z hz hi => (hi _).mpr ⟨fun K hk => (hi K).mpr hk, hz⟩)
  have h2 : p_B_take UL 0 (F, L, PC a b P) (fun S => (∀ (K : cs → Prop) (T : Nat → cs → Prop), K S → p_B_take UL 0 (F, L, PC a b P) K T) ∧ IMc S.1) (fun c S => (∀ (K : cs → Prop) (T : Nat → cs → Prop), T c S → p_B_take UL 0 (F, L, PC a b P) K T) ∧ IMc S.1) := d_p_B_take (sc_take (K := fun _ S => IMc S.1) hI (fun h => h) (fun h => h)).2 (fun S hz hi => (hi _ _).mpr ⟨fun K T hk => (hi K T).mpr hk, hz⟩) (fun c S hz hi => (hi _ _).mpr ⟨fun K T hk => (hi K T).mpr hk, hz.2⟩)
  rcases x_take hI (sU_is a) p7_is hR.2.2.2.2.2.2 h1 h2 with ⟨M', F', L', ha, hz, _, _, _, e0, rc, hp, ⟨m1, m2⟩, ⟨c1, c2⟩⟩ | ⟨⟨m1, m2⟩, ⟨c1, c2⟩⟩
  · exact k 0 F' L' a b M' c2 m2 (RL_take (sU_is a) hR ha hz rc hp) e0.symm (fun K hk => ⟨cl_0, c1 _ _ hk⟩) m1
  · exact k 1 F L a b _ c2 m2 (RL_0 hR) rfl (fun K hk => ⟨cl_0, c1 _ _ (⟨rfl, hk⟩)⟩) m1
theorem j_size {a b : Bool} {P : Nat → Nat → Nat} {F : cF} {L : cL} {M : ms} (hI : IMc F) (hM : GM M) (hR : RL (sU a) M F) {G : Prop} (k : ∀ (v : Int32) (M' : ms), GM M' → RL (sU a) M' F → (∀ K : Int32 → cs → Prop, K v (F, L, PC a b P) → p_B_size UL 0 (F, L, PC a b P) K) → (∀ K : Int32 → ms → Prop, K v M' → p_size M K) → G) : G := by
  have h1 : p_size M (fun w Z => (∀ K : Int32 → ms → Prop, K w Z → p_size M K) ∧ GM Z) := d_p_size (sm_size (K := fun w Z => GM Z) hM (fun h => h)) (fun w Z hz hi => (hi _).mpr ⟨fun K hk => (hi K).mpr hk, hz⟩)
  have h2 : p_B_size UL 0 (F, L, PC a b P) (fun w S => ∀ K : Int32 → cs → Prop, K w S → p_B_size UL 0 (F, L, PC a b P) K) := d_p_B_size (sc_size (K := fun _ _ => True) hI (fun _ => trivial)) (fun w S hz hi => (hi _).mpr (fun K hk => (hi K).mpr hk))
  obtain ⟨v, ⟨m1, m2⟩, c1⟩ := x_size hR.2.2.2.1 h1 h2
  exact k v _ m2 (RL_0 hR) c1 m1
theorem j_place {a b : Bool} {P : Nat → Nat → Nat} {F : cF} {L : cL} {M : ms} (hM : GM M) (hR : RL (sU a) M F) {G : Prop} (k : ∀ (v w : Int32) (M' : ms), GM M' → RL (sU a) M' F → (∀ K : Int32 → cs → Prop, K w (F, L, PC a b P) → p_B_place UL 0 (F, L, PC a b P) K) → (∀ K : Int32 → ms → Prop, K v M' → p_place M K) → G) : G := by
  have h1 : p_place M (fun w Z => GM Z) := sm_place (K := fun w Z => GM Z) hM (fun h => h)
  exact k _ _ _ h1 (RL_0 hR) (fun K hk => hk) (fun K hk => hk)
/-- unpack on the class's side: where it comes to, and what it leaves -/
theorem uc_unpack {a b : Bool} {P : Nat → Nat → Nat} {F : cF} {L : cL} (hI : IMc F) : p_B_unpack UL 0 (F, L, PC a b P) (fun w S => (∀ K : Int32 → cs → Prop, K w S → p_B_unpack UL 0 (F, L, PC a b P) K) ∧ agc (fsK a) (rsK a) F S.1 ∧ IMc S.1) := by
  have key : p_B_unpack UL 0 (F, L, PC a b P) (fun w S => agc (fsK a) (rsK a) F S.1 ∧ IMc S.1) := by
    have bt : B 0 1 (1 : Int32) := ⟨by decide, by decide⟩
    unfold p_B_unpack
    refine ⟨(show ¬ ((59 : Nat) = NU) from by decide), cl_59, ?_⟩
    cases a
    · refine h_Un_readRow_u59_a0 hI (fun {Z} {LZ} hZ g => ⟨(show ¬ ((59 : Nat) = NU) from by decide), (show ¬ ((105 : Nat) = NU) from by decide), cl_59, ?_⟩) (fun {Z} {LZ} hZ g => ⟨rfl, (show ¬ ((59 : Nat) = NU) from by decide), cl_59, (show ¬ ((60 : Nat) = NU) from by decide), cl_60, (show ¬ ((59 : Nat) = NU) from by decide), (show ¬ ((60 : Nat) = NU) from by decide), agc_f (u := 0) (k := 8) (agc_w g rfl rfl) rfl rfl, IMc_u (u := 0) (i := 8) hZ (B_any _)⟩)
      unfold p_Un_handOver
      exact ⟨(show ¬ ((63 : Nat) = NU) from by decide), cl_63, (show ¬ ((105 : Nat) = NU) from by decide), (show ¬ ((63 : Nat) = NU) from by decide), agc_f (u := 0) (k := 8) (agc_f (u := 63) (k := 17) (agc_w g rfl rfl) rfl rfl) rfl rfl, IMc_u (u := 0) (i := 8) (v := -1) (IMc_u (u := 63) (i := 17) (v := 1) hZ bt) (B_any _)⟩
    · refine h_Un_readRow_u59_a1 hI (fun {Z} {LZ} hZ g => ⟨(show ¬ ((59 : Nat) = NU) from by decide), (show ¬ ((63 : Nat) = NU) from by decide), cl_59, ?_⟩) (fun {Z} {LZ} hZ g => ⟨rfl, (show ¬ ((59 : Nat) = NU) from by decide), cl_59, (show ¬ ((60 : Nat) = NU) from by decide), cl_60, (show ¬ ((59 : Nat) = NU) from by decide), (show ¬ ((60 : Nat) = NU) from by decide), agc_f (u := 0) (k := 8) (agc_w g rfl rfl) rfl rfl, IMc_u (u := 0) (i := 8) hZ (B_any _)⟩)
      unfold p_Un_handOver
      exact ⟨(show ¬ ((105 : Nat) = NU) from by decide), cl_105, (show ¬ ((63 : Nat) = NU) from by decide), (show ¬ ((105 : Nat) = NU) from by decide), agc_f (u := 0) (k := 8) (agc_f (u := 105) (k := 17) (agc_w g rfl rfl) rfl rfl) rfl rfl, IMc_u (u := 0) (i := 8) (v := -1) (IMc_u (u := 105) (i := 17) (v := 1) hZ bt) (B_any _)⟩
  exact d_p_B_unpack key (fun w S hz hi => (hi _).mpr ⟨fun K hk => (hi K).mpr hk, hz⟩)
theorem j_unpack {a b : Bool} {P : Nat → Nat → Nat} {F : cF} {L : cL} {M : ms} (hI : IMc F) (hM : GM M) (hR : RL (sU a) M F) {G : Prop} (k : ∀ (v w : Int32) (F' : cF) (a' : Bool) (M' : ms), IMc F' → GM M' → RL (sU a') M' F' → (∀ K : Int32 → cs → Prop, K w (F', L, PC a' b P) → p_B_unpack UL 0 (F, L, PC a b P) K) → (∀ K : Int32 → ms → Prop, K v M' → p_unpack M K) → G) : G := by
  have h1 : p_unpack M (fun w Z => (∀ K : Int32 → ms → Prop, K w Z → p_unpack M K) ∧ ag fsM rsM M Z ∧ GM Z) := by
    have t : p_unpack M (fun w Z => ag fsM rsM M Z ∧ GM Z) := h_unpack hM.1 hM.2.1 hM.2.2.1 hM.2.2.2.1 (fun _ hZ g q3 q4 q5 => ⟨g, hZ, q3, q4, q5, by rw [g.1 3 rfl]; exact hM.2.2.2.2.1, fun c hc => by rw [g.2 27 rfl]; exact hM.2.2.2.2.2 c hc⟩)
    exact d_p_unpack t (fun w Z hz hi => (hi _).mpr ⟨fun K hk => (hi K).mpr hk, hz⟩)
  have b7 := hM.1.1 7 (by decide)
  rcases x_unpack hR ⟨b7.1, b7.2⟩ (fun k => IM_row hM.1 (by decide) (by decide) k) (fun v Z h => h.2.1) (fun w S h => h.2.1) h1 (uc_unpack hI) with ⟨v, w, M', F', r, ⟨m1, -, m2⟩, ⟨c1, -, c2⟩⟩ | ⟨M', F', r, ⟨m1, -, m2⟩, ⟨c1, -, c2⟩⟩
  · exact k v w F' a M' c2 m2 r c1 m1
  · exact k 0 0 F' (!a) M' c2 m2 r c1 m1
