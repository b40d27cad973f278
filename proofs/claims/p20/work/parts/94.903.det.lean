theorem l_e_become_243  {x1 : Int32} {x2 : Int32} {x3 : Int32} {x4 : Int32} {x5 : Int32} {S : ms} {R102 : Int32 → ms → Prop} {R114 : Int32 → Int32 → ms → Prop} {K : ms → Prop} : e_become_243 x1 x2 x3 x4 x5 S R102 R114 K ↔ lpE (C := (Int32 → ms → Prop) × (Int32 → Int32 → ms → Prop) × (ms → Prop)) (fun (y : (Int32) × (Int32) × (Int32) × (Int32) × (Int32) × (ms)) (R : ((Int32) × (Int32) × (Int32) × (Int32) × (Int32) × (ms)) → Prop) (c : (Int32 → ms → Prop) × (Int32 → Int32 → ms → Prop) × (ms → Prop)) => b_become_243 y.1 y.2.1 y.2.2.1 y.2.2.2.1 y.2.2.2.2.1 y.2.2.2.2.2 c.1 c.2.1 (fun z0 z1 z2 z3 z4 z5 => R (z0, z1, z2, z3, z4, z5)) c.2.2) (x1, x2, x3, x4, x5, S) (R102, R114, K) :=
  ⟨fun ⟨I, μ, h0, hs⟩ => ⟨fun t => I t.1 t.2.1 t.2.2.1 t.2.2.2.1 t.2.2.2.2.1 t.2.2.2.2.2, fun t => μ t.1 t.2.1 t.2.2.1 t.2.2.2.1 t.2.2.2.2.1 t.2.2.2.2.2, h0, fun t ht => hs _ _ _ _ _ _ ht⟩, fun ⟨I, μ, h0, hs⟩ => ⟨fun y0 y1 y2 y3 y4 y5 => I (y0, y1, y2, y3, y4, y5), fun y0 y1 y2 y3 y4 y5 => μ (y0, y1, y2, y3, y4, y5), h0, fun y0 y1 y2 y3 y4 y5 hy => hs (y0, y1, y2, y3, y4, y5) hy⟩⟩
set_option maxHeartbeats 1000000 in
theorem d_e_become_243 {x1 : Int32} {x2 : Int32} {x3 : Int32} {x4 : Int32} {x5 : Int32} {S : ms} {R102 : Int32 → ms → Prop} {R114 : Int32 → Int32 → ms → Prop} {K : ms → Prop} (h : e_become_243 x1 x2 x3 x4 x5 S R102 R114 K) {Q : Prop} (k_R102 : ∀ (a0 : Int32) (a1 : ms), R102 a0 a1 → (∀ (R102' : Int32 → ms → Prop) (R114' : Int32 → Int32 → ms → Prop) (K' : ms → Prop), e_become_243 x1 x2 x3 x4 x5 S R102' R114' K' ↔ R102' a0 a1) → Q) (k_R114 : ∀ (a0 : Int32) (a1 : Int32) (a2 : ms), R114 a0 a1 a2 → (∀ (R102' : Int32 → ms → Prop) (R114' : Int32 → Int32 → ms → Prop) (K' : ms → Prop), e_become_243 x1 x2 x3 x4 x5 S R102' R114' K' ↔ R114' a0 a1 a2) → Q) (k_K : ∀ (a0 : ms), K a0 → (∀ (R102' : Int32 → ms → Prop) (R114' : Int32 → Int32 → ms → Prop) (K' : ms → Prop), e_become_243 x1 x2 x3 x4 x5 S R102' R114' K' ↔ K' a0) → Q) : Q := by
  obtain ⟨o, ho, hoc, hi⟩ := lp_det (C := (Int32 → ms → Prop) × (Int32 → Int32 → ms → Prop) × (ms → Prop)) (b := (fun (y : (Int32) × (Int32) × (Int32) × (Int32) × (Int32) × (ms)) (R : ((Int32) × (Int32) × (Int32) × (Int32) × (Int32) × (ms)) → Prop) (c : (Int32 → ms → Prop) × (Int32 → Int32 → ms → Prop) × (ms → Prop)) => b_become_243 y.1 y.2.1 y.2.2.1 y.2.2.2.1 y.2.2.2.2.1 y.2.2.2.2.2 c.1 c.2.1 (fun z0 z1 z2 z3 z4 z5 => R (z0, z1, z2, z3, z4, z5)) c.2.2)) (O := (fun (o : ((Int32 → ms → Prop) × (Int32 → Int32 → ms → Prop) × (ms → Prop)) → Prop) => (∃ (a0 : Int32) (a1 : ms), o = fun c => c.1 a0 a1) ∨ (∃ (a0 : Int32) (a1 : Int32) (a2 : ms), o = fun c => c.2.1 a0 a1 a2) ∨ (∃ (a0 : ms), o = fun c => c.2.2 a0))) (fun y R c hy => d_b_become_243 hy (fun a0 a1 ha ia => Or.inr ⟨(fun c => c.1 a0 a1), Or.inl ⟨a0, a1, rfl⟩, ha, fun R' c' => ia c'.1 c'.2.1 (fun z0 z1 z2 z3 z4 z5 => R' (z0, z1, z2, z3, z4, z5)) c'.2.2⟩) (fun a0 a1 a2 ha ia => Or.inr ⟨(fun c => c.2.1 a0 a1 a2), Or.inr (Or.inl ⟨a0, a1, a2, rfl⟩), ha, fun R' c' => ia c'.1 c'.2.1 (fun z0 z1 z2 z3 z4 z5 => R' (z0, z1, z2, z3, z4, z5)) c'.2.2⟩) (fun a0 a1 a2 a3 a4 a5 ha ia => Or.inl ⟨(a0, a1, a2, a3, a4, a5), ha, fun R' c' => ia c'.1 c'.2.1 (fun z0 z1 z2 z3 z4 z5 => R' (z0, z1, z2, z3, z4, z5)) c'.2.2⟩) (fun a0 ha ia => Or.inr ⟨(fun c => c.2.2 a0), Or.inr (Or.inr (⟨a0, rfl⟩)), ha, fun R' c' => ia c'.1 c'.2.1 (fun z0 z1 z2 z3 z4 z5 => R' (z0, z1, z2, z3, z4, z5)) c'.2.2⟩)) (l_e_become_243.mp h)
  rcases ho with ⟨a0, a1, rfl⟩ | ⟨a0, a1, a2, rfl⟩ | ⟨a0, rfl⟩
  · exact k_R102 _ _ hoc (fun R102' R114' K' => Iff.trans l_e_become_243 (hi (R102', R114', K')))
  · exact k_R114 _ _ _ hoc (fun R102' R114' K' => Iff.trans l_e_become_243 (hi (R102', R114', K')))
  · exact k_K _ hoc (fun R102' R114' K' => Iff.trans l_e_become_243 (hi (R102', R114', K')))
theorem v_e_become_243 {x1 : Int32} {x2 : Int32} {x3 : Int32} {x4 : Int32} {x5 : Int32} {S : ms} {R102 : Int32 → ms → Prop} {R114 : Int32 → Int32 → ms → Prop} {K : ms → Prop} (h : e_become_243 x1 x2 x3 x4 x5 S R102 R114 K) {G : Prop} (Inv : Int32 → ms → Prop) (h0 : Inv x5 S) (hs : ∀ (yx5 : Int32) (yS : ms) (R : Int32 → Int32 → Int32 → Int32 → Int32 → ms → Prop), Inv yx5 yS → b_become_243 x1 x2 x3 x4 yx5 yS R102 R114 R K → (∃ (zx5 : Int32) (zS : ms), R x1 x2 x3 x4 zx5 zS ∧ Inv zx5 zS) ∨ G) : G := by
  obtain ⟨I, μ, i0, is⟩ := h
  have go : ∀ (n : Nat) (yx5 : Int32) (yS : ms), μ x1 x2 x3 x4 yx5 yS < n → I x1 x2 x3 x4 yx5 yS → Inv yx5 yS → G := by
    intro n
    induction n with
    | zero => intro yx5 yS hy; exact absurd hy (Nat.not_lt_zero _)
    | succ n ih =>
      intro yx5 yS hy hI hV
      rcases hs yx5 yS _ hV (is x1 x2 x3 x4 yx5 yS hI) with ⟨zx5, zS, ⟨hz, hm⟩, hv⟩ | g
      · exact ih zx5 zS (Nat.lt_of_lt_of_le hm (Nat.le_of_lt_succ hy)) hz hv
      · exact g
  exact go _ x5 S (Nat.lt_succ_self _) i0 h0
theorem r_e_become_243 {x1 : Int32} {x2 : Int32} {x3 : Int32} {x4 : Int32} {x5 : Int32} {S : ms} {R102 : Int32 → ms → Prop} {R114 : Int32 → Int32 → ms → Prop} {K : ms → Prop} (h : e_become_243 x1 x2 x3 x4 x5 S R102 R114 K) : b_become_243 x1 x2 x3 x4 x5 S R102 R114 (fun zx1 zx2 zx3 zx4 zx5 zS => e_become_243 zx1 zx2 zx3 zx4 zx5 zS R102 R114 K) K := by
  obtain ⟨I, μ, i0, is⟩ := h
  exact d_b_become_243 (is x1 x2 x3 x4 x5 S i0) (fun a0 a1 ha ia => (ia _ _ _ _).mpr ha) (fun a0 a1 a2 ha ia => (ia _ _ _ _).mpr ha) (fun a0 a1 a2 a3 a4 a5 ha ia => (ia _ _ _ _).mpr ⟨I, μ, ha.1, is⟩) (fun a0 ha ia => (ia _ _ _ _).mpr ha)
set_option maxHeartbeats 1000000 in
theorem d_b_become_137 {x1 : Int32} {x2 : Int32} {x3 : Int32} {S : ms} {R102 : Int32 → ms → Prop} {R114 : Int32 → Int32 → ms → Prop} {R137 : Int32 → Int32 → Int32 → ms → Prop} {K : ms → Prop} (h : b_become_137 x1 x2 x3 S R102 R114 R137 K) {Q : Prop} (k_R102 : ∀ (a0 : Int32) (a1 : ms), R102 a0 a1 → (∀ (R102' : Int32 → ms → Prop) (R114' : Int32 → Int32 → ms → Prop) (R137' : Int32 → Int32 → Int32 → ms → Prop) (K' : ms → Prop), b_become_137 x1 x2 x3 S R102' R114' R137' K' ↔ R102' a0 a1) → Q) (k_R114 : ∀ (a0 : Int32) (a1 : Int32) (a2 : ms), R114 a0 a1 a2 → (∀ (R102' : Int32 → ms → Prop) (R114' : Int32 → Int32 → ms → Prop) (R137' : Int32 → Int32 → Int32 → ms → Prop) (K' : ms → Prop), b_become_137 x1 x2 x3 S R102' R114' R137' K' ↔ R114' a0 a1 a2) → Q) (k_R137 : ∀ (a0 : Int32) (a1 : Int32) (a2 : Int32) (a3 : ms), R137 a0 a1 a2 a3 → (∀ (R102' : Int32 → ms → Prop) (R114' : Int32 → Int32 → ms → Prop) (R137' : Int32 → Int32 → Int32 → ms → Prop) (K' : ms → Prop), b_become_137 x1 x2 x3 S R102' R114' R137' K' ↔ R137' a0 a1 a2 a3) → Q) (k_K : ∀ (a0 : ms), K a0 → (∀ (R102' : Int32 → ms → Prop) (R114' : Int32 → Int32 → ms → Prop) (R137' : Int32 → Int32 → Int32 → ms → Prop) (K' : ms → Prop), b_become_137 x1 x2 x3 S R102' R114' R137' K' ↔ K' a0) → Q) : Q := by
  unfold b_become_137 at h
  refine dt_p h (fun c_1 h_2 => ?_) (fun c_1 h_2 => ?_)
  ·
    refine d_p_toSamples h_2 (fun S208 h_4 i_3 => ?_)
    exact d_e_become_243 (And.right (And.right (And.right (And.right h_4)))) (fun a0 a1 h_6 i_5 => k_R102 a0 a1 h_6 (fun _ _ _ _ => Iff.trans (dt_1 c_1 (fun n => n c_1)) (Iff.trans (i_3 _) (Iff.trans (dt_a (And.left h_4)) (Iff.trans (dt_a (And.left (And.right h_4))) (Iff.trans (dt_a (And.left (And.right (And.right h_4)))) (Iff.trans (dt_a (And.left (And.right (And.right (And.right h_4))))) (i_5 _ _ _)))))))) (fun a0 a1 a2 h_8 i_7 => k_R114 a0 a1 a2 h_8 (fun _ _ _ _ => Iff.trans (dt_1 c_1 (fun n => n c_1)) (Iff.trans (i_3 _) (Iff.trans (dt_a (And.left h_4)) (Iff.trans (dt_a (And.left (And.right h_4))) (Iff.trans (dt_a (And.left (And.right (And.right h_4)))) (Iff.trans (dt_a (And.left (And.right (And.right (And.right h_4))))) (i_7 _ _ _)))))))) (fun a0 h_10 i_9 => k_K a0 h_10 (fun _ _ _ _ => Iff.trans (dt_1 c_1 (fun n => n c_1)) (Iff.trans (i_3 _) (Iff.trans (dt_a (And.left h_4)) (Iff.trans (dt_a (And.left (And.right h_4))) (Iff.trans (dt_a (And.left (And.right (And.right h_4)))) (Iff.trans (dt_a (And.left (And.right (And.right (And.right h_4))))) (i_9 _ _ _))))))))
  ·
    refine d_p_levelCell h_2 (fun v151 h_12 i_11 => ?_)
    refine d_p_levelCell (And.right h_12) (fun v165 h_14 i_13 => ?_)
    exact k_R137 _ _ _ _ (And.right (And.right (And.right (And.right (And.right h_14))))) (fun _ _ _ _ => Iff.trans (dt_2 c_1 c_1) (Iff.trans (i_11 _) (Iff.trans (dt_a (And.left h_12)) (Iff.trans (i_13 _) (Iff.trans (dt_a (And.left h_14)) (Iff.trans (dt_a (And.left (And.right h_14))) (Iff.trans (dt_a (And.left (And.right (And.right h_14)))) (Iff.trans (dt_a (And.left (And.right (And.right (And.right h_14))))) (dt_a (And.left (And.right (And.right (And.right (And.right h_14))))))))))))))
theorem l_e_become_137  {x1 : Int32} {x2 : Int32} {x3 : Int32} {S : ms} {R102 : Int32 → ms → Prop} {R114 : Int32 → Int32 → ms → Prop} {K : ms → Prop} : e_become_137 x1 x2 x3 S R102 R114 K ↔ lpE (C := (Int32 → ms → Prop) × (Int32 → Int32 → ms → Prop) × (ms → Prop)) (fun (y : (Int32) × (Int32) × (Int32) × (ms)) (R : ((Int32) × (Int32) × (Int32) × (ms)) → Prop) (c : (Int32 → ms → Prop) × (Int32 → Int32 → ms → Prop) × (ms → Prop)) => b_become_137 y.1 y.2.1 y.2.2.1 y.2.2.2 c.1 c.2.1 (fun z0 z1 z2 z3 => R (z0, z1, z2, z3)) c.2.2) (x1, x2, x3, S) (R102, R114, K) :=
  ⟨fun ⟨I, μ, h0, hs⟩ => ⟨fun t => I t.1 t.2.1 t.2.2.1 t.2.2.2, fun t => μ t.1 t.2.1 t.2.2.1 t.2.2.2, h0, fun t ht => hs _ _ _ _ ht⟩, fun ⟨I, μ, h0, hs⟩ => ⟨fun y0 y1 y2 y3 => I (y0, y1, y2, y3), fun y0 y1 y2 y3 => μ (y0, y1, y2, y3), h0, fun y0 y1 y2 y3 hy => hs (y0, y1, y2, y3) hy⟩⟩
set_option maxHeartbeats 1000000 in
theorem d_e_become_137 {x1 : Int32} {x2 : Int32} {x3 : Int32} {S : ms} {R102 : Int32 → ms → Prop} {R114 : Int32 → Int32 → ms → Prop} {K : ms → Prop} (h : e_become_137 x1 x2 x3 S R102 R114 K) {Q : Prop} (k_R102 : ∀ (a0 : Int32) (a1 : ms), R102 a0 a1 → (∀ (R102' : Int32 → ms → Prop) (R114' : Int32 → Int32 → ms → Prop) (K' : ms → Prop), e_become_137 x1 x2 x3 S R102' R114' K' ↔ R102' a0 a1) → Q) (k_R114 : ∀ (a0 : Int32) (a1 : Int32) (a2 : ms), R114 a0 a1 a2 → (∀ (R102' : Int32 → ms → Prop) (R114' : Int32 → Int32 → ms → Prop) (K' : ms → Prop), e_become_137 x1 x2 x3 S R102' R114' K' ↔ R114' a0 a1 a2) → Q) (k_K : ∀ (a0 : ms), K a0 → (∀ (R102' : Int32 → ms → Prop) (R114' : Int32 → Int32 → ms → Prop) (K' : ms → Prop), e_become_137 x1 x2 x3 S R102' R114' K' ↔ K' a0) → Q) : Q := by
  obtain ⟨o, ho, hoc, hi⟩ := lp_det (C := (Int32 → ms → Prop) × (Int32 → Int32 → ms → Prop) × (ms → Prop)) (b := (fun (y : (Int32) × (Int32) × (Int32) × (ms)) (R : ((Int32) × (Int32) × (Int32) × (ms)) → Prop) (c : (Int32 → ms → Prop) × (Int32 → Int32 → ms → Prop) × (ms → Prop)) => b_become_137 y.1 y.2.1 y.2.2.1 y.2.2.2 c.1 c.2.1 (fun z0 z1 z2 z3 => R (z0, z1, z2, z3)) c.2.2)) (O := (fun (o : ((Int32 → ms → Prop) × (Int32 → Int32 → ms → Prop) × (ms → Prop)) → Prop) => (∃ (a0 : Int32) (a1 : ms), o = fun c => c.1 a0 a1) ∨ (∃ (a0 : Int32) (a1 : Int32) (a2 : ms), o = fun c => c.2.1 a0 a1 a2) ∨ (∃ (a0 : ms), o = fun c => c.2.2 a0))) (fun y R c hy => d_b_become_137 hy (fun a0 a1 ha ia => Or.inr ⟨(fun c => c.1 a0 a1), Or.inl ⟨a0, a1, rfl⟩, ha, fun R' c' => ia c'.1 c'.2.1 (fun z0 z1 z2 z3 => R' (z0, z1, z2, z3)) c'.2.2⟩) (fun a0 a1 a2 ha ia => Or.inr ⟨(fun c => c.2.1 a0 a1 a2), Or.inr (Or.inl ⟨a0, a1, a2, rfl⟩), ha, fun R' c' => ia c'.1 c'.2.1 (fun z0 z1 z2 z3 => R' (z0, z1, z2, z3)) c'.2.2⟩) (fun a0 a1 a2 a3 ha ia => Or.inl ⟨(a0, a1, a2, a3), ha, fun R' c' => ia c'.1 c'.2.1 (fun z0 z1 z2 z3 => R' (z0, z1, z2, z3)) c'.2.2⟩) (fun a0 ha ia => Or.inr ⟨(fun c => c.2.2 a0), Or.inr (Or.inr (⟨a0, rfl⟩)), ha, fun R' c' => ia c'.1 c'.2.1 (fun z0 z1 z2 z3 => R' (z0, z1, z2, z3)) c'.2.2⟩)) (l_e_become_137.mp h)
  rcases ho with ⟨a0, a1, rfl⟩ | ⟨a0, a1, a2, rfl⟩ | ⟨a0, rfl⟩
  · exact k_R102 _ _ hoc (fun R102' R114' K' => Iff.trans l_e_become_137 (hi (R102', R114', K')))
  · exact k_R114 _ _ _ hoc (fun R102' R114' K' => Iff.trans l_e_become_137 (hi (R102', R114', K')))
  · exact k_K _ hoc (fun R102' R114' K' => Iff.trans l_e_become_137 (hi (R102', R114', K')))
theorem v_e_become_137 {x1 : Int32} {x2 : Int32} {x3 : Int32} {S : ms} {R102 : Int32 → ms → Prop} {R114 : Int32 → Int32 → ms → Prop} {K : ms → Prop} (h : e_become_137 x1 x2 x3 S R102 R114 K) {G : Prop} (Inv : Int32 → ms → Prop) (h0 : Inv x3 S) (hs : ∀ (yx3 : Int32) (yS : ms) (R : Int32 → Int32 → Int32 → ms → Prop), Inv yx3 yS → b_become_137 x1 x2 yx3 yS R102 R114 R K → (∃ (zx3 : Int32) (zS : ms), R x1 x2 zx3 zS ∧ Inv zx3 zS) ∨ G) : G := by
  obtain ⟨I, μ, i0, is⟩ := h
  have go : ∀ (n : Nat) (yx3 : Int32) (yS : ms), μ x1 x2 yx3 yS < n → I x1 x2 yx3 yS → Inv yx3 yS → G := by
    intro n
    induction n with
    | zero => intro yx3 yS hy; exact absurd hy (Nat.not_lt_zero _)
    | succ n ih =>
      intro yx3 yS hy hI hV
      rcases hs yx3 yS _ hV (is x1 x2 yx3 yS hI) with ⟨zx3, zS, ⟨hz, hm⟩, hv⟩ | g
      · exact ih zx3 zS (Nat.lt_of_lt_of_le hm (Nat.le_of_lt_succ hy)) hz hv
      · exact g
  exact go _ x3 S (Nat.lt_succ_self _) i0 h0
theorem r_e_become_137 {x1 : Int32} {x2 : Int32} {x3 : Int32} {S : ms} {R102 : Int32 → ms → Prop} {R114 : Int32 → Int32 → ms → Prop} {K : ms → Prop} (h : e_become_137 x1 x2 x3 S R102 R114 K) : b_become_137 x1 x2 x3 S R102 R114 (fun zx1 zx2 zx3 zS => e_become_137 zx1 zx2 zx3 zS R102 R114 K) K := by
  obtain ⟨I, μ, i0, is⟩ := h
  exact d_b_become_137 (is x1 x2 x3 S i0) (fun a0 a1 ha ia => (ia _ _ _ _).mpr ha) (fun a0 a1 a2 ha ia => (ia _ _ _ _).mpr ha) (fun a0 a1 a2 a3 ha ia => (ia _ _ _ _).mpr ⟨I, μ, ha.1, is⟩) (fun a0 ha ia => (ia _ _ _ _).mpr ha)
set_option maxHeartbeats 1000000 in
theorem d_b_become_114 {x1 : Int32} {x2 : Int32} {S : ms} {R102 : Int32 → ms → Prop} {R114 : Int32 → Int32 → ms → Prop} {K : ms → Prop} (h : b_become_114 x1 x2 S R102 R114 K) {Q : Prop} (k_R102 : ∀ (a0 : Int32) (a1 : ms), R102 a0 a1 → (∀ (R102' : Int32 → ms → Prop) (R114' : Int32 → Int32 → ms → Prop) (K' : ms → Prop), b_become_114 x1 x2 S R102' R114' K' ↔ R102' a0 a1) → Q) (k_R114 : ∀ (a0 : Int32) (a1 : Int32) (a2 : ms), R114 a0 a1 a2 → (∀ (R102' : Int32 → ms → Prop) (R114' : Int32 → Int32 → ms → Prop) (K' : ms → Prop), b_become_114 x1 x2 S R102' R114' K' ↔ R114' a0 a1 a2) → Q) (k_K : ∀ (a0 : ms), K a0 → (∀ (R102' : Int32 → ms → Prop) (R114' : Int32 → Int32 → ms → Prop) (K' : ms → Prop), b_become_114 x1 x2 S R102' R114' K' ↔ K' a0) → Q) : Q := by
  unfold b_become_114 at h
  refine dt_p (And.right (And.right h)) (fun c_1 h_2 => ?_) (fun c_1 h_2 => ?_)
  ·
    exact k_R102 _ _ h_2 (fun _ _ _ => Iff.trans (dt_a (And.left h)) (Iff.trans (dt_a (And.left (And.right h))) (dt_1 c_1 (fun n => n c_1))))
  ·
    exact d_e_become_137 h_2 (fun a0 a1 h_4 i_3 => k_R102 a0 a1 h_4 (fun _ _ _ => Iff.trans (dt_a (And.left h)) (Iff.trans (dt_a (And.left (And.right h))) (Iff.trans (dt_2 c_1 c_1) (i_3 _ _ _))))) (fun a0 a1 a2 h_6 i_5 => k_R114 a0 a1 a2 h_6 (fun _ _ _ => Iff.trans (dt_a (And.left h)) (Iff.trans (dt_a (And.left (And.right h))) (Iff.trans (dt_2 c_1 c_1) (i_5 _ _ _))))) (fun a0 h_8 i_7 => k_K a0 h_8 (fun _ _ _ => Iff.trans (dt_a (And.left h)) (Iff.trans (dt_a (And.left (And.right h))) (Iff.trans (dt_2 c_1 c_1) (i_7 _ _ _)))))
theorem l_e_become_114  {x1 : Int32} {x2 : Int32} {S : ms} {R102 : Int32 → ms → Prop} {K : ms → Prop} : e_become_114 x1 x2 S R102 K ↔ lpE (C := (Int32 → ms → Prop) × (ms → Prop)) (fun (y : (Int32) × (Int32) × (ms)) (R : ((Int32) × (Int32) × (ms)) → Prop) (c : (Int32 → ms → Prop) × (ms → Prop)) => b_become_114 y.1 y.2.1 y.2.2 c.1 (fun z0 z1 z2 => R (z0, z1, z2)) c.2) (x1, x2, S) (R102, K) :=
  ⟨fun ⟨I, μ, h0, hs⟩ => ⟨fun t => I t.1 t.2.1 t.2.2, fun t => μ t.1 t.2.1 t.2.2, h0, fun t ht => hs _ _ _ ht⟩, fun ⟨I, μ, h0, hs⟩ => ⟨fun y0 y1 y2 => I (y0, y1, y2), fun y0 y1 y2 => μ (y0, y1, y2), h0, fun y0 y1 y2 hy => hs (y0, y1, y2) hy⟩⟩
set_option maxHeartbeats 1000000 in
theorem d_e_become_114 {x1 : Int32} {x2 : Int32} {S : ms} {R102 : Int32 → ms → Prop} {K : ms → Prop} (h : e_become_114 x1 x2 S R102 K) {Q : Prop} (k_R102 : ∀ (a0 : Int32) (a1 : ms), R102 a0 a1 → (∀ (R102' : Int32 → ms → Prop) (K' : ms → Prop), e_become_114 x1 x2 S R102' K' ↔ R102' a0 a1) → Q) (k_K : ∀ (a0 : ms), K a0 → (∀ (R102' : Int32 → ms → Prop) (K' : ms → Prop), e_become_114 x1 x2 S R102' K' ↔ K' a0) → Q) : Q := by
  obtain ⟨o, ho, hoc, hi⟩ := lp_det (C := (Int32 → ms → Prop) × (ms → Prop)) (b := (fun (y : (Int32) × (Int32) × (ms)) (R : ((Int32) × (Int32) × (ms)) → Prop) (c : (Int32 → ms → Prop) × (ms → Prop)) => b_become_114 y.1 y.2.1 y.2.2 c.1 (fun z0 z1 z2 => R (z0, z1, z2)) c.2)) (O := (fun (o : ((Int32 → ms → Prop) × (ms → Prop)) → Prop) => (∃ (a0 : Int32) (a1 : ms), o = fun c => c.1 a0 a1) ∨ (∃ (a0 : ms), o = fun c => c.2 a0))) (fun y R c hy => d_b_become_114 hy (fun a0 a1 ha ia => Or.inr ⟨(fun c => c.1 a0 a1), Or.inl ⟨a0, a1, rfl⟩, ha, fun R' c' => ia c'.1 (fun z0 z1 z2 => R' (z0, z1, z2)) c'.2⟩) (fun a0 a1 a2 ha ia => Or.inl ⟨(a0, a1, a2), ha, fun R' c' => ia c'.1 (fun z0 z1 z2 => R' (z0, z1, z2)) c'.2⟩) (fun a0 ha ia => Or.inr ⟨(fun c => c.2 a0), Or.inr (⟨a0, rfl⟩), ha, fun R' c' => ia c'.1 (fun z0 z1 z2 => R' (z0, z1, z2)) c'.2⟩)) (l_e_become_114.mp h)
  rcases ho with ⟨a0, a1, rfl⟩ | ⟨a0, rfl⟩
  · exact k_R102 _ _ hoc (fun R102' K' => Iff.trans l_e_become_114 (hi (R102', K')))
  · exact k_K _ hoc (fun R102' K' => Iff.trans l_e_become_114 (hi (R102', K')))
theorem v_e_become_114 {x1 : Int32} {x2 : Int32} {S : ms} {R102 : Int32 → ms → Prop} {K : ms → Prop} (h : e_become_114 x1 x2 S R102 K) {G : Prop} (Inv : Int32 → ms → Prop) (h0 : Inv x2 S) (hs : ∀ (yx2 : Int32) (yS : ms) (R : Int32 → Int32 → ms → Prop), Inv yx2 yS → b_become_114 x1 yx2 yS R102 R K → (∃ (zx2 : Int32) (zS : ms), R x1 zx2 zS ∧ Inv zx2 zS) ∨ G) : G := by
  obtain ⟨I, μ, i0, is⟩ := h
  have go : ∀ (n : Nat) (yx2 : Int32) (yS : ms), μ x1 yx2 yS < n → I x1 yx2 yS → Inv yx2 yS → G := by
    intro n
    induction n with
    | zero => intro yx2 yS hy; exact absurd hy (Nat.not_lt_zero _)
    | succ n ih =>
      intro yx2 yS hy hI hV
      rcases hs yx2 yS _ hV (is x1 yx2 yS hI) with ⟨zx2, zS, ⟨hz, hm⟩, hv⟩ | g
      · exact ih zx2 zS (Nat.lt_of_lt_of_le hm (Nat.le_of_lt_succ hy)) hz hv
      · exact g
  exact go _ x2 S (Nat.lt_succ_self _) i0 h0
theorem r_e_become_114 {x1 : Int32} {x2 : Int32} {S : ms} {R102 : Int32 → ms → Prop} {K : ms → Prop} (h : e_become_114 x1 x2 S R102 K) : b_become_114 x1 x2 S R102 (fun zx1 zx2 zS => e_become_114 zx1 zx2 zS R102 K) K := by
  obtain ⟨I, μ, i0, is⟩ := h
  exact d_b_become_114 (is x1 x2 S i0) (fun a0 a1 ha ia => (ia _ _ _).mpr ha) (fun a0 a1 a2 ha ia => (ia _ _ _).mpr ⟨I, μ, ha.1, is⟩) (fun a0 ha ia => (ia _ _ _).mpr ha)
set_option maxHeartbeats 1000000 in
theorem d_b_become_102 {x1 : Int32} {S : ms} {R102 : Int32 → ms → Prop} {K : ms → Prop} (h : b_become_102 x1 S R102 K) {Q : Prop} (k_R102 : ∀ (a0 : Int32) (a1 : ms), R102 a0 a1 → (∀ (R102' : Int32 → ms → Prop) (K' : ms → Prop), b_become_102 x1 S R102' K' ↔ R102' a0 a1) → Q) (k_K : ∀ (a0 : ms), K a0 → (∀ (R102' : Int32 → ms → Prop) (K' : ms → Prop), b_become_102 x1 S R102' K' ↔ K' a0) → Q) : Q := by
  unfold b_become_102 at h
  refine dt_p (And.right h) (fun c_1 h_2 => ?_) (fun c_1 h_2 => ?_)
  ·
    exact k_K _ h_2 (fun _ _ => Iff.trans (dt_a (And.left h)) (dt_1 c_1 (fun n => n c_1)))
  ·
    exact d_e_become_114 h_2 (fun a0 a1 h_4 i_3 => k_R102 a0 a1 h_4 (fun _ _ => Iff.trans (dt_a (And.left h)) (Iff.trans (dt_2 c_1 c_1) (i_3 _ _)))) (fun a0 h_6 i_5 => k_K a0 h_6 (fun _ _ => Iff.trans (dt_a (And.left h)) (Iff.trans (dt_2 c_1 c_1) (i_5 _ _))))
theorem l_e_become_102  {x1 : Int32} {S : ms} {K : ms → Prop} : e_become_102 x1 S K ↔ lpE (C := (ms → Prop)) (fun (y : (Int32) × (ms)) (R : ((Int32) × (ms)) → Prop) (c : (ms → Prop)) => b_become_102 y.1 y.2 (fun z0 z1 => R (z0, z1)) c) (x1, S) K :=
  ⟨fun ⟨I, μ, h0, hs⟩ => ⟨fun t => I t.1 t.2, fun t => μ t.1 t.2, h0, fun t ht => hs _ _ ht⟩, fun ⟨I, μ, h0, hs⟩ => ⟨fun y0 y1 => I (y0, y1), fun y0 y1 => μ (y0, y1), h0, fun y0 y1 hy => hs (y0, y1) hy⟩⟩
set_option maxHeartbeats 1000000 in
theorem d_e_become_102 {x1 : Int32} {S : ms} {K : ms → Prop} (h : e_become_102 x1 S K) {Q : Prop} (k_K : ∀ (a0 : ms), K a0 → (∀ (K' : ms → Prop), e_become_102 x1 S K' ↔ K' a0) → Q) : Q := by
  obtain ⟨o, ho, hoc, hi⟩ := lp_det (C := (ms → Prop)) (b := (fun (y : (Int32) × (ms)) (R : ((Int32) × (ms)) → Prop) (c : (ms → Prop)) => b_become_102 y.1 y.2 (fun z0 z1 => R (z0, z1)) c)) (O := (fun (o : ((ms → Prop)) → Prop) => (∃ (a0 : ms), o = fun c => c a0))) (fun y R c hy => d_b_become_102 hy (fun a0 a1 ha ia => Or.inl ⟨(a0, a1), ha, fun R' c' => ia (fun z0 z1 => R' (z0, z1)) c'⟩) (fun a0 ha ia => Or.inr ⟨(fun c => c a0), ⟨a0, rfl⟩, ha, fun R' c' => ia (fun z0 z1 => R' (z0, z1)) c'⟩)) (l_e_become_102.mp h)
  rcases ho with ⟨a0, rfl⟩
  · exact k_K _ hoc (fun K' => Iff.trans l_e_become_102 (hi K'))
theorem v_e_become_102 {x1 : Int32} {S : ms} {K : ms → Prop} (h : e_become_102 x1 S K) {G : Prop} (Inv : Int32 → ms → Prop) (h0 : Inv x1 S) (hs : ∀ (yx1 : Int32) (yS : ms) (R : Int32 → ms → Prop), Inv yx1 yS → b_become_102 yx1 yS R K → (∃ (zx1 : Int32) (zS : ms), R zx1 zS ∧ Inv zx1 zS) ∨ G) : G := by
  obtain ⟨I, μ, i0, is⟩ := h
  have go : ∀ (n : Nat) (yx1 : Int32) (yS : ms), μ yx1 yS < n → I yx1 yS → Inv yx1 yS → G := by
    intro n
    induction n with
    | zero => intro yx1 yS hy; exact absurd hy (Nat.not_lt_zero _)
    | succ n ih =>
      intro yx1 yS hy hI hV
      rcases hs yx1 yS _ hV (is yx1 yS hI) with ⟨zx1, zS, ⟨hz, hm⟩, hv⟩ | g
      · exact ih zx1 zS (Nat.lt_of_lt_of_le hm (Nat.le_of_lt_succ hy)) hz hv
      · exact g
  exact go _ x1 S (Nat.lt_succ_self _) i0 h0
theorem r_e_become_102 {x1 : Int32} {S : ms} {K : ms → Prop} (h : e_become_102 x1 S K) : b_become_102 x1 S (fun zx1 zS => e_become_102 zx1 zS K) K := by
  obtain ⟨I, μ, i0, is⟩ := h
  exact d_b_become_102 (is x1 S i0) (fun a0 a1 ha ia => (ia _ _).mpr ⟨I, μ, ha.1, is⟩) (fun a0 ha ia => (ia _ _).mpr ha)
set_option maxHeartbeats 1000000 in
theorem d_b_become_45 {x1 : Int32} {S : ms} {R45 : Int32 → ms → Prop} {K : ms → Prop} (h : b_become_45 x1 S R45 K) {Q : Prop} (k_R45 : ∀ (a0 : Int32) (a1 : ms), R45 a0 a1 → (∀ (R45' : Int32 → ms → Prop) (K' : ms → Prop), b_become_45 x1 S R45' K' ↔ R45' a0 a1) → Q) (k_K : ∀ (a0 : ms), K a0 → (∀ (R45' : Int32 → ms → Prop) (K' : ms → Prop), b_become_45 x1 S R45' K' ↔ K' a0) → Q) : Q := by
  unfold b_become_45 at h
  refine dt_p (And.right h) (fun c_1 h_2 => ?_) (fun c_1 h_2 => ?_)
  ·
    refine d_p_makeGrids h_2 (fun S97 h_4 i_3 => ?_)
    exact d_e_become_102 h_4 (fun a0 h_6 i_5 => k_K a0 h_6 (fun _ _ => Iff.trans (dt_a (And.left h)) (Iff.trans (dt_1 c_1 (fun n => n c_1)) (Iff.trans (i_3 _) (i_5 _)))))
  ·
    exact k_R45 _ _ (And.right (And.right (And.right (And.right h_2)))) (fun _ _ => Iff.trans (dt_a (And.left h)) (Iff.trans (dt_2 c_1 c_1) (Iff.trans (dt_a (And.left h_2)) (Iff.trans (dt_a (And.left (And.right h_2))) (Iff.trans (dt_a (And.left (And.right (And.right h_2)))) (dt_a (And.left (And.right (And.right (And.right h_2))))))))))
theorem l_e_become_45  {x1 : Int32} {S : ms} {K : ms → Prop} : e_become_45 x1 S K ↔ lpE (C := (ms → Prop)) (fun (y : (Int32) × (ms)) (R : ((Int32) × (ms)) → Prop) (c : (ms → Prop)) => b_become_45 y.1 y.2 (fun z0 z1 => R (z0, z1)) c) (x1, S) K :=
  ⟨fun ⟨I, μ, h0, hs⟩ => ⟨fun t => I t.1 t.2, fun t => μ t.1 t.2, h0, fun t ht => hs _ _ ht⟩, fun ⟨I, μ, h0, hs⟩ => ⟨fun y0 y1 => I (y0, y1), fun y0 y1 => μ (y0, y1), h0, fun y0 y1 hy => hs (y0, y1) hy⟩⟩
set_option maxHeartbeats 1000000 in
theorem d_e_become_45 {x1 : Int32} {S : ms} {K : ms → Prop} (h : e_become_45 x1 S K) {Q : Prop} (k_K : ∀ (a0 : ms), K a0 → (∀ (K' : ms → Prop), e_become_45 x1 S K' ↔ K' a0) → Q) : Q := by
  obtain ⟨o, ho, hoc, hi⟩ := lp_det (C := (ms → Prop)) (b := (fun (y : (Int32) × (ms)) (R : ((Int32) × (ms)) → Prop) (c : (ms → Prop)) => b_become_45 y.1 y.2 (fun z0 z1 => R (z0, z1)) c)) (O := (fun (o : ((ms → Prop)) → Prop) => (∃ (a0 : ms), o = fun c => c a0))) (fun y R c hy => d_b_become_45 hy (fun a0 a1 ha ia => Or.inl ⟨(a0, a1), ha, fun R' c' => ia (fun z0 z1 => R' (z0, z1)) c'⟩) (fun a0 ha ia => Or.inr ⟨(fun c => c a0), ⟨a0, rfl⟩, ha, fun R' c' => ia (fun z0 z1 => R' (z0, z1)) c'⟩)) (l_e_become_45.mp h)
  rcases ho with ⟨a0, rfl⟩
  · exact k_K _ hoc (fun K' => Iff.trans l_e_become_45 (hi K'))
theorem v_e_become_45 {x1 : Int32} {S : ms} {K : ms → Prop} (h : e_become_45 x1 S K) {G : Prop} (Inv : Int32 → ms → Prop) (h0 : Inv x1 S) (hs : ∀ (yx1 : Int32) (yS : ms) (R : Int32 → ms → Prop), Inv yx1 yS → b_become_45 yx1 yS R K → (∃ (zx1 : Int32) (zS : ms), R zx1 zS ∧ Inv zx1 zS) ∨ G) : G := by
  obtain ⟨I, μ, i0, is⟩ := h
  have go : ∀ (n : Nat) (yx1 : Int32) (yS : ms), μ yx1 yS < n → I yx1 yS → Inv yx1 yS → G := by
    intro n
    induction n with
    | zero => intro yx1 yS hy; exact absurd hy (Nat.not_lt_zero _)
    | succ n ih =>
      intro yx1 yS hy hI hV
      rcases hs yx1 yS _ hV (is yx1 yS hI) with ⟨zx1, zS, ⟨hz, hm⟩, hv⟩ | g
      · exact ih zx1 zS (Nat.lt_of_lt_of_le hm (Nat.le_of_lt_succ hy)) hz hv
      · exact g
  exact go _ x1 S (Nat.lt_succ_self _) i0 h0
theorem r_e_become_45 {x1 : Int32} {S : ms} {K : ms → Prop} (h : e_become_45 x1 S K) : b_become_45 x1 S (fun zx1 zS => e_become_45 zx1 zS K) K := by
  obtain ⟨I, μ, i0, is⟩ := h
  exact d_b_become_45 (is x1 S i0) (fun a0 a1 ha ia => (ia _ _).mpr ⟨I, μ, ha.1, is⟩) (fun a0 ha ia => (ia _ _).mpr ha)
set_option maxHeartbeats 1000000 in
theorem d_p_become {S : ms} {K : ms → Prop} (h : p_become S K) {Q : Prop} (k_K : ∀ (a0 : ms), K a0 → (∀ (K' : ms → Prop), p_become S K' ↔ K' a0) → Q) : Q := by
  unfold p_become at h
  exact d_e_become_45 (And.right (And.right (And.right (And.right (And.right (And.right (And.right h))))))) (fun a0 h_2 i_1 => k_K a0 h_2 (fun _ => Iff.trans (dt_a (And.left h)) (Iff.trans (dt_a (And.left (And.right h))) (Iff.trans (dt_a (And.left (And.right (And.right h)))) (Iff.trans (dt_a (And.left (And.right (And.right (And.right h))))) (Iff.trans (dt_a (And.left (And.right (And.right (And.right (And.right h)))))) (Iff.trans (dt_a (And.left (And.right (And.right (And.right (And.right (And.right h))))))) (Iff.trans (dt_a (And.left (And.right (And.right (And.right (And.right (And.right (And.right h)))))))) (i_1 _)))))))))
set_option maxHeartbeats 1000000 in
theorem d_b_unpack_148 {S : ms} {K : Int32 → ms → Prop} (h : b_unpack_148 S K) {Q : Prop} (k_K : ∀ (a0 : Int32) (a1 : ms), K a0 a1 → (∀ (K' : Int32 → ms → Prop), b_unpack_148 S K' ↔ K' a0 a1) → Q) : Q := by
  unfold b_unpack_148 at h
  exact k_K _ _ h (fun _ => Iff.rfl)
set_option maxHeartbeats 1000000 in
theorem d_b_unpack_137 {S : ms} {K : Int32 → ms → Prop} (h : b_unpack_137 S K) {Q : Prop} (k_K : ∀ (a0 : Int32) (a1 : ms), K a0 a1 → (∀ (K' : Int32 → ms → Prop), b_unpack_137 S K' ↔ K' a0 a1) → Q) : Q := by
  unfold b_unpack_137 at h
  refine dt_n h (fun c_1 h_2 => ?_) (fun c_1 h_2 => ?_)
  ·
    exact d_b_unpack_148 h_2 (fun a0 a1 h_4 i_3 => k_K a0 a1 h_4 (fun _ => Iff.trans (dt_1 c_1 c_1) (i_3 _)))
  ·
    refine d_p_become h_2 (fun S145 h_6 i_5 => ?_)
    exact d_b_unpack_148 h_6 (fun a0 a1 h_8 i_7 => k_K a0 a1 h_8 (fun _ => Iff.trans (dt_2 (fun n => n c_1) c_1) (Iff.trans (i_5 _) (i_7 _))))
set_option maxHeartbeats 1000000 in
theorem d_b_unpack_108 {S : ms} {K : Int32 → ms → Prop} (h : b_unpack_108 S K) {Q : Prop} (k_K : ∀ (a0 : Int32) (a1 : ms), K a0 a1 → (∀ (K' : Int32 → ms → Prop), b_unpack_108 S K' ↔ K' a0 a1) → Q) : Q := by
  unfold b_unpack_108 at h
  refine dt_n h (fun c_1 h_2 => ?_) (fun c_1 h_2 => ?_)
  ·
    exact d_b_unpack_137 h_2 (fun a0 a1 h_4 i_3 => k_K a0 a1 h_4 (fun _ => Iff.trans (dt_1 c_1 c_1) (i_3 _)))
  ·
    refine dt_p h_2 (fun c_5 h_6 => ?_) (fun c_5 h_6 => ?_)
    ·
      exact d_b_unpack_137 h_6 (fun a0 a1 h_8 i_7 => k_K a0 a1 h_8 (fun _ => Iff.trans (dt_2 (fun n => n c_1) c_1) (Iff.trans (dt_1 c_5 (fun n => n c_5)) (i_7 _))))
    ·
      refine d_p_fail h_6 (fun v133 S133 h_10 i_9 => ?_)
      exact d_b_unpack_137 h_10 (fun a0 a1 h_12 i_11 => k_K a0 a1 h_12 (fun _ => Iff.trans (dt_2 (fun n => n c_1) c_1) (Iff.trans (dt_2 c_5 c_5) (Iff.trans (i_9 _) (i_11 _)))))
set_option maxHeartbeats 1000000 in
theorem d_b_unpack_86 {x1 : Int32} {S : ms} {R40 : Int32 → ms → Prop} {K : Int32 → ms → Prop} (h : b_unpack_86 x1 S R40 K) {Q : Prop} (k_R40 : ∀ (a0 : Int32) (a1 : ms), R40 a0 a1 → (∀ (R40' : Int32 → ms → Prop) (K' : Int32 → ms → Prop), b_unpack_86 x1 S R40' K' ↔ R40' a0 a1) → Q) (k_K : ∀ (a0 : Int32) (a1 : ms), K a0 a1 → (∀ (R40' : Int32 → ms → Prop) (K' : Int32 → ms → Prop), b_unpack_86 x1 S R40' K' ↔ K' a0 a1) → Q) : Q := by
  unfold b_unpack_86 at h
  refine dt_n h (fun c_1 h_2 => ?_) (fun c_1 h_2 => ?_)
  ·
    exact k_R40 _ _ h_2 (fun _ _ => dt_1 c_1 c_1)
  ·
    refine dt_p h_2 (fun c_3 h_4 => ?_) (fun c_3 h_4 => ?_)
    ·
      exact k_R40 _ _ h_4 (fun _ _ => Iff.trans (dt_2 (fun n => n c_1) c_1) (dt_1 c_3 (fun n => n c_3)))
    ·
      refine d_p_readSection h_4 (fun S102 h_6 i_5 => ?_)
      exact k_R40 _ _ h_6 (fun _ _ => Iff.trans (dt_2 (fun n => n c_1) c_1) (Iff.trans (dt_2 c_3 c_3) (i_5 _)))
set_option maxHeartbeats 1000000 in
theorem d_b_unpack_40 {x1 : Int32} {S : ms} {R40 : Int32 → ms → Prop} {K : Int32 → ms → Prop} (h : b_unpack_40 x1 S R40 K) {Q : Prop} (k_R40 : ∀ (a0 : Int32) (a1 : ms), R40 a0 a1 → (∀ (R40' : Int32 → ms → Prop) (K' : Int32 → ms → Prop), b_unpack_40 x1 S R40' K' ↔ R40' a0 a1) → Q) (k_K : ∀ (a0 : Int32) (a1 : ms), K a0 a1 → (∀ (R40' : Int32 → ms → Prop) (K' : Int32 → ms → Prop), b_unpack_40 x1 S R40' K' ↔ K' a0 a1) → Q) : Q := by
  unfold b_unpack_40 at h
  refine dt_n h (fun c_1 h_2 => ?_) (fun c_1 h_2 => ?_)
  ·
    exact d_b_unpack_108 h_2 (fun a0 a1 h_4 i_3 => k_K a0 a1 h_4 (fun _ _ => Iff.trans (dt_1 c_1 c_1) (i_3 _)))
  ·
    refine dt_p h_2 (fun c_5 h_6 => ?_) (fun c_5 h_6 => ?_)
    ·
      exact d_b_unpack_108 h_6 (fun a0 a1 h_8 i_7 => k_K a0 a1 h_8 (fun _ _ => Iff.trans (dt_2 (fun n => n c_1) c_1) (Iff.trans (dt_1 c_5 (fun n => n c_5)) (i_7 _))))
    ·
      refine d_p_readMark h_6 (fun v55 S55 h_10 i_9 => ?_)
      refine dt_n h_10 (fun c_11 h_12 => ?_) (fun c_11 h_12 => ?_)
      ·
        exact d_b_unpack_86 h_12 (fun a0 a1 h_14 i_13 => k_R40 a0 a1 h_14 (fun _ _ => Iff.trans (dt_2 (fun n => n c_1) c_1) (Iff.trans (dt_2 c_5 c_5) (Iff.trans (i_9 _) (Iff.trans (dt_1 c_11 c_11) (i_13 _ _)))))) (fun a0 a1 h_16 i_15 => k_K a0 a1 h_16 (fun _ _ => Iff.trans (dt_2 (fun n => n c_1) c_1) (Iff.trans (dt_2 c_5 c_5) (Iff.trans (i_9 _) (Iff.trans (dt_1 c_11 c_11) (i_15 _ _))))))
      ·
        refine d_p_mayCome h_12 (fun v68 S68 h_18 i_17 => ?_)
        refine dt_n h_18 (fun c_19 h_20 => ?_) (fun c_19 h_20 => ?_)
        ·
          exact d_b_unpack_86 h_20 (fun a0 a1 h_22 i_21 => k_R40 a0 a1 h_22 (fun _ _ => Iff.trans (dt_2 (fun n => n c_1) c_1) (Iff.trans (dt_2 c_5 c_5) (Iff.trans (i_9 _) (Iff.trans (dt_2 (fun n => n c_11) c_11) (Iff.trans (i_17 _) (Iff.trans (dt_1 c_19 c_19) (i_21 _ _)))))))) (fun a0 a1 h_24 i_23 => k_K a0 a1 h_24 (fun _ _ => Iff.trans (dt_2 (fun n => n c_1) c_1) (Iff.trans (dt_2 c_5 c_5) (Iff.trans (i_9 _) (Iff.trans (dt_2 (fun n => n c_11) c_11) (Iff.trans (i_17 _) (Iff.trans (dt_1 c_19 c_19) (i_23 _ _))))))))
        ·
          refine d_p_fail h_20 (fun v82 S82 h_26 i_25 => ?_)
          exact d_b_unpack_86 h_26 (fun a0 a1 h_28 i_27 => k_R40 a0 a1 h_28 (fun _ _ => Iff.trans (dt_2 (fun n => n c_1) c_1) (Iff.trans (dt_2 c_5 c_5) (Iff.trans (i_9 _) (Iff.trans (dt_2 (fun n => n c_11) c_11) (Iff.trans (i_17 _) (Iff.trans (dt_2 (fun n => n c_19) c_19) (Iff.trans (i_25 _) (i_27 _ _))))))))) (fun a0 a1 h_30 i_29 => k_K a0 a1 h_30 (fun _ _ => Iff.trans (dt_2 (fun n => n c_1) c_1) (Iff.trans (dt_2 c_5 c_5) (Iff.trans (i_9 _) (Iff.trans (dt_2 (fun n => n c_11) c_11) (Iff.trans (i_17 _) (Iff.trans (dt_2 (fun n => n c_19) c_19) (Iff.trans (i_25 _) (i_29 _ _)))))))))
theorem l_e_unpack_40  {x1 : Int32} {S : ms} {K : Int32 → ms → Prop} : e_unpack_40 x1 S K ↔ lpE (C := (Int32 → ms → Prop)) (fun (y : (Int32) × (ms)) (R : ((Int32) × (ms)) → Prop) (c : (Int32 → ms → Prop)) => b_unpack_40 y.1 y.2 (fun z0 z1 => R (z0, z1)) c) (x1, S) K :=
  ⟨fun ⟨I, μ, h0, hs⟩ => ⟨fun t => I t.1 t.2, fun t => μ t.1 t.2, h0, fun t ht => hs _ _ ht⟩, fun ⟨I, μ, h0, hs⟩ => ⟨fun y0 y1 => I (y0, y1), fun y0 y1 => μ (y0, y1), h0, fun y0 y1 hy => hs (y0, y1) hy⟩⟩
set_option maxHeartbeats 1000000 in
theorem d_e_unpack_40 {x1 : Int32} {S : ms} {K : Int32 → ms → Prop} (h : e_unpack_40 x1 S K) {Q : Prop} (k_K : ∀ (a0 : Int32) (a1 : ms), K a0 a1 → (∀ (K' : Int32 → ms → Prop), e_unpack_40 x1 S K' ↔ K' a0 a1) → Q) : Q := by
  obtain ⟨o, ho, hoc, hi⟩ := lp_det (C := (Int32 → ms → Prop)) (b := (fun (y : (Int32) × (ms)) (R : ((Int32) × (ms)) → Prop) (c : (Int32 → ms → Prop)) => b_unpack_40 y.1 y.2 (fun z0 z1 => R (z0, z1)) c)) (O := (fun (o : ((Int32 → ms → Prop)) → Prop) => (∃ (a0 : Int32) (a1 : ms), o = fun c => c a0 a1))) (fun y R c hy => d_b_unpack_40 hy (fun a0 a1 ha ia => Or.inl ⟨(a0, a1), ha, fun R' c' => ia (fun z0 z1 => R' (z0, z1)) c'⟩) (fun a0 a1 ha ia => Or.inr ⟨(fun c => c a0 a1), ⟨a0, a1, rfl⟩, ha, fun R' c' => ia (fun z0 z1 => R' (z0, z1)) c'⟩)) (l_e_unpack_40.mp h)
  rcases ho with ⟨a0, a1, rfl⟩
  · exact k_K _ _ hoc (fun K' => Iff.trans l_e_unpack_40 (hi K'))
theorem v_e_unpack_40 {x1 : Int32} {S : ms} {K : Int32 → ms → Prop} (h : e_unpack_40 x1 S K) {G : Prop} (Inv : Int32 → ms → Prop) (h0 : Inv x1 S) (hs : ∀ (yx1 : Int32) (yS : ms) (R : Int32 → ms → Prop), Inv yx1 yS → b_unpack_40 yx1 yS R K → (∃ (zx1 : Int32) (zS : ms), R zx1 zS ∧ Inv zx1 zS) ∨ G) : G := by
  obtain ⟨I, μ, i0, is⟩ := h
  have go : ∀ (n : Nat) (yx1 : Int32) (yS : ms), μ yx1 yS < n → I yx1 yS → Inv yx1 yS → G := by
    intro n
    induction n with
    | zero => intro yx1 yS hy; exact absurd hy (Nat.not_lt_zero _)
    | succ n ih =>
      intro yx1 yS hy hI hV
      rcases hs yx1 yS _ hV (is yx1 yS hI) with ⟨zx1, zS, ⟨hz, hm⟩, hv⟩ | g
      · exact ih zx1 zS (Nat.lt_of_lt_of_le hm (Nat.le_of_lt_succ hy)) hz hv
      · exact g
  exact go _ x1 S (Nat.lt_succ_self _) i0 h0
theorem r_e_unpack_40 {x1 : Int32} {S : ms} {K : Int32 → ms → Prop} (h : e_unpack_40 x1 S K) : b_unpack_40 x1 S (fun zx1 zS => e_unpack_40 zx1 zS K) K := by
  obtain ⟨I, μ, i0, is⟩ := h
  exact d_b_unpack_40 (is x1 S i0) (fun a0 a1 ha ia => (ia _ _).mpr ⟨I, μ, ha.1, is⟩) (fun a0 a1 ha ia => (ia _ _).mpr ha)
set_option maxHeartbeats 1000000 in
theorem d_p_unpack {S : ms} {K : Int32 → ms → Prop} (h : p_unpack S K) {Q : Prop} (k_K : ∀ (a0 : Int32) (a1 : ms), K a0 a1 → (∀ (K' : Int32 → ms → Prop), p_unpack S K' ↔ K' a0 a1) → Q) : Q := by
  unfold p_unpack at h
  refine d_p_begin h (fun S6 h_2 i_1 => ?_)
  refine d_p_readMark h_2 (fun v10 S10 h_4 i_3 => ?_)
  refine dt_n h_4 (fun c_5 h_6 => ?_) (fun c_5 h_6 => ?_)
  ·
    exact d_e_unpack_40 h_6 (fun a0 a1 h_8 i_7 => k_K a0 a1 h_8 (fun _ => Iff.trans (i_1 _) (Iff.trans (i_3 _) (Iff.trans (dt_1 c_5 c_5) (i_7 _)))))
  ·
    refine dt_p h_6 (fun c_9 h_10 => ?_) (fun c_9 h_10 => ?_)
    ·
      exact d_e_unpack_40 h_10 (fun a0 a1 h_12 i_11 => k_K a0 a1 h_12 (fun _ => Iff.trans (i_1 _) (Iff.trans (i_3 _) (Iff.trans (dt_2 (fun n => n c_5) c_5) (Iff.trans (dt_1 c_9 (fun n => n c_9)) (i_11 _))))))
    ·
      refine d_p_fail h_10 (fun v36 S36 h_14 i_13 => ?_)
      exact d_e_unpack_40 h_14 (fun a0 a1 h_16 i_15 => k_K a0 a1 h_16 (fun _ => Iff.trans (i_1 _) (Iff.trans (i_3 _) (Iff.trans (dt_2 (fun n => n c_5) c_5) (Iff.trans (dt_2 c_9 c_9) (Iff.trans (i_13 _) (i_15 _)))))))
set_option maxHeartbeats 1000000 in
theorem d_p_place {S : ms} {K : Int32 → ms → Prop} (h : p_place S K) {Q : Prop} (k_K : ∀ (a0 : Int32) (a1 : ms), K a0 a1 → (∀ (K' : Int32 → ms → Prop), p_place S K' ↔ K' a0 a1) → Q) : Q := by
  unfold p_place at h
  exact k_K _ _ h (fun _ => Iff.rfl)
set_option maxHeartbeats 1000000 in
theorem d_b_about_75 {s0 : Int32} {S : ms} {K : Int32 → ms → Prop} (h : b_about_75 s0 S K) {Q : Prop} (k_K : ∀ (a0 : Int32) (a1 : ms), K a0 a1 → (∀ (K' : Int32 → ms → Prop), b_about_75 s0 S K' ↔ K' a0 a1) → Q) : Q := by
  unfold b_about_75 at h
  exact k_K _ _ h (fun _ => Iff.rfl)
set_option maxHeartbeats 1000000 in
theorem d_b_about_28 {x1 : Int32} {s1 : Int32} {S : ms} {K : Int32 → ms → Prop} (h : b_about_28 x1 s1 S K) {Q : Prop} (k_K : ∀ (a0 : Int32) (a1 : ms), K a0 a1 → (∀ (K' : Int32 → ms → Prop), b_about_28 x1 s1 S K' ↔ K' a0 a1) → Q) : Q := by
  unfold b_about_28 at h
  refine dt_p h (fun c_1 h_2 => ?_) (fun c_1 h_2 => ?_)
  ·
    refine dt_n h_2 (fun c_3 h_4 => ?_) (fun c_3 h_4 => ?_)
    ·
      refine dt_n h_4 (fun c_5 h_6 => ?_) (fun c_5 h_6 => ?_)
      ·
        exact d_b_about_75 (And.right h_6) (fun a0 a1 h_8 i_7 => k_K a0 a1 h_8 (fun _ => Iff.trans (dt_1 c_1 (fun n => n c_1)) (Iff.trans (dt_1 c_3 c_3) (Iff.trans (dt_1 c_5 c_5) (Iff.trans (dt_a (And.left h_6)) (i_7 _))))))
      ·
        exact d_b_about_75 (And.right h_6) (fun a0 a1 h_10 i_9 => k_K a0 a1 h_10 (fun _ => Iff.trans (dt_1 c_1 (fun n => n c_1)) (Iff.trans (dt_1 c_3 c_3) (Iff.trans (dt_2 (fun n => n c_5) c_5) (Iff.trans (dt_a (And.left h_6)) (i_9 _))))))
    ·
      exact d_b_about_75 (And.right h_4) (fun a0 a1 h_12 i_11 => k_K a0 a1 h_12 (fun _ => Iff.trans (dt_1 c_1 (fun n => n c_1)) (Iff.trans (dt_2 (fun n => n c_3) c_3) (Iff.trans (dt_a (And.left h_4)) (i_11 _)))))
  ·
    exact d_b_about_75 h_2 (fun a0 a1 h_14 i_13 => k_K a0 a1 h_14 (fun _ => Iff.trans (dt_2 c_1 c_1) (i_13 _)))
set_option maxHeartbeats 1000000 in
theorem d_b_about_10 {x1 : Int32} {S : ms} {K : Int32 → ms → Prop} (h : b_about_10 x1 S K) {Q : Prop} (k_K : ∀ (a0 : Int32) (a1 : ms), K a0 a1 → (∀ (K' : Int32 → ms → Prop), b_about_10 x1 S K' ↔ K' a0 a1) → Q) : Q := by
  unfold b_about_10 at h
  exact d_b_about_28 h (fun a0 a1 h_2 i_1 => k_K a0 a1 h_2 (fun _ => i_1 _))
set_option maxHeartbeats 1000000 in
theorem d_p_about {x1 : Int32} {S : ms} {K : Int32 → ms → Prop} (h : p_about x1 S K) {Q : Prop} (k_K : ∀ (a0 : Int32) (a1 : ms), K a0 a1 → (∀ (K' : Int32 → ms → Prop), p_about x1 S K' ↔ K' a0 a1) → Q) : Q := by
  unfold p_about at h
  refine dt_p h (fun c_1 h_2 => ?_) (fun c_1 h_2 => ?_)
  ·
    exact d_b_about_10 h_2 (fun a0 a1 h_4 i_3 => k_K a0 a1 h_4 (fun _ => Iff.trans (dt_1 c_1 (fun n => n c_1)) (i_3 _)))
  ·
    refine dt_p h_2 (fun c_5 h_6 => ?_) (fun c_5 h_6 => ?_)
    ·
      refine dt_p (And.right h_6) (fun c_7 h_8 => ?_) (fun c_7 h_8 => ?_)
      ·
        exact d_b_about_28 h_8 (fun a0 a1 h_10 i_9 => k_K a0 a1 h_10 (fun _ => Iff.trans (dt_2 c_1 c_1) (Iff.trans (dt_1 c_5 (fun n => n c_5)) (Iff.trans (dt_a (And.left h_6)) (Iff.trans (dt_1 c_7 (fun n => n c_7)) (i_9 _))))))
      ·
        exact d_b_about_28 h_8 (fun a0 a1 h_12 i_11 => k_K a0 a1 h_12 (fun _ => Iff.trans (dt_2 c_1 c_1) (Iff.trans (dt_1 c_5 (fun n => n c_5)) (Iff.trans (dt_a (And.left h_6)) (Iff.trans (dt_2 c_7 c_7) (i_11 _))))))
    ·
      exact d_b_about_10 h_6 (fun a0 a1 h_14 i_13 => k_K a0 a1 h_14 (fun _ => Iff.trans (dt_2 c_1 c_1) (Iff.trans (dt_2 c_5 c_5) (i_13 _))))
set_option maxHeartbeats 1000000 in
theorem d_p_layerSample {x1 : Int32} {x2 : Int32} {x3 : Int32} {S : ms} {K : Int32 → ms → Prop} (h : p_layerSample x1 x2 x3 S K) {Q : Prop} (k_K : ∀ (a0 : Int32) (a1 : ms), K a0 a1 → (∀ (K' : Int32 → ms → Prop), p_layerSample x1 x2 x3 S K' ↔ K' a0 a1) → Q) : Q := by
  unfold p_layerSample at h
  refine d_p_greatest (And.right h) (fun v13 S13 h_2 i_1 => ?_)
  refine d_p_greatest (And.right (And.right h_2)) (fun v32 S32 h_4 i_3 => ?_)
  exact k_K _ _ (And.right (And.right h_4)) (fun _ => Iff.trans (dt_a (And.left h)) (Iff.trans (i_1 _) (Iff.trans (dt_a (And.left h_2)) (Iff.trans (dt_a (And.left (And.right h_2))) (Iff.trans (i_3 _) (Iff.trans (dt_a (And.left h_4)) (dt_a (And.left (And.right h_4)))))))))
set_option maxHeartbeats 1000000 in
theorem d_b_sampleAt_142 {s0 : Int32} {S : ms} {K : Int32 → ms → Prop} (h : b_sampleAt_142 s0 S K) {Q : Prop} (k_K : ∀ (a0 : Int32) (a1 : ms), K a0 a1 → (∀ (K' : Int32 → ms → Prop), b_sampleAt_142 s0 S K' ↔ K' a0 a1) → Q) : Q := by
  unfold b_sampleAt_142 at h
  exact k_K _ _ h (fun _ => Iff.rfl)
set_option maxHeartbeats 1000000 in
theorem d_b_sampleAt_115 {s0 : Int32} {S : ms} {K : Int32 → ms → Prop} (h : b_sampleAt_115 s0 S K) {Q : Prop} (k_K : ∀ (a0 : Int32) (a1 : ms), K a0 a1 → (∀ (K' : Int32 → ms → Prop), b_sampleAt_115 s0 S K' ↔ K' a0 a1) → Q) : Q := by
  unfold b_sampleAt_115 at h
  refine dt_p h (fun c_1 h_2 => ?_) (fun c_1 h_2 => ?_)
  ·
    refine dt_p h_2 (fun c_3 h_4 => ?_) (fun c_3 h_4 => ?_)
    ·
      exact d_b_sampleAt_142 h_4 (fun a0 a1 h_6 i_5 => k_K a0 a1 h_6 (fun _ => Iff.trans (dt_1 c_1 (fun n => n c_1)) (Iff.trans (dt_1 c_3 (fun n => n c_3)) (i_5 _))))
    ·
      exact d_b_sampleAt_142 h_4 (fun a0 a1 h_8 i_7 => k_K a0 a1 h_8 (fun _ => Iff.trans (dt_1 c_1 (fun n => n c_1)) (Iff.trans (dt_2 c_3 c_3) (i_7 _))))
  ·
    exact d_b_sampleAt_142 h_2 (fun a0 a1 h_10 i_9 => k_K a0 a1 h_10 (fun _ => Iff.trans (dt_2 c_1 c_1) (i_9 _)))
set_option maxHeartbeats 1000000 in
theorem d_p_sampleAt {x1 : Int32} {x2 : Int32} {x3 : Int32} {S : ms} {K : Int32 → ms → Prop} (h : p_sampleAt x1 x2 x3 S K) {Q : Prop} (k_K : ∀ (a0 : Int32) (a1 : ms), K a0 a1 → (∀ (K' : Int32 → ms → Prop), p_sampleAt x1 x2 x3 S K' ↔ K' a0 a1) → Q) : Q := by
  unfold p_sampleAt at h
  refine d_p_layerSample h (fun v4 S4 h_2 i_1 => ?_)
  refine dt_n (And.right h_2) (fun c_3 h_4 => ?_) (fun c_3 h_4 => ?_)
  ·
    refine d_p_layerSample h_4 (fun v26 S26 h_6 i_5 => ?_)
    refine d_p_layerSample h_6 (fun v39 S39 h_8 i_7 => ?_)
    refine dt_n h_8 (fun c_9 h_10 => ?_) (fun c_9 h_10 => ?_)
    ·
      refine dt_n h_10 (fun c_11 h_12 => ?_) (fun c_11 h_12 => ?_)
      ·
        exact d_b_sampleAt_115 h_12 (fun a0 a1 h_14 i_13 => k_K a0 a1 h_14 (fun _ => Iff.trans (i_1 _) (Iff.trans (dt_a (And.left h_2)) (Iff.trans (dt_1 c_3 c_3) (Iff.trans (i_5 _) (Iff.trans (i_7 _) (Iff.trans (dt_1 c_9 c_9) (Iff.trans (dt_1 c_11 c_11) (i_13 _)))))))))
      ·
        exact d_b_sampleAt_115 h_12 (fun a0 a1 h_16 i_15 => k_K a0 a1 h_16 (fun _ => Iff.trans (i_1 _) (Iff.trans (dt_a (And.left h_2)) (Iff.trans (dt_1 c_3 c_3) (Iff.trans (i_5 _) (Iff.trans (i_7 _) (Iff.trans (dt_1 c_9 c_9) (Iff.trans (dt_2 (fun n => n c_11) c_11) (i_15 _)))))))))
    ·
      exact d_b_sampleAt_115 h_10 (fun a0 a1 h_18 i_17 => k_K a0 a1 h_18 (fun _ => Iff.trans (i_1 _) (Iff.trans (dt_a (And.left h_2)) (Iff.trans (dt_1 c_3 c_3) (Iff.trans (i_5 _) (Iff.trans (i_7 _) (Iff.trans (dt_2 (fun n => n c_9) c_9) (i_17 _))))))))
  ·
    exact k_K _ _ h_4 (fun _ => Iff.trans (i_1 _) (Iff.trans (dt_a (And.left h_2)) (dt_2 (fun n => n c_3) c_3)))
set_option maxHeartbeats 1000000 in
theorem d_b_sample_86 {s0 : Int32} {S : ms} {K : Int32 → ms → Prop} (h : b_sample_86 s0 S K) {Q : Prop} (k_K : ∀ (a0 : Int32) (a1 : ms), K a0 a1 → (∀ (K' : Int32 → ms → Prop), b_sample_86 s0 S K' ↔ K' a0 a1) → Q) : Q := by
  unfold b_sample_86 at h
  exact k_K _ _ h (fun _ => Iff.rfl)
set_option maxHeartbeats 1000000 in
theorem d_b_sample_65 {x1 : Int32} {x2 : Int32} {x3 : Int32} {s1 : Int32} {S : ms} {K : Int32 → ms → Prop} (h : b_sample_65 x1 x2 x3 s1 S K) {Q : Prop} (k_K : ∀ (a0 : Int32) (a1 : ms), K a0 a1 → (∀ (K' : Int32 → ms → Prop), b_sample_65 x1 x2 x3 s1 S K' ↔ K' a0 a1) → Q) : Q := by
  unfold b_sample_65 at h
  refine dt_p h (fun c_1 h_2 => ?_) (fun c_1 h_2 => ?_)
  ·
    refine d_p_sampleAt h_2 (fun v83 S83 h_4 i_3 => ?_)
    exact d_b_sample_86 h_4 (fun a0 a1 h_6 i_5 => k_K a0 a1 h_6 (fun _ => Iff.trans (dt_1 c_1 (fun n => n c_1)) (Iff.trans (i_3 _) (i_5 _))))
  ·
    exact d_b_sample_86 h_2 (fun a0 a1 h_8 i_7 => k_K a0 a1 h_8 (fun _ => Iff.trans (dt_2 c_1 c_1) (i_7 _)))
set_option maxHeartbeats 1000000 in
theorem d_b_sample_60 {x1 : Int32} {x2 : Int32} {x3 : Int32} {S : ms} {K : Int32 → ms → Prop} (h : b_sample_60 x1 x2 x3 S K) {Q : Prop} (k_K : ∀ (a0 : Int32) (a1 : ms), K a0 a1 → (∀ (K' : Int32 → ms → Prop), b_sample_60 x1 x2 x3 S K' ↔ K' a0 a1) → Q) : Q := by
  unfold b_sample_60 at h
  exact d_b_sample_65 h (fun a0 a1 h_2 i_1 => k_K a0 a1 h_2 (fun _ => i_1 _))
set_option maxHeartbeats 1000000 in
theorem d_p_sample {x1 : Int32} {x2 : Int32} {x3 : Int32} {S : ms} {K : Int32 → ms → Prop} (h : p_sample x1 x2 x3 S K) {Q : Prop} (k_K : ∀ (a0 : Int32) (a1 : ms), K a0 a1 → (∀ (K' : Int32 → ms → Prop), p_sample x1 x2 x3 S K' ↔ K' a0 a1) → Q) : Q := by
  unfold p_sample at h
  refine dt_n (And.right h) (fun c_1 h_2 => ?_) (fun c_1 h_2 => ?_)
  ·
    refine dt_p h_2 (fun c_3 h_4 => ?_) (fun c_3 h_4 => ?_)
    ·
      exact d_b_sample_60 h_4 (fun a0 a1 h_6 i_5 => k_K a0 a1 h_6 (fun _ => Iff.trans (dt_a (And.left h)) (Iff.trans (dt_1 c_1 c_1) (Iff.trans (dt_1 c_3 (fun n => n c_3)) (i_5 _)))))
    ·
      refine dt_p (And.right h_4) (fun c_7 h_8 => ?_) (fun c_7 h_8 => ?_)
      ·
        exact d_b_sample_60 h_8 (fun a0 a1 h_10 i_9 => k_K a0 a1 h_10 (fun _ => Iff.trans (dt_a (And.left h)) (Iff.trans (dt_1 c_1 c_1) (Iff.trans (dt_2 c_3 c_3) (Iff.trans (dt_a (And.left h_4)) (Iff.trans (dt_1 c_7 (fun n => n c_7)) (i_9 _)))))))
      ·
        refine dt_p h_8 (fun c_11 h_12 => ?_) (fun c_11 h_12 => ?_)
        ·
          exact d_b_sample_60 h_12 (fun a0 a1 h_14 i_13 => k_K a0 a1 h_14 (fun _ => Iff.trans (dt_a (And.left h)) (Iff.trans (dt_1 c_1 c_1) (Iff.trans (dt_2 c_3 c_3) (Iff.trans (dt_a (And.left h_4)) (Iff.trans (dt_2 c_7 c_7) (Iff.trans (dt_1 c_11 (fun n => n c_11)) (i_13 _))))))))
        ·
          refine dt_p (And.right h_12) (fun c_15 h_16 => ?_) (fun c_15 h_16 => ?_)
          ·
            exact d_b_sample_60 h_16 (fun a0 a1 h_18 i_17 => k_K a0 a1 h_18 (fun _ => Iff.trans (dt_a (And.left h)) (Iff.trans (dt_1 c_1 c_1) (Iff.trans (dt_2 c_3 c_3) (Iff.trans (dt_a (And.left h_4)) (Iff.trans (dt_2 c_7 c_7) (Iff.trans (dt_2 c_11 c_11) (Iff.trans (dt_a (And.left h_12)) (Iff.trans (dt_1 c_15 (fun n => n c_15)) (i_17 _))))))))))
          ·
            refine dt_p h_16 (fun c_19 h_20 => ?_) (fun c_19 h_20 => ?_)
            ·
              exact d_b_sample_60 h_20 (fun a0 a1 h_22 i_21 => k_K a0 a1 h_22 (fun _ => Iff.trans (dt_a (And.left h)) (Iff.trans (dt_1 c_1 c_1) (Iff.trans (dt_2 c_3 c_3) (Iff.trans (dt_a (And.left h_4)) (Iff.trans (dt_2 c_7 c_7) (Iff.trans (dt_2 c_11 c_11) (Iff.trans (dt_a (And.left h_12)) (Iff.trans (dt_2 c_15 c_15) (Iff.trans (dt_1 c_19 (fun n => n c_19)) (i_21 _)))))))))))
            ·
              refine dt_p (And.right h_20) (fun c_23 h_24 => ?_) (fun c_23 h_24 => ?_)
              ·
                exact d_b_sample_65 h_24 (fun a0 a1 h_26 i_25 => k_K a0 a1 h_26 (fun _ => Iff.trans (dt_a (And.left h)) (Iff.trans (dt_1 c_1 c_1) (Iff.trans (dt_2 c_3 c_3) (Iff.trans (dt_a (And.left h_4)) (Iff.trans (dt_2 c_7 c_7) (Iff.trans (dt_2 c_11 c_11) (Iff.trans (dt_a (And.left h_12)) (Iff.trans (dt_2 c_15 c_15) (Iff.trans (dt_2 c_19 c_19) (Iff.trans (dt_a (And.left h_20)) (Iff.trans (dt_1 c_23 (fun n => n c_23)) (i_25 _)))))))))))))
              ·
                exact d_b_sample_60 h_24 (fun a0 a1 h_28 i_27 => k_K a0 a1 h_28 (fun _ => Iff.trans (dt_a (And.left h)) (Iff.trans (dt_1 c_1 c_1) (Iff.trans (dt_2 c_3 c_3) (Iff.trans (dt_a (And.left h_4)) (Iff.trans (dt_2 c_7 c_7) (Iff.trans (dt_2 c_11 c_11) (Iff.trans (dt_a (And.left h_12)) (Iff.trans (dt_2 c_15 c_15) (Iff.trans (dt_2 c_19 c_19) (Iff.trans (dt_a (And.left h_20)) (Iff.trans (dt_2 c_23 c_23) (i_27 _)))))))))))))
  ·
    exact d_b_sample_65 h_2 (fun a0 a1 h_30 i_29 => k_K a0 a1 h_30 (fun _ => Iff.trans (dt_a (And.left h)) (Iff.trans (dt_2 (fun n => n c_1) c_1) (i_29 _))))
set_option maxHeartbeats 1000000 in
theorem d_b_level_148 {s0 : Int32} {S : ms} {K : Int32 → ms → Prop} (h : b_level_148 s0 S K) {Q : Prop} (k_K : ∀ (a0 : Int32) (a1 : ms), K a0 a1 → (∀ (K' : Int32 → ms → Prop), b_level_148 s0 S K' ↔ K' a0 a1) → Q) : Q := by
  unfold b_level_148 at h
  exact k_K _ _ h (fun _ => Iff.rfl)
set_option maxHeartbeats 1000000 in
theorem d_b_level_123 {x1 : Int32} {x2 : Int32} {x3 : Int32} {x4 : Int32} {x5 : Int32} {s1 : Int32} {S : ms} {K : Int32 → ms → Prop} (h : b_level_123 x1 x2 x3 x4 x5 s1 S K) {Q : Prop} (k_K : ∀ (a0 : Int32) (a1 : ms), K a0 a1 → (∀ (K' : Int32 → ms → Prop), b_level_123 x1 x2 x3 x4 x5 s1 S K' ↔ K' a0 a1) → Q) : Q := by
  unfold b_level_123 at h
  refine dt_p h (fun c_1 h_2 => ?_) (fun c_1 h_2 => ?_)
  ·
    exact d_b_level_148 h_2 (fun a0 a1 h_4 i_3 => k_K a0 a1 h_4 (fun _ => Iff.trans (dt_1 c_1 (fun n => n c_1)) (i_3 _)))
  ·
    refine d_p_levelCell h_2 (fun v140 h_6 i_5 => ?_)
    exact d_b_level_148 (And.right h_6) (fun a0 a1 h_8 i_7 => k_K a0 a1 h_8 (fun _ => Iff.trans (dt_2 c_1 c_1) (Iff.trans (i_5 _) (Iff.trans (dt_a (And.left h_6)) (i_7 _)))))
set_option maxHeartbeats 1000000 in
theorem d_b_level_110 {x1 : Int32} {x2 : Int32} {x3 : Int32} {x4 : Int32} {s0 : Int32} {S : ms} {K : Int32 → ms → Prop} (h : b_level_110 x1 x2 x3 x4 s0 S K) {Q : Prop} (k_K : ∀ (a0 : Int32) (a1 : ms), K a0 a1 → (∀ (K' : Int32 → ms → Prop), b_level_110 x1 x2 x3 x4 s0 S K' ↔ K' a0 a1) → Q) : Q := by
  unfold b_level_110 at h
  refine dt_p h (fun c_1 h_2 => ?_) (fun c_1 h_2 => ?_)
  ·
    exact d_b_level_123 h_2 (fun a0 a1 h_4 i_3 => k_K a0 a1 h_4 (fun _ => Iff.trans (dt_1 c_1 (fun n => n c_1)) (i_3 _)))
  ·
    exact d_b_level_123 h_2 (fun a0 a1 h_6 i_5 => k_K a0 a1 h_6 (fun _ => Iff.trans (dt_2 c_1 c_1) (i_5 _)))
set_option maxHeartbeats 1000000 in
theorem d_b_level_109 {x1 : Int32} {x2 : Int32} {x3 : Int32} {x4 : Int32} {S : ms} {K : Int32 → ms → Prop} (h : b_level_109 x1 x2 x3 x4 S K) {Q : Prop} (k_K : ∀ (a0 : Int32) (a1 : ms), K a0 a1 → (∀ (K' : Int32 → ms → Prop), b_level_109 x1 x2 x3 x4 S K' ↔ K' a0 a1) → Q) : Q := by
  unfold b_level_109 at h
  exact d_b_level_110 h (fun a0 a1 h_2 i_1 => k_K a0 a1 h_2 (fun _ => i_1 _))
set_option maxHeartbeats 1000000 in
theorem d_b_level_73 {x1 : Int32} {x2 : Int32} {x3 : Int32} {x4 : Int32} {s0 : Int32} {S : ms} {K : Int32 → ms → Prop} (h : b_level_73 x1 x2 x3 x4 s0 S K) {Q : Prop} (k_K : ∀ (a0 : Int32) (a1 : ms), K a0 a1 → (∀ (K' : Int32 → ms → Prop), b_level_73 x1 x2 x3 x4 s0 S K' ↔ K' a0 a1) → Q) : Q := by
  unfold b_level_73 at h
  refine dt_p h (fun c_1 h_2 => ?_) (fun c_1 h_2 => ?_)
  ·
    exact d_b_level_109 h_2 (fun a0 a1 h_4 i_3 => k_K a0 a1 h_4 (fun _ => Iff.trans (dt_1 c_1 (fun n => n c_1)) (i_3 _)))
  ·
    refine dt_p (And.right (And.right h_2)) (fun c_5 h_6 => ?_) (fun c_5 h_6 => ?_)
    ·
      exact d_b_level_109 h_6 (fun a0 a1 h_8 i_7 => k_K a0 a1 h_8 (fun _ => Iff.trans (dt_2 c_1 c_1) (Iff.trans (dt_a (And.left h_2)) (Iff.trans (dt_a (And.left (And.right h_2))) (Iff.trans (dt_1 c_5 (fun n => n c_5)) (i_7 _))))))
    ·
      exact d_b_level_110 h_6 (fun a0 a1 h_10 i_9 => k_K a0 a1 h_10 (fun _ => Iff.trans (dt_2 c_1 c_1) (Iff.trans (dt_a (And.left h_2)) (Iff.trans (dt_a (And.left (And.right h_2))) (Iff.trans (dt_2 c_5 c_5) (i_9 _))))))
set_option maxHeartbeats 1000000 in
theorem d_b_level_72 {x1 : Int32} {x2 : Int32} {x3 : Int32} {x4 : Int32} {S : ms} {K : Int32 → ms → Prop} (h : b_level_72 x1 x2 x3 x4 S K) {Q : Prop} (k_K : ∀ (a0 : Int32) (a1 : ms), K a0 a1 → (∀ (K' : Int32 → ms → Prop), b_level_72 x1 x2 x3 x4 S K' ↔ K' a0 a1) → Q) : Q := by
  unfold b_level_72 at h
  exact d_b_level_73 h (fun a0 a1 h_2 i_1 => k_K a0 a1 h_2 (fun _ => i_1 _))
set_option maxHeartbeats 1000000 in
theorem d_b_level_33 {s1 : Int32} {S : ms} {K : Int32 → ms → Prop} (h : b_level_33 s1 S K) {Q : Prop} (k_K : ∀ (a0 : Int32) (a1 : ms), K a0 a1 → (∀ (K' : Int32 → ms → Prop), b_level_33 s1 S K' ↔ K' a0 a1) → Q) : Q := by
  unfold b_level_33 at h
  exact k_K _ _ h (fun _ => Iff.rfl)
set_option maxHeartbeats 1000000 in
theorem d_b_level_28 {S : ms} {K : Int32 → ms → Prop} (h : b_level_28 S K) {Q : Prop} (k_K : ∀ (a0 : Int32) (a1 : ms), K a0 a1 → (∀ (K' : Int32 → ms → Prop), b_level_28 S K' ↔ K' a0 a1) → Q) : Q := by
  unfold b_level_28 at h
  exact d_b_level_33 h (fun a0 a1 h_2 i_1 => k_K a0 a1 h_2 (fun _ => i_1 _))
set_option maxHeartbeats 1000000 in
theorem d_b_level_18 {x1 : Int32} {S : ms} {K : Int32 → ms → Prop} (h : b_level_18 x1 S K) {Q : Prop} (k_K : ∀ (a0 : Int32) (a1 : ms), K a0 a1 → (∀ (K' : Int32 → ms → Prop), b_level_18 x1 S K' ↔ K' a0 a1) → Q) : Q := by
  unfold b_level_18 at h
  refine dt_p h (fun c_1 h_2 => ?_) (fun c_1 h_2 => ?_)
  ·
    exact d_b_level_28 h_2 (fun a0 a1 h_4 i_3 => k_K a0 a1 h_4 (fun _ => Iff.trans (dt_1 c_1 (fun n => n c_1)) (i_3 _)))
  ·
    refine dt_p h_2 (fun c_5 h_6 => ?_) (fun c_5 h_6 => ?_)
    ·
      exact d_b_level_33 h_6 (fun a0 a1 h_8 i_7 => k_K a0 a1 h_8 (fun _ => Iff.trans (dt_2 c_1 c_1) (Iff.trans (dt_1 c_5 (fun n => n c_5)) (i_7 _))))
    ·
      exact d_b_level_28 h_6 (fun a0 a1 h_10 i_9 => k_K a0 a1 h_10 (fun _ => Iff.trans (dt_2 c_1 c_1) (Iff.trans (dt_2 c_5 c_5) (i_9 _))))
set_option maxHeartbeats 1000000 in
theorem d_p_level {x1 : Int32} {x2 : Int32} {x3 : Int32} {x4 : Int32} {S : ms} {K : Int32 → ms → Prop} (h : p_level x1 x2 x3 x4 S K) {Q : Prop} (k_K : ∀ (a0 : Int32) (a1 : ms), K a0 a1 → (∀ (K' : Int32 → ms → Prop), p_level x1 x2 x3 x4 S K' ↔ K' a0 a1) → Q) : Q := by
  unfold p_level at h
  refine dt_p h (fun c_1 h_2 => ?_) (fun c_1 h_2 => ?_)
  ·
    exact d_b_level_18 h_2 (fun a0 a1 h_4 i_3 => k_K a0 a1 h_4 (fun _ => Iff.trans (dt_1 c_1 (fun n => n c_1)) (i_3 _)))
  ·
    refine dt_p h_2 (fun c_5 h_6 => ?_) (fun c_5 h_6 => ?_)
    ·
      exact d_b_level_18 h_6 (fun a0 a1 h_8 i_7 => k_K a0 a1 h_8 (fun _ => Iff.trans (dt_2 c_1 c_1) (Iff.trans (dt_1 c_5 (fun n => n c_5)) (i_7 _))))
    ·
      refine dt_n (And.right h_6) (fun c_9 h_10 => ?_) (fun c_9 h_10 => ?_)
      ·
        refine dt_p h_10 (fun c_11 h_12 => ?_) (fun c_11 h_12 => ?_)
        ·
          exact d_b_level_72 h_12 (fun a0 a1 h_14 i_13 => k_K a0 a1 h_14 (fun _ => Iff.trans (dt_2 c_1 c_1) (Iff.trans (dt_2 c_5 c_5) (Iff.trans (dt_a (And.left h_6)) (Iff.trans (dt_1 c_9 c_9) (Iff.trans (dt_1 c_11 (fun n => n c_11)) (i_13 _)))))))
        ·
          refine dt_p (And.right h_12) (fun c_15 h_16 => ?_) (fun c_15 h_16 => ?_)
          ·
            exact d_b_level_72 h_16 (fun a0 a1 h_18 i_17 => k_K a0 a1 h_18 (fun _ => Iff.trans (dt_2 c_1 c_1) (Iff.trans (dt_2 c_5 c_5) (Iff.trans (dt_a (And.left h_6)) (Iff.trans (dt_1 c_9 c_9) (Iff.trans (dt_2 c_11 c_11) (Iff.trans (dt_a (And.left h_12)) (Iff.trans (dt_1 c_15 (fun n => n c_15)) (i_17 _)))))))))
          ·
            refine dt_p h_16 (fun c_19 h_20 => ?_) (fun c_19 h_20 => ?_)
            ·
              exact d_b_level_72 h_20 (fun a0 a1 h_22 i_21 => k_K a0 a1 h_22 (fun _ => Iff.trans (dt_2 c_1 c_1) (Iff.trans (dt_2 c_5 c_5) (Iff.trans (dt_a (And.left h_6)) (Iff.trans (dt_1 c_9 c_9) (Iff.trans (dt_2 c_11 c_11) (Iff.trans (dt_a (And.left h_12)) (Iff.trans (dt_2 c_15 c_15) (Iff.trans (dt_1 c_19 (fun n => n c_19)) (i_21 _))))))))))
            ·
              refine dt_p h_20 (fun c_23 h_24 => ?_) (fun c_23 h_24 => ?_)
              ·
                exact d_b_level_72 h_24 (fun a0 a1 h_26 i_25 => k_K a0 a1 h_26 (fun _ => Iff.trans (dt_2 c_1 c_1) (Iff.trans (dt_2 c_5 c_5) (Iff.trans (dt_a (And.left h_6)) (Iff.trans (dt_1 c_9 c_9) (Iff.trans (dt_2 c_11 c_11) (Iff.trans (dt_a (And.left h_12)) (Iff.trans (dt_2 c_15 c_15) (Iff.trans (dt_2 c_19 c_19) (Iff.trans (dt_1 c_23 (fun n => n c_23)) (i_25 _)))))))))))
              ·
                refine dt_p h_24 (fun c_27 h_28 => ?_) (fun c_27 h_28 => ?_)
                ·
                  exact d_b_level_72 h_28 (fun a0 a1 h_30 i_29 => k_K a0 a1 h_30 (fun _ => Iff.trans (dt_2 c_1 c_1) (Iff.trans (dt_2 c_5 c_5) (Iff.trans (dt_a (And.left h_6)) (Iff.trans (dt_1 c_9 c_9) (Iff.trans (dt_2 c_11 c_11) (Iff.trans (dt_a (And.left h_12)) (Iff.trans (dt_2 c_15 c_15) (Iff.trans (dt_2 c_19 c_19) (Iff.trans (dt_2 c_23 c_23) (Iff.trans (dt_1 c_27 (fun n => n c_27)) (i_29 _))))))))))))
                ·
                  exact d_b_level_73 h_28 (fun a0 a1 h_32 i_31 => k_K a0 a1 h_32 (fun _ => Iff.trans (dt_2 c_1 c_1) (Iff.trans (dt_2 c_5 c_5) (Iff.trans (dt_a (And.left h_6)) (Iff.trans (dt_1 c_9 c_9) (Iff.trans (dt_2 c_11 c_11) (Iff.trans (dt_a (And.left h_12)) (Iff.trans (dt_2 c_15 c_15) (Iff.trans (dt_2 c_19 c_19) (Iff.trans (dt_2 c_23 c_23) (Iff.trans (dt_2 c_27 c_27) (i_31 _))))))))))))
      ·
        exact d_b_level_18 h_10 (fun a0 a1 h_34 i_33 => k_K a0 a1 h_34 (fun _ => Iff.trans (dt_2 c_1 c_1) (Iff.trans (dt_2 c_5 c_5) (Iff.trans (dt_a (And.left h_6)) (Iff.trans (dt_2 (fun n => n c_9) c_9) (i_33 _))))))
set_option maxHeartbeats 1000000 in
theorem d_b_take_70 {x1 : Int32} {x2 : Int32} {x3 : Int32} {S : ms} {R50 : Int32 → ms → Prop} {R60 : Int32 → Int32 → ms → Prop} {R70 : Int32 → Int32 → Int32 → ms → Prop} {K : ms → Prop} (h : b_take_70 x1 x2 x3 S R50 R60 R70 K) {Q : Prop} (k_R50 : ∀ (a0 : Int32) (a1 : ms), R50 a0 a1 → (∀ (R50' : Int32 → ms → Prop) (R60' : Int32 → Int32 → ms → Prop) (R70' : Int32 → Int32 → Int32 → ms → Prop) (K' : ms → Prop), b_take_70 x1 x2 x3 S R50' R60' R70' K' ↔ R50' a0 a1) → Q) (k_R60 : ∀ (a0 : Int32) (a1 : Int32) (a2 : ms), R60 a0 a1 a2 → (∀ (R50' : Int32 → ms → Prop) (R60' : Int32 → Int32 → ms → Prop) (R70' : Int32 → Int32 → Int32 → ms → Prop) (K' : ms → Prop), b_take_70 x1 x2 x3 S R50' R60' R70' K' ↔ R60' a0 a1 a2) → Q) (k_R70 : ∀ (a0 : Int32) (a1 : Int32) (a2 : Int32) (a3 : ms), R70 a0 a1 a2 a3 → (∀ (R50' : Int32 → ms → Prop) (R60' : Int32 → Int32 → ms → Prop) (R70' : Int32 → Int32 → Int32 → ms → Prop) (K' : ms → Prop), b_take_70 x1 x2 x3 S R50' R60' R70' K' ↔ R70' a0 a1 a2 a3) → Q) (k_K : ∀ (a0 : ms), K a0 → (∀ (R50' : Int32 → ms → Prop) (R60' : Int32 → Int32 → ms → Prop) (R70' : Int32 → Int32 → Int32 → ms → Prop) (K' : ms → Prop), b_take_70 x1 x2 x3 S R50' R60' R70' K' ↔ K' a0) → Q) : Q := by
  unfold b_take_70 at h
  refine dt_p h (fun c_1 h_2 => ?_) (fun c_1 h_2 => ?_)
  ·
    exact k_R60 _ _ _ h_2 (fun _ _ _ _ => dt_1 c_1 (fun n => n c_1))
  ·
    refine d_p_cell h_2 (fun v85 h_4 i_3 => ?_)
    refine d_p_sampleAt h_4 (fun v92 S92 h_6 i_5 => ?_)
    exact k_R70 _ _ _ _ (And.right h_6) (fun _ _ _ _ => Iff.trans (dt_2 c_1 c_1) (Iff.trans (i_3 _) (Iff.trans (i_5 _) (dt_a (And.left h_6)))))
theorem l_e_take_70  {x1 : Int32} {x2 : Int32} {x3 : Int32} {S : ms} {R50 : Int32 → ms → Prop} {R60 : Int32 → Int32 → ms → Prop} {K : ms → Prop} : e_take_70 x1 x2 x3 S R50 R60 K ↔ lpE (C := (Int32 → ms → Prop) × (Int32 → Int32 → ms → Prop) × (ms → Prop)) (fun (y : (Int32) × (Int32) × (Int32) × (ms)) (R : ((Int32) × (Int32) × (Int32) × (ms)) → Prop) (c : (Int32 → ms → Prop) × (Int32 → Int32 → ms → Prop) × (ms → Prop)) => b_take_70 y.1 y.2.1 y.2.2.1 y.2.2.2 c.1 c.2.1 (fun z0 z1 z2 z3 => R (z0, z1, z2, z3)) c.2.2) (x1, x2, x3, S) (R50, R60, K) :=
  ⟨fun ⟨I, μ, h0, hs⟩ => ⟨fun t => I t.1 t.2.1 t.2.2.1 t.2.2.2, fun t => μ t.1 t.2.1 t.2.2.1 t.2.2.2, h0, fun t ht => hs _ _ _ _ ht⟩, fun ⟨I, μ, h0, hs⟩ => ⟨fun y0 y1 y2 y3 => I (y0, y1, y2, y3), fun y0 y1 y2 y3 => μ (y0, y1, y2, y3), h0, fun y0 y1 y2 y3 hy => hs (y0, y1, y2, y3) hy⟩⟩
set_option maxHeartbeats 1000000 in
theorem d_e_take_70 {x1 : Int32} {x2 : Int32} {x3 : Int32} {S : ms} {R50 : Int32 → ms → Prop} {R60 : Int32 → Int32 → ms → Prop} {K : ms → Prop} (h : e_take_70 x1 x2 x3 S R50 R60 K) {Q : Prop} (k_R50 : ∀ (a0 : Int32) (a1 : ms), R50 a0 a1 → (∀ (R50' : Int32 → ms → Prop) (R60' : Int32 → Int32 → ms → Prop) (K' : ms → Prop), e_take_70 x1 x2 x3 S R50' R60' K' ↔ R50' a0 a1) → Q) (k_R60 : ∀ (a0 : Int32) (a1 : Int32) (a2 : ms), R60 a0 a1 a2 → (∀ (R50' : Int32 → ms → Prop) (R60' : Int32 → Int32 → ms → Prop) (K' : ms → Prop), e_take_70 x1 x2 x3 S R50' R60' K' ↔ R60' a0 a1 a2) → Q) (k_K : ∀ (a0 : ms), K a0 → (∀ (R50' : Int32 → ms → Prop) (R60' : Int32 → Int32 → ms → Prop) (K' : ms → Prop), e_take_70 x1 x2 x3 S R50' R60' K' ↔ K' a0) → Q) : Q := by
  obtain ⟨o, ho, hoc, hi⟩ := lp_det (C := (Int32 → ms → Prop) × (Int32 → Int32 → ms → Prop) × (ms → Prop)) (b := (fun (y : (Int32) × (Int32) × (Int32) × (ms)) (R : ((Int32) × (Int32) × (Int32) × (ms)) → Prop) (c : (Int32 → ms → Prop) × (Int32 → Int32 → ms → Prop) × (ms → Prop)) => b_take_70 y.1 y.2.1 y.2.2.1 y.2.2.2 c.1 c.2.1 (fun z0 z1 z2 z3 => R (z0, z1, z2, z3)) c.2.2)) (O := (fun (o : ((Int32 → ms → Prop) × (Int32 → Int32 → ms → Prop) × (ms → Prop)) → Prop) => (∃ (a0 : Int32) (a1 : ms), o = fun c => c.1 a0 a1) ∨ (∃ (a0 : Int32) (a1 : Int32) (a2 : ms), o = fun c => c.2.1 a0 a1 a2) ∨ (∃ (a0 : ms), o = fun c => c.2.2 a0))) (fun y R c hy => d_b_take_70 hy (fun a0 a1 ha ia => Or.inr ⟨(fun c => c.1 a0 a1), Or.inl ⟨a0, a1, rfl⟩, ha, fun R' c' => ia c'.1 c'.2.1 (fun z0 z1 z2 z3 => R' (z0, z1, z2, z3)) c'.2.2⟩) (fun a0 a1 a2 ha ia => Or.inr ⟨(fun c => c.2.1 a0 a1 a2), Or.inr (Or.inl ⟨a0, a1, a2, rfl⟩), ha, fun R' c' => ia c'.1 c'.2.1 (fun z0 z1 z2 z3 => R' (z0, z1, z2, z3)) c'.2.2⟩) (fun a0 a1 a2 a3 ha ia => Or.inl ⟨(a0, a1, a2, a3), ha, fun R' c' => ia c'.1 c'.2.1 (fun z0 z1 z2 z3 => R' (z0, z1, z2, z3)) c'.2.2⟩) (fun a0 ha ia => Or.inr ⟨(fun c => c.2.2 a0), Or.inr (Or.inr (⟨a0, rfl⟩)), ha, fun R' c' => ia c'.1 c'.2.1 (fun z0 z1 z2 z3 => R' (z0, z1, z2, z3)) c'.2.2⟩)) (l_e_take_70.mp h)
  rcases ho with ⟨a0, a1, rfl⟩ | ⟨a0, a1, a2, rfl⟩ | ⟨a0, rfl⟩
  · exact k_R50 _ _ hoc (fun R50' R60' K' => Iff.trans l_e_take_70 (hi (R50', R60', K')))
  · exact k_R60 _ _ _ hoc (fun R50' R60' K' => Iff.trans l_e_take_70 (hi (R50', R60', K')))
  · exact k_K _ hoc (fun R50' R60' K' => Iff.trans l_e_take_70 (hi (R50', R60', K')))
theorem v_e_take_70 {x1 : Int32} {x2 : Int32} {x3 : Int32} {S : ms} {R50 : Int32 → ms → Prop} {R60 : Int32 → Int32 → ms → Prop} {K : ms → Prop} (h : e_take_70 x1 x2 x3 S R50 R60 K) {G : Prop} (Inv : Int32 → ms → Prop) (h0 : Inv x3 S) (hs : ∀ (yx3 : Int32) (yS : ms) (R : Int32 → Int32 → Int32 → ms → Prop), Inv yx3 yS → b_take_70 x1 x2 yx3 yS R50 R60 R K → (∃ (zx3 : Int32) (zS : ms), R x1 x2 zx3 zS ∧ Inv zx3 zS) ∨ G) : G := by
  obtain ⟨I, μ, i0, is⟩ := h
  have go : ∀ (n : Nat) (yx3 : Int32) (yS : ms), μ x1 x2 yx3 yS < n → I x1 x2 yx3 yS → Inv yx3 yS → G := by
    intro n
    induction n with
    | zero => intro yx3 yS hy; exact absurd hy (Nat.not_lt_zero _)
    | succ n ih =>
      intro yx3 yS hy hI hV
      rcases hs yx3 yS _ hV (is x1 x2 yx3 yS hI) with ⟨zx3, zS, ⟨hz, hm⟩, hv⟩ | g
      · exact ih zx3 zS (Nat.lt_of_lt_of_le hm (Nat.le_of_lt_succ hy)) hz hv
      · exact g
  exact go _ x3 S (Nat.lt_succ_self _) i0 h0
theorem r_e_take_70 {x1 : Int32} {x2 : Int32} {x3 : Int32} {S : ms} {R50 : Int32 → ms → Prop} {R60 : Int32 → Int32 → ms → Prop} {K : ms → Prop} (h : e_take_70 x1 x2 x3 S R50 R60 K) : b_take_70 x1 x2 x3 S R50 R60 (fun zx1 zx2 zx3 zS => e_take_70 zx1 zx2 zx3 zS R50 R60 K) K := by
  obtain ⟨I, μ, i0, is⟩ := h
  exact d_b_take_70 (is x1 x2 x3 S i0) (fun a0 a1 ha ia => (ia _ _ _ _).mpr ha) (fun a0 a1 a2 ha ia => (ia _ _ _ _).mpr ha) (fun a0 a1 a2 a3 ha ia => (ia _ _ _ _).mpr ⟨I, μ, ha.1, is⟩) (fun a0 ha ia => (ia _ _ _ _).mpr ha)
set_option maxHeartbeats 1000000 in
theorem d_b_take_60 {x1 : Int32} {x2 : Int32} {S : ms} {R50 : Int32 → ms → Prop} {R60 : Int32 → Int32 → ms → Prop} {K : ms → Prop} (h : b_take_60 x1 x2 S R50 R60 K) {Q : Prop} (k_R50 : ∀ (a0 : Int32) (a1 : ms), R50 a0 a1 → (∀ (R50' : Int32 → ms → Prop) (R60' : Int32 → Int32 → ms → Prop) (K' : ms → Prop), b_take_60 x1 x2 S R50' R60' K' ↔ R50' a0 a1) → Q) (k_R60 : ∀ (a0 : Int32) (a1 : Int32) (a2 : ms), R60 a0 a1 a2 → (∀ (R50' : Int32 → ms → Prop) (R60' : Int32 → Int32 → ms → Prop) (K' : ms → Prop), b_take_60 x1 x2 S R50' R60' K' ↔ R60' a0 a1 a2) → Q) (k_K : ∀ (a0 : ms), K a0 → (∀ (R50' : Int32 → ms → Prop) (R60' : Int32 → Int32 → ms → Prop) (K' : ms → Prop), b_take_60 x1 x2 S R50' R60' K' ↔ K' a0) → Q) : Q := by
  unfold b_take_60 at h
  refine dt_p h (fun c_1 h_2 => ?_) (fun c_1 h_2 => ?_)
  ·
    exact k_R50 _ _ h_2 (fun _ _ _ => dt_1 c_1 (fun n => n c_1))
  ·
    exact d_e_take_70 h_2 (fun a0 a1 h_4 i_3 => k_R50 a0 a1 h_4 (fun _ _ _ => Iff.trans (dt_2 c_1 c_1) (i_3 _ _ _))) (fun a0 a1 a2 h_6 i_5 => k_R60 a0 a1 a2 h_6 (fun _ _ _ => Iff.trans (dt_2 c_1 c_1) (i_5 _ _ _))) (fun a0 h_8 i_7 => k_K a0 h_8 (fun _ _ _ => Iff.trans (dt_2 c_1 c_1) (i_7 _ _ _)))
theorem l_e_take_60  {x1 : Int32} {x2 : Int32} {S : ms} {R50 : Int32 → ms → Prop} {K : ms → Prop} : e_take_60 x1 x2 S R50 K ↔ lpE (C := (Int32 → ms → Prop) × (ms → Prop)) (fun (y : (Int32) × (Int32) × (ms)) (R : ((Int32) × (Int32) × (ms)) → Prop) (c : (Int32 → ms → Prop) × (ms → Prop)) => b_take_60 y.1 y.2.1 y.2.2 c.1 (fun z0 z1 z2 => R (z0, z1, z2)) c.2) (x1, x2, S) (R50, K) :=
  ⟨fun ⟨I, μ, h0, hs⟩ => ⟨fun t => I t.1 t.2.1 t.2.2, fun t => μ t.1 t.2.1 t.2.2, h0, fun t ht => hs _ _ _ ht⟩, fun ⟨I, μ, h0, hs⟩ => ⟨fun y0 y1 y2 => I (y0, y1, y2), fun y0 y1 y2 => μ (y0, y1, y2), h0, fun y0 y1 y2 hy => hs (y0, y1, y2) hy⟩⟩
set_option maxHeartbeats 1000000 in
theorem d_e_take_60 {x1 : Int32} {x2 : Int32} {S : ms} {R50 : Int32 → ms → Prop} {K : ms → Prop} (h : e_take_60 x1 x2 S R50 K) {Q : Prop} (k_R50 : ∀ (a0 : Int32) (a1 : ms), R50 a0 a1 → (∀ (R50' : Int32 → ms → Prop) (K' : ms → Prop), e_take_60 x1 x2 S R50' K' ↔ R50' a0 a1) → Q) (k_K : ∀ (a0 : ms), K a0 → (∀ (R50' : Int32 → ms → Prop) (K' : ms → Prop), e_take_60 x1 x2 S R50' K' ↔ K' a0) → Q) : Q := by
  obtain ⟨o, ho, hoc, hi⟩ := lp_det (C := (Int32 → ms → Prop) × (ms → Prop)) (b := (fun (y : (Int32) × (Int32) × (ms)) (R : ((Int32) × (Int32) × (ms)) → Prop) (c : (Int32 → ms → Prop) × (ms → Prop)) => b_take_60 y.1 y.2.1 y.2.2 c.1 (fun z0 z1 z2 => R (z0, z1, z2)) c.2)) (O := (fun (o : ((Int32 → ms → Prop) × (ms → Prop)) → Prop) => (∃ (a0 : Int32) (a1 : ms), o = fun c => c.1 a0 a1) ∨ (∃ (a0 : ms), o = fun c => c.2 a0))) (fun y R c hy => d_b_take_60 hy (fun a0 a1 ha ia => Or.inr ⟨(fun c => c.1 a0 a1), Or.inl ⟨a0, a1, rfl⟩, ha, fun R' c' => ia c'.1 (fun z0 z1 z2 => R' (z0, z1, z2)) c'.2⟩) (fun a0 a1 a2 ha ia => Or.inl ⟨(a0, a1, a2), ha, fun R' c' => ia c'.1 (fun z0 z1 z2 => R' (z0, z1, z2)) c'.2⟩) (fun a0 ha ia => Or.inr ⟨(fun c => c.2 a0), Or.inr (⟨a0, rfl⟩), ha, fun R' c' => ia c'.1 (fun z0 z1 z2 => R' (z0, z1, z2)) c'.2⟩)) (l_e_take_60.mp h)
  rcases ho with ⟨a0, a1, rfl⟩ | ⟨a0, rfl⟩
  · exact k_R50 _ _ hoc (fun R50' K' => Iff.trans l_e_take_60 (hi (R50', K')))
  · exact k_K _ hoc (fun R50' K' => Iff.trans l_e_take_60 (hi (R50', K')))
theorem v_e_take_60 {x1 : Int32} {x2 : Int32} {S : ms} {R50 : Int32 → ms → Prop} {K : ms → Prop} (h : e_take_60 x1 x2 S R50 K) {G : Prop} (Inv : Int32 → ms → Prop) (h0 : Inv x2 S) (hs : ∀ (yx2 : Int32) (yS : ms) (R : Int32 → Int32 → ms → Prop), Inv yx2 yS → b_take_60 x1 yx2 yS R50 R K → (∃ (zx2 : Int32) (zS : ms), R x1 zx2 zS ∧ Inv zx2 zS) ∨ G) : G := by
  obtain ⟨I, μ, i0, is⟩ := h
  have go : ∀ (n : Nat) (yx2 : Int32) (yS : ms), μ x1 yx2 yS < n → I x1 yx2 yS → Inv yx2 yS → G := by
    intro n
    induction n with
    | zero => intro yx2 yS hy; exact absurd hy (Nat.not_lt_zero _)
    | succ n ih =>
      intro yx2 yS hy hI hV
      rcases hs yx2 yS _ hV (is x1 yx2 yS hI) with ⟨zx2, zS, ⟨hz, hm⟩, hv⟩ | g
      · exact ih zx2 zS (Nat.lt_of_lt_of_le hm (Nat.le_of_lt_succ hy)) hz hv
      · exact g
  exact go _ x2 S (Nat.lt_succ_self _) i0 h0
theorem r_e_take_60 {x1 : Int32} {x2 : Int32} {S : ms} {R50 : Int32 → ms → Prop} {K : ms → Prop} (h : e_take_60 x1 x2 S R50 K) : b_take_60 x1 x2 S R50 (fun zx1 zx2 zS => e_take_60 zx1 zx2 zS R50 K) K := by
  obtain ⟨I, μ, i0, is⟩ := h
  exact d_b_take_60 (is x1 x2 S i0) (fun a0 a1 ha ia => (ia _ _ _).mpr ha) (fun a0 a1 a2 ha ia => (ia _ _ _).mpr ⟨I, μ, ha.1, is⟩) (fun a0 ha ia => (ia _ _ _).mpr ha)
set_option maxHeartbeats 1000000 in
theorem d_b_take_50 {x1 : Int32} {S : ms} {R50 : Int32 → ms → Prop} {K : ms → Prop} (h : b_take_50 x1 S R50 K) {Q : Prop} (k_R50 : ∀ (a0 : Int32) (a1 : ms), R50 a0 a1 → (∀ (R50' : Int32 → ms → Prop) (K' : ms → Prop), b_take_50 x1 S R50' K' ↔ R50' a0 a1) → Q) (k_K : ∀ (a0 : ms), K a0 → (∀ (R50' : Int32 → ms → Prop) (K' : ms → Prop), b_take_50 x1 S R50' K' ↔ K' a0) → Q) : Q := by
  unfold b_take_50 at h
  refine dt_p h (fun c_1 h_2 => ?_) (fun c_1 h_2 => ?_)
  ·
    exact k_K _ h_2 (fun _ _ => dt_1 c_1 (fun n => n c_1))
  ·
    exact d_e_take_60 h_2 (fun a0 a1 h_4 i_3 => k_R50 a0 a1 h_4 (fun _ _ => Iff.trans (dt_2 c_1 c_1) (i_3 _ _))) (fun a0 h_6 i_5 => k_K a0 h_6 (fun _ _ => Iff.trans (dt_2 c_1 c_1) (i_5 _ _)))
theorem l_e_take_50  {x1 : Int32} {S : ms} {K : ms → Prop} : e_take_50 x1 S K ↔ lpE (C := (ms → Prop)) (fun (y : (Int32) × (ms)) (R : ((Int32) × (ms)) → Prop) (c : (ms → Prop)) => b_take_50 y.1 y.2 (fun z0 z1 => R (z0, z1)) c) (x1, S) K :=
  ⟨fun ⟨I, μ, h0, hs⟩ => ⟨fun t => I t.1 t.2, fun t => μ t.1 t.2, h0, fun t ht => hs _ _ ht⟩, fun ⟨I, μ, h0, hs⟩ => ⟨fun y0 y1 => I (y0, y1), fun y0 y1 => μ (y0, y1), h0, fun y0 y1 hy => hs (y0, y1) hy⟩⟩
set_option maxHeartbeats 1000000 in
theorem d_e_take_50 {x1 : Int32} {S : ms} {K : ms → Prop} (h : e_take_50 x1 S K) {Q : Prop} (k_K : ∀ (a0 : ms), K a0 → (∀ (K' : ms → Prop), e_take_50 x1 S K' ↔ K' a0) → Q) : Q := by
  obtain ⟨o, ho, hoc, hi⟩ := lp_det (C := (ms → Prop)) (b := (fun (y : (Int32) × (ms)) (R : ((Int32) × (ms)) → Prop) (c : (ms → Prop)) => b_take_50 y.1 y.2 (fun z0 z1 => R (z0, z1)) c)) (O := (fun (o : ((ms → Prop)) → Prop) => (∃ (a0 : ms), o = fun c => c a0))) (fun y R c hy => d_b_take_50 hy (fun a0 a1 ha ia => Or.inl ⟨(a0, a1), ha, fun R' c' => ia (fun z0 z1 => R' (z0, z1)) c'⟩) (fun a0 ha ia => Or.inr ⟨(fun c => c a0), ⟨a0, rfl⟩, ha, fun R' c' => ia (fun z0 z1 => R' (z0, z1)) c'⟩)) (l_e_take_50.mp h)
  rcases ho with ⟨a0, rfl⟩
  · exact k_K _ hoc (fun K' => Iff.trans l_e_take_50 (hi K'))
theorem v_e_take_50 {x1 : Int32} {S : ms} {K : ms → Prop} (h : e_take_50 x1 S K) {G : Prop} (Inv : Int32 → ms → Prop) (h0 : Inv x1 S) (hs : ∀ (yx1 : Int32) (yS : ms) (R : Int32 → ms → Prop), Inv yx1 yS → b_take_50 yx1 yS R K → (∃ (zx1 : Int32) (zS : ms), R zx1 zS ∧ Inv zx1 zS) ∨ G) : G := by
  obtain ⟨I, μ, i0, is⟩ := h
  have go : ∀ (n : Nat) (yx1 : Int32) (yS : ms), μ yx1 yS < n → I yx1 yS → Inv yx1 yS → G := by
    intro n
    induction n with
    | zero => intro yx1 yS hy; exact absurd hy (Nat.not_lt_zero _)
    | succ n ih =>
      intro yx1 yS hy hI hV
      rcases hs yx1 yS _ hV (is yx1 yS hI) with ⟨zx1, zS, ⟨hz, hm⟩, hv⟩ | g
      · exact ih zx1 zS (Nat.lt_of_lt_of_le hm (Nat.le_of_lt_succ hy)) hz hv
      · exact g
  exact go _ x1 S (Nat.lt_succ_self _) i0 h0
theorem r_e_take_50 {x1 : Int32} {S : ms} {K : ms → Prop} (h : e_take_50 x1 S K) : b_take_50 x1 S (fun zx1 zS => e_take_50 zx1 zS K) K := by
  obtain ⟨I, μ, i0, is⟩ := h
  exact d_b_take_50 (is x1 S i0) (fun a0 a1 ha ia => (ia _ _).mpr ⟨I, μ, ha.1, is⟩) (fun a0 ha ia => (ia _ _).mpr ha)
set_option maxHeartbeats 1000000 in
theorem d_b_take_15 {s1 : Int32} {S : ms} {K : ms → Prop} (h : b_take_15 s1 S K) {Q : Prop} (k_K : ∀ (a0 : ms), K a0 → (∀ (K' : ms → Prop), b_take_15 s1 S K' ↔ K' a0) → Q) : Q := by
  unfold b_take_15 at h
  refine dt_p h (fun c_1 h_2 => ?_) (fun c_1 h_2 => ?_)
  ·
    refine d_p_canvas (And.right (And.right (And.right h_2))) (fun S45 h_4 i_3 => ?_)
    exact d_e_take_50 h_4 (fun a0 h_6 i_5 => k_K a0 h_6 (fun _ => Iff.trans (dt_1 c_1 (fun n => n c_1)) (Iff.trans (dt_a (And.left h_2)) (Iff.trans (dt_a (And.left (And.right h_2))) (Iff.trans (dt_a (And.left (And.right (And.right h_2)))) (Iff.trans (i_3 _) (i_5 _)))))))
  ·
    exact k_K _ h_2 (fun _ => dt_2 c_1 c_1)
set_option maxHeartbeats 1000000 in
theorem d_p_take {S : ms} {K : ms → Prop} (h : p_take S K) {Q : Prop} (k_K : ∀ (a0 : ms), K a0 → (∀ (K' : ms → Prop), p_take S K' ↔ K' a0) → Q) : Q := by
  unfold p_take at h
  refine dt_p (And.right h) (fun c_1 h_2 => ?_) (fun c_1 h_2 => ?_)
  ·
    exact d_b_take_15 h_2 (fun a0 h_4 i_3 => k_K a0 h_4 (fun _ => Iff.trans (dt_a (And.left h)) (Iff.trans (dt_1 c_1 (fun n => n c_1)) (i_3 _))))
  ·
    exact d_b_take_15 h_2 (fun a0 h_6 i_5 => k_K a0 h_6 (fun _ => Iff.trans (dt_a (And.left h)) (Iff.trans (dt_2 c_1 c_1) (i_5 _))))
