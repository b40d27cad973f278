set_option maxHeartbeats 1000000 in
theorem d_p_Pi_drawBlock {U : ut} {u : Nat} {x1 : Nat} {x2 : Int32} {x3 : Int32} {x4 : Int32} {S : cs} {K : cs → Prop} (h : p_Pi_drawBlock U u x1 x2 x3 x4 S K) {Q : Prop} (k_K : ∀ (a0 : cs), K a0 → (∀ (K' : cs → Prop), p_Pi_drawBlock U u x1 x2 x3 x4 S K' ↔ K' a0) → Q) : Q := by
  unfold p_Pi_drawBlock at h
  exact d_e_Pi_drawBlock_31 (And.right (And.right (And.right h))) (fun a0 h_2 i_1 => k_K a0 h_2 (fun _ => Iff.trans (dt_a (And.left h)) (Iff.trans (dt_a (And.left (And.right h))) (Iff.trans (dt_a (And.left (And.right (And.right h)))) (i_1 _)))))
set_option maxHeartbeats 1000000 in
theorem d_b_Pi_draw_33 {U : ut} {u : Nat} {x1 : Nat} {x2 : Int32} {x3 : Int32} {x4 : Int32} {S : cs} {R10 : Nat → Int32 → cs → Prop} {R20 : Nat → Int32 → Int32 → cs → Prop} {R33 : Nat → Int32 → Int32 → Int32 → cs → Prop} {K : cs → Prop} (h : b_Pi_draw_33 U u x1 x2 x3 x4 S R10 R20 R33 K) {Q : Prop} (k_R10 : ∀ (a0 : Nat) (a1 : Int32) (a2 : cs), R10 a0 a1 a2 → (∀ (R10' : Nat → Int32 → cs → Prop) (R20' : Nat → Int32 → Int32 → cs → Prop) (R33' : Nat → Int32 → Int32 → Int32 → cs → Prop) (K' : cs → Prop), b_Pi_draw_33 U u x1 x2 x3 x4 S R10' R20' R33' K' ↔ R10' a0 a1 a2) → Q) (k_R20 : ∀ (a0 : Nat) (a1 : Int32) (a2 : Int32) (a3 : cs), R20 a0 a1 a2 a3 → (∀ (R10' : Nat → Int32 → cs → Prop) (R20' : Nat → Int32 → Int32 → cs → Prop) (R33' : Nat → Int32 → Int32 → Int32 → cs → Prop) (K' : cs → Prop), b_Pi_draw_33 U u x1 x2 x3 x4 S R10' R20' R33' K' ↔ R20' a0 a1 a2 a3) → Q) (k_R33 : ∀ (a0 : Nat) (a1 : Int32) (a2 : Int32) (a3 : Int32) (a4 : cs), R33 a0 a1 a2 a3 a4 → (∀ (R10' : Nat → Int32 → cs → Prop) (R20' : Nat → Int32 → Int32 → cs → Prop) (R33' : Nat → Int32 → Int32 → Int32 → cs → Prop) (K' : cs → Prop), b_Pi_draw_33 U u x1 x2 x3 x4 S R10' R20' R33' K' ↔ R33' a0 a1 a2 a3 a4) → Q) (k_K : ∀ (a0 : cs), K a0 → (∀ (R10' : Nat → Int32 → cs → Prop) (R20' : Nat → Int32 → Int32 → cs → Prop) (R33' : Nat → Int32 → Int32 → Int32 → cs → Prop) (K' : cs → Prop), b_Pi_draw_33 U u x1 x2 x3 x4 S R10' R20' R33' K' ↔ K' a0) → Q) : Q := by
  unfold b_Pi_draw_33 at h
  refine dt_p (And.right (And.right (And.right h))) (fun c_1 h_2 => ?_) (fun c_1 h_2 => ?_)
  ·
    exact k_R20 _ _ _ _ h_2 (fun _ _ _ _ => Iff.trans (dt_a (And.left h)) (Iff.trans (dt_a (And.left (And.right h))) (Iff.trans (dt_a (And.left (And.right (And.right h)))) (dt_1 c_1 (fun n => n c_1)))))
  ·
    refine d_p_Pi_drawBlock h_2 (fun S50 h_4 i_3 => ?_)
    exact k_R33 _ _ _ _ _ h_4 (fun _ _ _ _ => Iff.trans (dt_a (And.left h)) (Iff.trans (dt_a (And.left (And.right h))) (Iff.trans (dt_a (And.left (And.right (And.right h)))) (Iff.trans (dt_2 c_1 c_1) (i_3 _)))))
theorem l_e_Pi_draw_33 {U : ut} {u : Nat} {x1 : Nat} {x2 : Int32} {x3 : Int32} {x4 : Int32} {S : cs} {R10 : Nat → Int32 → cs → Prop} {R20 : Nat → Int32 → Int32 → cs → Prop} {K : cs → Prop} : e_Pi_draw_33 U u x1 x2 x3 x4 S R10 R20 K ↔ lpE (C := (Nat → Int32 → cs → Prop) × (Nat → Int32 → Int32 → cs → Prop) × (cs → Prop)) (fun (y : (Nat) × (Int32) × (Int32) × (Int32) × (cs)) (R : ((Nat) × (Int32) × (Int32) × (Int32) × (cs)) → Prop) (c : (Nat → Int32 → cs → Prop) × (Nat → Int32 → Int32 → cs → Prop) × (cs → Prop)) => b_Pi_draw_33 U u y.1 y.2.1 y.2.2.1 y.2.2.2.1 y.2.2.2.2 c.1 c.2.1 (fun z0 z1 z2 z3 z4 => R (z0, z1, z2, z3, z4)) c.2.2) (x1, x2, x3, x4, S) (R10, R20, K) :=
  ⟨fun ⟨I, μ, h0, hs⟩ => ⟨fun t => I t.1 t.2.1 t.2.2.1 t.2.2.2.1 t.2.2.2.2, fun t => μ t.1 t.2.1 t.2.2.1 t.2.2.2.1 t.2.2.2.2, h0, fun t ht => hs _ _ _ _ _ ht⟩, fun ⟨I, μ, h0, hs⟩ => ⟨fun y0 y1 y2 y3 y4 => I (y0, y1, y2, y3, y4), fun y0 y1 y2 y3 y4 => μ (y0, y1, y2, y3, y4), h0, fun y0 y1 y2 y3 y4 hy => hs (y0, y1, y2, y3, y4) hy⟩⟩
set_option maxHeartbeats 1000000 in
theorem d_e_Pi_draw_33 {U : ut} {u : Nat} {x1 : Nat} {x2 : Int32} {x3 : Int32} {x4 : Int32} {S : cs} {R10 : Nat → Int32 → cs → Prop} {R20 : Nat → Int32 → Int32 → cs → Prop} {K : cs → Prop} (h : e_Pi_draw_33 U u x1 x2 x3 x4 S R10 R20 K) {Q : Prop} (k_R10 : ∀ (a0 : Nat) (a1 : Int32) (a2 : cs), R10 a0 a1 a2 → (∀ (R10' : Nat → Int32 → cs → Prop) (R20' : Nat → Int32 → Int32 → cs → Prop) (K' : cs → Prop), e_Pi_draw_33 U u x1 x2 x3 x4 S R10' R20' K' ↔ R10' a0 a1 a2) → Q) (k_R20 : ∀ (a0 : Nat) (a1 : Int32) (a2 : Int32) (a3 : cs), R20 a0 a1 a2 a3 → (∀ (R10' : Nat → Int32 → cs → Prop) (R20' : Nat → Int32 → Int32 → cs → Prop) (K' : cs → Prop), e_Pi_draw_33 U u x1 x2 x3 x4 S R10' R20' K' ↔ R20' a0 a1 a2 a3) → Q) (k_K : ∀ (a0 : cs), K a0 → (∀ (R10' : Nat → Int32 → cs → Prop) (R20' : Nat → Int32 → Int32 → cs → Prop) (K' : cs → Prop), e_Pi_draw_33 U u x1 x2 x3 x4 S R10' R20' K' ↔ K' a0) → Q) : Q := by
  obtain ⟨o, ho, hoc, hi⟩ := lp_det (C := (Nat → Int32 → cs → Prop) × (Nat → Int32 → Int32 → cs → Prop) × (cs → Prop)) (b := (fun (y : (Nat) × (Int32) × (Int32) × (Int32) × (cs)) (R : ((Nat) × (Int32) × (Int32) × (Int32) × (cs)) → Prop) (c : (Nat → Int32 → cs → Prop) × (Nat → Int32 → Int32 → cs → Prop) × (cs → Prop)) => b_Pi_draw_33 U u y.1 y.2.1 y.2.2.1 y.2.2.2.1 y.2.2.2.2 c.1 c.2.1 (fun z0 z1 z2 z3 z4 => R (z0, z1, z2, z3, z4)) c.2.2)) (O := (fun (o : ((Nat → Int32 → cs → Prop) × (Nat → Int32 → Int32 → cs → Prop) × (cs → Prop)) → Prop) => (∃ (a0 : Nat) (a1 : Int32) (a2 : cs), o = fun c => c.1 a0 a1 a2) ∨ (∃ (a0 : Nat) (a1 : Int32) (a2 : Int32) (a3 : cs), o = fun c => c.2.1 a0 a1 a2 a3) ∨ (∃ (a0 : cs), o = fun c => c.2.2 a0))) (fun y R c hy => d_b_Pi_draw_33 hy (fun a0 a1 a2 ha ia => Or.inr ⟨(fun c => c.1 a0 a1 a2), Or.inl ⟨a0, a1, a2, rfl⟩, ha, fun R' c' => ia c'.1 c'.2.1 (fun z0 z1 z2 z3 z4 => R' (z0, z1, z2, z3, z4)) c'.2.2⟩) (fun a0 a1 a2 a3 ha ia => Or.inr ⟨(fun c => c.2.1 a0 a1 a2 a3), Or.inr (Or.inl ⟨a0, a1, a2, a3, rfl⟩), ha, fun R' c' => ia c'.1 c'.2.1 (fun z0 z1 z2 z3 z4 => R' (z0, z1, z2, z3, z4)) c'.2.2⟩) (fun a0 a1 a2 a3 a4 ha ia => Or.inl ⟨(a0, a1, a2, a3, a4), ha, fun R' c' => ia c'.1 c'.2.1 (fun z0 z1 z2 z3 z4 => R' (z0, z1, z2, z3, z4)) c'.2.2⟩) (fun a0 ha ia => Or.inr ⟨(fun c => c.2.2 a0), Or.inr (Or.inr (⟨a0, rfl⟩)), ha, fun R' c' => ia c'.1 c'.2.1 (fun z0 z1 z2 z3 z4 => R' (z0, z1, z2, z3, z4)) c'.2.2⟩)) (l_e_Pi_draw_33.mp h)
  rcases ho with ⟨a0, a1, a2, rfl⟩ | ⟨a0, a1, a2, a3, rfl⟩ | ⟨a0, rfl⟩
  · exact k_R10 _ _ _ hoc (fun R10' R20' K' => Iff.trans l_e_Pi_draw_33 (hi (R10', R20', K')))
  · exact k_R20 _ _ _ _ hoc (fun R10' R20' K' => Iff.trans l_e_Pi_draw_33 (hi (R10', R20', K')))
  · exact k_K _ hoc (fun R10' R20' K' => Iff.trans l_e_Pi_draw_33 (hi (R10', R20', K')))
theorem v_e_Pi_draw_33 {U : ut} {u : Nat} {x1 : Nat} {x2 : Int32} {x3 : Int32} {x4 : Int32} {S : cs} {R10 : Nat → Int32 → cs → Prop} {R20 : Nat → Int32 → Int32 → cs → Prop} {K : cs → Prop} (h : e_Pi_draw_33 U u x1 x2 x3 x4 S R10 R20 K) {G : Prop} (Inv : Int32 → cs → Prop) (h0 : Inv x4 S) (hs : ∀ (yx4 : Int32) (yS : cs) (R : Nat → Int32 → Int32 → Int32 → cs → Prop), Inv yx4 yS → b_Pi_draw_33 U u x1 x2 x3 yx4 yS R10 R20 R K → (∃ (zx4 : Int32) (zS : cs), R x1 x2 x3 zx4 zS ∧ Inv zx4 zS) ∨ G) : G := by
  obtain ⟨I, μ, i0, is⟩ := h
  have go : ∀ (n : Nat) (yx4 : Int32) (yS : cs), μ x1 x2 x3 yx4 yS < n → I x1 x2 x3 yx4 yS → Inv yx4 yS → G := by
    intro n
    induction n with
    | zero => intro yx4 yS hy; exact absurd hy (Nat.not_lt_zero _)
    | succ n ih =>
      intro yx4 yS hy hI hV
      rcases hs yx4 yS _ hV (is x1 x2 x3 yx4 yS hI) with ⟨zx4, zS, ⟨hz, hm⟩, hv⟩ | g
      · exact ih zx4 zS (Nat.lt_of_lt_of_le hm (Nat.le_of_lt_succ hy)) hz hv
      · exact g
  exact go _ x4 S (Nat.lt_succ_self _) i0 h0
theorem r_e_Pi_draw_33 {U : ut} {u : Nat} {x1 : Nat} {x2 : Int32} {x3 : Int32} {x4 : Int32} {S : cs} {R10 : Nat → Int32 → cs → Prop} {R20 : Nat → Int32 → Int32 → cs → Prop} {K : cs → Prop} (h : e_Pi_draw_33 U u x1 x2 x3 x4 S R10 R20 K) : b_Pi_draw_33 U u x1 x2 x3 x4 S R10 R20 (fun zx1 zx2 zx3 zx4 zS => e_Pi_draw_33 U u zx1 zx2 zx3 zx4 zS R10 R20 K) K := by
  obtain ⟨I, μ, i0, is⟩ := h
  exact d_b_Pi_draw_33 (is x1 x2 x3 x4 S i0) (fun a0 a1 a2 ha ia => (ia _ _ _ _).mpr ha) (fun a0 a1 a2 a3 ha ia => (ia _ _ _ _).mpr ha) (fun a0 a1 a2 a3 a4 ha ia => (ia _ _ _ _).mpr ⟨I, μ, ha.1, is⟩) (fun a0 ha ia => (ia _ _ _ _).mpr ha)
set_option maxHeartbeats 1000000 in
theorem d_b_Pi_draw_20 {U : ut} {u : Nat} {x1 : Nat} {x2 : Int32} {x3 : Int32} {S : cs} {R10 : Nat → Int32 → cs → Prop} {R20 : Nat → Int32 → Int32 → cs → Prop} {K : cs → Prop} (h : b_Pi_draw_20 U u x1 x2 x3 S R10 R20 K) {Q : Prop} (k_R10 : ∀ (a0 : Nat) (a1 : Int32) (a2 : cs), R10 a0 a1 a2 → (∀ (R10' : Nat → Int32 → cs → Prop) (R20' : Nat → Int32 → Int32 → cs → Prop) (K' : cs → Prop), b_Pi_draw_20 U u x1 x2 x3 S R10' R20' K' ↔ R10' a0 a1 a2) → Q) (k_R20 : ∀ (a0 : Nat) (a1 : Int32) (a2 : Int32) (a3 : cs), R20 a0 a1 a2 a3 → (∀ (R10' : Nat → Int32 → cs → Prop) (R20' : Nat → Int32 → Int32 → cs → Prop) (K' : cs → Prop), b_Pi_draw_20 U u x1 x2 x3 S R10' R20' K' ↔ R20' a0 a1 a2 a3) → Q) (k_K : ∀ (a0 : cs), K a0 → (∀ (R10' : Nat → Int32 → cs → Prop) (R20' : Nat → Int32 → Int32 → cs → Prop) (K' : cs → Prop), b_Pi_draw_20 U u x1 x2 x3 S R10' R20' K' ↔ K' a0) → Q) : Q := by
  unfold b_Pi_draw_20 at h
  refine dt_p (And.right (And.right (And.right h))) (fun c_1 h_2 => ?_) (fun c_1 h_2 => ?_)
  ·
    exact k_R10 _ _ _ h_2 (fun _ _ _ => Iff.trans (dt_a (And.left h)) (Iff.trans (dt_a (And.left (And.right h))) (Iff.trans (dt_a (And.left (And.right (And.right h)))) (dt_1 c_1 (fun n => n c_1)))))
  ·
    exact d_e_Pi_draw_33 h_2 (fun a0 a1 a2 h_4 i_3 => k_R10 a0 a1 a2 h_4 (fun _ _ _ => Iff.trans (dt_a (And.left h)) (Iff.trans (dt_a (And.left (And.right h))) (Iff.trans (dt_a (And.left (And.right (And.right h)))) (Iff.trans (dt_2 c_1 c_1) (i_3 _ _ _)))))) (fun a0 a1 a2 a3 h_6 i_5 => k_R20 a0 a1 a2 a3 h_6 (fun _ _ _ => Iff.trans (dt_a (And.left h)) (Iff.trans (dt_a (And.left (And.right h))) (Iff.trans (dt_a (And.left (And.right (And.right h)))) (Iff.trans (dt_2 c_1 c_1) (i_5 _ _ _)))))) (fun a0 h_8 i_7 => k_K a0 h_8 (fun _ _ _ => Iff.trans (dt_a (And.left h)) (Iff.trans (dt_a (And.left (And.right h))) (Iff.trans (dt_a (And.left (And.right (And.right h)))) (Iff.trans (dt_2 c_1 c_1) (i_7 _ _ _))))))
theorem l_e_Pi_draw_20 {U : ut} {u : Nat} {x1 : Nat} {x2 : Int32} {x3 : Int32} {S : cs} {R10 : Nat → Int32 → cs → Prop} {K : cs → Prop} : e_Pi_draw_20 U u x1 x2 x3 S R10 K ↔ lpE (C := (Nat → Int32 → cs → Prop) × (cs → Prop)) (fun (y : (Nat) × (Int32) × (Int32) × (cs)) (R : ((Nat) × (Int32) × (Int32) × (cs)) → Prop) (c : (Nat → Int32 → cs → Prop) × (cs → Prop)) => b_Pi_draw_20 U u y.1 y.2.1 y.2.2.1 y.2.2.2 c.1 (fun z0 z1 z2 z3 => R (z0, z1, z2, z3)) c.2) (x1, x2, x3, S) (R10, K) :=
  ⟨fun ⟨I, μ, h0, hs⟩ => ⟨fun t => I t.1 t.2.1 t.2.2.1 t.2.2.2, fun t => μ t.1 t.2.1 t.2.2.1 t.2.2.2, h0, fun t ht => hs _ _ _ _ ht⟩, fun ⟨I, μ, h0, hs⟩ => ⟨fun y0 y1 y2 y3 => I (y0, y1, y2, y3), fun y0 y1 y2 y3 => μ (y0, y1, y2, y3), h0, fun y0 y1 y2 y3 hy => hs (y0, y1, y2, y3) hy⟩⟩
set_option maxHeartbeats 1000000 in
theorem d_e_Pi_draw_20 {U : ut} {u : Nat} {x1 : Nat} {x2 : Int32} {x3 : Int32} {S : cs} {R10 : Nat → Int32 → cs → Prop} {K : cs → Prop} (h : e_Pi_draw_20 U u x1 x2 x3 S R10 K) {Q : Prop} (k_R10 : ∀ (a0 : Nat) (a1 : Int32) (a2 : cs), R10 a0 a1 a2 → (∀ (R10' : Nat → Int32 → cs → Prop) (K' : cs → Prop), e_Pi_draw_20 U u x1 x2 x3 S R10' K' ↔ R10' a0 a1 a2) → Q) (k_K : ∀ (a0 : cs), K a0 → (∀ (R10' : Nat → Int32 → cs → Prop) (K' : cs → Prop), e_Pi_draw_20 U u x1 x2 x3 S R10' K' ↔ K' a0) → Q) : Q := by
  obtain ⟨o, ho, hoc, hi⟩ := lp_det (C := (Nat → Int32 → cs → Prop) × (cs → Prop)) (b := (fun (y : (Nat) × (Int32) × (Int32) × (cs)) (R : ((Nat) × (Int32) × (Int32) × (cs)) → Prop) (c : (Nat → Int32 → cs → Prop) × (cs → Prop)) => b_Pi_draw_20 U u y.1 y.2.1 y.2.2.1 y.2.2.2 c.1 (fun z0 z1 z2 z3 => R (z0, z1, z2, z3)) c.2)) (O := (fun (o : ((Nat → Int32 → cs → Prop) × (cs → Prop)) → Prop) => (∃ (a0 : Nat) (a1 : Int32) (a2 : cs), o = fun c => c.1 a0 a1 a2) ∨ (∃ (a0 : cs), o = fun c => c.2 a0))) (fun y R c hy => d_b_Pi_draw_20 hy (fun a0 a1 a2 ha ia => Or.inr ⟨(fun c => c.1 a0 a1 a2), Or.inl ⟨a0, a1, a2, rfl⟩, ha, fun R' c' => ia c'.1 (fun z0 z1 z2 z3 => R' (z0, z1, z2, z3)) c'.2⟩) (fun a0 a1 a2 a3 ha ia => Or.inl ⟨(a0, a1, a2, a3), ha, fun R' c' => ia c'.1 (fun z0 z1 z2 z3 => R' (z0, z1, z2, z3)) c'.2⟩) (fun a0 ha ia => Or.inr ⟨(fun c => c.2 a0), Or.inr (⟨a0, rfl⟩), ha, fun R' c' => ia c'.1 (fun z0 z1 z2 z3 => R' (z0, z1, z2, z3)) c'.2⟩)) (l_e_Pi_draw_20.mp h)
  rcases ho with ⟨a0, a1, a2, rfl⟩ | ⟨a0, rfl⟩
  · exact k_R10 _ _ _ hoc (fun R10' K' => Iff.trans l_e_Pi_draw_20 (hi (R10', K')))
  · exact k_K _ hoc (fun R10' K' => Iff.trans l_e_Pi_draw_20 (hi (R10', K')))
theorem v_e_Pi_draw_20 {U : ut} {u : Nat} {x1 : Nat} {x2 : Int32} {x3 : Int32} {S : cs} {R10 : Nat → Int32 → cs → Prop} {K : cs → Prop} (h : e_Pi_draw_20 U u x1 x2 x3 S R10 K) {G : Prop} (Inv : Int32 → cs → Prop) (h0 : Inv x3 S) (hs : ∀ (yx3 : Int32) (yS : cs) (R : Nat → Int32 → Int32 → cs → Prop), Inv yx3 yS → b_Pi_draw_20 U u x1 x2 yx3 yS R10 R K → (∃ (zx3 : Int32) (zS : cs), R x1 x2 zx3 zS ∧ Inv zx3 zS) ∨ G) : G := by
  obtain ⟨I, μ, i0, is⟩ := h
  have go : ∀ (n : Nat) (yx3 : Int32) (yS : cs), μ x1 x2 yx3 yS < n → I x1 x2 yx3 yS → Inv yx3 yS → G := by
    intro n
    induction n with
    | zero => intro yx3 yS hy; exact absurd hy (Nat.not_lt_zero _)
    | succ n ih =>
      intro yx3 yS hy hI hV
      rcases hs yx3 yS _ hV (is x1 x2 yx3 yS hI) with ⟨zx3, zS, ⟨hz, hm⟩, hv⟩ | g
      · exact ih zx3 zS (Nat.lt_of_lt_of_le hm (Nat.le_of_lt_succ hy)) hz hv
      · exact g
  exact go _ x3 S (Nat.lt_succ_self _) i0 h0
theorem r_e_Pi_draw_20 {U : ut} {u : Nat} {x1 : Nat} {x2 : Int32} {x3 : Int32} {S : cs} {R10 : Nat → Int32 → cs → Prop} {K : cs → Prop} (h : e_Pi_draw_20 U u x1 x2 x3 S R10 K) : b_Pi_draw_20 U u x1 x2 x3 S R10 (fun zx1 zx2 zx3 zS => e_Pi_draw_20 U u zx1 zx2 zx3 zS R10 K) K := by
  obtain ⟨I, μ, i0, is⟩ := h
  exact d_b_Pi_draw_20 (is x1 x2 x3 S i0) (fun a0 a1 a2 ha ia => (ia _ _ _).mpr ha) (fun a0 a1 a2 a3 ha ia => (ia _ _ _).mpr ⟨I, μ, ha.1, is⟩) (fun a0 ha ia => (ia _ _ _).mpr ha)
set_option maxHeartbeats 1000000 in
theorem d_b_Pi_draw_10 {U : ut} {u : Nat} {x1 : Nat} {x2 : Int32} {S : cs} {R10 : Nat → Int32 → cs → Prop} {K : cs → Prop} (h : b_Pi_draw_10 U u x1 x2 S R10 K) {Q : Prop} (k_R10 : ∀ (a0 : Nat) (a1 : Int32) (a2 : cs), R10 a0 a1 a2 → (∀ (R10' : Nat → Int32 → cs → Prop) (K' : cs → Prop), b_Pi_draw_10 U u x1 x2 S R10' K' ↔ R10' a0 a1 a2) → Q) (k_K : ∀ (a0 : cs), K a0 → (∀ (R10' : Nat → Int32 → cs → Prop) (K' : cs → Prop), b_Pi_draw_10 U u x1 x2 S R10' K' ↔ K' a0) → Q) : Q := by
  unfold b_Pi_draw_10 at h
  refine dt_p h (fun c_1 h_2 => ?_) (fun c_1 h_2 => ?_)
  ·
    exact k_K _ h_2 (fun _ _ => dt_1 c_1 (fun n => n c_1))
  ·
    exact d_e_Pi_draw_20 h_2 (fun a0 a1 a2 h_4 i_3 => k_R10 a0 a1 a2 h_4 (fun _ _ => Iff.trans (dt_2 c_1 c_1) (i_3 _ _))) (fun a0 h_6 i_5 => k_K a0 h_6 (fun _ _ => Iff.trans (dt_2 c_1 c_1) (i_5 _ _)))
theorem l_e_Pi_draw_10 {U : ut} {u : Nat} {x1 : Nat} {x2 : Int32} {S : cs} {K : cs → Prop} : e_Pi_draw_10 U u x1 x2 S K ↔ lpE (C := (cs → Prop)) (fun (y : (Nat) × (Int32) × (cs)) (R : ((Nat) × (Int32) × (cs)) → Prop) (c : (cs → Prop)) => b_Pi_draw_10 U u y.1 y.2.1 y.2.2 (fun z0 z1 z2 => R (z0, z1, z2)) c) (x1, x2, S) K :=
  ⟨fun ⟨I, μ, h0, hs⟩ => ⟨fun t => I t.1 t.2.1 t.2.2, fun t => μ t.1 t.2.1 t.2.2, h0, fun t ht => hs _ _ _ ht⟩, fun ⟨I, μ, h0, hs⟩ => ⟨fun y0 y1 y2 => I (y0, y1, y2), fun y0 y1 y2 => μ (y0, y1, y2), h0, fun y0 y1 y2 hy => hs (y0, y1, y2) hy⟩⟩
set_option maxHeartbeats 1000000 in
theorem d_e_Pi_draw_10 {U : ut} {u : Nat} {x1 : Nat} {x2 : Int32} {S : cs} {K : cs → Prop} (h : e_Pi_draw_10 U u x1 x2 S K) {Q : Prop} (k_K : ∀ (a0 : cs), K a0 → (∀ (K' : cs → Prop), e_Pi_draw_10 U u x1 x2 S K' ↔ K' a0) → Q) : Q := by
  obtain ⟨o, ho, hoc, hi⟩ := lp_det (C := (cs → Prop)) (b := (fun (y : (Nat) × (Int32) × (cs)) (R : ((Nat) × (Int32) × (cs)) → Prop) (c : (cs → Prop)) => b_Pi_draw_10 U u y.1 y.2.1 y.2.2 (fun z0 z1 z2 => R (z0, z1, z2)) c)) (O := (fun (o : ((cs → Prop)) → Prop) => (∃ (a0 : cs), o = fun c => c a0))) (fun y R c hy => d_b_Pi_draw_10 hy (fun a0 a1 a2 ha ia => Or.inl ⟨(a0, a1, a2), ha, fun R' c' => ia (fun z0 z1 z2 => R' (z0, z1, z2)) c'⟩) (fun a0 ha ia => Or.inr ⟨(fun c => c a0), ⟨a0, rfl⟩, ha, fun R' c' => ia (fun z0 z1 z2 => R' (z0, z1, z2)) c'⟩)) (l_e_Pi_draw_10.mp h)
  rcases ho with ⟨a0, rfl⟩
  · exact k_K _ hoc (fun K' => Iff.trans l_e_Pi_draw_10 (hi K'))
theorem v_e_Pi_draw_10 {U : ut} {u : Nat} {x1 : Nat} {x2 : Int32} {S : cs} {K : cs → Prop} (h : e_Pi_draw_10 U u x1 x2 S K) {G : Prop} (Inv : Int32 → cs → Prop) (h0 : Inv x2 S) (hs : ∀ (yx2 : Int32) (yS : cs) (R : Nat → Int32 → cs → Prop), Inv yx2 yS → b_Pi_draw_10 U u x1 yx2 yS R K → (∃ (zx2 : Int32) (zS : cs), R x1 zx2 zS ∧ Inv zx2 zS) ∨ G) : G := by
  obtain ⟨I, μ, i0, is⟩ := h
  have go : ∀ (n : Nat) (yx2 : Int32) (yS : cs), μ x1 yx2 yS < n → I x1 yx2 yS → Inv yx2 yS → G := by
    intro n
    induction n with
    | zero => intro yx2 yS hy; exact absurd hy (Nat.not_lt_zero _)
    | succ n ih =>
      intro yx2 yS hy hI hV
      rcases hs yx2 yS _ hV (is x1 yx2 yS hI) with ⟨zx2, zS, ⟨hz, hm⟩, hv⟩ | g
      · exact ih zx2 zS (Nat.lt_of_lt_of_le hm (Nat.le_of_lt_succ hy)) hz hv
      · exact g
  exact go _ x2 S (Nat.lt_succ_self _) i0 h0
theorem r_e_Pi_draw_10 {U : ut} {u : Nat} {x1 : Nat} {x2 : Int32} {S : cs} {K : cs → Prop} (h : e_Pi_draw_10 U u x1 x2 S K) : b_Pi_draw_10 U u x1 x2 S (fun zx1 zx2 zS => e_Pi_draw_10 U u zx1 zx2 zS K) K := by
  obtain ⟨I, μ, i0, is⟩ := h
  exact d_b_Pi_draw_10 (is x1 x2 S i0) (fun a0 a1 a2 ha ia => (ia _ _).mpr ⟨I, μ, ha.1, is⟩) (fun a0 ha ia => (ia _ _).mpr ha)
set_option maxHeartbeats 1000000 in
theorem d_p_Pi_draw {U : ut} {u : Nat} {x1 : Nat} {S : cs} {K : cs → Prop} (h : p_Pi_draw U u x1 S K) {Q : Prop} (k_K : ∀ (a0 : cs), K a0 → (∀ (K' : cs → Prop), p_Pi_draw U u x1 S K' ↔ K' a0) → Q) : Q := by
  unfold p_Pi_draw at h
  refine dt_p h (fun c_1 h_2 => ?_) (fun c_1 h_2 => ?_)
  ·
    exact d_e_Pi_draw_10 h_2 (fun a0 h_4 i_3 => k_K a0 h_4 (fun _ => Iff.trans (dt_1 c_1 (fun n => n c_1)) (i_3 _)))
  ·
    exact k_K _ h_2 (fun _ => dt_2 c_1 c_1)
set_option maxHeartbeats 1000000 in
theorem d_b_Pi_layerSample_42 {U : ut} {u : Nat} {x1 : Int32} {x4 : Int32} {s0 : Int32} {S : cs} {K : Int32 → cs → Prop} (h : b_Pi_layerSample_42 U u x1 x4 s0 S K) {Q : Prop} (k_K : ∀ (a0 : Int32) (a1 : cs), K a0 a1 → (∀ (K' : Int32 → cs → Prop), b_Pi_layerSample_42 U u x1 x4 s0 S K' ↔ K' a0 a1) → Q) : Q := by
  unfold b_Pi_layerSample_42 at h
  refine d_p_B_spot (And.right h) (fun v53 h_2 i_1 => ?_)
  exact k_K _ _ (And.right (And.right h_2)) (fun _ => Iff.trans (dt_a (And.left h)) (Iff.trans (i_1 _) (Iff.trans (dt_a (And.left h_2)) (dt_a (And.left (And.right h_2))))))
set_option maxHeartbeats 1000000 in
theorem d_b_Pi_layerSample_20 {U : ut} {u : Nat} {x1 : Int32} {x3 : Int32} {s0 : Int32} {S : cs} {K : Int32 → cs → Prop} (h : b_Pi_layerSample_20 U u x1 x3 s0 S K) {Q : Prop} (k_K : ∀ (a0 : Int32) (a1 : cs), K a0 a1 → (∀ (K' : Int32 → cs → Prop), b_Pi_layerSample_20 U u x1 x3 s0 S K' ↔ K' a0 a1) → Q) : Q := by
  unfold b_Pi_layerSample_20 at h
  refine dt_p (And.right (And.right (And.right h))) (fun c_1 h_2 => ?_) (fun c_1 h_2 => ?_)
  ·
    exact d_b_Pi_layerSample_42 h_2 (fun a0 a1 h_4 i_3 => k_K a0 a1 h_4 (fun _ => Iff.trans (dt_a (And.left h)) (Iff.trans (dt_a (And.left (And.right h))) (Iff.trans (dt_a (And.left (And.right (And.right h)))) (Iff.trans (dt_1 c_1 (fun n => n c_1)) (i_3 _))))))
  ·
    exact d_b_Pi_layerSample_42 h_2 (fun a0 a1 h_6 i_5 => k_K a0 a1 h_6 (fun _ => Iff.trans (dt_a (And.left h)) (Iff.trans (dt_a (And.left (And.right h))) (Iff.trans (dt_a (And.left (And.right (And.right h)))) (Iff.trans (dt_2 c_1 c_1) (i_5 _))))))
set_option maxHeartbeats 1000000 in
theorem d_p_Pi_layerSample {U : ut} {u : Nat} {x1 : Int32} {x2 : Int32} {x3 : Int32} {S : cs} {K : Int32 → cs → Prop} (h : p_Pi_layerSample U u x1 x2 x3 S K) {Q : Prop} (k_K : ∀ (a0 : Int32) (a1 : cs), K a0 a1 → (∀ (K' : Int32 → cs → Prop), p_Pi_layerSample U u x1 x2 x3 S K' ↔ K' a0 a1) → Q) : Q := by
  unfold p_Pi_layerSample at h
  refine dt_p (And.right (And.right (And.right h))) (fun c_1 h_2 => ?_) (fun c_1 h_2 => ?_)
  ·
    exact d_b_Pi_layerSample_20 h_2 (fun a0 a1 h_4 i_3 => k_K a0 a1 h_4 (fun _ => Iff.trans (dt_a (And.left h)) (Iff.trans (dt_a (And.left (And.right h))) (Iff.trans (dt_a (And.left (And.right (And.right h)))) (Iff.trans (dt_1 c_1 (fun n => n c_1)) (i_3 _))))))
  ·
    exact d_b_Pi_layerSample_20 h_2 (fun a0 a1 h_6 i_5 => k_K a0 a1 h_6 (fun _ => Iff.trans (dt_a (And.left h)) (Iff.trans (dt_a (And.left (And.right h))) (Iff.trans (dt_a (And.left (And.right (And.right h)))) (Iff.trans (dt_2 c_1 c_1) (i_5 _))))))
set_option maxHeartbeats 1000000 in
theorem d_b_Pi_colour_97 {U : ut} {u : Nat} {x4 : Int32} {s0 : Int32} {S : cs} {K : Int32 → cs → Prop} (h : b_Pi_colour_97 U u x4 s0 S K) {Q : Prop} (k_K : ∀ (a0 : Int32) (a1 : cs), K a0 a1 → (∀ (K' : Int32 → cs → Prop), b_Pi_colour_97 U u x4 s0 S K' ↔ K' a0 a1) → Q) : Q := by
  unfold b_Pi_colour_97 at h
  refine d_p_B_clamp h (fun v114 h_2 i_1 => ?_)
  exact k_K _ _ h_2 (fun _ => i_1 _)
set_option maxHeartbeats 1000000 in
theorem d_p_Pi_colour {U : ut} {u : Nat} {x1 : Int32} {x2 : Int32} {x3 : Int32} {S : cs} {K : Int32 → cs → Prop} (h : p_Pi_colour U u x1 x2 x3 S K) {Q : Prop} (k_K : ∀ (a0 : Int32) (a1 : cs), K a0 a1 → (∀ (K' : Int32 → cs → Prop), p_Pi_colour U u x1 x2 x3 S K' ↔ K' a0 a1) → Q) : Q := by
  unfold p_Pi_colour at h
  refine d_p_Pi_layerSample h (fun v4 S4 h_2 i_1 => ?_)
  refine dt_n h_2 (fun c_3 h_4 => ?_) (fun c_3 h_4 => ?_)
  ·
    refine d_p_Pi_layerSample h_4 (fun v24 S24 h_6 i_5 => ?_)
    refine d_p_Pi_layerSample h_6 (fun v37 S37 h_8 i_7 => ?_)
    refine dt_n h_8 (fun c_9 h_10 => ?_) (fun c_9 h_10 => ?_)
    ·
      refine dt_n h_10 (fun c_11 h_12 => ?_) (fun c_11 h_12 => ?_)
      ·
        exact d_b_Pi_colour_97 h_12 (fun a0 a1 h_14 i_13 => k_K a0 a1 h_14 (fun _ => Iff.trans (i_1 _) (Iff.trans (dt_1 c_3 c_3) (Iff.trans (i_5 _) (Iff.trans (i_7 _) (Iff.trans (dt_1 c_9 c_9) (Iff.trans (dt_1 c_11 c_11) (i_13 _))))))))
      ·
        exact d_b_Pi_colour_97 h_12 (fun a0 a1 h_16 i_15 => k_K a0 a1 h_16 (fun _ => Iff.trans (i_1 _) (Iff.trans (dt_1 c_3 c_3) (Iff.trans (i_5 _) (Iff.trans (i_7 _) (Iff.trans (dt_1 c_9 c_9) (Iff.trans (dt_2 (fun n => n c_11) c_11) (i_15 _))))))))
    ·
      refine d_p_B_clamp h_10 (fun v76 h_18 i_17 => ?_)
      exact k_K _ _ h_18 (fun _ => Iff.trans (i_1 _) (Iff.trans (dt_1 c_3 c_3) (Iff.trans (i_5 _) (Iff.trans (i_7 _) (Iff.trans (dt_2 (fun n => n c_9) c_9) (i_17 _))))))
  ·
    exact k_K _ _ h_4 (fun _ => Iff.trans (i_1 _) (dt_2 (fun n => n c_3) c_3))
set_option maxHeartbeats 1000000 in
theorem d_b_B_sample_71 {U : ut} {u : Nat} {S : cs} {K : Int32 → cs → Prop} {T : Nat → cs → Prop} (h : b_B_sample_71 U u S K T) {Q : Prop} (k_K : ∀ (a0 : Int32) (a1 : cs), K a0 a1 → (∀ (K' : Int32 → cs → Prop) (T' : Nat → cs → Prop), b_B_sample_71 U u S K' T' ↔ K' a0 a1) → Q) (k_T : ∀ (a0 : Nat) (a1 : cs), T a0 a1 → (∀ (K' : Int32 → cs → Prop) (T' : Nat → cs → Prop), b_B_sample_71 U u S K' T' ↔ T' a0 a1) → Q) : Q := by
  unfold b_B_sample_71 at h
  exact k_T _ _ h (fun _ _ => Iff.rfl)
set_option maxHeartbeats 1000000 in
theorem d_p_B_sample {U : ut} {u : Nat} {x1 : Int32} {x2 : Int32} {x3 : Int32} {S : cs} {K : Int32 → cs → Prop} {T : Nat → cs → Prop} (h : p_B_sample U u x1 x2 x3 S K T) {Q : Prop} (k_K : ∀ (a0 : Int32) (a1 : cs), K a0 a1 → (∀ (K' : Int32 → cs → Prop) (T' : Nat → cs → Prop), p_B_sample U u x1 x2 x3 S K' T' ↔ K' a0 a1) → Q) (k_T : ∀ (a0 : Nat) (a1 : cs), T a0 a1 → (∀ (K' : Int32 → cs → Prop) (T' : Nat → cs → Prop), p_B_sample U u x1 x2 x3 S K' T' ↔ T' a0 a1) → Q) : Q := by
  unfold p_B_sample at h
  refine dt_n (And.right (And.right h)) (fun c_1 h_2 => ?_) (fun c_1 h_2 => ?_)
  ·
    refine d_p_B_isWithin (And.right h_2) (fun v31 h_4 i_3 => ?_)
    refine dt_p h_4 (fun c_5 h_6 => ?_) (fun c_5 h_6 => ?_)
    ·
      exact d_b_B_sample_71 h_6 (fun a0 a1 h_8 i_7 => k_K a0 a1 h_8 (fun _ _ => Iff.trans (dt_a (And.left h)) (Iff.trans (dt_a (And.left (And.right h))) (Iff.trans (dt_1 c_1 c_1) (Iff.trans (dt_a (And.left h_2)) (Iff.trans (i_3 _) (Iff.trans (dt_1 c_5 (fun n => n c_5)) (i_7 _ _)))))))) (fun a0 a1 h_10 i_9 => k_T a0 a1 h_10 (fun _ _ => Iff.trans (dt_a (And.left h)) (Iff.trans (dt_a (And.left (And.right h))) (Iff.trans (dt_1 c_1 c_1) (Iff.trans (dt_a (And.left h_2)) (Iff.trans (i_3 _) (Iff.trans (dt_1 c_5 (fun n => n c_5)) (i_9 _ _))))))))
    ·
      refine d_p_B_isWithin (And.right h_6) (fun v48 h_12 i_11 => ?_)
      refine dt_p h_12 (fun c_13 h_14 => ?_) (fun c_13 h_14 => ?_)
      ·
        exact d_b_B_sample_71 h_14 (fun a0 a1 h_16 i_15 => k_K a0 a1 h_16 (fun _ _ => Iff.trans (dt_a (And.left h)) (Iff.trans (dt_a (And.left (And.right h))) (Iff.trans (dt_1 c_1 c_1) (Iff.trans (dt_a (And.left h_2)) (Iff.trans (i_3 _) (Iff.trans (dt_2 c_5 c_5) (Iff.trans (dt_a (And.left h_6)) (Iff.trans (i_11 _) (Iff.trans (dt_1 c_13 (fun n => n c_13)) (i_15 _ _))))))))))) (fun a0 a1 h_18 i_17 => k_T a0 a1 h_18 (fun _ _ => Iff.trans (dt_a (And.left h)) (Iff.trans (dt_a (And.left (And.right h))) (Iff.trans (dt_1 c_1 c_1) (Iff.trans (dt_a (And.left h_2)) (Iff.trans (i_3 _) (Iff.trans (dt_2 c_5 c_5) (Iff.trans (dt_a (And.left h_6)) (Iff.trans (i_11 _) (Iff.trans (dt_1 c_13 (fun n => n c_13)) (i_17 _ _)))))))))))
      ·
        refine d_p_B_isWithin (And.right h_14) (fun v65 h_20 i_19 => ?_)
        refine dt_n h_20 (fun c_21 h_22 => ?_) (fun c_21 h_22 => ?_)
        ·
          refine d_p_Pi_draw (And.right (And.right h_22)) (fun S89 h_24 i_23 => ?_)
          refine d_p_Pi_colour (And.right (And.right h_24)) (fun v99 S99 h_26 i_25 => ?_)
          exact k_K _ _ h_26 (fun _ _ => Iff.trans (dt_a (And.left h)) (Iff.trans (dt_a (And.left (And.right h))) (Iff.trans (dt_1 c_1 c_1) (Iff.trans (dt_a (And.left h_2)) (Iff.trans (i_3 _) (Iff.trans (dt_2 c_5 c_5) (Iff.trans (dt_a (And.left h_6)) (Iff.trans (i_11 _) (Iff.trans (dt_2 c_13 c_13) (Iff.trans (dt_a (And.left h_14)) (Iff.trans (i_19 _) (Iff.trans (dt_1 c_21 c_21) (Iff.trans (dt_a (And.left h_22)) (Iff.trans (dt_a (And.left (And.right h_22))) (Iff.trans (i_23 _) (Iff.trans (dt_a (And.left h_24)) (Iff.trans (dt_a (And.left (And.right h_24))) (i_25 _))))))))))))))))))
        ·
          exact d_b_B_sample_71 h_22 (fun a0 a1 h_28 i_27 => k_K a0 a1 h_28 (fun _ _ => Iff.trans (dt_a (And.left h)) (Iff.trans (dt_a (And.left (And.right h))) (Iff.trans (dt_1 c_1 c_1) (Iff.trans (dt_a (And.left h_2)) (Iff.trans (i_3 _) (Iff.trans (dt_2 c_5 c_5) (Iff.trans (dt_a (And.left h_6)) (Iff.trans (i_11 _) (Iff.trans (dt_2 c_13 c_13) (Iff.trans (dt_a (And.left h_14)) (Iff.trans (i_19 _) (Iff.trans (dt_2 (fun n => n c_21) c_21) (i_27 _ _)))))))))))))) (fun a0 a1 h_30 i_29 => k_T a0 a1 h_30 (fun _ _ => Iff.trans (dt_a (And.left h)) (Iff.trans (dt_a (And.left (And.right h))) (Iff.trans (dt_1 c_1 c_1) (Iff.trans (dt_a (And.left h_2)) (Iff.trans (i_3 _) (Iff.trans (dt_2 c_5 c_5) (Iff.trans (dt_a (And.left h_6)) (Iff.trans (i_11 _) (Iff.trans (dt_2 c_13 c_13) (Iff.trans (dt_a (And.left h_14)) (Iff.trans (i_19 _) (Iff.trans (dt_2 (fun n => n c_21) c_21) (i_29 _ _))))))))))))))
  ·
    exact k_T _ _ h_2 (fun _ _ => Iff.trans (dt_a (And.left h)) (Iff.trans (dt_a (And.left (And.right h))) (dt_2 (fun n => n c_1) c_1)))
set_option maxHeartbeats 1000000 in
theorem d_b_Pi_hasBlock_35 {U : ut} {u : Nat} {s0 : Int32} {S : cs} {K : Int32 → cs → Prop} (h : b_Pi_hasBlock_35 U u s0 S K) {Q : Prop} (k_K : ∀ (a0 : Int32) (a1 : cs), K a0 a1 → (∀ (K' : Int32 → cs → Prop), b_Pi_hasBlock_35 U u s0 S K' ↔ K' a0 a1) → Q) : Q := by
  unfold b_Pi_hasBlock_35 at h
  exact k_K _ _ (And.right h) (fun _ => dt_a (And.left h))
set_option maxHeartbeats 1000000 in
theorem d_b_Pi_hasBlock_34 {U : ut} {u : Nat} {S : cs} {K : Int32 → cs → Prop} (h : b_Pi_hasBlock_34 U u S K) {Q : Prop} (k_K : ∀ (a0 : Int32) (a1 : cs), K a0 a1 → (∀ (K' : Int32 → cs → Prop), b_Pi_hasBlock_34 U u S K' ↔ K' a0 a1) → Q) : Q := by
  unfold b_Pi_hasBlock_34 at h
  exact d_b_Pi_hasBlock_35 h (fun a0 a1 h_2 i_1 => k_K a0 a1 h_2 (fun _ => i_1 _))
set_option maxHeartbeats 1000000 in
theorem d_p_Pi_hasBlock {U : ut} {u : Nat} {x1 : Int32} {x2 : Int32} {S : cs} {K : Int32 → cs → Prop} (h : p_Pi_hasBlock U u x1 x2 S K) {Q : Prop} (k_K : ∀ (a0 : Int32) (a1 : cs), K a0 a1 → (∀ (K' : Int32 → cs → Prop), p_Pi_hasBlock U u x1 x2 S K' ↔ K' a0 a1) → Q) : Q := by
  unfold p_Pi_hasBlock at h
  refine d_p_B_isWithin h (fun v8 h_2 i_1 => ?_)
  refine dt_p h_2 (fun c_3 h_4 => ?_) (fun c_3 h_4 => ?_)
  ·
    exact d_b_Pi_hasBlock_34 h_4 (fun a0 a1 h_6 i_5 => k_K a0 a1 h_6 (fun _ => Iff.trans (i_1 _) (Iff.trans (dt_1 c_3 (fun n => n c_3)) (i_5 _))))
  ·
    refine d_p_B_isWithin (And.right (And.right (And.right h_4))) (fun v24 h_8 i_7 => ?_)
    refine dt_p h_8 (fun c_9 h_10 => ?_) (fun c_9 h_10 => ?_)
    ·
      exact d_b_Pi_hasBlock_34 h_10 (fun a0 a1 h_12 i_11 => k_K a0 a1 h_12 (fun _ => Iff.trans (i_1 _) (Iff.trans (dt_2 c_3 c_3) (Iff.trans (dt_a (And.left h_4)) (Iff.trans (dt_a (And.left (And.right h_4))) (Iff.trans (dt_a (And.left (And.right (And.right h_4)))) (Iff.trans (i_7 _) (Iff.trans (dt_1 c_9 (fun n => n c_9)) (i_11 _)))))))))
    ·
      exact d_b_Pi_hasBlock_35 h_10 (fun a0 a1 h_14 i_13 => k_K a0 a1 h_14 (fun _ => Iff.trans (i_1 _) (Iff.trans (dt_2 c_3 c_3) (Iff.trans (dt_a (And.left h_4)) (Iff.trans (dt_a (And.left (And.right h_4))) (Iff.trans (dt_a (And.left (And.right (And.right h_4)))) (Iff.trans (i_7 _) (Iff.trans (dt_2 c_9 c_9) (i_13 _)))))))))
set_option maxHeartbeats 1000000 in
theorem d_b_B_level_79 {U : ut} {u : Nat} {S : cs} {K : Int32 → cs → Prop} {T : Nat → cs → Prop} (h : b_B_level_79 U u S K T) {Q : Prop} (k_K : ∀ (a0 : Int32) (a1 : cs), K a0 a1 → (∀ (K' : Int32 → cs → Prop) (T' : Nat → cs → Prop), b_B_level_79 U u S K' T' ↔ K' a0 a1) → Q) (k_T : ∀ (a0 : Nat) (a1 : cs), T a0 a1 → (∀ (K' : Int32 → cs → Prop) (T' : Nat → cs → Prop), b_B_level_79 U u S K' T' ↔ T' a0 a1) → Q) : Q := by
  unfold b_B_level_79 at h
  exact k_T _ _ h (fun _ _ => Iff.rfl)
set_option maxHeartbeats 1000000 in
theorem d_b_B_level_38 {U : ut} {u : Nat} {x2 : Int32} {x3 : Int32} {x4 : Int32} {s0 : Nat} {S : cs} {K : Int32 → cs → Prop} {T : Nat → cs → Prop} (h : b_B_level_38 U u x2 x3 x4 s0 S K T) {Q : Prop} (k_K : ∀ (a0 : Int32) (a1 : cs), K a0 a1 → (∀ (K' : Int32 → cs → Prop) (T' : Nat → cs → Prop), b_B_level_38 U u x2 x3 x4 s0 S K' T' ↔ K' a0 a1) → Q) (k_T : ∀ (a0 : Nat) (a1 : cs), T a0 a1 → (∀ (K' : Int32 → cs → Prop) (T' : Nat → cs → Prop), b_B_level_38 U u x2 x3 x4 s0 S K' T' ↔ T' a0 a1) → Q) : Q := by
  unfold b_B_level_38 at h
  refine dt_n (And.right h) (fun c_1 h_2 => ?_) (fun c_1 h_2 => ?_)
  ·
    refine d_p_Pi_hasBlock h_2 (fun v62 S62 h_4 i_3 => ?_)
    refine dt_p h_4 (fun c_5 h_6 => ?_) (fun c_5 h_6 => ?_)
    ·
      exact d_b_B_level_79 h_6 (fun a0 a1 h_8 i_7 => k_K a0 a1 h_8 (fun _ _ => Iff.trans (dt_a (And.left h)) (Iff.trans (dt_1 c_1 c_1) (Iff.trans (i_3 _) (Iff.trans (dt_1 c_5 (fun n => n c_5)) (i_7 _ _)))))) (fun a0 a1 h_10 i_9 => k_T a0 a1 h_10 (fun _ _ => Iff.trans (dt_a (And.left h)) (Iff.trans (dt_1 c_1 c_1) (Iff.trans (i_3 _) (Iff.trans (dt_1 c_5 (fun n => n c_5)) (i_9 _ _))))))
    ·
      refine d_p_B_isWithin h_6 (fun v73 h_12 i_11 => ?_)
      refine dt_n h_12 (fun c_13 h_14 => ?_) (fun c_13 h_14 => ?_)
      ·
        exact k_K _ _ (And.right (And.right (And.right h_14))) (fun _ _ => Iff.trans (dt_a (And.left h)) (Iff.trans (dt_1 c_1 c_1) (Iff.trans (i_3 _) (Iff.trans (dt_2 c_5 c_5) (Iff.trans (i_11 _) (Iff.trans (dt_1 c_13 c_13) (Iff.trans (dt_a (And.left h_14)) (Iff.trans (dt_a (And.left (And.right h_14))) (dt_a (And.left (And.right (And.right h_14))))))))))))
      ·
        exact d_b_B_level_79 h_14 (fun a0 a1 h_16 i_15 => k_K a0 a1 h_16 (fun _ _ => Iff.trans (dt_a (And.left h)) (Iff.trans (dt_1 c_1 c_1) (Iff.trans (i_3 _) (Iff.trans (dt_2 c_5 c_5) (Iff.trans (i_11 _) (Iff.trans (dt_2 (fun n => n c_13) c_13) (i_15 _ _)))))))) (fun a0 a1 h_18 i_17 => k_T a0 a1 h_18 (fun _ _ => Iff.trans (dt_a (And.left h)) (Iff.trans (dt_1 c_1 c_1) (Iff.trans (i_3 _) (Iff.trans (dt_2 c_5 c_5) (Iff.trans (i_11 _) (Iff.trans (dt_2 (fun n => n c_13) c_13) (i_17 _ _))))))))
  ·
    exact k_T _ _ h_2 (fun _ _ => Iff.trans (dt_a (And.left h)) (dt_2 (fun n => n c_1) c_1))
set_option maxHeartbeats 1000000 in
theorem d_p_B_level {U : ut} {u : Nat} {x1 : Int32} {x2 : Int32} {x3 : Int32} {x4 : Int32} {S : cs} {K : Int32 → cs → Prop} {T : Nat → cs → Prop} (h : p_B_level U u x1 x2 x3 x4 S K T) {Q : Prop} (k_K : ∀ (a0 : Int32) (a1 : cs), K a0 a1 → (∀ (K' : Int32 → cs → Prop) (T' : Nat → cs → Prop), p_B_level U u x1 x2 x3 x4 S K' T' ↔ K' a0 a1) → Q) (k_T : ∀ (a0 : Nat) (a1 : cs), T a0 a1 → (∀ (K' : Int32 → cs → Prop) (T' : Nat → cs → Prop), p_B_level U u x1 x2 x3 x4 S K' T' ↔ T' a0 a1) → Q) : Q := by
  unfold p_B_level at h
  refine d_p_B_isWithin h (fun v3 h_2 i_1 => ?_)
  refine dt_n h_2 (fun c_3 h_4 => ?_) (fun c_3 h_4 => ?_)
  ·
    refine dt_n h_4 (fun c_5 h_6 => ?_) (fun c_5 h_6 => ?_)
    ·
      exact d_b_B_level_38 (And.right (And.right (And.right h_6))) (fun a0 a1 h_8 i_7 => k_K a0 a1 h_8 (fun _ _ => Iff.trans (i_1 _) (Iff.trans (dt_1 c_3 c_3) (Iff.trans (dt_1 c_5 c_5) (Iff.trans (dt_a (And.left h_6)) (Iff.trans (dt_a (And.left (And.right h_6))) (Iff.trans (dt_a (And.left (And.right (And.right h_6)))) (i_7 _ _)))))))) (fun a0 a1 h_10 i_9 => k_T a0 a1 h_10 (fun _ _ => Iff.trans (i_1 _) (Iff.trans (dt_1 c_3 c_3) (Iff.trans (dt_1 c_5 c_5) (Iff.trans (dt_a (And.left h_6)) (Iff.trans (dt_a (And.left (And.right h_6))) (Iff.trans (dt_a (And.left (And.right (And.right h_6)))) (i_9 _ _))))))))
    ·
      exact d_b_B_level_38 (And.right h_6) (fun a0 a1 h_12 i_11 => k_K a0 a1 h_12 (fun _ _ => Iff.trans (i_1 _) (Iff.trans (dt_1 c_3 c_3) (Iff.trans (dt_2 (fun n => n c_5) c_5) (Iff.trans (dt_a (And.left h_6)) (i_11 _ _)))))) (fun a0 a1 h_14 i_13 => k_T a0 a1 h_14 (fun _ _ => Iff.trans (i_1 _) (Iff.trans (dt_1 c_3 c_3) (Iff.trans (dt_2 (fun n => n c_5) c_5) (Iff.trans (dt_a (And.left h_6)) (i_13 _ _))))))
  ·
    exact k_T _ _ h_4 (fun _ _ => Iff.trans (i_1 _) (dt_2 (fun n => n c_3) c_3))
set_option maxHeartbeats 1000000 in
theorem d_b_B_take_87 {U : ut} {u : Nat} {x1 : Int32} {x2 : Int32} {x3 : Int32} {S : cs} {R61 : Int32 → cs → Prop} {R74 : Int32 → Int32 → cs → Prop} {R87 : Int32 → Int32 → Int32 → cs → Prop} {K : cs → Prop} {T : Nat → cs → Prop} (h : b_B_take_87 U u x1 x2 x3 S R61 R74 R87 K T) {Q : Prop} (k_R61 : ∀ (a0 : Int32) (a1 : cs), R61 a0 a1 → (∀ (R61' : Int32 → cs → Prop) (R74' : Int32 → Int32 → cs → Prop) (R87' : Int32 → Int32 → Int32 → cs → Prop) (K' : cs → Prop) (T' : Nat → cs → Prop), b_B_take_87 U u x1 x2 x3 S R61' R74' R87' K' T' ↔ R61' a0 a1) → Q) (k_R74 : ∀ (a0 : Int32) (a1 : Int32) (a2 : cs), R74 a0 a1 a2 → (∀ (R61' : Int32 → cs → Prop) (R74' : Int32 → Int32 → cs → Prop) (R87' : Int32 → Int32 → Int32 → cs → Prop) (K' : cs → Prop) (T' : Nat → cs → Prop), b_B_take_87 U u x1 x2 x3 S R61' R74' R87' K' T' ↔ R74' a0 a1 a2) → Q) (k_R87 : ∀ (a0 : Int32) (a1 : Int32) (a2 : Int32) (a3 : cs), R87 a0 a1 a2 a3 → (∀ (R61' : Int32 → cs → Prop) (R74' : Int32 → Int32 → cs → Prop) (R87' : Int32 → Int32 → Int32 → cs → Prop) (K' : cs → Prop) (T' : Nat → cs → Prop), b_B_take_87 U u x1 x2 x3 S R61' R74' R87' K' T' ↔ R87' a0 a1 a2 a3) → Q) (k_K : ∀ (a0 : cs), K a0 → (∀ (R61' : Int32 → cs → Prop) (R74' : Int32 → Int32 → cs → Prop) (R87' : Int32 → Int32 → Int32 → cs → Prop) (K' : cs → Prop) (T' : Nat → cs → Prop), b_B_take_87 U u x1 x2 x3 S R61' R74' R87' K' T' ↔ K' a0) → Q) (k_T : ∀ (a0 : Nat) (a1 : cs), T a0 a1 → (∀ (R61' : Int32 → cs → Prop) (R74' : Int32 → Int32 → cs → Prop) (R87' : Int32 → Int32 → Int32 → cs → Prop) (K' : cs → Prop) (T' : Nat → cs → Prop), b_B_take_87 U u x1 x2 x3 S R61' R74' R87' K' T' ↔ T' a0 a1) → Q) : Q := by
  unfold b_B_take_87 at h
  refine dt_p (And.right (And.right h)) (fun c_1 h_2 => ?_) (fun c_1 h_2 => ?_)
  ·
    exact k_R74 _ _ _ h_2 (fun _ _ _ _ _ => Iff.trans (dt_a (And.left h)) (Iff.trans (dt_a (And.left (And.right h))) (dt_1 c_1 (fun n => n c_1))))
  ·
    refine d_p_B_spot (And.right (And.right (And.right h_2))) (fun v108 h_4 i_3 => ?_)
    refine d_p_Pi_colour (And.right h_4) (fun v118 S118 h_6 i_5 => ?_)
    exact k_R87 _ _ _ _ (And.right (And.right h_6)) (fun _ _ _ _ _ => Iff.trans (dt_a (And.left h)) (Iff.trans (dt_a (And.left (And.right h))) (Iff.trans (dt_2 c_1 c_1) (Iff.trans (dt_a (And.left h_2)) (Iff.trans (dt_a (And.left (And.right h_2))) (Iff.trans (dt_a (And.left (And.right (And.right h_2)))) (Iff.trans (i_3 _) (Iff.trans (dt_a (And.left h_4)) (Iff.trans (i_5 _) (Iff.trans (dt_a (And.left h_6)) (dt_a (And.left (And.right h_6)))))))))))))
theorem l_e_B_take_87 {U : ut} {u : Nat} {x1 : Int32} {x2 : Int32} {x3 : Int32} {S : cs} {R61 : Int32 → cs → Prop} {R74 : Int32 → Int32 → cs → Prop} {K : cs → Prop} {T : Nat → cs → Prop} : e_B_take_87 U u x1 x2 x3 S R61 R74 K T ↔ lpE (C := (Int32 → cs → Prop) × (Int32 → Int32 → cs → Prop) × (cs → Prop) × (Nat → cs → Prop)) (fun (y : (Int32) × (Int32) × (Int32) × (cs)) (R : ((Int32) × (Int32) × (Int32) × (cs)) → Prop) (c : (Int32 → cs → Prop) × (Int32 → Int32 → cs → Prop) × (cs → Prop) × (Nat → cs → Prop)) => b_B_take_87 U u y.1 y.2.1 y.2.2.1 y.2.2.2 c.1 c.2.1 (fun z0 z1 z2 z3 => R (z0, z1, z2, z3)) c.2.2.1 c.2.2.2) (x1, x2, x3, S) (R61, R74, K, T) :=
  ⟨fun ⟨I, μ, h0, hs⟩ => ⟨fun t => I t.1 t.2.1 t.2.2.1 t.2.2.2, fun t => μ t.1 t.2.1 t.2.2.1 t.2.2.2, h0, fun t ht => hs _ _ _ _ ht⟩, fun ⟨I, μ, h0, hs⟩ => ⟨fun y0 y1 y2 y3 => I (y0, y1, y2, y3), fun y0 y1 y2 y3 => μ (y0, y1, y2, y3), h0, fun y0 y1 y2 y3 hy => hs (y0, y1, y2, y3) hy⟩⟩
set_option maxHeartbeats 1000000 in
theorem d_e_B_take_87 {U : ut} {u : Nat} {x1 : Int32} {x2 : Int32} {x3 : Int32} {S : cs} {R61 : Int32 → cs → Prop} {R74 : Int32 → Int32 → cs → Prop} {K : cs → Prop} {T : Nat → cs → Prop} (h : e_B_take_87 U u x1 x2 x3 S R61 R74 K T) {Q : Prop} (k_R61 : ∀ (a0 : Int32) (a1 : cs), R61 a0 a1 → (∀ (R61' : Int32 → cs → Prop) (R74' : Int32 → Int32 → cs → Prop) (K' : cs → Prop) (T' : Nat → cs → Prop), e_B_take_87 U u x1 x2 x3 S R61' R74' K' T' ↔ R61' a0 a1) → Q) (k_R74 : ∀ (a0 : Int32) (a1 : Int32) (a2 : cs), R74 a0 a1 a2 → (∀ (R61' : Int32 → cs → Prop) (R74' : Int32 → Int32 → cs → Prop) (K' : cs → Prop) (T' : Nat → cs → Prop), e_B_take_87 U u x1 x2 x3 S R61' R74' K' T' ↔ R74' a0 a1 a2) → Q) (k_K : ∀ (a0 : cs), K a0 → (∀ (R61' : Int32 → cs → Prop) (R74' : Int32 → Int32 → cs → Prop) (K' : cs → Prop) (T' : Nat → cs → Prop), e_B_take_87 U u x1 x2 x3 S R61' R74' K' T' ↔ K' a0) → Q) (k_T : ∀ (a0 : Nat) (a1 : cs), T a0 a1 → (∀ (R61' : Int32 → cs → Prop) (R74' : Int32 → Int32 → cs → Prop) (K' : cs → Prop) (T' : Nat → cs → Prop), e_B_take_87 U u x1 x2 x3 S R61' R74' K' T' ↔ T' a0 a1) → Q) : Q := by
  obtain ⟨o, ho, hoc, hi⟩ := lp_det (C := (Int32 → cs → Prop) × (Int32 → Int32 → cs → Prop) × (cs → Prop) × (Nat → cs → Prop)) (b := (fun (y : (Int32) × (Int32) × (Int32) × (cs)) (R : ((Int32) × (Int32) × (Int32) × (cs)) → Prop) (c : (Int32 → cs → Prop) × (Int32 → Int32 → cs → Prop) × (cs → Prop) × (Nat → cs → Prop)) => b_B_take_87 U u y.1 y.2.1 y.2.2.1 y.2.2.2 c.1 c.2.1 (fun z0 z1 z2 z3 => R (z0, z1, z2, z3)) c.2.2.1 c.2.2.2)) (O := (fun (o : ((Int32 → cs → Prop) × (Int32 → Int32 → cs → Prop) × (cs → Prop) × (Nat → cs → Prop)) → Prop) => (∃ (a0 : Int32) (a1 : cs), o = fun c => c.1 a0 a1) ∨ (∃ (a0 : Int32) (a1 : Int32) (a2 : cs), o = fun c => c.2.1 a0 a1 a2) ∨ (∃ (a0 : cs), o = fun c => c.2.2.1 a0) ∨ (∃ (a0 : Nat) (a1 : cs), o = fun c => c.2.2.2 a0 a1))) (fun y R c hy => d_b_B_take_87 hy (fun a0 a1 ha ia => Or.inr ⟨(fun c => c.1 a0 a1), Or.inl ⟨a0, a1, rfl⟩, ha, fun R' c' => ia c'.1 c'.2.1 (fun z0 z1 z2 z3 => R' (z0, z1, z2, z3)) c'.2.2.1 c'.2.2.2⟩) (fun a0 a1 a2 ha ia => Or.inr ⟨(fun c => c.2.1 a0 a1 a2), Or.inr (Or.inl ⟨a0, a1, a2, rfl⟩), ha, fun R' c' => ia c'.1 c'.2.1 (fun z0 z1 z2 z3 => R' (z0, z1, z2, z3)) c'.2.2.1 c'.2.2.2⟩) (fun a0 a1 a2 a3 ha ia => Or.inl ⟨(a0, a1, a2, a3), ha, fun R' c' => ia c'.1 c'.2.1 (fun z0 z1 z2 z3 => R' (z0, z1, z2, z3)) c'.2.2.1 c'.2.2.2⟩) (fun a0 ha ia => Or.inr ⟨(fun c => c.2.2.1 a0), Or.inr (Or.inr (Or.inl ⟨a0, rfl⟩)), ha, fun R' c' => ia c'.1 c'.2.1 (fun z0 z1 z2 z3 => R' (z0, z1, z2, z3)) c'.2.2.1 c'.2.2.2⟩) (fun a0 a1 ha ia => Or.inr ⟨(fun c => c.2.2.2 a0 a1), Or.inr (Or.inr (Or.inr (⟨a0, a1, rfl⟩))), ha, fun R' c' => ia c'.1 c'.2.1 (fun z0 z1 z2 z3 => R' (z0, z1, z2, z3)) c'.2.2.1 c'.2.2.2⟩)) (l_e_B_take_87.mp h)
  rcases ho with ⟨a0, a1, rfl⟩ | ⟨a0, a1, a2, rfl⟩ | ⟨a0, rfl⟩ | ⟨a0, a1, rfl⟩
  · exact k_R61 _ _ hoc (fun R61' R74' K' T' => Iff.trans l_e_B_take_87 (hi (R61', R74', K', T')))
  · exact k_R74 _ _ _ hoc (fun R61' R74' K' T' => Iff.trans l_e_B_take_87 (hi (R61', R74', K', T')))
  · exact k_K _ hoc (fun R61' R74' K' T' => Iff.trans l_e_B_take_87 (hi (R61', R74', K', T')))
  · exact k_T _ _ hoc (fun R61' R74' K' T' => Iff.trans l_e_B_take_87 (hi (R61', R74', K', T')))
theorem v_e_B_take_87 {U : ut} {u : Nat} {x1 : Int32} {x2 : Int32} {x3 : Int32} {S : cs} {R61 : Int32 → cs → Prop} {R74 : Int32 → Int32 → cs → Prop} {K : cs → Prop} {T : Nat → cs → Prop} (h : e_B_take_87 U u x1 x2 x3 S R61 R74 K T) {G : Prop} (Inv : Int32 → cs → Prop) (h0 : Inv x3 S) (hs : ∀ (yx3 : Int32) (yS : cs) (R : Int32 → Int32 → Int32 → cs → Prop), Inv yx3 yS → b_B_take_87 U u x1 x2 yx3 yS R61 R74 R K T → (∃ (zx3 : Int32) (zS : cs), R x1 x2 zx3 zS ∧ Inv zx3 zS) ∨ G) : G := by
  obtain ⟨I, μ, i0, is⟩ := h
  have go : ∀ (n : Nat) (yx3 : Int32) (yS : cs), μ x1 x2 yx3 yS < n → I x1 x2 yx3 yS → Inv yx3 yS → G := by
    intro n
    induction n with
    | zero => intro yx3 yS hy; exact absurd hy (Nat.not_lt_zero _)
    | succ n ih =>
      intro yx3 yS hy hI hV
      rcases hs yx3 yS _ hV (is x1 x2 yx3 yS hI) with ⟨zx3, zS, ⟨hz, hm⟩, hv⟩ | g
      · exact ih zx3 zS (Nat.lt_of_lt_of_le hm (Nat.le_of_lt_succ hy)) hz hv
      · exact g
  exact go _ x3 S (Nat.lt_succ_self _) i0 h0
theorem r_e_B_take_87 {U : ut} {u : Nat} {x1 : Int32} {x2 : Int32} {x3 : Int32} {S : cs} {R61 : Int32 → cs → Prop} {R74 : Int32 → Int32 → cs → Prop} {K : cs → Prop} {T : Nat → cs → Prop} (h : e_B_take_87 U u x1 x2 x3 S R61 R74 K T) : b_B_take_87 U u x1 x2 x3 S R61 R74 (fun zx1 zx2 zx3 zS => e_B_take_87 U u zx1 zx2 zx3 zS R61 R74 K T) K T := by
  obtain ⟨I, μ, i0, is⟩ := h
  exact d_b_B_take_87 (is x1 x2 x3 S i0) (fun a0 a1 ha ia => (ia _ _ _ _ _).mpr ha) (fun a0 a1 a2 ha ia => (ia _ _ _ _ _).mpr ha) (fun a0 a1 a2 a3 ha ia => (ia _ _ _ _ _).mpr ⟨I, μ, ha.1, is⟩) (fun a0 ha ia => (ia _ _ _ _ _).mpr ha) (fun a0 a1 ha ia => (ia _ _ _ _ _).mpr ha)
set_option maxHeartbeats 1000000 in
theorem d_b_B_take_74 {U : ut} {u : Nat} {x1 : Int32} {x2 : Int32} {S : cs} {R61 : Int32 → cs → Prop} {R74 : Int32 → Int32 → cs → Prop} {K : cs → Prop} {T : Nat → cs → Prop} (h : b_B_take_74 U u x1 x2 S R61 R74 K T) {Q : Prop} (k_R61 : ∀ (a0 : Int32) (a1 : cs), R61 a0 a1 → (∀ (R61' : Int32 → cs → Prop) (R74' : Int32 → Int32 → cs → Prop) (K' : cs → Prop) (T' : Nat → cs → Prop), b_B_take_74 U u x1 x2 S R61' R74' K' T' ↔ R61' a0 a1) → Q) (k_R74 : ∀ (a0 : Int32) (a1 : Int32) (a2 : cs), R74 a0 a1 a2 → (∀ (R61' : Int32 → cs → Prop) (R74' : Int32 → Int32 → cs → Prop) (K' : cs → Prop) (T' : Nat → cs → Prop), b_B_take_74 U u x1 x2 S R61' R74' K' T' ↔ R74' a0 a1 a2) → Q) (k_K : ∀ (a0 : cs), K a0 → (∀ (R61' : Int32 → cs → Prop) (R74' : Int32 → Int32 → cs → Prop) (K' : cs → Prop) (T' : Nat → cs → Prop), b_B_take_74 U u x1 x2 S R61' R74' K' T' ↔ K' a0) → Q) (k_T : ∀ (a0 : Nat) (a1 : cs), T a0 a1 → (∀ (R61' : Int32 → cs → Prop) (R74' : Int32 → Int32 → cs → Prop) (K' : cs → Prop) (T' : Nat → cs → Prop), b_B_take_74 U u x1 x2 S R61' R74' K' T' ↔ T' a0 a1) → Q) : Q := by
  unfold b_B_take_74 at h
  refine dt_p (And.right (And.right h)) (fun c_1 h_2 => ?_) (fun c_1 h_2 => ?_)
  ·
    exact k_R61 _ _ h_2 (fun _ _ _ _ => Iff.trans (dt_a (And.left h)) (Iff.trans (dt_a (And.left (And.right h))) (dt_1 c_1 (fun n => n c_1))))
  ·
    exact d_e_B_take_87 h_2 (fun a0 a1 h_4 i_3 => k_R61 a0 a1 h_4 (fun _ _ _ _ => Iff.trans (dt_a (And.left h)) (Iff.trans (dt_a (And.left (And.right h))) (Iff.trans (dt_2 c_1 c_1) (i_3 _ _ _ _))))) (fun a0 a1 a2 h_6 i_5 => k_R74 a0 a1 a2 h_6 (fun _ _ _ _ => Iff.trans (dt_a (And.left h)) (Iff.trans (dt_a (And.left (And.right h))) (Iff.trans (dt_2 c_1 c_1) (i_5 _ _ _ _))))) (fun a0 h_8 i_7 => k_K a0 h_8 (fun _ _ _ _ => Iff.trans (dt_a (And.left h)) (Iff.trans (dt_a (And.left (And.right h))) (Iff.trans (dt_2 c_1 c_1) (i_7 _ _ _ _))))) (fun a0 a1 h_10 i_9 => k_T a0 a1 h_10 (fun _ _ _ _ => Iff.trans (dt_a (And.left h)) (Iff.trans (dt_a (And.left (And.right h))) (Iff.trans (dt_2 c_1 c_1) (i_9 _ _ _ _)))))
theorem l_e_B_take_74 {U : ut} {u : Nat} {x1 : Int32} {x2 : Int32} {S : cs} {R61 : Int32 → cs → Prop} {K : cs → Prop} {T : Nat → cs → Prop} : e_B_take_74 U u x1 x2 S R61 K T ↔ lpE (C := (Int32 → cs → Prop) × (cs → Prop) × (Nat → cs → Prop)) (fun (y : (Int32) × (Int32) × (cs)) (R : ((Int32) × (Int32) × (cs)) → Prop) (c : (Int32 → cs → Prop) × (cs → Prop) × (Nat → cs → Prop)) => b_B_take_74 U u y.1 y.2.1 y.2.2 c.1 (fun z0 z1 z2 => R (z0, z1, z2)) c.2.1 c.2.2) (x1, x2, S) (R61, K, T) :=
  ⟨fun ⟨I, μ, h0, hs⟩ => ⟨fun t => I t.1 t.2.1 t.2.2, fun t => μ t.1 t.2.1 t.2.2, h0, fun t ht => hs _ _ _ ht⟩, fun ⟨I, μ, h0, hs⟩ => ⟨fun y0 y1 y2 => I (y0, y1, y2), fun y0 y1 y2 => μ (y0, y1, y2), h0, fun y0 y1 y2 hy => hs (y0, y1, y2) hy⟩⟩
set_option maxHeartbeats 1000000 in
theorem d_e_B_take_74 {U : ut} {u : Nat} {x1 : Int32} {x2 : Int32} {S : cs} {R61 : Int32 → cs → Prop} {K : cs → Prop} {T : Nat → cs → Prop} (h : e_B_take_74 U u x1 x2 S R61 K T) {Q : Prop} (k_R61 : ∀ (a0 : Int32) (a1 : cs), R61 a0 a1 → (∀ (R61' : Int32 → cs → Prop) (K' : cs → Prop) (T' : Nat → cs → Prop), e_B_take_74 U u x1 x2 S R61' K' T' ↔ R61' a0 a1) → Q) (k_K : ∀ (a0 : cs), K a0 → (∀ (R61' : Int32 → cs → Prop) (K' : cs → Prop) (T' : Nat → cs → Prop), e_B_take_74 U u x1 x2 S R61' K' T' ↔ K' a0) → Q) (k_T : ∀ (a0 : Nat) (a1 : cs), T a0 a1 → (∀ (R61' : Int32 → cs → Prop) (K' : cs → Prop) (T' : Nat → cs → Prop), e_B_take_74 U u x1 x2 S R61' K' T' ↔ T' a0 a1) → Q) : Q := by
  obtain ⟨o, ho, hoc, hi⟩ := lp_det (C := (Int32 → cs → Prop) × (cs → Prop) × (Nat → cs → Prop)) (b := (fun (y : (Int32) × (Int32) × (cs)) (R : ((Int32) × (Int32) × (cs)) → Prop) (c : (Int32 → cs → Prop) × (cs → Prop) × (Nat → cs → Prop)) => b_B_take_74 U u y.1 y.2.1 y.2.2 c.1 (fun z0 z1 z2 => R (z0, z1, z2)) c.2.1 c.2.2)) (O := (fun (o : ((Int32 → cs → Prop) × (cs → Prop) × (Nat → cs → Prop)) → Prop) => (∃ (a0 : Int32) (a1 : cs), o = fun c => c.1 a0 a1) ∨ (∃ (a0 : cs), o = fun c => c.2.1 a0) ∨ (∃ (a0 : Nat) (a1 : cs), o = fun c => c.2.2 a0 a1))) (fun y R c hy => d_b_B_take_74 hy (fun a0 a1 ha ia => Or.inr ⟨(fun c => c.1 a0 a1), Or.inl ⟨a0, a1, rfl⟩, ha, fun R' c' => ia c'.1 (fun z0 z1 z2 => R' (z0, z1, z2)) c'.2.1 c'.2.2⟩) (fun a0 a1 a2 ha ia => Or.inl ⟨(a0, a1, a2), ha, fun R' c' => ia c'.1 (fun z0 z1 z2 => R' (z0, z1, z2)) c'.2.1 c'.2.2⟩) (fun a0 ha ia => Or.inr ⟨(fun c => c.2.1 a0), Or.inr (Or.inl ⟨a0, rfl⟩), ha, fun R' c' => ia c'.1 (fun z0 z1 z2 => R' (z0, z1, z2)) c'.2.1 c'.2.2⟩) (fun a0 a1 ha ia => Or.inr ⟨(fun c => c.2.2 a0 a1), Or.inr (Or.inr (⟨a0, a1, rfl⟩)), ha, fun R' c' => ia c'.1 (fun z0 z1 z2 => R' (z0, z1, z2)) c'.2.1 c'.2.2⟩)) (l_e_B_take_74.mp h)
  rcases ho with ⟨a0, a1, rfl⟩ | ⟨a0, rfl⟩ | ⟨a0, a1, rfl⟩
  · exact k_R61 _ _ hoc (fun R61' K' T' => Iff.trans l_e_B_take_74 (hi (R61', K', T')))
  · exact k_K _ hoc (fun R61' K' T' => Iff.trans l_e_B_take_74 (hi (R61', K', T')))
  · exact k_T _ _ hoc (fun R61' K' T' => Iff.trans l_e_B_take_74 (hi (R61', K', T')))
theorem v_e_B_take_74 {U : ut} {u : Nat} {x1 : Int32} {x2 : Int32} {S : cs} {R61 : Int32 → cs → Prop} {K : cs → Prop} {T : Nat → cs → Prop} (h : e_B_take_74 U u x1 x2 S R61 K T) {G : Prop} (Inv : Int32 → cs → Prop) (h0 : Inv x2 S) (hs : ∀ (yx2 : Int32) (yS : cs) (R : Int32 → Int32 → cs → Prop), Inv yx2 yS → b_B_take_74 U u x1 yx2 yS R61 R K T → (∃ (zx2 : Int32) (zS : cs), R x1 zx2 zS ∧ Inv zx2 zS) ∨ G) : G := by
  obtain ⟨I, μ, i0, is⟩ := h
  have go : ∀ (n : Nat) (yx2 : Int32) (yS : cs), μ x1 yx2 yS < n → I x1 yx2 yS → Inv yx2 yS → G := by
    intro n
    induction n with
    | zero => intro yx2 yS hy; exact absurd hy (Nat.not_lt_zero _)
    | succ n ih =>
      intro yx2 yS hy hI hV
      rcases hs yx2 yS _ hV (is x1 yx2 yS hI) with ⟨zx2, zS, ⟨hz, hm⟩, hv⟩ | g
      · exact ih zx2 zS (Nat.lt_of_lt_of_le hm (Nat.le_of_lt_succ hy)) hz hv
      · exact g
  exact go _ x2 S (Nat.lt_succ_self _) i0 h0
theorem r_e_B_take_74 {U : ut} {u : Nat} {x1 : Int32} {x2 : Int32} {S : cs} {R61 : Int32 → cs → Prop} {K : cs → Prop} {T : Nat → cs → Prop} (h : e_B_take_74 U u x1 x2 S R61 K T) : b_B_take_74 U u x1 x2 S R61 (fun zx1 zx2 zS => e_B_take_74 U u zx1 zx2 zS R61 K T) K T := by
  obtain ⟨I, μ, i0, is⟩ := h
  exact d_b_B_take_74 (is x1 x2 S i0) (fun a0 a1 ha ia => (ia _ _ _ _).mpr ha) (fun a0 a1 a2 ha ia => (ia _ _ _ _).mpr ⟨I, μ, ha.1, is⟩) (fun a0 ha ia => (ia _ _ _ _).mpr ha) (fun a0 a1 ha ia => (ia _ _ _ _).mpr ha)
set_option maxHeartbeats 1000000 in
theorem d_b_B_take_61 {U : ut} {u : Nat} {x1 : Int32} {S : cs} {R61 : Int32 → cs → Prop} {K : cs → Prop} {T : Nat → cs → Prop} (h : b_B_take_61 U u x1 S R61 K T) {Q : Prop} (k_R61 : ∀ (a0 : Int32) (a1 : cs), R61 a0 a1 → (∀ (R61' : Int32 → cs → Prop) (K' : cs → Prop) (T' : Nat → cs → Prop), b_B_take_61 U u x1 S R61' K' T' ↔ R61' a0 a1) → Q) (k_K : ∀ (a0 : cs), K a0 → (∀ (R61' : Int32 → cs → Prop) (K' : cs → Prop) (T' : Nat → cs → Prop), b_B_take_61 U u x1 S R61' K' T' ↔ K' a0) → Q) (k_T : ∀ (a0 : Nat) (a1 : cs), T a0 a1 → (∀ (R61' : Int32 → cs → Prop) (K' : cs → Prop) (T' : Nat → cs → Prop), b_B_take_61 U u x1 S R61' K' T' ↔ T' a0 a1) → Q) : Q := by
  unfold b_B_take_61 at h
  refine dt_p (And.right (And.right h)) (fun c_1 h_2 => ?_) (fun c_1 h_2 => ?_)
  ·
    exact k_K _ h_2 (fun _ _ _ => Iff.trans (dt_a (And.left h)) (Iff.trans (dt_a (And.left (And.right h))) (dt_1 c_1 (fun n => n c_1))))
  ·
    exact d_e_B_take_74 h_2 (fun a0 a1 h_4 i_3 => k_R61 a0 a1 h_4 (fun _ _ _ => Iff.trans (dt_a (And.left h)) (Iff.trans (dt_a (And.left (And.right h))) (Iff.trans (dt_2 c_1 c_1) (i_3 _ _ _))))) (fun a0 h_6 i_5 => k_K a0 h_6 (fun _ _ _ => Iff.trans (dt_a (And.left h)) (Iff.trans (dt_a (And.left (And.right h))) (Iff.trans (dt_2 c_1 c_1) (i_5 _ _ _))))) (fun a0 a1 h_8 i_7 => k_T a0 a1 h_8 (fun _ _ _ => Iff.trans (dt_a (And.left h)) (Iff.trans (dt_a (And.left (And.right h))) (Iff.trans (dt_2 c_1 c_1) (i_7 _ _ _)))))
theorem l_e_B_take_61 {U : ut} {u : Nat} {x1 : Int32} {S : cs} {K : cs → Prop} {T : Nat → cs → Prop} : e_B_take_61 U u x1 S K T ↔ lpE (C := (cs → Prop) × (Nat → cs → Prop)) (fun (y : (Int32) × (cs)) (R : ((Int32) × (cs)) → Prop) (c : (cs → Prop) × (Nat → cs → Prop)) => b_B_take_61 U u y.1 y.2 (fun z0 z1 => R (z0, z1)) c.1 c.2) (x1, S) (K, T) :=
  ⟨fun ⟨I, μ, h0, hs⟩ => ⟨fun t => I t.1 t.2, fun t => μ t.1 t.2, h0, fun t ht => hs _ _ ht⟩, fun ⟨I, μ, h0, hs⟩ => ⟨fun y0 y1 => I (y0, y1), fun y0 y1 => μ (y0, y1), h0, fun y0 y1 hy => hs (y0, y1) hy⟩⟩
set_option maxHeartbeats 1000000 in
theorem d_e_B_take_61 {U : ut} {u : Nat} {x1 : Int32} {S : cs} {K : cs → Prop} {T : Nat → cs → Prop} (h : e_B_take_61 U u x1 S K T) {Q : Prop} (k_K : ∀ (a0 : cs), K a0 → (∀ (K' : cs → Prop) (T' : Nat → cs → Prop), e_B_take_61 U u x1 S K' T' ↔ K' a0) → Q) (k_T : ∀ (a0 : Nat) (a1 : cs), T a0 a1 → (∀ (K' : cs → Prop) (T' : Nat → cs → Prop), e_B_take_61 U u x1 S K' T' ↔ T' a0 a1) → Q) : Q := by
  obtain ⟨o, ho, hoc, hi⟩ := lp_det (C := (cs → Prop) × (Nat → cs → Prop)) (b := (fun (y : (Int32) × (cs)) (R : ((Int32) × (cs)) → Prop) (c : (cs → Prop) × (Nat → cs → Prop)) => b_B_take_61 U u y.1 y.2 (fun z0 z1 => R (z0, z1)) c.1 c.2)) (O := (fun (o : ((cs → Prop) × (Nat → cs → Prop)) → Prop) => (∃ (a0 : cs), o = fun c => c.1 a0) ∨ (∃ (a0 : Nat) (a1 : cs), o = fun c => c.2 a0 a1))) (fun y R c hy => d_b_B_take_61 hy (fun a0 a1 ha ia => Or.inl ⟨(a0, a1), ha, fun R' c' => ia (fun z0 z1 => R' (z0, z1)) c'.1 c'.2⟩) (fun a0 ha ia => Or.inr ⟨(fun c => c.1 a0), Or.inl ⟨a0, rfl⟩, ha, fun R' c' => ia (fun z0 z1 => R' (z0, z1)) c'.1 c'.2⟩) (fun a0 a1 ha ia => Or.inr ⟨(fun c => c.2 a0 a1), Or.inr (⟨a0, a1, rfl⟩), ha, fun R' c' => ia (fun z0 z1 => R' (z0, z1)) c'.1 c'.2⟩)) (l_e_B_take_61.mp h)
  rcases ho with ⟨a0, rfl⟩ | ⟨a0, a1, rfl⟩
  · exact k_K _ hoc (fun K' T' => Iff.trans l_e_B_take_61 (hi (K', T')))
  · exact k_T _ _ hoc (fun K' T' => Iff.trans l_e_B_take_61 (hi (K', T')))
theorem v_e_B_take_61 {U : ut} {u : Nat} {x1 : Int32} {S : cs} {K : cs → Prop} {T : Nat → cs → Prop} (h : e_B_take_61 U u x1 S K T) {G : Prop} (Inv : Int32 → cs → Prop) (h0 : Inv x1 S) (hs : ∀ (yx1 : Int32) (yS : cs) (R : Int32 → cs → Prop), Inv yx1 yS → b_B_take_61 U u yx1 yS R K T → (∃ (zx1 : Int32) (zS : cs), R zx1 zS ∧ Inv zx1 zS) ∨ G) : G := by
  obtain ⟨I, μ, i0, is⟩ := h
  have go : ∀ (n : Nat) (yx1 : Int32) (yS : cs), μ yx1 yS < n → I yx1 yS → Inv yx1 yS → G := by
    intro n
    induction n with
    | zero => intro yx1 yS hy; exact absurd hy (Nat.not_lt_zero _)
    | succ n ih =>
      intro yx1 yS hy hI hV
      rcases hs yx1 yS _ hV (is yx1 yS hI) with ⟨zx1, zS, ⟨hz, hm⟩, hv⟩ | g
      · exact ih zx1 zS (Nat.lt_of_lt_of_le hm (Nat.le_of_lt_succ hy)) hz hv
      · exact g
  exact go _ x1 S (Nat.lt_succ_self _) i0 h0
theorem r_e_B_take_61 {U : ut} {u : Nat} {x1 : Int32} {S : cs} {K : cs → Prop} {T : Nat → cs → Prop} (h : e_B_take_61 U u x1 S K T) : b_B_take_61 U u x1 S (fun zx1 zS => e_B_take_61 U u zx1 zS K T) K T := by
  obtain ⟨I, μ, i0, is⟩ := h
  exact d_b_B_take_61 (is x1 S i0) (fun a0 a1 ha ia => (ia _ _ _).mpr ⟨I, μ, ha.1, is⟩) (fun a0 ha ia => (ia _ _ _).mpr ha) (fun a0 a1 ha ia => (ia _ _ _).mpr ha)
set_option maxHeartbeats 1000000 in
theorem d_p_B_take {U : ut} {u : Nat} {S : cs} {K : cs → Prop} {T : Nat → cs → Prop} (h : p_B_take U u S K T) {Q : Prop} (k_K : ∀ (a0 : cs), K a0 → (∀ (K' : cs → Prop) (T' : Nat → cs → Prop), p_B_take U u S K' T' ↔ K' a0) → Q) (k_T : ∀ (a0 : Nat) (a1 : cs), T a0 a1 → (∀ (K' : cs → Prop) (T' : Nat → cs → Prop), p_B_take U u S K' T' ↔ T' a0 a1) → Q) : Q := by
  unfold p_B_take at h
  refine dt_n (And.right (And.right h)) (fun c_1 h_2 => ?_) (fun c_1 h_2 => ?_)
  ·
    refine d_p_Pi_draw (And.right (And.right h_2)) (fun S28 h_4 i_3 => ?_)
    refine d_p_Ca_begin (And.right (And.right (And.right (And.right (And.right (And.right h_4)))))) (fun S56 h_6 i_5 => ?_)
    exact d_e_B_take_61 h_6 (fun a0 h_8 i_7 => k_K a0 h_8 (fun _ _ => Iff.trans (dt_a (And.left h)) (Iff.trans (dt_a (And.left (And.right h))) (Iff.trans (dt_1 c_1 c_1) (Iff.trans (dt_a (And.left h_2)) (Iff.trans (dt_a (And.left (And.right h_2))) (Iff.trans (i_3 _) (Iff.trans (dt_a (And.left h_4)) (Iff.trans (dt_a (And.left (And.right h_4))) (Iff.trans (dt_a (And.left (And.right (And.right h_4)))) (Iff.trans (dt_a (And.left (And.right (And.right (And.right h_4))))) (Iff.trans (dt_a (And.left (And.right (And.right (And.right (And.right h_4)))))) (Iff.trans (dt_a (And.left (And.right (And.right (And.right (And.right (And.right h_4))))))) (Iff.trans (i_5 _) (i_7 _ _))))))))))))))) (fun a0 a1 h_10 i_9 => k_T a0 a1 h_10 (fun _ _ => Iff.trans (dt_a (And.left h)) (Iff.trans (dt_a (And.left (And.right h))) (Iff.trans (dt_1 c_1 c_1) (Iff.trans (dt_a (And.left h_2)) (Iff.trans (dt_a (And.left (And.right h_2))) (Iff.trans (i_3 _) (Iff.trans (dt_a (And.left h_4)) (Iff.trans (dt_a (And.left (And.right h_4))) (Iff.trans (dt_a (And.left (And.right (And.right h_4)))) (Iff.trans (dt_a (And.left (And.right (And.right (And.right h_4))))) (Iff.trans (dt_a (And.left (And.right (And.right (And.right (And.right h_4)))))) (Iff.trans (dt_a (And.left (And.right (And.right (And.right (And.right (And.right h_4))))))) (Iff.trans (i_5 _) (i_9 _ _)))))))))))))))
  ·
    exact k_T _ _ h_2 (fun _ _ => Iff.trans (dt_a (And.left h)) (Iff.trans (dt_a (And.left (And.right h))) (dt_2 (fun n => n c_1) c_1)))
set_option maxHeartbeats 1000000 in
theorem d_b_Wa_wave_38 {s0 : Int32} {K : Int32 → Prop} (h : b_Wa_wave_38 s0 K) {Q : Prop} (k_K : ∀ (a0 : Int32), K a0 → (∀ (K' : Int32 → Prop), b_Wa_wave_38 s0 K' ↔ K' a0) → Q) : Q := by
  unfold b_Wa_wave_38 at h
  exact k_K _ h (fun _ => Iff.rfl)
set_option maxHeartbeats 1000000 in
theorem d_b_Wa_wave_14 {s0 : Int32} {K : Int32 → Prop} (h : b_Wa_wave_14 s0 K) {Q : Prop} (k_K : ∀ (a0 : Int32), K a0 → (∀ (K' : Int32 → Prop), b_Wa_wave_14 s0 K' ↔ K' a0) → Q) : Q := by
  unfold b_Wa_wave_14 at h
  refine dt_p h (fun c_1 h_2 => ?_) (fun c_1 h_2 => ?_)
  ·
    exact d_b_Wa_wave_38 (And.right h_2) (fun a0 h_4 i_3 => k_K a0 h_4 (fun _ => Iff.trans (dt_1 c_1 (fun n => n c_1)) (Iff.trans (dt_a (And.left h_2)) (i_3 _))))
  ·
    exact d_b_Wa_wave_38 (And.right h_2) (fun a0 h_6 i_5 => k_K a0 h_6 (fun _ => Iff.trans (dt_2 c_1 c_1) (Iff.trans (dt_a (And.left h_2)) (i_5 _))))
set_option maxHeartbeats 1000000 in
theorem d_p_Wa_wave {x0 : Int32} {K : Int32 → Prop} (h : p_Wa_wave x0 K) {Q : Prop} (k_K : ∀ (a0 : Int32), K a0 → (∀ (K' : Int32 → Prop), p_Wa_wave x0 K' ↔ K' a0) → Q) : Q := by
  unfold p_Wa_wave at h
  refine dt_p h (fun c_1 h_2 => ?_) (fun c_1 h_2 => ?_)
  ·
    exact d_b_Wa_wave_14 h_2 (fun a0 h_4 i_3 => k_K a0 h_4 (fun _ => Iff.trans (dt_1 c_1 (fun n => n c_1)) (i_3 _)))
  ·
    exact d_b_Wa_wave_14 h_2 (fun a0 h_6 i_5 => k_K a0 h_6 (fun _ => Iff.trans (dt_2 c_1 c_1) (i_5 _)))
set_option maxHeartbeats 1000000 in
theorem d_p_B_unpack {U : ut} {u : Nat} {S : cs} {K : Int32 → cs → Prop} (h : p_B_unpack U u S K) {Q : Prop} (k_K : ∀ (a0 : Int32) (a1 : cs), K a0 a1 → (∀ (K' : Int32 → cs → Prop), p_B_unpack U u S K' ↔ K' a0 a1) → Q) : Q := by
  unfold p_B_unpack at h
  refine d_p_Un_readRow (And.right (And.right h)) (fun S4 h_2 i_1 => ?_) (fun c9 S9 h_4 i_3 => ?_)
  ·
    refine d_p_Un_handOver (And.right (And.right (And.right h_2))) (fun v45 S45 h_6 i_5 => ?_)
    exact k_K _ _ (And.right h_6) (fun _ => Iff.trans (dt_a (And.left h)) (Iff.trans (dt_a (And.left (And.right h))) (Iff.trans (i_1 _ _) (Iff.trans (dt_a (And.left h_2)) (Iff.trans (dt_a (And.left (And.right h_2))) (Iff.trans (dt_a (And.left (And.right (And.right h_2)))) (Iff.trans (i_5 _) (dt_a (And.left h_6)))))))))
  ·
    exact k_K _ _ (And.right (And.right (And.right (And.right (And.right (And.right (And.right h_4))))))) (fun _ => Iff.trans (dt_a (And.left h)) (Iff.trans (dt_a (And.left (And.right h))) (Iff.trans (i_3 _ _) (Iff.trans (dt_a (And.left h_4)) (Iff.trans (dt_a (And.left (And.right h_4))) (Iff.trans (dt_a (And.left (And.right (And.right h_4)))) (Iff.trans (dt_a (And.left (And.right (And.right (And.right h_4))))) (Iff.trans (dt_a (And.left (And.right (And.right (And.right (And.right h_4)))))) (Iff.trans (dt_a (And.left (And.right (And.right (And.right (And.right (And.right h_4))))))) (dt_a (And.left (And.right (And.right (And.right (And.right (And.right (And.right h_4)))))))))))))))))
