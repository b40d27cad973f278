theorem l_e_Pa_writeBlock_80 {U : ut} {u : Nat} {x3 : Int32} {x5 : Nat} {x6 : Int32} {x7 : Int32} {S : cs} {K : cs → Prop} : e_Pa_writeBlock_80 U u x3 x5 x6 x7 S K ↔ lpE (C := (cs → Prop)) (fun (y : (Int32) × (Nat) × (Int32) × (Int32) × (cs)) (R : ((Int32) × (Nat) × (Int32) × (Int32) × (cs)) → Prop) (c : (cs → Prop)) => b_Pa_writeBlock_80 U u y.1 y.2.1 y.2.2.1 y.2.2.2.1 y.2.2.2.2 (fun z0 z1 z2 z3 z4 => R (z0, z1, z2, z3, z4)) c) (x3, x5, x6, x7, S) K :=
  ⟨fun ⟨I, μ, h0, hs⟩ => ⟨fun t => I t.1 t.2.1 t.2.2.1 t.2.2.2.1 t.2.2.2.2, fun t => μ t.1 t.2.1 t.2.2.1 t.2.2.2.1 t.2.2.2.2, h0, fun t ht => hs _ _ _ _ _ ht⟩, fun ⟨I, μ, h0, hs⟩ => ⟨fun y0 y1 y2 y3 y4 => I (y0, y1, y2, y3, y4), fun y0 y1 y2 y3 y4 => μ (y0, y1, y2, y3, y4), h0, fun y0 y1 y2 y3 y4 hy => hs (y0, y1, y2, y3, y4) hy⟩⟩
set_option maxHeartbeats 1000000 in
theorem d_e_Pa_writeBlock_80 {U : ut} {u : Nat} {x3 : Int32} {x5 : Nat} {x6 : Int32} {x7 : Int32} {S : cs} {K : cs → Prop} (h : e_Pa_writeBlock_80 U u x3 x5 x6 x7 S K) {Q : Prop} (k_K : ∀ (a0 : cs), K a0 → (∀ (K' : cs → Prop), e_Pa_writeBlock_80 U u x3 x5 x6 x7 S K' ↔ K' a0) → Q) : Q := by
  obtain ⟨o, ho, hoc, hi⟩ := lp_det (C := (cs → Prop)) (b := (fun (y : (Int32) × (Nat) × (Int32) × (Int32) × (cs)) (R : ((Int32) × (Nat) × (Int32) × (Int32) × (cs)) → Prop) (c : (cs → Prop)) => b_Pa_writeBlock_80 U u y.1 y.2.1 y.2.2.1 y.2.2.2.1 y.2.2.2.2 (fun z0 z1 z2 z3 z4 => R (z0, z1, z2, z3, z4)) c)) (O := (fun (o : ((cs → Prop)) → Prop) => (∃ (a0 : cs), o = fun c => c a0))) (fun y R c hy => d_b_Pa_writeBlock_80 hy (fun a0 a1 a2 a3 a4 ha ia => Or.inl ⟨(a0, a1, a2, a3, a4), ha, fun R' c' => ia (fun z0 z1 z2 z3 z4 => R' (z0, z1, z2, z3, z4)) c'⟩) (fun a0 ha ia => Or.inr ⟨(fun c => c a0), ⟨a0, rfl⟩, ha, fun R' c' => ia (fun z0 z1 z2 z3 z4 => R' (z0, z1, z2, z3, z4)) c'⟩)) (l_e_Pa_writeBlock_80.mp h)
  rcases ho with ⟨a0, rfl⟩
  · exact k_K _ hoc (fun K' => Iff.trans l_e_Pa_writeBlock_80 (hi K'))
theorem v_e_Pa_writeBlock_80 {U : ut} {u : Nat} {x3 : Int32} {x5 : Nat} {x6 : Int32} {x7 : Int32} {S : cs} {K : cs → Prop} (h : e_Pa_writeBlock_80 U u x3 x5 x6 x7 S K) {G : Prop} (Inv : Int32 → Int32 → cs → Prop) (h0 : Inv x6 x7 S) (hs : ∀ (yx6 : Int32) (yx7 : Int32) (yS : cs) (R : Int32 → Nat → Int32 → Int32 → cs → Prop), Inv yx6 yx7 yS → b_Pa_writeBlock_80 U u x3 x5 yx6 yx7 yS R K → (∃ (zx6 : Int32) (zx7 : Int32) (zS : cs), R x3 x5 zx6 zx7 zS ∧ Inv zx6 zx7 zS) ∨ G) : G := by
  obtain ⟨I, μ, i0, is⟩ := h
  have go : ∀ (n : Nat) (yx6 : Int32) (yx7 : Int32) (yS : cs), μ x3 x5 yx6 yx7 yS < n → I x3 x5 yx6 yx7 yS → Inv yx6 yx7 yS → G := by
    intro n
    induction n with
    | zero => intro yx6 yx7 yS hy; exact absurd hy (Nat.not_lt_zero _)
    | succ n ih =>
      intro yx6 yx7 yS hy hI hV
      rcases hs yx6 yx7 yS _ hV (is x3 x5 yx6 yx7 yS hI) with ⟨zx6, zx7, zS, ⟨hz, hm⟩, hv⟩ | g
      · exact ih zx6 zx7 zS (Nat.lt_of_lt_of_le hm (Nat.le_of_lt_succ hy)) hz hv
      · exact g
  exact go _ x6 x7 S (Nat.lt_succ_self _) i0 h0
theorem r_e_Pa_writeBlock_80 {U : ut} {u : Nat} {x3 : Int32} {x5 : Nat} {x6 : Int32} {x7 : Int32} {S : cs} {K : cs → Prop} (h : e_Pa_writeBlock_80 U u x3 x5 x6 x7 S K) : b_Pa_writeBlock_80 U u x3 x5 x6 x7 S (fun zx3 zx5 zx6 zx7 zS => e_Pa_writeBlock_80 U u zx3 zx5 zx6 zx7 zS K) K := by
  obtain ⟨I, μ, i0, is⟩ := h
  exact d_b_Pa_writeBlock_80 (is x3 x5 x6 x7 S i0) (fun a0 a1 a2 a3 a4 ha ia => (ia _ _).mpr ⟨I, μ, ha.1, is⟩) (fun a0 ha ia => (ia _ _).mpr ha)
set_option maxHeartbeats 1000000 in
theorem d_p_Pa_writeBlock {U : ut} {u : Nat} {x1 : Int32} {S : cs} {K : cs → Prop} (h : p_Pa_writeBlock U u x1 S K) {Q : Prop} (k_K : ∀ (a0 : cs), K a0 → (∀ (K' : cs → Prop), p_Pa_writeBlock U u x1 S K' ↔ K' a0) → Q) : Q := by
  unfold p_Pa_writeBlock at h
  refine d_p_Pa_kindOf (And.right (And.right (And.right (And.right (And.right (And.right (And.right (And.right (And.right (And.right (And.right (And.right (And.right (And.right h)))))))))))))) (fun v49 h_2 i_1 => ?_)
  refine d_p_Pa_bitsOf (And.right (And.right (And.right h_2))) (fun v55 h_4 i_3 => ?_)
  refine d_p_Pa_writeSymbol h_4 (fun S60 h_6 i_5 => ?_)
  refine d_p_Pa_kindOf (And.right h_6) (fun v68 h_8 i_7 => ?_)
  exact d_e_Pa_writeBlock_80 (And.right (And.right (And.right h_8))) (fun a0 h_10 i_9 => k_K a0 h_10 (fun _ => Iff.trans (dt_a (And.left h)) (Iff.trans (dt_a (And.left (And.right h))) (Iff.trans (dt_a (And.left (And.right (And.right h)))) (Iff.trans (dt_a (And.left (And.right (And.right (And.right h))))) (Iff.trans (dt_a (And.left (And.right (And.right (And.right (And.right h)))))) (Iff.trans (dt_a (And.left (And.right (And.right (And.right (And.right (And.right h))))))) (Iff.trans (dt_a (And.left (And.right (And.right (And.right (And.right (And.right (And.right h)))))))) (Iff.trans (dt_a (And.left (And.right (And.right (And.right (And.right (And.right (And.right (And.right h))))))))) (Iff.trans (dt_a (And.left (And.right (And.right (And.right (And.right (And.right (And.right (And.right (And.right h)))))))))) (Iff.trans (dt_a (And.left (And.right (And.right (And.right (And.right (And.right (And.right (And.right (And.right (And.right h))))))))))) (Iff.trans (dt_a (And.left (And.right (And.right (And.right (And.right (And.right (And.right (And.right (And.right (And.right (And.right h)))))))))))) (Iff.trans (dt_a (And.left (And.right (And.right (And.right (And.right (And.right (And.right (And.right (And.right (And.right (And.right (And.right h))))))))))))) (Iff.trans (dt_a (And.left (And.right (And.right (And.right (And.right (And.right (And.right (And.right (And.right (And.right (And.right (And.right (And.right h)))))))))))))) (Iff.trans (dt_a (And.left (And.right (And.right (And.right (And.right (And.right (And.right (And.right (And.right (And.right (And.right (And.right (And.right (And.right h))))))))))))))) (Iff.trans (i_1 _) (Iff.trans (dt_a (And.left h_2)) (Iff.trans (dt_a (And.left (And.right h_2))) (Iff.trans (dt_a (And.left (And.right (And.right h_2)))) (Iff.trans (i_3 _) (Iff.trans (i_5 _) (Iff.trans (dt_a (And.left h_6)) (Iff.trans (i_7 _) (Iff.trans (dt_a (And.left h_8)) (Iff.trans (dt_a (And.left (And.right h_8))) (Iff.trans (dt_a (And.left (And.right (And.right h_8)))) (i_9 _)))))))))))))))))))))))))))
set_option maxHeartbeats 1000000 in
theorem d_b_Pa_writeData_55 {U : ut} {u : Nat} {x1 : Int32} {x2 : Int32} {x3 : Int32} {x4 : Int32} {S : cs} {R12 : Int32 → Int32 → Int32 → cs → Prop} {R55 : Int32 → Int32 → Int32 → Int32 → cs → Prop} {K : cs → Prop} (h : b_Pa_writeData_55 U u x1 x2 x3 x4 S R12 R55 K) {Q : Prop} (k_R12 : ∀ (a0 : Int32) (a1 : Int32) (a2 : Int32) (a3 : cs), R12 a0 a1 a2 a3 → (∀ (R12' : Int32 → Int32 → Int32 → cs → Prop) (R55' : Int32 → Int32 → Int32 → Int32 → cs → Prop) (K' : cs → Prop), b_Pa_writeData_55 U u x1 x2 x3 x4 S R12' R55' K' ↔ R12' a0 a1 a2 a3) → Q) (k_R55 : ∀ (a0 : Int32) (a1 : Int32) (a2 : Int32) (a3 : Int32) (a4 : cs), R55 a0 a1 a2 a3 a4 → (∀ (R12' : Int32 → Int32 → Int32 → cs → Prop) (R55' : Int32 → Int32 → Int32 → Int32 → cs → Prop) (K' : cs → Prop), b_Pa_writeData_55 U u x1 x2 x3 x4 S R12' R55' K' ↔ R55' a0 a1 a2 a3 a4) → Q) (k_K : ∀ (a0 : cs), K a0 → (∀ (R12' : Int32 → Int32 → Int32 → cs → Prop) (R55' : Int32 → Int32 → Int32 → Int32 → cs → Prop) (K' : cs → Prop), b_Pa_writeData_55 U u x1 x2 x3 x4 S R12' R55' K' ↔ K' a0) → Q) : Q := by
  unfold b_Pa_writeData_55 at h
  refine dt_p (And.right (And.right h)) (fun c_1 h_2 => ?_) (fun c_1 h_2 => ?_)
  ·
    exact k_R12 _ _ _ _ h_2 (fun _ _ _ => Iff.trans (dt_a (And.left h)) (Iff.trans (dt_a (And.left (And.right h))) (dt_1 c_1 (fun n => n c_1))))
  ·
    refine d_p_Pa_writeBlock (And.right (And.right (And.right (And.right (And.right h_2))))) (fun S88 h_4 i_3 => ?_)
    exact k_R55 _ _ _ _ _ h_4 (fun _ _ _ => Iff.trans (dt_a (And.left h)) (Iff.trans (dt_a (And.left (And.right h))) (Iff.trans (dt_2 c_1 c_1) (Iff.trans (dt_a (And.left h_2)) (Iff.trans (dt_a (And.left (And.right h_2))) (Iff.trans (dt_a (And.left (And.right (And.right h_2)))) (Iff.trans (dt_a (And.left (And.right (And.right (And.right h_2))))) (Iff.trans (dt_a (And.left (And.right (And.right (And.right (And.right h_2)))))) (i_3 _)))))))))
theorem l_e_Pa_writeData_55 {U : ut} {u : Nat} {x1 : Int32} {x2 : Int32} {x3 : Int32} {x4 : Int32} {S : cs} {R12 : Int32 → Int32 → Int32 → cs → Prop} {K : cs → Prop} : e_Pa_writeData_55 U u x1 x2 x3 x4 S R12 K ↔ lpE (C := (Int32 → Int32 → Int32 → cs → Prop) × (cs → Prop)) (fun (y : (Int32) × (Int32) × (Int32) × (Int32) × (cs)) (R : ((Int32) × (Int32) × (Int32) × (Int32) × (cs)) → Prop) (c : (Int32 → Int32 → Int32 → cs → Prop) × (cs → Prop)) => b_Pa_writeData_55 U u y.1 y.2.1 y.2.2.1 y.2.2.2.1 y.2.2.2.2 c.1 (fun z0 z1 z2 z3 z4 => R (z0, z1, z2, z3, z4)) c.2) (x1, x2, x3, x4, S) (R12, K) :=
  ⟨fun ⟨I, μ, h0, hs⟩ => ⟨fun t => I t.1 t.2.1 t.2.2.1 t.2.2.2.1 t.2.2.2.2, fun t => μ t.1 t.2.1 t.2.2.1 t.2.2.2.1 t.2.2.2.2, h0, fun t ht => hs _ _ _ _ _ ht⟩, fun ⟨I, μ, h0, hs⟩ => ⟨fun y0 y1 y2 y3 y4 => I (y0, y1, y2, y3, y4), fun y0 y1 y2 y3 y4 => μ (y0, y1, y2, y3, y4), h0, fun y0 y1 y2 y3 y4 hy => hs (y0, y1, y2, y3, y4) hy⟩⟩
set_option maxHeartbeats 1000000 in
theorem d_e_Pa_writeData_55 {U : ut} {u : Nat} {x1 : Int32} {x2 : Int32} {x3 : Int32} {x4 : Int32} {S : cs} {R12 : Int32 → Int32 → Int32 → cs → Prop} {K : cs → Prop} (h : e_Pa_writeData_55 U u x1 x2 x3 x4 S R12 K) {Q : Prop} (k_R12 : ∀ (a0 : Int32) (a1 : Int32) (a2 : Int32) (a3 : cs), R12 a0 a1 a2 a3 → (∀ (R12' : Int32 → Int32 → Int32 → cs → Prop) (K' : cs → Prop), e_Pa_writeData_55 U u x1 x2 x3 x4 S R12' K' ↔ R12' a0 a1 a2 a3) → Q) (k_K : ∀ (a0 : cs), K a0 → (∀ (R12' : Int32 → Int32 → Int32 → cs → Prop) (K' : cs → Prop), e_Pa_writeData_55 U u x1 x2 x3 x4 S R12' K' ↔ K' a0) → Q) : Q := by
  obtain ⟨o, ho, hoc, hi⟩ := lp_det (C := (Int32 → Int32 → Int32 → cs → Prop) × (cs → Prop)) (b := (fun (y : (Int32) × (Int32) × (Int32) × (Int32) × (cs)) (R : ((Int32) × (Int32) × (Int32) × (Int32) × (cs)) → Prop) (c : (Int32 → Int32 → Int32 → cs → Prop) × (cs → Prop)) => b_Pa_writeData_55 U u y.1 y.2.1 y.2.2.1 y.2.2.2.1 y.2.2.2.2 c.1 (fun z0 z1 z2 z3 z4 => R (z0, z1, z2, z3, z4)) c.2)) (O := (fun (o : ((Int32 → Int32 → Int32 → cs → Prop) × (cs → Prop)) → Prop) => (∃ (a0 : Int32) (a1 : Int32) (a2 : Int32) (a3 : cs), o = fun c => c.1 a0 a1 a2 a3) ∨ (∃ (a0 : cs), o = fun c => c.2 a0))) (fun y R c hy => d_b_Pa_writeData_55 hy (fun a0 a1 a2 a3 ha ia => Or.inr ⟨(fun c => c.1 a0 a1 a2 a3), Or.inl ⟨a0, a1, a2, a3, rfl⟩, ha, fun R' c' => ia c'.1 (fun z0 z1 z2 z3 z4 => R' (z0, z1, z2, z3, z4)) c'.2⟩) (fun a0 a1 a2 a3 a4 ha ia => Or.inl ⟨(a0, a1, a2, a3, a4), ha, fun R' c' => ia c'.1 (fun z0 z1 z2 z3 z4 => R' (z0, z1, z2, z3, z4)) c'.2⟩) (fun a0 ha ia => Or.inr ⟨(fun c => c.2 a0), Or.inr (⟨a0, rfl⟩), ha, fun R' c' => ia c'.1 (fun z0 z1 z2 z3 z4 => R' (z0, z1, z2, z3, z4)) c'.2⟩)) (l_e_Pa_writeData_55.mp h)
  rcases ho with ⟨a0, a1, a2, a3, rfl⟩ | ⟨a0, rfl⟩
  · exact k_R12 _ _ _ _ hoc (fun R12' K' => Iff.trans l_e_Pa_writeData_55 (hi (R12', K')))
  · exact k_K _ hoc (fun R12' K' => Iff.trans l_e_Pa_writeData_55 (hi (R12', K')))
theorem v_e_Pa_writeData_55 {U : ut} {u : Nat} {x1 : Int32} {x2 : Int32} {x3 : Int32} {x4 : Int32} {S : cs} {R12 : Int32 → Int32 → Int32 → cs → Prop} {K : cs → Prop} (h : e_Pa_writeData_55 U u x1 x2 x3 x4 S R12 K) {G : Prop} (Inv : Int32 → cs → Prop) (h0 : Inv x4 S) (hs : ∀ (yx4 : Int32) (yS : cs) (R : Int32 → Int32 → Int32 → Int32 → cs → Prop), Inv yx4 yS → b_Pa_writeData_55 U u x1 x2 x3 yx4 yS R12 R K → (∃ (zx4 : Int32) (zS : cs), R x1 x2 x3 zx4 zS ∧ Inv zx4 zS) ∨ G) : G := by
  obtain ⟨I, μ, i0, is⟩ := h
  have go : ∀ (n : Nat) (yx4 : Int32) (yS : cs), μ x1 x2 x3 yx4 yS < n → I x1 x2 x3 yx4 yS → Inv yx4 yS → G := by
    intro n
    induction n with
    | zero => intro yx4 yS hy; exact absurd hy (Nat.not_lt_zero _)
    | succ n ih =>
      intro yx4 yS hy hI hV
      rcases hs yx4 yS _ hV (is x1 x2 x3 yx4 yS hI) with ⟨zx4, zS, ⟨hz, hm⟩, hv⟩ | g
      · exact ih zx4 zS (Nat.lt_of_lt_of_le hm (Nat.le_of_lt_succ hy)) hz hv
      · exact g
  exact go _ x4 S (Nat.lt_succ_self _) i0 h0
theorem r_e_Pa_writeData_55 {U : ut} {u : Nat} {x1 : Int32} {x2 : Int32} {x3 : Int32} {x4 : Int32} {S : cs} {R12 : Int32 → Int32 → Int32 → cs → Prop} {K : cs → Prop} (h : e_Pa_writeData_55 U u x1 x2 x3 x4 S R12 K) : b_Pa_writeData_55 U u x1 x2 x3 x4 S R12 (fun zx1 zx2 zx3 zx4 zS => e_Pa_writeData_55 U u zx1 zx2 zx3 zx4 zS R12 K) K := by
  obtain ⟨I, μ, i0, is⟩ := h
  exact d_b_Pa_writeData_55 (is x1 x2 x3 x4 S i0) (fun a0 a1 a2 a3 ha ia => (ia _ _ _).mpr ha) (fun a0 a1 a2 a3 a4 ha ia => (ia _ _ _).mpr ⟨I, μ, ha.1, is⟩) (fun a0 ha ia => (ia _ _ _).mpr ha)
set_option maxHeartbeats 1000000 in
theorem d_b_Pa_writeData_52 {U : ut} {u : Nat} {x1 : Int32} {x2 : Int32} {x3 : Int32} {S : cs} {R12 : Int32 → Int32 → Int32 → cs → Prop} {K : cs → Prop} (h : b_Pa_writeData_52 U u x1 x2 x3 S R12 K) {Q : Prop} (k_R12 : ∀ (a0 : Int32) (a1 : Int32) (a2 : Int32) (a3 : cs), R12 a0 a1 a2 a3 → (∀ (R12' : Int32 → Int32 → Int32 → cs → Prop) (K' : cs → Prop), b_Pa_writeData_52 U u x1 x2 x3 S R12' K' ↔ R12' a0 a1 a2 a3) → Q) (k_K : ∀ (a0 : cs), K a0 → (∀ (R12' : Int32 → Int32 → Int32 → cs → Prop) (K' : cs → Prop), b_Pa_writeData_52 U u x1 x2 x3 S R12' K' ↔ K' a0) → Q) : Q := by
  unfold b_Pa_writeData_52 at h
  exact d_e_Pa_writeData_55 h (fun a0 a1 a2 a3 h_2 i_1 => k_R12 a0 a1 a2 a3 h_2 (fun _ _ => i_1 _ _)) (fun a0 h_4 i_3 => k_K a0 h_4 (fun _ _ => i_3 _ _))
set_option maxHeartbeats 1000000 in
theorem d_b_Pa_writeData_12 {U : ut} {u : Nat} {x1 : Int32} {x2 : Int32} {x3 : Int32} {S : cs} {R12 : Int32 → Int32 → Int32 → cs → Prop} {K : cs → Prop} (h : b_Pa_writeData_12 U u x1 x2 x3 S R12 K) {Q : Prop} (k_R12 : ∀ (a0 : Int32) (a1 : Int32) (a2 : Int32) (a3 : cs), R12 a0 a1 a2 a3 → (∀ (R12' : Int32 → Int32 → Int32 → cs → Prop) (K' : cs → Prop), b_Pa_writeData_12 U u x1 x2 x3 S R12' K' ↔ R12' a0 a1 a2 a3) → Q) (k_K : ∀ (a0 : cs), K a0 → (∀ (R12' : Int32 → Int32 → Int32 → cs → Prop) (K' : cs → Prop), b_Pa_writeData_12 U u x1 x2 x3 S R12' K' ↔ K' a0) → Q) : Q := by
  unfold b_Pa_writeData_12 at h
  refine dt_p (And.right (And.right h)) (fun c_1 h_2 => ?_) (fun c_1 h_2 => ?_)
  ·
    refine d_p_Pa_fillByte h_2 (fun S104 h_4 i_3 => ?_)
    exact k_K _ h_4 (fun _ _ => Iff.trans (dt_a (And.left h)) (Iff.trans (dt_a (And.left (And.right h))) (Iff.trans (dt_1 c_1 (fun n => n c_1)) (i_3 _))))
  ·
    refine dt_p h_2 (fun c_5 h_6 => ?_) (fun c_5 h_6 => ?_)
    ·
      exact d_b_Pa_writeData_52 h_6 (fun a0 a1 a2 a3 h_8 i_7 => k_R12 a0 a1 a2 a3 h_8 (fun _ _ => Iff.trans (dt_a (And.left h)) (Iff.trans (dt_a (And.left (And.right h))) (Iff.trans (dt_2 c_1 c_1) (Iff.trans (dt_1 c_5 (fun n => n c_5)) (i_7 _ _)))))) (fun a0 h_10 i_9 => k_K a0 h_10 (fun _ _ => Iff.trans (dt_a (And.left h)) (Iff.trans (dt_a (And.left (And.right h))) (Iff.trans (dt_2 c_1 c_1) (Iff.trans (dt_1 c_5 (fun n => n c_5)) (i_9 _ _))))))
    ·
      refine dt_p h_6 (fun c_11 h_12 => ?_) (fun c_11 h_12 => ?_)
      ·
        exact d_b_Pa_writeData_52 h_12 (fun a0 a1 a2 a3 h_14 i_13 => k_R12 a0 a1 a2 a3 h_14 (fun _ _ => Iff.trans (dt_a (And.left h)) (Iff.trans (dt_a (And.left (And.right h))) (Iff.trans (dt_2 c_1 c_1) (Iff.trans (dt_2 c_5 c_5) (Iff.trans (dt_1 c_11 (fun n => n c_11)) (i_13 _ _))))))) (fun a0 h_16 i_15 => k_K a0 h_16 (fun _ _ => Iff.trans (dt_a (And.left h)) (Iff.trans (dt_a (And.left (And.right h))) (Iff.trans (dt_2 c_1 c_1) (Iff.trans (dt_2 c_5 c_5) (Iff.trans (dt_1 c_11 (fun n => n c_11)) (i_15 _ _)))))))
      ·
        refine dt_n (And.right h_12) (fun c_17 h_18 => ?_) (fun c_17 h_18 => ?_)
        ·
          exact d_b_Pa_writeData_52 h_18 (fun a0 a1 a2 a3 h_20 i_19 => k_R12 a0 a1 a2 a3 h_20 (fun _ _ => Iff.trans (dt_a (And.left h)) (Iff.trans (dt_a (And.left (And.right h))) (Iff.trans (dt_2 c_1 c_1) (Iff.trans (dt_2 c_5 c_5) (Iff.trans (dt_2 c_11 c_11) (Iff.trans (dt_a (And.left h_12)) (Iff.trans (dt_1 c_17 c_17) (i_19 _ _))))))))) (fun a0 h_22 i_21 => k_K a0 h_22 (fun _ _ => Iff.trans (dt_a (And.left h)) (Iff.trans (dt_a (And.left (And.right h))) (Iff.trans (dt_2 c_1 c_1) (Iff.trans (dt_2 c_5 c_5) (Iff.trans (dt_2 c_11 c_11) (Iff.trans (dt_a (And.left h_12)) (Iff.trans (dt_1 c_17 c_17) (i_21 _ _)))))))))
        ·
          refine d_p_Pa_writeAgain h_18 (fun S46 h_24 i_23 => ?_)
          exact d_b_Pa_writeData_52 h_24 (fun a0 a1 a2 a3 h_26 i_25 => k_R12 a0 a1 a2 a3 h_26 (fun _ _ => Iff.trans (dt_a (And.left h)) (Iff.trans (dt_a (And.left (And.right h))) (Iff.trans (dt_2 c_1 c_1) (Iff.trans (dt_2 c_5 c_5) (Iff.trans (dt_2 c_11 c_11) (Iff.trans (dt_a (And.left h_12)) (Iff.trans (dt_2 (fun n => n c_17) c_17) (Iff.trans (i_23 _) (i_25 _ _)))))))))) (fun a0 h_28 i_27 => k_K a0 h_28 (fun _ _ => Iff.trans (dt_a (And.left h)) (Iff.trans (dt_a (And.left (And.right h))) (Iff.trans (dt_2 c_1 c_1) (Iff.trans (dt_2 c_5 c_5) (Iff.trans (dt_2 c_11 c_11) (Iff.trans (dt_a (And.left h_12)) (Iff.trans (dt_2 (fun n => n c_17) c_17) (Iff.trans (i_23 _) (i_27 _ _))))))))))
theorem l_e_Pa_writeData_12 {U : ut} {u : Nat} {x1 : Int32} {x2 : Int32} {x3 : Int32} {S : cs} {K : cs → Prop} : e_Pa_writeData_12 U u x1 x2 x3 S K ↔ lpE (C := (cs → Prop)) (fun (y : (Int32) × (Int32) × (Int32) × (cs)) (R : ((Int32) × (Int32) × (Int32) × (cs)) → Prop) (c : (cs → Prop)) => b_Pa_writeData_12 U u y.1 y.2.1 y.2.2.1 y.2.2.2 (fun z0 z1 z2 z3 => R (z0, z1, z2, z3)) c) (x1, x2, x3, S) K :=
  ⟨fun ⟨I, μ, h0, hs⟩ => ⟨fun t => I t.1 t.2.1 t.2.2.1 t.2.2.2, fun t => μ t.1 t.2.1 t.2.2.1 t.2.2.2, h0, fun t ht => hs _ _ _ _ ht⟩, fun ⟨I, μ, h0, hs⟩ => ⟨fun y0 y1 y2 y3 => I (y0, y1, y2, y3), fun y0 y1 y2 y3 => μ (y0, y1, y2, y3), h0, fun y0 y1 y2 y3 hy => hs (y0, y1, y2, y3) hy⟩⟩
set_option maxHeartbeats 1000000 in
theorem d_e_Pa_writeData_12 {U : ut} {u : Nat} {x1 : Int32} {x2 : Int32} {x3 : Int32} {S : cs} {K : cs → Prop} (h : e_Pa_writeData_12 U u x1 x2 x3 S K) {Q : Prop} (k_K : ∀ (a0 : cs), K a0 → (∀ (K' : cs → Prop), e_Pa_writeData_12 U u x1 x2 x3 S K' ↔ K' a0) → Q) : Q := by
  obtain ⟨o, ho, hoc, hi⟩ := lp_det (C := (cs → Prop)) (b := (fun (y : (Int32) × (Int32) × (Int32) × (cs)) (R : ((Int32) × (Int32) × (Int32) × (cs)) → Prop) (c : (cs → Prop)) => b_Pa_writeData_12 U u y.1 y.2.1 y.2.2.1 y.2.2.2 (fun z0 z1 z2 z3 => R (z0, z1, z2, z3)) c)) (O := (fun (o : ((cs → Prop)) → Prop) => (∃ (a0 : cs), o = fun c => c a0))) (fun y R c hy => d_b_Pa_writeData_12 hy (fun a0 a1 a2 a3 ha ia => Or.inl ⟨(a0, a1, a2, a3), ha, fun R' c' => ia (fun z0 z1 z2 z3 => R' (z0, z1, z2, z3)) c'⟩) (fun a0 ha ia => Or.inr ⟨(fun c => c a0), ⟨a0, rfl⟩, ha, fun R' c' => ia (fun z0 z1 z2 z3 => R' (z0, z1, z2, z3)) c'⟩)) (l_e_Pa_writeData_12.mp h)
  rcases ho with ⟨a0, rfl⟩
  · exact k_K _ hoc (fun K' => Iff.trans l_e_Pa_writeData_12 (hi K'))
theorem v_e_Pa_writeData_12 {U : ut} {u : Nat} {x1 : Int32} {x2 : Int32} {x3 : Int32} {S : cs} {K : cs → Prop} (h : e_Pa_writeData_12 U u x1 x2 x3 S K) {G : Prop} (Inv : Int32 → Int32 → cs → Prop) (h0 : Inv x2 x3 S) (hs : ∀ (yx2 : Int32) (yx3 : Int32) (yS : cs) (R : Int32 → Int32 → Int32 → cs → Prop), Inv yx2 yx3 yS → b_Pa_writeData_12 U u x1 yx2 yx3 yS R K → (∃ (zx2 : Int32) (zx3 : Int32) (zS : cs), R x1 zx2 zx3 zS ∧ Inv zx2 zx3 zS) ∨ G) : G := by
  obtain ⟨I, μ, i0, is⟩ := h
  have go : ∀ (n : Nat) (yx2 : Int32) (yx3 : Int32) (yS : cs), μ x1 yx2 yx3 yS < n → I x1 yx2 yx3 yS → Inv yx2 yx3 yS → G := by
    intro n
    induction n with
    | zero => intro yx2 yx3 yS hy; exact absurd hy (Nat.not_lt_zero _)
    | succ n ih =>
      intro yx2 yx3 yS hy hI hV
      rcases hs yx2 yx3 yS _ hV (is x1 yx2 yx3 yS hI) with ⟨zx2, zx3, zS, ⟨hz, hm⟩, hv⟩ | g
      · exact ih zx2 zx3 zS (Nat.lt_of_lt_of_le hm (Nat.le_of_lt_succ hy)) hz hv
      · exact g
  exact go _ x2 x3 S (Nat.lt_succ_self _) i0 h0
theorem r_e_Pa_writeData_12 {U : ut} {u : Nat} {x1 : Int32} {x2 : Int32} {x3 : Int32} {S : cs} {K : cs → Prop} (h : e_Pa_writeData_12 U u x1 x2 x3 S K) : b_Pa_writeData_12 U u x1 x2 x3 S (fun zx1 zx2 zx3 zS => e_Pa_writeData_12 U u zx1 zx2 zx3 zS K) K := by
  obtain ⟨I, μ, i0, is⟩ := h
  exact d_b_Pa_writeData_12 (is x1 x2 x3 S i0) (fun a0 a1 a2 a3 ha ia => (ia _ _).mpr ⟨I, μ, ha.1, is⟩) (fun a0 ha ia => (ia _ _).mpr ha)
set_option maxHeartbeats 1000000 in
theorem d_p_Pa_writeData {U : ut} {u : Nat} {x1 : Int32} {S : cs} {K : cs → Prop} (h : p_Pa_writeData U u x1 S K) {Q : Prop} (k_K : ∀ (a0 : cs), K a0 → (∀ (K' : cs → Prop), p_Pa_writeData U u x1 S K' ↔ K' a0) → Q) : Q := by
  unfold p_Pa_writeData at h
  refine d_p_Ar_fillI (And.right h) (fun S5 h_2 i_1 => ?_)
  exact d_e_Pa_writeData_12 h_2 (fun a0 h_4 i_3 => k_K a0 h_4 (fun _ => Iff.trans (dt_a (And.left h)) (Iff.trans (i_1 _) (i_3 _))))
set_option maxHeartbeats 1000000 in
theorem d_b_Li_sortSymbols_89 {U : ut} {u : Nat} {x1 : Nat} {x2 : Int32} {S : cs} {R7 : Nat → Int32 → cs → Prop} {K : cs → Prop} (h : b_Li_sortSymbols_89 U u x1 x2 S R7 K) {Q : Prop} (k_R7 : ∀ (a0 : Nat) (a1 : Int32) (a2 : cs), R7 a0 a1 a2 → (∀ (R7' : Nat → Int32 → cs → Prop) (K' : cs → Prop), b_Li_sortSymbols_89 U u x1 x2 S R7' K' ↔ R7' a0 a1 a2) → Q) (k_K : ∀ (a0 : cs), K a0 → (∀ (R7' : Nat → Int32 → cs → Prop) (K' : cs → Prop), b_Li_sortSymbols_89 U u x1 x2 S R7' K' ↔ K' a0) → Q) : Q := by
  unfold b_Li_sortSymbols_89 at h
  exact k_R7 _ _ _ h (fun _ _ => Iff.rfl)
set_option maxHeartbeats 1000000 in
theorem d_b_Li_sortSymbols_72 {U : ut} {u : Nat} {x1 : Nat} {x2 : Int32} {x3 : Int32} {S : cs} {R7 : Nat → Int32 → cs → Prop} {K : cs → Prop} (h : b_Li_sortSymbols_72 U u x1 x2 x3 S R7 K) {Q : Prop} (k_R7 : ∀ (a0 : Nat) (a1 : Int32) (a2 : cs), R7 a0 a1 a2 → (∀ (R7' : Nat → Int32 → cs → Prop) (K' : cs → Prop), b_Li_sortSymbols_72 U u x1 x2 x3 S R7' K' ↔ R7' a0 a1 a2) → Q) (k_K : ∀ (a0 : cs), K a0 → (∀ (R7' : Nat → Int32 → cs → Prop) (K' : cs → Prop), b_Li_sortSymbols_72 U u x1 x2 x3 S R7' K' ↔ K' a0) → Q) : Q := by
  unfold b_Li_sortSymbols_72 at h
  exact d_b_Li_sortSymbols_89 (And.right (And.right (And.right h))) (fun a0 a1 a2 h_2 i_1 => k_R7 a0 a1 a2 h_2 (fun _ _ => Iff.trans (dt_a (And.left h)) (Iff.trans (dt_a (And.left (And.right h))) (Iff.trans (dt_a (And.left (And.right (And.right h)))) (i_1 _ _))))) (fun a0 h_4 i_3 => k_K a0 h_4 (fun _ _ => Iff.trans (dt_a (And.left h)) (Iff.trans (dt_a (And.left (And.right h))) (Iff.trans (dt_a (And.left (And.right (And.right h)))) (i_3 _ _)))))
set_option maxHeartbeats 1000000 in
theorem d_b_Li_sortSymbols_32 {U : ut} {u : Nat} {x1 : Nat} {x2 : Int32} {x3 : Int32} {S : cs} {R7 : Nat → Int32 → cs → Prop} {R32 : Nat → Int32 → Int32 → cs → Prop} {K : cs → Prop} (h : b_Li_sortSymbols_32 U u x1 x2 x3 S R7 R32 K) {Q : Prop} (k_R7 : ∀ (a0 : Nat) (a1 : Int32) (a2 : cs), R7 a0 a1 a2 → (∀ (R7' : Nat → Int32 → cs → Prop) (R32' : Nat → Int32 → Int32 → cs → Prop) (K' : cs → Prop), b_Li_sortSymbols_32 U u x1 x2 x3 S R7' R32' K' ↔ R7' a0 a1 a2) → Q) (k_R32 : ∀ (a0 : Nat) (a1 : Int32) (a2 : Int32) (a3 : cs), R32 a0 a1 a2 a3 → (∀ (R7' : Nat → Int32 → cs → Prop) (R32' : Nat → Int32 → Int32 → cs → Prop) (K' : cs → Prop), b_Li_sortSymbols_32 U u x1 x2 x3 S R7' R32' K' ↔ R32' a0 a1 a2 a3) → Q) (k_K : ∀ (a0 : cs), K a0 → (∀ (R7' : Nat → Int32 → cs → Prop) (R32' : Nat → Int32 → Int32 → cs → Prop) (K' : cs → Prop), b_Li_sortSymbols_32 U u x1 x2 x3 S R7' R32' K' ↔ K' a0) → Q) : Q := by
  unfold b_Li_sortSymbols_32 at h
  refine dt_p h (fun c_1 h_2 => ?_) (fun c_1 h_2 => ?_)
  ·
    exact d_b_Li_sortSymbols_72 h_2 (fun a0 a1 a2 h_4 i_3 => k_R7 a0 a1 a2 h_4 (fun _ _ _ => Iff.trans (dt_1 c_1 (fun n => n c_1)) (i_3 _ _))) (fun a0 h_6 i_5 => k_K a0 h_6 (fun _ _ _ => Iff.trans (dt_1 c_1 (fun n => n c_1)) (i_5 _ _)))
  ·
    refine dt_p (And.right (And.right (And.right (And.right (And.right (And.right h_2)))))) (fun c_7 h_8 => ?_) (fun c_7 h_8 => ?_)
    ·
      exact d_b_Li_sortSymbols_72 h_8 (fun a0 a1 a2 h_10 i_9 => k_R7 a0 a1 a2 h_10 (fun _ _ _ => Iff.trans (dt_2 c_1 c_1) (Iff.trans (dt_a (And.left h_2)) (Iff.trans (dt_a (And.left (And.right h_2))) (Iff.trans (dt_a (And.left (And.right (And.right h_2)))) (Iff.trans (dt_a (And.left (And.right (And.right (And.right h_2))))) (Iff.trans (dt_a (And.left (And.right (And.right (And.right (And.right h_2)))))) (Iff.trans (dt_a (And.left (And.right (And.right (And.right (And.right (And.right h_2))))))) (Iff.trans (dt_1 c_7 (fun n => n c_7)) (i_9 _ _)))))))))) (fun a0 h_12 i_11 => k_K a0 h_12 (fun _ _ _ => Iff.trans (dt_2 c_1 c_1) (Iff.trans (dt_a (And.left h_2)) (Iff.trans (dt_a (And.left (And.right h_2))) (Iff.trans (dt_a (And.left (And.right (And.right h_2)))) (Iff.trans (dt_a (And.left (And.right (And.right (And.right h_2))))) (Iff.trans (dt_a (And.left (And.right (And.right (And.right (And.right h_2)))))) (Iff.trans (dt_a (And.left (And.right (And.right (And.right (And.right (And.right h_2))))))) (Iff.trans (dt_1 c_7 (fun n => n c_7)) (i_11 _ _))))))))))
    ·
      exact k_R32 _ _ _ _ (And.right (And.right (And.right (And.right h_8)))) (fun _ _ _ => Iff.trans (dt_2 c_1 c_1) (Iff.trans (dt_a (And.left h_2)) (Iff.trans (dt_a (And.left (And.right h_2))) (Iff.trans (dt_a (And.left (And.right (And.right h_2)))) (Iff.trans (dt_a (And.left (And.right (And.right (And.right h_2))))) (Iff.trans (dt_a (And.left (And.right (And.right (And.right (And.right h_2)))))) (Iff.trans (dt_a (And.left (And.right (And.right (And.right (And.right (And.right h_2))))))) (Iff.trans (dt_2 c_7 c_7) (Iff.trans (dt_a (And.left h_8)) (Iff.trans (dt_a (And.left (And.right h_8))) (Iff.trans (dt_a (And.left (And.right (And.right h_8)))) (dt_a (And.left (And.right (And.right (And.right h_8))))))))))))))))
theorem l_e_Li_sortSymbols_32 {U : ut} {u : Nat} {x1 : Nat} {x2 : Int32} {x3 : Int32} {S : cs} {R7 : Nat → Int32 → cs → Prop} {K : cs → Prop} : e_Li_sortSymbols_32 U u x1 x2 x3 S R7 K ↔ lpE (C := (Nat → Int32 → cs → Prop) × (cs → Prop)) (fun (y : (Nat) × (Int32) × (Int32) × (cs)) (R : ((Nat) × (Int32) × (Int32) × (cs)) → Prop) (c : (Nat → Int32 → cs → Prop) × (cs → Prop)) => b_Li_sortSymbols_32 U u y.1 y.2.1 y.2.2.1 y.2.2.2 c.1 (fun z0 z1 z2 z3 => R (z0, z1, z2, z3)) c.2) (x1, x2, x3, S) (R7, K) :=
  ⟨fun ⟨I, μ, h0, hs⟩ => ⟨fun t => I t.1 t.2.1 t.2.2.1 t.2.2.2, fun t => μ t.1 t.2.1 t.2.2.1 t.2.2.2, h0, fun t ht => hs _ _ _ _ ht⟩, fun ⟨I, μ, h0, hs⟩ => ⟨fun y0 y1 y2 y3 => I (y0, y1, y2, y3), fun y0 y1 y2 y3 => μ (y0, y1, y2, y3), h0, fun y0 y1 y2 y3 hy => hs (y0, y1, y2, y3) hy⟩⟩
set_option maxHeartbeats 1000000 in
theorem d_e_Li_sortSymbols_32 {U : ut} {u : Nat} {x1 : Nat} {x2 : Int32} {x3 : Int32} {S : cs} {R7 : Nat → Int32 → cs → Prop} {K : cs → Prop} (h : e_Li_sortSymbols_32 U u x1 x2 x3 S R7 K) {Q : Prop} (k_R7 : ∀ (a0 : Nat) (a1 : Int32) (a2 : cs), R7 a0 a1 a2 → (∀ (R7' : Nat → Int32 → cs → Prop) (K' : cs → Prop), e_Li_sortSymbols_32 U u x1 x2 x3 S R7' K' ↔ R7' a0 a1 a2) → Q) (k_K : ∀ (a0 : cs), K a0 → (∀ (R7' : Nat → Int32 → cs → Prop) (K' : cs → Prop), e_Li_sortSymbols_32 U u x1 x2 x3 S R7' K' ↔ K' a0) → Q) : Q := by
  obtain ⟨o, ho, hoc, hi⟩ := lp_det (C := (Nat → Int32 → cs → Prop) × (cs → Prop)) (b := (fun (y : (Nat) × (Int32) × (Int32) × (cs)) (R : ((Nat) × (Int32) × (Int32) × (cs)) → Prop) (c : (Nat → Int32 → cs → Prop) × (cs → Prop)) => b_Li_sortSymbols_32 U u y.1 y.2.1 y.2.2.1 y.2.2.2 c.1 (fun z0 z1 z2 z3 => R (z0, z1, z2, z3)) c.2)) (O := (fun (o : ((Nat → Int32 → cs → Prop) × (cs → Prop)) → Prop) => (∃ (a0 : Nat) (a1 : Int32) (a2 : cs), o = fun c => c.1 a0 a1 a2) ∨ (∃ (a0 : cs), o = fun c => c.2 a0))) (fun y R c hy => d_b_Li_sortSymbols_32 hy (fun a0 a1 a2 ha ia => Or.inr ⟨(fun c => c.1 a0 a1 a2), Or.inl ⟨a0, a1, a2, rfl⟩, ha, fun R' c' => ia c'.1 (fun z0 z1 z2 z3 => R' (z0, z1, z2, z3)) c'.2⟩) (fun a0 a1 a2 a3 ha ia => Or.inl ⟨(a0, a1, a2, a3), ha, fun R' c' => ia c'.1 (fun z0 z1 z2 z3 => R' (z0, z1, z2, z3)) c'.2⟩) (fun a0 ha ia => Or.inr ⟨(fun c => c.2 a0), Or.inr (⟨a0, rfl⟩), ha, fun R' c' => ia c'.1 (fun z0 z1 z2 z3 => R' (z0, z1, z2, z3)) c'.2⟩)) (l_e_Li_sortSymbols_32.mp h)
  rcases ho with ⟨a0, a1, a2, rfl⟩ | ⟨a0, rfl⟩
  · exact k_R7 _ _ _ hoc (fun R7' K' => Iff.trans l_e_Li_sortSymbols_32 (hi (R7', K')))
  · exact k_K _ hoc (fun R7' K' => Iff.trans l_e_Li_sortSymbols_32 (hi (R7', K')))
theorem v_e_Li_sortSymbols_32 {U : ut} {u : Nat} {x1 : Nat} {x2 : Int32} {x3 : Int32} {S : cs} {R7 : Nat → Int32 → cs → Prop} {K : cs → Prop} (h : e_Li_sortSymbols_32 U u x1 x2 x3 S R7 K) {G : Prop} (Inv : Int32 → cs → Prop) (h0 : Inv x3 S) (hs : ∀ (yx3 : Int32) (yS : cs) (R : Nat → Int32 → Int32 → cs → Prop), Inv yx3 yS → b_Li_sortSymbols_32 U u x1 x2 yx3 yS R7 R K → (∃ (zx3 : Int32) (zS : cs), R x1 x2 zx3 zS ∧ Inv zx3 zS) ∨ G) : G := by
  obtain ⟨I, μ, i0, is⟩ := h
  have go : ∀ (n : Nat) (yx3 : Int32) (yS : cs), μ x1 x2 yx3 yS < n → I x1 x2 yx3 yS → Inv yx3 yS → G := by
    intro n
    induction n with
    | zero => intro yx3 yS hy; exact absurd hy (Nat.not_lt_zero _)
    | succ n ih =>
      intro yx3 yS hy hI hV
      rcases hs yx3 yS _ hV (is x1 x2 yx3 yS hI) with ⟨zx3, zS, ⟨hz, hm⟩, hv⟩ | g
      · exact ih zx3 zS (Nat.lt_of_lt_of_le hm (Nat.le_of_lt_succ hy)) hz hv
      · exact g
  exact go _ x3 S (Nat.lt_succ_self _) i0 h0
theorem r_e_Li_sortSymbols_32 {U : ut} {u : Nat} {x1 : Nat} {x2 : Int32} {x3 : Int32} {S : cs} {R7 : Nat → Int32 → cs → Prop} {K : cs → Prop} (h : e_Li_sortSymbols_32 U u x1 x2 x3 S R7 K) : b_Li_sortSymbols_32 U u x1 x2 x3 S R7 (fun zx1 zx2 zx3 zS => e_Li_sortSymbols_32 U u zx1 zx2 zx3 zS R7 K) K := by
  obtain ⟨I, μ, i0, is⟩ := h
  exact d_b_Li_sortSymbols_32 (is x1 x2 x3 S i0) (fun a0 a1 a2 ha ia => (ia _ _ _).mpr ha) (fun a0 a1 a2 a3 ha ia => (ia _ _ _).mpr ⟨I, μ, ha.1, is⟩) (fun a0 ha ia => (ia _ _ _).mpr ha)
set_option maxHeartbeats 1000000 in
theorem d_b_Li_sortSymbols_27 {U : ut} {u : Nat} {x1 : Nat} {x2 : Int32} {S : cs} {R7 : Nat → Int32 → cs → Prop} {K : cs → Prop} (h : b_Li_sortSymbols_27 U u x1 x2 S R7 K) {Q : Prop} (k_R7 : ∀ (a0 : Nat) (a1 : Int32) (a2 : cs), R7 a0 a1 a2 → (∀ (R7' : Nat → Int32 → cs → Prop) (K' : cs → Prop), b_Li_sortSymbols_27 U u x1 x2 S R7' K' ↔ R7' a0 a1 a2) → Q) (k_K : ∀ (a0 : cs), K a0 → (∀ (R7' : Nat → Int32 → cs → Prop) (K' : cs → Prop), b_Li_sortSymbols_27 U u x1 x2 S R7' K' ↔ K' a0) → Q) : Q := by
  unfold b_Li_sortSymbols_27 at h
  exact d_e_Li_sortSymbols_32 h (fun a0 a1 a2 h_2 i_1 => k_R7 a0 a1 a2 h_2 (fun _ _ => i_1 _ _)) (fun a0 h_4 i_3 => k_K a0 h_4 (fun _ _ => i_3 _ _))
set_option maxHeartbeats 1000000 in
theorem d_b_Li_sortSymbols_7 {U : ut} {u : Nat} {x1 : Nat} {x2 : Int32} {S : cs} {R7 : Nat → Int32 → cs → Prop} {K : cs → Prop} (h : b_Li_sortSymbols_7 U u x1 x2 S R7 K) {Q : Prop} (k_R7 : ∀ (a0 : Nat) (a1 : Int32) (a2 : cs), R7 a0 a1 a2 → (∀ (R7' : Nat → Int32 → cs → Prop) (K' : cs → Prop), b_Li_sortSymbols_7 U u x1 x2 S R7' K' ↔ R7' a0 a1 a2) → Q) (k_K : ∀ (a0 : cs), K a0 → (∀ (R7' : Nat → Int32 → cs → Prop) (K' : cs → Prop), b_Li_sortSymbols_7 U u x1 x2 S R7' K' ↔ K' a0) → Q) : Q := by
  unfold b_Li_sortSymbols_7 at h
  refine dt_p h (fun c_1 h_2 => ?_) (fun c_1 h_2 => ?_)
  ·
    exact k_K _ h_2 (fun _ _ => dt_1 c_1 (fun n => n c_1))
  ·
    refine dt_p (And.right (And.right h_2)) (fun c_3 h_4 => ?_) (fun c_3 h_4 => ?_)
    ·
      exact d_b_Li_sortSymbols_27 h_4 (fun a0 a1 a2 h_6 i_5 => k_R7 a0 a1 a2 h_6 (fun _ _ => Iff.trans (dt_2 c_1 c_1) (Iff.trans (dt_a (And.left h_2)) (Iff.trans (dt_a (And.left (And.right h_2))) (Iff.trans (dt_1 c_3 (fun n => n c_3)) (i_5 _ _)))))) (fun a0 h_8 i_7 => k_K a0 h_8 (fun _ _ => Iff.trans (dt_2 c_1 c_1) (Iff.trans (dt_a (And.left h_2)) (Iff.trans (dt_a (And.left (And.right h_2))) (Iff.trans (dt_1 c_3 (fun n => n c_3)) (i_7 _ _))))))
    ·
      refine dt_n h_4 (fun c_9 h_10 => ?_) (fun c_9 h_10 => ?_)
      ·
        exact d_b_Li_sortSymbols_89 h_10 (fun a0 a1 a2 h_12 i_11 => k_R7 a0 a1 a2 h_12 (fun _ _ => Iff.trans (dt_2 c_1 c_1) (Iff.trans (dt_a (And.left h_2)) (Iff.trans (dt_a (And.left (And.right h_2))) (Iff.trans (dt_2 c_3 c_3) (Iff.trans (dt_1 c_9 c_9) (i_11 _ _))))))) (fun a0 h_14 i_13 => k_K a0 h_14 (fun _ _ => Iff.trans (dt_2 c_1 c_1) (Iff.trans (dt_a (And.left h_2)) (Iff.trans (dt_a (And.left (And.right h_2))) (Iff.trans (dt_2 c_3 c_3) (Iff.trans (dt_1 c_9 c_9) (i_13 _ _)))))))
      ·
        exact d_b_Li_sortSymbols_27 h_10 (fun a0 a1 a2 h_16 i_15 => k_R7 a0 a1 a2 h_16 (fun _ _ => Iff.trans (dt_2 c_1 c_1) (Iff.trans (dt_a (And.left h_2)) (Iff.trans (dt_a (And.left (And.right h_2))) (Iff.trans (dt_2 c_3 c_3) (Iff.trans (dt_2 (fun n => n c_9) c_9) (i_15 _ _))))))) (fun a0 h_18 i_17 => k_K a0 h_18 (fun _ _ => Iff.trans (dt_2 c_1 c_1) (Iff.trans (dt_a (And.left h_2)) (Iff.trans (dt_a (And.left (And.right h_2))) (Iff.trans (dt_2 c_3 c_3) (Iff.trans (dt_2 (fun n => n c_9) c_9) (i_17 _ _)))))))
theorem l_e_Li_sortSymbols_7 {U : ut} {u : Nat} {x1 : Nat} {x2 : Int32} {S : cs} {K : cs → Prop} : e_Li_sortSymbols_7 U u x1 x2 S K ↔ lpE (C := (cs → Prop)) (fun (y : (Nat) × (Int32) × (cs)) (R : ((Nat) × (Int32) × (cs)) → Prop) (c : (cs → Prop)) => b_Li_sortSymbols_7 U u y.1 y.2.1 y.2.2 (fun z0 z1 z2 => R (z0, z1, z2)) c) (x1, x2, S) K :=
  ⟨fun ⟨I, μ, h0, hs⟩ => ⟨fun t => I t.1 t.2.1 t.2.2, fun t => μ t.1 t.2.1 t.2.2, h0, fun t ht => hs _ _ _ ht⟩, fun ⟨I, μ, h0, hs⟩ => ⟨fun y0 y1 y2 => I (y0, y1, y2), fun y0 y1 y2 => μ (y0, y1, y2), h0, fun y0 y1 y2 hy => hs (y0, y1, y2) hy⟩⟩
set_option maxHeartbeats 1000000 in
theorem d_e_Li_sortSymbols_7 {U : ut} {u : Nat} {x1 : Nat} {x2 : Int32} {S : cs} {K : cs → Prop} (h : e_Li_sortSymbols_7 U u x1 x2 S K) {Q : Prop} (k_K : ∀ (a0 : cs), K a0 → (∀ (K' : cs → Prop), e_Li_sortSymbols_7 U u x1 x2 S K' ↔ K' a0) → Q) : Q := by
  obtain ⟨o, ho, hoc, hi⟩ := lp_det (C := (cs → Prop)) (b := (fun (y : (Nat) × (Int32) × (cs)) (R : ((Nat) × (Int32) × (cs)) → Prop) (c : (cs → Prop)) => b_Li_sortSymbols_7 U u y.1 y.2.1 y.2.2 (fun z0 z1 z2 => R (z0, z1, z2)) c)) (O := (fun (o : ((cs → Prop)) → Prop) => (∃ (a0 : cs), o = fun c => c a0))) (fun y R c hy => d_b_Li_sortSymbols_7 hy (fun a0 a1 a2 ha ia => Or.inl ⟨(a0, a1, a2), ha, fun R' c' => ia (fun z0 z1 z2 => R' (z0, z1, z2)) c'⟩) (fun a0 ha ia => Or.inr ⟨(fun c => c a0), ⟨a0, rfl⟩, ha, fun R' c' => ia (fun z0 z1 z2 => R' (z0, z1, z2)) c'⟩)) (l_e_Li_sortSymbols_7.mp h)
  rcases ho with ⟨a0, rfl⟩
  · exact k_K _ hoc (fun K' => Iff.trans l_e_Li_sortSymbols_7 (hi K'))
theorem v_e_Li_sortSymbols_7 {U : ut} {u : Nat} {x1 : Nat} {x2 : Int32} {S : cs} {K : cs → Prop} (h : e_Li_sortSymbols_7 U u x1 x2 S K) {G : Prop} (Inv : Int32 → cs → Prop) (h0 : Inv x2 S) (hs : ∀ (yx2 : Int32) (yS : cs) (R : Nat → Int32 → cs → Prop), Inv yx2 yS → b_Li_sortSymbols_7 U u x1 yx2 yS R K → (∃ (zx2 : Int32) (zS : cs), R x1 zx2 zS ∧ Inv zx2 zS) ∨ G) : G := by
  obtain ⟨I, μ, i0, is⟩ := h
  have go : ∀ (n : Nat) (yx2 : Int32) (yS : cs), μ x1 yx2 yS < n → I x1 yx2 yS → Inv yx2 yS → G := by
    intro n
    induction n with
    | zero => intro yx2 yS hy; exact absurd hy (Nat.not_lt_zero _)
    | succ n ih =>
      intro yx2 yS hy hI hV
      rcases hs yx2 yS _ hV (is x1 yx2 yS hI) with ⟨zx2, zS, ⟨hz, hm⟩, hv⟩ | g
      · exact ih zx2 zS (Nat.lt_of_lt_of_le hm (Nat.le_of_lt_succ hy)) hz hv
      · exact g
  exact go _ x2 S (Nat.lt_succ_self _) i0 h0
theorem r_e_Li_sortSymbols_7 {U : ut} {u : Nat} {x1 : Nat} {x2 : Int32} {S : cs} {K : cs → Prop} (h : e_Li_sortSymbols_7 U u x1 x2 S K) : b_Li_sortSymbols_7 U u x1 x2 S (fun zx1 zx2 zS => e_Li_sortSymbols_7 U u zx1 zx2 zS K) K := by
  obtain ⟨I, μ, i0, is⟩ := h
  exact d_b_Li_sortSymbols_7 (is x1 x2 S i0) (fun a0 a1 a2 ha ia => (ia _ _).mpr ⟨I, μ, ha.1, is⟩) (fun a0 ha ia => (ia _ _).mpr ha)
set_option maxHeartbeats 1000000 in
theorem d_p_Li_sortSymbols {U : ut} {u : Nat} {x1 : Nat} {S : cs} {K : cs → Prop} (h : p_Li_sortSymbols U u x1 S K) {Q : Prop} (k_K : ∀ (a0 : cs), K a0 → (∀ (K' : cs → Prop), p_Li_sortSymbols U u x1 S K' ↔ K' a0) → Q) : Q := by
  unfold p_Li_sortSymbols at h
  exact d_e_Li_sortSymbols_7 h (fun a0 h_2 i_1 => k_K a0 h_2 (fun _ => i_1 _))
set_option maxHeartbeats 1000000 in
theorem d_b_Li_makeLine_143 {U : ut} {u : Nat} {x1 : Int32} {x2 : Int32} {x3 : Nat} {x4 : Int32} {x5 : Int32} {x6 : Int32} {S : cs} {R9 : Int32 → Int32 → Nat → Int32 → Int32 → Int32 → cs → Prop} {K : Int32 → cs → Prop} (h : b_Li_makeLine_143 U u x1 x2 x3 x4 x5 x6 S R9 K) {Q : Prop} (k_R9 : ∀ (a0 : Int32) (a1 : Int32) (a2 : Nat) (a3 : Int32) (a4 : Int32) (a5 : Int32) (a6 : cs), R9 a0 a1 a2 a3 a4 a5 a6 → (∀ (R9' : Int32 → Int32 → Nat → Int32 → Int32 → Int32 → cs → Prop) (K' : Int32 → cs → Prop), b_Li_makeLine_143 U u x1 x2 x3 x4 x5 x6 S R9' K' ↔ R9' a0 a1 a2 a3 a4 a5 a6) → Q) (k_K : ∀ (a0 : Int32) (a1 : cs), K a0 a1 → (∀ (R9' : Int32 → Int32 → Nat → Int32 → Int32 → Int32 → cs → Prop) (K' : Int32 → cs → Prop), b_Li_makeLine_143 U u x1 x2 x3 x4 x5 x6 S R9' K' ↔ K' a0 a1) → Q) : Q := by
  unfold b_Li_makeLine_143 at h
  exact k_R9 _ _ _ _ _ _ _ h (fun _ _ => Iff.rfl)
set_option maxHeartbeats 1000000 in
theorem d_b_Li_makeLine_87 {U : ut} {u : Nat} {x1 : Int32} {x2 : Int32} {x3 : Nat} {x4 : Int32} {x5 : Int32} {x6 : Int32} {x7 : Int32} {s0 : Int32} {S : cs} {R9 : Int32 → Int32 → Nat → Int32 → Int32 → Int32 → cs → Prop} {K : Int32 → cs → Prop} (h : b_Li_makeLine_87 U u x1 x2 x3 x4 x5 x6 x7 s0 S R9 K) {Q : Prop} (k_R9 : ∀ (a0 : Int32) (a1 : Int32) (a2 : Nat) (a3 : Int32) (a4 : Int32) (a5 : Int32) (a6 : cs), R9 a0 a1 a2 a3 a4 a5 a6 → (∀ (R9' : Int32 → Int32 → Nat → Int32 → Int32 → Int32 → cs → Prop) (K' : Int32 → cs → Prop), b_Li_makeLine_87 U u x1 x2 x3 x4 x5 x6 x7 s0 S R9' K' ↔ R9' a0 a1 a2 a3 a4 a5 a6) → Q) (k_K : ∀ (a0 : Int32) (a1 : cs), K a0 a1 → (∀ (R9' : Int32 → Int32 → Nat → Int32 → Int32 → Int32 → cs → Prop) (K' : Int32 → cs → Prop), b_Li_makeLine_87 U u x1 x2 x3 x4 x5 x6 x7 s0 S R9' K' ↔ K' a0 a1) → Q) : Q := by
  unfold b_Li_makeLine_87 at h
  refine dt_p (And.right (And.right (And.right h))) (fun c_1 h_2 => ?_) (fun c_1 h_2 => ?_)
  ·
    exact d_b_Li_makeLine_143 (And.right (And.right (And.right (And.right (And.right (And.right (And.right (And.right h_2)))))))) (fun a0 a1 a2 a3 a4 a5 a6 h_4 i_3 => k_R9 a0 a1 a2 a3 a4 a5 a6 h_4 (fun _ _ => Iff.trans (dt_a (And.left h)) (Iff.trans (dt_a (And.left (And.right h))) (Iff.trans (dt_a (And.left (And.right (And.right h)))) (Iff.trans (dt_1 c_1 (fun n => n c_1)) (Iff.trans (dt_a (And.left h_2)) (Iff.trans (dt_a (And.left (And.right h_2))) (Iff.trans (dt_a (And.left (And.right (And.right h_2)))) (Iff.trans (dt_a (And.left (And.right (And.right (And.right h_2))))) (Iff.trans (dt_a (And.left (And.right (And.right (And.right (And.right h_2)))))) (Iff.trans (dt_a (And.left (And.right (And.right (And.right (And.right (And.right h_2))))))) (Iff.trans (dt_a (And.left (And.right (And.right (And.right (And.right (And.right (And.right h_2)))))))) (Iff.trans (dt_a (And.left (And.right (And.right (And.right (And.right (And.right (And.right (And.right h_2))))))))) (i_3 _ _)))))))))))))) (fun a0 a1 h_6 i_5 => k_K a0 a1 h_6 (fun _ _ => Iff.trans (dt_a (And.left h)) (Iff.trans (dt_a (And.left (And.right h))) (Iff.trans (dt_a (And.left (And.right (And.right h)))) (Iff.trans (dt_1 c_1 (fun n => n c_1)) (Iff.trans (dt_a (And.left h_2)) (Iff.trans (dt_a (And.left (And.right h_2))) (Iff.trans (dt_a (And.left (And.right (And.right h_2)))) (Iff.trans (dt_a (And.left (And.right (And.right (And.right h_2))))) (Iff.trans (dt_a (And.left (And.right (And.right (And.right (And.right h_2)))))) (Iff.trans (dt_a (And.left (And.right (And.right (And.right (And.right (And.right h_2))))))) (Iff.trans (dt_a (And.left (And.right (And.right (And.right (And.right (And.right (And.right h_2)))))))) (Iff.trans (dt_a (And.left (And.right (And.right (And.right (And.right (And.right (And.right (And.right h_2))))))))) (i_5 _ _))))))))))))))
  ·
    exact d_b_Li_makeLine_143 (And.right (And.right (And.right h_2))) (fun a0 a1 a2 a3 a4 a5 a6 h_8 i_7 => k_R9 a0 a1 a2 a3 a4 a5 a6 h_8 (fun _ _ => Iff.trans (dt_a (And.left h)) (Iff.trans (dt_a (And.left (And.right h))) (Iff.trans (dt_a (And.left (And.right (And.right h)))) (Iff.trans (dt_2 c_1 c_1) (Iff.trans (dt_a (And.left h_2)) (Iff.trans (dt_a (And.left (And.right h_2))) (Iff.trans (dt_a (And.left (And.right (And.right h_2)))) (i_7 _ _))))))))) (fun a0 a1 h_10 i_9 => k_K a0 a1 h_10 (fun _ _ => Iff.trans (dt_a (And.left h)) (Iff.trans (dt_a (And.left (And.right h))) (Iff.trans (dt_a (And.left (And.right (And.right h)))) (Iff.trans (dt_2 c_1 c_1) (Iff.trans (dt_a (And.left h_2)) (Iff.trans (dt_a (And.left (And.right h_2))) (Iff.trans (dt_a (And.left (And.right (And.right h_2)))) (i_9 _ _)))))))))
set_option maxHeartbeats 1000000 in
theorem d_b_Li_makeLine_86 {U : ut} {u : Nat} {x1 : Int32} {x2 : Int32} {x3 : Nat} {x4 : Int32} {x5 : Int32} {x6 : Int32} {x7 : Int32} {S : cs} {R9 : Int32 → Int32 → Nat → Int32 → Int32 → Int32 → cs → Prop} {K : Int32 → cs → Prop} (h : b_Li_makeLine_86 U u x1 x2 x3 x4 x5 x6 x7 S R9 K) {Q : Prop} (k_R9 : ∀ (a0 : Int32) (a1 : Int32) (a2 : Nat) (a3 : Int32) (a4 : Int32) (a5 : Int32) (a6 : cs), R9 a0 a1 a2 a3 a4 a5 a6 → (∀ (R9' : Int32 → Int32 → Nat → Int32 → Int32 → Int32 → cs → Prop) (K' : Int32 → cs → Prop), b_Li_makeLine_86 U u x1 x2 x3 x4 x5 x6 x7 S R9' K' ↔ R9' a0 a1 a2 a3 a4 a5 a6) → Q) (k_K : ∀ (a0 : Int32) (a1 : cs), K a0 a1 → (∀ (R9' : Int32 → Int32 → Nat → Int32 → Int32 → Int32 → cs → Prop) (K' : Int32 → cs → Prop), b_Li_makeLine_86 U u x1 x2 x3 x4 x5 x6 x7 S R9' K' ↔ K' a0 a1) → Q) : Q := by
  unfold b_Li_makeLine_86 at h
  exact d_b_Li_makeLine_87 h (fun a0 a1 a2 a3 a4 a5 a6 h_2 i_1 => k_R9 a0 a1 a2 a3 a4 a5 a6 h_2 (fun _ _ => i_1 _ _)) (fun a0 a1 h_4 i_3 => k_K a0 a1 h_4 (fun _ _ => i_3 _ _))
set_option maxHeartbeats 1000000 in
theorem d_b_Li_makeLine_82 {U : ut} {u : Nat} {x1 : Int32} {x2 : Int32} {x3 : Nat} {x4 : Int32} {x5 : Int32} {x6 : Int32} {x7 : Int32} {S : cs} {R9 : Int32 → Int32 → Nat → Int32 → Int32 → Int32 → cs → Prop} {K : Int32 → cs → Prop} (h : b_Li_makeLine_82 U u x1 x2 x3 x4 x5 x6 x7 S R9 K) {Q : Prop} (k_R9 : ∀ (a0 : Int32) (a1 : Int32) (a2 : Nat) (a3 : Int32) (a4 : Int32) (a5 : Int32) (a6 : cs), R9 a0 a1 a2 a3 a4 a5 a6 → (∀ (R9' : Int32 → Int32 → Nat → Int32 → Int32 → Int32 → cs → Prop) (K' : Int32 → cs → Prop), b_Li_makeLine_82 U u x1 x2 x3 x4 x5 x6 x7 S R9' K' ↔ R9' a0 a1 a2 a3 a4 a5 a6) → Q) (k_K : ∀ (a0 : Int32) (a1 : cs), K a0 a1 → (∀ (R9' : Int32 → Int32 → Nat → Int32 → Int32 → Int32 → cs → Prop) (K' : Int32 → cs → Prop), b_Li_makeLine_82 U u x1 x2 x3 x4 x5 x6 x7 S R9' K' ↔ K' a0 a1) → Q) : Q := by
  unfold b_Li_makeLine_82 at h
  exact d_b_Li_makeLine_87 h (fun a0 a1 a2 a3 a4 a5 a6 h_2 i_1 => k_R9 a0 a1 a2 a3 a4 a5 a6 h_2 (fun _ _ => i_1 _ _)) (fun a0 a1 h_4 i_3 => k_K a0 a1 h_4 (fun _ _ => i_3 _ _))
set_option maxHeartbeats 1000000 in
theorem d_b_Li_makeLine_51 {U : ut} {u : Nat} {x1 : Int32} {x2 : Int32} {x3 : Nat} {x4 : Int32} {x5 : Int32} {x6 : Int32} {s0 : Int32} {S : cs} {R9 : Int32 → Int32 → Nat → Int32 → Int32 → Int32 → cs → Prop} {K : Int32 → cs → Prop} (h : b_Li_makeLine_51 U u x1 x2 x3 x4 x5 x6 s0 S R9 K) {Q : Prop} (k_R9 : ∀ (a0 : Int32) (a1 : Int32) (a2 : Nat) (a3 : Int32) (a4 : Int32) (a5 : Int32) (a6 : cs), R9 a0 a1 a2 a3 a4 a5 a6 → (∀ (R9' : Int32 → Int32 → Nat → Int32 → Int32 → Int32 → cs → Prop) (K' : Int32 → cs → Prop), b_Li_makeLine_51 U u x1 x2 x3 x4 x5 x6 s0 S R9' K' ↔ R9' a0 a1 a2 a3 a4 a5 a6) → Q) (k_K : ∀ (a0 : Int32) (a1 : cs), K a0 a1 → (∀ (R9' : Int32 → Int32 → Nat → Int32 → Int32 → Int32 → cs → Prop) (K' : Int32 → cs → Prop), b_Li_makeLine_51 U u x1 x2 x3 x4 x5 x6 s0 S R9' K' ↔ K' a0 a1) → Q) : Q := by
  unfold b_Li_makeLine_51 at h
  refine dt_p h (fun c_1 h_2 => ?_) (fun c_1 h_2 => ?_)
  ·
    exact d_b_Li_makeLine_82 h_2 (fun a0 a1 a2 a3 a4 a5 a6 h_4 i_3 => k_R9 a0 a1 a2 a3 a4 a5 a6 h_4 (fun _ _ => Iff.trans (dt_1 c_1 (fun n => n c_1)) (i_3 _ _))) (fun a0 a1 h_6 i_5 => k_K a0 a1 h_6 (fun _ _ => Iff.trans (dt_1 c_1 (fun n => n c_1)) (i_5 _ _)))
  ·
    refine dt_p h_2 (fun c_7 h_8 => ?_) (fun c_7 h_8 => ?_)
    ·
      exact d_b_Li_makeLine_86 h_8 (fun a0 a1 a2 a3 a4 a5 a6 h_10 i_9 => k_R9 a0 a1 a2 a3 a4 a5 a6 h_10 (fun _ _ => Iff.trans (dt_2 c_1 c_1) (Iff.trans (dt_1 c_7 (fun n => n c_7)) (i_9 _ _)))) (fun a0 a1 h_12 i_11 => k_K a0 a1 h_12 (fun _ _ => Iff.trans (dt_2 c_1 c_1) (Iff.trans (dt_1 c_7 (fun n => n c_7)) (i_11 _ _))))
    ·
      refine dt_p (And.right (And.right (And.right (And.right (And.right h_8))))) (fun c_13 h_14 => ?_) (fun c_13 h_14 => ?_)
      ·
        exact d_b_Li_makeLine_86 h_14 (fun a0 a1 a2 a3 a4 a5 a6 h_16 i_15 => k_R9 a0 a1 a2 a3 a4 a5 a6 h_16 (fun _ _ => Iff.trans (dt_2 c_1 c_1) (Iff.trans (dt_2 c_7 c_7) (Iff.trans (dt_a (And.left h_8)) (Iff.trans (dt_a (And.left (And.right h_8))) (Iff.trans (dt_a (And.left (And.right (And.right h_8)))) (Iff.trans (dt_a (And.left (And.right (And.right (And.right h_8))))) (Iff.trans (dt_a (And.left (And.right (And.right (And.right (And.right h_8)))))) (Iff.trans (dt_1 c_13 (fun n => n c_13)) (i_15 _ _)))))))))) (fun a0 a1 h_18 i_17 => k_K a0 a1 h_18 (fun _ _ => Iff.trans (dt_2 c_1 c_1) (Iff.trans (dt_2 c_7 c_7) (Iff.trans (dt_a (And.left h_8)) (Iff.trans (dt_a (And.left (And.right h_8))) (Iff.trans (dt_a (And.left (And.right (And.right h_8)))) (Iff.trans (dt_a (And.left (And.right (And.right (And.right h_8))))) (Iff.trans (dt_a (And.left (And.right (And.right (And.right (And.right h_8)))))) (Iff.trans (dt_1 c_13 (fun n => n c_13)) (i_17 _ _))))))))))
      ·
        exact d_b_Li_makeLine_82 h_14 (fun a0 a1 a2 a3 a4 a5 a6 h_20 i_19 => k_R9 a0 a1 a2 a3 a4 a5 a6 h_20 (fun _ _ => Iff.trans (dt_2 c_1 c_1) (Iff.trans (dt_2 c_7 c_7) (Iff.trans (dt_a (And.left h_8)) (Iff.trans (dt_a (And.left (And.right h_8))) (Iff.trans (dt_a (And.left (And.right (And.right h_8)))) (Iff.trans (dt_a (And.left (And.right (And.right (And.right h_8))))) (Iff.trans (dt_a (And.left (And.right (And.right (And.right (And.right h_8)))))) (Iff.trans (dt_2 c_13 c_13) (i_19 _ _)))))))))) (fun a0 a1 h_22 i_21 => k_K a0 a1 h_22 (fun _ _ => Iff.trans (dt_2 c_1 c_1) (Iff.trans (dt_2 c_7 c_7) (Iff.trans (dt_a (And.left h_8)) (Iff.trans (dt_a (And.left (And.right h_8))) (Iff.trans (dt_a (And.left (And.right (And.right h_8)))) (Iff.trans (dt_a (And.left (And.right (And.right (And.right h_8))))) (Iff.trans (dt_a (And.left (And.right (And.right (And.right (And.right h_8)))))) (Iff.trans (dt_2 c_13 c_13) (i_21 _ _))))))))))
set_option maxHeartbeats 1000000 in
theorem d_b_Li_makeLine_9 {U : ut} {u : Nat} {x1 : Int32} {x2 : Int32} {x3 : Nat} {x4 : Int32} {x5 : Int32} {x6 : Int32} {S : cs} {R9 : Int32 → Int32 → Nat → Int32 → Int32 → Int32 → cs → Prop} {K : Int32 → cs → Prop} (h : b_Li_makeLine_9 U u x1 x2 x3 x4 x5 x6 S R9 K) {Q : Prop} (k_R9 : ∀ (a0 : Int32) (a1 : Int32) (a2 : Nat) (a3 : Int32) (a4 : Int32) (a5 : Int32) (a6 : cs), R9 a0 a1 a2 a3 a4 a5 a6 → (∀ (R9' : Int32 → Int32 → Nat → Int32 → Int32 → Int32 → cs → Prop) (K' : Int32 → cs → Prop), b_Li_makeLine_9 U u x1 x2 x3 x4 x5 x6 S R9' K' ↔ R9' a0 a1 a2 a3 a4 a5 a6) → Q) (k_K : ∀ (a0 : Int32) (a1 : cs), K a0 a1 → (∀ (R9' : Int32 → Int32 → Nat → Int32 → Int32 → Int32 → cs → Prop) (K' : Int32 → cs → Prop), b_Li_makeLine_9 U u x1 x2 x3 x4 x5 x6 S R9' K' ↔ K' a0 a1) → Q) : Q := by
  unfold b_Li_makeLine_9 at h
  refine dt_p h (fun c_1 h_2 => ?_) (fun c_1 h_2 => ?_)
  ·
    exact k_K _ _ (And.right (And.right (And.right (And.right h_2)))) (fun _ _ => Iff.trans (dt_1 c_1 (fun n => n c_1)) (Iff.trans (dt_a (And.left h_2)) (Iff.trans (dt_a (And.left (And.right h_2))) (Iff.trans (dt_a (And.left (And.right (And.right h_2)))) (dt_a (And.left (And.right (And.right (And.right h_2)))))))))
  ·
    refine dt_p h_2 (fun c_3 h_4 => ?_) (fun c_3 h_4 => ?_)
    ·
      exact d_b_Li_makeLine_51 h_4 (fun a0 a1 a2 a3 a4 a5 a6 h_6 i_5 => k_R9 a0 a1 a2 a3 a4 a5 a6 h_6 (fun _ _ => Iff.trans (dt_2 c_1 c_1) (Iff.trans (dt_1 c_3 (fun n => n c_3)) (i_5 _ _)))) (fun a0 a1 h_8 i_7 => k_K a0 a1 h_8 (fun _ _ => Iff.trans (dt_2 c_1 c_1) (Iff.trans (dt_1 c_3 (fun n => n c_3)) (i_7 _ _))))
    ·
      exact d_b_Li_makeLine_51 (And.right (And.right (And.right (And.right (And.right h_4))))) (fun a0 a1 a2 a3 a4 a5 a6 h_10 i_9 => k_R9 a0 a1 a2 a3 a4 a5 a6 h_10 (fun _ _ => Iff.trans (dt_2 c_1 c_1) (Iff.trans (dt_2 c_3 c_3) (Iff.trans (dt_a (And.left h_4)) (Iff.trans (dt_a (And.left (And.right h_4))) (Iff.trans (dt_a (And.left (And.right (And.right h_4)))) (Iff.trans (dt_a (And.left (And.right (And.right (And.right h_4))))) (Iff.trans (dt_a (And.left (And.right (And.right (And.right (And.right h_4)))))) (i_9 _ _))))))))) (fun a0 a1 h_12 i_11 => k_K a0 a1 h_12 (fun _ _ => Iff.trans (dt_2 c_1 c_1) (Iff.trans (dt_2 c_3 c_3) (Iff.trans (dt_a (And.left h_4)) (Iff.trans (dt_a (And.left (And.right h_4))) (Iff.trans (dt_a (And.left (And.right (And.right h_4)))) (Iff.trans (dt_a (And.left (And.right (And.right (And.right h_4))))) (Iff.trans (dt_a (And.left (And.right (And.right (And.right (And.right h_4)))))) (i_11 _ _)))))))))
theorem l_e_Li_makeLine_9 {U : ut} {u : Nat} {x1 : Int32} {x2 : Int32} {x3 : Nat} {x4 : Int32} {x5 : Int32} {x6 : Int32} {S : cs} {K : Int32 → cs → Prop} : e_Li_makeLine_9 U u x1 x2 x3 x4 x5 x6 S K ↔ lpE (C := (Int32 → cs → Prop)) (fun (y : (Int32) × (Int32) × (Nat) × (Int32) × (Int32) × (Int32) × (cs)) (R : ((Int32) × (Int32) × (Nat) × (Int32) × (Int32) × (Int32) × (cs)) → Prop) (c : (Int32 → cs → Prop)) => b_Li_makeLine_9 U u y.1 y.2.1 y.2.2.1 y.2.2.2.1 y.2.2.2.2.1 y.2.2.2.2.2.1 y.2.2.2.2.2.2 (fun z0 z1 z2 z3 z4 z5 z6 => R (z0, z1, z2, z3, z4, z5, z6)) c) (x1, x2, x3, x4, x5, x6, S) K :=
  ⟨fun ⟨I, μ, h0, hs⟩ => ⟨fun t => I t.1 t.2.1 t.2.2.1 t.2.2.2.1 t.2.2.2.2.1 t.2.2.2.2.2.1 t.2.2.2.2.2.2, fun t => μ t.1 t.2.1 t.2.2.1 t.2.2.2.1 t.2.2.2.2.1 t.2.2.2.2.2.1 t.2.2.2.2.2.2, h0, fun t ht => hs _ _ _ _ _ _ _ ht⟩, fun ⟨I, μ, h0, hs⟩ => ⟨fun y0 y1 y2 y3 y4 y5 y6 => I (y0, y1, y2, y3, y4, y5, y6), fun y0 y1 y2 y3 y4 y5 y6 => μ (y0, y1, y2, y3, y4, y5, y6), h0, fun y0 y1 y2 y3 y4 y5 y6 hy => hs (y0, y1, y2, y3, y4, y5, y6) hy⟩⟩
set_option maxHeartbeats 1000000 in
theorem d_e_Li_makeLine_9 {U : ut} {u : Nat} {x1 : Int32} {x2 : Int32} {x3 : Nat} {x4 : Int32} {x5 : Int32} {x6 : Int32} {S : cs} {K : Int32 → cs → Prop} (h : e_Li_makeLine_9 U u x1 x2 x3 x4 x5 x6 S K) {Q : Prop} (k_K : ∀ (a0 : Int32) (a1 : cs), K a0 a1 → (∀ (K' : Int32 → cs → Prop), e_Li_makeLine_9 U u x1 x2 x3 x4 x5 x6 S K' ↔ K' a0 a1) → Q) : Q := by
  obtain ⟨o, ho, hoc, hi⟩ := lp_det (C := (Int32 → cs → Prop)) (b := (fun (y : (Int32) × (Int32) × (Nat) × (Int32) × (Int32) × (Int32) × (cs)) (R : ((Int32) × (Int32) × (Nat) × (Int32) × (Int32) × (Int32) × (cs)) → Prop) (c : (Int32 → cs → Prop)) => b_Li_makeLine_9 U u y.1 y.2.1 y.2.2.1 y.2.2.2.1 y.2.2.2.2.1 y.2.2.2.2.2.1 y.2.2.2.2.2.2 (fun z0 z1 z2 z3 z4 z5 z6 => R (z0, z1, z2, z3, z4, z5, z6)) c)) (O := (fun (o : ((Int32 → cs → Prop)) → Prop) => (∃ (a0 : Int32) (a1 : cs), o = fun c => c a0 a1))) (fun y R c hy => d_b_Li_makeLine_9 hy (fun a0 a1 a2 a3 a4 a5 a6 ha ia => Or.inl ⟨(a0, a1, a2, a3, a4, a5, a6), ha, fun R' c' => ia (fun z0 z1 z2 z3 z4 z5 z6 => R' (z0, z1, z2, z3, z4, z5, z6)) c'⟩) (fun a0 a1 ha ia => Or.inr ⟨(fun c => c a0 a1), ⟨a0, a1, rfl⟩, ha, fun R' c' => ia (fun z0 z1 z2 z3 z4 z5 z6 => R' (z0, z1, z2, z3, z4, z5, z6)) c'⟩)) (l_e_Li_makeLine_9.mp h)
  rcases ho with ⟨a0, a1, rfl⟩
  · exact k_K _ _ hoc (fun K' => Iff.trans l_e_Li_makeLine_9 (hi K'))
theorem v_e_Li_makeLine_9 {U : ut} {u : Nat} {x1 : Int32} {x2 : Int32} {x3 : Nat} {x4 : Int32} {x5 : Int32} {x6 : Int32} {S : cs} {K : Int32 → cs → Prop} (h : e_Li_makeLine_9 U u x1 x2 x3 x4 x5 x6 S K) {G : Prop} (Inv : Int32 → Int32 → Int32 → cs → Prop) (h0 : Inv x4 x5 x6 S) (hs : ∀ (yx4 : Int32) (yx5 : Int32) (yx6 : Int32) (yS : cs) (R : Int32 → Int32 → Nat → Int32 → Int32 → Int32 → cs → Prop), Inv yx4 yx5 yx6 yS → b_Li_makeLine_9 U u x1 x2 x3 yx4 yx5 yx6 yS R K → (∃ (zx4 : Int32) (zx5 : Int32) (zx6 : Int32) (zS : cs), R x1 x2 x3 zx4 zx5 zx6 zS ∧ Inv zx4 zx5 zx6 zS) ∨ G) : G := by
  obtain ⟨I, μ, i0, is⟩ := h
  have go : ∀ (n : Nat) (yx4 : Int32) (yx5 : Int32) (yx6 : Int32) (yS : cs), μ x1 x2 x3 yx4 yx5 yx6 yS < n → I x1 x2 x3 yx4 yx5 yx6 yS → Inv yx4 yx5 yx6 yS → G := by
    intro n
    induction n with
    | zero => intro yx4 yx5 yx6 yS hy; exact absurd hy (Nat.not_lt_zero _)
    | succ n ih =>
      intro yx4 yx5 yx6 yS hy hI hV
      rcases hs yx4 yx5 yx6 yS _ hV (is x1 x2 x3 yx4 yx5 yx6 yS hI) with ⟨zx4, zx5, zx6, zS, ⟨hz, hm⟩, hv⟩ | g
      · exact ih zx4 zx5 zx6 zS (Nat.lt_of_lt_of_le hm (Nat.le_of_lt_succ hy)) hz hv
      · exact g
  exact go _ x4 x5 x6 S (Nat.lt_succ_self _) i0 h0
theorem r_e_Li_makeLine_9 {U : ut} {u : Nat} {x1 : Int32} {x2 : Int32} {x3 : Nat} {x4 : Int32} {x5 : Int32} {x6 : Int32} {S : cs} {K : Int32 → cs → Prop} (h : e_Li_makeLine_9 U u x1 x2 x3 x4 x5 x6 S K) : b_Li_makeLine_9 U u x1 x2 x3 x4 x5 x6 S (fun zx1 zx2 zx3 zx4 zx5 zx6 zS => e_Li_makeLine_9 U u zx1 zx2 zx3 zx4 zx5 zx6 zS K) K := by
  obtain ⟨I, μ, i0, is⟩ := h
  exact d_b_Li_makeLine_9 (is x1 x2 x3 x4 x5 x6 S i0) (fun a0 a1 a2 a3 a4 a5 a6 ha ia => (ia _ _).mpr ⟨I, μ, ha.1, is⟩) (fun a0 a1 ha ia => (ia _ _).mpr ha)
set_option maxHeartbeats 1000000 in
theorem d_p_Li_makeLine {U : ut} {u : Nat} {x1 : Int32} {x2 : Int32} {x3 : Nat} {S : cs} {K : Int32 → cs → Prop} (h : p_Li_makeLine U u x1 x2 x3 S K) {Q : Prop} (k_K : ∀ (a0 : Int32) (a1 : cs), K a0 a1 → (∀ (K' : Int32 → cs → Prop), p_Li_makeLine U u x1 x2 x3 S K' ↔ K' a0 a1) → Q) : Q := by
  unfold p_Li_makeLine at h
  exact d_e_Li_makeLine_9 h (fun a0 a1 h_2 i_1 => k_K a0 a1 h_2 (fun _ => i_1 _))
set_option maxHeartbeats 1000000 in
theorem d_b_Li_takeThings_76 {U : ut} {u : Nat} {x4 : Int32} {S : cs} {K : Int32 → cs → Prop} (h : b_Li_takeThings_76 U u x4 S K) {Q : Prop} (k_K : ∀ (a0 : Int32) (a1 : cs), K a0 a1 → (∀ (K' : Int32 → cs → Prop), b_Li_takeThings_76 U u x4 S K' ↔ K' a0 a1) → Q) : Q := by
  unfold b_Li_takeThings_76 at h
  exact k_K _ _ h (fun _ => Iff.rfl)
set_option maxHeartbeats 1000000 in
theorem d_b_Li_takeThings_70 {U : ut} {u : Nat} {x1 : Int32} {x2 : Int32} {x3 : Nat} {x4 : Int32} {x5 : Int32} {S : cs} {R6 : Int32 → Int32 → Nat → Int32 → Int32 → cs → Prop} {K : Int32 → cs → Prop} (h : b_Li_takeThings_70 U u x1 x2 x3 x4 x5 S R6 K) {Q : Prop} (k_R6 : ∀ (a0 : Int32) (a1 : Int32) (a2 : Nat) (a3 : Int32) (a4 : Int32) (a5 : cs), R6 a0 a1 a2 a3 a4 a5 → (∀ (R6' : Int32 → Int32 → Nat → Int32 → Int32 → cs → Prop) (K' : Int32 → cs → Prop), b_Li_takeThings_70 U u x1 x2 x3 x4 x5 S R6' K' ↔ R6' a0 a1 a2 a3 a4 a5) → Q) (k_K : ∀ (a0 : Int32) (a1 : cs), K a0 a1 → (∀ (R6' : Int32 → Int32 → Nat → Int32 → Int32 → cs → Prop) (K' : Int32 → cs → Prop), b_Li_takeThings_70 U u x1 x2 x3 x4 x5 S R6' K' ↔ K' a0 a1) → Q) : Q := by
  unfold b_Li_takeThings_70 at h
  exact k_R6 _ _ _ _ _ _ h (fun _ _ => Iff.rfl)
set_option maxHeartbeats 1000000 in
theorem d_b_Li_takeThings_6 {U : ut} {u : Nat} {x1 : Int32} {x2 : Int32} {x3 : Nat} {x4 : Int32} {x5 : Int32} {S : cs} {R6 : Int32 → Int32 → Nat → Int32 → Int32 → cs → Prop} {K : Int32 → cs → Prop} (h : b_Li_takeThings_6 U u x1 x2 x3 x4 x5 S R6 K) {Q : Prop} (k_R6 : ∀ (a0 : Int32) (a1 : Int32) (a2 : Nat) (a3 : Int32) (a4 : Int32) (a5 : cs), R6 a0 a1 a2 a3 a4 a5 → (∀ (R6' : Int32 → Int32 → Nat → Int32 → Int32 → cs → Prop) (K' : Int32 → cs → Prop), b_Li_takeThings_6 U u x1 x2 x3 x4 x5 S R6' K' ↔ R6' a0 a1 a2 a3 a4 a5) → Q) (k_K : ∀ (a0 : Int32) (a1 : cs), K a0 a1 → (∀ (R6' : Int32 → Int32 → Nat → Int32 → Int32 → cs → Prop) (K' : Int32 → cs → Prop), b_Li_takeThings_6 U u x1 x2 x3 x4 x5 S R6' K' ↔ K' a0 a1) → Q) : Q := by
  unfold b_Li_takeThings_6 at h
  refine dt_p h (fun c_1 h_2 => ?_) (fun c_1 h_2 => ?_)
  ·
    exact d_b_Li_takeThings_76 h_2 (fun a0 a1 h_4 i_3 => k_K a0 a1 h_4 (fun _ _ => Iff.trans (dt_1 c_1 (fun n => n c_1)) (i_3 _)))
  ·
    refine dt_p h_2 (fun c_5 h_6 => ?_) (fun c_5 h_6 => ?_)
    ·
      exact d_b_Li_takeThings_76 h_6 (fun a0 a1 h_8 i_7 => k_K a0 a1 h_8 (fun _ _ => Iff.trans (dt_2 c_1 c_1) (Iff.trans (dt_1 c_5 (fun n => n c_5)) (i_7 _))))
    ·
      refine dt_p (And.right (And.right (And.right h_6))) (fun c_9 h_10 => ?_) (fun c_9 h_10 => ?_)
      ·
        refine dt_p h_10 (fun c_11 h_12 => ?_) (fun c_11 h_12 => ?_)
        ·
          exact d_b_Li_takeThings_70 h_12 (fun a0 a1 a2 a3 a4 a5 h_14 i_13 => k_R6 a0 a1 a2 a3 a4 a5 h_14 (fun _ _ => Iff.trans (dt_2 c_1 c_1) (Iff.trans (dt_2 c_5 c_5) (Iff.trans (dt_a (And.left h_6)) (Iff.trans (dt_a (And.left (And.right h_6))) (Iff.trans (dt_a (And.left (And.right (And.right h_6)))) (Iff.trans (dt_1 c_9 (fun n => n c_9)) (Iff.trans (dt_1 c_11 (fun n => n c_11)) (i_13 _ _))))))))) (fun a0 a1 h_16 i_15 => k_K a0 a1 h_16 (fun _ _ => Iff.trans (dt_2 c_1 c_1) (Iff.trans (dt_2 c_5 c_5) (Iff.trans (dt_a (And.left h_6)) (Iff.trans (dt_a (And.left (And.right h_6))) (Iff.trans (dt_a (And.left (And.right (And.right h_6)))) (Iff.trans (dt_1 c_9 (fun n => n c_9)) (Iff.trans (dt_1 c_11 (fun n => n c_11)) (i_15 _ _)))))))))
        ·
          exact d_b_Li_takeThings_70 (And.right (And.right (And.right (And.right (And.right (And.right h_12)))))) (fun a0 a1 a2 a3 a4 a5 h_18 i_17 => k_R6 a0 a1 a2 a3 a4 a5 h_18 (fun _ _ => Iff.trans (dt_2 c_1 c_1) (Iff.trans (dt_2 c_5 c_5) (Iff.trans (dt_a (And.left h_6)) (Iff.trans (dt_a (And.left (And.right h_6))) (Iff.trans (dt_a (And.left (And.right (And.right h_6)))) (Iff.trans (dt_1 c_9 (fun n => n c_9)) (Iff.trans (dt_2 c_11 c_11) (Iff.trans (dt_a (And.left h_12)) (Iff.trans (dt_a (And.left (And.right h_12))) (Iff.trans (dt_a (And.left (And.right (And.right h_12)))) (Iff.trans (dt_a (And.left (And.right (And.right (And.right h_12))))) (Iff.trans (dt_a (And.left (And.right (And.right (And.right (And.right h_12)))))) (Iff.trans (dt_a (And.left (And.right (And.right (And.right (And.right (And.right h_12))))))) (i_17 _ _))))))))))))))) (fun a0 a1 h_20 i_19 => k_K a0 a1 h_20 (fun _ _ => Iff.trans (dt_2 c_1 c_1) (Iff.trans (dt_2 c_5 c_5) (Iff.trans (dt_a (And.left h_6)) (Iff.trans (dt_a (And.left (And.right h_6))) (Iff.trans (dt_a (And.left (And.right (And.right h_6)))) (Iff.trans (dt_1 c_9 (fun n => n c_9)) (Iff.trans (dt_2 c_11 c_11) (Iff.trans (dt_a (And.left h_12)) (Iff.trans (dt_a (And.left (And.right h_12))) (Iff.trans (dt_a (And.left (And.right (And.right h_12)))) (Iff.trans (dt_a (And.left (And.right (And.right (And.right h_12))))) (Iff.trans (dt_a (And.left (And.right (And.right (And.right (And.right h_12)))))) (Iff.trans (dt_a (And.left (And.right (And.right (And.right (And.right (And.right h_12))))))) (i_19 _ _)))))))))))))))
      ·
        exact d_b_Li_takeThings_70 h_10 (fun a0 a1 a2 a3 a4 a5 h_22 i_21 => k_R6 a0 a1 a2 a3 a4 a5 h_22 (fun _ _ => Iff.trans (dt_2 c_1 c_1) (Iff.trans (dt_2 c_5 c_5) (Iff.trans (dt_a (And.left h_6)) (Iff.trans (dt_a (And.left (And.right h_6))) (Iff.trans (dt_a (And.left (And.right (And.right h_6)))) (Iff.trans (dt_2 c_9 c_9) (i_21 _ _)))))))) (fun a0 a1 h_24 i_23 => k_K a0 a1 h_24 (fun _ _ => Iff.trans (dt_2 c_1 c_1) (Iff.trans (dt_2 c_5 c_5) (Iff.trans (dt_a (And.left h_6)) (Iff.trans (dt_a (And.left (And.right h_6))) (Iff.trans (dt_a (And.left (And.right (And.right h_6)))) (Iff.trans (dt_2 c_9 c_9) (i_23 _ _))))))))
theorem l_e_Li_takeThings_6 {U : ut} {u : Nat} {x1 : Int32} {x2 : Int32} {x3 : Nat} {x4 : Int32} {x5 : Int32} {S : cs} {K : Int32 → cs → Prop} : e_Li_takeThings_6 U u x1 x2 x3 x4 x5 S K ↔ lpE (C := (Int32 → cs → Prop)) (fun (y : (Int32) × (Int32) × (Nat) × (Int32) × (Int32) × (cs)) (R : ((Int32) × (Int32) × (Nat) × (Int32) × (Int32) × (cs)) → Prop) (c : (Int32 → cs → Prop)) => b_Li_takeThings_6 U u y.1 y.2.1 y.2.2.1 y.2.2.2.1 y.2.2.2.2.1 y.2.2.2.2.2 (fun z0 z1 z2 z3 z4 z5 => R (z0, z1, z2, z3, z4, z5)) c) (x1, x2, x3, x4, x5, S) K :=
  ⟨fun ⟨I, μ, h0, hs⟩ => ⟨fun t => I t.1 t.2.1 t.2.2.1 t.2.2.2.1 t.2.2.2.2.1 t.2.2.2.2.2, fun t => μ t.1 t.2.1 t.2.2.1 t.2.2.2.1 t.2.2.2.2.1 t.2.2.2.2.2, h0, fun t ht => hs _ _ _ _ _ _ ht⟩, fun ⟨I, μ, h0, hs⟩ => ⟨fun y0 y1 y2 y3 y4 y5 => I (y0, y1, y2, y3, y4, y5), fun y0 y1 y2 y3 y4 y5 => μ (y0, y1, y2, y3, y4, y5), h0, fun y0 y1 y2 y3 y4 y5 hy => hs (y0, y1, y2, y3, y4, y5) hy⟩⟩
set_option maxHeartbeats 1000000 in
theorem d_e_Li_takeThings_6 {U : ut} {u : Nat} {x1 : Int32} {x2 : Int32} {x3 : Nat} {x4 : Int32} {x5 : Int32} {S : cs} {K : Int32 → cs → Prop} (h : e_Li_takeThings_6 U u x1 x2 x3 x4 x5 S K) {Q : Prop} (k_K : ∀ (a0 : Int32) (a1 : cs), K a0 a1 → (∀ (K' : Int32 → cs → Prop), e_Li_takeThings_6 U u x1 x2 x3 x4 x5 S K' ↔ K' a0 a1) → Q) : Q := by
  obtain ⟨o, ho, hoc, hi⟩ := lp_det (C := (Int32 → cs → Prop)) (b := (fun (y : (Int32) × (Int32) × (Nat) × (Int32) × (Int32) × (cs)) (R : ((Int32) × (Int32) × (Nat) × (Int32) × (Int32) × (cs)) → Prop) (c : (Int32 → cs → Prop)) => b_Li_takeThings_6 U u y.1 y.2.1 y.2.2.1 y.2.2.2.1 y.2.2.2.2.1 y.2.2.2.2.2 (fun z0 z1 z2 z3 z4 z5 => R (z0, z1, z2, z3, z4, z5)) c)) (O := (fun (o : ((Int32 → cs → Prop)) → Prop) => (∃ (a0 : Int32) (a1 : cs), o = fun c => c a0 a1))) (fun y R c hy => d_b_Li_takeThings_6 hy (fun a0 a1 a2 a3 a4 a5 ha ia => Or.inl ⟨(a0, a1, a2, a3, a4, a5), ha, fun R' c' => ia (fun z0 z1 z2 z3 z4 z5 => R' (z0, z1, z2, z3, z4, z5)) c'⟩) (fun a0 a1 ha ia => Or.inr ⟨(fun c => c a0 a1), ⟨a0, a1, rfl⟩, ha, fun R' c' => ia (fun z0 z1 z2 z3 z4 z5 => R' (z0, z1, z2, z3, z4, z5)) c'⟩)) (l_e_Li_takeThings_6.mp h)
  rcases ho with ⟨a0, a1, rfl⟩
  · exact k_K _ _ hoc (fun K' => Iff.trans l_e_Li_takeThings_6 (hi K'))
theorem v_e_Li_takeThings_6 {U : ut} {u : Nat} {x1 : Int32} {x2 : Int32} {x3 : Nat} {x4 : Int32} {x5 : Int32} {S : cs} {K : Int32 → cs → Prop} (h : e_Li_takeThings_6 U u x1 x2 x3 x4 x5 S K) {G : Prop} (Inv : Int32 → Int32 → cs → Prop) (h0 : Inv x4 x5 S) (hs : ∀ (yx4 : Int32) (yx5 : Int32) (yS : cs) (R : Int32 → Int32 → Nat → Int32 → Int32 → cs → Prop), Inv yx4 yx5 yS → b_Li_takeThings_6 U u x1 x2 x3 yx4 yx5 yS R K → (∃ (zx4 : Int32) (zx5 : Int32) (zS : cs), R x1 x2 x3 zx4 zx5 zS ∧ Inv zx4 zx5 zS) ∨ G) : G := by
  obtain ⟨I, μ, i0, is⟩ := h
  have go : ∀ (n : Nat) (yx4 : Int32) (yx5 : Int32) (yS : cs), μ x1 x2 x3 yx4 yx5 yS < n → I x1 x2 x3 yx4 yx5 yS → Inv yx4 yx5 yS → G := by
    intro n
    induction n with
    | zero => intro yx4 yx5 yS hy; exact absurd hy (Nat.not_lt_zero _)
    | succ n ih =>
      intro yx4 yx5 yS hy hI hV
      rcases hs yx4 yx5 yS _ hV (is x1 x2 x3 yx4 yx5 yS hI) with ⟨zx4, zx5, zS, ⟨hz, hm⟩, hv⟩ | g
      · exact ih zx4 zx5 zS (Nat.lt_of_lt_of_le hm (Nat.le_of_lt_succ hy)) hz hv
      · exact g
  exact go _ x4 x5 S (Nat.lt_succ_self _) i0 h0
theorem r_e_Li_takeThings_6 {U : ut} {u : Nat} {x1 : Int32} {x2 : Int32} {x3 : Nat} {x4 : Int32} {x5 : Int32} {S : cs} {K : Int32 → cs → Prop} (h : e_Li_takeThings_6 U u x1 x2 x3 x4 x5 S K) : b_Li_takeThings_6 U u x1 x2 x3 x4 x5 S (fun zx1 zx2 zx3 zx4 zx5 zS => e_Li_takeThings_6 U u zx1 zx2 zx3 zx4 zx5 zS K) K := by
  obtain ⟨I, μ, i0, is⟩ := h
  exact d_b_Li_takeThings_6 (is x1 x2 x3 x4 x5 S i0) (fun a0 a1 a2 a3 a4 a5 ha ia => (ia _ _).mpr ⟨I, μ, ha.1, is⟩) (fun a0 a1 ha ia => (ia _ _).mpr ha)
set_option maxHeartbeats 1000000 in
theorem d_p_Li_takeThings {U : ut} {u : Nat} {x1 : Int32} {x2 : Int32} {x3 : Nat} {S : cs} {K : Int32 → cs → Prop} (h : p_Li_takeThings U u x1 x2 x3 S K) {Q : Prop} (k_K : ∀ (a0 : Int32) (a1 : cs), K a0 a1 → (∀ (K' : Int32 → cs → Prop), p_Li_takeThings U u x1 x2 x3 S K' ↔ K' a0 a1) → Q) : Q := by
  unfold p_Li_takeThings at h
  exact d_e_Li_takeThings_6 h (fun a0 a1 h_2 i_1 => k_K a0 a1 h_2 (fun _ => i_1 _))
set_option maxHeartbeats 1000000 in
theorem d_b_Li_setLengths_86 {U : ut} {u : Nat} {x1 : Nat} {x3 : Int32} {x4 : Int32} {S : cs} {R86 : Nat → Int32 → Int32 → cs → Prop} {K : cs → Prop} (h : b_Li_setLengths_86 U u x1 x3 x4 S R86 K) {Q : Prop} (k_R86 : ∀ (a0 : Nat) (a1 : Int32) (a2 : Int32) (a3 : cs), R86 a0 a1 a2 a3 → (∀ (R86' : Nat → Int32 → Int32 → cs → Prop) (K' : cs → Prop), b_Li_setLengths_86 U u x1 x3 x4 S R86' K' ↔ R86' a0 a1 a2 a3) → Q) (k_K : ∀ (a0 : cs), K a0 → (∀ (R86' : Nat → Int32 → Int32 → cs → Prop) (K' : cs → Prop), b_Li_setLengths_86 U u x1 x3 x4 S R86' K' ↔ K' a0) → Q) : Q := by
  unfold b_Li_setLengths_86 at h
  refine dt_p h (fun c_1 h_2 => ?_) (fun c_1 h_2 => ?_)
  ·
    exact k_K _ h_2 (fun _ _ => dt_1 c_1 (fun n => n c_1))
  ·
    refine d_p_Li_takeThings (And.right (And.right h_2)) (fun v100 S100 h_4 i_3 => ?_)
    exact k_R86 _ _ _ _ h_4 (fun _ _ => Iff.trans (dt_2 c_1 c_1) (Iff.trans (dt_a (And.left h_2)) (Iff.trans (dt_a (And.left (And.right h_2))) (i_3 _))))
theorem l_e_Li_setLengths_86 {U : ut} {u : Nat} {x1 : Nat} {x3 : Int32} {x4 : Int32} {S : cs} {K : cs → Prop} : e_Li_setLengths_86 U u x1 x3 x4 S K ↔ lpE (C := (cs → Prop)) (fun (y : (Nat) × (Int32) × (Int32) × (cs)) (R : ((Nat) × (Int32) × (Int32) × (cs)) → Prop) (c : (cs → Prop)) => b_Li_setLengths_86 U u y.1 y.2.1 y.2.2.1 y.2.2.2 (fun z0 z1 z2 z3 => R (z0, z1, z2, z3)) c) (x1, x3, x4, S) K :=
  ⟨fun ⟨I, μ, h0, hs⟩ => ⟨fun t => I t.1 t.2.1 t.2.2.1 t.2.2.2, fun t => μ t.1 t.2.1 t.2.2.1 t.2.2.2, h0, fun t ht => hs _ _ _ _ ht⟩, fun ⟨I, μ, h0, hs⟩ => ⟨fun y0 y1 y2 y3 => I (y0, y1, y2, y3), fun y0 y1 y2 y3 => μ (y0, y1, y2, y3), h0, fun y0 y1 y2 y3 hy => hs (y0, y1, y2, y3) hy⟩⟩
set_option maxHeartbeats 1000000 in
theorem d_e_Li_setLengths_86 {U : ut} {u : Nat} {x1 : Nat} {x3 : Int32} {x4 : Int32} {S : cs} {K : cs → Prop} (h : e_Li_setLengths_86 U u x1 x3 x4 S K) {Q : Prop} (k_K : ∀ (a0 : cs), K a0 → (∀ (K' : cs → Prop), e_Li_setLengths_86 U u x1 x3 x4 S K' ↔ K' a0) → Q) : Q := by
  obtain ⟨o, ho, hoc, hi⟩ := lp_det (C := (cs → Prop)) (b := (fun (y : (Nat) × (Int32) × (Int32) × (cs)) (R : ((Nat) × (Int32) × (Int32) × (cs)) → Prop) (c : (cs → Prop)) => b_Li_setLengths_86 U u y.1 y.2.1 y.2.2.1 y.2.2.2 (fun z0 z1 z2 z3 => R (z0, z1, z2, z3)) c)) (O := (fun (o : ((cs → Prop)) → Prop) => (∃ (a0 : cs), o = fun c => c a0))) (fun y R c hy => d_b_Li_setLengths_86 hy (fun a0 a1 a2 a3 ha ia => Or.inl ⟨(a0, a1, a2, a3), ha, fun R' c' => ia (fun z0 z1 z2 z3 => R' (z0, z1, z2, z3)) c'⟩) (fun a0 ha ia => Or.inr ⟨(fun c => c a0), ⟨a0, rfl⟩, ha, fun R' c' => ia (fun z0 z1 z2 z3 => R' (z0, z1, z2, z3)) c'⟩)) (l_e_Li_setLengths_86.mp h)
  rcases ho with ⟨a0, rfl⟩
  · exact k_K _ hoc (fun K' => Iff.trans l_e_Li_setLengths_86 (hi K'))
theorem v_e_Li_setLengths_86 {U : ut} {u : Nat} {x1 : Nat} {x3 : Int32} {x4 : Int32} {S : cs} {K : cs → Prop} (h : e_Li_setLengths_86 U u x1 x3 x4 S K) {G : Prop} (Inv : Int32 → Int32 → cs → Prop) (h0 : Inv x3 x4 S) (hs : ∀ (yx3 : Int32) (yx4 : Int32) (yS : cs) (R : Nat → Int32 → Int32 → cs → Prop), Inv yx3 yx4 yS → b_Li_setLengths_86 U u x1 yx3 yx4 yS R K → (∃ (zx3 : Int32) (zx4 : Int32) (zS : cs), R x1 zx3 zx4 zS ∧ Inv zx3 zx4 zS) ∨ G) : G := by
  obtain ⟨I, μ, i0, is⟩ := h
  have go : ∀ (n : Nat) (yx3 : Int32) (yx4 : Int32) (yS : cs), μ x1 yx3 yx4 yS < n → I x1 yx3 yx4 yS → Inv yx3 yx4 yS → G := by
    intro n
    induction n with
    | zero => intro yx3 yx4 yS hy; exact absurd hy (Nat.not_lt_zero _)
    | succ n ih =>
      intro yx3 yx4 yS hy hI hV
      rcases hs yx3 yx4 yS _ hV (is x1 yx3 yx4 yS hI) with ⟨zx3, zx4, zS, ⟨hz, hm⟩, hv⟩ | g
      · exact ih zx3 zx4 zS (Nat.lt_of_lt_of_le hm (Nat.le_of_lt_succ hy)) hz hv
      · exact g
  exact go _ x3 x4 S (Nat.lt_succ_self _) i0 h0
theorem r_e_Li_setLengths_86 {U : ut} {u : Nat} {x1 : Nat} {x3 : Int32} {x4 : Int32} {S : cs} {K : cs → Prop} (h : e_Li_setLengths_86 U u x1 x3 x4 S K) : b_Li_setLengths_86 U u x1 x3 x4 S (fun zx1 zx3 zx4 zS => e_Li_setLengths_86 U u zx1 zx3 zx4 zS K) K := by
  obtain ⟨I, μ, i0, is⟩ := h
  exact d_b_Li_setLengths_86 (is x1 x3 x4 S i0) (fun a0 a1 a2 a3 ha ia => (ia _ _).mpr ⟨I, μ, ha.1, is⟩) (fun a0 ha ia => (ia _ _).mpr ha)
set_option maxHeartbeats 1000000 in
theorem d_b_Li_setLengths_48 {U : ut} {u : Nat} {x1 : Nat} {x2 : Int32} {x3 : Int32} {S : cs} {R48 : Nat → Int32 → Int32 → cs → Prop} {K : cs → Prop} (h : b_Li_setLengths_48 U u x1 x2 x3 S R48 K) {Q : Prop} (k_R48 : ∀ (a0 : Nat) (a1 : Int32) (a2 : Int32) (a3 : cs), R48 a0 a1 a2 a3 → (∀ (R48' : Nat → Int32 → Int32 → cs → Prop) (K' : cs → Prop), b_Li_setLengths_48 U u x1 x2 x3 S R48' K' ↔ R48' a0 a1 a2 a3) → Q) (k_K : ∀ (a0 : cs), K a0 → (∀ (R48' : Nat → Int32 → Int32 → cs → Prop) (K' : cs → Prop), b_Li_setLengths_48 U u x1 x2 x3 S R48' K' ↔ K' a0) → Q) : Q := by
  unfold b_Li_setLengths_48 at h
  refine dt_p h (fun c_1 h_2 => ?_) (fun c_1 h_2 => ?_)
  ·
    exact d_e_Li_setLengths_86 h_2 (fun a0 h_4 i_3 => k_K a0 h_4 (fun _ _ => Iff.trans (dt_1 c_1 (fun n => n c_1)) (i_3 _)))
  ·
    refine d_p_Li_makeLine (And.right (And.right h_2)) (fun v63 S63 h_6 i_5 => ?_)
    exact k_R48 _ _ _ _ h_6 (fun _ _ => Iff.trans (dt_2 c_1 c_1) (Iff.trans (dt_a (And.left h_2)) (Iff.trans (dt_a (And.left (And.right h_2))) (i_5 _))))
theorem l_e_Li_setLengths_48 {U : ut} {u : Nat} {x1 : Nat} {x2 : Int32} {x3 : Int32} {S : cs} {K : cs → Prop} : e_Li_setLengths_48 U u x1 x2 x3 S K ↔ lpE (C := (cs → Prop)) (fun (y : (Nat) × (Int32) × (Int32) × (cs)) (R : ((Nat) × (Int32) × (Int32) × (cs)) → Prop) (c : (cs → Prop)) => b_Li_setLengths_48 U u y.1 y.2.1 y.2.2.1 y.2.2.2 (fun z0 z1 z2 z3 => R (z0, z1, z2, z3)) c) (x1, x2, x3, S) K :=
  ⟨fun ⟨I, μ, h0, hs⟩ => ⟨fun t => I t.1 t.2.1 t.2.2.1 t.2.2.2, fun t => μ t.1 t.2.1 t.2.2.1 t.2.2.2, h0, fun t ht => hs _ _ _ _ ht⟩, fun ⟨I, μ, h0, hs⟩ => ⟨fun y0 y1 y2 y3 => I (y0, y1, y2, y3), fun y0 y1 y2 y3 => μ (y0, y1, y2, y3), h0, fun y0 y1 y2 y3 hy => hs (y0, y1, y2, y3) hy⟩⟩
set_option maxHeartbeats 1000000 in
theorem d_e_Li_setLengths_48 {U : ut} {u : Nat} {x1 : Nat} {x2 : Int32} {x3 : Int32} {S : cs} {K : cs → Prop} (h : e_Li_setLengths_48 U u x1 x2 x3 S K) {Q : Prop} (k_K : ∀ (a0 : cs), K a0 → (∀ (K' : cs → Prop), e_Li_setLengths_48 U u x1 x2 x3 S K' ↔ K' a0) → Q) : Q := by
  obtain ⟨o, ho, hoc, hi⟩ := lp_det (C := (cs → Prop)) (b := (fun (y : (Nat) × (Int32) × (Int32) × (cs)) (R : ((Nat) × (Int32) × (Int32) × (cs)) → Prop) (c : (cs → Prop)) => b_Li_setLengths_48 U u y.1 y.2.1 y.2.2.1 y.2.2.2 (fun z0 z1 z2 z3 => R (z0, z1, z2, z3)) c)) (O := (fun (o : ((cs → Prop)) → Prop) => (∃ (a0 : cs), o = fun c => c a0))) (fun y R c hy => d_b_Li_setLengths_48 hy (fun a0 a1 a2 a3 ha ia => Or.inl ⟨(a0, a1, a2, a3), ha, fun R' c' => ia (fun z0 z1 z2 z3 => R' (z0, z1, z2, z3)) c'⟩) (fun a0 ha ia => Or.inr ⟨(fun c => c a0), ⟨a0, rfl⟩, ha, fun R' c' => ia (fun z0 z1 z2 z3 => R' (z0, z1, z2, z3)) c'⟩)) (l_e_Li_setLengths_48.mp h)
  rcases ho with ⟨a0, rfl⟩
  · exact k_K _ hoc (fun K' => Iff.trans l_e_Li_setLengths_48 (hi K'))
theorem v_e_Li_setLengths_48 {U : ut} {u : Nat} {x1 : Nat} {x2 : Int32} {x3 : Int32} {S : cs} {K : cs → Prop} (h : e_Li_setLengths_48 U u x1 x2 x3 S K) {G : Prop} (Inv : Int32 → Int32 → cs → Prop) (h0 : Inv x2 x3 S) (hs : ∀ (yx2 : Int32) (yx3 : Int32) (yS : cs) (R : Nat → Int32 → Int32 → cs → Prop), Inv yx2 yx3 yS → b_Li_setLengths_48 U u x1 yx2 yx3 yS R K → (∃ (zx2 : Int32) (zx3 : Int32) (zS : cs), R x1 zx2 zx3 zS ∧ Inv zx2 zx3 zS) ∨ G) : G := by
  obtain ⟨I, μ, i0, is⟩ := h
  have go : ∀ (n : Nat) (yx2 : Int32) (yx3 : Int32) (yS : cs), μ x1 yx2 yx3 yS < n → I x1 yx2 yx3 yS → Inv yx2 yx3 yS → G := by
    intro n
    induction n with
    | zero => intro yx2 yx3 yS hy; exact absurd hy (Nat.not_lt_zero _)
    | succ n ih =>
      intro yx2 yx3 yS hy hI hV
      rcases hs yx2 yx3 yS _ hV (is x1 yx2 yx3 yS hI) with ⟨zx2, zx3, zS, ⟨hz, hm⟩, hv⟩ | g
      · exact ih zx2 zx3 zS (Nat.lt_of_lt_of_le hm (Nat.le_of_lt_succ hy)) hz hv
      · exact g
  exact go _ x2 x3 S (Nat.lt_succ_self _) i0 h0
theorem r_e_Li_setLengths_48 {U : ut} {u : Nat} {x1 : Nat} {x2 : Int32} {x3 : Int32} {S : cs} {K : cs → Prop} (h : e_Li_setLengths_48 U u x1 x2 x3 S K) : b_Li_setLengths_48 U u x1 x2 x3 S (fun zx1 zx2 zx3 zS => e_Li_setLengths_48 U u zx1 zx2 zx3 zS K) K := by
  obtain ⟨I, μ, i0, is⟩ := h
  exact d_b_Li_setLengths_48 (is x1 x2 x3 S i0) (fun a0 a1 a2 a3 ha ia => (ia _ _).mpr ⟨I, μ, ha.1, is⟩) (fun a0 ha ia => (ia _ _).mpr ha)
set_option maxHeartbeats 1000000 in
theorem d_b_Li_setLengths_15 {U : ut} {u : Nat} {x1 : Nat} {x2 : Int32} {x3 : Int32} {S : cs} {R15 : Nat → Int32 → Int32 → cs → Prop} {K : cs → Prop} (h : b_Li_setLengths_15 U u x1 x2 x3 S R15 K) {Q : Prop} (k_R15 : ∀ (a0 : Nat) (a1 : Int32) (a2 : Int32) (a3 : cs), R15 a0 a1 a2 a3 → (∀ (R15' : Nat → Int32 → Int32 → cs → Prop) (K' : cs → Prop), b_Li_setLengths_15 U u x1 x2 x3 S R15' K' ↔ R15' a0 a1 a2 a3) → Q) (k_K : ∀ (a0 : cs), K a0 → (∀ (R15' : Nat → Int32 → Int32 → cs → Prop) (K' : cs → Prop), b_Li_setLengths_15 U u x1 x2 x3 S R15' K' ↔ K' a0) → Q) : Q := by
  unfold b_Li_setLengths_15 at h
  refine dt_p h (fun c_1 h_2 => ?_) (fun c_1 h_2 => ?_)
  ·
    exact d_e_Li_setLengths_48 h_2 (fun a0 h_4 i_3 => k_K a0 h_4 (fun _ _ => Iff.trans (dt_1 c_1 (fun n => n c_1)) (i_3 _)))
  ·
    exact k_R15 _ _ _ _ (And.right (And.right (And.right (And.right (And.right (And.right (And.right (And.right (And.right (And.right h_2)))))))))) (fun _ _ => Iff.trans (dt_2 c_1 c_1) (Iff.trans (dt_a (And.left h_2)) (Iff.trans (dt_a (And.left (And.right h_2))) (Iff.trans (dt_a (And.left (And.right (And.right h_2)))) (Iff.trans (dt_a (And.left (And.right (And.right (And.right h_2))))) (Iff.trans (dt_a (And.left (And.right (And.right (And.right (And.right h_2)))))) (Iff.trans (dt_a (And.left (And.right (And.right (And.right (And.right (And.right h_2))))))) (Iff.trans (dt_a (And.left (And.right (And.right (And.right (And.right (And.right (And.right h_2)))))))) (Iff.trans (dt_a (And.left (And.right (And.right (And.right (And.right (And.right (And.right (And.right h_2))))))))) (Iff.trans (dt_a (And.left (And.right (And.right (And.right (And.right (And.right (And.right (And.right (And.right h_2)))))))))) (dt_a (And.left (And.right (And.right (And.right (And.right (And.right (And.right (And.right (And.right (And.right h_2)))))))))))))))))))))
theorem l_e_Li_setLengths_15 {U : ut} {u : Nat} {x1 : Nat} {x2 : Int32} {x3 : Int32} {S : cs} {K : cs → Prop} : e_Li_setLengths_15 U u x1 x2 x3 S K ↔ lpE (C := (cs → Prop)) (fun (y : (Nat) × (Int32) × (Int32) × (cs)) (R : ((Nat) × (Int32) × (Int32) × (cs)) → Prop) (c : (cs → Prop)) => b_Li_setLengths_15 U u y.1 y.2.1 y.2.2.1 y.2.2.2 (fun z0 z1 z2 z3 => R (z0, z1, z2, z3)) c) (x1, x2, x3, S) K :=
  ⟨fun ⟨I, μ, h0, hs⟩ => ⟨fun t => I t.1 t.2.1 t.2.2.1 t.2.2.2, fun t => μ t.1 t.2.1 t.2.2.1 t.2.2.2, h0, fun t ht => hs _ _ _ _ ht⟩, fun ⟨I, μ, h0, hs⟩ => ⟨fun y0 y1 y2 y3 => I (y0, y1, y2, y3), fun y0 y1 y2 y3 => μ (y0, y1, y2, y3), h0, fun y0 y1 y2 y3 hy => hs (y0, y1, y2, y3) hy⟩⟩
set_option maxHeartbeats 1000000 in
theorem d_e_Li_setLengths_15 {U : ut} {u : Nat} {x1 : Nat} {x2 : Int32} {x3 : Int32} {S : cs} {K : cs → Prop} (h : e_Li_setLengths_15 U u x1 x2 x3 S K) {Q : Prop} (k_K : ∀ (a0 : cs), K a0 → (∀ (K' : cs → Prop), e_Li_setLengths_15 U u x1 x2 x3 S K' ↔ K' a0) → Q) : Q := by
  obtain ⟨o, ho, hoc, hi⟩ := lp_det (C := (cs → Prop)) (b := (fun (y : (Nat) × (Int32) × (Int32) × (cs)) (R : ((Nat) × (Int32) × (Int32) × (cs)) → Prop) (c : (cs → Prop)) => b_Li_setLengths_15 U u y.1 y.2.1 y.2.2.1 y.2.2.2 (fun z0 z1 z2 z3 => R (z0, z1, z2, z3)) c)) (O := (fun (o : ((cs → Prop)) → Prop) => (∃ (a0 : cs), o = fun c => c a0))) (fun y R c hy => d_b_Li_setLengths_15 hy (fun a0 a1 a2 a3 ha ia => Or.inl ⟨(a0, a1, a2, a3), ha, fun R' c' => ia (fun z0 z1 z2 z3 => R' (z0, z1, z2, z3)) c'⟩) (fun a0 ha ia => Or.inr ⟨(fun c => c a0), ⟨a0, rfl⟩, ha, fun R' c' => ia (fun z0 z1 z2 z3 => R' (z0, z1, z2, z3)) c'⟩)) (l_e_Li_setLengths_15.mp h)
  rcases ho with ⟨a0, rfl⟩
  · exact k_K _ hoc (fun K' => Iff.trans l_e_Li_setLengths_15 (hi K'))
theorem v_e_Li_setLengths_15 {U : ut} {u : Nat} {x1 : Nat} {x2 : Int32} {x3 : Int32} {S : cs} {K : cs → Prop} (h : e_Li_setLengths_15 U u x1 x2 x3 S K) {G : Prop} (Inv : Int32 → Int32 → cs → Prop) (h0 : Inv x2 x3 S) (hs : ∀ (yx2 : Int32) (yx3 : Int32) (yS : cs) (R : Nat → Int32 → Int32 → cs → Prop), Inv yx2 yx3 yS → b_Li_setLengths_15 U u x1 yx2 yx3 yS R K → (∃ (zx2 : Int32) (zx3 : Int32) (zS : cs), R x1 zx2 zx3 zS ∧ Inv zx2 zx3 zS) ∨ G) : G := by
  obtain ⟨I, μ, i0, is⟩ := h
  have go : ∀ (n : Nat) (yx2 : Int32) (yx3 : Int32) (yS : cs), μ x1 yx2 yx3 yS < n → I x1 yx2 yx3 yS → Inv yx2 yx3 yS → G := by
    intro n
    induction n with
    | zero => intro yx2 yx3 yS hy; exact absurd hy (Nat.not_lt_zero _)
    | succ n ih =>
      intro yx2 yx3 yS hy hI hV
      rcases hs yx2 yx3 yS _ hV (is x1 yx2 yx3 yS hI) with ⟨zx2, zx3, zS, ⟨hz, hm⟩, hv⟩ | g
      · exact ih zx2 zx3 zS (Nat.lt_of_lt_of_le hm (Nat.le_of_lt_succ hy)) hz hv
      · exact g
  exact go _ x2 x3 S (Nat.lt_succ_self _) i0 h0
theorem r_e_Li_setLengths_15 {U : ut} {u : Nat} {x1 : Nat} {x2 : Int32} {x3 : Int32} {S : cs} {K : cs → Prop} (h : e_Li_setLengths_15 U u x1 x2 x3 S K) : b_Li_setLengths_15 U u x1 x2 x3 S (fun zx1 zx2 zx3 zS => e_Li_setLengths_15 U u zx1 zx2 zx3 zS K) K := by
  obtain ⟨I, μ, i0, is⟩ := h
  exact d_b_Li_setLengths_15 (is x1 x2 x3 S i0) (fun a0 a1 a2 a3 ha ia => (ia _ _).mpr ⟨I, μ, ha.1, is⟩) (fun a0 ha ia => (ia _ _).mpr ha)
set_option maxHeartbeats 1000000 in
theorem d_p_Li_setLengths {U : ut} {u : Nat} {x1 : Nat} {S : cs} {K : cs → Prop} (h : p_Li_setLengths U u x1 S K) {Q : Prop} (k_K : ∀ (a0 : cs), K a0 → (∀ (K' : cs → Prop), p_Li_setLengths U u x1 S K' ↔ K' a0) → Q) : Q := by
  unfold p_Li_setLengths at h
  refine d_p_Li_sortSymbols (And.right (And.right h)) (fun S5 h_2 i_1 => ?_)
  exact d_e_Li_setLengths_15 h_2 (fun a0 h_4 i_3 => k_K a0 h_4 (fun _ => Iff.trans (dt_a (And.left h)) (Iff.trans (dt_a (And.left (And.right h))) (Iff.trans (i_1 _) (i_3 _)))))
set_option maxHeartbeats 1000000 in
theorem d_b_Oc_giveOut_74 {U : ut} {u : Nat} {x1 : Int32} {x2 : Int32} {x3 : Int32} {x4 : Int32} {S : cs} {R9 : Int32 → Int32 → cs → Prop} {R23 : Int32 → Int32 → Int32 → Int32 → cs → Prop} {K : cs → Prop} (h : b_Oc_giveOut_74 U u x1 x2 x3 x4 S R9 R23 K) {Q : Prop} (k_R9 : ∀ (a0 : Int32) (a1 : Int32) (a2 : cs), R9 a0 a1 a2 → (∀ (R9' : Int32 → Int32 → cs → Prop) (R23' : Int32 → Int32 → Int32 → Int32 → cs → Prop) (K' : cs → Prop), b_Oc_giveOut_74 U u x1 x2 x3 x4 S R9' R23' K' ↔ R9' a0 a1 a2) → Q) (k_R23 : ∀ (a0 : Int32) (a1 : Int32) (a2 : Int32) (a3 : Int32) (a4 : cs), R23 a0 a1 a2 a3 a4 → (∀ (R9' : Int32 → Int32 → cs → Prop) (R23' : Int32 → Int32 → Int32 → Int32 → cs → Prop) (K' : cs → Prop), b_Oc_giveOut_74 U u x1 x2 x3 x4 S R9' R23' K' ↔ R23' a0 a1 a2 a3 a4) → Q) (k_K : ∀ (a0 : cs), K a0 → (∀ (R9' : Int32 → Int32 → cs → Prop) (R23' : Int32 → Int32 → Int32 → Int32 → cs → Prop) (K' : cs → Prop), b_Oc_giveOut_74 U u x1 x2 x3 x4 S R9' R23' K' ↔ K' a0) → Q) : Q := by
  unfold b_Oc_giveOut_74 at h
  exact k_R23 _ _ _ _ _ h (fun _ _ _ => Iff.rfl)
set_option maxHeartbeats 1000000 in
theorem d_b_Oc_giveOut_23 {U : ut} {u : Nat} {x1 : Int32} {x2 : Int32} {x3 : Int32} {x4 : Int32} {S : cs} {R9 : Int32 → Int32 → cs → Prop} {R23 : Int32 → Int32 → Int32 → Int32 → cs → Prop} {K : cs → Prop} (h : b_Oc_giveOut_23 U u x1 x2 x3 x4 S R9 R23 K) {Q : Prop} (k_R9 : ∀ (a0 : Int32) (a1 : Int32) (a2 : cs), R9 a0 a1 a2 → (∀ (R9' : Int32 → Int32 → cs → Prop) (R23' : Int32 → Int32 → Int32 → Int32 → cs → Prop) (K' : cs → Prop), b_Oc_giveOut_23 U u x1 x2 x3 x4 S R9' R23' K' ↔ R9' a0 a1 a2) → Q) (k_R23 : ∀ (a0 : Int32) (a1 : Int32) (a2 : Int32) (a3 : Int32) (a4 : cs), R23 a0 a1 a2 a3 a4 → (∀ (R9' : Int32 → Int32 → cs → Prop) (R23' : Int32 → Int32 → Int32 → Int32 → cs → Prop) (K' : cs → Prop), b_Oc_giveOut_23 U u x1 x2 x3 x4 S R9' R23' K' ↔ R23' a0 a1 a2 a3 a4) → Q) (k_K : ∀ (a0 : cs), K a0 → (∀ (R9' : Int32 → Int32 → cs → Prop) (R23' : Int32 → Int32 → Int32 → Int32 → cs → Prop) (K' : cs → Prop), b_Oc_giveOut_23 U u x1 x2 x3 x4 S R9' R23' K' ↔ K' a0) → Q) : Q := by
  unfold b_Oc_giveOut_23 at h
  refine dt_p h (fun c_1 h_2 => ?_) (fun c_1 h_2 => ?_)
  ·
    exact k_R9 _ _ _ (And.right (And.right (And.right h_2))) (fun _ _ _ => Iff.trans (dt_1 c_1 (fun n => n c_1)) (Iff.trans (dt_a (And.left h_2)) (Iff.trans (dt_a (And.left (And.right h_2))) (dt_a (And.left (And.right (And.right h_2)))))))
  ·
    refine dt_n (And.right (And.right (And.right h_2))) (fun c_3 h_4 => ?_) (fun c_3 h_4 => ?_)
    ·
      exact d_b_Oc_giveOut_74 h_4 (fun a0 a1 a2 h_6 i_5 => k_R9 a0 a1 a2 h_6 (fun _ _ _ => Iff.trans (dt_2 c_1 c_1) (Iff.trans (dt_a (And.left h_2)) (Iff.trans (dt_a (And.left (And.right h_2))) (Iff.trans (dt_a (And.left (And.right (And.right h_2)))) (Iff.trans (dt_1 c_3 c_3) (i_5 _ _ _))))))) (fun a0 a1 a2 a3 a4 h_8 i_7 => k_R23 a0 a1 a2 a3 a4 h_8 (fun _ _ _ => Iff.trans (dt_2 c_1 c_1) (Iff.trans (dt_a (And.left h_2)) (Iff.trans (dt_a (And.left (And.right h_2))) (Iff.trans (dt_a (And.left (And.right (And.right h_2)))) (Iff.trans (dt_1 c_3 c_3) (i_7 _ _ _))))))) (fun a0 h_10 i_9 => k_K a0 h_10 (fun _ _ _ => Iff.trans (dt_2 c_1 c_1) (Iff.trans (dt_a (And.left h_2)) (Iff.trans (dt_a (And.left (And.right h_2))) (Iff.trans (dt_a (And.left (And.right (And.right h_2)))) (Iff.trans (dt_1 c_3 c_3) (i_9 _ _ _)))))))
    ·
      exact d_b_Oc_giveOut_74 (And.right (And.right (And.right (And.right (And.right (And.right h_4)))))) (fun a0 a1 a2 h_12 i_11 => k_R9 a0 a1 a2 h_12 (fun _ _ _ => Iff.trans (dt_2 c_1 c_1) (Iff.trans (dt_a (And.left h_2)) (Iff.trans (dt_a (And.left (And.right h_2))) (Iff.trans (dt_a (And.left (And.right (And.right h_2)))) (Iff.trans (dt_2 (fun n => n c_3) c_3) (Iff.trans (dt_a (And.left h_4)) (Iff.trans (dt_a (And.left (And.right h_4))) (Iff.trans (dt_a (And.left (And.right (And.right h_4)))) (Iff.trans (dt_a (And.left (And.right (And.right (And.right h_4))))) (Iff.trans (dt_a (And.left (And.right (And.right (And.right (And.right h_4)))))) (Iff.trans (dt_a (And.left (And.right (And.right (And.right (And.right (And.right h_4))))))) (i_11 _ _ _))))))))))))) (fun a0 a1 a2 a3 a4 h_14 i_13 => k_R23 a0 a1 a2 a3 a4 h_14 (fun _ _ _ => Iff.trans (dt_2 c_1 c_1) (Iff.trans (dt_a (And.left h_2)) (Iff.trans (dt_a (And.left (And.right h_2))) (Iff.trans (dt_a (And.left (And.right (And.right h_2)))) (Iff.trans (dt_2 (fun n => n c_3) c_3) (Iff.trans (dt_a (And.left h_4)) (Iff.trans (dt_a (And.left (And.right h_4))) (Iff.trans (dt_a (And.left (And.right (And.right h_4)))) (Iff.trans (dt_a (And.left (And.right (And.right (And.right h_4))))) (Iff.trans (dt_a (And.left (And.right (And.right (And.right (And.right h_4)))))) (Iff.trans (dt_a (And.left (And.right (And.right (And.right (And.right (And.right h_4))))))) (i_13 _ _ _))))))))))))) (fun a0 h_16 i_15 => k_K a0 h_16 (fun _ _ _ => Iff.trans (dt_2 c_1 c_1) (Iff.trans (dt_a (And.left h_2)) (Iff.trans (dt_a (And.left (And.right h_2))) (Iff.trans (dt_a (And.left (And.right (And.right h_2)))) (Iff.trans (dt_2 (fun n => n c_3) c_3) (Iff.trans (dt_a (And.left h_4)) (Iff.trans (dt_a (And.left (And.right h_4))) (Iff.trans (dt_a (And.left (And.right (And.right h_4)))) (Iff.trans (dt_a (And.left (And.right (And.right (And.right h_4))))) (Iff.trans (dt_a (And.left (And.right (And.right (And.right (And.right h_4)))))) (Iff.trans (dt_a (And.left (And.right (And.right (And.right (And.right (And.right h_4))))))) (i_15 _ _ _)))))))))))))
theorem l_e_Oc_giveOut_23 {U : ut} {u : Nat} {x1 : Int32} {x2 : Int32} {x3 : Int32} {x4 : Int32} {S : cs} {R9 : Int32 → Int32 → cs → Prop} {K : cs → Prop} : e_Oc_giveOut_23 U u x1 x2 x3 x4 S R9 K ↔ lpE (C := (Int32 → Int32 → cs → Prop) × (cs → Prop)) (fun (y : (Int32) × (Int32) × (Int32) × (Int32) × (cs)) (R : ((Int32) × (Int32) × (Int32) × (Int32) × (cs)) → Prop) (c : (Int32 → Int32 → cs → Prop) × (cs → Prop)) => b_Oc_giveOut_23 U u y.1 y.2.1 y.2.2.1 y.2.2.2.1 y.2.2.2.2 c.1 (fun z0 z1 z2 z3 z4 => R (z0, z1, z2, z3, z4)) c.2) (x1, x2, x3, x4, S) (R9, K) :=
  ⟨fun ⟨I, μ, h0, hs⟩ => ⟨fun t => I t.1 t.2.1 t.2.2.1 t.2.2.2.1 t.2.2.2.2, fun t => μ t.1 t.2.1 t.2.2.1 t.2.2.2.1 t.2.2.2.2, h0, fun t ht => hs _ _ _ _ _ ht⟩, fun ⟨I, μ, h0, hs⟩ => ⟨fun y0 y1 y2 y3 y4 => I (y0, y1, y2, y3, y4), fun y0 y1 y2 y3 y4 => μ (y0, y1, y2, y3, y4), h0, fun y0 y1 y2 y3 y4 hy => hs (y0, y1, y2, y3, y4) hy⟩⟩
set_option maxHeartbeats 1000000 in
theorem d_e_Oc_giveOut_23 {U : ut} {u : Nat} {x1 : Int32} {x2 : Int32} {x3 : Int32} {x4 : Int32} {S : cs} {R9 : Int32 → Int32 → cs → Prop} {K : cs → Prop} (h : e_Oc_giveOut_23 U u x1 x2 x3 x4 S R9 K) {Q : Prop} (k_R9 : ∀ (a0 : Int32) (a1 : Int32) (a2 : cs), R9 a0 a1 a2 → (∀ (R9' : Int32 → Int32 → cs → Prop) (K' : cs → Prop), e_Oc_giveOut_23 U u x1 x2 x3 x4 S R9' K' ↔ R9' a0 a1 a2) → Q) (k_K : ∀ (a0 : cs), K a0 → (∀ (R9' : Int32 → Int32 → cs → Prop) (K' : cs → Prop), e_Oc_giveOut_23 U u x1 x2 x3 x4 S R9' K' ↔ K' a0) → Q) : Q := by
  obtain ⟨o, ho, hoc, hi⟩ := lp_det (C := (Int32 → Int32 → cs → Prop) × (cs → Prop)) (b := (fun (y : (Int32) × (Int32) × (Int32) × (Int32) × (cs)) (R : ((Int32) × (Int32) × (Int32) × (Int32) × (cs)) → Prop) (c : (Int32 → Int32 → cs → Prop) × (cs → Prop)) => b_Oc_giveOut_23 U u y.1 y.2.1 y.2.2.1 y.2.2.2.1 y.2.2.2.2 c.1 (fun z0 z1 z2 z3 z4 => R (z0, z1, z2, z3, z4)) c.2)) (O := (fun (o : ((Int32 → Int32 → cs → Prop) × (cs → Prop)) → Prop) => (∃ (a0 : Int32) (a1 : Int32) (a2 : cs), o = fun c => c.1 a0 a1 a2) ∨ (∃ (a0 : cs), o = fun c => c.2 a0))) (fun y R c hy => d_b_Oc_giveOut_23 hy (fun a0 a1 a2 ha ia => Or.inr ⟨(fun c => c.1 a0 a1 a2), Or.inl ⟨a0, a1, a2, rfl⟩, ha, fun R' c' => ia c'.1 (fun z0 z1 z2 z3 z4 => R' (z0, z1, z2, z3, z4)) c'.2⟩) (fun a0 a1 a2 a3 a4 ha ia => Or.inl ⟨(a0, a1, a2, a3, a4), ha, fun R' c' => ia c'.1 (fun z0 z1 z2 z3 z4 => R' (z0, z1, z2, z3, z4)) c'.2⟩) (fun a0 ha ia => Or.inr ⟨(fun c => c.2 a0), Or.inr (⟨a0, rfl⟩), ha, fun R' c' => ia c'.1 (fun z0 z1 z2 z3 z4 => R' (z0, z1, z2, z3, z4)) c'.2⟩)) (l_e_Oc_giveOut_23.mp h)
  rcases ho with ⟨a0, a1, a2, rfl⟩ | ⟨a0, rfl⟩
  · exact k_R9 _ _ _ hoc (fun R9' K' => Iff.trans l_e_Oc_giveOut_23 (hi (R9', K')))
  · exact k_K _ hoc (fun R9' K' => Iff.trans l_e_Oc_giveOut_23 (hi (R9', K')))
theorem v_e_Oc_giveOut_23 {U : ut} {u : Nat} {x1 : Int32} {x2 : Int32} {x3 : Int32} {x4 : Int32} {S : cs} {R9 : Int32 → Int32 → cs → Prop} {K : cs → Prop} (h : e_Oc_giveOut_23 U u x1 x2 x3 x4 S R9 K) {G : Prop} (Inv : Int32 → Int32 → cs → Prop) (h0 : Inv x1 x4 S) (hs : ∀ (yx1 : Int32) (yx4 : Int32) (yS : cs) (R : Int32 → Int32 → Int32 → Int32 → cs → Prop), Inv yx1 yx4 yS → b_Oc_giveOut_23 U u yx1 x2 x3 yx4 yS R9 R K → (∃ (zx1 : Int32) (zx4 : Int32) (zS : cs), R zx1 x2 x3 zx4 zS ∧ Inv zx1 zx4 zS) ∨ G) : G := by
  obtain ⟨I, μ, i0, is⟩ := h
  have go : ∀ (n : Nat) (yx1 : Int32) (yx4 : Int32) (yS : cs), μ yx1 x2 x3 yx4 yS < n → I yx1 x2 x3 yx4 yS → Inv yx1 yx4 yS → G := by
    intro n
    induction n with
    | zero => intro yx1 yx4 yS hy; exact absurd hy (Nat.not_lt_zero _)
    | succ n ih =>
      intro yx1 yx4 yS hy hI hV
      rcases hs yx1 yx4 yS _ hV (is yx1 x2 x3 yx4 yS hI) with ⟨zx1, zx4, zS, ⟨hz, hm⟩, hv⟩ | g
      · exact ih zx1 zx4 zS (Nat.lt_of_lt_of_le hm (Nat.le_of_lt_succ hy)) hz hv
      · exact g
  exact go _ x1 x4 S (Nat.lt_succ_self _) i0 h0
theorem r_e_Oc_giveOut_23 {U : ut} {u : Nat} {x1 : Int32} {x2 : Int32} {x3 : Int32} {x4 : Int32} {S : cs} {R9 : Int32 → Int32 → cs → Prop} {K : cs → Prop} (h : e_Oc_giveOut_23 U u x1 x2 x3 x4 S R9 K) : b_Oc_giveOut_23 U u x1 x2 x3 x4 S R9 (fun zx1 zx2 zx3 zx4 zS => e_Oc_giveOut_23 U u zx1 zx2 zx3 zx4 zS R9 K) K := by
  obtain ⟨I, μ, i0, is⟩ := h
  exact d_b_Oc_giveOut_23 (is x1 x2 x3 x4 S i0) (fun a0 a1 a2 ha ia => (ia _ _ _).mpr ha) (fun a0 a1 a2 a3 a4 ha ia => (ia _ _ _).mpr ⟨I, μ, ha.1, is⟩) (fun a0 ha ia => (ia _ _ _).mpr ha)
set_option maxHeartbeats 1000000 in
theorem d_b_Oc_giveOut_9 {U : ut} {u : Nat} {x1 : Int32} {x2 : Int32} {S : cs} {R9 : Int32 → Int32 → cs → Prop} {K : cs → Prop} (h : b_Oc_giveOut_9 U u x1 x2 S R9 K) {Q : Prop} (k_R9 : ∀ (a0 : Int32) (a1 : Int32) (a2 : cs), R9 a0 a1 a2 → (∀ (R9' : Int32 → Int32 → cs → Prop) (K' : cs → Prop), b_Oc_giveOut_9 U u x1 x2 S R9' K' ↔ R9' a0 a1 a2) → Q) (k_K : ∀ (a0 : cs), K a0 → (∀ (R9' : Int32 → Int32 → cs → Prop) (K' : cs → Prop), b_Oc_giveOut_9 U u x1 x2 S R9' K' ↔ K' a0) → Q) : Q := by
  unfold b_Oc_giveOut_9 at h
  refine dt_p h (fun c_1 h_2 => ?_) (fun c_1 h_2 => ?_)
  ·
    exact k_K _ h_2 (fun _ _ => dt_1 c_1 (fun n => n c_1))
  ·
    exact d_e_Oc_giveOut_23 h_2 (fun a0 a1 a2 h_4 i_3 => k_R9 a0 a1 a2 h_4 (fun _ _ => Iff.trans (dt_2 c_1 c_1) (i_3 _ _))) (fun a0 h_6 i_5 => k_K a0 h_6 (fun _ _ => Iff.trans (dt_2 c_1 c_1) (i_5 _ _)))
theorem l_e_Oc_giveOut_9 {U : ut} {u : Nat} {x1 : Int32} {x2 : Int32} {S : cs} {K : cs → Prop} : e_Oc_giveOut_9 U u x1 x2 S K ↔ lpE (C := (cs → Prop)) (fun (y : (Int32) × (Int32) × (cs)) (R : ((Int32) × (Int32) × (cs)) → Prop) (c : (cs → Prop)) => b_Oc_giveOut_9 U u y.1 y.2.1 y.2.2 (fun z0 z1 z2 => R (z0, z1, z2)) c) (x1, x2, S) K :=
  ⟨fun ⟨I, μ, h0, hs⟩ => ⟨fun t => I t.1 t.2.1 t.2.2, fun t => μ t.1 t.2.1 t.2.2, h0, fun t ht => hs _ _ _ ht⟩, fun ⟨I, μ, h0, hs⟩ => ⟨fun y0 y1 y2 => I (y0, y1, y2), fun y0 y1 y2 => μ (y0, y1, y2), h0, fun y0 y1 y2 hy => hs (y0, y1, y2) hy⟩⟩
set_option maxHeartbeats 1000000 in
theorem d_e_Oc_giveOut_9 {U : ut} {u : Nat} {x1 : Int32} {x2 : Int32} {S : cs} {K : cs → Prop} (h : e_Oc_giveOut_9 U u x1 x2 S K) {Q : Prop} (k_K : ∀ (a0 : cs), K a0 → (∀ (K' : cs → Prop), e_Oc_giveOut_9 U u x1 x2 S K' ↔ K' a0) → Q) : Q := by
  obtain ⟨o, ho, hoc, hi⟩ := lp_det (C := (cs → Prop)) (b := (fun (y : (Int32) × (Int32) × (cs)) (R : ((Int32) × (Int32) × (cs)) → Prop) (c : (cs → Prop)) => b_Oc_giveOut_9 U u y.1 y.2.1 y.2.2 (fun z0 z1 z2 => R (z0, z1, z2)) c)) (O := (fun (o : ((cs → Prop)) → Prop) => (∃ (a0 : cs), o = fun c => c a0))) (fun y R c hy => d_b_Oc_giveOut_9 hy (fun a0 a1 a2 ha ia => Or.inl ⟨(a0, a1, a2), ha, fun R' c' => ia (fun z0 z1 z2 => R' (z0, z1, z2)) c'⟩) (fun a0 ha ia => Or.inr ⟨(fun c => c a0), ⟨a0, rfl⟩, ha, fun R' c' => ia (fun z0 z1 z2 => R' (z0, z1, z2)) c'⟩)) (l_e_Oc_giveOut_9.mp h)
  rcases ho with ⟨a0, rfl⟩
  · exact k_K _ hoc (fun K' => Iff.trans l_e_Oc_giveOut_9 (hi K'))
theorem v_e_Oc_giveOut_9 {U : ut} {u : Nat} {x1 : Int32} {x2 : Int32} {S : cs} {K : cs → Prop} (h : e_Oc_giveOut_9 U u x1 x2 S K) {G : Prop} (Inv : Int32 → Int32 → cs → Prop) (h0 : Inv x1 x2 S) (hs : ∀ (yx1 : Int32) (yx2 : Int32) (yS : cs) (R : Int32 → Int32 → cs → Prop), Inv yx1 yx2 yS → b_Oc_giveOut_9 U u yx1 yx2 yS R K → (∃ (zx1 : Int32) (zx2 : Int32) (zS : cs), R zx1 zx2 zS ∧ Inv zx1 zx2 zS) ∨ G) : G := by
  obtain ⟨I, μ, i0, is⟩ := h
  have go : ∀ (n : Nat) (yx1 : Int32) (yx2 : Int32) (yS : cs), μ yx1 yx2 yS < n → I yx1 yx2 yS → Inv yx1 yx2 yS → G := by
    intro n
    induction n with
    | zero => intro yx1 yx2 yS hy; exact absurd hy (Nat.not_lt_zero _)
    | succ n ih =>
      intro yx1 yx2 yS hy hI hV
      rcases hs yx1 yx2 yS _ hV (is yx1 yx2 yS hI) with ⟨zx1, zx2, zS, ⟨hz, hm⟩, hv⟩ | g
      · exact ih zx1 zx2 zS (Nat.lt_of_lt_of_le hm (Nat.le_of_lt_succ hy)) hz hv
      · exact g
  exact go _ x1 x2 S (Nat.lt_succ_self _) i0 h0
theorem r_e_Oc_giveOut_9 {U : ut} {u : Nat} {x1 : Int32} {x2 : Int32} {S : cs} {K : cs → Prop} (h : e_Oc_giveOut_9 U u x1 x2 S K) : b_Oc_giveOut_9 U u x1 x2 S (fun zx1 zx2 zS => e_Oc_giveOut_9 U u zx1 zx2 zS K) K := by
  obtain ⟨I, μ, i0, is⟩ := h
  exact d_b_Oc_giveOut_9 (is x1 x2 S i0) (fun a0 a1 a2 ha ia => (ia _ _).mpr ⟨I, μ, ha.1, is⟩) (fun a0 ha ia => (ia _ _).mpr ha)
set_option maxHeartbeats 1000000 in
theorem d_p_Oc_giveOut {U : ut} {u : Nat} {S : cs} {K : cs → Prop} (h : p_Oc_giveOut U u S K) {Q : Prop} (k_K : ∀ (a0 : cs), K a0 → (∀ (K' : cs → Prop), p_Oc_giveOut U u S K' ↔ K' a0) → Q) : Q := by
  unfold p_Oc_giveOut at h
  exact d_e_Oc_giveOut_9 h (fun a0 h_2 i_1 => k_K a0 h_2 (fun _ => i_1 _))
set_option maxHeartbeats 1000000 in
theorem d_b_Pa_makeCodes_51 {U : ut} {u : Nat} {x2 : Int32} {S : cs} {R51 : Int32 → cs → Prop} {K : cs → Prop} (h : b_Pa_makeCodes_51 U u x2 S R51 K) {Q : Prop} (k_R51 : ∀ (a0 : Int32) (a1 : cs), R51 a0 a1 → (∀ (R51' : Int32 → cs → Prop) (K' : cs → Prop), b_Pa_makeCodes_51 U u x2 S R51' K' ↔ R51' a0 a1) → Q) (k_K : ∀ (a0 : cs), K a0 → (∀ (R51' : Int32 → cs → Prop) (K' : cs → Prop), b_Pa_makeCodes_51 U u x2 S R51' K' ↔ K' a0) → Q) : Q := by
  unfold b_Pa_makeCodes_51 at h
  refine dt_p h (fun c_1 h_2 => ?_) (fun c_1 h_2 => ?_)
  ·
    exact k_K _ h_2 (fun _ _ => dt_1 c_1 (fun n => n c_1))
  ·
    refine d_p_Li_setLengths (And.right (And.right (And.right (And.right (And.right (And.right h_2)))))) (fun S69 h_4 i_3 => ?_)
    refine d_p_Oc_giveOut (And.right (And.right (And.right (And.right (And.right h_4))))) (fun S78 h_6 i_5 => ?_)
    refine d_p_Li_setLengths (And.right (And.right (And.right (And.right (And.right (And.right h_6)))))) (fun S91 h_8 i_7 => ?_)
    refine d_p_Oc_giveOut (And.right (And.right (And.right (And.right (And.right h_8))))) (fun S100 h_10 i_9 => ?_)
    exact k_R51 _ _ h_10 (fun _ _ => Iff.trans (dt_2 c_1 c_1) (Iff.trans (dt_a (And.left h_2)) (Iff.trans (dt_a (And.left (And.right h_2))) (Iff.trans (dt_a (And.left (And.right (And.right h_2)))) (Iff.trans (dt_a (And.left (And.right (And.right (And.right h_2))))) (Iff.trans (dt_a (And.left (And.right (And.right (And.right (And.right h_2)))))) (Iff.trans (dt_a (And.left (And.right (And.right (And.right (And.right (And.right h_2))))))) (Iff.trans (i_3 _) (Iff.trans (dt_a (And.left h_4)) (Iff.trans (dt_a (And.left (And.right h_4))) (Iff.trans (dt_a (And.left (And.right (And.right h_4)))) (Iff.trans (dt_a (And.left (And.right (And.right (And.right h_4))))) (Iff.trans (dt_a (And.left (And.right (And.right (And.right (And.right h_4)))))) (Iff.trans (i_5 _) (Iff.trans (dt_a (And.left h_6)) (Iff.trans (dt_a (And.left (And.right h_6))) (Iff.trans (dt_a (And.left (And.right (And.right h_6)))) (Iff.trans (dt_a (And.left (And.right (And.right (And.right h_6))))) (Iff.trans (dt_a (And.left (And.right (And.right (And.right (And.right h_6)))))) (Iff.trans (dt_a (And.left (And.right (And.right (And.right (And.right (And.right h_6))))))) (Iff.trans (i_7 _) (Iff.trans (dt_a (And.left h_8)) (Iff.trans (dt_a (And.left (And.right h_8))) (Iff.trans (dt_a (And.left (And.right (And.right h_8)))) (Iff.trans (dt_a (And.left (And.right (And.right (And.right h_8))))) (Iff.trans (dt_a (And.left (And.right (And.right (And.right (And.right h_8)))))) (i_9 _)))))))))))))))))))))))))))
theorem l_e_Pa_makeCodes_51 {U : ut} {u : Nat} {x2 : Int32} {S : cs} {K : cs → Prop} : e_Pa_makeCodes_51 U u x2 S K ↔ lpE (C := (cs → Prop)) (fun (y : (Int32) × (cs)) (R : ((Int32) × (cs)) → Prop) (c : (cs → Prop)) => b_Pa_makeCodes_51 U u y.1 y.2 (fun z0 z1 => R (z0, z1)) c) (x2, S) K :=
  ⟨fun ⟨I, μ, h0, hs⟩ => ⟨fun t => I t.1 t.2, fun t => μ t.1 t.2, h0, fun t ht => hs _ _ ht⟩, fun ⟨I, μ, h0, hs⟩ => ⟨fun y0 y1 => I (y0, y1), fun y0 y1 => μ (y0, y1), h0, fun y0 y1 hy => hs (y0, y1) hy⟩⟩
set_option maxHeartbeats 1000000 in
theorem d_e_Pa_makeCodes_51 {U : ut} {u : Nat} {x2 : Int32} {S : cs} {K : cs → Prop} (h : e_Pa_makeCodes_51 U u x2 S K) {Q : Prop} (k_K : ∀ (a0 : cs), K a0 → (∀ (K' : cs → Prop), e_Pa_makeCodes_51 U u x2 S K' ↔ K' a0) → Q) : Q := by
  obtain ⟨o, ho, hoc, hi⟩ := lp_det (C := (cs → Prop)) (b := (fun (y : (Int32) × (cs)) (R : ((Int32) × (cs)) → Prop) (c : (cs → Prop)) => b_Pa_makeCodes_51 U u y.1 y.2 (fun z0 z1 => R (z0, z1)) c)) (O := (fun (o : ((cs → Prop)) → Prop) => (∃ (a0 : cs), o = fun c => c a0))) (fun y R c hy => d_b_Pa_makeCodes_51 hy (fun a0 a1 ha ia => Or.inl ⟨(a0, a1), ha, fun R' c' => ia (fun z0 z1 => R' (z0, z1)) c'⟩) (fun a0 ha ia => Or.inr ⟨(fun c => c a0), ⟨a0, rfl⟩, ha, fun R' c' => ia (fun z0 z1 => R' (z0, z1)) c'⟩)) (l_e_Pa_makeCodes_51.mp h)
  rcases ho with ⟨a0, rfl⟩
  · exact k_K _ hoc (fun K' => Iff.trans l_e_Pa_makeCodes_51 (hi K'))
theorem v_e_Pa_makeCodes_51 {U : ut} {u : Nat} {x2 : Int32} {S : cs} {K : cs → Prop} (h : e_Pa_makeCodes_51 U u x2 S K) {G : Prop} (Inv : Int32 → cs → Prop) (h0 : Inv x2 S) (hs : ∀ (yx2 : Int32) (yS : cs) (R : Int32 → cs → Prop), Inv yx2 yS → b_Pa_makeCodes_51 U u yx2 yS R K → (∃ (zx2 : Int32) (zS : cs), R zx2 zS ∧ Inv zx2 zS) ∨ G) : G := by
  obtain ⟨I, μ, i0, is⟩ := h
  have go : ∀ (n : Nat) (yx2 : Int32) (yS : cs), μ yx2 yS < n → I yx2 yS → Inv yx2 yS → G := by
    intro n
    induction n with
    | zero => intro yx2 yS hy; exact absurd hy (Nat.not_lt_zero _)
    | succ n ih =>
      intro yx2 yS hy hI hV
      rcases hs yx2 yS _ hV (is yx2 yS hI) with ⟨zx2, zS, ⟨hz, hm⟩, hv⟩ | g
      · exact ih zx2 zS (Nat.lt_of_lt_of_le hm (Nat.le_of_lt_succ hy)) hz hv
      · exact g
  exact go _ x2 S (Nat.lt_succ_self _) i0 h0
theorem r_e_Pa_makeCodes_51 {U : ut} {u : Nat} {x2 : Int32} {S : cs} {K : cs → Prop} (h : e_Pa_makeCodes_51 U u x2 S K) : b_Pa_makeCodes_51 U u x2 S (fun zx2 zS => e_Pa_makeCodes_51 U u zx2 zS K) K := by
  obtain ⟨I, μ, i0, is⟩ := h
  exact d_b_Pa_makeCodes_51 (is x2 S i0) (fun a0 a1 ha ia => (ia _ _).mpr ⟨I, μ, ha.1, is⟩) (fun a0 ha ia => (ia _ _).mpr ha)
set_option maxHeartbeats 1000000 in
theorem d_b_Pa_makeCodes_2 {U : ut} {u : Nat} {x1 : Int32} {x2 : Int32} {S : cs} {R2 : Int32 → Int32 → cs → Prop} {K : cs → Prop} (h : b_Pa_makeCodes_2 U u x1 x2 S R2 K) {Q : Prop} (k_R2 : ∀ (a0 : Int32) (a1 : Int32) (a2 : cs), R2 a0 a1 a2 → (∀ (R2' : Int32 → Int32 → cs → Prop) (K' : cs → Prop), b_Pa_makeCodes_2 U u x1 x2 S R2' K' ↔ R2' a0 a1 a2) → Q) (k_K : ∀ (a0 : cs), K a0 → (∀ (R2' : Int32 → Int32 → cs → Prop) (K' : cs → Prop), b_Pa_makeCodes_2 U u x1 x2 S R2' K' ↔ K' a0) → Q) : Q := by
  unfold b_Pa_makeCodes_2 at h
  refine dt_p h (fun c_1 h_2 => ?_) (fun c_1 h_2 => ?_)
  ·
    refine d_p_Pa_writeData h_2 (fun S41 h_4 i_3 => ?_)
    exact d_e_Pa_makeCodes_51 h_4 (fun a0 h_6 i_5 => k_K a0 h_6 (fun _ _ => Iff.trans (dt_1 c_1 (fun n => n c_1)) (Iff.trans (i_3 _) (i_5 _))))
  ·
    refine d_p_Oc_begin (And.right (And.right (And.right (And.right (And.right h_2))))) (fun S16 h_8 i_7 => ?_)
    refine d_p_Oc_begin (And.right (And.right (And.right (And.right (And.right h_8))))) (fun S25 h_10 i_9 => ?_)
    exact k_R2 _ _ _ h_10 (fun _ _ => Iff.trans (dt_2 c_1 c_1) (Iff.trans (dt_a (And.left h_2)) (Iff.trans (dt_a (And.left (And.right h_2))) (Iff.trans (dt_a (And.left (And.right (And.right h_2)))) (Iff.trans (dt_a (And.left (And.right (And.right (And.right h_2))))) (Iff.trans (dt_a (And.left (And.right (And.right (And.right (And.right h_2)))))) (Iff.trans (i_7 _) (Iff.trans (dt_a (And.left h_8)) (Iff.trans (dt_a (And.left (And.right h_8))) (Iff.trans (dt_a (And.left (And.right (And.right h_8)))) (Iff.trans (dt_a (And.left (And.right (And.right (And.right h_8))))) (Iff.trans (dt_a (And.left (And.right (And.right (And.right (And.right h_8)))))) (i_9 _)))))))))))))
theorem l_e_Pa_makeCodes_2 {U : ut} {u : Nat} {x1 : Int32} {x2 : Int32} {S : cs} {K : cs → Prop} : e_Pa_makeCodes_2 U u x1 x2 S K ↔ lpE (C := (cs → Prop)) (fun (y : (Int32) × (Int32) × (cs)) (R : ((Int32) × (Int32) × (cs)) → Prop) (c : (cs → Prop)) => b_Pa_makeCodes_2 U u y.1 y.2.1 y.2.2 (fun z0 z1 z2 => R (z0, z1, z2)) c) (x1, x2, S) K :=
  ⟨fun ⟨I, μ, h0, hs⟩ => ⟨fun t => I t.1 t.2.1 t.2.2, fun t => μ t.1 t.2.1 t.2.2, h0, fun t ht => hs _ _ _ ht⟩, fun ⟨I, μ, h0, hs⟩ => ⟨fun y0 y1 y2 => I (y0, y1, y2), fun y0 y1 y2 => μ (y0, y1, y2), h0, fun y0 y1 y2 hy => hs (y0, y1, y2) hy⟩⟩
set_option maxHeartbeats 1000000 in
theorem d_e_Pa_makeCodes_2 {U : ut} {u : Nat} {x1 : Int32} {x2 : Int32} {S : cs} {K : cs → Prop} (h : e_Pa_makeCodes_2 U u x1 x2 S K) {Q : Prop} (k_K : ∀ (a0 : cs), K a0 → (∀ (K' : cs → Prop), e_Pa_makeCodes_2 U u x1 x2 S K' ↔ K' a0) → Q) : Q := by
  obtain ⟨o, ho, hoc, hi⟩ := lp_det (C := (cs → Prop)) (b := (fun (y : (Int32) × (Int32) × (cs)) (R : ((Int32) × (Int32) × (cs)) → Prop) (c : (cs → Prop)) => b_Pa_makeCodes_2 U u y.1 y.2.1 y.2.2 (fun z0 z1 z2 => R (z0, z1, z2)) c)) (O := (fun (o : ((cs → Prop)) → Prop) => (∃ (a0 : cs), o = fun c => c a0))) (fun y R c hy => d_b_Pa_makeCodes_2 hy (fun a0 a1 a2 ha ia => Or.inl ⟨(a0, a1, a2), ha, fun R' c' => ia (fun z0 z1 z2 => R' (z0, z1, z2)) c'⟩) (fun a0 ha ia => Or.inr ⟨(fun c => c a0), ⟨a0, rfl⟩, ha, fun R' c' => ia (fun z0 z1 z2 => R' (z0, z1, z2)) c'⟩)) (l_e_Pa_makeCodes_2.mp h)
  rcases ho with ⟨a0, rfl⟩
  · exact k_K _ hoc (fun K' => Iff.trans l_e_Pa_makeCodes_2 (hi K'))
theorem v_e_Pa_makeCodes_2 {U : ut} {u : Nat} {x1 : Int32} {x2 : Int32} {S : cs} {K : cs → Prop} (h : e_Pa_makeCodes_2 U u x1 x2 S K) {G : Prop} (Inv : Int32 → cs → Prop) (h0 : Inv x2 S) (hs : ∀ (yx2 : Int32) (yS : cs) (R : Int32 → Int32 → cs → Prop), Inv yx2 yS → b_Pa_makeCodes_2 U u x1 yx2 yS R K → (∃ (zx2 : Int32) (zS : cs), R x1 zx2 zS ∧ Inv zx2 zS) ∨ G) : G := by
  obtain ⟨I, μ, i0, is⟩ := h
  have go : ∀ (n : Nat) (yx2 : Int32) (yS : cs), μ x1 yx2 yS < n → I x1 yx2 yS → Inv yx2 yS → G := by
    intro n
    induction n with
    | zero => intro yx2 yS hy; exact absurd hy (Nat.not_lt_zero _)
    | succ n ih =>
      intro yx2 yS hy hI hV
      rcases hs yx2 yS _ hV (is x1 yx2 yS hI) with ⟨zx2, zS, ⟨hz, hm⟩, hv⟩ | g
      · exact ih zx2 zS (Nat.lt_of_lt_of_le hm (Nat.le_of_lt_succ hy)) hz hv
      · exact g
  exact go _ x2 S (Nat.lt_succ_self _) i0 h0
theorem r_e_Pa_makeCodes_2 {U : ut} {u : Nat} {x1 : Int32} {x2 : Int32} {S : cs} {K : cs → Prop} (h : e_Pa_makeCodes_2 U u x1 x2 S K) : b_Pa_makeCodes_2 U u x1 x2 S (fun zx1 zx2 zS => e_Pa_makeCodes_2 U u zx1 zx2 zS K) K := by
  obtain ⟨I, μ, i0, is⟩ := h
  exact d_b_Pa_makeCodes_2 (is x1 x2 S i0) (fun a0 a1 a2 ha ia => (ia _ _).mpr ⟨I, μ, ha.1, is⟩) (fun a0 ha ia => (ia _ _).mpr ha)
set_option maxHeartbeats 1000000 in
theorem d_p_Pa_makeCodes {U : ut} {u : Nat} {x1 : Int32} {S : cs} {K : cs → Prop} (h : p_Pa_makeCodes U u x1 S K) {Q : Prop} (k_K : ∀ (a0 : cs), K a0 → (∀ (K' : cs → Prop), p_Pa_makeCodes U u x1 S K' ↔ K' a0) → Q) : Q := by
  unfold p_Pa_makeCodes at h
  exact d_e_Pa_makeCodes_2 h (fun a0 h_2 i_1 => k_K a0 h_2 (fun _ => i_1 _))
set_option maxHeartbeats 1000000 in
theorem d_p_Ro_addTwo {U : ut} {u : Nat} {x1 : Int32} {S : cs} {K : cs → Prop} (h : p_Ro_addTwo U u x1 S K) {Q : Prop} (k_K : ∀ (a0 : cs), K a0 → (∀ (K' : cs → Prop), p_Ro_addTwo U u x1 S K' ↔ K' a0) → Q) : Q := by
  unfold p_Ro_addTwo at h
  refine d_p_Ro_add h (fun S5 h_2 i_1 => ?_)
  refine d_p_Ro_add h_2 (fun S10 h_4 i_3 => ?_)
  exact k_K _ h_4 (fun _ => Iff.trans (i_1 _) (i_3 _))
set_option maxHeartbeats 1000000 in
theorem d_b_Pa_writeTables_43 {U : ut} {u : Nat} {x1 : Nat} {x2 : Int32} {x3 : Int32} {S : cs} {R25 : Nat → Int32 → cs → Prop} {R43 : Nat → Int32 → Int32 → cs → Prop} {K : cs → Prop} (h : b_Pa_writeTables_43 U u x1 x2 x3 S R25 R43 K) {Q : Prop} (k_R25 : ∀ (a0 : Nat) (a1 : Int32) (a2 : cs), R25 a0 a1 a2 → (∀ (R25' : Nat → Int32 → cs → Prop) (R43' : Nat → Int32 → Int32 → cs → Prop) (K' : cs → Prop), b_Pa_writeTables_43 U u x1 x2 x3 S R25' R43' K' ↔ R25' a0 a1 a2) → Q) (k_R43 : ∀ (a0 : Nat) (a1 : Int32) (a2 : Int32) (a3 : cs), R43 a0 a1 a2 a3 → (∀ (R25' : Nat → Int32 → cs → Prop) (R43' : Nat → Int32 → Int32 → cs → Prop) (K' : cs → Prop), b_Pa_writeTables_43 U u x1 x2 x3 S R25' R43' K' ↔ R43' a0 a1 a2 a3) → Q) (k_K : ∀ (a0 : cs), K a0 → (∀ (R25' : Nat → Int32 → cs → Prop) (R43' : Nat → Int32 → Int32 → cs → Prop) (K' : cs → Prop), b_Pa_writeTables_43 U u x1 x2 x3 S R25' R43' K' ↔ K' a0) → Q) : Q := by
  unfold b_Pa_writeTables_43 at h
  refine dt_p h (fun c_1 h_2 => ?_) (fun c_1 h_2 => ?_)
  ·
    exact k_R25 _ _ _ h_2 (fun _ _ _ => dt_1 c_1 (fun n => n c_1))
  ·
    refine d_p_Ro_add (And.right (And.right (And.right (And.right (And.right h_2))))) (fun S65 h_4 i_3 => ?_)
    exact k_R43 _ _ _ _ h_4 (fun _ _ _ => Iff.trans (dt_2 c_1 c_1) (Iff.trans (dt_a (And.left h_2)) (Iff.trans (dt_a (And.left (And.right h_2))) (Iff.trans (dt_a (And.left (And.right (And.right h_2)))) (Iff.trans (dt_a (And.left (And.right (And.right (And.right h_2))))) (Iff.trans (dt_a (And.left (And.right (And.right (And.right (And.right h_2)))))) (i_3 _)))))))
theorem l_e_Pa_writeTables_43 {U : ut} {u : Nat} {x1 : Nat} {x2 : Int32} {x3 : Int32} {S : cs} {R25 : Nat → Int32 → cs → Prop} {K : cs → Prop} : e_Pa_writeTables_43 U u x1 x2 x3 S R25 K ↔ lpE (C := (Nat → Int32 → cs → Prop) × (cs → Prop)) (fun (y : (Nat) × (Int32) × (Int32) × (cs)) (R : ((Nat) × (Int32) × (Int32) × (cs)) → Prop) (c : (Nat → Int32 → cs → Prop) × (cs → Prop)) => b_Pa_writeTables_43 U u y.1 y.2.1 y.2.2.1 y.2.2.2 c.1 (fun z0 z1 z2 z3 => R (z0, z1, z2, z3)) c.2) (x1, x2, x3, S) (R25, K) :=
  ⟨fun ⟨I, μ, h0, hs⟩ => ⟨fun t => I t.1 t.2.1 t.2.2.1 t.2.2.2, fun t => μ t.1 t.2.1 t.2.2.1 t.2.2.2, h0, fun t ht => hs _ _ _ _ ht⟩, fun ⟨I, μ, h0, hs⟩ => ⟨fun y0 y1 y2 y3 => I (y0, y1, y2, y3), fun y0 y1 y2 y3 => μ (y0, y1, y2, y3), h0, fun y0 y1 y2 y3 hy => hs (y0, y1, y2, y3) hy⟩⟩
set_option maxHeartbeats 1000000 in
theorem d_e_Pa_writeTables_43 {U : ut} {u : Nat} {x1 : Nat} {x2 : Int32} {x3 : Int32} {S : cs} {R25 : Nat → Int32 → cs → Prop} {K : cs → Prop} (h : e_Pa_writeTables_43 U u x1 x2 x3 S R25 K) {Q : Prop} (k_R25 : ∀ (a0 : Nat) (a1 : Int32) (a2 : cs), R25 a0 a1 a2 → (∀ (R25' : Nat → Int32 → cs → Prop) (K' : cs → Prop), e_Pa_writeTables_43 U u x1 x2 x3 S R25' K' ↔ R25' a0 a1 a2) → Q) (k_K : ∀ (a0 : cs), K a0 → (∀ (R25' : Nat → Int32 → cs → Prop) (K' : cs → Prop), e_Pa_writeTables_43 U u x1 x2 x3 S R25' K' ↔ K' a0) → Q) : Q := by
  obtain ⟨o, ho, hoc, hi⟩ := lp_det (C := (Nat → Int32 → cs → Prop) × (cs → Prop)) (b := (fun (y : (Nat) × (Int32) × (Int32) × (cs)) (R : ((Nat) × (Int32) × (Int32) × (cs)) → Prop) (c : (Nat → Int32 → cs → Prop) × (cs → Prop)) => b_Pa_writeTables_43 U u y.1 y.2.1 y.2.2.1 y.2.2.2 c.1 (fun z0 z1 z2 z3 => R (z0, z1, z2, z3)) c.2)) (O := (fun (o : ((Nat → Int32 → cs → Prop) × (cs → Prop)) → Prop) => (∃ (a0 : Nat) (a1 : Int32) (a2 : cs), o = fun c => c.1 a0 a1 a2) ∨ (∃ (a0 : cs), o = fun c => c.2 a0))) (fun y R c hy => d_b_Pa_writeTables_43 hy (fun a0 a1 a2 ha ia => Or.inr ⟨(fun c => c.1 a0 a1 a2), Or.inl ⟨a0, a1, a2, rfl⟩, ha, fun R' c' => ia c'.1 (fun z0 z1 z2 z3 => R' (z0, z1, z2, z3)) c'.2⟩) (fun a0 a1 a2 a3 ha ia => Or.inl ⟨(a0, a1, a2, a3), ha, fun R' c' => ia c'.1 (fun z0 z1 z2 z3 => R' (z0, z1, z2, z3)) c'.2⟩) (fun a0 ha ia => Or.inr ⟨(fun c => c.2 a0), Or.inr (⟨a0, rfl⟩), ha, fun R' c' => ia c'.1 (fun z0 z1 z2 z3 => R' (z0, z1, z2, z3)) c'.2⟩)) (l_e_Pa_writeTables_43.mp h)
  rcases ho with ⟨a0, a1, a2, rfl⟩ | ⟨a0, rfl⟩
  · exact k_R25 _ _ _ hoc (fun R25' K' => Iff.trans l_e_Pa_writeTables_43 (hi (R25', K')))
  · exact k_K _ hoc (fun R25' K' => Iff.trans l_e_Pa_writeTables_43 (hi (R25', K')))
theorem v_e_Pa_writeTables_43 {U : ut} {u : Nat} {x1 : Nat} {x2 : Int32} {x3 : Int32} {S : cs} {R25 : Nat → Int32 → cs → Prop} {K : cs → Prop} (h : e_Pa_writeTables_43 U u x1 x2 x3 S R25 K) {G : Prop} (Inv : Int32 → cs → Prop) (h0 : Inv x3 S) (hs : ∀ (yx3 : Int32) (yS : cs) (R : Nat → Int32 → Int32 → cs → Prop), Inv yx3 yS → b_Pa_writeTables_43 U u x1 x2 yx3 yS R25 R K → (∃ (zx3 : Int32) (zS : cs), R x1 x2 zx3 zS ∧ Inv zx3 zS) ∨ G) : G := by
  obtain ⟨I, μ, i0, is⟩ := h
  have go : ∀ (n : Nat) (yx3 : Int32) (yS : cs), μ x1 x2 yx3 yS < n → I x1 x2 yx3 yS → Inv yx3 yS → G := by
    intro n
    induction n with
    | zero => intro yx3 yS hy; exact absurd hy (Nat.not_lt_zero _)
    | succ n ih =>
      intro yx3 yS hy hI hV
      rcases hs yx3 yS _ hV (is x1 x2 yx3 yS hI) with ⟨zx3, zS, ⟨hz, hm⟩, hv⟩ | g
      · exact ih zx3 zS (Nat.lt_of_lt_of_le hm (Nat.le_of_lt_succ hy)) hz hv
      · exact g
  exact go _ x3 S (Nat.lt_succ_self _) i0 h0
theorem r_e_Pa_writeTables_43 {U : ut} {u : Nat} {x1 : Nat} {x2 : Int32} {x3 : Int32} {S : cs} {R25 : Nat → Int32 → cs → Prop} {K : cs → Prop} (h : e_Pa_writeTables_43 U u x1 x2 x3 S R25 K) : b_Pa_writeTables_43 U u x1 x2 x3 S R25 (fun zx1 zx2 zx3 zS => e_Pa_writeTables_43 U u zx1 zx2 zx3 zS R25 K) K := by
  obtain ⟨I, μ, i0, is⟩ := h
  exact d_b_Pa_writeTables_43 (is x1 x2 x3 S i0) (fun a0 a1 a2 ha ia => (ia _ _ _).mpr ha) (fun a0 a1 a2 a3 ha ia => (ia _ _ _).mpr ⟨I, μ, ha.1, is⟩) (fun a0 ha ia => (ia _ _ _).mpr ha)
set_option maxHeartbeats 1000000 in
theorem d_b_Pa_writeTables_25 {U : ut} {u : Nat} {x1 : Nat} {x2 : Int32} {S : cs} {R25 : Nat → Int32 → cs → Prop} {K : cs → Prop} (h : b_Pa_writeTables_25 U u x1 x2 S R25 K) {Q : Prop} (k_R25 : ∀ (a0 : Nat) (a1 : Int32) (a2 : cs), R25 a0 a1 a2 → (∀ (R25' : Nat → Int32 → cs → Prop) (K' : cs → Prop), b_Pa_writeTables_25 U u x1 x2 S R25' K' ↔ R25' a0 a1 a2) → Q) (k_K : ∀ (a0 : cs), K a0 → (∀ (R25' : Nat → Int32 → cs → Prop) (K' : cs → Prop), b_Pa_writeTables_25 U u x1 x2 S R25' K' ↔ K' a0) → Q) : Q := by
  unfold b_Pa_writeTables_25 at h
  refine dt_p h (fun c_1 h_2 => ?_) (fun c_1 h_2 => ?_)
  ·
    exact k_K _ h_2 (fun _ _ => dt_1 c_1 (fun n => n c_1))
  ·
    refine d_p_Ro_add (And.right (And.right h_2)) (fun S38 h_4 i_3 => ?_)
    exact d_e_Pa_writeTables_43 h_4 (fun a0 a1 a2 h_6 i_5 => k_R25 a0 a1 a2 h_6 (fun _ _ => Iff.trans (dt_2 c_1 c_1) (Iff.trans (dt_a (And.left h_2)) (Iff.trans (dt_a (And.left (And.right h_2))) (Iff.trans (i_3 _) (i_5 _ _)))))) (fun a0 h_8 i_7 => k_K a0 h_8 (fun _ _ => Iff.trans (dt_2 c_1 c_1) (Iff.trans (dt_a (And.left h_2)) (Iff.trans (dt_a (And.left (And.right h_2))) (Iff.trans (i_3 _) (i_7 _ _))))))
theorem l_e_Pa_writeTables_25 {U : ut} {u : Nat} {x1 : Nat} {x2 : Int32} {S : cs} {K : cs → Prop} : e_Pa_writeTables_25 U u x1 x2 S K ↔ lpE (C := (cs → Prop)) (fun (y : (Nat) × (Int32) × (cs)) (R : ((Nat) × (Int32) × (cs)) → Prop) (c : (cs → Prop)) => b_Pa_writeTables_25 U u y.1 y.2.1 y.2.2 (fun z0 z1 z2 => R (z0, z1, z2)) c) (x1, x2, S) K :=
  ⟨fun ⟨I, μ, h0, hs⟩ => ⟨fun t => I t.1 t.2.1 t.2.2, fun t => μ t.1 t.2.1 t.2.2, h0, fun t ht => hs _ _ _ ht⟩, fun ⟨I, μ, h0, hs⟩ => ⟨fun y0 y1 y2 => I (y0, y1, y2), fun y0 y1 y2 => μ (y0, y1, y2), h0, fun y0 y1 y2 hy => hs (y0, y1, y2) hy⟩⟩
set_option maxHeartbeats 1000000 in
theorem d_e_Pa_writeTables_25 {U : ut} {u : Nat} {x1 : Nat} {x2 : Int32} {S : cs} {K : cs → Prop} (h : e_Pa_writeTables_25 U u x1 x2 S K) {Q : Prop} (k_K : ∀ (a0 : cs), K a0 → (∀ (K' : cs → Prop), e_Pa_writeTables_25 U u x1 x2 S K' ↔ K' a0) → Q) : Q := by
  obtain ⟨o, ho, hoc, hi⟩ := lp_det (C := (cs → Prop)) (b := (fun (y : (Nat) × (Int32) × (cs)) (R : ((Nat) × (Int32) × (cs)) → Prop) (c : (cs → Prop)) => b_Pa_writeTables_25 U u y.1 y.2.1 y.2.2 (fun z0 z1 z2 => R (z0, z1, z2)) c)) (O := (fun (o : ((cs → Prop)) → Prop) => (∃ (a0 : cs), o = fun c => c a0))) (fun y R c hy => d_b_Pa_writeTables_25 hy (fun a0 a1 a2 ha ia => Or.inl ⟨(a0, a1, a2), ha, fun R' c' => ia (fun z0 z1 z2 => R' (z0, z1, z2)) c'⟩) (fun a0 ha ia => Or.inr ⟨(fun c => c a0), ⟨a0, rfl⟩, ha, fun R' c' => ia (fun z0 z1 z2 => R' (z0, z1, z2)) c'⟩)) (l_e_Pa_writeTables_25.mp h)
  rcases ho with ⟨a0, rfl⟩
  · exact k_K _ hoc (fun K' => Iff.trans l_e_Pa_writeTables_25 (hi K'))
theorem v_e_Pa_writeTables_25 {U : ut} {u : Nat} {x1 : Nat} {x2 : Int32} {S : cs} {K : cs → Prop} (h : e_Pa_writeTables_25 U u x1 x2 S K) {G : Prop} (Inv : Int32 → cs → Prop) (h0 : Inv x2 S) (hs : ∀ (yx2 : Int32) (yS : cs) (R : Nat → Int32 → cs → Prop), Inv yx2 yS → b_Pa_writeTables_25 U u x1 yx2 yS R K → (∃ (zx2 : Int32) (zS : cs), R x1 zx2 zS ∧ Inv zx2 zS) ∨ G) : G := by
  obtain ⟨I, μ, i0, is⟩ := h
  have go : ∀ (n : Nat) (yx2 : Int32) (yS : cs), μ x1 yx2 yS < n → I x1 yx2 yS → Inv yx2 yS → G := by
    intro n
    induction n with
    | zero => intro yx2 yS hy; exact absurd hy (Nat.not_lt_zero _)
    | succ n ih =>
      intro yx2 yS hy hI hV
      rcases hs yx2 yS _ hV (is x1 yx2 yS hI) with ⟨zx2, zS, ⟨hz, hm⟩, hv⟩ | g
      · exact ih zx2 zS (Nat.lt_of_lt_of_le hm (Nat.le_of_lt_succ hy)) hz hv
      · exact g
  exact go _ x2 S (Nat.lt_succ_self _) i0 h0
theorem r_e_Pa_writeTables_25 {U : ut} {u : Nat} {x1 : Nat} {x2 : Int32} {S : cs} {K : cs → Prop} (h : e_Pa_writeTables_25 U u x1 x2 S K) : b_Pa_writeTables_25 U u x1 x2 S (fun zx1 zx2 zS => e_Pa_writeTables_25 U u zx1 zx2 zS K) K := by
  obtain ⟨I, μ, i0, is⟩ := h
  exact d_b_Pa_writeTables_25 (is x1 x2 S i0) (fun a0 a1 a2 ha ia => (ia _ _).mpr ⟨I, μ, ha.1, is⟩) (fun a0 ha ia => (ia _ _).mpr ha)
set_option maxHeartbeats 1000000 in
theorem d_p_Pa_writeTables {U : ut} {u : Nat} {x1 : Nat} {S : cs} {K : cs → Prop} (h : p_Pa_writeTables U u x1 S K) {Q : Prop} (k_K : ∀ (a0 : cs), K a0 → (∀ (K' : cs → Prop), p_Pa_writeTables U u x1 S K' ↔ K' a0) → Q) : Q := by
  unfold p_Pa_writeTables at h
  refine d_p_Pa_addMark h (fun S4 h_2 i_1 => ?_)
  refine d_p_Ro_addTwo (And.right (And.right h_2)) (fun S20 h_4 i_3 => ?_)
  exact d_e_Pa_writeTables_25 h_4 (fun a0 h_6 i_5 => k_K a0 h_6 (fun _ => Iff.trans (i_1 _) (Iff.trans (dt_a (And.left h_2)) (Iff.trans (dt_a (And.left (And.right h_2))) (Iff.trans (i_3 _) (i_5 _))))))
set_option maxHeartbeats 1000000 in
theorem d_b_Pa_writeFrame_79 {U : ut} {u : Nat} {x1 : Int32} {S : cs} {R79 : Int32 → cs → Prop} {K : cs → Prop} (h : b_Pa_writeFrame_79 U u x1 S R79 K) {Q : Prop} (k_R79 : ∀ (a0 : Int32) (a1 : cs), R79 a0 a1 → (∀ (R79' : Int32 → cs → Prop) (K' : cs → Prop), b_Pa_writeFrame_79 U u x1 S R79' K' ↔ R79' a0 a1) → Q) (k_K : ∀ (a0 : cs), K a0 → (∀ (R79' : Int32 → cs → Prop) (K' : cs → Prop), b_Pa_writeFrame_79 U u x1 S R79' K' ↔ K' a0) → Q) : Q := by
  unfold b_Pa_writeFrame_79 at h
  refine dt_p (And.right (And.right h)) (fun c_1 h_2 => ?_) (fun c_1 h_2 => ?_)
  ·
    exact k_K _ h_2 (fun _ _ => Iff.trans (dt_a (And.left h)) (Iff.trans (dt_a (And.left (And.right h))) (dt_1 c_1 (fun n => n c_1))))
  ·
    refine d_p_Ro_add (And.right (And.right h_2)) (fun S97 h_4 i_3 => ?_)
    refine d_p_Ro_add (And.right (And.right (And.right (And.right (And.right (And.right (And.right (And.right (And.right (And.right (And.right h_4))))))))))) (fun S126 h_6 i_5 => ?_)
    refine d_p_Pa_kindOf (And.right h_6) (fun v134 h_8 i_7 => ?_)
    refine d_p_Ro_add (And.right h_8) (fun S137 h_10 i_9 => ?_)
    exact k_R79 _ _ h_10 (fun _ _ => Iff.trans (dt_a (And.left h)) (Iff.trans (dt_a (And.left (And.right h))) (Iff.trans (dt_2 c_1 c_1) (Iff.trans (dt_a (And.left h_2)) (Iff.trans (dt_a (And.left (And.right h_2))) (Iff.trans (i_3 _) (Iff.trans (dt_a (And.left h_4)) (Iff.trans (dt_a (And.left (And.right h_4))) (Iff.trans (dt_a (And.left (And.right (And.right h_4)))) (Iff.trans (dt_a (And.left (And.right (And.right (And.right h_4))))) (Iff.trans (dt_a (And.left (And.right (And.right (And.right (And.right h_4)))))) (Iff.trans (dt_a (And.left (And.right (And.right (And.right (And.right (And.right h_4))))))) (Iff.trans (dt_a (And.left (And.right (And.right (And.right (And.right (And.right (And.right h_4)))))))) (Iff.trans (dt_a (And.left (And.right (And.right (And.right (And.right (And.right (And.right (And.right h_4))))))))) (Iff.trans (dt_a (And.left (And.right (And.right (And.right (And.right (And.right (And.right (And.right (And.right h_4)))))))))) (Iff.trans (dt_a (And.left (And.right (And.right (And.right (And.right (And.right (And.right (And.right (And.right (And.right h_4))))))))))) (Iff.trans (dt_a (And.left (And.right (And.right (And.right (And.right (And.right (And.right (And.right (And.right (And.right (And.right h_4)))))))))))) (Iff.trans (i_5 _) (Iff.trans (dt_a (And.left h_6)) (Iff.trans (i_7 _) (Iff.trans (dt_a (And.left h_8)) (i_9 _))))))))))))))))))))))
theorem l_e_Pa_writeFrame_79 {U : ut} {u : Nat} {x1 : Int32} {S : cs} {K : cs → Prop} : e_Pa_writeFrame_79 U u x1 S K ↔ lpE (C := (cs → Prop)) (fun (y : (Int32) × (cs)) (R : ((Int32) × (cs)) → Prop) (c : (cs → Prop)) => b_Pa_writeFrame_79 U u y.1 y.2 (fun z0 z1 => R (z0, z1)) c) (x1, S) K :=
  ⟨fun ⟨I, μ, h0, hs⟩ => ⟨fun t => I t.1 t.2, fun t => μ t.1 t.2, h0, fun t ht => hs _ _ ht⟩, fun ⟨I, μ, h0, hs⟩ => ⟨fun y0 y1 => I (y0, y1), fun y0 y1 => μ (y0, y1), h0, fun y0 y1 hy => hs (y0, y1) hy⟩⟩
set_option maxHeartbeats 1000000 in
theorem d_e_Pa_writeFrame_79 {U : ut} {u : Nat} {x1 : Int32} {S : cs} {K : cs → Prop} (h : e_Pa_writeFrame_79 U u x1 S K) {Q : Prop} (k_K : ∀ (a0 : cs), K a0 → (∀ (K' : cs → Prop), e_Pa_writeFrame_79 U u x1 S K' ↔ K' a0) → Q) : Q := by
  obtain ⟨o, ho, hoc, hi⟩ := lp_det (C := (cs → Prop)) (b := (fun (y : (Int32) × (cs)) (R : ((Int32) × (cs)) → Prop) (c : (cs → Prop)) => b_Pa_writeFrame_79 U u y.1 y.2 (fun z0 z1 => R (z0, z1)) c)) (O := (fun (o : ((cs → Prop)) → Prop) => (∃ (a0 : cs), o = fun c => c a0))) (fun y R c hy => d_b_Pa_writeFrame_79 hy (fun a0 a1 ha ia => Or.inl ⟨(a0, a1), ha, fun R' c' => ia (fun z0 z1 => R' (z0, z1)) c'⟩) (fun a0 ha ia => Or.inr ⟨(fun c => c a0), ⟨a0, rfl⟩, ha, fun R' c' => ia (fun z0 z1 => R' (z0, z1)) c'⟩)) (l_e_Pa_writeFrame_79.mp h)
  rcases ho with ⟨a0, rfl⟩
  · exact k_K _ hoc (fun K' => Iff.trans l_e_Pa_writeFrame_79 (hi K'))
theorem v_e_Pa_writeFrame_79 {U : ut} {u : Nat} {x1 : Int32} {S : cs} {K : cs → Prop} (h : e_Pa_writeFrame_79 U u x1 S K) {G : Prop} (Inv : Int32 → cs → Prop) (h0 : Inv x1 S) (hs : ∀ (yx1 : Int32) (yS : cs) (R : Int32 → cs → Prop), Inv yx1 yS → b_Pa_writeFrame_79 U u yx1 yS R K → (∃ (zx1 : Int32) (zS : cs), R zx1 zS ∧ Inv zx1 zS) ∨ G) : G := by
  obtain ⟨I, μ, i0, is⟩ := h
  have go : ∀ (n : Nat) (yx1 : Int32) (yS : cs), μ yx1 yS < n → I yx1 yS → Inv yx1 yS → G := by
    intro n
    induction n with
    | zero => intro yx1 yS hy; exact absurd hy (Nat.not_lt_zero _)
    | succ n ih =>
      intro yx1 yS hy hI hV
      rcases hs yx1 yS _ hV (is yx1 yS hI) with ⟨zx1, zS, ⟨hz, hm⟩, hv⟩ | g
      · exact ih zx1 zS (Nat.lt_of_lt_of_le hm (Nat.le_of_lt_succ hy)) hz hv
      · exact g
  exact go _ x1 S (Nat.lt_succ_self _) i0 h0
theorem r_e_Pa_writeFrame_79 {U : ut} {u : Nat} {x1 : Int32} {S : cs} {K : cs → Prop} (h : e_Pa_writeFrame_79 U u x1 S K) : b_Pa_writeFrame_79 U u x1 S (fun zx1 zS => e_Pa_writeFrame_79 U u zx1 zS K) K := by
  obtain ⟨I, μ, i0, is⟩ := h
  exact d_b_Pa_writeFrame_79 (is x1 S i0) (fun a0 a1 ha ia => (ia _ _).mpr ⟨I, μ, ha.1, is⟩) (fun a0 ha ia => (ia _ _).mpr ha)
set_option maxHeartbeats 1000000 in
theorem d_p_Pa_writeFrame {U : ut} {u : Nat} {S : cs} {K : cs → Prop} (h : p_Pa_writeFrame U u S K) {Q : Prop} (k_K : ∀ (a0 : cs), K a0 → (∀ (K' : cs → Prop), p_Pa_writeFrame U u S K' ↔ K' a0) → Q) : Q := by
  unfold p_Pa_writeFrame at h
  refine d_p_Pa_addMark h (fun S4 h_2 i_1 => ?_)
  refine d_p_Ro_addTwo (And.right (And.right (And.right (And.right h_2)))) (fun S23 h_4 i_3 => ?_)
  refine d_p_Ro_add (And.right (And.right h_4)) (fun S32 h_6 i_5 => ?_)
  refine d_p_Ro_addTwo (And.right (And.right (And.right (And.right h_6)))) (fun S46 h_8 i_7 => ?_)
  refine d_p_Ro_addTwo (And.right (And.right (And.right (And.right h_8)))) (fun S60 h_10 i_9 => ?_)
  refine d_p_Ro_add (And.right (And.right (And.right (And.right h_10)))) (fun S74 h_12 i_11 => ?_)
  exact d_e_Pa_writeFrame_79 h_12 (fun a0 h_14 i_13 => k_K a0 h_14 (fun _ => Iff.trans (i_1 _) (Iff.trans (dt_a (And.left h_2)) (Iff.trans (dt_a (And.left (And.right h_2))) (Iff.trans (dt_a (And.left (And.right (And.right h_2)))) (Iff.trans (dt_a (And.left (And.right (And.right (And.right h_2))))) (Iff.trans (i_3 _) (Iff.trans (dt_a (And.left h_4)) (Iff.trans (dt_a (And.left (And.right h_4))) (Iff.trans (i_5 _) (Iff.trans (dt_a (And.left h_6)) (Iff.trans (dt_a (And.left (And.right h_6))) (Iff.trans (dt_a (And.left (And.right (And.right h_6)))) (Iff.trans (dt_a (And.left (And.right (And.right (And.right h_6))))) (Iff.trans (i_7 _) (Iff.trans (dt_a (And.left h_8)) (Iff.trans (dt_a (And.left (And.right h_8))) (Iff.trans (dt_a (And.left (And.right (And.right h_8)))) (Iff.trans (dt_a (And.left (And.right (And.right (And.right h_8))))) (Iff.trans (i_9 _) (Iff.trans (dt_a (And.left h_10)) (Iff.trans (dt_a (And.left (And.right h_10))) (Iff.trans (dt_a (And.left (And.right (And.right h_10)))) (Iff.trans (dt_a (And.left (And.right (And.right (And.right h_10))))) (Iff.trans (i_11 _) (i_13 _))))))))))))))))))))))))))
set_option maxHeartbeats 1000000 in
theorem d_b_Pa_writeOwnCodes_37 {U : ut} {u : Nat} {x2 : Nat} {x3 : Int32} {S : cs} {R37 : Nat → Int32 → cs → Prop} {K : cs → Prop} (h : b_Pa_writeOwnCodes_37 U u x2 x3 S R37 K) {Q : Prop} (k_R37 : ∀ (a0 : Nat) (a1 : Int32) (a2 : cs), R37 a0 a1 a2 → (∀ (R37' : Nat → Int32 → cs → Prop) (K' : cs → Prop), b_Pa_writeOwnCodes_37 U u x2 x3 S R37' K' ↔ R37' a0 a1 a2) → Q) (k_K : ∀ (a0 : cs), K a0 → (∀ (R37' : Nat → Int32 → cs → Prop) (K' : cs → Prop), b_Pa_writeOwnCodes_37 U u x2 x3 S R37' K' ↔ K' a0) → Q) : Q := by
  unfold b_Pa_writeOwnCodes_37 at h
  refine dt_p (And.right h) (fun c_1 h_2 => ?_) (fun c_1 h_2 => ?_)
  ·
    exact k_K _ h_2 (fun _ _ => Iff.trans (dt_a (And.left h)) (dt_1 c_1 (fun n => n c_1)))
  ·
    refine d_p_Ro_add (And.right (And.right (And.right (And.right (And.right h_2))))) (fun S55 h_4 i_3 => ?_)
    exact k_R37 _ _ _ h_4 (fun _ _ => Iff.trans (dt_a (And.left h)) (Iff.trans (dt_2 c_1 c_1) (Iff.trans (dt_a (And.left h_2)) (Iff.trans (dt_a (And.left (And.right h_2))) (Iff.trans (dt_a (And.left (And.right (And.right h_2)))) (Iff.trans (dt_a (And.left (And.right (And.right (And.right h_2))))) (Iff.trans (dt_a (And.left (And.right (And.right (And.right (And.right h_2)))))) (i_3 _))))))))
theorem l_e_Pa_writeOwnCodes_37 {U : ut} {u : Nat} {x2 : Nat} {x3 : Int32} {S : cs} {K : cs → Prop} : e_Pa_writeOwnCodes_37 U u x2 x3 S K ↔ lpE (C := (cs → Prop)) (fun (y : (Nat) × (Int32) × (cs)) (R : ((Nat) × (Int32) × (cs)) → Prop) (c : (cs → Prop)) => b_Pa_writeOwnCodes_37 U u y.1 y.2.1 y.2.2 (fun z0 z1 z2 => R (z0, z1, z2)) c) (x2, x3, S) K :=
  ⟨fun ⟨I, μ, h0, hs⟩ => ⟨fun t => I t.1 t.2.1 t.2.2, fun t => μ t.1 t.2.1 t.2.2, h0, fun t ht => hs _ _ _ ht⟩, fun ⟨I, μ, h0, hs⟩ => ⟨fun y0 y1 y2 => I (y0, y1, y2), fun y0 y1 y2 => μ (y0, y1, y2), h0, fun y0 y1 y2 hy => hs (y0, y1, y2) hy⟩⟩
set_option maxHeartbeats 1000000 in
theorem d_e_Pa_writeOwnCodes_37 {U : ut} {u : Nat} {x2 : Nat} {x3 : Int32} {S : cs} {K : cs → Prop} (h : e_Pa_writeOwnCodes_37 U u x2 x3 S K) {Q : Prop} (k_K : ∀ (a0 : cs), K a0 → (∀ (K' : cs → Prop), e_Pa_writeOwnCodes_37 U u x2 x3 S K' ↔ K' a0) → Q) : Q := by
  obtain ⟨o, ho, hoc, hi⟩ := lp_det (C := (cs → Prop)) (b := (fun (y : (Nat) × (Int32) × (cs)) (R : ((Nat) × (Int32) × (cs)) → Prop) (c : (cs → Prop)) => b_Pa_writeOwnCodes_37 U u y.1 y.2.1 y.2.2 (fun z0 z1 z2 => R (z0, z1, z2)) c)) (O := (fun (o : ((cs → Prop)) → Prop) => (∃ (a0 : cs), o = fun c => c a0))) (fun y R c hy => d_b_Pa_writeOwnCodes_37 hy (fun a0 a1 a2 ha ia => Or.inl ⟨(a0, a1, a2), ha, fun R' c' => ia (fun z0 z1 z2 => R' (z0, z1, z2)) c'⟩) (fun a0 ha ia => Or.inr ⟨(fun c => c a0), ⟨a0, rfl⟩, ha, fun R' c' => ia (fun z0 z1 z2 => R' (z0, z1, z2)) c'⟩)) (l_e_Pa_writeOwnCodes_37.mp h)
  rcases ho with ⟨a0, rfl⟩
  · exact k_K _ hoc (fun K' => Iff.trans l_e_Pa_writeOwnCodes_37 (hi K'))
theorem v_e_Pa_writeOwnCodes_37 {U : ut} {u : Nat} {x2 : Nat} {x3 : Int32} {S : cs} {K : cs → Prop} (h : e_Pa_writeOwnCodes_37 U u x2 x3 S K) {G : Prop} (Inv : Int32 → cs → Prop) (h0 : Inv x3 S) (hs : ∀ (yx3 : Int32) (yS : cs) (R : Nat → Int32 → cs → Prop), Inv yx3 yS → b_Pa_writeOwnCodes_37 U u x2 yx3 yS R K → (∃ (zx3 : Int32) (zS : cs), R x2 zx3 zS ∧ Inv zx3 zS) ∨ G) : G := by
  obtain ⟨I, μ, i0, is⟩ := h
  have go : ∀ (n : Nat) (yx3 : Int32) (yS : cs), μ x2 yx3 yS < n → I x2 yx3 yS → Inv yx3 yS → G := by
    intro n
    induction n with
    | zero => intro yx3 yS hy; exact absurd hy (Nat.not_lt_zero _)
    | succ n ih =>
      intro yx3 yS hy hI hV
      rcases hs yx3 yS _ hV (is x2 yx3 yS hI) with ⟨zx3, zS, ⟨hz, hm⟩, hv⟩ | g
      · exact ih zx3 zS (Nat.lt_of_lt_of_le hm (Nat.le_of_lt_succ hy)) hz hv
      · exact g
  exact go _ x3 S (Nat.lt_succ_self _) i0 h0
theorem r_e_Pa_writeOwnCodes_37 {U : ut} {u : Nat} {x2 : Nat} {x3 : Int32} {S : cs} {K : cs → Prop} (h : e_Pa_writeOwnCodes_37 U u x2 x3 S K) : b_Pa_writeOwnCodes_37 U u x2 x3 S (fun zx2 zx3 zS => e_Pa_writeOwnCodes_37 U u zx2 zx3 zS K) K := by
  obtain ⟨I, μ, i0, is⟩ := h
  exact d_b_Pa_writeOwnCodes_37 (is x2 x3 S i0) (fun a0 a1 a2 ha ia => (ia _ _).mpr ⟨I, μ, ha.1, is⟩) (fun a0 ha ia => (ia _ _).mpr ha)
set_option maxHeartbeats 1000000 in
theorem d_b_Pa_writeOwnCodes_10 {U : ut} {u : Nat} {x2 : Nat} {x3 : Int32} {S : cs} {R10 : Nat → Int32 → cs → Prop} {K : cs → Prop} (h : b_Pa_writeOwnCodes_10 U u x2 x3 S R10 K) {Q : Prop} (k_R10 : ∀ (a0 : Nat) (a1 : Int32) (a2 : cs), R10 a0 a1 a2 → (∀ (R10' : Nat → Int32 → cs → Prop) (K' : cs → Prop), b_Pa_writeOwnCodes_10 U u x2 x3 S R10' K' ↔ R10' a0 a1 a2) → Q) (k_K : ∀ (a0 : cs), K a0 → (∀ (R10' : Nat → Int32 → cs → Prop) (K' : cs → Prop), b_Pa_writeOwnCodes_10 U u x2 x3 S R10' K' ↔ K' a0) → Q) : Q := by
  unfold b_Pa_writeOwnCodes_10 at h
  refine dt_p h (fun c_1 h_2 => ?_) (fun c_1 h_2 => ?_)
  ·
    exact d_e_Pa_writeOwnCodes_37 h_2 (fun a0 h_4 i_3 => k_K a0 h_4 (fun _ _ => Iff.trans (dt_1 c_1 (fun n => n c_1)) (i_3 _)))
  ·
    refine d_p_Ro_add (And.right (And.right (And.right (And.right (And.right (And.right h_2)))))) (fun S26 h_6 i_5 => ?_)
    exact k_R10 _ _ _ h_6 (fun _ _ => Iff.trans (dt_2 c_1 c_1) (Iff.trans (dt_a (And.left h_2)) (Iff.trans (dt_a (And.left (And.right h_2))) (Iff.trans (dt_a (And.left (And.right (And.right h_2)))) (Iff.trans (dt_a (And.left (And.right (And.right (And.right h_2))))) (Iff.trans (dt_a (And.left (And.right (And.right (And.right (And.right h_2)))))) (Iff.trans (dt_a (And.left (And.right (And.right (And.right (And.right (And.right h_2))))))) (i_5 _))))))))
theorem l_e_Pa_writeOwnCodes_10 {U : ut} {u : Nat} {x2 : Nat} {x3 : Int32} {S : cs} {K : cs → Prop} : e_Pa_writeOwnCodes_10 U u x2 x3 S K ↔ lpE (C := (cs → Prop)) (fun (y : (Nat) × (Int32) × (cs)) (R : ((Nat) × (Int32) × (cs)) → Prop) (c : (cs → Prop)) => b_Pa_writeOwnCodes_10 U u y.1 y.2.1 y.2.2 (fun z0 z1 z2 => R (z0, z1, z2)) c) (x2, x3, S) K :=
  ⟨fun ⟨I, μ, h0, hs⟩ => ⟨fun t => I t.1 t.2.1 t.2.2, fun t => μ t.1 t.2.1 t.2.2, h0, fun t ht => hs _ _ _ ht⟩, fun ⟨I, μ, h0, hs⟩ => ⟨fun y0 y1 y2 => I (y0, y1, y2), fun y0 y1 y2 => μ (y0, y1, y2), h0, fun y0 y1 y2 hy => hs (y0, y1, y2) hy⟩⟩
set_option maxHeartbeats 1000000 in
theorem d_e_Pa_writeOwnCodes_10 {U : ut} {u : Nat} {x2 : Nat} {x3 : Int32} {S : cs} {K : cs → Prop} (h : e_Pa_writeOwnCodes_10 U u x2 x3 S K) {Q : Prop} (k_K : ∀ (a0 : cs), K a0 → (∀ (K' : cs → Prop), e_Pa_writeOwnCodes_10 U u x2 x3 S K' ↔ K' a0) → Q) : Q := by
  obtain ⟨o, ho, hoc, hi⟩ := lp_det (C := (cs → Prop)) (b := (fun (y : (Nat) × (Int32) × (cs)) (R : ((Nat) × (Int32) × (cs)) → Prop) (c : (cs → Prop)) => b_Pa_writeOwnCodes_10 U u y.1 y.2.1 y.2.2 (fun z0 z1 z2 => R (z0, z1, z2)) c)) (O := (fun (o : ((cs → Prop)) → Prop) => (∃ (a0 : cs), o = fun c => c a0))) (fun y R c hy => d_b_Pa_writeOwnCodes_10 hy (fun a0 a1 a2 ha ia => Or.inl ⟨(a0, a1, a2), ha, fun R' c' => ia (fun z0 z1 z2 => R' (z0, z1, z2)) c'⟩) (fun a0 ha ia => Or.inr ⟨(fun c => c a0), ⟨a0, rfl⟩, ha, fun R' c' => ia (fun z0 z1 z2 => R' (z0, z1, z2)) c'⟩)) (l_e_Pa_writeOwnCodes_10.mp h)
  rcases ho with ⟨a0, rfl⟩
  · exact k_K _ hoc (fun K' => Iff.trans l_e_Pa_writeOwnCodes_10 (hi K'))
theorem v_e_Pa_writeOwnCodes_10 {U : ut} {u : Nat} {x2 : Nat} {x3 : Int32} {S : cs} {K : cs → Prop} (h : e_Pa_writeOwnCodes_10 U u x2 x3 S K) {G : Prop} (Inv : Int32 → cs → Prop) (h0 : Inv x3 S) (hs : ∀ (yx3 : Int32) (yS : cs) (R : Nat → Int32 → cs → Prop), Inv yx3 yS → b_Pa_writeOwnCodes_10 U u x2 yx3 yS R K → (∃ (zx3 : Int32) (zS : cs), R x2 zx3 zS ∧ Inv zx3 zS) ∨ G) : G := by
  obtain ⟨I, μ, i0, is⟩ := h
  have go : ∀ (n : Nat) (yx3 : Int32) (yS : cs), μ x2 yx3 yS < n → I x2 yx3 yS → Inv yx3 yS → G := by
    intro n
    induction n with
    | zero => intro yx3 yS hy; exact absurd hy (Nat.not_lt_zero _)
    | succ n ih =>
      intro yx3 yS hy hI hV
      rcases hs yx3 yS _ hV (is x2 yx3 yS hI) with ⟨zx3, zS, ⟨hz, hm⟩, hv⟩ | g
      · exact ih zx3 zS (Nat.lt_of_lt_of_le hm (Nat.le_of_lt_succ hy)) hz hv
      · exact g
  exact go _ x3 S (Nat.lt_succ_self _) i0 h0
theorem r_e_Pa_writeOwnCodes_10 {U : ut} {u : Nat} {x2 : Nat} {x3 : Int32} {S : cs} {K : cs → Prop} (h : e_Pa_writeOwnCodes_10 U u x2 x3 S K) : b_Pa_writeOwnCodes_10 U u x2 x3 S (fun zx2 zx3 zS => e_Pa_writeOwnCodes_10 U u zx2 zx3 zS K) K := by
  obtain ⟨I, μ, i0, is⟩ := h
  exact d_b_Pa_writeOwnCodes_10 (is x2 x3 S i0) (fun a0 a1 a2 ha ia => (ia _ _).mpr ⟨I, μ, ha.1, is⟩) (fun a0 ha ia => (ia _ _).mpr ha)
set_option maxHeartbeats 1000000 in
theorem d_p_Pa_writeOwnCodes {U : ut} {u : Nat} {x1 : Int32} {x2 : Nat} {S : cs} {K : cs → Prop} (h : p_Pa_writeOwnCodes U u x1 x2 S K) {Q : Prop} (k_K : ∀ (a0 : cs), K a0 → (∀ (K' : cs → Prop), p_Pa_writeOwnCodes U u x1 x2 S K' ↔ K' a0) → Q) : Q := by
  unfold p_Pa_writeOwnCodes at h
  refine d_p_Ro_add (And.right (And.right h)) (fun S5 h_2 i_1 => ?_)
  exact d_e_Pa_writeOwnCodes_10 h_2 (fun a0 h_4 i_3 => k_K a0 h_4 (fun _ => Iff.trans (dt_a (And.left h)) (Iff.trans (dt_a (And.left (And.right h))) (Iff.trans (i_1 _) (i_3 _)))))
set_option maxHeartbeats 1000000 in
theorem d_b_Pa_writeCodes_60 {U : ut} {u : Nat} {x2 : Int32} {S : cs} {R60 : Int32 → cs → Prop} {K : cs → Prop} (h : b_Pa_writeCodes_60 U u x2 S R60 K) {Q : Prop} (k_R60 : ∀ (a0 : Int32) (a1 : cs), R60 a0 a1 → (∀ (R60' : Int32 → cs → Prop) (K' : cs → Prop), b_Pa_writeCodes_60 U u x2 S R60' K' ↔ R60' a0 a1) → Q) (k_K : ∀ (a0 : cs), K a0 → (∀ (R60' : Int32 → cs → Prop) (K' : cs → Prop), b_Pa_writeCodes_60 U u x2 S R60' K' ↔ K' a0) → Q) : Q := by
  unfold b_Pa_writeCodes_60 at h
  refine dt_p h (fun c_1 h_2 => ?_) (fun c_1 h_2 => ?_)
  ·
    exact k_K _ h_2 (fun _ _ => dt_1 c_1 (fun n => n c_1))
  ·
    refine d_p_Pa_writeOwnCodes (And.right (And.right (And.right (And.right h_2)))) (fun S76 h_4 i_3 => ?_)
    refine d_p_Pa_writeOwnCodes (And.right (And.right (And.right (And.right h_4)))) (fun S90 h_6 i_5 => ?_)
    exact k_R60 _ _ h_6 (fun _ _ => Iff.trans (dt_2 c_1 c_1) (Iff.trans (dt_a (And.left h_2)) (Iff.trans (dt_a (And.left (And.right h_2))) (Iff.trans (dt_a (And.left (And.right (And.right h_2)))) (Iff.trans (dt_a (And.left (And.right (And.right (And.right h_2))))) (Iff.trans (i_3 _) (Iff.trans (dt_a (And.left h_4)) (Iff.trans (dt_a (And.left (And.right h_4))) (Iff.trans (dt_a (And.left (And.right (And.right h_4)))) (Iff.trans (dt_a (And.left (And.right (And.right (And.right h_4))))) (i_5 _)))))))))))
theorem l_e_Pa_writeCodes_60 {U : ut} {u : Nat} {x2 : Int32} {S : cs} {K : cs → Prop} : e_Pa_writeCodes_60 U u x2 S K ↔ lpE (C := (cs → Prop)) (fun (y : (Int32) × (cs)) (R : ((Int32) × (cs)) → Prop) (c : (cs → Prop)) => b_Pa_writeCodes_60 U u y.1 y.2 (fun z0 z1 => R (z0, z1)) c) (x2, S) K :=
  ⟨fun ⟨I, μ, h0, hs⟩ => ⟨fun t => I t.1 t.2, fun t => μ t.1 t.2, h0, fun t ht => hs _ _ ht⟩, fun ⟨I, μ, h0, hs⟩ => ⟨fun y0 y1 => I (y0, y1), fun y0 y1 => μ (y0, y1), h0, fun y0 y1 hy => hs (y0, y1) hy⟩⟩
set_option maxHeartbeats 1000000 in
theorem d_e_Pa_writeCodes_60 {U : ut} {u : Nat} {x2 : Int32} {S : cs} {K : cs → Prop} (h : e_Pa_writeCodes_60 U u x2 S K) {Q : Prop} (k_K : ∀ (a0 : cs), K a0 → (∀ (K' : cs → Prop), e_Pa_writeCodes_60 U u x2 S K' ↔ K' a0) → Q) : Q := by
  obtain ⟨o, ho, hoc, hi⟩ := lp_det (C := (cs → Prop)) (b := (fun (y : (Int32) × (cs)) (R : ((Int32) × (cs)) → Prop) (c : (cs → Prop)) => b_Pa_writeCodes_60 U u y.1 y.2 (fun z0 z1 => R (z0, z1)) c)) (O := (fun (o : ((cs → Prop)) → Prop) => (∃ (a0 : cs), o = fun c => c a0))) (fun y R c hy => d_b_Pa_writeCodes_60 hy (fun a0 a1 ha ia => Or.inl ⟨(a0, a1), ha, fun R' c' => ia (fun z0 z1 => R' (z0, z1)) c'⟩) (fun a0 ha ia => Or.inr ⟨(fun c => c a0), ⟨a0, rfl⟩, ha, fun R' c' => ia (fun z0 z1 => R' (z0, z1)) c'⟩)) (l_e_Pa_writeCodes_60.mp h)
  rcases ho with ⟨a0, rfl⟩
  · exact k_K _ hoc (fun K' => Iff.trans l_e_Pa_writeCodes_60 (hi K'))
theorem v_e_Pa_writeCodes_60 {U : ut} {u : Nat} {x2 : Int32} {S : cs} {K : cs → Prop} (h : e_Pa_writeCodes_60 U u x2 S K) {G : Prop} (Inv : Int32 → cs → Prop) (h0 : Inv x2 S) (hs : ∀ (yx2 : Int32) (yS : cs) (R : Int32 → cs → Prop), Inv yx2 yS → b_Pa_writeCodes_60 U u yx2 yS R K → (∃ (zx2 : Int32) (zS : cs), R zx2 zS ∧ Inv zx2 zS) ∨ G) : G := by
  obtain ⟨I, μ, i0, is⟩ := h
  have go : ∀ (n : Nat) (yx2 : Int32) (yS : cs), μ yx2 yS < n → I yx2 yS → Inv yx2 yS → G := by
    intro n
    induction n with
    | zero => intro yx2 yS hy; exact absurd hy (Nat.not_lt_zero _)
    | succ n ih =>
      intro yx2 yS hy hI hV
      rcases hs yx2 yS _ hV (is yx2 yS hI) with ⟨zx2, zS, ⟨hz, hm⟩, hv⟩ | g
      · exact ih zx2 zS (Nat.lt_of_lt_of_le hm (Nat.le_of_lt_succ hy)) hz hv
      · exact g
  exact go _ x2 S (Nat.lt_succ_self _) i0 h0
theorem r_e_Pa_writeCodes_60 {U : ut} {u : Nat} {x2 : Int32} {S : cs} {K : cs → Prop} (h : e_Pa_writeCodes_60 U u x2 S K) : b_Pa_writeCodes_60 U u x2 S (fun zx2 zS => e_Pa_writeCodes_60 U u zx2 zS K) K := by
  obtain ⟨I, μ, i0, is⟩ := h
  exact d_b_Pa_writeCodes_60 (is x2 S i0) (fun a0 a1 ha ia => (ia _ _).mpr ⟨I, μ, ha.1, is⟩) (fun a0 ha ia => (ia _ _).mpr ha)
set_option maxHeartbeats 1000000 in
theorem d_b_Pa_writeCodes_4 {U : ut} {u : Nat} {x1 : Int32} {x2 : Int32} {S : cs} {R4 : Int32 → Int32 → cs → Prop} {K : cs → Prop} (h : b_Pa_writeCodes_4 U u x1 x2 S R4 K) {Q : Prop} (k_R4 : ∀ (a0 : Int32) (a1 : Int32) (a2 : cs), R4 a0 a1 a2 → (∀ (R4' : Int32 → Int32 → cs → Prop) (K' : cs → Prop), b_Pa_writeCodes_4 U u x1 x2 S R4' K' ↔ R4' a0 a1 a2) → Q) (k_K : ∀ (a0 : cs), K a0 → (∀ (R4' : Int32 → Int32 → cs → Prop) (K' : cs → Prop), b_Pa_writeCodes_4 U u x1 x2 S R4' K' ↔ K' a0) → Q) : Q := by
  unfold b_Pa_writeCodes_4 at h
  refine dt_p h (fun c_1 h_2 => ?_) (fun c_1 h_2 => ?_)
  ·
    refine d_p_Pa_addMark h_2 (fun S47 h_4 i_3 => ?_)
    refine d_p_Ro_addTwo (And.right (And.right h_4)) (fun S55 h_6 i_5 => ?_)
    exact d_e_Pa_writeCodes_60 h_6 (fun a0 h_8 i_7 => k_K a0 h_8 (fun _ _ => Iff.trans (dt_1 c_1 (fun n => n c_1)) (Iff.trans (i_3 _) (Iff.trans (dt_a (And.left h_4)) (Iff.trans (dt_a (And.left (And.right h_4))) (Iff.trans (i_5 _) (i_7 _)))))))
  ·
    exact k_R4 _ _ _ (And.right (And.right (And.right (And.right (And.right (And.right (And.right (And.right (And.right (And.right h_2)))))))))) (fun _ _ => Iff.trans (dt_2 c_1 c_1) (Iff.trans (dt_a (And.left h_2)) (Iff.trans (dt_a (And.left (And.right h_2))) (Iff.trans (dt_a (And.left (And.right (And.right h_2)))) (Iff.trans (dt_a (And.left (And.right (And.right (And.right h_2))))) (Iff.trans (dt_a (And.left (And.right (And.right (And.right (And.right h_2)))))) (Iff.trans (dt_a (And.left (And.right (And.right (And.right (And.right (And.right h_2))))))) (Iff.trans (dt_a (And.left (And.right (And.right (And.right (And.right (And.right (And.right h_2)))))))) (Iff.trans (dt_a (And.left (And.right (And.right (And.right (And.right (And.right (And.right (And.right h_2))))))))) (Iff.trans (dt_a (And.left (And.right (And.right (And.right (And.right (And.right (And.right (And.right (And.right h_2)))))))))) (dt_a (And.left (And.right (And.right (And.right (And.right (And.right (And.right (And.right (And.right (And.right h_2)))))))))))))))))))))
theorem l_e_Pa_writeCodes_4 {U : ut} {u : Nat} {x1 : Int32} {x2 : Int32} {S : cs} {K : cs → Prop} : e_Pa_writeCodes_4 U u x1 x2 S K ↔ lpE (C := (cs → Prop)) (fun (y : (Int32) × (Int32) × (cs)) (R : ((Int32) × (Int32) × (cs)) → Prop) (c : (cs → Prop)) => b_Pa_writeCodes_4 U u y.1 y.2.1 y.2.2 (fun z0 z1 z2 => R (z0, z1, z2)) c) (x1, x2, S) K :=
  ⟨fun ⟨I, μ, h0, hs⟩ => ⟨fun t => I t.1 t.2.1 t.2.2, fun t => μ t.1 t.2.1 t.2.2, h0, fun t ht => hs _ _ _ ht⟩, fun ⟨I, μ, h0, hs⟩ => ⟨fun y0 y1 y2 => I (y0, y1, y2), fun y0 y1 y2 => μ (y0, y1, y2), h0, fun y0 y1 y2 hy => hs (y0, y1, y2) hy⟩⟩
set_option maxHeartbeats 1000000 in
theorem d_e_Pa_writeCodes_4 {U : ut} {u : Nat} {x1 : Int32} {x2 : Int32} {S : cs} {K : cs → Prop} (h : e_Pa_writeCodes_4 U u x1 x2 S K) {Q : Prop} (k_K : ∀ (a0 : cs), K a0 → (∀ (K' : cs → Prop), e_Pa_writeCodes_4 U u x1 x2 S K' ↔ K' a0) → Q) : Q := by
  obtain ⟨o, ho, hoc, hi⟩ := lp_det (C := (cs → Prop)) (b := (fun (y : (Int32) × (Int32) × (cs)) (R : ((Int32) × (Int32) × (cs)) → Prop) (c : (cs → Prop)) => b_Pa_writeCodes_4 U u y.1 y.2.1 y.2.2 (fun z0 z1 z2 => R (z0, z1, z2)) c)) (O := (fun (o : ((cs → Prop)) → Prop) => (∃ (a0 : cs), o = fun c => c a0))) (fun y R c hy => d_b_Pa_writeCodes_4 hy (fun a0 a1 a2 ha ia => Or.inl ⟨(a0, a1, a2), ha, fun R' c' => ia (fun z0 z1 z2 => R' (z0, z1, z2)) c'⟩) (fun a0 ha ia => Or.inr ⟨(fun c => c a0), ⟨a0, rfl⟩, ha, fun R' c' => ia (fun z0 z1 z2 => R' (z0, z1, z2)) c'⟩)) (l_e_Pa_writeCodes_4.mp h)
  rcases ho with ⟨a0, rfl⟩
  · exact k_K _ hoc (fun K' => Iff.trans l_e_Pa_writeCodes_4 (hi K'))
theorem v_e_Pa_writeCodes_4 {U : ut} {u : Nat} {x1 : Int32} {x2 : Int32} {S : cs} {K : cs → Prop} (h : e_Pa_writeCodes_4 U u x1 x2 S K) {G : Prop} (Inv : Int32 → Int32 → cs → Prop) (h0 : Inv x1 x2 S) (hs : ∀ (yx1 : Int32) (yx2 : Int32) (yS : cs) (R : Int32 → Int32 → cs → Prop), Inv yx1 yx2 yS → b_Pa_writeCodes_4 U u yx1 yx2 yS R K → (∃ (zx1 : Int32) (zx2 : Int32) (zS : cs), R zx1 zx2 zS ∧ Inv zx1 zx2 zS) ∨ G) : G := by
  obtain ⟨I, μ, i0, is⟩ := h
  have go : ∀ (n : Nat) (yx1 : Int32) (yx2 : Int32) (yS : cs), μ yx1 yx2 yS < n → I yx1 yx2 yS → Inv yx1 yx2 yS → G := by
    intro n
    induction n with
    | zero => intro yx1 yx2 yS hy; exact absurd hy (Nat.not_lt_zero _)
    | succ n ih =>
      intro yx1 yx2 yS hy hI hV
      rcases hs yx1 yx2 yS _ hV (is yx1 yx2 yS hI) with ⟨zx1, zx2, zS, ⟨hz, hm⟩, hv⟩ | g
      · exact ih zx1 zx2 zS (Nat.lt_of_lt_of_le hm (Nat.le_of_lt_succ hy)) hz hv
      · exact g
  exact go _ x1 x2 S (Nat.lt_succ_self _) i0 h0
theorem r_e_Pa_writeCodes_4 {U : ut} {u : Nat} {x1 : Int32} {x2 : Int32} {S : cs} {K : cs → Prop} (h : e_Pa_writeCodes_4 U u x1 x2 S K) : b_Pa_writeCodes_4 U u x1 x2 S (fun zx1 zx2 zS => e_Pa_writeCodes_4 U u zx1 zx2 zS K) K := by
  obtain ⟨I, μ, i0, is⟩ := h
  exact d_b_Pa_writeCodes_4 (is x1 x2 S i0) (fun a0 a1 a2 ha ia => (ia _ _).mpr ⟨I, μ, ha.1, is⟩) (fun a0 ha ia => (ia _ _).mpr ha)
set_option maxHeartbeats 1000000 in
theorem d_p_Pa_writeCodes {U : ut} {u : Nat} {S : cs} {K : cs → Prop} (h : p_Pa_writeCodes U u S K) {Q : Prop} (k_K : ∀ (a0 : cs), K a0 → (∀ (K' : cs → Prop), p_Pa_writeCodes U u S K' ↔ K' a0) → Q) : Q := by
  unfold p_Pa_writeCodes at h
  exact d_e_Pa_writeCodes_4 h (fun a0 h_2 i_1 => k_K a0 h_2 (fun _ => i_1 _))
set_option maxHeartbeats 1000000 in
theorem d_b_Pa_writeScan_42 {U : ut} {u : Nat} {x1 : Int32} {S : cs} {R42 : Int32 → cs → Prop} {K : cs → Prop} (h : b_Pa_writeScan_42 U u x1 S R42 K) {Q : Prop} (k_R42 : ∀ (a0 : Int32) (a1 : cs), R42 a0 a1 → (∀ (R42' : Int32 → cs → Prop) (K' : cs → Prop), b_Pa_writeScan_42 U u x1 S R42' K' ↔ R42' a0 a1) → Q) (k_K : ∀ (a0 : cs), K a0 → (∀ (R42' : Int32 → cs → Prop) (K' : cs → Prop), b_Pa_writeScan_42 U u x1 S R42' K' ↔ K' a0) → Q) : Q := by
  unfold b_Pa_writeScan_42 at h
  refine dt_p (And.right (And.right h)) (fun c_1 h_2 => ?_) (fun c_1 h_2 => ?_)
  ·
    refine d_p_Ro_add (And.right (And.right h_2)) (fun S88 h_4 i_3 => ?_)
    refine d_p_Ro_add (And.right (And.right h_4)) (fun S97 h_6 i_5 => ?_)
    refine d_p_Ro_add (And.right (And.right h_6)) (fun S105 h_8 i_7 => ?_)
    exact k_K _ h_8 (fun _ _ => Iff.trans (dt_a (And.left h)) (Iff.trans (dt_a (And.left (And.right h))) (Iff.trans (dt_1 c_1 (fun n => n c_1)) (Iff.trans (dt_a (And.left h_2)) (Iff.trans (dt_a (And.left (And.right h_2))) (Iff.trans (i_3 _) (Iff.trans (dt_a (And.left h_4)) (Iff.trans (dt_a (And.left (And.right h_4))) (Iff.trans (i_5 _) (Iff.trans (dt_a (And.left h_6)) (Iff.trans (dt_a (And.left (And.right h_6))) (i_7 _))))))))))))
  ·
    refine d_p_Ro_add (And.right (And.right h_2)) (fun S60 h_10 i_9 => ?_)
    refine d_p_Pa_kindOf (And.right h_10) (fun v70 h_12 i_11 => ?_)
    refine d_p_Ro_add (And.right h_12) (fun S74 h_14 i_13 => ?_)
    exact k_R42 _ _ h_14 (fun _ _ => Iff.trans (dt_a (And.left h)) (Iff.trans (dt_a (And.left (And.right h))) (Iff.trans (dt_2 c_1 c_1) (Iff.trans (dt_a (And.left h_2)) (Iff.trans (dt_a (And.left (And.right h_2))) (Iff.trans (i_9 _) (Iff.trans (dt_a (And.left h_10)) (Iff.trans (i_11 _) (Iff.trans (dt_a (And.left h_12)) (i_13 _))))))))))
theorem l_e_Pa_writeScan_42 {U : ut} {u : Nat} {x1 : Int32} {S : cs} {K : cs → Prop} : e_Pa_writeScan_42 U u x1 S K ↔ lpE (C := (cs → Prop)) (fun (y : (Int32) × (cs)) (R : ((Int32) × (cs)) → Prop) (c : (cs → Prop)) => b_Pa_writeScan_42 U u y.1 y.2 (fun z0 z1 => R (z0, z1)) c) (x1, S) K :=
  ⟨fun ⟨I, μ, h0, hs⟩ => ⟨fun t => I t.1 t.2, fun t => μ t.1 t.2, h0, fun t ht => hs _ _ ht⟩, fun ⟨I, μ, h0, hs⟩ => ⟨fun y0 y1 => I (y0, y1), fun y0 y1 => μ (y0, y1), h0, fun y0 y1 hy => hs (y0, y1) hy⟩⟩
set_option maxHeartbeats 1000000 in
theorem d_e_Pa_writeScan_42 {U : ut} {u : Nat} {x1 : Int32} {S : cs} {K : cs → Prop} (h : e_Pa_writeScan_42 U u x1 S K) {Q : Prop} (k_K : ∀ (a0 : cs), K a0 → (∀ (K' : cs → Prop), e_Pa_writeScan_42 U u x1 S K' ↔ K' a0) → Q) : Q := by
  obtain ⟨o, ho, hoc, hi⟩ := lp_det (C := (cs → Prop)) (b := (fun (y : (Int32) × (cs)) (R : ((Int32) × (cs)) → Prop) (c : (cs → Prop)) => b_Pa_writeScan_42 U u y.1 y.2 (fun z0 z1 => R (z0, z1)) c)) (O := (fun (o : ((cs → Prop)) → Prop) => (∃ (a0 : cs), o = fun c => c a0))) (fun y R c hy => d_b_Pa_writeScan_42 hy (fun a0 a1 ha ia => Or.inl ⟨(a0, a1), ha, fun R' c' => ia (fun z0 z1 => R' (z0, z1)) c'⟩) (fun a0 ha ia => Or.inr ⟨(fun c => c a0), ⟨a0, rfl⟩, ha, fun R' c' => ia (fun z0 z1 => R' (z0, z1)) c'⟩)) (l_e_Pa_writeScan_42.mp h)
  rcases ho with ⟨a0, rfl⟩
  · exact k_K _ hoc (fun K' => Iff.trans l_e_Pa_writeScan_42 (hi K'))
theorem v_e_Pa_writeScan_42 {U : ut} {u : Nat} {x1 : Int32} {S : cs} {K : cs → Prop} (h : e_Pa_writeScan_42 U u x1 S K) {G : Prop} (Inv : Int32 → cs → Prop) (h0 : Inv x1 S) (hs : ∀ (yx1 : Int32) (yS : cs) (R : Int32 → cs → Prop), Inv yx1 yS → b_Pa_writeScan_42 U u yx1 yS R K → (∃ (zx1 : Int32) (zS : cs), R zx1 zS ∧ Inv zx1 zS) ∨ G) : G := by
  obtain ⟨I, μ, i0, is⟩ := h
  have go : ∀ (n : Nat) (yx1 : Int32) (yS : cs), μ yx1 yS < n → I yx1 yS → Inv yx1 yS → G := by
    intro n
    induction n with
    | zero => intro yx1 yS hy; exact absurd hy (Nat.not_lt_zero _)
    | succ n ih =>
      intro yx1 yS hy hI hV
      rcases hs yx1 yS _ hV (is yx1 yS hI) with ⟨zx1, zS, ⟨hz, hm⟩, hv⟩ | g
      · exact ih zx1 zS (Nat.lt_of_lt_of_le hm (Nat.le_of_lt_succ hy)) hz hv
      · exact g
  exact go _ x1 S (Nat.lt_succ_self _) i0 h0
theorem r_e_Pa_writeScan_42 {U : ut} {u : Nat} {x1 : Int32} {S : cs} {K : cs → Prop} (h : e_Pa_writeScan_42 U u x1 S K) : b_Pa_writeScan_42 U u x1 S (fun zx1 zS => e_Pa_writeScan_42 U u zx1 zS K) K := by
  obtain ⟨I, μ, i0, is⟩ := h
  exact d_b_Pa_writeScan_42 (is x1 S i0) (fun a0 a1 ha ia => (ia _ _).mpr ⟨I, μ, ha.1, is⟩) (fun a0 ha ia => (ia _ _).mpr ha)
set_option maxHeartbeats 1000000 in
theorem d_p_Pa_writeScan {U : ut} {u : Nat} {S : cs} {K : cs → Prop} (h : p_Pa_writeScan U u S K) {Q : Prop} (k_K : ∀ (a0 : cs), K a0 → (∀ (K' : cs → Prop), p_Pa_writeScan U u S K' ↔ K' a0) → Q) : Q := by
  unfold p_Pa_writeScan at h
  refine d_p_Pa_addMark h (fun S4 h_2 i_1 => ?_)
  refine d_p_Ro_addTwo (And.right (And.right (And.right (And.right h_2)))) (fun S23 h_4 i_3 => ?_)
  refine d_p_Ro_add (And.right (And.right (And.right (And.right h_4)))) (fun S37 h_6 i_5 => ?_)
  exact d_e_Pa_writeScan_42 h_6 (fun a0 h_8 i_7 => k_K a0 h_8 (fun _ => Iff.trans (i_1 _) (Iff.trans (dt_a (And.left h_2)) (Iff.trans (dt_a (And.left (And.right h_2))) (Iff.trans (dt_a (And.left (And.right (And.right h_2)))) (Iff.trans (dt_a (And.left (And.right (And.right (And.right h_2))))) (Iff.trans (i_3 _) (Iff.trans (dt_a (And.left h_4)) (Iff.trans (dt_a (And.left (And.right h_4))) (Iff.trans (dt_a (And.left (And.right (And.right h_4)))) (Iff.trans (dt_a (And.left (And.right (And.right (And.right h_4))))) (Iff.trans (i_5 _) (i_7 _)))))))))))))
set_option maxHeartbeats 1000000 in
theorem d_b_Pa_write_55 {U : ut} {u : Nat} {x2 : Int32} {S : cs} {K : cs → Prop} (h : b_Pa_write_55 U u x2 S K) {Q : Prop} (k_K : ∀ (a0 : cs), K a0 → (∀ (K' : cs → Prop), b_Pa_write_55 U u x2 S K' ↔ K' a0) → Q) : Q := by
  unfold b_Pa_write_55 at h
  refine d_p_Pa_writeScan h (fun S56 h_2 i_1 => ?_)
  refine d_p_Pa_writeData h_2 (fun S61 h_4 i_3 => ?_)
  refine d_p_Pa_addMark h_4 (fun S68 h_6 i_5 => ?_)
  exact k_K _ h_6 (fun _ => Iff.trans (i_1 _) (Iff.trans (i_3 _) (i_5 _)))
set_option maxHeartbeats 1000000 in
theorem d_p_Pa_write {U : ut} {u : Nat} {x1 : Nat} {x2 : Int32} {S : cs} {K : cs → Prop} (h : p_Pa_write U u x1 x2 S K) {Q : Prop} (k_K : ∀ (a0 : cs), K a0 → (∀ (K' : cs → Prop), p_Pa_write U u x1 x2 S K' ↔ K' a0) → Q) : Q := by
  unfold p_Pa_write at h
  refine d_p_Pa_addMark (And.right (And.right h)) (fun S12 h_2 i_1 => ?_)
  refine d_p_Pa_writeTables h_2 (fun S17 h_4 i_3 => ?_)
  refine d_p_Pa_writeFrame h_4 (fun S21 h_6 i_5 => ?_)
  refine d_p_Pa_writeCodes h_6 (fun S25 h_8 i_7 => ?_)
  refine dt_p h_8 (fun c_9 h_10 => ?_) (fun c_9 h_10 => ?_)
  ·
    exact d_b_Pa_write_55 h_10 (fun a0 h_12 i_11 => k_K a0 h_12 (fun _ => Iff.trans (dt_a (And.left h)) (Iff.trans (dt_a (And.left (And.right h))) (Iff.trans (i_1 _) (Iff.trans (i_3 _) (Iff.trans (i_5 _) (Iff.trans (i_7 _) (Iff.trans (dt_1 c_9 (fun n => n c_9)) (i_11 _)))))))))
  ·
    refine d_p_Pa_addMark h_10 (fun S36 h_14 i_13 => ?_)
    refine d_p_Ro_addTwo (And.right (And.right h_14)) (fun S44 h_16 i_15 => ?_)
    refine d_p_Ro_addTwo (And.right (And.right h_16)) (fun S52 h_18 i_17 => ?_)
    exact d_b_Pa_write_55 h_18 (fun a0 h_20 i_19 => k_K a0 h_20 (fun _ => Iff.trans (dt_a (And.left h)) (Iff.trans (dt_a (And.left (And.right h))) (Iff.trans (i_1 _) (Iff.trans (i_3 _) (Iff.trans (i_5 _) (Iff.trans (i_7 _) (Iff.trans (dt_2 c_9 c_9) (Iff.trans (i_13 _) (Iff.trans (dt_a (And.left h_14)) (Iff.trans (dt_a (And.left (And.right h_14))) (Iff.trans (i_15 _) (Iff.trans (dt_a (And.left h_16)) (Iff.trans (dt_a (And.left (And.right h_16))) (Iff.trans (i_17 _) (i_19 _))))))))))))))))
set_option maxHeartbeats 1000000 in
theorem d_b_B_pack_28 {U : ut} {u : Nat} {S : cs} {K : Int32 → cs → Prop} {T : Nat → cs → Prop} (h : b_B_pack_28 U u S K T) {Q : Prop} (k_K : ∀ (a0 : Int32) (a1 : cs), K a0 a1 → (∀ (K' : Int32 → cs → Prop) (T' : Nat → cs → Prop), b_B_pack_28 U u S K' T' ↔ K' a0 a1) → Q) (k_T : ∀ (a0 : Nat) (a1 : cs), T a0 a1 → (∀ (K' : Int32 → cs → Prop) (T' : Nat → cs → Prop), b_B_pack_28 U u S K' T' ↔ T' a0 a1) → Q) : Q := by
  unfold b_B_pack_28 at h
  exact k_T _ _ h (fun _ _ => Iff.rfl)
set_option maxHeartbeats 1000000 in
theorem d_p_B_pack {U : ut} {u : Nat} {x1 : Int32} {x2 : Int32} {x3 : Int32} {S : cs} {K : Int32 → cs → Prop} {T : Nat → cs → Prop} (h : p_B_pack U u x1 x2 x3 S K T) {Q : Prop} (k_K : ∀ (a0 : Int32) (a1 : cs), K a0 a1 → (∀ (K' : Int32 → cs → Prop) (T' : Nat → cs → Prop), p_B_pack U u x1 x2 x3 S K' T' ↔ K' a0 a1) → Q) (k_T : ∀ (a0 : Nat) (a1 : cs), T a0 a1 → (∀ (K' : Int32 → cs → Prop) (T' : Nat → cs → Prop), p_B_pack U u x1 x2 x3 S K' T' ↔ T' a0 a1) → Q) : Q := by
  unfold p_B_pack at h
  refine d_p_B_isWithin h (fun v3 h_2 i_1 => ?_)
  refine dt_p h_2 (fun c_3 h_4 => ?_) (fun c_3 h_4 => ?_)
  ·
    exact d_b_B_pack_28 h_4 (fun a0 a1 h_6 i_5 => k_K a0 a1 h_6 (fun _ _ => Iff.trans (i_1 _) (Iff.trans (dt_1 c_3 (fun n => n c_3)) (i_5 _ _)))) (fun a0 a1 h_8 i_7 => k_T a0 a1 h_8 (fun _ _ => Iff.trans (i_1 _) (Iff.trans (dt_1 c_3 (fun n => n c_3)) (i_7 _ _))))
  ·
    refine d_p_B_isWithin h_4 (fun v12 h_10 i_9 => ?_)
    refine dt_p h_10 (fun c_11 h_12 => ?_) (fun c_11 h_12 => ?_)
    ·
      exact d_b_B_pack_28 h_12 (fun a0 a1 h_14 i_13 => k_K a0 a1 h_14 (fun _ _ => Iff.trans (i_1 _) (Iff.trans (dt_2 c_3 c_3) (Iff.trans (i_9 _) (Iff.trans (dt_1 c_11 (fun n => n c_11)) (i_13 _ _)))))) (fun a0 a1 h_16 i_15 => k_T a0 a1 h_16 (fun _ _ => Iff.trans (i_1 _) (Iff.trans (dt_2 c_3 c_3) (Iff.trans (i_9 _) (Iff.trans (dt_1 c_11 (fun n => n c_11)) (i_15 _ _))))))
    ·
      refine d_p_B_isWithin h_12 (fun v22 h_18 i_17 => ?_)
      refine dt_n h_18 (fun c_19 h_20 => ?_) (fun c_19 h_20 => ?_)
      ·
        refine d_p_Pa_makeLevels (And.right (And.right (And.right (And.right h_20)))) (fun S52 h_22 i_21 => ?_)
        refine d_p_Pa_makeCodes (And.right (And.right h_22)) (fun S60 h_24 i_23 => ?_)
        refine d_p_Pa_write (And.right (And.right (And.right h_24))) (fun S72 h_26 i_25 => ?_)
        exact k_K _ _ (And.right (And.right h_26)) (fun _ _ => Iff.trans (i_1 _) (Iff.trans (dt_2 c_3 c_3) (Iff.trans (i_9 _) (Iff.trans (dt_2 c_11 c_11) (Iff.trans (i_17 _) (Iff.trans (dt_1 c_19 c_19) (Iff.trans (dt_a (And.left h_20)) (Iff.trans (dt_a (And.left (And.right h_20))) (Iff.trans (dt_a (And.left (And.right (And.right h_20)))) (Iff.trans (dt_a (And.left (And.right (And.right (And.right h_20))))) (Iff.trans (i_21 _) (Iff.trans (dt_a (And.left h_22)) (Iff.trans (dt_a (And.left (And.right h_22))) (Iff.trans (i_23 _) (Iff.trans (dt_a (And.left h_24)) (Iff.trans (dt_a (And.left (And.right h_24))) (Iff.trans (dt_a (And.left (And.right (And.right h_24)))) (Iff.trans (i_25 _) (Iff.trans (dt_a (And.left h_26)) (dt_a (And.left (And.right h_26))))))))))))))))))))))
      ·
        exact d_b_B_pack_28 h_20 (fun a0 a1 h_28 i_27 => k_K a0 a1 h_28 (fun _ _ => Iff.trans (i_1 _) (Iff.trans (dt_2 c_3 c_3) (Iff.trans (i_9 _) (Iff.trans (dt_2 c_11 c_11) (Iff.trans (i_17 _) (Iff.trans (dt_2 (fun n => n c_19) c_19) (i_27 _ _)))))))) (fun a0 a1 h_30 i_29 => k_T a0 a1 h_30 (fun _ _ => Iff.trans (i_1 _) (Iff.trans (dt_2 c_3 c_3) (Iff.trans (i_9 _) (Iff.trans (dt_2 c_11 c_11) (Iff.trans (i_17 _) (Iff.trans (dt_2 (fun n => n c_19) c_19) (i_29 _ _))))))))
set_option maxHeartbeats 1000000 in
theorem d_p_B_size {U : ut} {u : Nat} {S : cs} {K : Int32 → cs → Prop} (h : p_B_size U u S K) {Q : Prop} (k_K : ∀ (a0 : Int32) (a1 : cs), K a0 a1 → (∀ (K' : Int32 → cs → Prop), p_B_size U u S K' ↔ K' a0 a1) → Q) : Q := by
  unfold p_B_size at h
  exact k_K _ _ (And.right (And.right h)) (fun _ => Iff.trans (dt_a (And.left h)) (dt_a (And.left (And.right h))))
set_option maxHeartbeats 1000000 in
theorem d_b_Ro_has_17 {U : ut} {u : Nat} {s0 : Int32} {S : cs} {K : Int32 → cs → Prop} (h : b_Ro_has_17 U u s0 S K) {Q : Prop} (k_K : ∀ (a0 : Int32) (a1 : cs), K a0 a1 → (∀ (K' : Int32 → cs → Prop), b_Ro_has_17 U u s0 S K' ↔ K' a0 a1) → Q) : Q := by
  unfold b_Ro_has_17 at h
  exact k_K _ _ (And.right h) (fun _ => dt_a (And.left h))
set_option maxHeartbeats 1000000 in
theorem d_b_Ro_has_16 {U : ut} {u : Nat} {S : cs} {K : Int32 → cs → Prop} (h : b_Ro_has_16 U u S K) {Q : Prop} (k_K : ∀ (a0 : Int32) (a1 : cs), K a0 a1 → (∀ (K' : Int32 → cs → Prop), b_Ro_has_16 U u S K' ↔ K' a0 a1) → Q) : Q := by
  unfold b_Ro_has_16 at h
  exact d_b_Ro_has_17 h (fun a0 a1 h_2 i_1 => k_K a0 a1 h_2 (fun _ => i_1 _))
set_option maxHeartbeats 1000000 in
theorem d_p_Ro_has {U : ut} {u : Nat} {x1 : Int32} {S : cs} {K : Int32 → cs → Prop} (h : p_Ro_has U u x1 S K) {Q : Prop} (k_K : ∀ (a0 : Int32) (a1 : cs), K a0 a1 → (∀ (K' : Int32 → cs → Prop), p_Ro_has U u x1 S K' ↔ K' a0 a1) → Q) : Q := by
  unfold p_Ro_has at h
  refine dt_p h (fun c_1 h_2 => ?_) (fun c_1 h_2 => ?_)
  ·
    exact d_b_Ro_has_16 h_2 (fun a0 a1 h_4 i_3 => k_K a0 a1 h_4 (fun _ => Iff.trans (dt_1 c_1 (fun n => n c_1)) (i_3 _)))
  ·
    refine dt_p h_2 (fun c_5 h_6 => ?_) (fun c_5 h_6 => ?_)
    ·
      exact d_b_Ro_has_16 h_6 (fun a0 a1 h_8 i_7 => k_K a0 a1 h_8 (fun _ => Iff.trans (dt_2 c_1 c_1) (Iff.trans (dt_1 c_5 (fun n => n c_5)) (i_7 _))))
    ·
      exact d_b_Ro_has_17 h_6 (fun a0 a1 h_10 i_9 => k_K a0 a1 h_10 (fun _ => Iff.trans (dt_2 c_1 c_1) (Iff.trans (dt_2 c_5 c_5) (i_9 _))))
set_option maxHeartbeats 1000000 in
theorem d_p_B_out {U : ut} {u : Nat} {x1 : Int32} {S : cs} {K : Int32 → cs → Prop} {T : Nat → cs → Prop} (h : p_B_out U u x1 S K T) {Q : Prop} (k_K : ∀ (a0 : Int32) (a1 : cs), K a0 a1 → (∀ (K' : Int32 → cs → Prop) (T' : Nat → cs → Prop), p_B_out U u x1 S K' T' ↔ K' a0 a1) → Q) (k_T : ∀ (a0 : Nat) (a1 : cs), T a0 a1 → (∀ (K' : Int32 → cs → Prop) (T' : Nat → cs → Prop), p_B_out U u x1 S K' T' ↔ T' a0 a1) → Q) : Q := by
  unfold p_B_out at h
  refine d_p_Ro_has (And.right (And.right h)) (fun v5 S5 h_2 i_1 => ?_)
  refine dt_n h_2 (fun c_3 h_4 => ?_) (fun c_3 h_4 => ?_)
  ·
    exact k_K _ _ (And.right (And.right (And.right (And.right (And.right h_4))))) (fun _ _ => Iff.trans (dt_a (And.left h)) (Iff.trans (dt_a (And.left (And.right h))) (Iff.trans (i_1 _) (Iff.trans (dt_1 c_3 c_3) (Iff.trans (dt_a (And.left h_4)) (Iff.trans (dt_a (And.left (And.right h_4))) (Iff.trans (dt_a (And.left (And.right (And.right h_4)))) (Iff.trans (dt_a (And.left (And.right (And.right (And.right h_4))))) (dt_a (And.left (And.right (And.right (And.right (And.right h_4))))))))))))))
  ·
    exact k_T _ _ h_4 (fun _ _ => Iff.trans (dt_a (And.left h)) (Iff.trans (dt_a (And.left (And.right h))) (Iff.trans (i_1 _) (dt_2 (fun n => n c_3) c_3))))
set_option maxHeartbeats 1000000 in
theorem d_p_Ro_addFour {U : ut} {u : Nat} {x1 : Int32} {S : cs} {K : cs → Prop} (h : p_Ro_addFour U u x1 S K) {Q : Prop} (k_K : ∀ (a0 : cs), K a0 → (∀ (K' : cs → Prop), p_Ro_addFour U u x1 S K' ↔ K' a0) → Q) : Q := by
  unfold p_Ro_addFour at h
  refine d_p_Ro_addTwo h (fun S5 h_2 i_1 => ?_)
  refine d_p_Ro_addTwo h_2 (fun S10 h_4 i_3 => ?_)
  exact k_K _ h_4 (fun _ => Iff.trans (i_1 _) (i_3 _))
set_option maxHeartbeats 1000000 in
theorem d_p_B_feed {U : ut} {u : Nat} {x1 : Int32} {x2 : Int32} {x3 : Int32} {x4 : Int32} {x5 : Int32} {S : cs} {K : Int32 → cs → Prop} {T : Nat → cs → Prop} (h : p_B_feed U u x1 x2 x3 x4 x5 S K T) {Q : Prop} (k_K : ∀ (a0 : Int32) (a1 : cs), K a0 a1 → (∀ (K' : Int32 → cs → Prop) (T' : Nat → cs → Prop), p_B_feed U u x1 x2 x3 x4 x5 S K' T' ↔ K' a0 a1) → Q) (k_T : ∀ (a0 : Nat) (a1 : cs), T a0 a1 → (∀ (K' : Int32 → cs → Prop) (T' : Nat → cs → Prop), p_B_feed U u x1 x2 x3 x4 x5 S K' T' ↔ T' a0 a1) → Q) : Q := by
  unfold p_B_feed at h
  refine dt_p (And.right (And.right h)) (fun c_1 h_2 => ?_) (fun c_1 h_2 => ?_)
  ·
    refine d_p_Ro_addFour (And.right h_2) (fun S30 h_4 i_3 => ?_)
    refine d_p_Ro_addFour (And.right (And.right h_4)) (fun S38 h_6 i_5 => ?_)
    refine d_p_Ro_addFour (And.right (And.right h_6)) (fun S46 h_8 i_7 => ?_)
    refine d_p_Ro_addFour (And.right (And.right h_8)) (fun S55 h_10 i_9 => ?_)
    refine d_p_Ro_addFour (And.right (And.right h_10)) (fun S64 h_12 i_11 => ?_)
    exact k_K _ _ (And.right (And.right h_12)) (fun _ _ => Iff.trans (dt_a (And.left h)) (Iff.trans (dt_a (And.left (And.right h))) (Iff.trans (dt_1 c_1 (fun n => n c_1)) (Iff.trans (dt_a (And.left h_2)) (Iff.trans (i_3 _) (Iff.trans (dt_a (And.left h_4)) (Iff.trans (dt_a (And.left (And.right h_4))) (Iff.trans (i_5 _) (Iff.trans (dt_a (And.left h_6)) (Iff.trans (dt_a (And.left (And.right h_6))) (Iff.trans (i_7 _) (Iff.trans (dt_a (And.left h_8)) (Iff.trans (dt_a (And.left (And.right h_8))) (Iff.trans (i_9 _) (Iff.trans (dt_a (And.left h_10)) (Iff.trans (dt_a (And.left (And.right h_10))) (Iff.trans (i_11 _) (Iff.trans (dt_a (And.left h_12)) (dt_a (And.left (And.right h_12)))))))))))))))))))))
  ·
    exact k_T _ _ h_2 (fun _ _ => Iff.trans (dt_a (And.left h)) (Iff.trans (dt_a (And.left (And.right h))) (dt_2 c_1 c_1)))
set_option maxHeartbeats 1000000 in
theorem d_p_B_end {U : ut} {u : Nat} {x1 : Int32} {S : cs} {K : cs → Prop} {T : Nat → cs → Prop} (h : p_B_end U u x1 S K T) {Q : Prop} (k_K : ∀ (a0 : cs), K a0 → (∀ (K' : cs → Prop) (T' : Nat → cs → Prop), p_B_end U u x1 S K' T' ↔ K' a0) → Q) (k_T : ∀ (a0 : Nat) (a1 : cs), T a0 a1 → (∀ (K' : cs → Prop) (T' : Nat → cs → Prop), p_B_end U u x1 S K' T' ↔ T' a0 a1) → Q) : Q := by
  unfold p_B_end at h
  refine d_p_B_isWithin (And.right (And.right h)) (fun v9 h_2 i_1 => ?_)
  refine dt_n h_2 (fun c_3 h_4 => ?_) (fun c_3 h_4 => ?_)
  ·
    exact k_K _ (And.right h_4) (fun _ _ => Iff.trans (dt_a (And.left h)) (Iff.trans (dt_a (And.left (And.right h))) (Iff.trans (i_1 _) (Iff.trans (dt_1 c_3 c_3) (dt_a (And.left h_4))))))
  ·
    exact k_T _ _ h_4 (fun _ _ => Iff.trans (dt_a (And.left h)) (Iff.trans (dt_a (And.left (And.right h))) (Iff.trans (i_1 _) (dt_2 (fun n => n c_3) c_3))))
set_option maxHeartbeats 1000000 in
theorem d_p_B_change {U : ut} {u : Nat} {x1 : Int32} {x2 : Int32} {S : cs} {K : Int32 → cs → Prop} {T : Nat → cs → Prop} (h : p_B_change U u x1 x2 S K T) {Q : Prop} (k_K : ∀ (a0 : Int32) (a1 : cs), K a0 a1 → (∀ (K' : Int32 → cs → Prop) (T' : Nat → cs → Prop), p_B_change U u x1 x2 S K' T' ↔ K' a0 a1) → Q) (k_T : ∀ (a0 : Nat) (a1 : cs), T a0 a1 → (∀ (K' : Int32 → cs → Prop) (T' : Nat → cs → Prop), p_B_change U u x1 x2 S K' T' ↔ T' a0 a1) → Q) : Q := by
  unfold p_B_change at h
  refine d_p_Ro_has (And.right (And.right h)) (fun v5 S5 h_2 i_1 => ?_)
  refine dt_n h_2 (fun c_3 h_4 => ?_) (fun c_3 h_4 => ?_)
  ·
    refine d_p_B_isWithin h_4 (fun v26 h_6 i_5 => ?_)
    refine dt_n h_6 (fun c_7 h_8 => ?_) (fun c_7 h_8 => ?_)
    ·
      exact k_K _ _ (And.right (And.right (And.right (And.right (And.right (And.right (And.right (And.right (And.right h_8))))))))) (fun _ _ => Iff.trans (dt_a (And.left h)) (Iff.trans (dt_a (And.left (And.right h))) (Iff.trans (i_1 _) (Iff.trans (dt_1 c_3 c_3) (Iff.trans (i_5 _) (Iff.trans (dt_1 c_7 c_7) (Iff.trans (dt_a (And.left h_8)) (Iff.trans (dt_a (And.left (And.right h_8))) (Iff.trans (dt_a (And.left (And.right (And.right h_8)))) (Iff.trans (dt_a (And.left (And.right (And.right (And.right h_8))))) (Iff.trans (dt_a (And.left (And.right (And.right (And.right (And.right h_8)))))) (Iff.trans (dt_a (And.left (And.right (And.right (And.right (And.right (And.right h_8))))))) (Iff.trans (dt_a (And.left (And.right (And.right (And.right (And.right (And.right (And.right h_8)))))))) (Iff.trans (dt_a (And.left (And.right (And.right (And.right (And.right (And.right (And.right (And.right h_8))))))))) (dt_a (And.left (And.right (And.right (And.right (And.right (And.right (And.right (And.right (And.right h_8))))))))))))))))))))))))
    ·
      exact k_T _ _ h_8 (fun _ _ => Iff.trans (dt_a (And.left h)) (Iff.trans (dt_a (And.left (And.right h))) (Iff.trans (i_1 _) (Iff.trans (dt_1 c_3 c_3) (Iff.trans (i_5 _) (dt_2 (fun n => n c_7) c_7))))))
  ·
    exact k_T _ _ h_4 (fun _ _ => Iff.trans (dt_a (And.left h)) (Iff.trans (dt_a (And.left (And.right h))) (Iff.trans (i_1 _) (dt_2 (fun n => n c_3) c_3))))
set_option maxHeartbeats 1000000 in
theorem d_b_B_turn_32 {U : ut} {u : Nat} {x1 : Int32} {S : cs} {R32 : Int32 → cs → Prop} {K : Int32 → cs → Prop} {T : Nat → cs → Prop} (h : b_B_turn_32 U u x1 S R32 K T) {Q : Prop} (k_R32 : ∀ (a0 : Int32) (a1 : cs), R32 a0 a1 → (∀ (R32' : Int32 → cs → Prop) (K' : Int32 → cs → Prop) (T' : Nat → cs → Prop), b_B_turn_32 U u x1 S R32' K' T' ↔ R32' a0 a1) → Q) (k_K : ∀ (a0 : Int32) (a1 : cs), K a0 a1 → (∀ (R32' : Int32 → cs → Prop) (K' : Int32 → cs → Prop) (T' : Nat → cs → Prop), b_B_turn_32 U u x1 S R32' K' T' ↔ K' a0 a1) → Q) (k_T : ∀ (a0 : Nat) (a1 : cs), T a0 a1 → (∀ (R32' : Int32 → cs → Prop) (K' : Int32 → cs → Prop) (T' : Nat → cs → Prop), b_B_turn_32 U u x1 S R32' K' T' ↔ T' a0 a1) → Q) : Q := by
  unfold b_B_turn_32 at h
  refine dt_p (And.right (And.right h)) (fun c_1 h_2 => ?_) (fun c_1 h_2 => ?_)
  ·
    exact k_K _ _ (And.right (And.right h_2)) (fun _ _ _ => Iff.trans (dt_a (And.left h)) (Iff.trans (dt_a (And.left (And.right h))) (Iff.trans (dt_1 c_1 (fun n => n c_1)) (Iff.trans (dt_a (And.left h_2)) (dt_a (And.left (And.right h_2)))))))
  ·
    refine d_p_Ro_add (And.right (And.right (And.right (And.right (And.right (And.right h_2)))))) (fun S56 h_4 i_3 => ?_)
    exact k_R32 _ _ h_4 (fun _ _ _ => Iff.trans (dt_a (And.left h)) (Iff.trans (dt_a (And.left (And.right h))) (Iff.trans (dt_2 c_1 c_1) (Iff.trans (dt_a (And.left h_2)) (Iff.trans (dt_a (And.left (And.right h_2))) (Iff.trans (dt_a (And.left (And.right (And.right h_2)))) (Iff.trans (dt_a (And.left (And.right (And.right (And.right h_2))))) (Iff.trans (dt_a (And.left (And.right (And.right (And.right (And.right h_2)))))) (Iff.trans (dt_a (And.left (And.right (And.right (And.right (And.right (And.right h_2))))))) (i_3 _))))))))))
theorem l_e_B_turn_32 {U : ut} {u : Nat} {x1 : Int32} {S : cs} {K : Int32 → cs → Prop} {T : Nat → cs → Prop} : e_B_turn_32 U u x1 S K T ↔ lpE (C := (Int32 → cs → Prop) × (Nat → cs → Prop)) (fun (y : (Int32) × (cs)) (R : ((Int32) × (cs)) → Prop) (c : (Int32 → cs → Prop) × (Nat → cs → Prop)) => b_B_turn_32 U u y.1 y.2 (fun z0 z1 => R (z0, z1)) c.1 c.2) (x1, S) (K, T) :=
  ⟨fun ⟨I, μ, h0, hs⟩ => ⟨fun t => I t.1 t.2, fun t => μ t.1 t.2, h0, fun t ht => hs _ _ ht⟩, fun ⟨I, μ, h0, hs⟩ => ⟨fun y0 y1 => I (y0, y1), fun y0 y1 => μ (y0, y1), h0, fun y0 y1 hy => hs (y0, y1) hy⟩⟩
set_option maxHeartbeats 1000000 in
theorem d_e_B_turn_32 {U : ut} {u : Nat} {x1 : Int32} {S : cs} {K : Int32 → cs → Prop} {T : Nat → cs → Prop} (h : e_B_turn_32 U u x1 S K T) {Q : Prop} (k_K : ∀ (a0 : Int32) (a1 : cs), K a0 a1 → (∀ (K' : Int32 → cs → Prop) (T' : Nat → cs → Prop), e_B_turn_32 U u x1 S K' T' ↔ K' a0 a1) → Q) (k_T : ∀ (a0 : Nat) (a1 : cs), T a0 a1 → (∀ (K' : Int32 → cs → Prop) (T' : Nat → cs → Prop), e_B_turn_32 U u x1 S K' T' ↔ T' a0 a1) → Q) : Q := by
  obtain ⟨o, ho, hoc, hi⟩ := lp_det (C := (Int32 → cs → Prop) × (Nat → cs → Prop)) (b := (fun (y : (Int32) × (cs)) (R : ((Int32) × (cs)) → Prop) (c : (Int32 → cs → Prop) × (Nat → cs → Prop)) => b_B_turn_32 U u y.1 y.2 (fun z0 z1 => R (z0, z1)) c.1 c.2)) (O := (fun (o : ((Int32 → cs → Prop) × (Nat → cs → Prop)) → Prop) => (∃ (a0 : Int32) (a1 : cs), o = fun c => c.1 a0 a1) ∨ (∃ (a0 : Nat) (a1 : cs), o = fun c => c.2 a0 a1))) (fun y R c hy => d_b_B_turn_32 hy (fun a0 a1 ha ia => Or.inl ⟨(a0, a1), ha, fun R' c' => ia (fun z0 z1 => R' (z0, z1)) c'.1 c'.2⟩) (fun a0 a1 ha ia => Or.inr ⟨(fun c => c.1 a0 a1), Or.inl ⟨a0, a1, rfl⟩, ha, fun R' c' => ia (fun z0 z1 => R' (z0, z1)) c'.1 c'.2⟩) (fun a0 a1 ha ia => Or.inr ⟨(fun c => c.2 a0 a1), Or.inr (⟨a0, a1, rfl⟩), ha, fun R' c' => ia (fun z0 z1 => R' (z0, z1)) c'.1 c'.2⟩)) (l_e_B_turn_32.mp h)
  rcases ho with ⟨a0, a1, rfl⟩ | ⟨a0, a1, rfl⟩
  · exact k_K _ _ hoc (fun K' T' => Iff.trans l_e_B_turn_32 (hi (K', T')))
  · exact k_T _ _ hoc (fun K' T' => Iff.trans l_e_B_turn_32 (hi (K', T')))
theorem v_e_B_turn_32 {U : ut} {u : Nat} {x1 : Int32} {S : cs} {K : Int32 → cs → Prop} {T : Nat → cs → Prop} (h : e_B_turn_32 U u x1 S K T) {G : Prop} (Inv : Int32 → cs → Prop) (h0 : Inv x1 S) (hs : ∀ (yx1 : Int32) (yS : cs) (R : Int32 → cs → Prop), Inv yx1 yS → b_B_turn_32 U u yx1 yS R K T → (∃ (zx1 : Int32) (zS : cs), R zx1 zS ∧ Inv zx1 zS) ∨ G) : G := by
  obtain ⟨I, μ, i0, is⟩ := h
  have go : ∀ (n : Nat) (yx1 : Int32) (yS : cs), μ yx1 yS < n → I yx1 yS → Inv yx1 yS → G := by
    intro n
    induction n with
    | zero => intro yx1 yS hy; exact absurd hy (Nat.not_lt_zero _)
    | succ n ih =>
      intro yx1 yS hy hI hV
      rcases hs yx1 yS _ hV (is yx1 yS hI) with ⟨zx1, zS, ⟨hz, hm⟩, hv⟩ | g
      · exact ih zx1 zS (Nat.lt_of_lt_of_le hm (Nat.le_of_lt_succ hy)) hz hv
      · exact g
  exact go _ x1 S (Nat.lt_succ_self _) i0 h0
theorem r_e_B_turn_32 {U : ut} {u : Nat} {x1 : Int32} {S : cs} {K : Int32 → cs → Prop} {T : Nat → cs → Prop} (h : e_B_turn_32 U u x1 S K T) : b_B_turn_32 U u x1 S (fun zx1 zS => e_B_turn_32 U u zx1 zS K T) K T := by
  obtain ⟨I, μ, i0, is⟩ := h
  exact d_b_B_turn_32 (is x1 S i0) (fun a0 a1 ha ia => (ia _ _ _).mpr ⟨I, μ, ha.1, is⟩) (fun a0 a1 ha ia => (ia _ _ _).mpr ha) (fun a0 a1 ha ia => (ia _ _ _).mpr ha)
set_option maxHeartbeats 1000000 in
theorem d_p_B_turn {U : ut} {u : Nat} {S : cs} {K : Int32 → cs → Prop} {T : Nat → cs → Prop} (h : p_B_turn U u S K T) {Q : Prop} (k_K : ∀ (a0 : Int32) (a1 : cs), K a0 a1 → (∀ (K' : Int32 → cs → Prop) (T' : Nat → cs → Prop), p_B_turn U u S K' T' ↔ K' a0 a1) → Q) (k_T : ∀ (a0 : Nat) (a1 : cs), T a0 a1 → (∀ (K' : Int32 → cs → Prop) (T' : Nat → cs → Prop), p_B_turn U u S K' T' ↔ T' a0 a1) → Q) : Q := by
  unfold p_B_turn at h
  refine dt_p (And.right (And.right h)) (fun c_1 h_2 => ?_) (fun c_1 h_2 => ?_)
  ·
    exact d_e_B_turn_32 (And.right (And.right h_2)) (fun a0 a1 h_4 i_3 => k_K a0 a1 h_4 (fun _ _ => Iff.trans (dt_a (And.left h)) (Iff.trans (dt_a (And.left (And.right h))) (Iff.trans (dt_1 c_1 (fun n => n c_1)) (Iff.trans (dt_a (And.left h_2)) (Iff.trans (dt_a (And.left (And.right h_2))) (i_3 _ _))))))) (fun a0 a1 h_6 i_5 => k_T a0 a1 h_6 (fun _ _ => Iff.trans (dt_a (And.left h)) (Iff.trans (dt_a (And.left (And.right h))) (Iff.trans (dt_1 c_1 (fun n => n c_1)) (Iff.trans (dt_a (And.left h_2)) (Iff.trans (dt_a (And.left (And.right h_2))) (i_5 _ _)))))))
  ·
    exact k_T _ _ h_2 (fun _ _ => Iff.trans (dt_a (And.left h)) (Iff.trans (dt_a (And.left (And.right h))) (dt_2 c_1 c_1)))
set_option maxHeartbeats 1000000 in
theorem d_b_Un_begin_20 {U : ut} {u : Nat} {x1 : Int32} {S : cs} {R20 : Int32 → cs → Prop} {K : cs → Prop} (h : b_Un_begin_20 U u x1 S R20 K) {Q : Prop} (k_R20 : ∀ (a0 : Int32) (a1 : cs), R20 a0 a1 → (∀ (R20' : Int32 → cs → Prop) (K' : cs → Prop), b_Un_begin_20 U u x1 S R20' K' ↔ R20' a0 a1) → Q) (k_K : ∀ (a0 : cs), K a0 → (∀ (R20' : Int32 → cs → Prop) (K' : cs → Prop), b_Un_begin_20 U u x1 S R20' K' ↔ K' a0) → Q) : Q := by
  unfold b_Un_begin_20 at h
  refine dt_p h (fun c_1 h_2 => ?_) (fun c_1 h_2 => ?_)
  ·
    exact k_K _ h_2 (fun _ _ => dt_1 c_1 (fun n => n c_1))
  ·
    exact k_R20 _ _ (And.right (And.right (And.right (And.right (And.right (And.right (And.right (And.right h_2)))))))) (fun _ _ => Iff.trans (dt_2 c_1 c_1) (Iff.trans (dt_a (And.left h_2)) (Iff.trans (dt_a (And.left (And.right h_2))) (Iff.trans (dt_a (And.left (And.right (And.right h_2)))) (Iff.trans (dt_a (And.left (And.right (And.right (And.right h_2))))) (Iff.trans (dt_a (And.left (And.right (And.right (And.right (And.right h_2)))))) (Iff.trans (dt_a (And.left (And.right (And.right (And.right (And.right (And.right h_2))))))) (Iff.trans (dt_a (And.left (And.right (And.right (And.right (And.right (And.right (And.right h_2)))))))) (dt_a (And.left (And.right (And.right (And.right (And.right (And.right (And.right (And.right h_2)))))))))))))))))
theorem l_e_Un_begin_20 {U : ut} {u : Nat} {x1 : Int32} {S : cs} {K : cs → Prop} : e_Un_begin_20 U u x1 S K ↔ lpE (C := (cs → Prop)) (fun (y : (Int32) × (cs)) (R : ((Int32) × (cs)) → Prop) (c : (cs → Prop)) => b_Un_begin_20 U u y.1 y.2 (fun z0 z1 => R (z0, z1)) c) (x1, S) K :=
  ⟨fun ⟨I, μ, h0, hs⟩ => ⟨fun t => I t.1 t.2, fun t => μ t.1 t.2, h0, fun t ht => hs _ _ ht⟩, fun ⟨I, μ, h0, hs⟩ => ⟨fun y0 y1 => I (y0, y1), fun y0 y1 => μ (y0, y1), h0, fun y0 y1 hy => hs (y0, y1) hy⟩⟩
set_option maxHeartbeats 1000000 in
theorem d_e_Un_begin_20 {U : ut} {u : Nat} {x1 : Int32} {S : cs} {K : cs → Prop} (h : e_Un_begin_20 U u x1 S K) {Q : Prop} (k_K : ∀ (a0 : cs), K a0 → (∀ (K' : cs → Prop), e_Un_begin_20 U u x1 S K' ↔ K' a0) → Q) : Q := by
  obtain ⟨o, ho, hoc, hi⟩ := lp_det (C := (cs → Prop)) (b := (fun (y : (Int32) × (cs)) (R : ((Int32) × (cs)) → Prop) (c : (cs → Prop)) => b_Un_begin_20 U u y.1 y.2 (fun z0 z1 => R (z0, z1)) c)) (O := (fun (o : ((cs → Prop)) → Prop) => (∃ (a0 : cs), o = fun c => c a0))) (fun y R c hy => d_b_Un_begin_20 hy (fun a0 a1 ha ia => Or.inl ⟨(a0, a1), ha, fun R' c' => ia (fun z0 z1 => R' (z0, z1)) c'⟩) (fun a0 ha ia => Or.inr ⟨(fun c => c a0), ⟨a0, rfl⟩, ha, fun R' c' => ia (fun z0 z1 => R' (z0, z1)) c'⟩)) (l_e_Un_begin_20.mp h)
  rcases ho with ⟨a0, rfl⟩
  · exact k_K _ hoc (fun K' => Iff.trans l_e_Un_begin_20 (hi K'))
theorem v_e_Un_begin_20 {U : ut} {u : Nat} {x1 : Int32} {S : cs} {K : cs → Prop} (h : e_Un_begin_20 U u x1 S K) {G : Prop} (Inv : Int32 → cs → Prop) (h0 : Inv x1 S) (hs : ∀ (yx1 : Int32) (yS : cs) (R : Int32 → cs → Prop), Inv yx1 yS → b_Un_begin_20 U u yx1 yS R K → (∃ (zx1 : Int32) (zS : cs), R zx1 zS ∧ Inv zx1 zS) ∨ G) : G := by
  obtain ⟨I, μ, i0, is⟩ := h
  have go : ∀ (n : Nat) (yx1 : Int32) (yS : cs), μ yx1 yS < n → I yx1 yS → Inv yx1 yS → G := by
    intro n
    induction n with
    | zero => intro yx1 yS hy; exact absurd hy (Nat.not_lt_zero _)
    | succ n ih =>
      intro yx1 yS hy hI hV
      rcases hs yx1 yS _ hV (is yx1 yS hI) with ⟨zx1, zS, ⟨hz, hm⟩, hv⟩ | g
      · exact ih zx1 zS (Nat.lt_of_lt_of_le hm (Nat.le_of_lt_succ hy)) hz hv
      · exact g
  exact go _ x1 S (Nat.lt_succ_self _) i0 h0
theorem r_e_Un_begin_20 {U : ut} {u : Nat} {x1 : Int32} {S : cs} {K : cs → Prop} (h : e_Un_begin_20 U u x1 S K) : b_Un_begin_20 U u x1 S (fun zx1 zS => e_Un_begin_20 U u zx1 zS K) K := by
  obtain ⟨I, μ, i0, is⟩ := h
  exact d_b_Un_begin_20 (is x1 S i0) (fun a0 a1 ha ia => (ia _ _).mpr ⟨I, μ, ha.1, is⟩) (fun a0 ha ia => (ia _ _).mpr ha)
set_option maxHeartbeats 1000000 in
theorem d_p_Un_begin {U : ut} {u : Nat} {S : cs} {K : cs → Prop} (h : p_Un_begin U u S K) {Q : Prop} (k_K : ∀ (a0 : cs), K a0 → (∀ (K' : cs → Prop), p_Un_begin U u S K' ↔ K' a0) → Q) : Q := by
  unfold p_Un_begin at h
  exact d_e_Un_begin_20 (And.right (And.right h)) (fun a0 h_2 i_1 => k_K a0 h_2 (fun _ => Iff.trans (dt_a (And.left h)) (Iff.trans (dt_a (And.left (And.right h))) (i_1 _))))
set_option maxHeartbeats 1000000 in
theorem d_p_Re_read {U : ut} {u : Nat} {S : cs} {K : Int32 → cs → Prop} {T : Nat → cs → Prop} (h : p_Re_read U u S K T) {Q : Prop} (k_K : ∀ (a0 : Int32) (a1 : cs), K a0 a1 → (∀ (K' : Int32 → cs → Prop) (T' : Nat → cs → Prop), p_Re_read U u S K' T' ↔ K' a0 a1) → Q) (k_T : ∀ (a0 : Nat) (a1 : cs), T a0 a1 → (∀ (K' : Int32 → cs → Prop) (T' : Nat → cs → Prop), p_Re_read U u S K' T' ↔ T' a0 a1) → Q) : Q := by
  unfold p_Re_read at h
  refine dt_p (And.right (And.right h)) (fun c_1 h_2 => ?_) (fun c_1 h_2 => ?_)
  ·
    exact k_K _ _ (And.right (And.right (And.right (And.right h_2)))) (fun _ _ => Iff.trans (dt_a (And.left h)) (Iff.trans (dt_a (And.left (And.right h))) (Iff.trans (dt_1 c_1 (fun n => n c_1)) (Iff.trans (dt_a (And.left h_2)) (Iff.trans (dt_a (And.left (And.right h_2))) (Iff.trans (dt_a (And.left (And.right (And.right h_2)))) (dt_a (And.left (And.right (And.right (And.right h_2)))))))))))
  ·
    exact k_T _ _ (And.right h_2) (fun _ _ => Iff.trans (dt_a (And.left h)) (Iff.trans (dt_a (And.left (And.right h))) (Iff.trans (dt_2 c_1 c_1) (dt_a (And.left h_2)))))
set_option maxHeartbeats 1000000 in
theorem d_p_Re_fail {U : ut} {u : Nat} {x1 : Int32} {x2 : Int32} {S : cs} {K : cs → Prop} {T : Nat → cs → Prop} (h : p_Re_fail U u x1 x2 S K T) {Q : Prop} (k_K : ∀ (a0 : cs), K a0 → (∀ (K' : cs → Prop) (T' : Nat → cs → Prop), p_Re_fail U u x1 x2 S K' T' ↔ K' a0) → Q) (k_T : ∀ (a0 : Nat) (a1 : cs), T a0 a1 → (∀ (K' : cs → Prop) (T' : Nat → cs → Prop), p_Re_fail U u x1 x2 S K' T' ↔ T' a0 a1) → Q) : Q := by
  unfold p_Re_fail at h
  exact k_T _ _ h (fun _ _ => Iff.rfl)
set_option maxHeartbeats 1000000 in
theorem d_b_Re_readMark_52 {U : ut} {u : Nat} {x1 : Int32} {S : cs} {K : Int32 → cs → Prop} {T : Nat → cs → Prop} (h : b_Re_readMark_52 U u x1 S K T) {Q : Prop} (k_K : ∀ (a0 : Int32) (a1 : cs), K a0 a1 → (∀ (K' : Int32 → cs → Prop) (T' : Nat → cs → Prop), b_Re_readMark_52 U u x1 S K' T' ↔ K' a0 a1) → Q) (k_T : ∀ (a0 : Nat) (a1 : cs), T a0 a1 → (∀ (K' : Int32 → cs → Prop) (T' : Nat → cs → Prop), b_Re_readMark_52 U u x1 S K' T' ↔ T' a0 a1) → Q) : Q := by
  unfold b_Re_readMark_52 at h
  exact k_K _ _ h (fun _ _ => Iff.rfl)
set_option maxHeartbeats 1000000 in
theorem d_b_Re_readMark_28 {U : ut} {u : Nat} {x1 : Int32} {x2 : Int32} {S : cs} {R28 : Int32 → Int32 → cs → Prop} {K : Int32 → cs → Prop} {T : Nat → cs → Prop} (h : b_Re_readMark_28 U u x1 x2 S R28 K T) {Q : Prop} (k_R28 : ∀ (a0 : Int32) (a1 : Int32) (a2 : cs), R28 a0 a1 a2 → (∀ (R28' : Int32 → Int32 → cs → Prop) (K' : Int32 → cs → Prop) (T' : Nat → cs → Prop), b_Re_readMark_28 U u x1 x2 S R28' K' T' ↔ R28' a0 a1 a2) → Q) (k_K : ∀ (a0 : Int32) (a1 : cs), K a0 a1 → (∀ (R28' : Int32 → Int32 → cs → Prop) (K' : Int32 → cs → Prop) (T' : Nat → cs → Prop), b_Re_readMark_28 U u x1 x2 S R28' K' T' ↔ K' a0 a1) → Q) (k_T : ∀ (a0 : Nat) (a1 : cs), T a0 a1 → (∀ (R28' : Int32 → Int32 → cs → Prop) (K' : Int32 → cs → Prop) (T' : Nat → cs → Prop), b_Re_readMark_28 U u x1 x2 S R28' K' T' ↔ T' a0 a1) → Q) : Q := by
  unfold b_Re_readMark_28 at h
  refine dt_n h (fun c_1 h_2 => ?_) (fun c_1 h_2 => ?_)
  ·
    exact d_b_Re_readMark_52 h_2 (fun a0 a1 h_4 i_3 => k_K a0 a1 h_4 (fun _ _ _ => Iff.trans (dt_1 c_1 c_1) (i_3 _ _))) (fun a0 a1 h_6 i_5 => k_T a0 a1 h_6 (fun _ _ _ => Iff.trans (dt_1 c_1 c_1) (i_5 _ _)))
  ·
    refine dt_p h_2 (fun c_7 h_8 => ?_) (fun c_7 h_8 => ?_)
    ·
      exact d_b_Re_readMark_52 h_8 (fun a0 a1 h_10 i_9 => k_K a0 a1 h_10 (fun _ _ _ => Iff.trans (dt_2 (fun n => n c_1) c_1) (Iff.trans (dt_1 c_7 (fun n => n c_7)) (i_9 _ _)))) (fun a0 a1 h_12 i_11 => k_T a0 a1 h_12 (fun _ _ _ => Iff.trans (dt_2 (fun n => n c_1) c_1) (Iff.trans (dt_1 c_7 (fun n => n c_7)) (i_11 _ _))))
    ·
      refine d_p_Re_read h_8 (fun v42 S42 h_14 i_13 => ?_) (fun a0 a1 h_16 i_15 => k_T a0 a1 h_16 (fun _ _ _ => Iff.trans (dt_2 (fun n => n c_1) c_1) (Iff.trans (dt_2 c_7 c_7) (i_15 _ _))))
      exact k_R28 _ _ _ h_14 (fun _ _ _ => Iff.trans (dt_2 (fun n => n c_1) c_1) (Iff.trans (dt_2 c_7 c_7) (i_13 _ _)))
theorem l_e_Re_readMark_28 {U : ut} {u : Nat} {x1 : Int32} {x2 : Int32} {S : cs} {K : Int32 → cs → Prop} {T : Nat → cs → Prop} : e_Re_readMark_28 U u x1 x2 S K T ↔ lpE (C := (Int32 → cs → Prop) × (Nat → cs → Prop)) (fun (y : (Int32) × (Int32) × (cs)) (R : ((Int32) × (Int32) × (cs)) → Prop) (c : (Int32 → cs → Prop) × (Nat → cs → Prop)) => b_Re_readMark_28 U u y.1 y.2.1 y.2.2 (fun z0 z1 z2 => R (z0, z1, z2)) c.1 c.2) (x1, x2, S) (K, T) :=
  ⟨fun ⟨I, μ, h0, hs⟩ => ⟨fun t => I t.1 t.2.1 t.2.2, fun t => μ t.1 t.2.1 t.2.2, h0, fun t ht => hs _ _ _ ht⟩, fun ⟨I, μ, h0, hs⟩ => ⟨fun y0 y1 y2 => I (y0, y1, y2), fun y0 y1 y2 => μ (y0, y1, y2), h0, fun y0 y1 y2 hy => hs (y0, y1, y2) hy⟩⟩
set_option maxHeartbeats 1000000 in
theorem d_e_Re_readMark_28 {U : ut} {u : Nat} {x1 : Int32} {x2 : Int32} {S : cs} {K : Int32 → cs → Prop} {T : Nat → cs → Prop} (h : e_Re_readMark_28 U u x1 x2 S K T) {Q : Prop} (k_K : ∀ (a0 : Int32) (a1 : cs), K a0 a1 → (∀ (K' : Int32 → cs → Prop) (T' : Nat → cs → Prop), e_Re_readMark_28 U u x1 x2 S K' T' ↔ K' a0 a1) → Q) (k_T : ∀ (a0 : Nat) (a1 : cs), T a0 a1 → (∀ (K' : Int32 → cs → Prop) (T' : Nat → cs → Prop), e_Re_readMark_28 U u x1 x2 S K' T' ↔ T' a0 a1) → Q) : Q := by
  obtain ⟨o, ho, hoc, hi⟩ := lp_det (C := (Int32 → cs → Prop) × (Nat → cs → Prop)) (b := (fun (y : (Int32) × (Int32) × (cs)) (R : ((Int32) × (Int32) × (cs)) → Prop) (c : (Int32 → cs → Prop) × (Nat → cs → Prop)) => b_Re_readMark_28 U u y.1 y.2.1 y.2.2 (fun z0 z1 z2 => R (z0, z1, z2)) c.1 c.2)) (O := (fun (o : ((Int32 → cs → Prop) × (Nat → cs → Prop)) → Prop) => (∃ (a0 : Int32) (a1 : cs), o = fun c => c.1 a0 a1) ∨ (∃ (a0 : Nat) (a1 : cs), o = fun c => c.2 a0 a1))) (fun y R c hy => d_b_Re_readMark_28 hy (fun a0 a1 a2 ha ia => Or.inl ⟨(a0, a1, a2), ha, fun R' c' => ia (fun z0 z1 z2 => R' (z0, z1, z2)) c'.1 c'.2⟩) (fun a0 a1 ha ia => Or.inr ⟨(fun c => c.1 a0 a1), Or.inl ⟨a0, a1, rfl⟩, ha, fun R' c' => ia (fun z0 z1 z2 => R' (z0, z1, z2)) c'.1 c'.2⟩) (fun a0 a1 ha ia => Or.inr ⟨(fun c => c.2 a0 a1), Or.inr (⟨a0, a1, rfl⟩), ha, fun R' c' => ia (fun z0 z1 z2 => R' (z0, z1, z2)) c'.1 c'.2⟩)) (l_e_Re_readMark_28.mp h)
  rcases ho with ⟨a0, a1, rfl⟩ | ⟨a0, a1, rfl⟩
  · exact k_K _ _ hoc (fun K' T' => Iff.trans l_e_Re_readMark_28 (hi (K', T')))
  · exact k_T _ _ hoc (fun K' T' => Iff.trans l_e_Re_readMark_28 (hi (K', T')))
theorem v_e_Re_readMark_28 {U : ut} {u : Nat} {x1 : Int32} {x2 : Int32} {S : cs} {K : Int32 → cs → Prop} {T : Nat → cs → Prop} (h : e_Re_readMark_28 U u x1 x2 S K T) {G : Prop} (Inv : Int32 → Int32 → cs → Prop) (h0 : Inv x1 x2 S) (hs : ∀ (yx1 : Int32) (yx2 : Int32) (yS : cs) (R : Int32 → Int32 → cs → Prop), Inv yx1 yx2 yS → b_Re_readMark_28 U u yx1 yx2 yS R K T → (∃ (zx1 : Int32) (zx2 : Int32) (zS : cs), R zx1 zx2 zS ∧ Inv zx1 zx2 zS) ∨ G) : G := by
  obtain ⟨I, μ, i0, is⟩ := h
  have go : ∀ (n : Nat) (yx1 : Int32) (yx2 : Int32) (yS : cs), μ yx1 yx2 yS < n → I yx1 yx2 yS → Inv yx1 yx2 yS → G := by
    intro n
    induction n with
    | zero => intro yx1 yx2 yS hy; exact absurd hy (Nat.not_lt_zero _)
    | succ n ih =>
      intro yx1 yx2 yS hy hI hV
      rcases hs yx1 yx2 yS _ hV (is yx1 yx2 yS hI) with ⟨zx1, zx2, zS, ⟨hz, hm⟩, hv⟩ | g
      · exact ih zx1 zx2 zS (Nat.lt_of_lt_of_le hm (Nat.le_of_lt_succ hy)) hz hv
      · exact g
  exact go _ x1 x2 S (Nat.lt_succ_self _) i0 h0
theorem r_e_Re_readMark_28 {U : ut} {u : Nat} {x1 : Int32} {x2 : Int32} {S : cs} {K : Int32 → cs → Prop} {T : Nat → cs → Prop} (h : e_Re_readMark_28 U u x1 x2 S K T) : b_Re_readMark_28 U u x1 x2 S (fun zx1 zx2 zS => e_Re_readMark_28 U u zx1 zx2 zS K T) K T := by
  obtain ⟨I, μ, i0, is⟩ := h
  exact d_b_Re_readMark_28 (is x1 x2 S i0) (fun a0 a1 a2 ha ia => (ia _ _ _).mpr ⟨I, μ, ha.1, is⟩) (fun a0 a1 ha ia => (ia _ _ _).mpr ha) (fun a0 a1 ha ia => (ia _ _ _).mpr ha)
set_option maxHeartbeats 1000000 in
theorem d_b_Re_readMark_21 {U : ut} {u : Nat} {S : cs} {K : Int32 → cs → Prop} {T : Nat → cs → Prop} (h : b_Re_readMark_21 U u S K T) {Q : Prop} (k_K : ∀ (a0 : Int32) (a1 : cs), K a0 a1 → (∀ (K' : Int32 → cs → Prop) (T' : Nat → cs → Prop), b_Re_readMark_21 U u S K' T' ↔ K' a0 a1) → Q) (k_T : ∀ (a0 : Nat) (a1 : cs), T a0 a1 → (∀ (K' : Int32 → cs → Prop) (T' : Nat → cs → Prop), b_Re_readMark_21 U u S K' T' ↔ T' a0 a1) → Q) : Q := by
  unfold b_Re_readMark_21 at h
  refine d_p_Re_read h (fun v22 S22 h_2 i_1 => ?_) (fun a0 a1 h_4 i_3 => k_T a0 a1 h_4 (fun _ _ => i_3 _ _))
  exact d_e_Re_readMark_28 h_2 (fun a0 a1 h_6 i_5 => k_K a0 a1 h_6 (fun _ _ => Iff.trans (i_1 _ _) (i_5 _ _))) (fun a0 a1 h_8 i_7 => k_T a0 a1 h_8 (fun _ _ => Iff.trans (i_1 _ _) (i_7 _ _)))
set_option maxHeartbeats 1000000 in
theorem d_p_Re_readMark {U : ut} {u : Nat} {S : cs} {K : Int32 → cs → Prop} {T : Nat → cs → Prop} (h : p_Re_readMark U u S K T) {Q : Prop} (k_K : ∀ (a0 : Int32) (a1 : cs), K a0 a1 → (∀ (K' : Int32 → cs → Prop) (T' : Nat → cs → Prop), p_Re_readMark U u S K' T' ↔ K' a0 a1) → Q) (k_T : ∀ (a0 : Nat) (a1 : cs), T a0 a1 → (∀ (K' : Int32 → cs → Prop) (T' : Nat → cs → Prop), p_Re_readMark U u S K' T' ↔ T' a0 a1) → Q) : Q := by
  unfold p_Re_readMark at h
  refine d_p_Re_read h (fun v1 S1 h_2 i_1 => ?_) (fun a0 a1 h_4 i_3 => k_T a0 a1 h_4 (fun _ _ => i_3 _ _))
  refine dt_p h_2 (fun c_5 h_6 => ?_) (fun c_5 h_6 => ?_)
  ·
    exact d_b_Re_readMark_21 h_6 (fun a0 a1 h_8 i_7 => k_K a0 a1 h_8 (fun _ _ => Iff.trans (i_1 _ _) (Iff.trans (dt_1 c_5 (fun n => n c_5)) (i_7 _ _)))) (fun a0 a1 h_10 i_9 => k_T a0 a1 h_10 (fun _ _ => Iff.trans (i_1 _ _) (Iff.trans (dt_1 c_5 (fun n => n c_5)) (i_9 _ _))))
  ·
    refine d_p_Re_fail h_6 (fun S18 h_12 i_11 => ?_) (fun a0 a1 h_14 i_13 => k_T a0 a1 h_14 (fun _ _ => Iff.trans (i_1 _ _) (Iff.trans (dt_2 c_5 c_5) (i_13 _ _))))
    exact d_b_Re_readMark_21 h_12 (fun a0 a1 h_16 i_15 => k_K a0 a1 h_16 (fun _ _ => Iff.trans (i_1 _ _) (Iff.trans (dt_2 c_5 c_5) (Iff.trans (i_11 _ _) (i_15 _ _))))) (fun a0 a1 h_18 i_17 => k_T a0 a1 h_18 (fun _ _ => Iff.trans (i_1 _ _) (Iff.trans (dt_2 c_5 c_5) (Iff.trans (i_11 _ _) (i_17 _ _)))))
set_option maxHeartbeats 1000000 in
theorem d_b_Un_allScanned_33 {U : ut} {u : Nat} {x2 : Int32} {s0 : Int32} {S : cs} {R4 : Int32 → Int32 → cs → Prop} {K : Int32 → cs → Prop} (h : b_Un_allScanned_33 U u x2 s0 S R4 K) {Q : Prop} (k_R4 : ∀ (a0 : Int32) (a1 : Int32) (a2 : cs), R4 a0 a1 a2 → (∀ (R4' : Int32 → Int32 → cs → Prop) (K' : Int32 → cs → Prop), b_Un_allScanned_33 U u x2 s0 S R4' K' ↔ R4' a0 a1 a2) → Q) (k_K : ∀ (a0 : Int32) (a1 : cs), K a0 a1 → (∀ (R4' : Int32 → Int32 → cs → Prop) (K' : Int32 → cs → Prop), b_Un_allScanned_33 U u x2 s0 S R4' K' ↔ K' a0 a1) → Q) : Q := by
  unfold b_Un_allScanned_33 at h
  exact k_R4 _ _ _ h (fun _ _ => Iff.rfl)
set_option maxHeartbeats 1000000 in
theorem d_b_Un_allScanned_32 {U : ut} {u : Nat} {x2 : Int32} {S : cs} {R4 : Int32 → Int32 → cs → Prop} {K : Int32 → cs → Prop} (h : b_Un_allScanned_32 U u x2 S R4 K) {Q : Prop} (k_R4 : ∀ (a0 : Int32) (a1 : Int32) (a2 : cs), R4 a0 a1 a2 → (∀ (R4' : Int32 → Int32 → cs → Prop) (K' : Int32 → cs → Prop), b_Un_allScanned_32 U u x2 S R4' K' ↔ R4' a0 a1 a2) → Q) (k_K : ∀ (a0 : Int32) (a1 : cs), K a0 a1 → (∀ (R4' : Int32 → Int32 → cs → Prop) (K' : Int32 → cs → Prop), b_Un_allScanned_32 U u x2 S R4' K' ↔ K' a0 a1) → Q) : Q := by
  unfold b_Un_allScanned_32 at h
  exact d_b_Un_allScanned_33 h (fun a0 a1 a2 h_2 i_1 => k_R4 a0 a1 a2 h_2 (fun _ _ => i_1 _ _)) (fun a0 a1 h_4 i_3 => k_K a0 a1 h_4 (fun _ _ => i_3 _ _))
set_option maxHeartbeats 1000000 in
theorem d_b_Un_allScanned_4 {U : ut} {u : Nat} {x1 : Int32} {x2 : Int32} {S : cs} {R4 : Int32 → Int32 → cs → Prop} {K : Int32 → cs → Prop} (h : b_Un_allScanned_4 U u x1 x2 S R4 K) {Q : Prop} (k_R4 : ∀ (a0 : Int32) (a1 : Int32) (a2 : cs), R4 a0 a1 a2 → (∀ (R4' : Int32 → Int32 → cs → Prop) (K' : Int32 → cs → Prop), b_Un_allScanned_4 U u x1 x2 S R4' K' ↔ R4' a0 a1 a2) → Q) (k_K : ∀ (a0 : Int32) (a1 : cs), K a0 a1 → (∀ (R4' : Int32 → Int32 → cs → Prop) (K' : Int32 → cs → Prop), b_Un_allScanned_4 U u x1 x2 S R4' K' ↔ K' a0 a1) → Q) : Q := by
  unfold b_Un_allScanned_4 at h
  refine dt_p (And.right (And.right h)) (fun c_1 h_2 => ?_) (fun c_1 h_2 => ?_)
  ·
    exact k_K _ _ (And.right h_2) (fun _ _ => Iff.trans (dt_a (And.left h)) (Iff.trans (dt_a (And.left (And.right h))) (Iff.trans (dt_1 c_1 (fun n => n c_1)) (dt_a (And.left h_2)))))
  ·
    refine dt_p h_2 (fun c_3 h_4 => ?_) (fun c_3 h_4 => ?_)
    ·
      exact d_b_Un_allScanned_32 h_4 (fun a0 a1 a2 h_6 i_5 => k_R4 a0 a1 a2 h_6 (fun _ _ => Iff.trans (dt_a (And.left h)) (Iff.trans (dt_a (And.left (And.right h))) (Iff.trans (dt_2 c_1 c_1) (Iff.trans (dt_1 c_3 (fun n => n c_3)) (i_5 _ _)))))) (fun a0 a1 h_8 i_7 => k_K a0 a1 h_8 (fun _ _ => Iff.trans (dt_a (And.left h)) (Iff.trans (dt_a (And.left (And.right h))) (Iff.trans (dt_2 c_1 c_1) (Iff.trans (dt_1 c_3 (fun n => n c_3)) (i_7 _ _))))))
    ·
      refine dt_p (And.right (And.right (And.right h_4))) (fun c_9 h_10 => ?_) (fun c_9 h_10 => ?_)
      ·
        exact d_b_Un_allScanned_32 h_10 (fun a0 a1 a2 h_12 i_11 => k_R4 a0 a1 a2 h_12 (fun _ _ => Iff.trans (dt_a (And.left h)) (Iff.trans (dt_a (And.left (And.right h))) (Iff.trans (dt_2 c_1 c_1) (Iff.trans (dt_2 c_3 c_3) (Iff.trans (dt_a (And.left h_4)) (Iff.trans (dt_a (And.left (And.right h_4))) (Iff.trans (dt_a (And.left (And.right (And.right h_4)))) (Iff.trans (dt_1 c_9 (fun n => n c_9)) (i_11 _ _)))))))))) (fun a0 a1 h_14 i_13 => k_K a0 a1 h_14 (fun _ _ => Iff.trans (dt_a (And.left h)) (Iff.trans (dt_a (And.left (And.right h))) (Iff.trans (dt_2 c_1 c_1) (Iff.trans (dt_2 c_3 c_3) (Iff.trans (dt_a (And.left h_4)) (Iff.trans (dt_a (And.left (And.right h_4))) (Iff.trans (dt_a (And.left (And.right (And.right h_4)))) (Iff.trans (dt_1 c_9 (fun n => n c_9)) (i_13 _ _))))))))))
      ·
        exact d_b_Un_allScanned_33 h_10 (fun a0 a1 a2 h_16 i_15 => k_R4 a0 a1 a2 h_16 (fun _ _ => Iff.trans (dt_a (And.left h)) (Iff.trans (dt_a (And.left (And.right h))) (Iff.trans (dt_2 c_1 c_1) (Iff.trans (dt_2 c_3 c_3) (Iff.trans (dt_a (And.left h_4)) (Iff.trans (dt_a (And.left (And.right h_4))) (Iff.trans (dt_a (And.left (And.right (And.right h_4)))) (Iff.trans (dt_2 c_9 c_9) (i_15 _ _)))))))))) (fun a0 a1 h_18 i_17 => k_K a0 a1 h_18 (fun _ _ => Iff.trans (dt_a (And.left h)) (Iff.trans (dt_a (And.left (And.right h))) (Iff.trans (dt_2 c_1 c_1) (Iff.trans (dt_2 c_3 c_3) (Iff.trans (dt_a (And.left h_4)) (Iff.trans (dt_a (And.left (And.right h_4))) (Iff.trans (dt_a (And.left (And.right (And.right h_4)))) (Iff.trans (dt_2 c_9 c_9) (i_17 _ _))))))))))
theorem l_e_Un_allScanned_4 {U : ut} {u : Nat} {x1 : Int32} {x2 : Int32} {S : cs} {K : Int32 → cs → Prop} : e_Un_allScanned_4 U u x1 x2 S K ↔ lpE (C := (Int32 → cs → Prop)) (fun (y : (Int32) × (Int32) × (cs)) (R : ((Int32) × (Int32) × (cs)) → Prop) (c : (Int32 → cs → Prop)) => b_Un_allScanned_4 U u y.1 y.2.1 y.2.2 (fun z0 z1 z2 => R (z0, z1, z2)) c) (x1, x2, S) K :=
  ⟨fun ⟨I, μ, h0, hs⟩ => ⟨fun t => I t.1 t.2.1 t.2.2, fun t => μ t.1 t.2.1 t.2.2, h0, fun t ht => hs _ _ _ ht⟩, fun ⟨I, μ, h0, hs⟩ => ⟨fun y0 y1 y2 => I (y0, y1, y2), fun y0 y1 y2 => μ (y0, y1, y2), h0, fun y0 y1 y2 hy => hs (y0, y1, y2) hy⟩⟩
set_option maxHeartbeats 1000000 in
theorem d_e_Un_allScanned_4 {U : ut} {u : Nat} {x1 : Int32} {x2 : Int32} {S : cs} {K : Int32 → cs → Prop} (h : e_Un_allScanned_4 U u x1 x2 S K) {Q : Prop} (k_K : ∀ (a0 : Int32) (a1 : cs), K a0 a1 → (∀ (K' : Int32 → cs → Prop), e_Un_allScanned_4 U u x1 x2 S K' ↔ K' a0 a1) → Q) : Q := by
  obtain ⟨o, ho, hoc, hi⟩ := lp_det (C := (Int32 → cs → Prop)) (b := (fun (y : (Int32) × (Int32) × (cs)) (R : ((Int32) × (Int32) × (cs)) → Prop) (c : (Int32 → cs → Prop)) => b_Un_allScanned_4 U u y.1 y.2.1 y.2.2 (fun z0 z1 z2 => R (z0, z1, z2)) c)) (O := (fun (o : ((Int32 → cs → Prop)) → Prop) => (∃ (a0 : Int32) (a1 : cs), o = fun c => c a0 a1))) (fun y R c hy => d_b_Un_allScanned_4 hy (fun a0 a1 a2 ha ia => Or.inl ⟨(a0, a1, a2), ha, fun R' c' => ia (fun z0 z1 z2 => R' (z0, z1, z2)) c'⟩) (fun a0 a1 ha ia => Or.inr ⟨(fun c => c a0 a1), ⟨a0, a1, rfl⟩, ha, fun R' c' => ia (fun z0 z1 z2 => R' (z0, z1, z2)) c'⟩)) (l_e_Un_allScanned_4.mp h)
  rcases ho with ⟨a0, a1, rfl⟩
  · exact k_K _ _ hoc (fun K' => Iff.trans l_e_Un_allScanned_4 (hi K'))
theorem v_e_Un_allScanned_4 {U : ut} {u : Nat} {x1 : Int32} {x2 : Int32} {S : cs} {K : Int32 → cs → Prop} (h : e_Un_allScanned_4 U u x1 x2 S K) {G : Prop} (Inv : Int32 → Int32 → cs → Prop) (h0 : Inv x1 x2 S) (hs : ∀ (yx1 : Int32) (yx2 : Int32) (yS : cs) (R : Int32 → Int32 → cs → Prop), Inv yx1 yx2 yS → b_Un_allScanned_4 U u yx1 yx2 yS R K → (∃ (zx1 : Int32) (zx2 : Int32) (zS : cs), R zx1 zx2 zS ∧ Inv zx1 zx2 zS) ∨ G) : G := by
  obtain ⟨I, μ, i0, is⟩ := h
  have go : ∀ (n : Nat) (yx1 : Int32) (yx2 : Int32) (yS : cs), μ yx1 yx2 yS < n → I yx1 yx2 yS → Inv yx1 yx2 yS → G := by
    intro n
    induction n with
    | zero => intro yx1 yx2 yS hy; exact absurd hy (Nat.not_lt_zero _)
    | succ n ih =>
      intro yx1 yx2 yS hy hI hV
      rcases hs yx1 yx2 yS _ hV (is yx1 yx2 yS hI) with ⟨zx1, zx2, zS, ⟨hz, hm⟩, hv⟩ | g
      · exact ih zx1 zx2 zS (Nat.lt_of_lt_of_le hm (Nat.le_of_lt_succ hy)) hz hv
      · exact g
  exact go _ x1 x2 S (Nat.lt_succ_self _) i0 h0
theorem r_e_Un_allScanned_4 {U : ut} {u : Nat} {x1 : Int32} {x2 : Int32} {S : cs} {K : Int32 → cs → Prop} (h : e_Un_allScanned_4 U u x1 x2 S K) : b_Un_allScanned_4 U u x1 x2 S (fun zx1 zx2 zS => e_Un_allScanned_4 U u zx1 zx2 zS K) K := by
  obtain ⟨I, μ, i0, is⟩ := h
  exact d_b_Un_allScanned_4 (is x1 x2 S i0) (fun a0 a1 a2 ha ia => (ia _ _).mpr ⟨I, μ, ha.1, is⟩) (fun a0 a1 ha ia => (ia _ _).mpr ha)
set_option maxHeartbeats 1000000 in
theorem d_p_Un_allScanned {U : ut} {u : Nat} {S : cs} {K : Int32 → cs → Prop} (h : p_Un_allScanned U u S K) {Q : Prop} (k_K : ∀ (a0 : Int32) (a1 : cs), K a0 a1 → (∀ (K' : Int32 → cs → Prop), p_Un_allScanned U u S K' ↔ K' a0 a1) → Q) : Q := by
  unfold p_Un_allScanned at h
  exact d_e_Un_allScanned_4 h (fun a0 a1 h_2 i_1 => k_K a0 a1 h_2 (fun _ => i_1 _))
set_option maxHeartbeats 1000000 in
theorem d_b_Un_canCome_127 {U : ut} {u : Nat} {s0 : Int32} {S : cs} {K : Int32 → cs → Prop} (h : b_Un_canCome_127 U u s0 S K) {Q : Prop} (k_K : ∀ (a0 : Int32) (a1 : cs), K a0 a1 → (∀ (K' : Int32 → cs → Prop), b_Un_canCome_127 U u s0 S K' ↔ K' a0 a1) → Q) : Q := by
  unfold b_Un_canCome_127 at h
  exact k_K _ _ (And.right h) (fun _ => dt_a (And.left h))
set_option maxHeartbeats 1000000 in
theorem d_b_Un_canCome_126 {U : ut} {u : Nat} {S : cs} {K : Int32 → cs → Prop} (h : b_Un_canCome_126 U u S K) {Q : Prop} (k_K : ∀ (a0 : Int32) (a1 : cs), K a0 a1 → (∀ (K' : Int32 → cs → Prop), b_Un_canCome_126 U u S K' ↔ K' a0 a1) → Q) : Q := by
  unfold b_Un_canCome_126 at h
  exact d_b_Un_canCome_127 h (fun a0 a1 h_2 i_1 => k_K a0 a1 h_2 (fun _ => i_1 _))
set_option maxHeartbeats 1000000 in
theorem d_b_Un_canCome_105 {U : ut} {u : Nat} {s0 : Int32} {S : cs} {K : Int32 → cs → Prop} (h : b_Un_canCome_105 U u s0 S K) {Q : Prop} (k_K : ∀ (a0 : Int32) (a1 : cs), K a0 a1 → (∀ (K' : Int32 → cs → Prop), b_Un_canCome_105 U u s0 S K' ↔ K' a0 a1) → Q) : Q := by
  unfold b_Un_canCome_105 at h
  exact k_K _ _ (And.right h) (fun _ => dt_a (And.left h))
set_option maxHeartbeats 1000000 in
theorem d_b_Un_canCome_104 {U : ut} {u : Nat} {S : cs} {K : Int32 → cs → Prop} (h : b_Un_canCome_104 U u S K) {Q : Prop} (k_K : ∀ (a0 : Int32) (a1 : cs), K a0 a1 → (∀ (K' : Int32 → cs → Prop), b_Un_canCome_104 U u S K' ↔ K' a0 a1) → Q) : Q := by
  unfold b_Un_canCome_104 at h
  exact d_b_Un_canCome_105 h (fun a0 a1 h_2 i_1 => k_K a0 a1 h_2 (fun _ => i_1 _))
set_option maxHeartbeats 1000000 in
theorem d_b_Un_canCome_80 {U : ut} {u : Nat} {s0 : Int32} {S : cs} {K : Int32 → cs → Prop} (h : b_Un_canCome_80 U u s0 S K) {Q : Prop} (k_K : ∀ (a0 : Int32) (a1 : cs), K a0 a1 → (∀ (K' : Int32 → cs → Prop), b_Un_canCome_80 U u s0 S K' ↔ K' a0 a1) → Q) : Q := by
  unfold b_Un_canCome_80 at h
  exact k_K _ _ (And.right h) (fun _ => dt_a (And.left h))
set_option maxHeartbeats 1000000 in
theorem d_p_Un_canCome {U : ut} {u : Nat} {x1 : Int32} {S : cs} {K : Int32 → cs → Prop} (h : p_Un_canCome U u x1 S K) {Q : Prop} (k_K : ∀ (a0 : Int32) (a1 : cs), K a0 a1 → (∀ (K' : Int32 → cs → Prop), p_Un_canCome U u x1 S K' ↔ K' a0 a1) → Q) : Q := by
  unfold p_Un_canCome at h
  refine dt_p h (fun c_1 h_2 => ?_) (fun c_1 h_2 => ?_)
  ·
    refine dt_n h_2 (fun c_3 h_4 => ?_) (fun c_3 h_4 => ?_)
    ·
      exact d_b_Un_canCome_80 h_4 (fun a0 a1 h_6 i_5 => k_K a0 a1 h_6 (fun _ => Iff.trans (dt_1 c_1 (fun n => n c_1)) (Iff.trans (dt_1 c_3 c_3) (i_5 _))))
    ·
      exact d_b_Un_canCome_80 h_4 (fun a0 a1 h_8 i_7 => k_K a0 a1 h_8 (fun _ => Iff.trans (dt_1 c_1 (fun n => n c_1)) (Iff.trans (dt_2 (fun n => n c_3) c_3) (i_7 _))))
  ·
    refine dt_p h_2 (fun c_9 h_10 => ?_) (fun c_9 h_10 => ?_)
    ·
      exact k_K _ _ h_10 (fun _ => Iff.trans (dt_2 c_1 c_1) (dt_1 c_9 (fun n => n c_9)))
    ·
      refine dt_p h_10 (fun c_11 h_12 => ?_) (fun c_11 h_12 => ?_)
      ·
        refine dt_p h_12 (fun c_13 h_14 => ?_) (fun c_13 h_14 => ?_)
        ·
          exact d_b_Un_canCome_104 h_14 (fun a0 a1 h_16 i_15 => k_K a0 a1 h_16 (fun _ => Iff.trans (dt_2 c_1 c_1) (Iff.trans (dt_2 c_9 c_9) (Iff.trans (dt_1 c_11 (fun n => n c_11)) (Iff.trans (dt_1 c_13 (fun n => n c_13)) (i_15 _))))))
        ·
          refine d_p_Un_allScanned h_14 (fun v94 S94 h_18 i_17 => ?_)
          refine dt_p h_18 (fun c_19 h_20 => ?_) (fun c_19 h_20 => ?_)
          ·
            exact d_b_Un_canCome_104 h_20 (fun a0 a1 h_22 i_21 => k_K a0 a1 h_22 (fun _ => Iff.trans (dt_2 c_1 c_1) (Iff.trans (dt_2 c_9 c_9) (Iff.trans (dt_1 c_11 (fun n => n c_11)) (Iff.trans (dt_2 c_13 c_13) (Iff.trans (i_17 _) (Iff.trans (dt_1 c_19 (fun n => n c_19)) (i_21 _))))))))
          ·
            exact d_b_Un_canCome_105 h_20 (fun a0 a1 h_24 i_23 => k_K a0 a1 h_24 (fun _ => Iff.trans (dt_2 c_1 c_1) (Iff.trans (dt_2 c_9 c_9) (Iff.trans (dt_1 c_11 (fun n => n c_11)) (Iff.trans (dt_2 c_13 c_13) (Iff.trans (i_17 _) (Iff.trans (dt_2 c_19 c_19) (i_23 _))))))))
      ·
        refine dt_p h_12 (fun c_25 h_26 => ?_) (fun c_25 h_26 => ?_)
        ·
          exact k_K _ _ (And.right h_26) (fun _ => Iff.trans (dt_2 c_1 c_1) (Iff.trans (dt_2 c_9 c_9) (Iff.trans (dt_2 c_11 c_11) (Iff.trans (dt_1 c_25 (fun n => n c_25)) (dt_a (And.left h_26))))))
        ·
          refine dt_p h_26 (fun c_27 h_28 => ?_) (fun c_27 h_28 => ?_)
          ·
            exact k_K _ _ h_28 (fun _ => Iff.trans (dt_2 c_1 c_1) (Iff.trans (dt_2 c_9 c_9) (Iff.trans (dt_2 c_11 c_11) (Iff.trans (dt_2 c_25 c_25) (dt_1 c_27 (fun n => n c_27))))))
          ·
            refine dt_p h_28 (fun c_29 h_30 => ?_) (fun c_29 h_30 => ?_)
            ·
              exact k_K _ _ h_30 (fun _ => Iff.trans (dt_2 c_1 c_1) (Iff.trans (dt_2 c_9 c_9) (Iff.trans (dt_2 c_11 c_11) (Iff.trans (dt_2 c_25 c_25) (Iff.trans (dt_2 c_27 c_27) (dt_1 c_29 (fun n => n c_29)))))))
            ·
              refine dt_p h_30 (fun c_31 h_32 => ?_) (fun c_31 h_32 => ?_)
              ·
                exact k_K _ _ h_32 (fun _ => Iff.trans (dt_2 c_1 c_1) (Iff.trans (dt_2 c_9 c_9) (Iff.trans (dt_2 c_11 c_11) (Iff.trans (dt_2 c_25 c_25) (Iff.trans (dt_2 c_27 c_27) (Iff.trans (dt_2 c_29 c_29) (dt_1 c_31 (fun n => n c_31))))))))
              ·
                refine dt_p h_32 (fun c_33 h_34 => ?_) (fun c_33 h_34 => ?_)
                ·
                  exact d_b_Un_canCome_126 h_34 (fun a0 a1 h_36 i_35 => k_K a0 a1 h_36 (fun _ => Iff.trans (dt_2 c_1 c_1) (Iff.trans (dt_2 c_9 c_9) (Iff.trans (dt_2 c_11 c_11) (Iff.trans (dt_2 c_25 c_25) (Iff.trans (dt_2 c_27 c_27) (Iff.trans (dt_2 c_29 c_29) (Iff.trans (dt_2 c_31 c_31) (Iff.trans (dt_1 c_33 (fun n => n c_33)) (i_35 _))))))))))
                ·
                  refine dt_p h_34 (fun c_37 h_38 => ?_) (fun c_37 h_38 => ?_)
                  ·
                    exact d_b_Un_canCome_126 h_38 (fun a0 a1 h_40 i_39 => k_K a0 a1 h_40 (fun _ => Iff.trans (dt_2 c_1 c_1) (Iff.trans (dt_2 c_9 c_9) (Iff.trans (dt_2 c_11 c_11) (Iff.trans (dt_2 c_25 c_25) (Iff.trans (dt_2 c_27 c_27) (Iff.trans (dt_2 c_29 c_29) (Iff.trans (dt_2 c_31 c_31) (Iff.trans (dt_2 c_33 c_33) (Iff.trans (dt_1 c_37 (fun n => n c_37)) (i_39 _)))))))))))
                  ·
                    exact d_b_Un_canCome_127 h_38 (fun a0 a1 h_42 i_41 => k_K a0 a1 h_42 (fun _ => Iff.trans (dt_2 c_1 c_1) (Iff.trans (dt_2 c_9 c_9) (Iff.trans (dt_2 c_11 c_11) (Iff.trans (dt_2 c_25 c_25) (Iff.trans (dt_2 c_27 c_27) (Iff.trans (dt_2 c_29 c_29) (Iff.trans (dt_2 c_31 c_31) (Iff.trans (dt_2 c_33 c_33) (Iff.trans (dt_2 c_37 c_37) (i_41 _)))))))))))
set_option maxHeartbeats 1000000 in
theorem d_p_Re_readTwo {U : ut} {u : Nat} {S : cs} {K : Int32 → cs → Prop} {T : Nat → cs → Prop} (h : p_Re_readTwo U u S K T) {Q : Prop} (k_K : ∀ (a0 : Int32) (a1 : cs), K a0 a1 → (∀ (K' : Int32 → cs → Prop) (T' : Nat → cs → Prop), p_Re_readTwo U u S K' T' ↔ K' a0 a1) → Q) (k_T : ∀ (a0 : Nat) (a1 : cs), T a0 a1 → (∀ (K' : Int32 → cs → Prop) (T' : Nat → cs → Prop), p_Re_readTwo U u S K' T' ↔ T' a0 a1) → Q) : Q := by
  unfold p_Re_readTwo at h
  refine d_p_Re_read h (fun v1 S1 h_2 i_1 => ?_) (fun a0 a1 h_4 i_3 => k_T a0 a1 h_4 (fun _ _ => i_3 _ _))
  refine d_p_Re_read h_2 (fun v11 S11 h_6 i_5 => ?_) (fun a0 a1 h_8 i_7 => k_T a0 a1 h_8 (fun _ _ => Iff.trans (i_1 _ _) (i_7 _ _)))
  exact k_K _ _ h_6 (fun _ _ => Iff.trans (i_1 _ _) (i_5 _ _))
set_option maxHeartbeats 1000000 in
theorem d_b_Un_readWithin_34 {U : ut} {u : Nat} {x3 : Int32} {S : cs} {K : Int32 → cs → Prop} {T : Nat → cs → Prop} (h : b_Un_readWithin_34 U u x3 S K T) {Q : Prop} (k_K : ∀ (a0 : Int32) (a1 : cs), K a0 a1 → (∀ (K' : Int32 → cs → Prop) (T' : Nat → cs → Prop), b_Un_readWithin_34 U u x3 S K' T' ↔ K' a0 a1) → Q) (k_T : ∀ (a0 : Nat) (a1 : cs), T a0 a1 → (∀ (K' : Int32 → cs → Prop) (T' : Nat → cs → Prop), b_Un_readWithin_34 U u x3 S K' T' ↔ T' a0 a1) → Q) : Q := by
  unfold b_Un_readWithin_34 at h
  exact k_K _ _ h (fun _ _ => Iff.rfl)
set_option maxHeartbeats 1000000 in
theorem d_p_Un_readWithin {U : ut} {u : Nat} {x1 : Int32} {x2 : Int32} {S : cs} {K : Int32 → cs → Prop} {T : Nat → cs → Prop} (h : p_Un_readWithin U u x1 x2 S K T) {Q : Prop} (k_K : ∀ (a0 : Int32) (a1 : cs), K a0 a1 → (∀ (K' : Int32 → cs → Prop) (T' : Nat → cs → Prop), p_Un_readWithin U u x1 x2 S K' T' ↔ K' a0 a1) → Q) (k_T : ∀ (a0 : Nat) (a1 : cs), T a0 a1 → (∀ (K' : Int32 → cs → Prop) (T' : Nat → cs → Prop), p_Un_readWithin U u x1 x2 S K' T' ↔ T' a0 a1) → Q) : Q := by
  unfold p_Un_readWithin at h
  refine d_p_Re_read (And.right (And.right h)) (fun v4 S4 h_2 i_1 => ?_) (fun a0 a1 h_4 i_3 => k_T a0 a1 h_4 (fun _ _ => Iff.trans (dt_a (And.left h)) (Iff.trans (dt_a (And.left (And.right h))) (i_3 _ _))))
  refine d_p_B_isWithin h_2 (fun v11 h_6 i_5 => ?_)
  refine dt_n h_6 (fun c_7 h_8 => ?_) (fun c_7 h_8 => ?_)
  ·
    exact d_b_Un_readWithin_34 h_8 (fun a0 a1 h_10 i_9 => k_K a0 a1 h_10 (fun _ _ => Iff.trans (dt_a (And.left h)) (Iff.trans (dt_a (And.left (And.right h))) (Iff.trans (i_1 _ _) (Iff.trans (i_5 _) (Iff.trans (dt_1 c_7 c_7) (i_9 _ _))))))) (fun a0 a1 h_12 i_11 => k_T a0 a1 h_12 (fun _ _ => Iff.trans (dt_a (And.left h)) (Iff.trans (dt_a (And.left (And.right h))) (Iff.trans (i_1 _ _) (Iff.trans (i_5 _) (Iff.trans (dt_1 c_7 c_7) (i_11 _ _)))))))
  ·
    refine d_p_Re_fail (And.right (And.right (And.right h_8))) (fun S31 h_14 i_13 => ?_) (fun a0 a1 h_16 i_15 => k_T a0 a1 h_16 (fun _ _ => Iff.trans (dt_a (And.left h)) (Iff.trans (dt_a (And.left (And.right h))) (Iff.trans (i_1 _ _) (Iff.trans (i_5 _) (Iff.trans (dt_2 (fun n => n c_7) c_7) (Iff.trans (dt_a (And.left h_8)) (Iff.trans (dt_a (And.left (And.right h_8))) (Iff.trans (dt_a (And.left (And.right (And.right h_8)))) (i_15 _ _))))))))))
    exact d_b_Un_readWithin_34 h_14 (fun a0 a1 h_18 i_17 => k_K a0 a1 h_18 (fun _ _ => Iff.trans (dt_a (And.left h)) (Iff.trans (dt_a (And.left (And.right h))) (Iff.trans (i_1 _ _) (Iff.trans (i_5 _) (Iff.trans (dt_2 (fun n => n c_7) c_7) (Iff.trans (dt_a (And.left h_8)) (Iff.trans (dt_a (And.left (And.right h_8))) (Iff.trans (dt_a (And.left (And.right (And.right h_8)))) (Iff.trans (i_13 _ _) (i_17 _ _))))))))))) (fun a0 a1 h_20 i_19 => k_T a0 a1 h_20 (fun _ _ => Iff.trans (dt_a (And.left h)) (Iff.trans (dt_a (And.left (And.right h))) (Iff.trans (i_1 _ _) (Iff.trans (i_5 _) (Iff.trans (dt_2 (fun n => n c_7) c_7) (Iff.trans (dt_a (And.left h_8)) (Iff.trans (dt_a (And.left (And.right h_8))) (Iff.trans (dt_a (And.left (And.right (And.right h_8)))) (Iff.trans (i_13 _ _) (i_19 _ _)))))))))))
set_option maxHeartbeats 1000000 in
theorem d_b_Un_readSide_35 {U : ut} {u : Nat} {x1 : Int32} {S : cs} {K : Int32 → cs → Prop} {T : Nat → cs → Prop} (h : b_Un_readSide_35 U u x1 S K T) {Q : Prop} (k_K : ∀ (a0 : Int32) (a1 : cs), K a0 a1 → (∀ (K' : Int32 → cs → Prop) (T' : Nat → cs → Prop), b_Un_readSide_35 U u x1 S K' T' ↔ K' a0 a1) → Q) (k_T : ∀ (a0 : Nat) (a1 : cs), T a0 a1 → (∀ (K' : Int32 → cs → Prop) (T' : Nat → cs → Prop), b_Un_readSide_35 U u x1 S K' T' ↔ T' a0 a1) → Q) : Q := by
  unfold b_Un_readSide_35 at h
  exact k_K _ _ h (fun _ _ => Iff.rfl)
set_option maxHeartbeats 1000000 in
theorem d_p_Un_readSide {U : ut} {u : Nat} {S : cs} {K : Int32 → cs → Prop} {T : Nat → cs → Prop} (h : p_Un_readSide U u S K T) {Q : Prop} (k_K : ∀ (a0 : Int32) (a1 : cs), K a0 a1 → (∀ (K' : Int32 → cs → Prop) (T' : Nat → cs → Prop), p_Un_readSide U u S K' T' ↔ K' a0 a1) → Q) (k_T : ∀ (a0 : Nat) (a1 : cs), T a0 a1 → (∀ (K' : Int32 → cs → Prop) (T' : Nat → cs → Prop), p_Un_readSide U u S K' T' ↔ T' a0 a1) → Q) : Q := by
  unfold p_Un_readSide at h
  refine d_p_Re_readTwo (And.right (And.right h)) (fun v4 S4 h_2 i_1 => ?_) (fun a0 a1 h_4 i_3 => k_T a0 a1 h_4 (fun _ _ => Iff.trans (dt_a (And.left h)) (Iff.trans (dt_a (And.left (And.right h))) (i_3 _ _))))
  refine d_p_B_isWithin h_2 (fun v12 h_6 i_5 => ?_)
  refine dt_n h_6 (fun c_7 h_8 => ?_) (fun c_7 h_8 => ?_)
  ·
    exact d_b_Un_readSide_35 h_8 (fun a0 a1 h_10 i_9 => k_K a0 a1 h_10 (fun _ _ => Iff.trans (dt_a (And.left h)) (Iff.trans (dt_a (And.left (And.right h))) (Iff.trans (i_1 _ _) (Iff.trans (i_5 _) (Iff.trans (dt_1 c_7 c_7) (i_9 _ _))))))) (fun a0 a1 h_12 i_11 => k_T a0 a1 h_12 (fun _ _ => Iff.trans (dt_a (And.left h)) (Iff.trans (dt_a (And.left (And.right h))) (Iff.trans (i_1 _ _) (Iff.trans (i_5 _) (Iff.trans (dt_1 c_7 c_7) (i_11 _ _)))))))
  ·
    refine d_p_Re_fail (And.right (And.right (And.right h_8))) (fun S32 h_14 i_13 => ?_) (fun a0 a1 h_16 i_15 => k_T a0 a1 h_16 (fun _ _ => Iff.trans (dt_a (And.left h)) (Iff.trans (dt_a (And.left (And.right h))) (Iff.trans (i_1 _ _) (Iff.trans (i_5 _) (Iff.trans (dt_2 (fun n => n c_7) c_7) (Iff.trans (dt_a (And.left h_8)) (Iff.trans (dt_a (And.left (And.right h_8))) (Iff.trans (dt_a (And.left (And.right (And.right h_8)))) (i_15 _ _))))))))))
    exact d_b_Un_readSide_35 h_14 (fun a0 a1 h_18 i_17 => k_K a0 a1 h_18 (fun _ _ => Iff.trans (dt_a (And.left h)) (Iff.trans (dt_a (And.left (And.right h))) (Iff.trans (i_1 _ _) (Iff.trans (i_5 _) (Iff.trans (dt_2 (fun n => n c_7) c_7) (Iff.trans (dt_a (And.left h_8)) (Iff.trans (dt_a (And.left (And.right h_8))) (Iff.trans (dt_a (And.left (And.right (And.right h_8)))) (Iff.trans (i_13 _ _) (i_17 _ _))))))))))) (fun a0 a1 h_20 i_19 => k_T a0 a1 h_20 (fun _ _ => Iff.trans (dt_a (And.left h)) (Iff.trans (dt_a (And.left (And.right h))) (Iff.trans (i_1 _ _) (Iff.trans (i_5 _) (Iff.trans (dt_2 (fun n => n c_7) c_7) (Iff.trans (dt_a (And.left h_8)) (Iff.trans (dt_a (And.left (And.right h_8))) (Iff.trans (dt_a (And.left (And.right (And.right h_8)))) (Iff.trans (i_13 _ _) (i_19 _ _)))))))))))
set_option maxHeartbeats 1000000 in
theorem d_b_Un_wantLength_16 {U : ut} {u : Nat} {S : cs} {K : cs → Prop} {T : Nat → cs → Prop} (h : b_Un_wantLength_16 U u S K T) {Q : Prop} (k_K : ∀ (a0 : cs), K a0 → (∀ (K' : cs → Prop) (T' : Nat → cs → Prop), b_Un_wantLength_16 U u S K' T' ↔ K' a0) → Q) (k_T : ∀ (a0 : Nat) (a1 : cs), T a0 a1 → (∀ (K' : cs → Prop) (T' : Nat → cs → Prop), b_Un_wantLength_16 U u S K' T' ↔ T' a0 a1) → Q) : Q := by
  unfold b_Un_wantLength_16 at h
  exact k_K _ h (fun _ _ => Iff.rfl)
set_option maxHeartbeats 1000000 in
theorem d_p_Un_wantLength {U : ut} {u : Nat} {x1 : Int32} {S : cs} {K : cs → Prop} {T : Nat → cs → Prop} (h : p_Un_wantLength U u x1 S K T) {Q : Prop} (k_K : ∀ (a0 : cs), K a0 → (∀ (K' : cs → Prop) (T' : Nat → cs → Prop), p_Un_wantLength U u x1 S K' T' ↔ K' a0) → Q) (k_T : ∀ (a0 : Nat) (a1 : cs), T a0 a1 → (∀ (K' : cs → Prop) (T' : Nat → cs → Prop), p_Un_wantLength U u x1 S K' T' ↔ T' a0 a1) → Q) : Q := by
  unfold p_Un_wantLength at h
  refine dt_n h (fun c_1 h_2 => ?_) (fun c_1 h_2 => ?_)
  ·
    exact d_b_Un_wantLength_16 h_2 (fun a0 h_4 i_3 => k_K a0 h_4 (fun _ _ => Iff.trans (dt_1 c_1 c_1) (i_3 _ _))) (fun a0 a1 h_6 i_5 => k_T a0 a1 h_6 (fun _ _ => Iff.trans (dt_1 c_1 c_1) (i_5 _ _)))
  ·
    refine d_p_Re_fail (And.right (And.right h_2)) (fun S13 h_8 i_7 => ?_) (fun a0 a1 h_10 i_9 => k_T a0 a1 h_10 (fun _ _ => Iff.trans (dt_2 (fun n => n c_1) c_1) (Iff.trans (dt_a (And.left h_2)) (Iff.trans (dt_a (And.left (And.right h_2))) (i_9 _ _)))))
    exact d_b_Un_wantLength_16 h_8 (fun a0 h_12 i_11 => k_K a0 h_12 (fun _ _ => Iff.trans (dt_2 (fun n => n c_1) c_1) (Iff.trans (dt_a (And.left h_2)) (Iff.trans (dt_a (And.left (And.right h_2))) (Iff.trans (i_7 _ _) (i_11 _ _)))))) (fun a0 a1 h_14 i_13 => k_T a0 a1 h_14 (fun _ _ => Iff.trans (dt_2 (fun n => n c_1) c_1) (Iff.trans (dt_a (And.left h_2)) (Iff.trans (dt_a (And.left (And.right h_2))) (Iff.trans (i_7 _ _) (i_13 _ _))))))
set_option maxHeartbeats 1000000 in
theorem d_b_Un_readFrameLayer_97 {U : ut} {u : Nat} {x1 : Int32} {x2 : Int32} {x3 : Int32} {S : cs} {K : cs → Prop} {T : Nat → cs → Prop} (h : b_Un_readFrameLayer_97 U u x1 x2 x3 S K T) {Q : Prop} (k_K : ∀ (a0 : cs), K a0 → (∀ (K' : cs → Prop) (T' : Nat → cs → Prop), b_Un_readFrameLayer_97 U u x1 x2 x3 S K' T' ↔ K' a0) → Q) (k_T : ∀ (a0 : Nat) (a1 : cs), T a0 a1 → (∀ (K' : cs → Prop) (T' : Nat → cs → Prop), b_Un_readFrameLayer_97 U u x1 x2 x3 S K' T' ↔ T' a0 a1) → Q) : Q := by
  unfold b_Un_readFrameLayer_97 at h
  refine d_p_Pi_setFactors (And.right (And.right (And.right (And.right (And.right h))))) (fun S117 h_2 i_1 => ?_)
  refine d_p_Un_readWithin (And.right h_2) (fun v128 S128 h_4 i_3 => ?_) (fun a0 a1 h_6 i_5 => k_T a0 a1 h_6 (fun _ _ => Iff.trans (dt_a (And.left h)) (Iff.trans (dt_a (And.left (And.right h))) (Iff.trans (dt_a (And.left (And.right (And.right h)))) (Iff.trans (dt_a (And.left (And.right (And.right (And.right h))))) (Iff.trans (dt_a (And.left (And.right (And.right (And.right (And.right h)))))) (Iff.trans (i_1 _) (Iff.trans (dt_a (And.left h_2)) (i_5 _ _)))))))))
  exact k_K _ (And.right (And.right (And.right (And.right (And.right h_4))))) (fun _ _ => Iff.trans (dt_a (And.left h)) (Iff.trans (dt_a (And.left (And.right h))) (Iff.trans (dt_a (And.left (And.right (And.right h)))) (Iff.trans (dt_a (And.left (And.right (And.right (And.right h))))) (Iff.trans (dt_a (And.left (And.right (And.right (And.right (And.right h)))))) (Iff.trans (i_1 _) (Iff.trans (dt_a (And.left h_2)) (Iff.trans (i_3 _ _) (Iff.trans (dt_a (And.left h_4)) (Iff.trans (dt_a (And.left (And.right h_4))) (Iff.trans (dt_a (And.left (And.right (And.right h_4)))) (Iff.trans (dt_a (And.left (And.right (And.right (And.right h_4))))) (dt_a (And.left (And.right (And.right (And.right (And.right h_4))))))))))))))))))
set_option maxHeartbeats 1000000 in
theorem d_b_Un_readFrameLayer_80 {U : ut} {u : Nat} {x1 : Int32} {x2 : Int32} {x3 : Int32} {S : cs} {K : cs → Prop} {T : Nat → cs → Prop} (h : b_Un_readFrameLayer_80 U u x1 x2 x3 S K T) {Q : Prop} (k_K : ∀ (a0 : cs), K a0 → (∀ (K' : cs → Prop) (T' : Nat → cs → Prop), b_Un_readFrameLayer_80 U u x1 x2 x3 S K' T' ↔ K' a0) → Q) (k_T : ∀ (a0 : Nat) (a1 : cs), T a0 a1 → (∀ (K' : cs → Prop) (T' : Nat → cs → Prop), b_Un_readFrameLayer_80 U u x1 x2 x3 S K' T' ↔ T' a0 a1) → Q) : Q := by
  unfold b_Un_readFrameLayer_80 at h
  refine d_p_Re_fail (And.right (And.right (And.right h))) (fun S94 h_2 i_1 => ?_) (fun a0 a1 h_4 i_3 => k_T a0 a1 h_4 (fun _ _ => Iff.trans (dt_a (And.left h)) (Iff.trans (dt_a (And.left (And.right h))) (Iff.trans (dt_a (And.left (And.right (And.right h)))) (i_3 _ _)))))
  exact d_b_Un_readFrameLayer_97 h_2 (fun a0 h_6 i_5 => k_K a0 h_6 (fun _ _ => Iff.trans (dt_a (And.left h)) (Iff.trans (dt_a (And.left (And.right h))) (Iff.trans (dt_a (And.left (And.right (And.right h)))) (Iff.trans (i_1 _ _) (i_5 _ _)))))) (fun a0 a1 h_8 i_7 => k_T a0 a1 h_8 (fun _ _ => Iff.trans (dt_a (And.left h)) (Iff.trans (dt_a (And.left (And.right h))) (Iff.trans (dt_a (And.left (And.right (And.right h)))) (Iff.trans (i_1 _ _) (i_7 _ _))))))
set_option maxHeartbeats 1000000 in
theorem d_b_Un_readFrameLayer_42 {U : ut} {u : Nat} {x1 : Int32} {x2 : Int32} {x3 : Int32} {S : cs} {R10 : Int32 → Int32 → Int32 → cs → Prop} {K : cs → Prop} {T : Nat → cs → Prop} (h : b_Un_readFrameLayer_42 U u x1 x2 x3 S R10 K T) {Q : Prop} (k_R10 : ∀ (a0 : Int32) (a1 : Int32) (a2 : Int32) (a3 : cs), R10 a0 a1 a2 a3 → (∀ (R10' : Int32 → Int32 → Int32 → cs → Prop) (K' : cs → Prop) (T' : Nat → cs → Prop), b_Un_readFrameLayer_42 U u x1 x2 x3 S R10' K' T' ↔ R10' a0 a1 a2 a3) → Q) (k_K : ∀ (a0 : cs), K a0 → (∀ (R10' : Int32 → Int32 → Int32 → cs → Prop) (K' : cs → Prop) (T' : Nat → cs → Prop), b_Un_readFrameLayer_42 U u x1 x2 x3 S R10' K' T' ↔ K' a0) → Q) (k_T : ∀ (a0 : Nat) (a1 : cs), T a0 a1 → (∀ (R10' : Int32 → Int32 → Int32 → cs → Prop) (K' : cs → Prop) (T' : Nat → cs → Prop), b_Un_readFrameLayer_42 U u x1 x2 x3 S R10' K' T' ↔ T' a0 a1) → Q) : Q := by
  unfold b_Un_readFrameLayer_42 at h
  exact k_R10 _ _ _ _ h (fun _ _ _ => Iff.rfl)
set_option maxHeartbeats 1000000 in
theorem d_b_Un_readFrameLayer_10 {U : ut} {u : Nat} {x1 : Int32} {x2 : Int32} {x3 : Int32} {S : cs} {R10 : Int32 → Int32 → Int32 → cs → Prop} {K : cs → Prop} {T : Nat → cs → Prop} (h : b_Un_readFrameLayer_10 U u x1 x2 x3 S R10 K T) {Q : Prop} (k_R10 : ∀ (a0 : Int32) (a1 : Int32) (a2 : Int32) (a3 : cs), R10 a0 a1 a2 a3 → (∀ (R10' : Int32 → Int32 → Int32 → cs → Prop) (K' : cs → Prop) (T' : Nat → cs → Prop), b_Un_readFrameLayer_10 U u x1 x2 x3 S R10' K' T' ↔ R10' a0 a1 a2 a3) → Q) (k_K : ∀ (a0 : cs), K a0 → (∀ (R10' : Int32 → Int32 → Int32 → cs → Prop) (K' : cs → Prop) (T' : Nat → cs → Prop), b_Un_readFrameLayer_10 U u x1 x2 x3 S R10' K' T' ↔ K' a0) → Q) (k_T : ∀ (a0 : Nat) (a1 : cs), T a0 a1 → (∀ (R10' : Int32 → Int32 → Int32 → cs → Prop) (K' : cs → Prop) (T' : Nat → cs → Prop), b_Un_readFrameLayer_10 U u x1 x2 x3 S R10' K' T' ↔ T' a0 a1) → Q) : Q := by
  unfold b_Un_readFrameLayer_10 at h
  refine dt_p h (fun c_1 h_2 => ?_) (fun c_1 h_2 => ?_)
  ·
    refine d_p_Re_read (And.right (And.right h_2)) (fun v52 S52 h_4 i_3 => ?_) (fun a0 a1 h_6 i_5 => k_T a0 a1 h_6 (fun _ _ _ => Iff.trans (dt_1 c_1 (fun n => n c_1)) (Iff.trans (dt_a (And.left h_2)) (Iff.trans (dt_a (And.left (And.right h_2))) (i_5 _ _)))))
    refine d_p_B_isWithin h_4 (fun v62 h_8 i_7 => ?_)
    refine dt_p h_8 (fun c_9 h_10 => ?_) (fun c_9 h_10 => ?_)
    ·
      exact d_b_Un_readFrameLayer_80 h_10 (fun a0 h_12 i_11 => k_K a0 h_12 (fun _ _ _ => Iff.trans (dt_1 c_1 (fun n => n c_1)) (Iff.trans (dt_a (And.left h_2)) (Iff.trans (dt_a (And.left (And.right h_2))) (Iff.trans (i_3 _ _) (Iff.trans (i_7 _) (Iff.trans (dt_1 c_9 (fun n => n c_9)) (i_11 _ _)))))))) (fun a0 a1 h_14 i_13 => k_T a0 a1 h_14 (fun _ _ _ => Iff.trans (dt_1 c_1 (fun n => n c_1)) (Iff.trans (dt_a (And.left h_2)) (Iff.trans (dt_a (And.left (And.right h_2))) (Iff.trans (i_3 _ _) (Iff.trans (i_7 _) (Iff.trans (dt_1 c_9 (fun n => n c_9)) (i_13 _ _))))))))
    ·
      refine d_p_B_isWithin h_10 (fun v74 h_16 i_15 => ?_)
      refine dt_n h_16 (fun c_17 h_18 => ?_) (fun c_17 h_18 => ?_)
      ·
        exact d_b_Un_readFrameLayer_97 h_18 (fun a0 h_20 i_19 => k_K a0 h_20 (fun _ _ _ => Iff.trans (dt_1 c_1 (fun n => n c_1)) (Iff.trans (dt_a (And.left h_2)) (Iff.trans (dt_a (And.left (And.right h_2))) (Iff.trans (i_3 _ _) (Iff.trans (i_7 _) (Iff.trans (dt_2 c_9 c_9) (Iff.trans (i_15 _) (Iff.trans (dt_1 c_17 c_17) (i_19 _ _)))))))))) (fun a0 a1 h_22 i_21 => k_T a0 a1 h_22 (fun _ _ _ => Iff.trans (dt_1 c_1 (fun n => n c_1)) (Iff.trans (dt_a (And.left h_2)) (Iff.trans (dt_a (And.left (And.right h_2))) (Iff.trans (i_3 _ _) (Iff.trans (i_7 _) (Iff.trans (dt_2 c_9 c_9) (Iff.trans (i_15 _) (Iff.trans (dt_1 c_17 c_17) (i_21 _ _))))))))))
      ·
        exact d_b_Un_readFrameLayer_80 h_18 (fun a0 h_24 i_23 => k_K a0 h_24 (fun _ _ _ => Iff.trans (dt_1 c_1 (fun n => n c_1)) (Iff.trans (dt_a (And.left h_2)) (Iff.trans (dt_a (And.left (And.right h_2))) (Iff.trans (i_3 _ _) (Iff.trans (i_7 _) (Iff.trans (dt_2 c_9 c_9) (Iff.trans (i_15 _) (Iff.trans (dt_2 (fun n => n c_17) c_17) (i_23 _ _)))))))))) (fun a0 a1 h_26 i_25 => k_T a0 a1 h_26 (fun _ _ _ => Iff.trans (dt_1 c_1 (fun n => n c_1)) (Iff.trans (dt_a (And.left h_2)) (Iff.trans (dt_a (And.left (And.right h_2))) (Iff.trans (i_3 _ _) (Iff.trans (i_7 _) (Iff.trans (dt_2 c_9 c_9) (Iff.trans (i_15 _) (Iff.trans (dt_2 (fun n => n c_17) c_17) (i_25 _ _))))))))))
  ·
    refine dt_n (And.right (And.right (And.right h_2))) (fun c_27 h_28 => ?_) (fun c_27 h_28 => ?_)
    ·
      exact d_b_Un_readFrameLayer_42 h_28 (fun a0 a1 a2 a3 h_30 i_29 => k_R10 a0 a1 a2 a3 h_30 (fun _ _ _ => Iff.trans (dt_2 c_1 c_1) (Iff.trans (dt_a (And.left h_2)) (Iff.trans (dt_a (And.left (And.right h_2))) (Iff.trans (dt_a (And.left (And.right (And.right h_2)))) (Iff.trans (dt_1 c_27 c_27) (i_29 _ _ _))))))) (fun a0 h_32 i_31 => k_K a0 h_32 (fun _ _ _ => Iff.trans (dt_2 c_1 c_1) (Iff.trans (dt_a (And.left h_2)) (Iff.trans (dt_a (And.left (And.right h_2))) (Iff.trans (dt_a (And.left (And.right (And.right h_2)))) (Iff.trans (dt_1 c_27 c_27) (i_31 _ _ _))))))) (fun a0 a1 h_34 i_33 => k_T a0 a1 h_34 (fun _ _ _ => Iff.trans (dt_2 c_1 c_1) (Iff.trans (dt_a (And.left h_2)) (Iff.trans (dt_a (And.left (And.right h_2))) (Iff.trans (dt_a (And.left (And.right (And.right h_2)))) (Iff.trans (dt_1 c_27 c_27) (i_33 _ _ _)))))))
    ·
      refine d_p_Re_fail (And.right (And.right (And.right h_28))) (fun S39 h_36 i_35 => ?_) (fun a0 a1 h_38 i_37 => k_T a0 a1 h_38 (fun _ _ _ => Iff.trans (dt_2 c_1 c_1) (Iff.trans (dt_a (And.left h_2)) (Iff.trans (dt_a (And.left (And.right h_2))) (Iff.trans (dt_a (And.left (And.right (And.right h_2)))) (Iff.trans (dt_2 (fun n => n c_27) c_27) (Iff.trans (dt_a (And.left h_28)) (Iff.trans (dt_a (And.left (And.right h_28))) (Iff.trans (dt_a (And.left (And.right (And.right h_28)))) (i_37 _ _))))))))))
      exact d_b_Un_readFrameLayer_42 h_36 (fun a0 a1 a2 a3 h_40 i_39 => k_R10 a0 a1 a2 a3 h_40 (fun _ _ _ => Iff.trans (dt_2 c_1 c_1) (Iff.trans (dt_a (And.left h_2)) (Iff.trans (dt_a (And.left (And.right h_2))) (Iff.trans (dt_a (And.left (And.right (And.right h_2)))) (Iff.trans (dt_2 (fun n => n c_27) c_27) (Iff.trans (dt_a (And.left h_28)) (Iff.trans (dt_a (And.left (And.right h_28))) (Iff.trans (dt_a (And.left (And.right (And.right h_28)))) (Iff.trans (i_35 _ _) (i_39 _ _ _))))))))))) (fun a0 h_42 i_41 => k_K a0 h_42 (fun _ _ _ => Iff.trans (dt_2 c_1 c_1) (Iff.trans (dt_a (And.left h_2)) (Iff.trans (dt_a (And.left (And.right h_2))) (Iff.trans (dt_a (And.left (And.right (And.right h_2)))) (Iff.trans (dt_2 (fun n => n c_27) c_27) (Iff.trans (dt_a (And.left h_28)) (Iff.trans (dt_a (And.left (And.right h_28))) (Iff.trans (dt_a (And.left (And.right (And.right h_28)))) (Iff.trans (i_35 _ _) (i_41 _ _ _))))))))))) (fun a0 a1 h_44 i_43 => k_T a0 a1 h_44 (fun _ _ _ => Iff.trans (dt_2 c_1 c_1) (Iff.trans (dt_a (And.left h_2)) (Iff.trans (dt_a (And.left (And.right h_2))) (Iff.trans (dt_a (And.left (And.right (And.right h_2)))) (Iff.trans (dt_2 (fun n => n c_27) c_27) (Iff.trans (dt_a (And.left h_28)) (Iff.trans (dt_a (And.left (And.right h_28))) (Iff.trans (dt_a (And.left (And.right (And.right h_28)))) (Iff.trans (i_35 _ _) (i_43 _ _ _)))))))))))
theorem l_e_Un_readFrameLayer_10 {U : ut} {u : Nat} {x1 : Int32} {x2 : Int32} {x3 : Int32} {S : cs} {K : cs → Prop} {T : Nat → cs → Prop} : e_Un_readFrameLayer_10 U u x1 x2 x3 S K T ↔ lpE (C := (cs → Prop) × (Nat → cs → Prop)) (fun (y : (Int32) × (Int32) × (Int32) × (cs)) (R : ((Int32) × (Int32) × (Int32) × (cs)) → Prop) (c : (cs → Prop) × (Nat → cs → Prop)) => b_Un_readFrameLayer_10 U u y.1 y.2.1 y.2.2.1 y.2.2.2 (fun z0 z1 z2 z3 => R (z0, z1, z2, z3)) c.1 c.2) (x1, x2, x3, S) (K, T) :=
  ⟨fun ⟨I, μ, h0, hs⟩ => ⟨fun t => I t.1 t.2.1 t.2.2.1 t.2.2.2, fun t => μ t.1 t.2.1 t.2.2.1 t.2.2.2, h0, fun t ht => hs _ _ _ _ ht⟩, fun ⟨I, μ, h0, hs⟩ => ⟨fun y0 y1 y2 y3 => I (y0, y1, y2, y3), fun y0 y1 y2 y3 => μ (y0, y1, y2, y3), h0, fun y0 y1 y2 y3 hy => hs (y0, y1, y2, y3) hy⟩⟩
set_option maxHeartbeats 1000000 in
theorem d_e_Un_readFrameLayer_10 {U : ut} {u : Nat} {x1 : Int32} {x2 : Int32} {x3 : Int32} {S : cs} {K : cs → Prop} {T : Nat → cs → Prop} (h : e_Un_readFrameLayer_10 U u x1 x2 x3 S K T) {Q : Prop} (k_K : ∀ (a0 : cs), K a0 → (∀ (K' : cs → Prop) (T' : Nat → cs → Prop), e_Un_readFrameLayer_10 U u x1 x2 x3 S K' T' ↔ K' a0) → Q) (k_T : ∀ (a0 : Nat) (a1 : cs), T a0 a1 → (∀ (K' : cs → Prop) (T' : Nat → cs → Prop), e_Un_readFrameLayer_10 U u x1 x2 x3 S K' T' ↔ T' a0 a1) → Q) : Q := by
  obtain ⟨o, ho, hoc, hi⟩ := lp_det (C := (cs → Prop) × (Nat → cs → Prop)) (b := (fun (y : (Int32) × (Int32) × (Int32) × (cs)) (R : ((Int32) × (Int32) × (Int32) × (cs)) → Prop) (c : (cs → Prop) × (Nat → cs → Prop)) => b_Un_readFrameLayer_10 U u y.1 y.2.1 y.2.2.1 y.2.2.2 (fun z0 z1 z2 z3 => R (z0, z1, z2, z3)) c.1 c.2)) (O := (fun (o : ((cs → Prop) × (Nat → cs → Prop)) → Prop) => (∃ (a0 : cs), o = fun c => c.1 a0) ∨ (∃ (a0 : Nat) (a1 : cs), o = fun c => c.2 a0 a1))) (fun y R c hy => d_b_Un_readFrameLayer_10 hy (fun a0 a1 a2 a3 ha ia => Or.inl ⟨(a0, a1, a2, a3), ha, fun R' c' => ia (fun z0 z1 z2 z3 => R' (z0, z1, z2, z3)) c'.1 c'.2⟩) (fun a0 ha ia => Or.inr ⟨(fun c => c.1 a0), Or.inl ⟨a0, rfl⟩, ha, fun R' c' => ia (fun z0 z1 z2 z3 => R' (z0, z1, z2, z3)) c'.1 c'.2⟩) (fun a0 a1 ha ia => Or.inr ⟨(fun c => c.2 a0 a1), Or.inr (⟨a0, a1, rfl⟩), ha, fun R' c' => ia (fun z0 z1 z2 z3 => R' (z0, z1, z2, z3)) c'.1 c'.2⟩)) (l_e_Un_readFrameLayer_10.mp h)
  rcases ho with ⟨a0, rfl⟩ | ⟨a0, a1, rfl⟩
  · exact k_K _ hoc (fun K' T' => Iff.trans l_e_Un_readFrameLayer_10 (hi (K', T')))
  · exact k_T _ _ hoc (fun K' T' => Iff.trans l_e_Un_readFrameLayer_10 (hi (K', T')))
theorem v_e_Un_readFrameLayer_10 {U : ut} {u : Nat} {x1 : Int32} {x2 : Int32} {x3 : Int32} {S : cs} {K : cs → Prop} {T : Nat → cs → Prop} (h : e_Un_readFrameLayer_10 U u x1 x2 x3 S K T) {G : Prop} (Inv : Int32 → cs → Prop) (h0 : Inv x3 S) (hs : ∀ (yx3 : Int32) (yS : cs) (R : Int32 → Int32 → Int32 → cs → Prop), Inv yx3 yS → b_Un_readFrameLayer_10 U u x1 x2 yx3 yS R K T → (∃ (zx3 : Int32) (zS : cs), R x1 x2 zx3 zS ∧ Inv zx3 zS) ∨ G) : G := by
  obtain ⟨I, μ, i0, is⟩ := h
  have go : ∀ (n : Nat) (yx3 : Int32) (yS : cs), μ x1 x2 yx3 yS < n → I x1 x2 yx3 yS → Inv yx3 yS → G := by
    intro n
    induction n with
    | zero => intro yx3 yS hy; exact absurd hy (Nat.not_lt_zero _)
    | succ n ih =>
      intro yx3 yS hy hI hV
      rcases hs yx3 yS _ hV (is x1 x2 yx3 yS hI) with ⟨zx3, zS, ⟨hz, hm⟩, hv⟩ | g
      · exact ih zx3 zS (Nat.lt_of_lt_of_le hm (Nat.le_of_lt_succ hy)) hz hv
      · exact g
  exact go _ x3 S (Nat.lt_succ_self _) i0 h0
theorem r_e_Un_readFrameLayer_10 {U : ut} {u : Nat} {x1 : Int32} {x2 : Int32} {x3 : Int32} {S : cs} {K : cs → Prop} {T : Nat → cs → Prop} (h : e_Un_readFrameLayer_10 U u x1 x2 x3 S K T) : b_Un_readFrameLayer_10 U u x1 x2 x3 S (fun zx1 zx2 zx3 zS => e_Un_readFrameLayer_10 U u zx1 zx2 zx3 zS K T) K T := by
  obtain ⟨I, μ, i0, is⟩ := h
  exact d_b_Un_readFrameLayer_10 (is x1 x2 x3 S i0) (fun a0 a1 a2 a3 ha ia => (ia _ _ _).mpr ⟨I, μ, ha.1, is⟩) (fun a0 ha ia => (ia _ _ _).mpr ha) (fun a0 a1 ha ia => (ia _ _ _).mpr ha)
set_option maxHeartbeats 1000000 in
theorem d_p_Un_readFrameLayer {U : ut} {u : Nat} {x1 : Int32} {S : cs} {K : cs → Prop} {T : Nat → cs → Prop} (h : p_Un_readFrameLayer U u x1 S K T) {Q : Prop} (k_K : ∀ (a0 : cs), K a0 → (∀ (K' : cs → Prop) (T' : Nat → cs → Prop), p_Un_readFrameLayer U u x1 S K' T' ↔ K' a0) → Q) (k_T : ∀ (a0 : Nat) (a1 : cs), T a0 a1 → (∀ (K' : cs → Prop) (T' : Nat → cs → Prop), p_Un_readFrameLayer U u x1 S K' T' ↔ T' a0 a1) → Q) : Q := by
  unfold p_Un_readFrameLayer at h
  refine d_p_Re_read (And.right (And.right h)) (fun v4 S4 h_2 i_1 => ?_) (fun a0 a1 h_4 i_3 => k_T a0 a1 h_4 (fun _ _ => Iff.trans (dt_a (And.left h)) (Iff.trans (dt_a (And.left (And.right h))) (i_3 _ _))))
  exact d_e_Un_readFrameLayer_10 h_2 (fun a0 h_6 i_5 => k_K a0 h_6 (fun _ _ => Iff.trans (dt_a (And.left h)) (Iff.trans (dt_a (And.left (And.right h))) (Iff.trans (i_1 _ _) (i_5 _ _))))) (fun a0 a1 h_8 i_7 => k_T a0 a1 h_8 (fun _ _ => Iff.trans (dt_a (And.left h)) (Iff.trans (dt_a (And.left (And.right h))) (Iff.trans (i_1 _ _) (i_7 _ _)))))
set_option maxHeartbeats 1000000 in
theorem d_b_Un_readFrame_83 {U : ut} {u : Nat} {x3 : Int32} {x4 : Int32} {S : cs} {R83 : Int32 → Int32 → cs → Prop} {K : cs → Prop} {T : Nat → cs → Prop} (h : b_Un_readFrame_83 U u x3 x4 S R83 K T) {Q : Prop} (k_R83 : ∀ (a0 : Int32) (a1 : Int32) (a2 : cs), R83 a0 a1 a2 → (∀ (R83' : Int32 → Int32 → cs → Prop) (K' : cs → Prop) (T' : Nat → cs → Prop), b_Un_readFrame_83 U u x3 x4 S R83' K' T' ↔ R83' a0 a1 a2) → Q) (k_K : ∀ (a0 : cs), K a0 → (∀ (R83' : Int32 → Int32 → cs → Prop) (K' : cs → Prop) (T' : Nat → cs → Prop), b_Un_readFrame_83 U u x3 x4 S R83' K' T' ↔ K' a0) → Q) (k_T : ∀ (a0 : Nat) (a1 : cs), T a0 a1 → (∀ (R83' : Int32 → Int32 → cs → Prop) (K' : cs → Prop) (T' : Nat → cs → Prop), b_Un_readFrame_83 U u x3 x4 S R83' K' T' ↔ T' a0 a1) → Q) : Q := by
  unfold b_Un_readFrame_83 at h
  refine dt_p h (fun c_1 h_2 => ?_) (fun c_1 h_2 => ?_)
  ·
    refine d_p_Pi_measure (And.right (And.right h_2)) (fun S105 h_4 i_3 => ?_)
    exact k_K _ h_4 (fun _ _ _ => Iff.trans (dt_1 c_1 (fun n => n c_1)) (Iff.trans (dt_a (And.left h_2)) (Iff.trans (dt_a (And.left (And.right h_2))) (i_3 _))))
  ·
    refine d_p_Un_readFrameLayer h_2 (fun S92 h_6 i_5 => ?_) (fun a0 a1 h_8 i_7 => k_T a0 a1 h_8 (fun _ _ _ => Iff.trans (dt_2 c_1 c_1) (i_7 _ _)))
    exact k_R83 _ _ _ h_6 (fun _ _ _ => Iff.trans (dt_2 c_1 c_1) (i_5 _ _))
theorem l_e_Un_readFrame_83 {U : ut} {u : Nat} {x3 : Int32} {x4 : Int32} {S : cs} {K : cs → Prop} {T : Nat → cs → Prop} : e_Un_readFrame_83 U u x3 x4 S K T ↔ lpE (C := (cs → Prop) × (Nat → cs → Prop)) (fun (y : (Int32) × (Int32) × (cs)) (R : ((Int32) × (Int32) × (cs)) → Prop) (c : (cs → Prop) × (Nat → cs → Prop)) => b_Un_readFrame_83 U u y.1 y.2.1 y.2.2 (fun z0 z1 z2 => R (z0, z1, z2)) c.1 c.2) (x3, x4, S) (K, T) :=
  ⟨fun ⟨I, μ, h0, hs⟩ => ⟨fun t => I t.1 t.2.1 t.2.2, fun t => μ t.1 t.2.1 t.2.2, h0, fun t ht => hs _ _ _ ht⟩, fun ⟨I, μ, h0, hs⟩ => ⟨fun y0 y1 y2 => I (y0, y1, y2), fun y0 y1 y2 => μ (y0, y1, y2), h0, fun y0 y1 y2 hy => hs (y0, y1, y2) hy⟩⟩
set_option maxHeartbeats 1000000 in
theorem d_e_Un_readFrame_83 {U : ut} {u : Nat} {x3 : Int32} {x4 : Int32} {S : cs} {K : cs → Prop} {T : Nat → cs → Prop} (h : e_Un_readFrame_83 U u x3 x4 S K T) {Q : Prop} (k_K : ∀ (a0 : cs), K a0 → (∀ (K' : cs → Prop) (T' : Nat → cs → Prop), e_Un_readFrame_83 U u x3 x4 S K' T' ↔ K' a0) → Q) (k_T : ∀ (a0 : Nat) (a1 : cs), T a0 a1 → (∀ (K' : cs → Prop) (T' : Nat → cs → Prop), e_Un_readFrame_83 U u x3 x4 S K' T' ↔ T' a0 a1) → Q) : Q := by
  obtain ⟨o, ho, hoc, hi⟩ := lp_det (C := (cs → Prop) × (Nat → cs → Prop)) (b := (fun (y : (Int32) × (Int32) × (cs)) (R : ((Int32) × (Int32) × (cs)) → Prop) (c : (cs → Prop) × (Nat → cs → Prop)) => b_Un_readFrame_83 U u y.1 y.2.1 y.2.2 (fun z0 z1 z2 => R (z0, z1, z2)) c.1 c.2)) (O := (fun (o : ((cs → Prop) × (Nat → cs → Prop)) → Prop) => (∃ (a0 : cs), o = fun c => c.1 a0) ∨ (∃ (a0 : Nat) (a1 : cs), o = fun c => c.2 a0 a1))) (fun y R c hy => d_b_Un_readFrame_83 hy (fun a0 a1 a2 ha ia => Or.inl ⟨(a0, a1, a2), ha, fun R' c' => ia (fun z0 z1 z2 => R' (z0, z1, z2)) c'.1 c'.2⟩) (fun a0 ha ia => Or.inr ⟨(fun c => c.1 a0), Or.inl ⟨a0, rfl⟩, ha, fun R' c' => ia (fun z0 z1 z2 => R' (z0, z1, z2)) c'.1 c'.2⟩) (fun a0 a1 ha ia => Or.inr ⟨(fun c => c.2 a0 a1), Or.inr (⟨a0, a1, rfl⟩), ha, fun R' c' => ia (fun z0 z1 z2 => R' (z0, z1, z2)) c'.1 c'.2⟩)) (l_e_Un_readFrame_83.mp h)
  rcases ho with ⟨a0, rfl⟩ | ⟨a0, a1, rfl⟩
  · exact k_K _ hoc (fun K' T' => Iff.trans l_e_Un_readFrame_83 (hi (K', T')))
  · exact k_T _ _ hoc (fun K' T' => Iff.trans l_e_Un_readFrame_83 (hi (K', T')))
theorem v_e_Un_readFrame_83 {U : ut} {u : Nat} {x3 : Int32} {x4 : Int32} {S : cs} {K : cs → Prop} {T : Nat → cs → Prop} (h : e_Un_readFrame_83 U u x3 x4 S K T) {G : Prop} (Inv : Int32 → cs → Prop) (h0 : Inv x4 S) (hs : ∀ (yx4 : Int32) (yS : cs) (R : Int32 → Int32 → cs → Prop), Inv yx4 yS → b_Un_readFrame_83 U u x3 yx4 yS R K T → (∃ (zx4 : Int32) (zS : cs), R x3 zx4 zS ∧ Inv zx4 zS) ∨ G) : G := by
  obtain ⟨I, μ, i0, is⟩ := h
  have go : ∀ (n : Nat) (yx4 : Int32) (yS : cs), μ x3 yx4 yS < n → I x3 yx4 yS → Inv yx4 yS → G := by
    intro n
    induction n with
    | zero => intro yx4 yS hy; exact absurd hy (Nat.not_lt_zero _)
    | succ n ih =>
      intro yx4 yS hy hI hV
      rcases hs yx4 yS _ hV (is x3 yx4 yS hI) with ⟨zx4, zS, ⟨hz, hm⟩, hv⟩ | g
      · exact ih zx4 zS (Nat.lt_of_lt_of_le hm (Nat.le_of_lt_succ hy)) hz hv
      · exact g
  exact go _ x4 S (Nat.lt_succ_self _) i0 h0
theorem r_e_Un_readFrame_83 {U : ut} {u : Nat} {x3 : Int32} {x4 : Int32} {S : cs} {K : cs → Prop} {T : Nat → cs → Prop} (h : e_Un_readFrame_83 U u x3 x4 S K T) : b_Un_readFrame_83 U u x3 x4 S (fun zx3 zx4 zS => e_Un_readFrame_83 U u zx3 zx4 zS K T) K T := by
  obtain ⟨I, μ, i0, is⟩ := h
  exact d_b_Un_readFrame_83 (is x3 x4 S i0) (fun a0 a1 a2 ha ia => (ia _ _ _).mpr ⟨I, μ, ha.1, is⟩) (fun a0 ha ia => (ia _ _ _).mpr ha) (fun a0 a1 ha ia => (ia _ _ _).mpr ha)
set_option maxHeartbeats 1000000 in
theorem d_b_Un_readFrame_67 {U : ut} {u : Nat} {x1 : Int32} {x2 : Int32} {x3 : Int32} {s1 : Int32} {S : cs} {K : cs → Prop} {T : Nat → cs → Prop} (h : b_Un_readFrame_67 U u x1 x2 x3 s1 S K T) {Q : Prop} (k_K : ∀ (a0 : cs), K a0 → (∀ (K' : cs → Prop) (T' : Nat → cs → Prop), b_Un_readFrame_67 U u x1 x2 x3 s1 S K' T' ↔ K' a0) → Q) (k_T : ∀ (a0 : Nat) (a1 : cs), T a0 a1 → (∀ (K' : cs → Prop) (T' : Nat → cs → Prop), b_Un_readFrame_67 U u x1 x2 x3 s1 S K' T' ↔ T' a0 a1) → Q) : Q := by
  unfold b_Un_readFrame_67 at h
  refine d_p_Un_wantLength h (fun S67 h_2 i_1 => ?_) (fun a0 a1 h_4 i_3 => k_T a0 a1 h_4 (fun _ _ => i_3 _ _))
  refine d_p_Pi_begin (And.right (And.right h_2)) (fun S77 h_6 i_5 => ?_)
  exact d_e_Un_readFrame_83 h_6 (fun a0 h_8 i_7 => k_K a0 h_8 (fun _ _ => Iff.trans (i_1 _ _) (Iff.trans (dt_a (And.left h_2)) (Iff.trans (dt_a (And.left (And.right h_2))) (Iff.trans (i_5 _) (i_7 _ _)))))) (fun a0 a1 h_10 i_9 => k_T a0 a1 h_10 (fun _ _ => Iff.trans (i_1 _ _) (Iff.trans (dt_a (And.left h_2)) (Iff.trans (dt_a (And.left (And.right h_2))) (Iff.trans (i_5 _) (i_9 _ _))))))
set_option maxHeartbeats 1000000 in
theorem d_b_Un_readFrame_48 {U : ut} {u : Nat} {x1 : Int32} {x2 : Int32} {x3 : Int32} {S : cs} {K : cs → Prop} {T : Nat → cs → Prop} (h : b_Un_readFrame_48 U u x1 x2 x3 S K T) {Q : Prop} (k_K : ∀ (a0 : cs), K a0 → (∀ (K' : cs → Prop) (T' : Nat → cs → Prop), b_Un_readFrame_48 U u x1 x2 x3 S K' T' ↔ K' a0) → Q) (k_T : ∀ (a0 : Nat) (a1 : cs), T a0 a1 → (∀ (K' : cs → Prop) (T' : Nat → cs → Prop), b_Un_readFrame_48 U u x1 x2 x3 S K' T' ↔ T' a0 a1) → Q) : Q := by
  unfold b_Un_readFrame_48 at h
  refine dt_n h (fun c_1 h_2 => ?_) (fun c_1 h_2 => ?_)
  ·
    exact d_b_Un_readFrame_67 h_2 (fun a0 h_4 i_3 => k_K a0 h_4 (fun _ _ => Iff.trans (dt_1 c_1 c_1) (i_3 _ _))) (fun a0 a1 h_6 i_5 => k_T a0 a1 h_6 (fun _ _ => Iff.trans (dt_1 c_1 c_1) (i_5 _ _)))
  ·
    exact d_b_Un_readFrame_67 h_2 (fun a0 h_8 i_7 => k_K a0 h_8 (fun _ _ => Iff.trans (dt_2 (fun n => n c_1) c_1) (i_7 _ _))) (fun a0 a1 h_10 i_9 => k_T a0 a1 h_10 (fun _ _ => Iff.trans (dt_2 (fun n => n c_1) c_1) (i_9 _ _)))
set_option maxHeartbeats 1000000 in
theorem d_p_Un_readFrame {U : ut} {u : Nat} {S : cs} {K : cs → Prop} {T : Nat → cs → Prop} (h : p_Un_readFrame U u S K T) {Q : Prop} (k_K : ∀ (a0 : cs), K a0 → (∀ (K' : cs → Prop) (T' : Nat → cs → Prop), p_Un_readFrame U u S K' T' ↔ K' a0) → Q) (k_T : ∀ (a0 : Nat) (a1 : cs), T a0 a1 → (∀ (K' : cs → Prop) (T' : Nat → cs → Prop), p_Un_readFrame U u S K' T' ↔ T' a0 a1) → Q) : Q := by
  unfold p_Un_readFrame at h
  refine d_p_Un_readWithin h (fun v5 S5 h_2 i_1 => ?_) (fun a0 a1 h_4 i_3 => k_T a0 a1 h_4 (fun _ _ => i_3 _ _))
  refine d_p_Un_readSide h_2 (fun v10 S10 h_6 i_5 => ?_) (fun a0 a1 h_8 i_7 => k_T a0 a1 h_8 (fun _ _ => Iff.trans (i_1 _ _) (i_7 _ _)))
  refine d_p_Un_readSide h_6 (fun v15 S15 h_10 i_9 => ?_) (fun a0 a1 h_12 i_11 => k_T a0 a1 h_12 (fun _ _ => Iff.trans (i_1 _ _) (Iff.trans (i_5 _ _) (i_11 _ _))))
  refine d_p_Un_readWithin h_10 (fun v22 S22 h_14 i_13 => ?_) (fun a0 a1 h_16 i_15 => k_T a0 a1 h_16 (fun _ _ => Iff.trans (i_1 _ _) (Iff.trans (i_5 _ _) (Iff.trans (i_9 _ _) (i_15 _ _)))))
  refine dt_n h_14 (fun c_17 h_18 => ?_) (fun c_17 h_18 => ?_)
  ·
    exact d_b_Un_readFrame_48 h_18 (fun a0 h_20 i_19 => k_K a0 h_20 (fun _ _ => Iff.trans (i_1 _ _) (Iff.trans (i_5 _ _) (Iff.trans (i_9 _ _) (Iff.trans (i_13 _ _) (Iff.trans (dt_1 c_17 c_17) (i_19 _ _))))))) (fun a0 a1 h_22 i_21 => k_T a0 a1 h_22 (fun _ _ => Iff.trans (i_1 _ _) (Iff.trans (i_5 _ _) (Iff.trans (i_9 _ _) (Iff.trans (i_13 _ _) (Iff.trans (dt_1 c_17 c_17) (i_21 _ _)))))))
  ·
    refine d_p_Re_fail (And.right (And.right (And.right h_18))) (fun S45 h_24 i_23 => ?_) (fun a0 a1 h_26 i_25 => k_T a0 a1 h_26 (fun _ _ => Iff.trans (i_1 _ _) (Iff.trans (i_5 _ _) (Iff.trans (i_9 _ _) (Iff.trans (i_13 _ _) (Iff.trans (dt_2 (fun n => n c_17) c_17) (Iff.trans (dt_a (And.left h_18)) (Iff.trans (dt_a (And.left (And.right h_18))) (Iff.trans (dt_a (And.left (And.right (And.right h_18)))) (i_25 _ _))))))))))
    exact d_b_Un_readFrame_48 h_24 (fun a0 h_28 i_27 => k_K a0 h_28 (fun _ _ => Iff.trans (i_1 _ _) (Iff.trans (i_5 _ _) (Iff.trans (i_9 _ _) (Iff.trans (i_13 _ _) (Iff.trans (dt_2 (fun n => n c_17) c_17) (Iff.trans (dt_a (And.left h_18)) (Iff.trans (dt_a (And.left (And.right h_18))) (Iff.trans (dt_a (And.left (And.right (And.right h_18)))) (Iff.trans (i_23 _ _) (i_27 _ _))))))))))) (fun a0 a1 h_30 i_29 => k_T a0 a1 h_30 (fun _ _ => Iff.trans (i_1 _ _) (Iff.trans (i_5 _ _) (Iff.trans (i_9 _ _) (Iff.trans (i_13 _ _) (Iff.trans (dt_2 (fun n => n c_17) c_17) (Iff.trans (dt_a (And.left h_18)) (Iff.trans (dt_a (And.left (And.right h_18))) (Iff.trans (dt_a (And.left (And.right (And.right h_18)))) (Iff.trans (i_23 _ _) (i_29 _ _)))))))))))
set_option maxHeartbeats 1000000 in
theorem d_b_Un_readScanLayer_226 {U : ut} {u : Nat} {x3 : Int32} {x5 : Int32} {S : cs} {K : Int32 → cs → Prop} {T : Nat → cs → Prop} (h : b_Un_readScanLayer_226 U u x3 x5 S K T) {Q : Prop} (k_K : ∀ (a0 : Int32) (a1 : cs), K a0 a1 → (∀ (K' : Int32 → cs → Prop) (T' : Nat → cs → Prop), b_Un_readScanLayer_226 U u x3 x5 S K' T' ↔ K' a0 a1) → Q) (k_T : ∀ (a0 : Nat) (a1 : cs), T a0 a1 → (∀ (K' : Int32 → cs → Prop) (T' : Nat → cs → Prop), b_Un_readScanLayer_226 U u x3 x5 S K' T' ↔ T' a0 a1) → Q) : Q := by
  unfold b_Un_readScanLayer_226 at h
  refine d_p_Sc_addLayer (And.right (And.right h)) (fun S243 h_2 i_1 => ?_)
  exact k_K _ _ (And.right (And.right (And.right h_2))) (fun _ _ => Iff.trans (dt_a (And.left h)) (Iff.trans (dt_a (And.left (And.right h))) (Iff.trans (i_1 _) (Iff.trans (dt_a (And.left h_2)) (Iff.trans (dt_a (And.left (And.right h_2))) (dt_a (And.left (And.right (And.right h_2)))))))))
set_option maxHeartbeats 1000000 in
theorem d_b_Un_readScanLayer_208 {U : ut} {u : Nat} {x3 : Int32} {x5 : Int32} {S : cs} {K : Int32 → cs → Prop} {T : Nat → cs → Prop} (h : b_Un_readScanLayer_208 U u x3 x5 S K T) {Q : Prop} (k_K : ∀ (a0 : Int32) (a1 : cs), K a0 a1 → (∀ (K' : Int32 → cs → Prop) (T' : Nat → cs → Prop), b_Un_readScanLayer_208 U u x3 x5 S K' T' ↔ K' a0 a1) → Q) (k_T : ∀ (a0 : Nat) (a1 : cs), T a0 a1 → (∀ (K' : Int32 → cs → Prop) (T' : Nat → cs → Prop), b_Un_readScanLayer_208 U u x3 x5 S K' T' ↔ T' a0 a1) → Q) : Q := by
  unfold b_Un_readScanLayer_208 at h
  refine d_p_Re_fail (And.right (And.right (And.right h))) (fun S223 h_2 i_1 => ?_) (fun a0 a1 h_4 i_3 => k_T a0 a1 h_4 (fun _ _ => Iff.trans (dt_a (And.left h)) (Iff.trans (dt_a (And.left (And.right h))) (Iff.trans (dt_a (And.left (And.right (And.right h)))) (i_3 _ _)))))
  exact d_b_Un_readScanLayer_226 h_2 (fun a0 a1 h_6 i_5 => k_K a0 a1 h_6 (fun _ _ => Iff.trans (dt_a (And.left h)) (Iff.trans (dt_a (And.left (And.right h))) (Iff.trans (dt_a (And.left (And.right (And.right h)))) (Iff.trans (i_1 _ _) (i_5 _ _)))))) (fun a0 a1 h_8 i_7 => k_T a0 a1 h_8 (fun _ _ => Iff.trans (dt_a (And.left h)) (Iff.trans (dt_a (And.left (And.right h))) (Iff.trans (dt_a (And.left (And.right (And.right h)))) (Iff.trans (i_1 _ _) (i_7 _ _))))))
set_option maxHeartbeats 1000000 in
theorem d_b_Un_readScanLayer_174 {U : ut} {u : Nat} {x3 : Int32} {x5 : Int32} {S : cs} {K : Int32 → cs → Prop} {T : Nat → cs → Prop} (h : b_Un_readScanLayer_174 U u x3 x5 S K T) {Q : Prop} (k_K : ∀ (a0 : Int32) (a1 : cs), K a0 a1 → (∀ (K' : Int32 → cs → Prop) (T' : Nat → cs → Prop), b_Un_readScanLayer_174 U u x3 x5 S K' T' ↔ K' a0 a1) → Q) (k_T : ∀ (a0 : Nat) (a1 : cs), T a0 a1 → (∀ (K' : Int32 → cs → Prop) (T' : Nat → cs → Prop), b_Un_readScanLayer_174 U u x3 x5 S K' T' ↔ T' a0 a1) → Q) : Q := by
  unfold b_Un_readScanLayer_174 at h
  refine dt_p (And.right (And.right (And.right (And.right (And.right h))))) (fun c_1 h_2 => ?_) (fun c_1 h_2 => ?_)
  ·
    exact d_b_Un_readScanLayer_208 h_2 (fun a0 a1 h_4 i_3 => k_K a0 a1 h_4 (fun _ _ => Iff.trans (dt_a (And.left h)) (Iff.trans (dt_a (And.left (And.right h))) (Iff.trans (dt_a (And.left (And.right (And.right h)))) (Iff.trans (dt_a (And.left (And.right (And.right (And.right h))))) (Iff.trans (dt_a (And.left (And.right (And.right (And.right (And.right h)))))) (Iff.trans (dt_1 c_1 (fun n => n c_1)) (i_3 _ _)))))))) (fun a0 a1 h_6 i_5 => k_T a0 a1 h_6 (fun _ _ => Iff.trans (dt_a (And.left h)) (Iff.trans (dt_a (And.left (And.right h))) (Iff.trans (dt_a (And.left (And.right (And.right h)))) (Iff.trans (dt_a (And.left (And.right (And.right (And.right h))))) (Iff.trans (dt_a (And.left (And.right (And.right (And.right (And.right h)))))) (Iff.trans (dt_1 c_1 (fun n => n c_1)) (i_5 _ _))))))))
  ·
    refine dt_n (And.right (And.right (And.right (And.right h_2)))) (fun c_7 h_8 => ?_) (fun c_7 h_8 => ?_)
    ·
      exact d_b_Un_readScanLayer_226 h_8 (fun a0 a1 h_10 i_9 => k_K a0 a1 h_10 (fun _ _ => Iff.trans (dt_a (And.left h)) (Iff.trans (dt_a (And.left (And.right h))) (Iff.trans (dt_a (And.left (And.right (And.right h)))) (Iff.trans (dt_a (And.left (And.right (And.right (And.right h))))) (Iff.trans (dt_a (And.left (And.right (And.right (And.right (And.right h)))))) (Iff.trans (dt_2 c_1 c_1) (Iff.trans (dt_a (And.left h_2)) (Iff.trans (dt_a (And.left (And.right h_2))) (Iff.trans (dt_a (And.left (And.right (And.right h_2)))) (Iff.trans (dt_a (And.left (And.right (And.right (And.right h_2))))) (Iff.trans (dt_1 c_7 c_7) (i_9 _ _))))))))))))) (fun a0 a1 h_12 i_11 => k_T a0 a1 h_12 (fun _ _ => Iff.trans (dt_a (And.left h)) (Iff.trans (dt_a (And.left (And.right h))) (Iff.trans (dt_a (And.left (And.right (And.right h)))) (Iff.trans (dt_a (And.left (And.right (And.right (And.right h))))) (Iff.trans (dt_a (And.left (And.right (And.right (And.right (And.right h)))))) (Iff.trans (dt_2 c_1 c_1) (Iff.trans (dt_a (And.left h_2)) (Iff.trans (dt_a (And.left (And.right h_2))) (Iff.trans (dt_a (And.left (And.right (And.right h_2)))) (Iff.trans (dt_a (And.left (And.right (And.right (And.right h_2))))) (Iff.trans (dt_1 c_7 c_7) (i_11 _ _)))))))))))))
    ·
      exact d_b_Un_readScanLayer_208 h_8 (fun a0 a1 h_14 i_13 => k_K a0 a1 h_14 (fun _ _ => Iff.trans (dt_a (And.left h)) (Iff.trans (dt_a (And.left (And.right h))) (Iff.trans (dt_a (And.left (And.right (And.right h)))) (Iff.trans (dt_a (And.left (And.right (And.right (And.right h))))) (Iff.trans (dt_a (And.left (And.right (And.right (And.right (And.right h)))))) (Iff.trans (dt_2 c_1 c_1) (Iff.trans (dt_a (And.left h_2)) (Iff.trans (dt_a (And.left (And.right h_2))) (Iff.trans (dt_a (And.left (And.right (And.right h_2)))) (Iff.trans (dt_a (And.left (And.right (And.right (And.right h_2))))) (Iff.trans (dt_2 (fun n => n c_7) c_7) (i_13 _ _))))))))))))) (fun a0 a1 h_16 i_15 => k_T a0 a1 h_16 (fun _ _ => Iff.trans (dt_a (And.left h)) (Iff.trans (dt_a (And.left (And.right h))) (Iff.trans (dt_a (And.left (And.right (And.right h)))) (Iff.trans (dt_a (And.left (And.right (And.right (And.right h))))) (Iff.trans (dt_a (And.left (And.right (And.right (And.right (And.right h)))))) (Iff.trans (dt_2 c_1 c_1) (Iff.trans (dt_a (And.left h_2)) (Iff.trans (dt_a (And.left (And.right h_2))) (Iff.trans (dt_a (And.left (And.right (And.right h_2)))) (Iff.trans (dt_a (And.left (And.right (And.right (And.right h_2))))) (Iff.trans (dt_2 (fun n => n c_7) c_7) (i_15 _ _)))))))))))))
set_option maxHeartbeats 1000000 in
theorem d_b_Un_readScanLayer_114 {U : ut} {u : Nat} {x3 : Int32} {x4 : Int32} {S : cs} {K : Int32 → cs → Prop} {T : Nat → cs → Prop} (h : b_Un_readScanLayer_114 U u x3 x4 S K T) {Q : Prop} (k_K : ∀ (a0 : Int32) (a1 : cs), K a0 a1 → (∀ (K' : Int32 → cs → Prop) (T' : Nat → cs → Prop), b_Un_readScanLayer_114 U u x3 x4 S K' T' ↔ K' a0 a1) → Q) (k_T : ∀ (a0 : Nat) (a1 : cs), T a0 a1 → (∀ (K' : Int32 → cs → Prop) (T' : Nat → cs → Prop), b_Un_readScanLayer_114 U u x3 x4 S K' T' ↔ T' a0 a1) → Q) : Q := by
  unfold b_Un_readScanLayer_114 at h
  refine d_p_Un_readWithin (And.right (And.right (And.right (And.right (And.right (And.right (And.right (And.right (And.right (And.right (And.right h))))))))))) (fun v143 S143 h_2 i_1 => ?_) (fun a0 a1 h_4 i_3 => k_T a0 a1 h_4 (fun _ _ => Iff.trans (dt_a (And.left h)) (Iff.trans (dt_a (And.left (And.right h))) (Iff.trans (dt_a (And.left (And.right (And.right h)))) (Iff.trans (dt_a (And.left (And.right (And.right (And.right h))))) (Iff.trans (dt_a (And.left (And.right (And.right (And.right (And.right h)))))) (Iff.trans (dt_a (And.left (And.right (And.right (And.right (And.right (And.right h))))))) (Iff.trans (dt_a (And.left (And.right (And.right (And.right (And.right (And.right (And.right h)))))))) (Iff.trans (dt_a (And.left (And.right (And.right (And.right (And.right (And.right (And.right (And.right h))))))))) (Iff.trans (dt_a (And.left (And.right (And.right (And.right (And.right (And.right (And.right (And.right (And.right h)))))))))) (Iff.trans (dt_a (And.left (And.right (And.right (And.right (And.right (And.right (And.right (And.right (And.right (And.right h))))))))))) (Iff.trans (dt_a (And.left (And.right (And.right (And.right (And.right (And.right (And.right (And.right (And.right (And.right (And.right h)))))))))))) (i_3 _ _)))))))))))))
  refine dt_p h_2 (fun c_5 h_6 => ?_) (fun c_5 h_6 => ?_)
  ·
    exact d_b_Un_readScanLayer_174 h_6 (fun a0 a1 h_8 i_7 => k_K a0 a1 h_8 (fun _ _ => Iff.trans (dt_a (And.left h)) (Iff.trans (dt_a (And.left (And.right h))) (Iff.trans (dt_a (And.left (And.right (And.right h)))) (Iff.trans (dt_a (And.left (And.right (And.right (And.right h))))) (Iff.trans (dt_a (And.left (And.right (And.right (And.right (And.right h)))))) (Iff.trans (dt_a (And.left (And.right (And.right (And.right (And.right (And.right h))))))) (Iff.trans (dt_a (And.left (And.right (And.right (And.right (And.right (And.right (And.right h)))))))) (Iff.trans (dt_a (And.left (And.right (And.right (And.right (And.right (And.right (And.right (And.right h))))))))) (Iff.trans (dt_a (And.left (And.right (And.right (And.right (And.right (And.right (And.right (And.right (And.right h)))))))))) (Iff.trans (dt_a (And.left (And.right (And.right (And.right (And.right (And.right (And.right (And.right (And.right (And.right h))))))))))) (Iff.trans (dt_a (And.left (And.right (And.right (And.right (And.right (And.right (And.right (And.right (And.right (And.right (And.right h)))))))))))) (Iff.trans (i_1 _ _) (Iff.trans (dt_1 c_5 (fun n => n c_5)) (i_7 _ _))))))))))))))) (fun a0 a1 h_10 i_9 => k_T a0 a1 h_10 (fun _ _ => Iff.trans (dt_a (And.left h)) (Iff.trans (dt_a (And.left (And.right h))) (Iff.trans (dt_a (And.left (And.right (And.right h)))) (Iff.trans (dt_a (And.left (And.right (And.right (And.right h))))) (Iff.trans (dt_a (And.left (And.right (And.right (And.right (And.right h)))))) (Iff.trans (dt_a (And.left (And.right (And.right (And.right (And.right (And.right h))))))) (Iff.trans (dt_a (And.left (And.right (And.right (And.right (And.right (And.right (And.right h)))))))) (Iff.trans (dt_a (And.left (And.right (And.right (And.right (And.right (And.right (And.right (And.right h))))))))) (Iff.trans (dt_a (And.left (And.right (And.right (And.right (And.right (And.right (And.right (And.right (And.right h)))))))))) (Iff.trans (dt_a (And.left (And.right (And.right (And.right (And.right (And.right (And.right (And.right (And.right (And.right h))))))))))) (Iff.trans (dt_a (And.left (And.right (And.right (And.right (And.right (And.right (And.right (And.right (And.right (And.right (And.right h)))))))))))) (Iff.trans (i_1 _ _) (Iff.trans (dt_1 c_5 (fun n => n c_5)) (i_9 _ _)))))))))))))))
  ·
    refine d_p_Re_fail (And.right (And.right (And.right h_6))) (fun S171 h_12 i_11 => ?_) (fun a0 a1 h_14 i_13 => k_T a0 a1 h_14 (fun _ _ => Iff.trans (dt_a (And.left h)) (Iff.trans (dt_a (And.left (And.right h))) (Iff.trans (dt_a (And.left (And.right (And.right h)))) (Iff.trans (dt_a (And.left (And.right (And.right (And.right h))))) (Iff.trans (dt_a (And.left (And.right (And.right (And.right (And.right h)))))) (Iff.trans (dt_a (And.left (And.right (And.right (And.right (And.right (And.right h))))))) (Iff.trans (dt_a (And.left (And.right (And.right (And.right (And.right (And.right (And.right h)))))))) (Iff.trans (dt_a (And.left (And.right (And.right (And.right (And.right (And.right (And.right (And.right h))))))))) (Iff.trans (dt_a (And.left (And.right (And.right (And.right (And.right (And.right (And.right (And.right (And.right h)))))))))) (Iff.trans (dt_a (And.left (And.right (And.right (And.right (And.right (And.right (And.right (And.right (And.right (And.right h))))))))))) (Iff.trans (dt_a (And.left (And.right (And.right (And.right (And.right (And.right (And.right (And.right (And.right (And.right (And.right h)))))))))))) (Iff.trans (i_1 _ _) (Iff.trans (dt_2 c_5 c_5) (Iff.trans (dt_a (And.left h_6)) (Iff.trans (dt_a (And.left (And.right h_6))) (Iff.trans (dt_a (And.left (And.right (And.right h_6)))) (i_13 _ _))))))))))))))))))
    exact d_b_Un_readScanLayer_174 h_12 (fun a0 a1 h_16 i_15 => k_K a0 a1 h_16 (fun _ _ => Iff.trans (dt_a (And.left h)) (Iff.trans (dt_a (And.left (And.right h))) (Iff.trans (dt_a (And.left (And.right (And.right h)))) (Iff.trans (dt_a (And.left (And.right (And.right (And.right h))))) (Iff.trans (dt_a (And.left (And.right (And.right (And.right (And.right h)))))) (Iff.trans (dt_a (And.left (And.right (And.right (And.right (And.right (And.right h))))))) (Iff.trans (dt_a (And.left (And.right (And.right (And.right (And.right (And.right (And.right h)))))))) (Iff.trans (dt_a (And.left (And.right (And.right (And.right (And.right (And.right (And.right (And.right h))))))))) (Iff.trans (dt_a (And.left (And.right (And.right (And.right (And.right (And.right (And.right (And.right (And.right h)))))))))) (Iff.trans (dt_a (And.left (And.right (And.right (And.right (And.right (And.right (And.right (And.right (And.right (And.right h))))))))))) (Iff.trans (dt_a (And.left (And.right (And.right (And.right (And.right (And.right (And.right (And.right (And.right (And.right (And.right h)))))))))))) (Iff.trans (i_1 _ _) (Iff.trans (dt_2 c_5 c_5) (Iff.trans (dt_a (And.left h_6)) (Iff.trans (dt_a (And.left (And.right h_6))) (Iff.trans (dt_a (And.left (And.right (And.right h_6)))) (Iff.trans (i_11 _ _) (i_15 _ _))))))))))))))))))) (fun a0 a1 h_18 i_17 => k_T a0 a1 h_18 (fun _ _ => Iff.trans (dt_a (And.left h)) (Iff.trans (dt_a (And.left (And.right h))) (Iff.trans (dt_a (And.left (And.right (And.right h)))) (Iff.trans (dt_a (And.left (And.right (And.right (And.right h))))) (Iff.trans (dt_a (And.left (And.right (And.right (And.right (And.right h)))))) (Iff.trans (dt_a (And.left (And.right (And.right (And.right (And.right (And.right h))))))) (Iff.trans (dt_a (And.left (And.right (And.right (And.right (And.right (And.right (And.right h)))))))) (Iff.trans (dt_a (And.left (And.right (And.right (And.right (And.right (And.right (And.right (And.right h))))))))) (Iff.trans (dt_a (And.left (And.right (And.right (And.right (And.right (And.right (And.right (And.right (And.right h)))))))))) (Iff.trans (dt_a (And.left (And.right (And.right (And.right (And.right (And.right (And.right (And.right (And.right (And.right h))))))))))) (Iff.trans (dt_a (And.left (And.right (And.right (And.right (And.right (And.right (And.right (And.right (And.right (And.right (And.right h)))))))))))) (Iff.trans (i_1 _ _) (Iff.trans (dt_2 c_5 c_5) (Iff.trans (dt_a (And.left h_6)) (Iff.trans (dt_a (And.left (And.right h_6))) (Iff.trans (dt_a (And.left (And.right (And.right h_6)))) (Iff.trans (i_11 _ _) (i_17 _ _)))))))))))))))))))
set_option maxHeartbeats 1000000 in
theorem d_b_Un_readScanLayer_59 {U : ut} {u : Nat} {x1 : Int32} {S : cs} {K : Int32 → cs → Prop} {T : Nat → cs → Prop} (h : b_Un_readScanLayer_59 U u x1 S K T) {Q : Prop} (k_K : ∀ (a0 : Int32) (a1 : cs), K a0 a1 → (∀ (K' : Int32 → cs → Prop) (T' : Nat → cs → Prop), b_Un_readScanLayer_59 U u x1 S K' T' ↔ K' a0 a1) → Q) (k_T : ∀ (a0 : Nat) (a1 : cs), T a0 a1 → (∀ (K' : Int32 → cs → Prop) (T' : Nat → cs → Prop), b_Un_readScanLayer_59 U u x1 S K' T' ↔ T' a0 a1) → Q) : Q := by
  unfold b_Un_readScanLayer_59 at h
  refine d_p_Re_fail (And.right (And.right (And.right h))) (fun S73 h_2 i_1 => ?_) (fun a0 a1 h_4 i_3 => k_T a0 a1 h_4 (fun _ _ => Iff.trans (dt_a (And.left h)) (Iff.trans (dt_a (And.left (And.right h))) (Iff.trans (dt_a (And.left (And.right (And.right h)))) (i_3 _ _)))))
  exact k_K _ _ h_2 (fun _ _ => Iff.trans (dt_a (And.left h)) (Iff.trans (dt_a (And.left (And.right h))) (Iff.trans (dt_a (And.left (And.right (And.right h)))) (i_1 _ _))))
set_option maxHeartbeats 1000000 in
theorem d_b_Un_readScanLayer_39 {U : ut} {u : Nat} {x1 : Int32} {x2 : Int32} {x3 : Int32} {x4 : Int32} {S : cs} {R13 : Int32 → Int32 → Int32 → Int32 → cs → Prop} {K : Int32 → cs → Prop} {T : Nat → cs → Prop} (h : b_Un_readScanLayer_39 U u x1 x2 x3 x4 S R13 K T) {Q : Prop} (k_R13 : ∀ (a0 : Int32) (a1 : Int32) (a2 : Int32) (a3 : Int32) (a4 : cs), R13 a0 a1 a2 a3 a4 → (∀ (R13' : Int32 → Int32 → Int32 → Int32 → cs → Prop) (K' : Int32 → cs → Prop) (T' : Nat → cs → Prop), b_Un_readScanLayer_39 U u x1 x2 x3 x4 S R13' K' T' ↔ R13' a0 a1 a2 a3 a4) → Q) (k_K : ∀ (a0 : Int32) (a1 : cs), K a0 a1 → (∀ (R13' : Int32 → Int32 → Int32 → Int32 → cs → Prop) (K' : Int32 → cs → Prop) (T' : Nat → cs → Prop), b_Un_readScanLayer_39 U u x1 x2 x3 x4 S R13' K' T' ↔ K' a0 a1) → Q) (k_T : ∀ (a0 : Nat) (a1 : cs), T a0 a1 → (∀ (R13' : Int32 → Int32 → Int32 → Int32 → cs → Prop) (K' : Int32 → cs → Prop) (T' : Nat → cs → Prop), b_Un_readScanLayer_39 U u x1 x2 x3 x4 S R13' K' T' ↔ T' a0 a1) → Q) : Q := by
  unfold b_Un_readScanLayer_39 at h
  exact k_R13 _ _ _ _ _ h (fun _ _ _ => Iff.rfl)
set_option maxHeartbeats 1000000 in
theorem d_b_Un_readScanLayer_13 {U : ut} {u : Nat} {x1 : Int32} {x2 : Int32} {x3 : Int32} {x4 : Int32} {S : cs} {R13 : Int32 → Int32 → Int32 → Int32 → cs → Prop} {K : Int32 → cs → Prop} {T : Nat → cs → Prop} (h : b_Un_readScanLayer_13 U u x1 x2 x3 x4 S R13 K T) {Q : Prop} (k_R13 : ∀ (a0 : Int32) (a1 : Int32) (a2 : Int32) (a3 : Int32) (a4 : cs), R13 a0 a1 a2 a3 a4 → (∀ (R13' : Int32 → Int32 → Int32 → Int32 → cs → Prop) (K' : Int32 → cs → Prop) (T' : Nat → cs → Prop), b_Un_readScanLayer_13 U u x1 x2 x3 x4 S R13' K' T' ↔ R13' a0 a1 a2 a3 a4) → Q) (k_K : ∀ (a0 : Int32) (a1 : cs), K a0 a1 → (∀ (R13' : Int32 → Int32 → Int32 → Int32 → cs → Prop) (K' : Int32 → cs → Prop) (T' : Nat → cs → Prop), b_Un_readScanLayer_13 U u x1 x2 x3 x4 S R13' K' T' ↔ K' a0 a1) → Q) (k_T : ∀ (a0 : Nat) (a1 : cs), T a0 a1 → (∀ (R13' : Int32 → Int32 → Int32 → Int32 → cs → Prop) (K' : Int32 → cs → Prop) (T' : Nat → cs → Prop), b_Un_readScanLayer_13 U u x1 x2 x3 x4 S R13' K' T' ↔ T' a0 a1) → Q) : Q := by
  unfold b_Un_readScanLayer_13 at h
  refine dt_p (And.right (And.right h)) (fun c_1 h_2 => ?_) (fun c_1 h_2 => ?_)
  ·
    refine dt_p h_2 (fun c_3 h_4 => ?_) (fun c_3 h_4 => ?_)
    ·
      exact d_b_Un_readScanLayer_59 h_4 (fun a0 a1 h_6 i_5 => k_K a0 a1 h_6 (fun _ _ _ => Iff.trans (dt_a (And.left h)) (Iff.trans (dt_a (And.left (And.right h))) (Iff.trans (dt_1 c_1 (fun n => n c_1)) (Iff.trans (dt_1 c_3 (fun n => n c_3)) (i_5 _ _)))))) (fun a0 a1 h_8 i_7 => k_T a0 a1 h_8 (fun _ _ _ => Iff.trans (dt_a (And.left h)) (Iff.trans (dt_a (And.left (And.right h))) (Iff.trans (dt_1 c_1 (fun n => n c_1)) (Iff.trans (dt_1 c_3 (fun n => n c_3)) (i_7 _ _))))))
    ·
      refine dt_p (And.right (And.right (And.right h_4))) (fun c_9 h_10 => ?_) (fun c_9 h_10 => ?_)
      ·
        refine dt_n (And.right (And.right (And.right (And.right (And.right (And.right h_10)))))) (fun c_11 h_12 => ?_) (fun c_11 h_12 => ?_)
        ·
          exact d_b_Un_readScanLayer_114 h_12 (fun a0 a1 h_14 i_13 => k_K a0 a1 h_14 (fun _ _ _ => Iff.trans (dt_a (And.left h)) (Iff.trans (dt_a (And.left (And.right h))) (Iff.trans (dt_1 c_1 (fun n => n c_1)) (Iff.trans (dt_2 c_3 c_3) (Iff.trans (dt_a (And.left h_4)) (Iff.trans (dt_a (And.left (And.right h_4))) (Iff.trans (dt_a (And.left (And.right (And.right h_4)))) (Iff.trans (dt_1 c_9 (fun n => n c_9)) (Iff.trans (dt_a (And.left h_10)) (Iff.trans (dt_a (And.left (And.right h_10))) (Iff.trans (dt_a (And.left (And.right (And.right h_10)))) (Iff.trans (dt_a (And.left (And.right (And.right (And.right h_10))))) (Iff.trans (dt_a (And.left (And.right (And.right (And.right (And.right h_10)))))) (Iff.trans (dt_a (And.left (And.right (And.right (And.right (And.right (And.right h_10))))))) (Iff.trans (dt_1 c_11 c_11) (i_13 _ _))))))))))))))))) (fun a0 a1 h_16 i_15 => k_T a0 a1 h_16 (fun _ _ _ => Iff.trans (dt_a (And.left h)) (Iff.trans (dt_a (And.left (And.right h))) (Iff.trans (dt_1 c_1 (fun n => n c_1)) (Iff.trans (dt_2 c_3 c_3) (Iff.trans (dt_a (And.left h_4)) (Iff.trans (dt_a (And.left (And.right h_4))) (Iff.trans (dt_a (And.left (And.right (And.right h_4)))) (Iff.trans (dt_1 c_9 (fun n => n c_9)) (Iff.trans (dt_a (And.left h_10)) (Iff.trans (dt_a (And.left (And.right h_10))) (Iff.trans (dt_a (And.left (And.right (And.right h_10)))) (Iff.trans (dt_a (And.left (And.right (And.right (And.right h_10))))) (Iff.trans (dt_a (And.left (And.right (And.right (And.right (And.right h_10)))))) (Iff.trans (dt_a (And.left (And.right (And.right (And.right (And.right (And.right h_10))))))) (Iff.trans (dt_1 c_11 c_11) (i_15 _ _)))))))))))))))))
        ·
          refine d_p_Re_fail (And.right (And.right (And.right h_12))) (fun S111 h_18 i_17 => ?_) (fun a0 a1 h_20 i_19 => k_T a0 a1 h_20 (fun _ _ _ => Iff.trans (dt_a (And.left h)) (Iff.trans (dt_a (And.left (And.right h))) (Iff.trans (dt_1 c_1 (fun n => n c_1)) (Iff.trans (dt_2 c_3 c_3) (Iff.trans (dt_a (And.left h_4)) (Iff.trans (dt_a (And.left (And.right h_4))) (Iff.trans (dt_a (And.left (And.right (And.right h_4)))) (Iff.trans (dt_1 c_9 (fun n => n c_9)) (Iff.trans (dt_a (And.left h_10)) (Iff.trans (dt_a (And.left (And.right h_10))) (Iff.trans (dt_a (And.left (And.right (And.right h_10)))) (Iff.trans (dt_a (And.left (And.right (And.right (And.right h_10))))) (Iff.trans (dt_a (And.left (And.right (And.right (And.right (And.right h_10)))))) (Iff.trans (dt_a (And.left (And.right (And.right (And.right (And.right (And.right h_10))))))) (Iff.trans (dt_2 (fun n => n c_11) c_11) (Iff.trans (dt_a (And.left h_12)) (Iff.trans (dt_a (And.left (And.right h_12))) (Iff.trans (dt_a (And.left (And.right (And.right h_12)))) (i_19 _ _))))))))))))))))))))
          exact d_b_Un_readScanLayer_114 h_18 (fun a0 a1 h_22 i_21 => k_K a0 a1 h_22 (fun _ _ _ => Iff.trans (dt_a (And.left h)) (Iff.trans (dt_a (And.left (And.right h))) (Iff.trans (dt_1 c_1 (fun n => n c_1)) (Iff.trans (dt_2 c_3 c_3) (Iff.trans (dt_a (And.left h_4)) (Iff.trans (dt_a (And.left (And.right h_4))) (Iff.trans (dt_a (And.left (And.right (And.right h_4)))) (Iff.trans (dt_1 c_9 (fun n => n c_9)) (Iff.trans (dt_a (And.left h_10)) (Iff.trans (dt_a (And.left (And.right h_10))) (Iff.trans (dt_a (And.left (And.right (And.right h_10)))) (Iff.trans (dt_a (And.left (And.right (And.right (And.right h_10))))) (Iff.trans (dt_a (And.left (And.right (And.right (And.right (And.right h_10)))))) (Iff.trans (dt_a (And.left (And.right (And.right (And.right (And.right (And.right h_10))))))) (Iff.trans (dt_2 (fun n => n c_11) c_11) (Iff.trans (dt_a (And.left h_12)) (Iff.trans (dt_a (And.left (And.right h_12))) (Iff.trans (dt_a (And.left (And.right (And.right h_12)))) (Iff.trans (i_17 _ _) (i_21 _ _))))))))))))))))))))) (fun a0 a1 h_24 i_23 => k_T a0 a1 h_24 (fun _ _ _ => Iff.trans (dt_a (And.left h)) (Iff.trans (dt_a (And.left (And.right h))) (Iff.trans (dt_1 c_1 (fun n => n c_1)) (Iff.trans (dt_2 c_3 c_3) (Iff.trans (dt_a (And.left h_4)) (Iff.trans (dt_a (And.left (And.right h_4))) (Iff.trans (dt_a (And.left (And.right (And.right h_4)))) (Iff.trans (dt_1 c_9 (fun n => n c_9)) (Iff.trans (dt_a (And.left h_10)) (Iff.trans (dt_a (And.left (And.right h_10))) (Iff.trans (dt_a (And.left (And.right (And.right h_10)))) (Iff.trans (dt_a (And.left (And.right (And.right (And.right h_10))))) (Iff.trans (dt_a (And.left (And.right (And.right (And.right (And.right h_10)))))) (Iff.trans (dt_a (And.left (And.right (And.right (And.right (And.right (And.right h_10))))))) (Iff.trans (dt_2 (fun n => n c_11) c_11) (Iff.trans (dt_a (And.left h_12)) (Iff.trans (dt_a (And.left (And.right h_12))) (Iff.trans (dt_a (And.left (And.right (And.right h_12)))) (Iff.trans (i_17 _ _) (i_23 _ _)))))))))))))))))))))
      ·
        exact d_b_Un_readScanLayer_59 h_10 (fun a0 a1 h_26 i_25 => k_K a0 a1 h_26 (fun _ _ _ => Iff.trans (dt_a (And.left h)) (Iff.trans (dt_a (And.left (And.right h))) (Iff.trans (dt_1 c_1 (fun n => n c_1)) (Iff.trans (dt_2 c_3 c_3) (Iff.trans (dt_a (And.left h_4)) (Iff.trans (dt_a (And.left (And.right h_4))) (Iff.trans (dt_a (And.left (And.right (And.right h_4)))) (Iff.trans (dt_2 c_9 c_9) (i_25 _ _)))))))))) (fun a0 a1 h_28 i_27 => k_T a0 a1 h_28 (fun _ _ _ => Iff.trans (dt_a (And.left h)) (Iff.trans (dt_a (And.left (And.right h))) (Iff.trans (dt_1 c_1 (fun n => n c_1)) (Iff.trans (dt_2 c_3 c_3) (Iff.trans (dt_a (And.left h_4)) (Iff.trans (dt_a (And.left (And.right h_4))) (Iff.trans (dt_a (And.left (And.right (And.right h_4)))) (Iff.trans (dt_2 c_9 c_9) (i_27 _ _))))))))))
  ·
    refine dt_n (And.right (And.right (And.right h_2))) (fun c_29 h_30 => ?_) (fun c_29 h_30 => ?_)
    ·
      exact d_b_Un_readScanLayer_39 h_30 (fun a0 a1 a2 a3 a4 h_32 i_31 => k_R13 a0 a1 a2 a3 a4 h_32 (fun _ _ _ => Iff.trans (dt_a (And.left h)) (Iff.trans (dt_a (And.left (And.right h))) (Iff.trans (dt_2 c_1 c_1) (Iff.trans (dt_a (And.left h_2)) (Iff.trans (dt_a (And.left (And.right h_2))) (Iff.trans (dt_a (And.left (And.right (And.right h_2)))) (Iff.trans (dt_1 c_29 c_29) (i_31 _ _ _))))))))) (fun a0 a1 h_34 i_33 => k_K a0 a1 h_34 (fun _ _ _ => Iff.trans (dt_a (And.left h)) (Iff.trans (dt_a (And.left (And.right h))) (Iff.trans (dt_2 c_1 c_1) (Iff.trans (dt_a (And.left h_2)) (Iff.trans (dt_a (And.left (And.right h_2))) (Iff.trans (dt_a (And.left (And.right (And.right h_2)))) (Iff.trans (dt_1 c_29 c_29) (i_33 _ _ _))))))))) (fun a0 a1 h_36 i_35 => k_T a0 a1 h_36 (fun _ _ _ => Iff.trans (dt_a (And.left h)) (Iff.trans (dt_a (And.left (And.right h))) (Iff.trans (dt_2 c_1 c_1) (Iff.trans (dt_a (And.left h_2)) (Iff.trans (dt_a (And.left (And.right h_2))) (Iff.trans (dt_a (And.left (And.right (And.right h_2)))) (Iff.trans (dt_1 c_29 c_29) (i_35 _ _ _)))))))))
    ·
      exact d_b_Un_readScanLayer_39 h_30 (fun a0 a1 a2 a3 a4 h_38 i_37 => k_R13 a0 a1 a2 a3 a4 h_38 (fun _ _ _ => Iff.trans (dt_a (And.left h)) (Iff.trans (dt_a (And.left (And.right h))) (Iff.trans (dt_2 c_1 c_1) (Iff.trans (dt_a (And.left h_2)) (Iff.trans (dt_a (And.left (And.right h_2))) (Iff.trans (dt_a (And.left (And.right (And.right h_2)))) (Iff.trans (dt_2 (fun n => n c_29) c_29) (i_37 _ _ _))))))))) (fun a0 a1 h_40 i_39 => k_K a0 a1 h_40 (fun _ _ _ => Iff.trans (dt_a (And.left h)) (Iff.trans (dt_a (And.left (And.right h))) (Iff.trans (dt_2 c_1 c_1) (Iff.trans (dt_a (And.left h_2)) (Iff.trans (dt_a (And.left (And.right h_2))) (Iff.trans (dt_a (And.left (And.right (And.right h_2)))) (Iff.trans (dt_2 (fun n => n c_29) c_29) (i_39 _ _ _))))))))) (fun a0 a1 h_42 i_41 => k_T a0 a1 h_42 (fun _ _ _ => Iff.trans (dt_a (And.left h)) (Iff.trans (dt_a (And.left (And.right h))) (Iff.trans (dt_2 c_1 c_1) (Iff.trans (dt_a (And.left h_2)) (Iff.trans (dt_a (And.left (And.right h_2))) (Iff.trans (dt_a (And.left (And.right (And.right h_2)))) (Iff.trans (dt_2 (fun n => n c_29) c_29) (i_41 _ _ _)))))))))
