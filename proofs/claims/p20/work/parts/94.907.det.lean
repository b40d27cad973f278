theorem l_e_Un_readScanLayer_13 {U : ut} {u : Nat} {x1 : Int32} {x2 : Int32} {x3 : Int32} {x4 : Int32} {S : cs} {K : Int32 → cs → Prop} {T : Nat → cs → Prop} : e_Un_readScanLayer_13 U u x1 x2 x3 x4 S K T ↔ lpE (C := (Int32 → cs → Prop) × (Nat → cs → Prop)) (fun (y : (Int32) × (Int32) × (Int32) × (Int32) × (cs)) (R : ((Int32) × (Int32) × (Int32) × (Int32) × (cs)) → Prop) (c : (Int32 → cs → Prop) × (Nat → cs → Prop)) => b_Un_readScanLayer_13 U u y.1 y.2.1 y.2.2.1 y.2.2.2.1 y.2.2.2.2 (fun z0 z1 z2 z3 z4 => R (z0, z1, z2, z3, z4)) c.1 c.2) (x1, x2, x3, x4, S) (K, T) :=
  ⟨fun ⟨I, μ, h0, hs⟩ => ⟨fun t => I t.1 t.2.1 t.2.2.1 t.2.2.2.1 t.2.2.2.2, fun t => μ t.1 t.2.1 t.2.2.1 t.2.2.2.1 t.2.2.2.2, h0, fun t ht => hs _ _ _ _ _ ht⟩, fun ⟨I, μ, h0, hs⟩ => ⟨fun y0 y1 y2 y3 y4 => I (y0, y1, y2, y3, y4), fun y0 y1 y2 y3 y4 => μ (y0, y1, y2, y3, y4), h0, fun y0 y1 y2 y3 y4 hy => hs (y0, y1, y2, y3, y4) hy⟩⟩
set_option maxHeartbeats 1000000 in
theorem d_e_Un_readScanLayer_13 {U : ut} {u : Nat} {x1 : Int32} {x2 : Int32} {x3 : Int32} {x4 : Int32} {S : cs} {K : Int32 → cs → Prop} {T : Nat → cs → Prop} (h : e_Un_readScanLayer_13 U u x1 x2 x3 x4 S K T) {Q : Prop} (k_K : ∀ (a0 : Int32) (a1 : cs), K a0 a1 → (∀ (K' : Int32 → cs → Prop) (T' : Nat → cs → Prop), e_Un_readScanLayer_13 U u x1 x2 x3 x4 S K' T' ↔ K' a0 a1) → Q) (k_T : ∀ (a0 : Nat) (a1 : cs), T a0 a1 → (∀ (K' : Int32 → cs → Prop) (T' : Nat → cs → Prop), e_Un_readScanLayer_13 U u x1 x2 x3 x4 S K' T' ↔ T' a0 a1) → Q) : Q := by
  obtain ⟨o, ho, hoc, hi⟩ := lp_det (C := (Int32 → cs → Prop) × (Nat → cs → Prop)) (b := (fun (y : (Int32) × (Int32) × (Int32) × (Int32) × (cs)) (R : ((Int32) × (Int32) × (Int32) × (Int32) × (cs)) → Prop) (c : (Int32 → cs → Prop) × (Nat → cs → Prop)) => b_Un_readScanLayer_13 U u y.1 y.2.1 y.2.2.1 y.2.2.2.1 y.2.2.2.2 (fun z0 z1 z2 z3 z4 => R (z0, z1, z2, z3, z4)) c.1 c.2)) (O := (fun (o : ((Int32 → cs → Prop) × (Nat → cs → Prop)) → Prop) => (∃ (a0 : Int32) (a1 : cs), o = fun c => c.1 a0 a1) ∨ (∃ (a0 : Nat) (a1 : cs), o = fun c => c.2 a0 a1))) (fun y R c hy => d_b_Un_readScanLayer_13 hy (fun a0 a1 a2 a3 a4 ha ia => Or.inl ⟨(a0, a1, a2, a3, a4), ha, fun R' c' => ia (fun z0 z1 z2 z3 z4 => R' (z0, z1, z2, z3, z4)) c'.1 c'.2⟩) (fun a0 a1 ha ia => Or.inr ⟨(fun c => c.1 a0 a1), Or.inl ⟨a0, a1, rfl⟩, ha, fun R' c' => ia (fun z0 z1 z2 z3 z4 => R' (z0, z1, z2, z3, z4)) c'.1 c'.2⟩) (fun a0 a1 ha ia => Or.inr ⟨(fun c => c.2 a0 a1), Or.inr (⟨a0, a1, rfl⟩), ha, fun R' c' => ia (fun z0 z1 z2 z3 z4 => R' (z0, z1, z2, z3, z4)) c'.1 c'.2⟩)) (l_e_Un_readScanLayer_13.mp h)
  rcases ho with ⟨a0, a1, rfl⟩ | ⟨a0, a1, rfl⟩
  · exact k_K _ _ hoc (fun K' T' => Iff.trans l_e_Un_readScanLayer_13 (hi (K', T')))
  · exact k_T _ _ hoc (fun K' T' => Iff.trans l_e_Un_readScanLayer_13 (hi (K', T')))
theorem v_e_Un_readScanLayer_13 {U : ut} {u : Nat} {x1 : Int32} {x2 : Int32} {x3 : Int32} {x4 : Int32} {S : cs} {K : Int32 → cs → Prop} {T : Nat → cs → Prop} (h : e_Un_readScanLayer_13 U u x1 x2 x3 x4 S K T) {G : Prop} (Inv : Int32 → Int32 → cs → Prop) (h0 : Inv x3 x4 S) (hs : ∀ (yx3 : Int32) (yx4 : Int32) (yS : cs) (R : Int32 → Int32 → Int32 → Int32 → cs → Prop), Inv yx3 yx4 yS → b_Un_readScanLayer_13 U u x1 x2 yx3 yx4 yS R K T → (∃ (zx3 : Int32) (zx4 : Int32) (zS : cs), R x1 x2 zx3 zx4 zS ∧ Inv zx3 zx4 zS) ∨ G) : G := by
  obtain ⟨I, μ, i0, is⟩ := h
  have go : ∀ (n : Nat) (yx3 : Int32) (yx4 : Int32) (yS : cs), μ x1 x2 yx3 yx4 yS < n → I x1 x2 yx3 yx4 yS → Inv yx3 yx4 yS → G := by
    intro n
    induction n with
    | zero => intro yx3 yx4 yS hy; exact absurd hy (Nat.not_lt_zero _)
    | succ n ih =>
      intro yx3 yx4 yS hy hI hV
      rcases hs yx3 yx4 yS _ hV (is x1 x2 yx3 yx4 yS hI) with ⟨zx3, zx4, zS, ⟨hz, hm⟩, hv⟩ | g
      · exact ih zx3 zx4 zS (Nat.lt_of_lt_of_le hm (Nat.le_of_lt_succ hy)) hz hv
      · exact g
  exact go _ x3 x4 S (Nat.lt_succ_self _) i0 h0
theorem r_e_Un_readScanLayer_13 {U : ut} {u : Nat} {x1 : Int32} {x2 : Int32} {x3 : Int32} {x4 : Int32} {S : cs} {K : Int32 → cs → Prop} {T : Nat → cs → Prop} (h : e_Un_readScanLayer_13 U u x1 x2 x3 x4 S K T) : b_Un_readScanLayer_13 U u x1 x2 x3 x4 S (fun zx1 zx2 zx3 zx4 zS => e_Un_readScanLayer_13 U u zx1 zx2 zx3 zx4 zS K T) K T := by
  obtain ⟨I, μ, i0, is⟩ := h
  exact d_b_Un_readScanLayer_13 (is x1 x2 x3 x4 S i0) (fun a0 a1 a2 a3 a4 ha ia => (ia _ _ _).mpr ⟨I, μ, ha.1, is⟩) (fun a0 a1 ha ia => (ia _ _ _).mpr ha) (fun a0 a1 ha ia => (ia _ _ _).mpr ha)
set_option maxHeartbeats 1000000 in
theorem d_p_Un_readScanLayer {U : ut} {u : Nat} {x1 : Int32} {S : cs} {K : Int32 → cs → Prop} {T : Nat → cs → Prop} (h : p_Un_readScanLayer U u x1 S K T) {Q : Prop} (k_K : ∀ (a0 : Int32) (a1 : cs), K a0 a1 → (∀ (K' : Int32 → cs → Prop) (T' : Nat → cs → Prop), p_Un_readScanLayer U u x1 S K' T' ↔ K' a0 a1) → Q) (k_T : ∀ (a0 : Nat) (a1 : cs), T a0 a1 → (∀ (K' : Int32 → cs → Prop) (T' : Nat → cs → Prop), p_Un_readScanLayer U u x1 S K' T' ↔ T' a0 a1) → Q) : Q := by
  unfold p_Un_readScanLayer at h
  refine d_p_Re_read (And.right (And.right h)) (fun v4 S4 h_2 i_1 => ?_) (fun a0 a1 h_4 i_3 => k_T a0 a1 h_4 (fun _ _ => Iff.trans (dt_a (And.left h)) (Iff.trans (dt_a (And.left (And.right h))) (i_3 _ _))))
  exact d_e_Un_readScanLayer_13 h_2 (fun a0 a1 h_6 i_5 => k_K a0 a1 h_6 (fun _ _ => Iff.trans (dt_a (And.left h)) (Iff.trans (dt_a (And.left (And.right h))) (Iff.trans (i_1 _ _) (i_5 _ _))))) (fun a0 a1 h_8 i_7 => k_T a0 a1 h_8 (fun _ _ => Iff.trans (dt_a (And.left h)) (Iff.trans (dt_a (And.left (And.right h))) (Iff.trans (i_1 _ _) (i_7 _ _)))))
set_option maxHeartbeats 1000000 in
theorem d_b_Un_readScan_130 {U : ut} {u : Nat} {S : cs} {K : cs → Prop} {T : Nat → cs → Prop} (h : b_Un_readScan_130 U u S K T) {Q : Prop} (k_K : ∀ (a0 : cs), K a0 → (∀ (K' : cs → Prop) (T' : Nat → cs → Prop), b_Un_readScan_130 U u S K' T' ↔ K' a0) → Q) (k_T : ∀ (a0 : Nat) (a1 : cs), T a0 a1 → (∀ (K' : cs → Prop) (T' : Nat → cs → Prop), b_Un_readScan_130 U u S K' T' ↔ T' a0 a1) → Q) : Q := by
  unfold b_Un_readScan_130 at h
  refine d_p_Sc_arrange (And.right (And.right (And.right h))) (fun S138 h_2 i_1 => ?_)
  exact k_K _ h_2 (fun _ _ => Iff.trans (dt_a (And.left h)) (Iff.trans (dt_a (And.left (And.right h))) (Iff.trans (dt_a (And.left (And.right (And.right h)))) (i_1 _))))
set_option maxHeartbeats 1000000 in
theorem d_b_Un_readScan_56 {U : ut} {u : Nat} {x1 : Int32} {x2 : Int32} {x3 : Int32} {x4 : Int32} {S : cs} {R56 : Int32 → Int32 → Int32 → Int32 → cs → Prop} {K : cs → Prop} {T : Nat → cs → Prop} (h : b_Un_readScan_56 U u x1 x2 x3 x4 S R56 K T) {Q : Prop} (k_R56 : ∀ (a0 : Int32) (a1 : Int32) (a2 : Int32) (a3 : Int32) (a4 : cs), R56 a0 a1 a2 a3 a4 → (∀ (R56' : Int32 → Int32 → Int32 → Int32 → cs → Prop) (K' : cs → Prop) (T' : Nat → cs → Prop), b_Un_readScan_56 U u x1 x2 x3 x4 S R56' K' T' ↔ R56' a0 a1 a2 a3 a4) → Q) (k_K : ∀ (a0 : cs), K a0 → (∀ (R56' : Int32 → Int32 → Int32 → Int32 → cs → Prop) (K' : cs → Prop) (T' : Nat → cs → Prop), b_Un_readScan_56 U u x1 x2 x3 x4 S R56' K' T' ↔ K' a0) → Q) (k_T : ∀ (a0 : Nat) (a1 : cs), T a0 a1 → (∀ (R56' : Int32 → Int32 → Int32 → Int32 → cs → Prop) (K' : cs → Prop) (T' : Nat → cs → Prop), b_Un_readScan_56 U u x1 x2 x3 x4 S R56' K' T' ↔ T' a0 a1) → Q) : Q := by
  unfold b_Un_readScan_56 at h
  refine dt_p h (fun c_1 h_2 => ?_) (fun c_1 h_2 => ?_)
  ·
    refine d_p_Un_readWithin h_2 (fun v79 S79 h_4 i_3 => ?_) (fun a0 a1 h_6 i_5 => k_T a0 a1 h_6 (fun _ _ _ => Iff.trans (dt_1 c_1 (fun n => n c_1)) (i_5 _ _)))
    refine d_p_Un_readWithin h_4 (fun v88 S88 h_8 i_7 => ?_) (fun a0 a1 h_10 i_9 => k_T a0 a1 h_10 (fun _ _ _ => Iff.trans (dt_1 c_1 (fun n => n c_1)) (Iff.trans (i_3 _ _) (i_9 _ _))))
    refine d_p_Un_readWithin h_8 (fun v95 S95 h_12 i_11 => ?_) (fun a0 a1 h_14 i_13 => k_T a0 a1 h_14 (fun _ _ _ => Iff.trans (dt_1 c_1 (fun n => n c_1)) (Iff.trans (i_3 _ _) (Iff.trans (i_7 _ _) (i_13 _ _)))))
    refine dt_p h_12 (fun c_15 h_16 => ?_) (fun c_15 h_16 => ?_)
    ·
      exact d_b_Un_readScan_130 h_16 (fun a0 h_18 i_17 => k_K a0 h_18 (fun _ _ _ => Iff.trans (dt_1 c_1 (fun n => n c_1)) (Iff.trans (i_3 _ _) (Iff.trans (i_7 _ _) (Iff.trans (i_11 _ _) (Iff.trans (dt_1 c_15 (fun n => n c_15)) (i_17 _ _))))))) (fun a0 a1 h_20 i_19 => k_T a0 a1 h_20 (fun _ _ _ => Iff.trans (dt_1 c_1 (fun n => n c_1)) (Iff.trans (i_3 _ _) (Iff.trans (i_7 _ _) (Iff.trans (i_11 _ _) (Iff.trans (dt_1 c_15 (fun n => n c_15)) (i_19 _ _)))))))
    ·
      refine d_p_Sc_blocksTogether (And.right (And.right (And.right h_16))) (fun v112 S112 h_22 i_21 => ?_)
      refine dt_p h_22 (fun c_23 h_24 => ?_) (fun c_23 h_24 => ?_)
      ·
        exact d_b_Un_readScan_130 h_24 (fun a0 h_26 i_25 => k_K a0 h_26 (fun _ _ _ => Iff.trans (dt_1 c_1 (fun n => n c_1)) (Iff.trans (i_3 _ _) (Iff.trans (i_7 _ _) (Iff.trans (i_11 _ _) (Iff.trans (dt_2 c_15 c_15) (Iff.trans (dt_a (And.left h_16)) (Iff.trans (dt_a (And.left (And.right h_16))) (Iff.trans (dt_a (And.left (And.right (And.right h_16)))) (Iff.trans (i_21 _) (Iff.trans (dt_1 c_23 (fun n => n c_23)) (i_25 _ _)))))))))))) (fun a0 a1 h_28 i_27 => k_T a0 a1 h_28 (fun _ _ _ => Iff.trans (dt_1 c_1 (fun n => n c_1)) (Iff.trans (i_3 _ _) (Iff.trans (i_7 _ _) (Iff.trans (i_11 _ _) (Iff.trans (dt_2 c_15 c_15) (Iff.trans (dt_a (And.left h_16)) (Iff.trans (dt_a (And.left (And.right h_16))) (Iff.trans (dt_a (And.left (And.right (And.right h_16)))) (Iff.trans (i_21 _) (Iff.trans (dt_1 c_23 (fun n => n c_23)) (i_27 _ _))))))))))))
      ·
        refine d_p_Re_fail (And.right (And.right h_24)) (fun S127 h_30 i_29 => ?_) (fun a0 a1 h_32 i_31 => k_T a0 a1 h_32 (fun _ _ _ => Iff.trans (dt_1 c_1 (fun n => n c_1)) (Iff.trans (i_3 _ _) (Iff.trans (i_7 _ _) (Iff.trans (i_11 _ _) (Iff.trans (dt_2 c_15 c_15) (Iff.trans (dt_a (And.left h_16)) (Iff.trans (dt_a (And.left (And.right h_16))) (Iff.trans (dt_a (And.left (And.right (And.right h_16)))) (Iff.trans (i_21 _) (Iff.trans (dt_2 c_23 c_23) (Iff.trans (dt_a (And.left h_24)) (Iff.trans (dt_a (And.left (And.right h_24))) (i_31 _ _))))))))))))))
        exact d_b_Un_readScan_130 h_30 (fun a0 h_34 i_33 => k_K a0 h_34 (fun _ _ _ => Iff.trans (dt_1 c_1 (fun n => n c_1)) (Iff.trans (i_3 _ _) (Iff.trans (i_7 _ _) (Iff.trans (i_11 _ _) (Iff.trans (dt_2 c_15 c_15) (Iff.trans (dt_a (And.left h_16)) (Iff.trans (dt_a (And.left (And.right h_16))) (Iff.trans (dt_a (And.left (And.right (And.right h_16)))) (Iff.trans (i_21 _) (Iff.trans (dt_2 c_23 c_23) (Iff.trans (dt_a (And.left h_24)) (Iff.trans (dt_a (And.left (And.right h_24))) (Iff.trans (i_29 _ _) (i_33 _ _))))))))))))))) (fun a0 a1 h_36 i_35 => k_T a0 a1 h_36 (fun _ _ _ => Iff.trans (dt_1 c_1 (fun n => n c_1)) (Iff.trans (i_3 _ _) (Iff.trans (i_7 _ _) (Iff.trans (i_11 _ _) (Iff.trans (dt_2 c_15 c_15) (Iff.trans (dt_a (And.left h_16)) (Iff.trans (dt_a (And.left (And.right h_16))) (Iff.trans (dt_a (And.left (And.right (And.right h_16)))) (Iff.trans (i_21 _) (Iff.trans (dt_2 c_23 c_23) (Iff.trans (dt_a (And.left h_24)) (Iff.trans (dt_a (And.left (And.right h_24))) (Iff.trans (i_29 _ _) (i_35 _ _)))))))))))))))
  ·
    refine d_p_Un_readScanLayer h_2 (fun v64 S64 h_38 i_37 => ?_) (fun a0 a1 h_40 i_39 => k_T a0 a1 h_40 (fun _ _ _ => Iff.trans (dt_2 c_1 c_1) (i_39 _ _)))
    exact k_R56 _ _ _ _ _ h_38 (fun _ _ _ => Iff.trans (dt_2 c_1 c_1) (i_37 _ _))
theorem l_e_Un_readScan_56 {U : ut} {u : Nat} {x1 : Int32} {x2 : Int32} {x3 : Int32} {x4 : Int32} {S : cs} {K : cs → Prop} {T : Nat → cs → Prop} : e_Un_readScan_56 U u x1 x2 x3 x4 S K T ↔ lpE (C := (cs → Prop) × (Nat → cs → Prop)) (fun (y : (Int32) × (Int32) × (Int32) × (Int32) × (cs)) (R : ((Int32) × (Int32) × (Int32) × (Int32) × (cs)) → Prop) (c : (cs → Prop) × (Nat → cs → Prop)) => b_Un_readScan_56 U u y.1 y.2.1 y.2.2.1 y.2.2.2.1 y.2.2.2.2 (fun z0 z1 z2 z3 z4 => R (z0, z1, z2, z3, z4)) c.1 c.2) (x1, x2, x3, x4, S) (K, T) :=
  ⟨fun ⟨I, μ, h0, hs⟩ => ⟨fun t => I t.1 t.2.1 t.2.2.1 t.2.2.2.1 t.2.2.2.2, fun t => μ t.1 t.2.1 t.2.2.1 t.2.2.2.1 t.2.2.2.2, h0, fun t ht => hs _ _ _ _ _ ht⟩, fun ⟨I, μ, h0, hs⟩ => ⟨fun y0 y1 y2 y3 y4 => I (y0, y1, y2, y3, y4), fun y0 y1 y2 y3 y4 => μ (y0, y1, y2, y3, y4), h0, fun y0 y1 y2 y3 y4 hy => hs (y0, y1, y2, y3, y4) hy⟩⟩
set_option maxHeartbeats 1000000 in
theorem d_e_Un_readScan_56 {U : ut} {u : Nat} {x1 : Int32} {x2 : Int32} {x3 : Int32} {x4 : Int32} {S : cs} {K : cs → Prop} {T : Nat → cs → Prop} (h : e_Un_readScan_56 U u x1 x2 x3 x4 S K T) {Q : Prop} (k_K : ∀ (a0 : cs), K a0 → (∀ (K' : cs → Prop) (T' : Nat → cs → Prop), e_Un_readScan_56 U u x1 x2 x3 x4 S K' T' ↔ K' a0) → Q) (k_T : ∀ (a0 : Nat) (a1 : cs), T a0 a1 → (∀ (K' : cs → Prop) (T' : Nat → cs → Prop), e_Un_readScan_56 U u x1 x2 x3 x4 S K' T' ↔ T' a0 a1) → Q) : Q := by
  obtain ⟨o, ho, hoc, hi⟩ := lp_det (C := (cs → Prop) × (Nat → cs → Prop)) (b := (fun (y : (Int32) × (Int32) × (Int32) × (Int32) × (cs)) (R : ((Int32) × (Int32) × (Int32) × (Int32) × (cs)) → Prop) (c : (cs → Prop) × (Nat → cs → Prop)) => b_Un_readScan_56 U u y.1 y.2.1 y.2.2.1 y.2.2.2.1 y.2.2.2.2 (fun z0 z1 z2 z3 z4 => R (z0, z1, z2, z3, z4)) c.1 c.2)) (O := (fun (o : ((cs → Prop) × (Nat → cs → Prop)) → Prop) => (∃ (a0 : cs), o = fun c => c.1 a0) ∨ (∃ (a0 : Nat) (a1 : cs), o = fun c => c.2 a0 a1))) (fun y R c hy => d_b_Un_readScan_56 hy (fun a0 a1 a2 a3 a4 ha ia => Or.inl ⟨(a0, a1, a2, a3, a4), ha, fun R' c' => ia (fun z0 z1 z2 z3 z4 => R' (z0, z1, z2, z3, z4)) c'.1 c'.2⟩) (fun a0 ha ia => Or.inr ⟨(fun c => c.1 a0), Or.inl ⟨a0, rfl⟩, ha, fun R' c' => ia (fun z0 z1 z2 z3 z4 => R' (z0, z1, z2, z3, z4)) c'.1 c'.2⟩) (fun a0 a1 ha ia => Or.inr ⟨(fun c => c.2 a0 a1), Or.inr (⟨a0, a1, rfl⟩), ha, fun R' c' => ia (fun z0 z1 z2 z3 z4 => R' (z0, z1, z2, z3, z4)) c'.1 c'.2⟩)) (l_e_Un_readScan_56.mp h)
  rcases ho with ⟨a0, rfl⟩ | ⟨a0, a1, rfl⟩
  · exact k_K _ hoc (fun K' T' => Iff.trans l_e_Un_readScan_56 (hi (K', T')))
  · exact k_T _ _ hoc (fun K' T' => Iff.trans l_e_Un_readScan_56 (hi (K', T')))
theorem v_e_Un_readScan_56 {U : ut} {u : Nat} {x1 : Int32} {x2 : Int32} {x3 : Int32} {x4 : Int32} {S : cs} {K : cs → Prop} {T : Nat → cs → Prop} (h : e_Un_readScan_56 U u x1 x2 x3 x4 S K T) {G : Prop} (Inv : Int32 → Int32 → cs → Prop) (h0 : Inv x3 x4 S) (hs : ∀ (yx3 : Int32) (yx4 : Int32) (yS : cs) (R : Int32 → Int32 → Int32 → Int32 → cs → Prop), Inv yx3 yx4 yS → b_Un_readScan_56 U u x1 x2 yx3 yx4 yS R K T → (∃ (zx3 : Int32) (zx4 : Int32) (zS : cs), R x1 x2 zx3 zx4 zS ∧ Inv zx3 zx4 zS) ∨ G) : G := by
  obtain ⟨I, μ, i0, is⟩ := h
  have go : ∀ (n : Nat) (yx3 : Int32) (yx4 : Int32) (yS : cs), μ x1 x2 yx3 yx4 yS < n → I x1 x2 yx3 yx4 yS → Inv yx3 yx4 yS → G := by
    intro n
    induction n with
    | zero => intro yx3 yx4 yS hy; exact absurd hy (Nat.not_lt_zero _)
    | succ n ih =>
      intro yx3 yx4 yS hy hI hV
      rcases hs yx3 yx4 yS _ hV (is x1 x2 yx3 yx4 yS hI) with ⟨zx3, zx4, zS, ⟨hz, hm⟩, hv⟩ | g
      · exact ih zx3 zx4 zS (Nat.lt_of_lt_of_le hm (Nat.le_of_lt_succ hy)) hz hv
      · exact g
  exact go _ x3 x4 S (Nat.lt_succ_self _) i0 h0
theorem r_e_Un_readScan_56 {U : ut} {u : Nat} {x1 : Int32} {x2 : Int32} {x3 : Int32} {x4 : Int32} {S : cs} {K : cs → Prop} {T : Nat → cs → Prop} (h : e_Un_readScan_56 U u x1 x2 x3 x4 S K T) : b_Un_readScan_56 U u x1 x2 x3 x4 S (fun zx1 zx2 zx3 zx4 zS => e_Un_readScan_56 U u zx1 zx2 zx3 zx4 zS K T) K T := by
  obtain ⟨I, μ, i0, is⟩ := h
  exact d_b_Un_readScan_56 (is x1 x2 x3 x4 S i0) (fun a0 a1 a2 a3 a4 ha ia => (ia _ _ _).mpr ⟨I, μ, ha.1, is⟩) (fun a0 ha ia => (ia _ _ _).mpr ha) (fun a0 a1 ha ia => (ia _ _ _).mpr ha)
set_option maxHeartbeats 1000000 in
theorem d_b_Un_readScan_40 {U : ut} {u : Nat} {x1 : Int32} {x2 : Int32} {s1 : Int32} {S : cs} {K : cs → Prop} {T : Nat → cs → Prop} (h : b_Un_readScan_40 U u x1 x2 s1 S K T) {Q : Prop} (k_K : ∀ (a0 : cs), K a0 → (∀ (K' : cs → Prop) (T' : Nat → cs → Prop), b_Un_readScan_40 U u x1 x2 s1 S K' T' ↔ K' a0) → Q) (k_T : ∀ (a0 : Nat) (a1 : cs), T a0 a1 → (∀ (K' : cs → Prop) (T' : Nat → cs → Prop), b_Un_readScan_40 U u x1 x2 s1 S K' T' ↔ T' a0 a1) → Q) : Q := by
  unfold b_Un_readScan_40 at h
  refine d_p_Un_wantLength h (fun S40 h_2 i_1 => ?_) (fun a0 a1 h_4 i_3 => k_T a0 a1 h_4 (fun _ _ => i_3 _ _))
  exact d_e_Un_readScan_56 (And.right (And.right h_2)) (fun a0 h_6 i_5 => k_K a0 h_6 (fun _ _ => Iff.trans (i_1 _ _) (Iff.trans (dt_a (And.left h_2)) (Iff.trans (dt_a (And.left (And.right h_2))) (i_5 _ _))))) (fun a0 a1 h_8 i_7 => k_T a0 a1 h_8 (fun _ _ => Iff.trans (i_1 _ _) (Iff.trans (dt_a (And.left h_2)) (Iff.trans (dt_a (And.left (And.right h_2))) (i_7 _ _)))))
set_option maxHeartbeats 1000000 in
theorem d_p_Un_readScan {U : ut} {u : Nat} {S : cs} {K : cs → Prop} {T : Nat → cs → Prop} (h : p_Un_readScan U u S K T) {Q : Prop} (k_K : ∀ (a0 : cs), K a0 → (∀ (K' : cs → Prop) (T' : Nat → cs → Prop), p_Un_readScan U u S K' T' ↔ K' a0) → Q) (k_T : ∀ (a0 : Nat) (a1 : cs), T a0 a1 → (∀ (K' : cs → Prop) (T' : Nat → cs → Prop), p_Un_readScan U u S K' T' ↔ T' a0 a1) → Q) : Q := by
  unfold p_Un_readScan at h
  refine d_p_Un_readWithin (And.right (And.right (And.right (And.right h)))) (fun v17 S17 h_2 i_1 => ?_) (fun a0 a1 h_4 i_3 => k_T a0 a1 h_4 (fun _ _ => Iff.trans (dt_a (And.left h)) (Iff.trans (dt_a (And.left (And.right h))) (Iff.trans (dt_a (And.left (And.right (And.right h)))) (Iff.trans (dt_a (And.left (And.right (And.right (And.right h))))) (i_3 _ _))))))
  refine dt_n h_2 (fun c_5 h_6 => ?_) (fun c_5 h_6 => ?_)
  ·
    exact d_b_Un_readScan_40 h_6 (fun a0 h_8 i_7 => k_K a0 h_8 (fun _ _ => Iff.trans (dt_a (And.left h)) (Iff.trans (dt_a (And.left (And.right h))) (Iff.trans (dt_a (And.left (And.right (And.right h)))) (Iff.trans (dt_a (And.left (And.right (And.right (And.right h))))) (Iff.trans (i_1 _ _) (Iff.trans (dt_1 c_5 c_5) (i_7 _ _)))))))) (fun a0 a1 h_10 i_9 => k_T a0 a1 h_10 (fun _ _ => Iff.trans (dt_a (And.left h)) (Iff.trans (dt_a (And.left (And.right h))) (Iff.trans (dt_a (And.left (And.right (And.right h)))) (Iff.trans (dt_a (And.left (And.right (And.right (And.right h))))) (Iff.trans (i_1 _ _) (Iff.trans (dt_1 c_5 c_5) (i_9 _ _))))))))
  ·
    exact d_b_Un_readScan_40 h_6 (fun a0 h_12 i_11 => k_K a0 h_12 (fun _ _ => Iff.trans (dt_a (And.left h)) (Iff.trans (dt_a (And.left (And.right h))) (Iff.trans (dt_a (And.left (And.right (And.right h)))) (Iff.trans (dt_a (And.left (And.right (And.right (And.right h))))) (Iff.trans (i_1 _ _) (Iff.trans (dt_2 (fun n => n c_5) c_5) (i_11 _ _)))))))) (fun a0 a1 h_14 i_13 => k_T a0 a1 h_14 (fun _ _ => Iff.trans (dt_a (And.left h)) (Iff.trans (dt_a (And.left (And.right h))) (Iff.trans (dt_a (And.left (And.right (And.right h)))) (Iff.trans (dt_a (And.left (And.right (And.right (And.right h))))) (Iff.trans (i_1 _ _) (Iff.trans (dt_2 (fun n => n c_5) c_5) (i_13 _ _))))))))
set_option maxHeartbeats 1000000 in
theorem d_b_Un_wantMore_31 {U : ut} {u : Nat} {S : cs} {K : cs → Prop} {T : Nat → cs → Prop} (h : b_Un_wantMore_31 U u S K T) {Q : Prop} (k_K : ∀ (a0 : cs), K a0 → (∀ (K' : cs → Prop) (T' : Nat → cs → Prop), b_Un_wantMore_31 U u S K' T' ↔ K' a0) → Q) (k_T : ∀ (a0 : Nat) (a1 : cs), T a0 a1 → (∀ (K' : cs → Prop) (T' : Nat → cs → Prop), b_Un_wantMore_31 U u S K' T' ↔ T' a0 a1) → Q) : Q := by
  unfold b_Un_wantMore_31 at h
  exact k_K _ h (fun _ _ => Iff.rfl)
set_option maxHeartbeats 1000000 in
theorem d_p_Un_wantMore {U : ut} {u : Nat} {S : cs} {K : cs → Prop} {T : Nat → cs → Prop} (h : p_Un_wantMore U u S K T) {Q : Prop} (k_K : ∀ (a0 : cs), K a0 → (∀ (K' : cs → Prop) (T' : Nat → cs → Prop), p_Un_wantMore U u S K' T' ↔ K' a0) → Q) (k_T : ∀ (a0 : Nat) (a1 : cs), T a0 a1 → (∀ (K' : cs → Prop) (T' : Nat → cs → Prop), p_Un_wantMore U u S K' T' ↔ T' a0 a1) → Q) : Q := by
  unfold p_Un_wantMore at h
  refine dt_p (And.right (And.right h)) (fun c_1 h_2 => ?_) (fun c_1 h_2 => ?_)
  ·
    exact d_b_Un_wantMore_31 h_2 (fun a0 h_4 i_3 => k_K a0 h_4 (fun _ _ => Iff.trans (dt_a (And.left h)) (Iff.trans (dt_a (And.left (And.right h))) (Iff.trans (dt_1 c_1 (fun n => n c_1)) (i_3 _ _))))) (fun a0 a1 h_6 i_5 => k_T a0 a1 h_6 (fun _ _ => Iff.trans (dt_a (And.left h)) (Iff.trans (dt_a (And.left (And.right h))) (Iff.trans (dt_1 c_1 (fun n => n c_1)) (i_5 _ _)))))
  ·
    refine d_p_Re_fail (And.right h_2) (fun S28 h_8 i_7 => ?_) (fun a0 a1 h_10 i_9 => k_T a0 a1 h_10 (fun _ _ => Iff.trans (dt_a (And.left h)) (Iff.trans (dt_a (And.left (And.right h))) (Iff.trans (dt_2 c_1 c_1) (Iff.trans (dt_a (And.left h_2)) (i_9 _ _))))))
    exact d_b_Un_wantMore_31 h_8 (fun a0 h_12 i_11 => k_K a0 h_12 (fun _ _ => Iff.trans (dt_a (And.left h)) (Iff.trans (dt_a (And.left (And.right h))) (Iff.trans (dt_2 c_1 c_1) (Iff.trans (dt_a (And.left h_2)) (Iff.trans (i_7 _ _) (i_11 _ _))))))) (fun a0 a1 h_14 i_13 => k_T a0 a1 h_14 (fun _ _ => Iff.trans (dt_a (And.left h)) (Iff.trans (dt_a (And.left (And.right h))) (Iff.trans (dt_2 c_1 c_1) (Iff.trans (dt_a (And.left h_2)) (Iff.trans (i_7 _ _) (i_13 _ _)))))))
set_option maxHeartbeats 1000000 in
theorem d_b_Un_readTable_9 {U : ut} {u : Nat} {x1 : Int32} {x2 : Int32} {S : cs} {R9 : Int32 → Int32 → cs → Prop} {K : cs → Prop} {T : Nat → cs → Prop} (h : b_Un_readTable_9 U u x1 x2 S R9 K T) {Q : Prop} (k_R9 : ∀ (a0 : Int32) (a1 : Int32) (a2 : cs), R9 a0 a1 a2 → (∀ (R9' : Int32 → Int32 → cs → Prop) (K' : cs → Prop) (T' : Nat → cs → Prop), b_Un_readTable_9 U u x1 x2 S R9' K' T' ↔ R9' a0 a1 a2) → Q) (k_K : ∀ (a0 : cs), K a0 → (∀ (R9' : Int32 → Int32 → cs → Prop) (K' : cs → Prop) (T' : Nat → cs → Prop), b_Un_readTable_9 U u x1 x2 S R9' K' T' ↔ K' a0) → Q) (k_T : ∀ (a0 : Nat) (a1 : cs), T a0 a1 → (∀ (R9' : Int32 → Int32 → cs → Prop) (K' : cs → Prop) (T' : Nat → cs → Prop), b_Un_readTable_9 U u x1 x2 S R9' K' T' ↔ T' a0 a1) → Q) : Q := by
  unfold b_Un_readTable_9 at h
  refine dt_p h (fun c_1 h_2 => ?_) (fun c_1 h_2 => ?_)
  ·
    exact k_K _ (And.right (And.right (And.right h_2))) (fun _ _ _ => Iff.trans (dt_1 c_1 (fun n => n c_1)) (Iff.trans (dt_a (And.left h_2)) (Iff.trans (dt_a (And.left (And.right h_2))) (dt_a (And.left (And.right (And.right h_2)))))))
  ·
    refine d_p_Un_wantMore h_2 (fun S16 h_4 i_3 => ?_) (fun a0 a1 h_6 i_5 => k_T a0 a1 h_6 (fun _ _ _ => Iff.trans (dt_2 c_1 c_1) (i_5 _ _)))
    refine d_p_Un_readWithin (And.right h_4) (fun v34 S34 h_8 i_7 => ?_) (fun a0 a1 h_10 i_9 => k_T a0 a1 h_10 (fun _ _ _ => Iff.trans (dt_2 c_1 c_1) (Iff.trans (i_3 _ _) (Iff.trans (dt_a (And.left h_4)) (i_9 _ _)))))
    exact k_R9 _ _ _ (And.right (And.right h_8)) (fun _ _ _ => Iff.trans (dt_2 c_1 c_1) (Iff.trans (i_3 _ _) (Iff.trans (dt_a (And.left h_4)) (Iff.trans (i_7 _ _) (Iff.trans (dt_a (And.left h_8)) (dt_a (And.left (And.right h_8))))))))
theorem l_e_Un_readTable_9 {U : ut} {u : Nat} {x1 : Int32} {x2 : Int32} {S : cs} {K : cs → Prop} {T : Nat → cs → Prop} : e_Un_readTable_9 U u x1 x2 S K T ↔ lpE (C := (cs → Prop) × (Nat → cs → Prop)) (fun (y : (Int32) × (Int32) × (cs)) (R : ((Int32) × (Int32) × (cs)) → Prop) (c : (cs → Prop) × (Nat → cs → Prop)) => b_Un_readTable_9 U u y.1 y.2.1 y.2.2 (fun z0 z1 z2 => R (z0, z1, z2)) c.1 c.2) (x1, x2, S) (K, T) :=
  ⟨fun ⟨I, μ, h0, hs⟩ => ⟨fun t => I t.1 t.2.1 t.2.2, fun t => μ t.1 t.2.1 t.2.2, h0, fun t ht => hs _ _ _ ht⟩, fun ⟨I, μ, h0, hs⟩ => ⟨fun y0 y1 y2 => I (y0, y1, y2), fun y0 y1 y2 => μ (y0, y1, y2), h0, fun y0 y1 y2 hy => hs (y0, y1, y2) hy⟩⟩
set_option maxHeartbeats 1000000 in
theorem d_e_Un_readTable_9 {U : ut} {u : Nat} {x1 : Int32} {x2 : Int32} {S : cs} {K : cs → Prop} {T : Nat → cs → Prop} (h : e_Un_readTable_9 U u x1 x2 S K T) {Q : Prop} (k_K : ∀ (a0 : cs), K a0 → (∀ (K' : cs → Prop) (T' : Nat → cs → Prop), e_Un_readTable_9 U u x1 x2 S K' T' ↔ K' a0) → Q) (k_T : ∀ (a0 : Nat) (a1 : cs), T a0 a1 → (∀ (K' : cs → Prop) (T' : Nat → cs → Prop), e_Un_readTable_9 U u x1 x2 S K' T' ↔ T' a0 a1) → Q) : Q := by
  obtain ⟨o, ho, hoc, hi⟩ := lp_det (C := (cs → Prop) × (Nat → cs → Prop)) (b := (fun (y : (Int32) × (Int32) × (cs)) (R : ((Int32) × (Int32) × (cs)) → Prop) (c : (cs → Prop) × (Nat → cs → Prop)) => b_Un_readTable_9 U u y.1 y.2.1 y.2.2 (fun z0 z1 z2 => R (z0, z1, z2)) c.1 c.2)) (O := (fun (o : ((cs → Prop) × (Nat → cs → Prop)) → Prop) => (∃ (a0 : cs), o = fun c => c.1 a0) ∨ (∃ (a0 : Nat) (a1 : cs), o = fun c => c.2 a0 a1))) (fun y R c hy => d_b_Un_readTable_9 hy (fun a0 a1 a2 ha ia => Or.inl ⟨(a0, a1, a2), ha, fun R' c' => ia (fun z0 z1 z2 => R' (z0, z1, z2)) c'.1 c'.2⟩) (fun a0 ha ia => Or.inr ⟨(fun c => c.1 a0), Or.inl ⟨a0, rfl⟩, ha, fun R' c' => ia (fun z0 z1 z2 => R' (z0, z1, z2)) c'.1 c'.2⟩) (fun a0 a1 ha ia => Or.inr ⟨(fun c => c.2 a0 a1), Or.inr (⟨a0, a1, rfl⟩), ha, fun R' c' => ia (fun z0 z1 z2 => R' (z0, z1, z2)) c'.1 c'.2⟩)) (l_e_Un_readTable_9.mp h)
  rcases ho with ⟨a0, rfl⟩ | ⟨a0, a1, rfl⟩
  · exact k_K _ hoc (fun K' T' => Iff.trans l_e_Un_readTable_9 (hi (K', T')))
  · exact k_T _ _ hoc (fun K' T' => Iff.trans l_e_Un_readTable_9 (hi (K', T')))
theorem v_e_Un_readTable_9 {U : ut} {u : Nat} {x1 : Int32} {x2 : Int32} {S : cs} {K : cs → Prop} {T : Nat → cs → Prop} (h : e_Un_readTable_9 U u x1 x2 S K T) {G : Prop} (Inv : Int32 → cs → Prop) (h0 : Inv x2 S) (hs : ∀ (yx2 : Int32) (yS : cs) (R : Int32 → Int32 → cs → Prop), Inv yx2 yS → b_Un_readTable_9 U u x1 yx2 yS R K T → (∃ (zx2 : Int32) (zS : cs), R x1 zx2 zS ∧ Inv zx2 zS) ∨ G) : G := by
  obtain ⟨I, μ, i0, is⟩ := h
  have go : ∀ (n : Nat) (yx2 : Int32) (yS : cs), μ x1 yx2 yS < n → I x1 yx2 yS → Inv yx2 yS → G := by
    intro n
    induction n with
    | zero => intro yx2 yS hy; exact absurd hy (Nat.not_lt_zero _)
    | succ n ih =>
      intro yx2 yS hy hI hV
      rcases hs yx2 yS _ hV (is x1 yx2 yS hI) with ⟨zx2, zS, ⟨hz, hm⟩, hv⟩ | g
      · exact ih zx2 zS (Nat.lt_of_lt_of_le hm (Nat.le_of_lt_succ hy)) hz hv
      · exact g
  exact go _ x2 S (Nat.lt_succ_self _) i0 h0
theorem r_e_Un_readTable_9 {U : ut} {u : Nat} {x1 : Int32} {x2 : Int32} {S : cs} {K : cs → Prop} {T : Nat → cs → Prop} (h : e_Un_readTable_9 U u x1 x2 S K T) : b_Un_readTable_9 U u x1 x2 S (fun zx1 zx2 zS => e_Un_readTable_9 U u zx1 zx2 zS K T) K T := by
  obtain ⟨I, μ, i0, is⟩ := h
  exact d_b_Un_readTable_9 (is x1 x2 S i0) (fun a0 a1 a2 ha ia => (ia _ _ _).mpr ⟨I, μ, ha.1, is⟩) (fun a0 ha ia => (ia _ _ _).mpr ha) (fun a0 a1 ha ia => (ia _ _ _).mpr ha)
set_option maxHeartbeats 1000000 in
theorem d_p_Un_readTable {U : ut} {u : Nat} {S : cs} {K : cs → Prop} {T : Nat → cs → Prop} (h : p_Un_readTable U u S K T) {Q : Prop} (k_K : ∀ (a0 : cs), K a0 → (∀ (K' : cs → Prop) (T' : Nat → cs → Prop), p_Un_readTable U u S K' T' ↔ K' a0) → Q) (k_T : ∀ (a0 : Nat) (a1 : cs), T a0 a1 → (∀ (K' : cs → Prop) (T' : Nat → cs → Prop), p_Un_readTable U u S K' T' ↔ T' a0 a1) → Q) : Q := by
  unfold p_Un_readTable at h
  refine d_p_Un_readWithin h (fun v3 S3 h_2 i_1 => ?_) (fun a0 a1 h_4 i_3 => k_T a0 a1 h_4 (fun _ _ => i_3 _ _))
  exact d_e_Un_readTable_9 h_2 (fun a0 h_6 i_5 => k_K a0 h_6 (fun _ _ => Iff.trans (i_1 _ _) (i_5 _ _))) (fun a0 a1 h_8 i_7 => k_T a0 a1 h_8 (fun _ _ => Iff.trans (i_1 _ _) (i_7 _ _)))
set_option maxHeartbeats 1000000 in
theorem d_b_Co_giveOut_97 {U : ut} {u : Nat} {x2 : Int32} {S : cs} {K : Int32 → cs → Prop} (h : b_Co_giveOut_97 U u x2 S K) {Q : Prop} (k_K : ∀ (a0 : Int32) (a1 : cs), K a0 a1 → (∀ (K' : Int32 → cs → Prop), b_Co_giveOut_97 U u x2 S K' ↔ K' a0 a1) → Q) : Q := by
  unfold b_Co_giveOut_97 at h
  exact k_K _ _ (And.right h) (fun _ => dt_a (And.left h))
set_option maxHeartbeats 1000000 in
theorem d_b_Co_giveOut_86 {U : ut} {u : Nat} {x1 : Int32} {x3 : Int32} {s0 : Int32} {S : cs} {R11 : Int32 → Int32 → Int32 → cs → Prop} {K : Int32 → cs → Prop} (h : b_Co_giveOut_86 U u x1 x3 s0 S R11 K) {Q : Prop} (k_R11 : ∀ (a0 : Int32) (a1 : Int32) (a2 : Int32) (a3 : cs), R11 a0 a1 a2 a3 → (∀ (R11' : Int32 → Int32 → Int32 → cs → Prop) (K' : Int32 → cs → Prop), b_Co_giveOut_86 U u x1 x3 s0 S R11' K' ↔ R11' a0 a1 a2 a3) → Q) (k_K : ∀ (a0 : Int32) (a1 : cs), K a0 a1 → (∀ (R11' : Int32 → Int32 → Int32 → cs → Prop) (K' : Int32 → cs → Prop), b_Co_giveOut_86 U u x1 x3 s0 S R11' K' ↔ K' a0 a1) → Q) : Q := by
  unfold b_Co_giveOut_86 at h
  exact k_R11 _ _ _ _ h (fun _ _ => Iff.rfl)
set_option maxHeartbeats 1000000 in
theorem d_b_Co_giveOut_85 {U : ut} {u : Nat} {x1 : Int32} {x3 : Int32} {S : cs} {R11 : Int32 → Int32 → Int32 → cs → Prop} {K : Int32 → cs → Prop} (h : b_Co_giveOut_85 U u x1 x3 S R11 K) {Q : Prop} (k_R11 : ∀ (a0 : Int32) (a1 : Int32) (a2 : Int32) (a3 : cs), R11 a0 a1 a2 a3 → (∀ (R11' : Int32 → Int32 → Int32 → cs → Prop) (K' : Int32 → cs → Prop), b_Co_giveOut_85 U u x1 x3 S R11' K' ↔ R11' a0 a1 a2 a3) → Q) (k_K : ∀ (a0 : Int32) (a1 : cs), K a0 a1 → (∀ (R11' : Int32 → Int32 → Int32 → cs → Prop) (K' : Int32 → cs → Prop), b_Co_giveOut_85 U u x1 x3 S R11' K' ↔ K' a0 a1) → Q) : Q := by
  unfold b_Co_giveOut_85 at h
  exact d_b_Co_giveOut_86 h (fun a0 a1 a2 a3 h_2 i_1 => k_R11 a0 a1 a2 a3 h_2 (fun _ _ => i_1 _ _)) (fun a0 a1 h_4 i_3 => k_K a0 a1 h_4 (fun _ _ => i_3 _ _))
set_option maxHeartbeats 1000000 in
theorem d_b_Co_giveOut_11 {U : ut} {u : Nat} {x1 : Int32} {x2 : Int32} {x3 : Int32} {S : cs} {R11 : Int32 → Int32 → Int32 → cs → Prop} {K : Int32 → cs → Prop} (h : b_Co_giveOut_11 U u x1 x2 x3 S R11 K) {Q : Prop} (k_R11 : ∀ (a0 : Int32) (a1 : Int32) (a2 : Int32) (a3 : cs), R11 a0 a1 a2 a3 → (∀ (R11' : Int32 → Int32 → Int32 → cs → Prop) (K' : Int32 → cs → Prop), b_Co_giveOut_11 U u x1 x2 x3 S R11' K' ↔ R11' a0 a1 a2 a3) → Q) (k_K : ∀ (a0 : Int32) (a1 : cs), K a0 a1 → (∀ (R11' : Int32 → Int32 → Int32 → cs → Prop) (K' : Int32 → cs → Prop), b_Co_giveOut_11 U u x1 x2 x3 S R11' K' ↔ K' a0 a1) → Q) : Q := by
  unfold b_Co_giveOut_11 at h
  refine dt_p h (fun c_1 h_2 => ?_) (fun c_1 h_2 => ?_)
  ·
    exact d_b_Co_giveOut_97 h_2 (fun a0 a1 h_4 i_3 => k_K a0 a1 h_4 (fun _ _ => Iff.trans (dt_1 c_1 (fun n => n c_1)) (i_3 _)))
  ·
    refine dt_p h_2 (fun c_5 h_6 => ?_) (fun c_5 h_6 => ?_)
    ·
      exact d_b_Co_giveOut_97 h_6 (fun a0 a1 h_8 i_7 => k_K a0 a1 h_8 (fun _ _ => Iff.trans (dt_2 c_1 c_1) (Iff.trans (dt_1 c_5 (fun n => n c_5)) (i_7 _))))
    ·
      refine dt_p (And.right (And.right (And.right (And.right (And.right (And.right (And.right (And.right (And.right (And.right (And.right (And.right (And.right h_6))))))))))))) (fun c_9 h_10 => ?_) (fun c_9 h_10 => ?_)
      ·
        exact d_b_Co_giveOut_85 h_10 (fun a0 a1 a2 a3 h_12 i_11 => k_R11 a0 a1 a2 a3 h_12 (fun _ _ => Iff.trans (dt_2 c_1 c_1) (Iff.trans (dt_2 c_5 c_5) (Iff.trans (dt_a (And.left h_6)) (Iff.trans (dt_a (And.left (And.right h_6))) (Iff.trans (dt_a (And.left (And.right (And.right h_6)))) (Iff.trans (dt_a (And.left (And.right (And.right (And.right h_6))))) (Iff.trans (dt_a (And.left (And.right (And.right (And.right (And.right h_6)))))) (Iff.trans (dt_a (And.left (And.right (And.right (And.right (And.right (And.right h_6))))))) (Iff.trans (dt_a (And.left (And.right (And.right (And.right (And.right (And.right (And.right h_6)))))))) (Iff.trans (dt_a (And.left (And.right (And.right (And.right (And.right (And.right (And.right (And.right h_6))))))))) (Iff.trans (dt_a (And.left (And.right (And.right (And.right (And.right (And.right (And.right (And.right (And.right h_6)))))))))) (Iff.trans (dt_a (And.left (And.right (And.right (And.right (And.right (And.right (And.right (And.right (And.right (And.right h_6))))))))))) (Iff.trans (dt_a (And.left (And.right (And.right (And.right (And.right (And.right (And.right (And.right (And.right (And.right (And.right h_6)))))))))))) (Iff.trans (dt_a (And.left (And.right (And.right (And.right (And.right (And.right (And.right (And.right (And.right (And.right (And.right (And.right h_6))))))))))))) (Iff.trans (dt_a (And.left (And.right (And.right (And.right (And.right (And.right (And.right (And.right (And.right (And.right (And.right (And.right (And.right h_6)))))))))))))) (Iff.trans (dt_1 c_9 (fun n => n c_9)) (i_11 _ _)))))))))))))))))) (fun a0 a1 h_14 i_13 => k_K a0 a1 h_14 (fun _ _ => Iff.trans (dt_2 c_1 c_1) (Iff.trans (dt_2 c_5 c_5) (Iff.trans (dt_a (And.left h_6)) (Iff.trans (dt_a (And.left (And.right h_6))) (Iff.trans (dt_a (And.left (And.right (And.right h_6)))) (Iff.trans (dt_a (And.left (And.right (And.right (And.right h_6))))) (Iff.trans (dt_a (And.left (And.right (And.right (And.right (And.right h_6)))))) (Iff.trans (dt_a (And.left (And.right (And.right (And.right (And.right (And.right h_6))))))) (Iff.trans (dt_a (And.left (And.right (And.right (And.right (And.right (And.right (And.right h_6)))))))) (Iff.trans (dt_a (And.left (And.right (And.right (And.right (And.right (And.right (And.right (And.right h_6))))))))) (Iff.trans (dt_a (And.left (And.right (And.right (And.right (And.right (And.right (And.right (And.right (And.right h_6)))))))))) (Iff.trans (dt_a (And.left (And.right (And.right (And.right (And.right (And.right (And.right (And.right (And.right (And.right h_6))))))))))) (Iff.trans (dt_a (And.left (And.right (And.right (And.right (And.right (And.right (And.right (And.right (And.right (And.right (And.right h_6)))))))))))) (Iff.trans (dt_a (And.left (And.right (And.right (And.right (And.right (And.right (And.right (And.right (And.right (And.right (And.right (And.right h_6))))))))))))) (Iff.trans (dt_a (And.left (And.right (And.right (And.right (And.right (And.right (And.right (And.right (And.right (And.right (And.right (And.right (And.right h_6)))))))))))))) (Iff.trans (dt_1 c_9 (fun n => n c_9)) (i_13 _ _))))))))))))))))))
      ·
        refine dt_p h_10 (fun c_15 h_16 => ?_) (fun c_15 h_16 => ?_)
        ·
          exact d_b_Co_giveOut_85 h_16 (fun a0 a1 a2 a3 h_18 i_17 => k_R11 a0 a1 a2 a3 h_18 (fun _ _ => Iff.trans (dt_2 c_1 c_1) (Iff.trans (dt_2 c_5 c_5) (Iff.trans (dt_a (And.left h_6)) (Iff.trans (dt_a (And.left (And.right h_6))) (Iff.trans (dt_a (And.left (And.right (And.right h_6)))) (Iff.trans (dt_a (And.left (And.right (And.right (And.right h_6))))) (Iff.trans (dt_a (And.left (And.right (And.right (And.right (And.right h_6)))))) (Iff.trans (dt_a (And.left (And.right (And.right (And.right (And.right (And.right h_6))))))) (Iff.trans (dt_a (And.left (And.right (And.right (And.right (And.right (And.right (And.right h_6)))))))) (Iff.trans (dt_a (And.left (And.right (And.right (And.right (And.right (And.right (And.right (And.right h_6))))))))) (Iff.trans (dt_a (And.left (And.right (And.right (And.right (And.right (And.right (And.right (And.right (And.right h_6)))))))))) (Iff.trans (dt_a (And.left (And.right (And.right (And.right (And.right (And.right (And.right (And.right (And.right (And.right h_6))))))))))) (Iff.trans (dt_a (And.left (And.right (And.right (And.right (And.right (And.right (And.right (And.right (And.right (And.right (And.right h_6)))))))))))) (Iff.trans (dt_a (And.left (And.right (And.right (And.right (And.right (And.right (And.right (And.right (And.right (And.right (And.right (And.right h_6))))))))))))) (Iff.trans (dt_a (And.left (And.right (And.right (And.right (And.right (And.right (And.right (And.right (And.right (And.right (And.right (And.right (And.right h_6)))))))))))))) (Iff.trans (dt_2 c_9 c_9) (Iff.trans (dt_1 c_15 (fun n => n c_15)) (i_17 _ _))))))))))))))))))) (fun a0 a1 h_20 i_19 => k_K a0 a1 h_20 (fun _ _ => Iff.trans (dt_2 c_1 c_1) (Iff.trans (dt_2 c_5 c_5) (Iff.trans (dt_a (And.left h_6)) (Iff.trans (dt_a (And.left (And.right h_6))) (Iff.trans (dt_a (And.left (And.right (And.right h_6)))) (Iff.trans (dt_a (And.left (And.right (And.right (And.right h_6))))) (Iff.trans (dt_a (And.left (And.right (And.right (And.right (And.right h_6)))))) (Iff.trans (dt_a (And.left (And.right (And.right (And.right (And.right (And.right h_6))))))) (Iff.trans (dt_a (And.left (And.right (And.right (And.right (And.right (And.right (And.right h_6)))))))) (Iff.trans (dt_a (And.left (And.right (And.right (And.right (And.right (And.right (And.right (And.right h_6))))))))) (Iff.trans (dt_a (And.left (And.right (And.right (And.right (And.right (And.right (And.right (And.right (And.right h_6)))))))))) (Iff.trans (dt_a (And.left (And.right (And.right (And.right (And.right (And.right (And.right (And.right (And.right (And.right h_6))))))))))) (Iff.trans (dt_a (And.left (And.right (And.right (And.right (And.right (And.right (And.right (And.right (And.right (And.right (And.right h_6)))))))))))) (Iff.trans (dt_a (And.left (And.right (And.right (And.right (And.right (And.right (And.right (And.right (And.right (And.right (And.right (And.right h_6))))))))))))) (Iff.trans (dt_a (And.left (And.right (And.right (And.right (And.right (And.right (And.right (And.right (And.right (And.right (And.right (And.right (And.right h_6)))))))))))))) (Iff.trans (dt_2 c_9 c_9) (Iff.trans (dt_1 c_15 (fun n => n c_15)) (i_19 _ _)))))))))))))))))))
        ·
          exact d_b_Co_giveOut_86 h_16 (fun a0 a1 a2 a3 h_22 i_21 => k_R11 a0 a1 a2 a3 h_22 (fun _ _ => Iff.trans (dt_2 c_1 c_1) (Iff.trans (dt_2 c_5 c_5) (Iff.trans (dt_a (And.left h_6)) (Iff.trans (dt_a (And.left (And.right h_6))) (Iff.trans (dt_a (And.left (And.right (And.right h_6)))) (Iff.trans (dt_a (And.left (And.right (And.right (And.right h_6))))) (Iff.trans (dt_a (And.left (And.right (And.right (And.right (And.right h_6)))))) (Iff.trans (dt_a (And.left (And.right (And.right (And.right (And.right (And.right h_6))))))) (Iff.trans (dt_a (And.left (And.right (And.right (And.right (And.right (And.right (And.right h_6)))))))) (Iff.trans (dt_a (And.left (And.right (And.right (And.right (And.right (And.right (And.right (And.right h_6))))))))) (Iff.trans (dt_a (And.left (And.right (And.right (And.right (And.right (And.right (And.right (And.right (And.right h_6)))))))))) (Iff.trans (dt_a (And.left (And.right (And.right (And.right (And.right (And.right (And.right (And.right (And.right (And.right h_6))))))))))) (Iff.trans (dt_a (And.left (And.right (And.right (And.right (And.right (And.right (And.right (And.right (And.right (And.right (And.right h_6)))))))))))) (Iff.trans (dt_a (And.left (And.right (And.right (And.right (And.right (And.right (And.right (And.right (And.right (And.right (And.right (And.right h_6))))))))))))) (Iff.trans (dt_a (And.left (And.right (And.right (And.right (And.right (And.right (And.right (And.right (And.right (And.right (And.right (And.right (And.right h_6)))))))))))))) (Iff.trans (dt_2 c_9 c_9) (Iff.trans (dt_2 c_15 c_15) (i_21 _ _))))))))))))))))))) (fun a0 a1 h_24 i_23 => k_K a0 a1 h_24 (fun _ _ => Iff.trans (dt_2 c_1 c_1) (Iff.trans (dt_2 c_5 c_5) (Iff.trans (dt_a (And.left h_6)) (Iff.trans (dt_a (And.left (And.right h_6))) (Iff.trans (dt_a (And.left (And.right (And.right h_6)))) (Iff.trans (dt_a (And.left (And.right (And.right (And.right h_6))))) (Iff.trans (dt_a (And.left (And.right (And.right (And.right (And.right h_6)))))) (Iff.trans (dt_a (And.left (And.right (And.right (And.right (And.right (And.right h_6))))))) (Iff.trans (dt_a (And.left (And.right (And.right (And.right (And.right (And.right (And.right h_6)))))))) (Iff.trans (dt_a (And.left (And.right (And.right (And.right (And.right (And.right (And.right (And.right h_6))))))))) (Iff.trans (dt_a (And.left (And.right (And.right (And.right (And.right (And.right (And.right (And.right (And.right h_6)))))))))) (Iff.trans (dt_a (And.left (And.right (And.right (And.right (And.right (And.right (And.right (And.right (And.right (And.right h_6))))))))))) (Iff.trans (dt_a (And.left (And.right (And.right (And.right (And.right (And.right (And.right (And.right (And.right (And.right (And.right h_6)))))))))))) (Iff.trans (dt_a (And.left (And.right (And.right (And.right (And.right (And.right (And.right (And.right (And.right (And.right (And.right (And.right h_6))))))))))))) (Iff.trans (dt_a (And.left (And.right (And.right (And.right (And.right (And.right (And.right (And.right (And.right (And.right (And.right (And.right (And.right h_6)))))))))))))) (Iff.trans (dt_2 c_9 c_9) (Iff.trans (dt_2 c_15 c_15) (i_23 _ _)))))))))))))))))))
theorem l_e_Co_giveOut_11 {U : ut} {u : Nat} {x1 : Int32} {x2 : Int32} {x3 : Int32} {S : cs} {K : Int32 → cs → Prop} : e_Co_giveOut_11 U u x1 x2 x3 S K ↔ lpE (C := (Int32 → cs → Prop)) (fun (y : (Int32) × (Int32) × (Int32) × (cs)) (R : ((Int32) × (Int32) × (Int32) × (cs)) → Prop) (c : (Int32 → cs → Prop)) => b_Co_giveOut_11 U u y.1 y.2.1 y.2.2.1 y.2.2.2 (fun z0 z1 z2 z3 => R (z0, z1, z2, z3)) c) (x1, x2, x3, S) K :=
  ⟨fun ⟨I, μ, h0, hs⟩ => ⟨fun t => I t.1 t.2.1 t.2.2.1 t.2.2.2, fun t => μ t.1 t.2.1 t.2.2.1 t.2.2.2, h0, fun t ht => hs _ _ _ _ ht⟩, fun ⟨I, μ, h0, hs⟩ => ⟨fun y0 y1 y2 y3 => I (y0, y1, y2, y3), fun y0 y1 y2 y3 => μ (y0, y1, y2, y3), h0, fun y0 y1 y2 y3 hy => hs (y0, y1, y2, y3) hy⟩⟩
set_option maxHeartbeats 1000000 in
theorem d_e_Co_giveOut_11 {U : ut} {u : Nat} {x1 : Int32} {x2 : Int32} {x3 : Int32} {S : cs} {K : Int32 → cs → Prop} (h : e_Co_giveOut_11 U u x1 x2 x3 S K) {Q : Prop} (k_K : ∀ (a0 : Int32) (a1 : cs), K a0 a1 → (∀ (K' : Int32 → cs → Prop), e_Co_giveOut_11 U u x1 x2 x3 S K' ↔ K' a0 a1) → Q) : Q := by
  obtain ⟨o, ho, hoc, hi⟩ := lp_det (C := (Int32 → cs → Prop)) (b := (fun (y : (Int32) × (Int32) × (Int32) × (cs)) (R : ((Int32) × (Int32) × (Int32) × (cs)) → Prop) (c : (Int32 → cs → Prop)) => b_Co_giveOut_11 U u y.1 y.2.1 y.2.2.1 y.2.2.2 (fun z0 z1 z2 z3 => R (z0, z1, z2, z3)) c)) (O := (fun (o : ((Int32 → cs → Prop)) → Prop) => (∃ (a0 : Int32) (a1 : cs), o = fun c => c a0 a1))) (fun y R c hy => d_b_Co_giveOut_11 hy (fun a0 a1 a2 a3 ha ia => Or.inl ⟨(a0, a1, a2, a3), ha, fun R' c' => ia (fun z0 z1 z2 z3 => R' (z0, z1, z2, z3)) c'⟩) (fun a0 a1 ha ia => Or.inr ⟨(fun c => c a0 a1), ⟨a0, a1, rfl⟩, ha, fun R' c' => ia (fun z0 z1 z2 z3 => R' (z0, z1, z2, z3)) c'⟩)) (l_e_Co_giveOut_11.mp h)
  rcases ho with ⟨a0, a1, rfl⟩
  · exact k_K _ _ hoc (fun K' => Iff.trans l_e_Co_giveOut_11 (hi K'))
theorem v_e_Co_giveOut_11 {U : ut} {u : Nat} {x1 : Int32} {x2 : Int32} {x3 : Int32} {S : cs} {K : Int32 → cs → Prop} (h : e_Co_giveOut_11 U u x1 x2 x3 S K) {G : Prop} (Inv : Int32 → Int32 → Int32 → cs → Prop) (h0 : Inv x1 x2 x3 S) (hs : ∀ (yx1 : Int32) (yx2 : Int32) (yx3 : Int32) (yS : cs) (R : Int32 → Int32 → Int32 → cs → Prop), Inv yx1 yx2 yx3 yS → b_Co_giveOut_11 U u yx1 yx2 yx3 yS R K → (∃ (zx1 : Int32) (zx2 : Int32) (zx3 : Int32) (zS : cs), R zx1 zx2 zx3 zS ∧ Inv zx1 zx2 zx3 zS) ∨ G) : G := by
  obtain ⟨I, μ, i0, is⟩ := h
  have go : ∀ (n : Nat) (yx1 : Int32) (yx2 : Int32) (yx3 : Int32) (yS : cs), μ yx1 yx2 yx3 yS < n → I yx1 yx2 yx3 yS → Inv yx1 yx2 yx3 yS → G := by
    intro n
    induction n with
    | zero => intro yx1 yx2 yx3 yS hy; exact absurd hy (Nat.not_lt_zero _)
    | succ n ih =>
      intro yx1 yx2 yx3 yS hy hI hV
      rcases hs yx1 yx2 yx3 yS _ hV (is yx1 yx2 yx3 yS hI) with ⟨zx1, zx2, zx3, zS, ⟨hz, hm⟩, hv⟩ | g
      · exact ih zx1 zx2 zx3 zS (Nat.lt_of_lt_of_le hm (Nat.le_of_lt_succ hy)) hz hv
      · exact g
  exact go _ x1 x2 x3 S (Nat.lt_succ_self _) i0 h0
theorem r_e_Co_giveOut_11 {U : ut} {u : Nat} {x1 : Int32} {x2 : Int32} {x3 : Int32} {S : cs} {K : Int32 → cs → Prop} (h : e_Co_giveOut_11 U u x1 x2 x3 S K) : b_Co_giveOut_11 U u x1 x2 x3 S (fun zx1 zx2 zx3 zS => e_Co_giveOut_11 U u zx1 zx2 zx3 zS K) K := by
  obtain ⟨I, μ, i0, is⟩ := h
  exact d_b_Co_giveOut_11 (is x1 x2 x3 S i0) (fun a0 a1 a2 a3 ha ia => (ia _ _).mpr ⟨I, μ, ha.1, is⟩) (fun a0 a1 ha ia => (ia _ _).mpr ha)
set_option maxHeartbeats 1000000 in
theorem d_p_Co_giveOut {U : ut} {u : Nat} {S : cs} {K : Int32 → cs → Prop} (h : p_Co_giveOut U u S K) {Q : Prop} (k_K : ∀ (a0 : Int32) (a1 : cs), K a0 a1 → (∀ (K' : Int32 → cs → Prop), p_Co_giveOut U u S K' ↔ K' a0 a1) → Q) : Q := by
  unfold p_Co_giveOut at h
  exact d_e_Co_giveOut_11 h (fun a0 a1 h_2 i_1 => k_K a0 a1 h_2 (fun _ => i_1 _))
set_option maxHeartbeats 1000000 in
theorem d_b_Un_isForRests_29 {s0 : Int32} {K : Int32 → Prop} (h : b_Un_isForRests_29 s0 K) {Q : Prop} (k_K : ∀ (a0 : Int32), K a0 → (∀ (K' : Int32 → Prop), b_Un_isForRests_29 s0 K' ↔ K' a0) → Q) : Q := by
  unfold b_Un_isForRests_29 at h
  exact k_K _ (And.right h) (fun _ => dt_a (And.left h))
set_option maxHeartbeats 1000000 in
theorem d_b_Un_isForRests_24  {K : Int32 → Prop} (h : b_Un_isForRests_24 K) {Q : Prop} (k_K : ∀ (a0 : Int32), K a0 → (∀ (K' : Int32 → Prop), b_Un_isForRests_24 K' ↔ K' a0) → Q) : Q := by
  unfold b_Un_isForRests_24 at h
  exact d_b_Un_isForRests_29 h (fun a0 h_2 i_1 => k_K a0 h_2 (fun _ => i_1 _))
set_option maxHeartbeats 1000000 in
theorem d_p_Un_isForRests {x0 : Int32} {K : Int32 → Prop} (h : p_Un_isForRests x0 K) {Q : Prop} (k_K : ∀ (a0 : Int32), K a0 → (∀ (K' : Int32 → Prop), p_Un_isForRests x0 K' ↔ K' a0) → Q) : Q := by
  unfold p_Un_isForRests at h
  refine dt_p h (fun c_1 h_2 => ?_) (fun c_1 h_2 => ?_)
  ·
    exact d_b_Un_isForRests_24 h_2 (fun a0 h_4 i_3 => k_K a0 h_4 (fun _ => Iff.trans (dt_1 c_1 (fun n => n c_1)) (i_3 _)))
  ·
    refine dt_p h_2 (fun c_5 h_6 => ?_) (fun c_5 h_6 => ?_)
    ·
      exact d_b_Un_isForRests_24 h_6 (fun a0 h_8 i_7 => k_K a0 h_8 (fun _ => Iff.trans (dt_2 c_1 c_1) (Iff.trans (dt_1 c_5 (fun n => n c_5)) (i_7 _))))
    ·
      refine d_p_B_isWithin h_6 (fun v18 h_10 i_9 => ?_)
      refine dt_p h_10 (fun c_11 h_12 => ?_) (fun c_11 h_12 => ?_)
      ·
        exact d_b_Un_isForRests_29 h_12 (fun a0 h_14 i_13 => k_K a0 h_14 (fun _ => Iff.trans (dt_2 c_1 c_1) (Iff.trans (dt_2 c_5 c_5) (Iff.trans (i_9 _) (Iff.trans (dt_1 c_11 (fun n => n c_11)) (i_13 _))))))
      ·
        exact d_b_Un_isForRests_24 h_12 (fun a0 h_16 i_15 => k_K a0 h_16 (fun _ => Iff.trans (dt_2 c_1 c_1) (Iff.trans (dt_2 c_5 c_5) (Iff.trans (i_9 _) (Iff.trans (dt_2 c_11 c_11) (i_15 _))))))
set_option maxHeartbeats 1000000 in
theorem d_b_Un_readCodes_174 {U : ut} {u : Nat} {x1 : Int32} {x2 : Nat} {x4 : Int32} {x5 : Int32} {S : cs} {R111 : Int32 → Nat → Int32 → cs → Prop} {K : cs → Prop} {T : Nat → cs → Prop} (h : b_Un_readCodes_174 U u x1 x2 x4 x5 S R111 K T) {Q : Prop} (k_R111 : ∀ (a0 : Int32) (a1 : Nat) (a2 : Int32) (a3 : cs), R111 a0 a1 a2 a3 → (∀ (R111' : Int32 → Nat → Int32 → cs → Prop) (K' : cs → Prop) (T' : Nat → cs → Prop), b_Un_readCodes_174 U u x1 x2 x4 x5 S R111' K' T' ↔ R111' a0 a1 a2 a3) → Q) (k_K : ∀ (a0 : cs), K a0 → (∀ (R111' : Int32 → Nat → Int32 → cs → Prop) (K' : cs → Prop) (T' : Nat → cs → Prop), b_Un_readCodes_174 U u x1 x2 x4 x5 S R111' K' T' ↔ K' a0) → Q) (k_T : ∀ (a0 : Nat) (a1 : cs), T a0 a1 → (∀ (R111' : Int32 → Nat → Int32 → cs → Prop) (K' : cs → Prop) (T' : Nat → cs → Prop), b_Un_readCodes_174 U u x1 x2 x4 x5 S R111' K' T' ↔ T' a0 a1) → Q) : Q := by
  unfold b_Un_readCodes_174 at h
  exact k_R111 _ _ _ _ (And.right (And.right (And.right (And.right h)))) (fun _ _ _ => Iff.trans (dt_a (And.left h)) (Iff.trans (dt_a (And.left (And.right h))) (Iff.trans (dt_a (And.left (And.right (And.right h)))) (dt_a (And.left (And.right (And.right (And.right h))))))))
set_option maxHeartbeats 1000000 in
theorem d_b_Un_readCodes_157 {U : ut} {u : Nat} {x1 : Int32} {x2 : Nat} {x4 : Int32} {x5 : Int32} {S : cs} {R111 : Int32 → Nat → Int32 → cs → Prop} {K : cs → Prop} {T : Nat → cs → Prop} (h : b_Un_readCodes_157 U u x1 x2 x4 x5 S R111 K T) {Q : Prop} (k_R111 : ∀ (a0 : Int32) (a1 : Nat) (a2 : Int32) (a3 : cs), R111 a0 a1 a2 a3 → (∀ (R111' : Int32 → Nat → Int32 → cs → Prop) (K' : cs → Prop) (T' : Nat → cs → Prop), b_Un_readCodes_157 U u x1 x2 x4 x5 S R111' K' T' ↔ R111' a0 a1 a2 a3) → Q) (k_K : ∀ (a0 : cs), K a0 → (∀ (R111' : Int32 → Nat → Int32 → cs → Prop) (K' : cs → Prop) (T' : Nat → cs → Prop), b_Un_readCodes_157 U u x1 x2 x4 x5 S R111' K' T' ↔ K' a0) → Q) (k_T : ∀ (a0 : Nat) (a1 : cs), T a0 a1 → (∀ (R111' : Int32 → Nat → Int32 → cs → Prop) (K' : cs → Prop) (T' : Nat → cs → Prop), b_Un_readCodes_157 U u x1 x2 x4 x5 S R111' K' T' ↔ T' a0 a1) → Q) : Q := by
  unfold b_Un_readCodes_157 at h
  refine d_p_Re_fail (And.right (And.right (And.right h))) (fun S171 h_2 i_1 => ?_) (fun a0 a1 h_4 i_3 => k_T a0 a1 h_4 (fun _ _ _ => Iff.trans (dt_a (And.left h)) (Iff.trans (dt_a (And.left (And.right h))) (Iff.trans (dt_a (And.left (And.right (And.right h)))) (i_3 _ _)))))
  exact d_b_Un_readCodes_174 h_2 (fun a0 a1 a2 a3 h_6 i_5 => k_R111 a0 a1 a2 a3 h_6 (fun _ _ _ => Iff.trans (dt_a (And.left h)) (Iff.trans (dt_a (And.left (And.right h))) (Iff.trans (dt_a (And.left (And.right (And.right h)))) (Iff.trans (i_1 _ _) (i_5 _ _ _)))))) (fun a0 h_8 i_7 => k_K a0 h_8 (fun _ _ _ => Iff.trans (dt_a (And.left h)) (Iff.trans (dt_a (And.left (And.right h))) (Iff.trans (dt_a (And.left (And.right (And.right h)))) (Iff.trans (i_1 _ _) (i_7 _ _ _)))))) (fun a0 a1 h_10 i_9 => k_T a0 a1 h_10 (fun _ _ _ => Iff.trans (dt_a (And.left h)) (Iff.trans (dt_a (And.left (And.right h))) (Iff.trans (dt_a (And.left (And.right (And.right h)))) (Iff.trans (i_1 _ _) (i_9 _ _ _))))))
set_option maxHeartbeats 1000000 in
theorem d_b_Un_readCodes_111 {U : ut} {u : Nat} {x1 : Int32} {x2 : Nat} {x4 : Int32} {S : cs} {R111 : Int32 → Nat → Int32 → cs → Prop} {K : cs → Prop} {T : Nat → cs → Prop} (h : b_Un_readCodes_111 U u x1 x2 x4 S R111 K T) {Q : Prop} (k_R111 : ∀ (a0 : Int32) (a1 : Nat) (a2 : Int32) (a3 : cs), R111 a0 a1 a2 a3 → (∀ (R111' : Int32 → Nat → Int32 → cs → Prop) (K' : cs → Prop) (T' : Nat → cs → Prop), b_Un_readCodes_111 U u x1 x2 x4 S R111' K' T' ↔ R111' a0 a1 a2 a3) → Q) (k_K : ∀ (a0 : cs), K a0 → (∀ (R111' : Int32 → Nat → Int32 → cs → Prop) (K' : cs → Prop) (T' : Nat → cs → Prop), b_Un_readCodes_111 U u x1 x2 x4 S R111' K' T' ↔ K' a0) → Q) (k_T : ∀ (a0 : Nat) (a1 : cs), T a0 a1 → (∀ (R111' : Int32 → Nat → Int32 → cs → Prop) (K' : cs → Prop) (T' : Nat → cs → Prop), b_Un_readCodes_111 U u x1 x2 x4 S R111' K' T' ↔ T' a0 a1) → Q) : Q := by
  unfold b_Un_readCodes_111 at h
  refine dt_p (And.right h) (fun c_1 h_2 => ?_) (fun c_1 h_2 => ?_)
  ·
    exact k_K _ h_2 (fun _ _ _ => Iff.trans (dt_a (And.left h)) (dt_1 c_1 (fun n => n c_1)))
  ·
    refine d_p_Un_wantMore h_2 (fun S121 h_4 i_3 => ?_) (fun a0 a1 h_6 i_5 => k_T a0 a1 h_6 (fun _ _ _ => Iff.trans (dt_a (And.left h)) (Iff.trans (dt_2 c_1 c_1) (i_5 _ _))))
    refine d_p_Re_read (And.right (And.right h_4)) (fun v128 S128 h_8 i_7 => ?_) (fun a0 a1 h_10 i_9 => k_T a0 a1 h_10 (fun _ _ _ => Iff.trans (dt_a (And.left h)) (Iff.trans (dt_2 c_1 c_1) (Iff.trans (i_3 _ _) (Iff.trans (dt_a (And.left h_4)) (Iff.trans (dt_a (And.left (And.right h_4))) (i_9 _ _)))))))
    refine dt_p h_8 (fun c_11 h_12 => ?_) (fun c_11 h_12 => ?_)
    ·
      refine d_p_Un_isForRests h_12 (fun v151 h_14 i_13 => ?_)
      refine dt_n h_14 (fun c_15 h_16 => ?_) (fun c_15 h_16 => ?_)
      ·
        exact d_b_Un_readCodes_174 h_16 (fun a0 a1 a2 a3 h_18 i_17 => k_R111 a0 a1 a2 a3 h_18 (fun _ _ _ => Iff.trans (dt_a (And.left h)) (Iff.trans (dt_2 c_1 c_1) (Iff.trans (i_3 _ _) (Iff.trans (dt_a (And.left h_4)) (Iff.trans (dt_a (And.left (And.right h_4))) (Iff.trans (i_7 _ _) (Iff.trans (dt_1 c_11 (fun n => n c_11)) (Iff.trans (i_13 _) (Iff.trans (dt_1 c_15 c_15) (i_17 _ _ _))))))))))) (fun a0 h_20 i_19 => k_K a0 h_20 (fun _ _ _ => Iff.trans (dt_a (And.left h)) (Iff.trans (dt_2 c_1 c_1) (Iff.trans (i_3 _ _) (Iff.trans (dt_a (And.left h_4)) (Iff.trans (dt_a (And.left (And.right h_4))) (Iff.trans (i_7 _ _) (Iff.trans (dt_1 c_11 (fun n => n c_11)) (Iff.trans (i_13 _) (Iff.trans (dt_1 c_15 c_15) (i_19 _ _ _))))))))))) (fun a0 a1 h_22 i_21 => k_T a0 a1 h_22 (fun _ _ _ => Iff.trans (dt_a (And.left h)) (Iff.trans (dt_2 c_1 c_1) (Iff.trans (i_3 _ _) (Iff.trans (dt_a (And.left h_4)) (Iff.trans (dt_a (And.left (And.right h_4))) (Iff.trans (i_7 _ _) (Iff.trans (dt_1 c_11 (fun n => n c_11)) (Iff.trans (i_13 _) (Iff.trans (dt_1 c_15 c_15) (i_21 _ _ _)))))))))))
      ·
        exact d_b_Un_readCodes_157 h_16 (fun a0 a1 a2 a3 h_24 i_23 => k_R111 a0 a1 a2 a3 h_24 (fun _ _ _ => Iff.trans (dt_a (And.left h)) (Iff.trans (dt_2 c_1 c_1) (Iff.trans (i_3 _ _) (Iff.trans (dt_a (And.left h_4)) (Iff.trans (dt_a (And.left (And.right h_4))) (Iff.trans (i_7 _ _) (Iff.trans (dt_1 c_11 (fun n => n c_11)) (Iff.trans (i_13 _) (Iff.trans (dt_2 (fun n => n c_15) c_15) (i_23 _ _ _))))))))))) (fun a0 h_26 i_25 => k_K a0 h_26 (fun _ _ _ => Iff.trans (dt_a (And.left h)) (Iff.trans (dt_2 c_1 c_1) (Iff.trans (i_3 _ _) (Iff.trans (dt_a (And.left h_4)) (Iff.trans (dt_a (And.left (And.right h_4))) (Iff.trans (i_7 _ _) (Iff.trans (dt_1 c_11 (fun n => n c_11)) (Iff.trans (i_13 _) (Iff.trans (dt_2 (fun n => n c_15) c_15) (i_25 _ _ _))))))))))) (fun a0 a1 h_28 i_27 => k_T a0 a1 h_28 (fun _ _ _ => Iff.trans (dt_a (And.left h)) (Iff.trans (dt_2 c_1 c_1) (Iff.trans (i_3 _ _) (Iff.trans (dt_a (And.left h_4)) (Iff.trans (dt_a (And.left (And.right h_4))) (Iff.trans (i_7 _ _) (Iff.trans (dt_1 c_11 (fun n => n c_11)) (Iff.trans (i_13 _) (Iff.trans (dt_2 (fun n => n c_15) c_15) (i_27 _ _ _)))))))))))
    ·
      refine dt_p h_12 (fun c_29 h_30 => ?_) (fun c_29 h_30 => ?_)
      ·
        exact d_b_Un_readCodes_174 h_30 (fun a0 a1 a2 a3 h_32 i_31 => k_R111 a0 a1 a2 a3 h_32 (fun _ _ _ => Iff.trans (dt_a (And.left h)) (Iff.trans (dt_2 c_1 c_1) (Iff.trans (i_3 _ _) (Iff.trans (dt_a (And.left h_4)) (Iff.trans (dt_a (And.left (And.right h_4))) (Iff.trans (i_7 _ _) (Iff.trans (dt_2 c_11 c_11) (Iff.trans (dt_1 c_29 (fun n => n c_29)) (i_31 _ _ _)))))))))) (fun a0 h_34 i_33 => k_K a0 h_34 (fun _ _ _ => Iff.trans (dt_a (And.left h)) (Iff.trans (dt_2 c_1 c_1) (Iff.trans (i_3 _ _) (Iff.trans (dt_a (And.left h_4)) (Iff.trans (dt_a (And.left (And.right h_4))) (Iff.trans (i_7 _ _) (Iff.trans (dt_2 c_11 c_11) (Iff.trans (dt_1 c_29 (fun n => n c_29)) (i_33 _ _ _)))))))))) (fun a0 a1 h_36 i_35 => k_T a0 a1 h_36 (fun _ _ _ => Iff.trans (dt_a (And.left h)) (Iff.trans (dt_2 c_1 c_1) (Iff.trans (i_3 _ _) (Iff.trans (dt_a (And.left h_4)) (Iff.trans (dt_a (And.left (And.right h_4))) (Iff.trans (i_7 _ _) (Iff.trans (dt_2 c_11 c_11) (Iff.trans (dt_1 c_29 (fun n => n c_29)) (i_35 _ _ _))))))))))
      ·
        exact d_b_Un_readCodes_157 h_30 (fun a0 a1 a2 a3 h_38 i_37 => k_R111 a0 a1 a2 a3 h_38 (fun _ _ _ => Iff.trans (dt_a (And.left h)) (Iff.trans (dt_2 c_1 c_1) (Iff.trans (i_3 _ _) (Iff.trans (dt_a (And.left h_4)) (Iff.trans (dt_a (And.left (And.right h_4))) (Iff.trans (i_7 _ _) (Iff.trans (dt_2 c_11 c_11) (Iff.trans (dt_2 c_29 c_29) (i_37 _ _ _)))))))))) (fun a0 h_40 i_39 => k_K a0 h_40 (fun _ _ _ => Iff.trans (dt_a (And.left h)) (Iff.trans (dt_2 c_1 c_1) (Iff.trans (i_3 _ _) (Iff.trans (dt_a (And.left h_4)) (Iff.trans (dt_a (And.left (And.right h_4))) (Iff.trans (i_7 _ _) (Iff.trans (dt_2 c_11 c_11) (Iff.trans (dt_2 c_29 c_29) (i_39 _ _ _)))))))))) (fun a0 a1 h_42 i_41 => k_T a0 a1 h_42 (fun _ _ _ => Iff.trans (dt_a (And.left h)) (Iff.trans (dt_2 c_1 c_1) (Iff.trans (i_3 _ _) (Iff.trans (dt_a (And.left h_4)) (Iff.trans (dt_a (And.left (And.right h_4))) (Iff.trans (i_7 _ _) (Iff.trans (dt_2 c_11 c_11) (Iff.trans (dt_2 c_29 c_29) (i_41 _ _ _))))))))))
theorem l_e_Un_readCodes_111 {U : ut} {u : Nat} {x1 : Int32} {x2 : Nat} {x4 : Int32} {S : cs} {K : cs → Prop} {T : Nat → cs → Prop} : e_Un_readCodes_111 U u x1 x2 x4 S K T ↔ lpE (C := (cs → Prop) × (Nat → cs → Prop)) (fun (y : (Int32) × (Nat) × (Int32) × (cs)) (R : ((Int32) × (Nat) × (Int32) × (cs)) → Prop) (c : (cs → Prop) × (Nat → cs → Prop)) => b_Un_readCodes_111 U u y.1 y.2.1 y.2.2.1 y.2.2.2 (fun z0 z1 z2 z3 => R (z0, z1, z2, z3)) c.1 c.2) (x1, x2, x4, S) (K, T) :=
  ⟨fun ⟨I, μ, h0, hs⟩ => ⟨fun t => I t.1 t.2.1 t.2.2.1 t.2.2.2, fun t => μ t.1 t.2.1 t.2.2.1 t.2.2.2, h0, fun t ht => hs _ _ _ _ ht⟩, fun ⟨I, μ, h0, hs⟩ => ⟨fun y0 y1 y2 y3 => I (y0, y1, y2, y3), fun y0 y1 y2 y3 => μ (y0, y1, y2, y3), h0, fun y0 y1 y2 y3 hy => hs (y0, y1, y2, y3) hy⟩⟩
set_option maxHeartbeats 1000000 in
theorem d_e_Un_readCodes_111 {U : ut} {u : Nat} {x1 : Int32} {x2 : Nat} {x4 : Int32} {S : cs} {K : cs → Prop} {T : Nat → cs → Prop} (h : e_Un_readCodes_111 U u x1 x2 x4 S K T) {Q : Prop} (k_K : ∀ (a0 : cs), K a0 → (∀ (K' : cs → Prop) (T' : Nat → cs → Prop), e_Un_readCodes_111 U u x1 x2 x4 S K' T' ↔ K' a0) → Q) (k_T : ∀ (a0 : Nat) (a1 : cs), T a0 a1 → (∀ (K' : cs → Prop) (T' : Nat → cs → Prop), e_Un_readCodes_111 U u x1 x2 x4 S K' T' ↔ T' a0 a1) → Q) : Q := by
  obtain ⟨o, ho, hoc, hi⟩ := lp_det (C := (cs → Prop) × (Nat → cs → Prop)) (b := (fun (y : (Int32) × (Nat) × (Int32) × (cs)) (R : ((Int32) × (Nat) × (Int32) × (cs)) → Prop) (c : (cs → Prop) × (Nat → cs → Prop)) => b_Un_readCodes_111 U u y.1 y.2.1 y.2.2.1 y.2.2.2 (fun z0 z1 z2 z3 => R (z0, z1, z2, z3)) c.1 c.2)) (O := (fun (o : ((cs → Prop) × (Nat → cs → Prop)) → Prop) => (∃ (a0 : cs), o = fun c => c.1 a0) ∨ (∃ (a0 : Nat) (a1 : cs), o = fun c => c.2 a0 a1))) (fun y R c hy => d_b_Un_readCodes_111 hy (fun a0 a1 a2 a3 ha ia => Or.inl ⟨(a0, a1, a2, a3), ha, fun R' c' => ia (fun z0 z1 z2 z3 => R' (z0, z1, z2, z3)) c'.1 c'.2⟩) (fun a0 ha ia => Or.inr ⟨(fun c => c.1 a0), Or.inl ⟨a0, rfl⟩, ha, fun R' c' => ia (fun z0 z1 z2 z3 => R' (z0, z1, z2, z3)) c'.1 c'.2⟩) (fun a0 a1 ha ia => Or.inr ⟨(fun c => c.2 a0 a1), Or.inr (⟨a0, a1, rfl⟩), ha, fun R' c' => ia (fun z0 z1 z2 z3 => R' (z0, z1, z2, z3)) c'.1 c'.2⟩)) (l_e_Un_readCodes_111.mp h)
  rcases ho with ⟨a0, rfl⟩ | ⟨a0, a1, rfl⟩
  · exact k_K _ hoc (fun K' T' => Iff.trans l_e_Un_readCodes_111 (hi (K', T')))
  · exact k_T _ _ hoc (fun K' T' => Iff.trans l_e_Un_readCodes_111 (hi (K', T')))
theorem v_e_Un_readCodes_111 {U : ut} {u : Nat} {x1 : Int32} {x2 : Nat} {x4 : Int32} {S : cs} {K : cs → Prop} {T : Nat → cs → Prop} (h : e_Un_readCodes_111 U u x1 x2 x4 S K T) {G : Prop} (Inv : Int32 → cs → Prop) (h0 : Inv x4 S) (hs : ∀ (yx4 : Int32) (yS : cs) (R : Int32 → Nat → Int32 → cs → Prop), Inv yx4 yS → b_Un_readCodes_111 U u x1 x2 yx4 yS R K T → (∃ (zx4 : Int32) (zS : cs), R x1 x2 zx4 zS ∧ Inv zx4 zS) ∨ G) : G := by
  obtain ⟨I, μ, i0, is⟩ := h
  have go : ∀ (n : Nat) (yx4 : Int32) (yS : cs), μ x1 x2 yx4 yS < n → I x1 x2 yx4 yS → Inv yx4 yS → G := by
    intro n
    induction n with
    | zero => intro yx4 yS hy; exact absurd hy (Nat.not_lt_zero _)
    | succ n ih =>
      intro yx4 yS hy hI hV
      rcases hs yx4 yS _ hV (is x1 x2 yx4 yS hI) with ⟨zx4, zS, ⟨hz, hm⟩, hv⟩ | g
      · exact ih zx4 zS (Nat.lt_of_lt_of_le hm (Nat.le_of_lt_succ hy)) hz hv
      · exact g
  exact go _ x4 S (Nat.lt_succ_self _) i0 h0
theorem r_e_Un_readCodes_111 {U : ut} {u : Nat} {x1 : Int32} {x2 : Nat} {x4 : Int32} {S : cs} {K : cs → Prop} {T : Nat → cs → Prop} (h : e_Un_readCodes_111 U u x1 x2 x4 S K T) : b_Un_readCodes_111 U u x1 x2 x4 S (fun zx1 zx2 zx4 zS => e_Un_readCodes_111 U u zx1 zx2 zx4 zS K T) K T := by
  obtain ⟨I, μ, i0, is⟩ := h
  exact d_b_Un_readCodes_111 (is x1 x2 x4 S i0) (fun a0 a1 a2 a3 ha ia => (ia _ _ _).mpr ⟨I, μ, ha.1, is⟩) (fun a0 ha ia => (ia _ _ _).mpr ha) (fun a0 a1 ha ia => (ia _ _ _).mpr ha)
set_option maxHeartbeats 1000000 in
theorem d_b_Un_readCodes_108 {U : ut} {u : Nat} {x1 : Int32} {x2 : Nat} {S : cs} {K : cs → Prop} {T : Nat → cs → Prop} (h : b_Un_readCodes_108 U u x1 x2 S K T) {Q : Prop} (k_K : ∀ (a0 : cs), K a0 → (∀ (K' : cs → Prop) (T' : Nat → cs → Prop), b_Un_readCodes_108 U u x1 x2 S K' T' ↔ K' a0) → Q) (k_T : ∀ (a0 : Nat) (a1 : cs), T a0 a1 → (∀ (K' : cs → Prop) (T' : Nat → cs → Prop), b_Un_readCodes_108 U u x1 x2 S K' T' ↔ T' a0 a1) → Q) : Q := by
  unfold b_Un_readCodes_108 at h
  exact d_e_Un_readCodes_111 h (fun a0 h_2 i_1 => k_K a0 h_2 (fun _ _ => i_1 _ _)) (fun a0 a1 h_4 i_3 => k_T a0 a1 h_4 (fun _ _ => i_3 _ _))
set_option maxHeartbeats 1000000 in
theorem d_b_Un_readCodes_61 {U : ut} {u : Nat} {x1 : Int32} {x2 : Nat} {x3 : Int32} {x4 : Int32} {S : cs} {R61 : Int32 → Nat → Int32 → Int32 → cs → Prop} {K : cs → Prop} {T : Nat → cs → Prop} (h : b_Un_readCodes_61 U u x1 x2 x3 x4 S R61 K T) {Q : Prop} (k_R61 : ∀ (a0 : Int32) (a1 : Nat) (a2 : Int32) (a3 : Int32) (a4 : cs), R61 a0 a1 a2 a3 a4 → (∀ (R61' : Int32 → Nat → Int32 → Int32 → cs → Prop) (K' : cs → Prop) (T' : Nat → cs → Prop), b_Un_readCodes_61 U u x1 x2 x3 x4 S R61' K' T' ↔ R61' a0 a1 a2 a3 a4) → Q) (k_K : ∀ (a0 : cs), K a0 → (∀ (R61' : Int32 → Nat → Int32 → Int32 → cs → Prop) (K' : cs → Prop) (T' : Nat → cs → Prop), b_Un_readCodes_61 U u x1 x2 x3 x4 S R61' K' T' ↔ K' a0) → Q) (k_T : ∀ (a0 : Nat) (a1 : cs), T a0 a1 → (∀ (R61' : Int32 → Nat → Int32 → Int32 → cs → Prop) (K' : cs → Prop) (T' : Nat → cs → Prop), b_Un_readCodes_61 U u x1 x2 x3 x4 S R61' K' T' ↔ T' a0 a1) → Q) : Q := by
  unfold b_Un_readCodes_61 at h
  refine dt_p h (fun c_1 h_2 => ?_) (fun c_1 h_2 => ?_)
  ·
    refine d_p_Co_giveOut (And.right h_2) (fun v93 S93 h_4 i_3 => ?_)
    refine dt_n h_4 (fun c_5 h_6 => ?_) (fun c_5 h_6 => ?_)
    ·
      exact d_b_Un_readCodes_108 h_6 (fun a0 h_8 i_7 => k_K a0 h_8 (fun _ _ _ => Iff.trans (dt_1 c_1 (fun n => n c_1)) (Iff.trans (dt_a (And.left h_2)) (Iff.trans (i_3 _) (Iff.trans (dt_1 c_5 c_5) (i_7 _ _)))))) (fun a0 a1 h_10 i_9 => k_T a0 a1 h_10 (fun _ _ _ => Iff.trans (dt_1 c_1 (fun n => n c_1)) (Iff.trans (dt_a (And.left h_2)) (Iff.trans (i_3 _) (Iff.trans (dt_1 c_5 c_5) (i_9 _ _))))))
    ·
      refine d_p_Re_fail (And.right (And.right h_6)) (fun S105 h_12 i_11 => ?_) (fun a0 a1 h_14 i_13 => k_T a0 a1 h_14 (fun _ _ _ => Iff.trans (dt_1 c_1 (fun n => n c_1)) (Iff.trans (dt_a (And.left h_2)) (Iff.trans (i_3 _) (Iff.trans (dt_2 (fun n => n c_5) c_5) (Iff.trans (dt_a (And.left h_6)) (Iff.trans (dt_a (And.left (And.right h_6))) (i_13 _ _))))))))
      exact d_b_Un_readCodes_108 h_12 (fun a0 h_16 i_15 => k_K a0 h_16 (fun _ _ _ => Iff.trans (dt_1 c_1 (fun n => n c_1)) (Iff.trans (dt_a (And.left h_2)) (Iff.trans (i_3 _) (Iff.trans (dt_2 (fun n => n c_5) c_5) (Iff.trans (dt_a (And.left h_6)) (Iff.trans (dt_a (And.left (And.right h_6))) (Iff.trans (i_11 _ _) (i_15 _ _))))))))) (fun a0 a1 h_18 i_17 => k_T a0 a1 h_18 (fun _ _ _ => Iff.trans (dt_1 c_1 (fun n => n c_1)) (Iff.trans (dt_a (And.left h_2)) (Iff.trans (i_3 _) (Iff.trans (dt_2 (fun n => n c_5) c_5) (Iff.trans (dt_a (And.left h_6)) (Iff.trans (dt_a (And.left (And.right h_6))) (Iff.trans (i_11 _ _) (i_17 _ _)))))))))
  ·
    refine d_p_Un_wantMore h_2 (fun S69 h_20 i_19 => ?_) (fun a0 a1 h_22 i_21 => k_T a0 a1 h_22 (fun _ _ _ => Iff.trans (dt_2 c_1 c_1) (i_21 _ _)))
    refine d_p_Re_read (And.right (And.right (And.right (And.right h_20)))) (fun v82 S82 h_24 i_23 => ?_) (fun a0 a1 h_26 i_25 => k_T a0 a1 h_26 (fun _ _ _ => Iff.trans (dt_2 c_1 c_1) (Iff.trans (i_19 _ _) (Iff.trans (dt_a (And.left h_20)) (Iff.trans (dt_a (And.left (And.right h_20))) (Iff.trans (dt_a (And.left (And.right (And.right h_20)))) (Iff.trans (dt_a (And.left (And.right (And.right (And.right h_20))))) (i_25 _ _))))))))
    exact k_R61 _ _ _ _ _ (And.right (And.right h_24)) (fun _ _ _ => Iff.trans (dt_2 c_1 c_1) (Iff.trans (i_19 _ _) (Iff.trans (dt_a (And.left h_20)) (Iff.trans (dt_a (And.left (And.right h_20))) (Iff.trans (dt_a (And.left (And.right (And.right h_20)))) (Iff.trans (dt_a (And.left (And.right (And.right (And.right h_20))))) (Iff.trans (i_23 _ _) (Iff.trans (dt_a (And.left h_24)) (dt_a (And.left (And.right h_24)))))))))))
theorem l_e_Un_readCodes_61 {U : ut} {u : Nat} {x1 : Int32} {x2 : Nat} {x3 : Int32} {x4 : Int32} {S : cs} {K : cs → Prop} {T : Nat → cs → Prop} : e_Un_readCodes_61 U u x1 x2 x3 x4 S K T ↔ lpE (C := (cs → Prop) × (Nat → cs → Prop)) (fun (y : (Int32) × (Nat) × (Int32) × (Int32) × (cs)) (R : ((Int32) × (Nat) × (Int32) × (Int32) × (cs)) → Prop) (c : (cs → Prop) × (Nat → cs → Prop)) => b_Un_readCodes_61 U u y.1 y.2.1 y.2.2.1 y.2.2.2.1 y.2.2.2.2 (fun z0 z1 z2 z3 z4 => R (z0, z1, z2, z3, z4)) c.1 c.2) (x1, x2, x3, x4, S) (K, T) :=
  ⟨fun ⟨I, μ, h0, hs⟩ => ⟨fun t => I t.1 t.2.1 t.2.2.1 t.2.2.2.1 t.2.2.2.2, fun t => μ t.1 t.2.1 t.2.2.1 t.2.2.2.1 t.2.2.2.2, h0, fun t ht => hs _ _ _ _ _ ht⟩, fun ⟨I, μ, h0, hs⟩ => ⟨fun y0 y1 y2 y3 y4 => I (y0, y1, y2, y3, y4), fun y0 y1 y2 y3 y4 => μ (y0, y1, y2, y3, y4), h0, fun y0 y1 y2 y3 y4 hy => hs (y0, y1, y2, y3, y4) hy⟩⟩
set_option maxHeartbeats 1000000 in
theorem d_e_Un_readCodes_61 {U : ut} {u : Nat} {x1 : Int32} {x2 : Nat} {x3 : Int32} {x4 : Int32} {S : cs} {K : cs → Prop} {T : Nat → cs → Prop} (h : e_Un_readCodes_61 U u x1 x2 x3 x4 S K T) {Q : Prop} (k_K : ∀ (a0 : cs), K a0 → (∀ (K' : cs → Prop) (T' : Nat → cs → Prop), e_Un_readCodes_61 U u x1 x2 x3 x4 S K' T' ↔ K' a0) → Q) (k_T : ∀ (a0 : Nat) (a1 : cs), T a0 a1 → (∀ (K' : cs → Prop) (T' : Nat → cs → Prop), e_Un_readCodes_61 U u x1 x2 x3 x4 S K' T' ↔ T' a0 a1) → Q) : Q := by
  obtain ⟨o, ho, hoc, hi⟩ := lp_det (C := (cs → Prop) × (Nat → cs → Prop)) (b := (fun (y : (Int32) × (Nat) × (Int32) × (Int32) × (cs)) (R : ((Int32) × (Nat) × (Int32) × (Int32) × (cs)) → Prop) (c : (cs → Prop) × (Nat → cs → Prop)) => b_Un_readCodes_61 U u y.1 y.2.1 y.2.2.1 y.2.2.2.1 y.2.2.2.2 (fun z0 z1 z2 z3 z4 => R (z0, z1, z2, z3, z4)) c.1 c.2)) (O := (fun (o : ((cs → Prop) × (Nat → cs → Prop)) → Prop) => (∃ (a0 : cs), o = fun c => c.1 a0) ∨ (∃ (a0 : Nat) (a1 : cs), o = fun c => c.2 a0 a1))) (fun y R c hy => d_b_Un_readCodes_61 hy (fun a0 a1 a2 a3 a4 ha ia => Or.inl ⟨(a0, a1, a2, a3, a4), ha, fun R' c' => ia (fun z0 z1 z2 z3 z4 => R' (z0, z1, z2, z3, z4)) c'.1 c'.2⟩) (fun a0 ha ia => Or.inr ⟨(fun c => c.1 a0), Or.inl ⟨a0, rfl⟩, ha, fun R' c' => ia (fun z0 z1 z2 z3 z4 => R' (z0, z1, z2, z3, z4)) c'.1 c'.2⟩) (fun a0 a1 ha ia => Or.inr ⟨(fun c => c.2 a0 a1), Or.inr (⟨a0, a1, rfl⟩), ha, fun R' c' => ia (fun z0 z1 z2 z3 z4 => R' (z0, z1, z2, z3, z4)) c'.1 c'.2⟩)) (l_e_Un_readCodes_61.mp h)
  rcases ho with ⟨a0, rfl⟩ | ⟨a0, a1, rfl⟩
  · exact k_K _ hoc (fun K' T' => Iff.trans l_e_Un_readCodes_61 (hi (K', T')))
  · exact k_T _ _ hoc (fun K' T' => Iff.trans l_e_Un_readCodes_61 (hi (K', T')))
theorem v_e_Un_readCodes_61 {U : ut} {u : Nat} {x1 : Int32} {x2 : Nat} {x3 : Int32} {x4 : Int32} {S : cs} {K : cs → Prop} {T : Nat → cs → Prop} (h : e_Un_readCodes_61 U u x1 x2 x3 x4 S K T) {G : Prop} (Inv : Int32 → cs → Prop) (h0 : Inv x4 S) (hs : ∀ (yx4 : Int32) (yS : cs) (R : Int32 → Nat → Int32 → Int32 → cs → Prop), Inv yx4 yS → b_Un_readCodes_61 U u x1 x2 x3 yx4 yS R K T → (∃ (zx4 : Int32) (zS : cs), R x1 x2 x3 zx4 zS ∧ Inv zx4 zS) ∨ G) : G := by
  obtain ⟨I, μ, i0, is⟩ := h
  have go : ∀ (n : Nat) (yx4 : Int32) (yS : cs), μ x1 x2 x3 yx4 yS < n → I x1 x2 x3 yx4 yS → Inv yx4 yS → G := by
    intro n
    induction n with
    | zero => intro yx4 yS hy; exact absurd hy (Nat.not_lt_zero _)
    | succ n ih =>
      intro yx4 yS hy hI hV
      rcases hs yx4 yS _ hV (is x1 x2 x3 yx4 yS hI) with ⟨zx4, zS, ⟨hz, hm⟩, hv⟩ | g
      · exact ih zx4 zS (Nat.lt_of_lt_of_le hm (Nat.le_of_lt_succ hy)) hz hv
      · exact g
  exact go _ x4 S (Nat.lt_succ_self _) i0 h0
theorem r_e_Un_readCodes_61 {U : ut} {u : Nat} {x1 : Int32} {x2 : Nat} {x3 : Int32} {x4 : Int32} {S : cs} {K : cs → Prop} {T : Nat → cs → Prop} (h : e_Un_readCodes_61 U u x1 x2 x3 x4 S K T) : b_Un_readCodes_61 U u x1 x2 x3 x4 S (fun zx1 zx2 zx3 zx4 zS => e_Un_readCodes_61 U u zx1 zx2 zx3 zx4 zS K T) K T := by
  obtain ⟨I, μ, i0, is⟩ := h
  exact d_b_Un_readCodes_61 (is x1 x2 x3 x4 S i0) (fun a0 a1 a2 a3 a4 ha ia => (ia _ _ _).mpr ⟨I, μ, ha.1, is⟩) (fun a0 ha ia => (ia _ _ _).mpr ha) (fun a0 a1 ha ia => (ia _ _ _).mpr ha)
set_option maxHeartbeats 1000000 in
theorem d_b_Un_readCodes_33 {U : ut} {u : Nat} {x1 : Int32} {S : cs} {K : cs → Prop} {T : Nat → cs → Prop} (h : b_Un_readCodes_33 U u x1 S K T) {Q : Prop} (k_K : ∀ (a0 : cs), K a0 → (∀ (K' : cs → Prop) (T' : Nat → cs → Prop), b_Un_readCodes_33 U u x1 S K' T' ↔ K' a0) → Q) (k_T : ∀ (a0 : Nat) (a1 : cs), T a0 a1 → (∀ (K' : cs → Prop) (T' : Nat → cs → Prop), b_Un_readCodes_33 U u x1 S K' T' ↔ T' a0 a1) → Q) : Q := by
  unfold b_Un_readCodes_33 at h
  exact d_e_Un_readCodes_61 (And.right (And.right (And.right (And.right (And.right (And.right h)))))) (fun a0 h_2 i_1 => k_K a0 h_2 (fun _ _ => Iff.trans (dt_a (And.left h)) (Iff.trans (dt_a (And.left (And.right h))) (Iff.trans (dt_a (And.left (And.right (And.right h)))) (Iff.trans (dt_a (And.left (And.right (And.right (And.right h))))) (Iff.trans (dt_a (And.left (And.right (And.right (And.right (And.right h)))))) (Iff.trans (dt_a (And.left (And.right (And.right (And.right (And.right (And.right h))))))) (i_1 _ _)))))))) (fun a0 a1 h_4 i_3 => k_T a0 a1 h_4 (fun _ _ => Iff.trans (dt_a (And.left h)) (Iff.trans (dt_a (And.left (And.right h))) (Iff.trans (dt_a (And.left (And.right (And.right h)))) (Iff.trans (dt_a (And.left (And.right (And.right (And.right h))))) (Iff.trans (dt_a (And.left (And.right (And.right (And.right (And.right h)))))) (Iff.trans (dt_a (And.left (And.right (And.right (And.right (And.right (And.right h))))))) (i_3 _ _))))))))
set_option maxHeartbeats 1000000 in
theorem d_p_Un_readCodes {U : ut} {u : Nat} {S : cs} {K : cs → Prop} {T : Nat → cs → Prop} (h : p_Un_readCodes U u S K T) {Q : Prop} (k_K : ∀ (a0 : cs), K a0 → (∀ (K' : cs → Prop) (T' : Nat → cs → Prop), p_Un_readCodes U u S K' T' ↔ K' a0) → Q) (k_T : ∀ (a0 : Nat) (a1 : cs), T a0 a1 → (∀ (K' : cs → Prop) (T' : Nat → cs → Prop), p_Un_readCodes U u S K' T' ↔ T' a0 a1) → Q) : Q := by
  unfold p_Un_readCodes at h
  refine d_p_Un_readWithin h (fun v4 S4 h_2 i_1 => ?_) (fun a0 a1 h_4 i_3 => k_T a0 a1 h_4 (fun _ _ => i_3 _ _))
  refine dt_p h_2 (fun c_5 h_6 => ?_) (fun c_5 h_6 => ?_)
  ·
    exact d_b_Un_readCodes_33 h_6 (fun a0 h_8 i_7 => k_K a0 h_8 (fun _ _ => Iff.trans (i_1 _ _) (Iff.trans (dt_1 c_5 (fun n => n c_5)) (i_7 _ _)))) (fun a0 a1 h_10 i_9 => k_T a0 a1 h_10 (fun _ _ => Iff.trans (i_1 _ _) (Iff.trans (dt_1 c_5 (fun n => n c_5)) (i_9 _ _))))
  ·
    refine d_p_Re_fail (And.right (And.right (And.right h_6))) (fun S30 h_12 i_11 => ?_) (fun a0 a1 h_14 i_13 => k_T a0 a1 h_14 (fun _ _ => Iff.trans (i_1 _ _) (Iff.trans (dt_2 c_5 c_5) (Iff.trans (dt_a (And.left h_6)) (Iff.trans (dt_a (And.left (And.right h_6))) (Iff.trans (dt_a (And.left (And.right (And.right h_6)))) (i_13 _ _)))))))
    exact d_b_Un_readCodes_33 h_12 (fun a0 h_16 i_15 => k_K a0 h_16 (fun _ _ => Iff.trans (i_1 _ _) (Iff.trans (dt_2 c_5 c_5) (Iff.trans (dt_a (And.left h_6)) (Iff.trans (dt_a (And.left (And.right h_6))) (Iff.trans (dt_a (And.left (And.right (And.right h_6)))) (Iff.trans (i_11 _ _) (i_15 _ _)))))))) (fun a0 a1 h_18 i_17 => k_T a0 a1 h_18 (fun _ _ => Iff.trans (i_1 _ _) (Iff.trans (dt_2 c_5 c_5) (Iff.trans (dt_a (And.left h_6)) (Iff.trans (dt_a (And.left (And.right h_6))) (Iff.trans (dt_a (And.left (And.right (And.right h_6)))) (Iff.trans (i_11 _ _) (i_17 _ _))))))))
set_option maxHeartbeats 1000000 in
theorem d_b_Un_readParts_51 {U : ut} {u : Nat} {S : cs} {K : cs → Prop} {T : Nat → cs → Prop} (h : b_Un_readParts_51 U u S K T) {Q : Prop} (k_K : ∀ (a0 : cs), K a0 → (∀ (K' : cs → Prop) (T' : Nat → cs → Prop), b_Un_readParts_51 U u S K' T' ↔ K' a0) → Q) (k_T : ∀ (a0 : Nat) (a1 : cs), T a0 a1 → (∀ (K' : cs → Prop) (T' : Nat → cs → Prop), b_Un_readParts_51 U u S K' T' ↔ T' a0 a1) → Q) : Q := by
  unfold b_Un_readParts_51 at h
  exact k_K _ h (fun _ _ => Iff.rfl)
set_option maxHeartbeats 1000000 in
theorem d_b_Un_readParts_45 {U : ut} {u : Nat} {x1 : Int32} {x2 : Int32} {S : cs} {R2 : Int32 → Int32 → cs → Prop} {K : cs → Prop} {T : Nat → cs → Prop} (h : b_Un_readParts_45 U u x1 x2 S R2 K T) {Q : Prop} (k_R2 : ∀ (a0 : Int32) (a1 : Int32) (a2 : cs), R2 a0 a1 a2 → (∀ (R2' : Int32 → Int32 → cs → Prop) (K' : cs → Prop) (T' : Nat → cs → Prop), b_Un_readParts_45 U u x1 x2 S R2' K' T' ↔ R2' a0 a1 a2) → Q) (k_K : ∀ (a0 : cs), K a0 → (∀ (R2' : Int32 → Int32 → cs → Prop) (K' : cs → Prop) (T' : Nat → cs → Prop), b_Un_readParts_45 U u x1 x2 S R2' K' T' ↔ K' a0) → Q) (k_T : ∀ (a0 : Nat) (a1 : cs), T a0 a1 → (∀ (R2' : Int32 → Int32 → cs → Prop) (K' : cs → Prop) (T' : Nat → cs → Prop), b_Un_readParts_45 U u x1 x2 S R2' K' T' ↔ T' a0 a1) → Q) : Q := by
  unfold b_Un_readParts_45 at h
  exact k_R2 _ _ _ h (fun _ _ _ => Iff.rfl)
set_option maxHeartbeats 1000000 in
theorem d_b_Un_readParts_2 {U : ut} {u : Nat} {x1 : Int32} {x2 : Int32} {S : cs} {R2 : Int32 → Int32 → cs → Prop} {K : cs → Prop} {T : Nat → cs → Prop} (h : b_Un_readParts_2 U u x1 x2 S R2 K T) {Q : Prop} (k_R2 : ∀ (a0 : Int32) (a1 : Int32) (a2 : cs), R2 a0 a1 a2 → (∀ (R2' : Int32 → Int32 → cs → Prop) (K' : cs → Prop) (T' : Nat → cs → Prop), b_Un_readParts_2 U u x1 x2 S R2' K' T' ↔ R2' a0 a1 a2) → Q) (k_K : ∀ (a0 : cs), K a0 → (∀ (R2' : Int32 → Int32 → cs → Prop) (K' : cs → Prop) (T' : Nat → cs → Prop), b_Un_readParts_2 U u x1 x2 S R2' K' T' ↔ K' a0) → Q) (k_T : ∀ (a0 : Nat) (a1 : cs), T a0 a1 → (∀ (R2' : Int32 → Int32 → cs → Prop) (K' : cs → Prop) (T' : Nat → cs → Prop), b_Un_readParts_2 U u x1 x2 S R2' K' T' ↔ T' a0 a1) → Q) : Q := by
  unfold b_Un_readParts_2 at h
  refine dt_p (And.right (And.right h)) (fun c_1 h_2 => ?_) (fun c_1 h_2 => ?_)
  ·
    exact d_b_Un_readParts_51 h_2 (fun a0 h_4 i_3 => k_K a0 h_4 (fun _ _ _ => Iff.trans (dt_a (And.left h)) (Iff.trans (dt_a (And.left (And.right h))) (Iff.trans (dt_1 c_1 (fun n => n c_1)) (i_3 _ _))))) (fun a0 a1 h_6 i_5 => k_T a0 a1 h_6 (fun _ _ _ => Iff.trans (dt_a (And.left h)) (Iff.trans (dt_a (And.left (And.right h))) (Iff.trans (dt_1 c_1 (fun n => n c_1)) (i_5 _ _)))))
  ·
    refine dt_p h_2 (fun c_7 h_8 => ?_) (fun c_7 h_8 => ?_)
    ·
      exact d_b_Un_readParts_51 h_8 (fun a0 h_10 i_9 => k_K a0 h_10 (fun _ _ _ => Iff.trans (dt_a (And.left h)) (Iff.trans (dt_a (And.left (And.right h))) (Iff.trans (dt_2 c_1 c_1) (Iff.trans (dt_1 c_7 (fun n => n c_7)) (i_9 _ _)))))) (fun a0 a1 h_12 i_11 => k_T a0 a1 h_12 (fun _ _ _ => Iff.trans (dt_a (And.left h)) (Iff.trans (dt_a (And.left (And.right h))) (Iff.trans (dt_2 c_1 c_1) (Iff.trans (dt_1 c_7 (fun n => n c_7)) (i_11 _ _))))))
    ·
      refine dt_n h_8 (fun c_13 h_14 => ?_) (fun c_13 h_14 => ?_)
      ·
        refine d_p_Un_readCodes h_14 (fun S42 h_16 i_15 => ?_) (fun a0 a1 h_18 i_17 => k_T a0 a1 h_18 (fun _ _ _ => Iff.trans (dt_a (And.left h)) (Iff.trans (dt_a (And.left (And.right h))) (Iff.trans (dt_2 c_1 c_1) (Iff.trans (dt_2 c_7 c_7) (Iff.trans (dt_1 c_13 c_13) (i_17 _ _)))))))
        exact d_b_Un_readParts_45 h_16 (fun a0 a1 a2 h_20 i_19 => k_R2 a0 a1 a2 h_20 (fun _ _ _ => Iff.trans (dt_a (And.left h)) (Iff.trans (dt_a (And.left (And.right h))) (Iff.trans (dt_2 c_1 c_1) (Iff.trans (dt_2 c_7 c_7) (Iff.trans (dt_1 c_13 c_13) (Iff.trans (i_15 _ _) (i_19 _ _ _)))))))) (fun a0 h_22 i_21 => k_K a0 h_22 (fun _ _ _ => Iff.trans (dt_a (And.left h)) (Iff.trans (dt_a (And.left (And.right h))) (Iff.trans (dt_2 c_1 c_1) (Iff.trans (dt_2 c_7 c_7) (Iff.trans (dt_1 c_13 c_13) (Iff.trans (i_15 _ _) (i_21 _ _ _)))))))) (fun a0 a1 h_24 i_23 => k_T a0 a1 h_24 (fun _ _ _ => Iff.trans (dt_a (And.left h)) (Iff.trans (dt_a (And.left (And.right h))) (Iff.trans (dt_2 c_1 c_1) (Iff.trans (dt_2 c_7 c_7) (Iff.trans (dt_1 c_13 c_13) (Iff.trans (i_15 _ _) (i_23 _ _ _))))))))
      ·
        refine d_p_Un_readTable h_14 (fun S35 h_26 i_25 => ?_) (fun a0 a1 h_28 i_27 => k_T a0 a1 h_28 (fun _ _ _ => Iff.trans (dt_a (And.left h)) (Iff.trans (dt_a (And.left (And.right h))) (Iff.trans (dt_2 c_1 c_1) (Iff.trans (dt_2 c_7 c_7) (Iff.trans (dt_2 (fun n => n c_13) c_13) (i_27 _ _)))))))
        exact d_b_Un_readParts_45 h_26 (fun a0 a1 a2 h_30 i_29 => k_R2 a0 a1 a2 h_30 (fun _ _ _ => Iff.trans (dt_a (And.left h)) (Iff.trans (dt_a (And.left (And.right h))) (Iff.trans (dt_2 c_1 c_1) (Iff.trans (dt_2 c_7 c_7) (Iff.trans (dt_2 (fun n => n c_13) c_13) (Iff.trans (i_25 _ _) (i_29 _ _ _)))))))) (fun a0 h_32 i_31 => k_K a0 h_32 (fun _ _ _ => Iff.trans (dt_a (And.left h)) (Iff.trans (dt_a (And.left (And.right h))) (Iff.trans (dt_2 c_1 c_1) (Iff.trans (dt_2 c_7 c_7) (Iff.trans (dt_2 (fun n => n c_13) c_13) (Iff.trans (i_25 _ _) (i_31 _ _ _)))))))) (fun a0 a1 h_34 i_33 => k_T a0 a1 h_34 (fun _ _ _ => Iff.trans (dt_a (And.left h)) (Iff.trans (dt_a (And.left (And.right h))) (Iff.trans (dt_2 c_1 c_1) (Iff.trans (dt_2 c_7 c_7) (Iff.trans (dt_2 (fun n => n c_13) c_13) (Iff.trans (i_25 _ _) (i_33 _ _ _))))))))
theorem l_e_Un_readParts_2 {U : ut} {u : Nat} {x1 : Int32} {x2 : Int32} {S : cs} {K : cs → Prop} {T : Nat → cs → Prop} : e_Un_readParts_2 U u x1 x2 S K T ↔ lpE (C := (cs → Prop) × (Nat → cs → Prop)) (fun (y : (Int32) × (Int32) × (cs)) (R : ((Int32) × (Int32) × (cs)) → Prop) (c : (cs → Prop) × (Nat → cs → Prop)) => b_Un_readParts_2 U u y.1 y.2.1 y.2.2 (fun z0 z1 z2 => R (z0, z1, z2)) c.1 c.2) (x1, x2, S) (K, T) :=
  ⟨fun ⟨I, μ, h0, hs⟩ => ⟨fun t => I t.1 t.2.1 t.2.2, fun t => μ t.1 t.2.1 t.2.2, h0, fun t ht => hs _ _ _ ht⟩, fun ⟨I, μ, h0, hs⟩ => ⟨fun y0 y1 y2 => I (y0, y1, y2), fun y0 y1 y2 => μ (y0, y1, y2), h0, fun y0 y1 y2 hy => hs (y0, y1, y2) hy⟩⟩
set_option maxHeartbeats 1000000 in
theorem d_e_Un_readParts_2 {U : ut} {u : Nat} {x1 : Int32} {x2 : Int32} {S : cs} {K : cs → Prop} {T : Nat → cs → Prop} (h : e_Un_readParts_2 U u x1 x2 S K T) {Q : Prop} (k_K : ∀ (a0 : cs), K a0 → (∀ (K' : cs → Prop) (T' : Nat → cs → Prop), e_Un_readParts_2 U u x1 x2 S K' T' ↔ K' a0) → Q) (k_T : ∀ (a0 : Nat) (a1 : cs), T a0 a1 → (∀ (K' : cs → Prop) (T' : Nat → cs → Prop), e_Un_readParts_2 U u x1 x2 S K' T' ↔ T' a0 a1) → Q) : Q := by
  obtain ⟨o, ho, hoc, hi⟩ := lp_det (C := (cs → Prop) × (Nat → cs → Prop)) (b := (fun (y : (Int32) × (Int32) × (cs)) (R : ((Int32) × (Int32) × (cs)) → Prop) (c : (cs → Prop) × (Nat → cs → Prop)) => b_Un_readParts_2 U u y.1 y.2.1 y.2.2 (fun z0 z1 z2 => R (z0, z1, z2)) c.1 c.2)) (O := (fun (o : ((cs → Prop) × (Nat → cs → Prop)) → Prop) => (∃ (a0 : cs), o = fun c => c.1 a0) ∨ (∃ (a0 : Nat) (a1 : cs), o = fun c => c.2 a0 a1))) (fun y R c hy => d_b_Un_readParts_2 hy (fun a0 a1 a2 ha ia => Or.inl ⟨(a0, a1, a2), ha, fun R' c' => ia (fun z0 z1 z2 => R' (z0, z1, z2)) c'.1 c'.2⟩) (fun a0 ha ia => Or.inr ⟨(fun c => c.1 a0), Or.inl ⟨a0, rfl⟩, ha, fun R' c' => ia (fun z0 z1 z2 => R' (z0, z1, z2)) c'.1 c'.2⟩) (fun a0 a1 ha ia => Or.inr ⟨(fun c => c.2 a0 a1), Or.inr (⟨a0, a1, rfl⟩), ha, fun R' c' => ia (fun z0 z1 z2 => R' (z0, z1, z2)) c'.1 c'.2⟩)) (l_e_Un_readParts_2.mp h)
  rcases ho with ⟨a0, rfl⟩ | ⟨a0, a1, rfl⟩
  · exact k_K _ hoc (fun K' T' => Iff.trans l_e_Un_readParts_2 (hi (K', T')))
  · exact k_T _ _ hoc (fun K' T' => Iff.trans l_e_Un_readParts_2 (hi (K', T')))
theorem v_e_Un_readParts_2 {U : ut} {u : Nat} {x1 : Int32} {x2 : Int32} {S : cs} {K : cs → Prop} {T : Nat → cs → Prop} (h : e_Un_readParts_2 U u x1 x2 S K T) {G : Prop} (Inv : Int32 → cs → Prop) (h0 : Inv x2 S) (hs : ∀ (yx2 : Int32) (yS : cs) (R : Int32 → Int32 → cs → Prop), Inv yx2 yS → b_Un_readParts_2 U u x1 yx2 yS R K T → (∃ (zx2 : Int32) (zS : cs), R x1 zx2 zS ∧ Inv zx2 zS) ∨ G) : G := by
  obtain ⟨I, μ, i0, is⟩ := h
  have go : ∀ (n : Nat) (yx2 : Int32) (yS : cs), μ x1 yx2 yS < n → I x1 yx2 yS → Inv yx2 yS → G := by
    intro n
    induction n with
    | zero => intro yx2 yS hy; exact absurd hy (Nat.not_lt_zero _)
    | succ n ih =>
      intro yx2 yS hy hI hV
      rcases hs yx2 yS _ hV (is x1 yx2 yS hI) with ⟨zx2, zS, ⟨hz, hm⟩, hv⟩ | g
      · exact ih zx2 zS (Nat.lt_of_lt_of_le hm (Nat.le_of_lt_succ hy)) hz hv
      · exact g
  exact go _ x2 S (Nat.lt_succ_self _) i0 h0
theorem r_e_Un_readParts_2 {U : ut} {u : Nat} {x1 : Int32} {x2 : Int32} {S : cs} {K : cs → Prop} {T : Nat → cs → Prop} (h : e_Un_readParts_2 U u x1 x2 S K T) : b_Un_readParts_2 U u x1 x2 S (fun zx1 zx2 zS => e_Un_readParts_2 U u zx1 zx2 zS K T) K T := by
  obtain ⟨I, μ, i0, is⟩ := h
  exact d_b_Un_readParts_2 (is x1 x2 S i0) (fun a0 a1 a2 ha ia => (ia _ _ _).mpr ⟨I, μ, ha.1, is⟩) (fun a0 ha ia => (ia _ _ _).mpr ha) (fun a0 a1 ha ia => (ia _ _ _).mpr ha)
set_option maxHeartbeats 1000000 in
theorem d_p_Un_readParts {U : ut} {u : Nat} {x1 : Int32} {S : cs} {K : cs → Prop} {T : Nat → cs → Prop} (h : p_Un_readParts U u x1 S K T) {Q : Prop} (k_K : ∀ (a0 : cs), K a0 → (∀ (K' : cs → Prop) (T' : Nat → cs → Prop), p_Un_readParts U u x1 S K' T' ↔ K' a0) → Q) (k_T : ∀ (a0 : Nat) (a1 : cs), T a0 a1 → (∀ (K' : cs → Prop) (T' : Nat → cs → Prop), p_Un_readParts U u x1 S K' T' ↔ T' a0 a1) → Q) : Q := by
  unfold p_Un_readParts at h
  exact d_e_Un_readParts_2 h (fun a0 h_2 i_1 => k_K a0 h_2 (fun _ _ => i_1 _ _)) (fun a0 a1 h_4 i_3 => k_T a0 a1 h_4 (fun _ _ => i_3 _ _))
set_option maxHeartbeats 1000000 in
theorem d_p_Re_skip {U : ut} {u : Nat} {x1 : Int32} {S : cs} {K : cs → Prop} (h : p_Re_skip U u x1 S K) {Q : Prop} (k_K : ∀ (a0 : cs), K a0 → (∀ (K' : cs → Prop), p_Re_skip U u x1 S K' ↔ K' a0) → Q) : Q := by
  unfold p_Re_skip at h
  exact k_K _ h (fun _ => Iff.rfl)
set_option maxHeartbeats 1000000 in
theorem d_b_Un_readSection_157 {U : ut} {u : Nat} {S : cs} {K : cs → Prop} {T : Nat → cs → Prop} (h : b_Un_readSection_157 U u S K T) {Q : Prop} (k_K : ∀ (a0 : cs), K a0 → (∀ (K' : cs → Prop) (T' : Nat → cs → Prop), b_Un_readSection_157 U u S K' T' ↔ K' a0) → Q) (k_T : ∀ (a0 : Nat) (a1 : cs), T a0 a1 → (∀ (K' : cs → Prop) (T' : Nat → cs → Prop), b_Un_readSection_157 U u S K' T' ↔ T' a0 a1) → Q) : Q := by
  unfold b_Un_readSection_157 at h
  exact k_K _ h (fun _ _ => Iff.rfl)
set_option maxHeartbeats 1000000 in
theorem d_b_Un_readSection_141 {U : ut} {u : Nat} {s1 : Int32} {S : cs} {K : cs → Prop} {T : Nat → cs → Prop} (h : b_Un_readSection_141 U u s1 S K T) {Q : Prop} (k_K : ∀ (a0 : cs), K a0 → (∀ (K' : cs → Prop) (T' : Nat → cs → Prop), b_Un_readSection_141 U u s1 S K' T' ↔ K' a0) → Q) (k_T : ∀ (a0 : Nat) (a1 : cs), T a0 a1 → (∀ (K' : cs → Prop) (T' : Nat → cs → Prop), b_Un_readSection_141 U u s1 S K' T' ↔ T' a0 a1) → Q) : Q := by
  unfold b_Un_readSection_141 at h
  refine d_p_Un_wantLength h (fun S141 h_2 i_1 => ?_) (fun a0 a1 h_4 i_3 => k_T a0 a1 h_4 (fun _ _ => i_3 _ _))
  refine d_p_Re_skip (And.right (And.right h_2)) (fun S154 h_6 i_5 => ?_)
  exact d_b_Un_readSection_157 h_6 (fun a0 h_8 i_7 => k_K a0 h_8 (fun _ _ => Iff.trans (i_1 _ _) (Iff.trans (dt_a (And.left h_2)) (Iff.trans (dt_a (And.left (And.right h_2))) (Iff.trans (i_5 _) (i_7 _ _)))))) (fun a0 a1 h_10 i_9 => k_T a0 a1 h_10 (fun _ _ => Iff.trans (i_1 _ _) (Iff.trans (dt_a (And.left h_2)) (Iff.trans (dt_a (And.left (And.right h_2))) (Iff.trans (i_5 _) (i_9 _ _))))))
set_option maxHeartbeats 1000000 in
theorem d_b_Un_readSection_116 {U : ut} {u : Nat} {x1 : Int32} {s1 : Int32} {S : cs} {K : cs → Prop} {T : Nat → cs → Prop} (h : b_Un_readSection_116 U u x1 s1 S K T) {Q : Prop} (k_K : ∀ (a0 : cs), K a0 → (∀ (K' : cs → Prop) (T' : Nat → cs → Prop), b_Un_readSection_116 U u x1 s1 S K' T' ↔ K' a0) → Q) (k_T : ∀ (a0 : Nat) (a1 : cs), T a0 a1 → (∀ (K' : cs → Prop) (T' : Nat → cs → Prop), b_Un_readSection_116 U u x1 s1 S K' T' ↔ T' a0 a1) → Q) : Q := by
  unfold b_Un_readSection_116 at h
  refine d_p_Un_wantLength h (fun S116 h_2 i_1 => ?_) (fun a0 a1 h_4 i_3 => k_T a0 a1 h_4 (fun _ _ => i_3 _ _))
  refine d_p_Un_readParts h_2 (fun S121 h_6 i_5 => ?_) (fun a0 a1 h_8 i_7 => k_T a0 a1 h_8 (fun _ _ => Iff.trans (i_1 _ _) (i_7 _ _)))
  exact d_b_Un_readSection_157 h_6 (fun a0 h_10 i_9 => k_K a0 h_10 (fun _ _ => Iff.trans (i_1 _ _) (Iff.trans (i_5 _ _) (i_9 _ _)))) (fun a0 a1 h_12 i_11 => k_T a0 a1 h_12 (fun _ _ => Iff.trans (i_1 _ _) (Iff.trans (i_5 _ _) (i_11 _ _))))
set_option maxHeartbeats 1000000 in
theorem d_b_Un_readSection_102 {U : ut} {u : Nat} {x1 : Int32} {S : cs} {K : cs → Prop} {T : Nat → cs → Prop} (h : b_Un_readSection_102 U u x1 S K T) {Q : Prop} (k_K : ∀ (a0 : cs), K a0 → (∀ (K' : cs → Prop) (T' : Nat → cs → Prop), b_Un_readSection_102 U u x1 S K' T' ↔ K' a0) → Q) (k_T : ∀ (a0 : Nat) (a1 : cs), T a0 a1 → (∀ (K' : cs → Prop) (T' : Nat → cs → Prop), b_Un_readSection_102 U u x1 S K' T' ↔ T' a0 a1) → Q) : Q := by
  unfold b_Un_readSection_102 at h
  refine dt_p h (fun c_1 h_2 => ?_) (fun c_1 h_2 => ?_)
  ·
    exact d_b_Un_readSection_116 h_2 (fun a0 h_4 i_3 => k_K a0 h_4 (fun _ _ => Iff.trans (dt_1 c_1 (fun n => n c_1)) (i_3 _ _))) (fun a0 a1 h_6 i_5 => k_T a0 a1 h_6 (fun _ _ => Iff.trans (dt_1 c_1 (fun n => n c_1)) (i_5 _ _)))
  ·
    exact d_b_Un_readSection_116 h_2 (fun a0 h_8 i_7 => k_K a0 h_8 (fun _ _ => Iff.trans (dt_2 c_1 c_1) (i_7 _ _))) (fun a0 a1 h_10 i_9 => k_T a0 a1 h_10 (fun _ _ => Iff.trans (dt_2 c_1 c_1) (i_9 _ _)))
set_option maxHeartbeats 1000000 in
theorem d_b_Un_readSection_71 {U : ut} {u : Nat} {s1 : Int32} {S : cs} {K : cs → Prop} {T : Nat → cs → Prop} (h : b_Un_readSection_71 U u s1 S K T) {Q : Prop} (k_K : ∀ (a0 : cs), K a0 → (∀ (K' : cs → Prop) (T' : Nat → cs → Prop), b_Un_readSection_71 U u s1 S K' T' ↔ K' a0) → Q) (k_T : ∀ (a0 : Nat) (a1 : cs), T a0 a1 → (∀ (K' : cs → Prop) (T' : Nat → cs → Prop), b_Un_readSection_71 U u s1 S K' T' ↔ T' a0 a1) → Q) : Q := by
  unfold b_Un_readSection_71 at h
  refine d_p_Un_wantLength h (fun S71 h_2 i_1 => ?_) (fun a0 a1 h_4 i_3 => k_T a0 a1 h_4 (fun _ _ => i_3 _ _))
  refine d_p_Re_readTwo (And.right (And.right h_2)) (fun v79 S79 h_6 i_5 => ?_) (fun a0 a1 h_8 i_7 => k_T a0 a1 h_8 (fun _ _ => Iff.trans (i_1 _ _) (Iff.trans (dt_a (And.left h_2)) (Iff.trans (dt_a (And.left (And.right h_2))) (i_7 _ _)))))
  exact d_b_Un_readSection_157 h_6 (fun a0 h_10 i_9 => k_K a0 h_10 (fun _ _ => Iff.trans (i_1 _ _) (Iff.trans (dt_a (And.left h_2)) (Iff.trans (dt_a (And.left (And.right h_2))) (Iff.trans (i_5 _ _) (i_9 _ _)))))) (fun a0 a1 h_12 i_11 => k_T a0 a1 h_12 (fun _ _ => Iff.trans (i_1 _ _) (Iff.trans (dt_a (And.left h_2)) (Iff.trans (dt_a (And.left (And.right h_2))) (Iff.trans (i_5 _ _) (i_11 _ _))))))
set_option maxHeartbeats 1000000 in
theorem d_p_Un_readSection {U : ut} {u : Nat} {x1 : Int32} {S : cs} {K : cs → Prop} {T : Nat → cs → Prop} (h : p_Un_readSection U u x1 S K T) {Q : Prop} (k_K : ∀ (a0 : cs), K a0 → (∀ (K' : cs → Prop) (T' : Nat → cs → Prop), p_Un_readSection U u x1 S K' T' ↔ K' a0) → Q) (k_T : ∀ (a0 : Nat) (a1 : cs), T a0 a1 → (∀ (K' : cs → Prop) (T' : Nat → cs → Prop), p_Un_readSection U u x1 S K' T' ↔ T' a0 a1) → Q) : Q := by
  unfold p_Un_readSection at h
  refine d_p_Re_readTwo (And.right (And.right (And.right h))) (fun v16 S16 h_2 i_1 => ?_) (fun a0 a1 h_4 i_3 => k_T a0 a1 h_4 (fun _ _ => Iff.trans (dt_a (And.left h)) (Iff.trans (dt_a (And.left (And.right h))) (Iff.trans (dt_a (And.left (And.right (And.right h)))) (i_3 _ _)))))
  refine dt_n h_2 (fun c_5 h_6 => ?_) (fun c_5 h_6 => ?_)
  ·
    refine dt_n h_6 (fun c_7 h_8 => ?_) (fun c_7 h_8 => ?_)
    ·
      refine dt_n h_8 (fun c_9 h_10 => ?_) (fun c_9 h_10 => ?_)
      ·
        refine dt_p h_10 (fun c_11 h_12 => ?_) (fun c_11 h_12 => ?_)
        ·
          exact d_b_Un_readSection_102 h_12 (fun a0 h_14 i_13 => k_K a0 h_14 (fun _ _ => Iff.trans (dt_a (And.left h)) (Iff.trans (dt_a (And.left (And.right h))) (Iff.trans (dt_a (And.left (And.right (And.right h)))) (Iff.trans (i_1 _ _) (Iff.trans (dt_1 c_5 c_5) (Iff.trans (dt_1 c_7 c_7) (Iff.trans (dt_1 c_9 c_9) (Iff.trans (dt_1 c_11 (fun n => n c_11)) (i_13 _ _)))))))))) (fun a0 a1 h_16 i_15 => k_T a0 a1 h_16 (fun _ _ => Iff.trans (dt_a (And.left h)) (Iff.trans (dt_a (And.left (And.right h))) (Iff.trans (dt_a (And.left (And.right (And.right h)))) (Iff.trans (i_1 _ _) (Iff.trans (dt_1 c_5 c_5) (Iff.trans (dt_1 c_7 c_7) (Iff.trans (dt_1 c_9 c_9) (Iff.trans (dt_1 c_11 (fun n => n c_11)) (i_15 _ _))))))))))
        ·
          refine dt_n h_12 (fun c_17 h_18 => ?_) (fun c_17 h_18 => ?_)
          ·
            refine dt_p h_18 (fun c_19 h_20 => ?_) (fun c_19 h_20 => ?_)
            ·
              exact d_b_Un_readSection_141 h_20 (fun a0 h_22 i_21 => k_K a0 h_22 (fun _ _ => Iff.trans (dt_a (And.left h)) (Iff.trans (dt_a (And.left (And.right h))) (Iff.trans (dt_a (And.left (And.right (And.right h)))) (Iff.trans (i_1 _ _) (Iff.trans (dt_1 c_5 c_5) (Iff.trans (dt_1 c_7 c_7) (Iff.trans (dt_1 c_9 c_9) (Iff.trans (dt_2 c_11 c_11) (Iff.trans (dt_1 c_17 c_17) (Iff.trans (dt_1 c_19 (fun n => n c_19)) (i_21 _ _)))))))))))) (fun a0 a1 h_24 i_23 => k_T a0 a1 h_24 (fun _ _ => Iff.trans (dt_a (And.left h)) (Iff.trans (dt_a (And.left (And.right h))) (Iff.trans (dt_a (And.left (And.right (And.right h)))) (Iff.trans (i_1 _ _) (Iff.trans (dt_1 c_5 c_5) (Iff.trans (dt_1 c_7 c_7) (Iff.trans (dt_1 c_9 c_9) (Iff.trans (dt_2 c_11 c_11) (Iff.trans (dt_1 c_17 c_17) (Iff.trans (dt_1 c_19 (fun n => n c_19)) (i_23 _ _))))))))))))
            ·
              exact d_b_Un_readSection_141 h_20 (fun a0 h_26 i_25 => k_K a0 h_26 (fun _ _ => Iff.trans (dt_a (And.left h)) (Iff.trans (dt_a (And.left (And.right h))) (Iff.trans (dt_a (And.left (And.right (And.right h)))) (Iff.trans (i_1 _ _) (Iff.trans (dt_1 c_5 c_5) (Iff.trans (dt_1 c_7 c_7) (Iff.trans (dt_1 c_9 c_9) (Iff.trans (dt_2 c_11 c_11) (Iff.trans (dt_1 c_17 c_17) (Iff.trans (dt_2 c_19 c_19) (i_25 _ _)))))))))))) (fun a0 a1 h_28 i_27 => k_T a0 a1 h_28 (fun _ _ => Iff.trans (dt_a (And.left h)) (Iff.trans (dt_a (And.left (And.right h))) (Iff.trans (dt_a (And.left (And.right (And.right h)))) (Iff.trans (i_1 _ _) (Iff.trans (dt_1 c_5 c_5) (Iff.trans (dt_1 c_7 c_7) (Iff.trans (dt_1 c_9 c_9) (Iff.trans (dt_2 c_11 c_11) (Iff.trans (dt_1 c_17 c_17) (Iff.trans (dt_2 c_19 c_19) (i_27 _ _))))))))))))
          ·
            exact d_b_Un_readSection_102 h_18 (fun a0 h_30 i_29 => k_K a0 h_30 (fun _ _ => Iff.trans (dt_a (And.left h)) (Iff.trans (dt_a (And.left (And.right h))) (Iff.trans (dt_a (And.left (And.right (And.right h)))) (Iff.trans (i_1 _ _) (Iff.trans (dt_1 c_5 c_5) (Iff.trans (dt_1 c_7 c_7) (Iff.trans (dt_1 c_9 c_9) (Iff.trans (dt_2 c_11 c_11) (Iff.trans (dt_2 (fun n => n c_17) c_17) (i_29 _ _))))))))))) (fun a0 a1 h_32 i_31 => k_T a0 a1 h_32 (fun _ _ => Iff.trans (dt_a (And.left h)) (Iff.trans (dt_a (And.left (And.right h))) (Iff.trans (dt_a (And.left (And.right (And.right h)))) (Iff.trans (i_1 _ _) (Iff.trans (dt_1 c_5 c_5) (Iff.trans (dt_1 c_7 c_7) (Iff.trans (dt_1 c_9 c_9) (Iff.trans (dt_2 c_11 c_11) (Iff.trans (dt_2 (fun n => n c_17) c_17) (i_31 _ _)))))))))))
      ·
        refine dt_n h_10 (fun c_33 h_34 => ?_) (fun c_33 h_34 => ?_)
        ·
          exact d_b_Un_readSection_71 h_34 (fun a0 h_36 i_35 => k_K a0 h_36 (fun _ _ => Iff.trans (dt_a (And.left h)) (Iff.trans (dt_a (And.left (And.right h))) (Iff.trans (dt_a (And.left (And.right (And.right h)))) (Iff.trans (i_1 _ _) (Iff.trans (dt_1 c_5 c_5) (Iff.trans (dt_1 c_7 c_7) (Iff.trans (dt_2 (fun n => n c_9) c_9) (Iff.trans (dt_1 c_33 c_33) (i_35 _ _)))))))))) (fun a0 a1 h_38 i_37 => k_T a0 a1 h_38 (fun _ _ => Iff.trans (dt_a (And.left h)) (Iff.trans (dt_a (And.left (And.right h))) (Iff.trans (dt_a (And.left (And.right (And.right h)))) (Iff.trans (i_1 _ _) (Iff.trans (dt_1 c_5 c_5) (Iff.trans (dt_1 c_7 c_7) (Iff.trans (dt_2 (fun n => n c_9) c_9) (Iff.trans (dt_1 c_33 c_33) (i_37 _ _))))))))))
        ·
          exact d_b_Un_readSection_71 h_34 (fun a0 h_40 i_39 => k_K a0 h_40 (fun _ _ => Iff.trans (dt_a (And.left h)) (Iff.trans (dt_a (And.left (And.right h))) (Iff.trans (dt_a (And.left (And.right (And.right h)))) (Iff.trans (i_1 _ _) (Iff.trans (dt_1 c_5 c_5) (Iff.trans (dt_1 c_7 c_7) (Iff.trans (dt_2 (fun n => n c_9) c_9) (Iff.trans (dt_2 (fun n => n c_33) c_33) (i_39 _ _)))))))))) (fun a0 a1 h_42 i_41 => k_T a0 a1 h_42 (fun _ _ => Iff.trans (dt_a (And.left h)) (Iff.trans (dt_a (And.left (And.right h))) (Iff.trans (dt_a (And.left (And.right (And.right h)))) (Iff.trans (i_1 _ _) (Iff.trans (dt_1 c_5 c_5) (Iff.trans (dt_1 c_7 c_7) (Iff.trans (dt_2 (fun n => n c_9) c_9) (Iff.trans (dt_2 (fun n => n c_33) c_33) (i_41 _ _))))))))))
    ·
      refine d_p_Un_readScan h_8 (fun S44 h_44 i_43 => ?_) (fun a0 a1 h_46 i_45 => k_T a0 a1 h_46 (fun _ _ => Iff.trans (dt_a (And.left h)) (Iff.trans (dt_a (And.left (And.right h))) (Iff.trans (dt_a (And.left (And.right (And.right h)))) (Iff.trans (i_1 _ _) (Iff.trans (dt_1 c_5 c_5) (Iff.trans (dt_2 (fun n => n c_7) c_7) (i_45 _ _))))))))
      exact d_b_Un_readSection_157 h_44 (fun a0 h_48 i_47 => k_K a0 h_48 (fun _ _ => Iff.trans (dt_a (And.left h)) (Iff.trans (dt_a (And.left (And.right h))) (Iff.trans (dt_a (And.left (And.right (And.right h)))) (Iff.trans (i_1 _ _) (Iff.trans (dt_1 c_5 c_5) (Iff.trans (dt_2 (fun n => n c_7) c_7) (Iff.trans (i_43 _ _) (i_47 _ _))))))))) (fun a0 a1 h_50 i_49 => k_T a0 a1 h_50 (fun _ _ => Iff.trans (dt_a (And.left h)) (Iff.trans (dt_a (And.left (And.right h))) (Iff.trans (dt_a (And.left (And.right (And.right h)))) (Iff.trans (i_1 _ _) (Iff.trans (dt_1 c_5 c_5) (Iff.trans (dt_2 (fun n => n c_7) c_7) (Iff.trans (i_43 _ _) (i_49 _ _)))))))))
  ·
    refine d_p_Un_readFrame h_6 (fun S30 h_52 i_51 => ?_) (fun a0 a1 h_54 i_53 => k_T a0 a1 h_54 (fun _ _ => Iff.trans (dt_a (And.left h)) (Iff.trans (dt_a (And.left (And.right h))) (Iff.trans (dt_a (And.left (And.right (And.right h)))) (Iff.trans (i_1 _ _) (Iff.trans (dt_2 (fun n => n c_5) c_5) (i_53 _ _)))))))
    exact d_b_Un_readSection_157 h_52 (fun a0 h_56 i_55 => k_K a0 h_56 (fun _ _ => Iff.trans (dt_a (And.left h)) (Iff.trans (dt_a (And.left (And.right h))) (Iff.trans (dt_a (And.left (And.right (And.right h)))) (Iff.trans (i_1 _ _) (Iff.trans (dt_2 (fun n => n c_5) c_5) (Iff.trans (i_51 _ _) (i_55 _ _)))))))) (fun a0 a1 h_58 i_57 => k_T a0 a1 h_58 (fun _ _ => Iff.trans (dt_a (And.left h)) (Iff.trans (dt_a (And.left (And.right h))) (Iff.trans (dt_a (And.left (And.right (And.right h)))) (Iff.trans (i_1 _ _) (Iff.trans (dt_2 (fun n => n c_5) c_5) (Iff.trans (i_51 _ _) (i_57 _ _))))))))
set_option maxHeartbeats 1000000 in
theorem d_p_Re_dropBits {U : ut} {u : Nat} {S : cs} {K : cs → Prop} (h : p_Re_dropBits U u S K) {Q : Prop} (k_K : ∀ (a0 : cs), K a0 → (∀ (K' : cs → Prop), p_Re_dropBits U u S K' ↔ K' a0) → Q) : Q := by
  unfold p_Re_dropBits at h
  exact k_K _ h (fun _ => Iff.rfl)
set_option maxHeartbeats 1000000 in
theorem d_b_Un_readAgain_35 {U : ut} {u : Nat} {S : cs} {K : cs → Prop} {T : Nat → cs → Prop} (h : b_Un_readAgain_35 U u S K T) {Q : Prop} (k_K : ∀ (a0 : cs), K a0 → (∀ (K' : cs → Prop) (T' : Nat → cs → Prop), b_Un_readAgain_35 U u S K' T' ↔ K' a0) → Q) (k_T : ∀ (a0 : Nat) (a1 : cs), T a0 a1 → (∀ (K' : cs → Prop) (T' : Nat → cs → Prop), b_Un_readAgain_35 U u S K' T' ↔ T' a0 a1) → Q) : Q := by
  unfold b_Un_readAgain_35 at h
  refine d_p_Ar_fillI (And.right h) (fun S40 h_2 i_1 => ?_)
  exact k_K _ h_2 (fun _ _ => Iff.trans (dt_a (And.left h)) (i_1 _))
set_option maxHeartbeats 1000000 in
theorem d_p_Un_readAgain {U : ut} {u : Nat} {x1 : Int32} {S : cs} {K : cs → Prop} {T : Nat → cs → Prop} (h : p_Un_readAgain U u x1 S K T) {Q : Prop} (k_K : ∀ (a0 : cs), K a0 → (∀ (K' : cs → Prop) (T' : Nat → cs → Prop), p_Un_readAgain U u x1 S K' T' ↔ K' a0) → Q) (k_T : ∀ (a0 : Nat) (a1 : cs), T a0 a1 → (∀ (K' : cs → Prop) (T' : Nat → cs → Prop), p_Un_readAgain U u x1 S K' T' ↔ T' a0 a1) → Q) : Q := by
  unfold p_Un_readAgain at h
  refine d_p_Re_dropBits (And.right (And.right h)) (fun S4 h_2 i_1 => ?_)
  refine d_p_Re_readMark (And.right (And.right h_2)) (fun v11 S11 h_4 i_3 => ?_) (fun a0 a1 h_6 i_5 => k_T a0 a1 h_6 (fun _ _ => Iff.trans (dt_a (And.left h)) (Iff.trans (dt_a (And.left (And.right h))) (Iff.trans (i_1 _) (Iff.trans (dt_a (And.left h_2)) (Iff.trans (dt_a (And.left (And.right h_2))) (i_5 _ _)))))))
  refine dt_p h_4 (fun c_7 h_8 => ?_) (fun c_7 h_8 => ?_)
  ·
    exact d_b_Un_readAgain_35 h_8 (fun a0 h_10 i_9 => k_K a0 h_10 (fun _ _ => Iff.trans (dt_a (And.left h)) (Iff.trans (dt_a (And.left (And.right h))) (Iff.trans (i_1 _) (Iff.trans (dt_a (And.left h_2)) (Iff.trans (dt_a (And.left (And.right h_2))) (Iff.trans (i_3 _ _) (Iff.trans (dt_1 c_7 (fun n => n c_7)) (i_9 _ _))))))))) (fun a0 a1 h_12 i_11 => k_T a0 a1 h_12 (fun _ _ => Iff.trans (dt_a (And.left h)) (Iff.trans (dt_a (And.left (And.right h))) (Iff.trans (i_1 _) (Iff.trans (dt_a (And.left h_2)) (Iff.trans (dt_a (And.left (And.right h_2))) (Iff.trans (i_3 _ _) (Iff.trans (dt_1 c_7 (fun n => n c_7)) (i_11 _ _)))))))))
  ·
    refine d_p_Re_fail (And.right (And.right (And.right h_8))) (fun S32 h_14 i_13 => ?_) (fun a0 a1 h_16 i_15 => k_T a0 a1 h_16 (fun _ _ => Iff.trans (dt_a (And.left h)) (Iff.trans (dt_a (And.left (And.right h))) (Iff.trans (i_1 _) (Iff.trans (dt_a (And.left h_2)) (Iff.trans (dt_a (And.left (And.right h_2))) (Iff.trans (i_3 _ _) (Iff.trans (dt_2 c_7 c_7) (Iff.trans (dt_a (And.left h_8)) (Iff.trans (dt_a (And.left (And.right h_8))) (Iff.trans (dt_a (And.left (And.right (And.right h_8)))) (i_15 _ _))))))))))))
    exact d_b_Un_readAgain_35 h_14 (fun a0 h_18 i_17 => k_K a0 h_18 (fun _ _ => Iff.trans (dt_a (And.left h)) (Iff.trans (dt_a (And.left (And.right h))) (Iff.trans (i_1 _) (Iff.trans (dt_a (And.left h_2)) (Iff.trans (dt_a (And.left (And.right h_2))) (Iff.trans (i_3 _ _) (Iff.trans (dt_2 c_7 c_7) (Iff.trans (dt_a (And.left h_8)) (Iff.trans (dt_a (And.left (And.right h_8))) (Iff.trans (dt_a (And.left (And.right (And.right h_8)))) (Iff.trans (i_13 _ _) (i_17 _ _))))))))))))) (fun a0 a1 h_20 i_19 => k_T a0 a1 h_20 (fun _ _ => Iff.trans (dt_a (And.left h)) (Iff.trans (dt_a (And.left (And.right h))) (Iff.trans (i_1 _) (Iff.trans (dt_a (And.left h_2)) (Iff.trans (dt_a (And.left (And.right h_2))) (Iff.trans (i_3 _ _) (Iff.trans (dt_2 c_7 c_7) (Iff.trans (dt_a (And.left h_8)) (Iff.trans (dt_a (And.left (And.right h_8))) (Iff.trans (dt_a (And.left (And.right (And.right h_8)))) (Iff.trans (i_13 _ _) (i_19 _ _)))))))))))))
set_option maxHeartbeats 1000000 in
theorem d_b_Re_readBit_56 {U : ut} {u : Nat} {S : cs} {K : Int32 → cs → Prop} {T : Nat → cs → Prop} (h : b_Re_readBit_56 U u S K T) {Q : Prop} (k_K : ∀ (a0 : Int32) (a1 : cs), K a0 a1 → (∀ (K' : Int32 → cs → Prop) (T' : Nat → cs → Prop), b_Re_readBit_56 U u S K' T' ↔ K' a0 a1) → Q) (k_T : ∀ (a0 : Nat) (a1 : cs), T a0 a1 → (∀ (K' : Int32 → cs → Prop) (T' : Nat → cs → Prop), b_Re_readBit_56 U u S K' T' ↔ T' a0 a1) → Q) : Q := by
  unfold b_Re_readBit_56 at h
  exact k_K _ _ h (fun _ _ => Iff.rfl)
set_option maxHeartbeats 1000000 in
theorem d_b_Re_readBit_50 {U : ut} {u : Nat} {S : cs} {K : Int32 → cs → Prop} {T : Nat → cs → Prop} (h : b_Re_readBit_50 U u S K T) {Q : Prop} (k_K : ∀ (a0 : Int32) (a1 : cs), K a0 a1 → (∀ (K' : Int32 → cs → Prop) (T' : Nat → cs → Prop), b_Re_readBit_50 U u S K' T' ↔ K' a0 a1) → Q) (k_T : ∀ (a0 : Nat) (a1 : cs), T a0 a1 → (∀ (K' : Int32 → cs → Prop) (T' : Nat → cs → Prop), b_Re_readBit_50 U u S K' T' ↔ T' a0 a1) → Q) : Q := by
  unfold b_Re_readBit_50 at h
  exact d_b_Re_readBit_56 h (fun a0 a1 h_2 i_1 => k_K a0 a1 h_2 (fun _ _ => i_1 _ _)) (fun a0 a1 h_4 i_3 => k_T a0 a1 h_4 (fun _ _ => i_3 _ _))
set_option maxHeartbeats 1000000 in
theorem d_p_Re_readBit {U : ut} {u : Nat} {S : cs} {K : Int32 → cs → Prop} {T : Nat → cs → Prop} (h : p_Re_readBit U u S K T) {Q : Prop} (k_K : ∀ (a0 : Int32) (a1 : cs), K a0 a1 → (∀ (K' : Int32 → cs → Prop) (T' : Nat → cs → Prop), p_Re_readBit U u S K' T' ↔ K' a0 a1) → Q) (k_T : ∀ (a0 : Nat) (a1 : cs), T a0 a1 → (∀ (K' : Int32 → cs → Prop) (T' : Nat → cs → Prop), p_Re_readBit U u S K' T' ↔ T' a0 a1) → Q) : Q := by
  unfold p_Re_readBit at h
  refine dt_n h (fun c_1 h_2 => ?_) (fun c_1 h_2 => ?_)
  ·
    exact d_b_Re_readBit_56 h_2 (fun a0 a1 h_4 i_3 => k_K a0 a1 h_4 (fun _ _ => Iff.trans (dt_1 c_1 c_1) (i_3 _ _))) (fun a0 a1 h_6 i_5 => k_T a0 a1 h_6 (fun _ _ => Iff.trans (dt_1 c_1 c_1) (i_5 _ _)))
  ·
    refine d_p_Re_read h_2 (fun v17 S17 h_8 i_7 => ?_) (fun a0 a1 h_10 i_9 => k_T a0 a1 h_10 (fun _ _ => Iff.trans (dt_2 (fun n => n c_1) c_1) (i_9 _ _)))
    refine dt_n h_8 (fun c_11 h_12 => ?_) (fun c_11 h_12 => ?_)
    ·
      exact d_b_Re_readBit_50 h_12 (fun a0 a1 h_14 i_13 => k_K a0 a1 h_14 (fun _ _ => Iff.trans (dt_2 (fun n => n c_1) c_1) (Iff.trans (i_7 _ _) (Iff.trans (dt_1 c_11 c_11) (i_13 _ _))))) (fun a0 a1 h_16 i_15 => k_T a0 a1 h_16 (fun _ _ => Iff.trans (dt_2 (fun n => n c_1) c_1) (Iff.trans (i_7 _ _) (Iff.trans (dt_1 c_11 c_11) (i_15 _ _)))))
    ·
      refine d_p_Re_read h_12 (fun v34 S34 h_18 i_17 => ?_) (fun a0 a1 h_20 i_19 => k_T a0 a1 h_20 (fun _ _ => Iff.trans (dt_2 (fun n => n c_1) c_1) (Iff.trans (i_7 _ _) (Iff.trans (dt_2 (fun n => n c_11) c_11) (i_19 _ _)))))
      refine dt_p h_18 (fun c_21 h_22 => ?_) (fun c_21 h_22 => ?_)
      ·
        exact d_b_Re_readBit_50 h_22 (fun a0 a1 h_24 i_23 => k_K a0 a1 h_24 (fun _ _ => Iff.trans (dt_2 (fun n => n c_1) c_1) (Iff.trans (i_7 _ _) (Iff.trans (dt_2 (fun n => n c_11) c_11) (Iff.trans (i_17 _ _) (Iff.trans (dt_1 c_21 (fun n => n c_21)) (i_23 _ _))))))) (fun a0 a1 h_26 i_25 => k_T a0 a1 h_26 (fun _ _ => Iff.trans (dt_2 (fun n => n c_1) c_1) (Iff.trans (i_7 _ _) (Iff.trans (dt_2 (fun n => n c_11) c_11) (Iff.trans (i_17 _ _) (Iff.trans (dt_1 c_21 (fun n => n c_21)) (i_25 _ _)))))))
      ·
        refine d_p_Re_fail h_22 (fun S47 h_28 i_27 => ?_) (fun a0 a1 h_30 i_29 => k_T a0 a1 h_30 (fun _ _ => Iff.trans (dt_2 (fun n => n c_1) c_1) (Iff.trans (i_7 _ _) (Iff.trans (dt_2 (fun n => n c_11) c_11) (Iff.trans (i_17 _ _) (Iff.trans (dt_2 c_21 c_21) (i_29 _ _)))))))
        exact d_b_Re_readBit_50 h_28 (fun a0 a1 h_32 i_31 => k_K a0 a1 h_32 (fun _ _ => Iff.trans (dt_2 (fun n => n c_1) c_1) (Iff.trans (i_7 _ _) (Iff.trans (dt_2 (fun n => n c_11) c_11) (Iff.trans (i_17 _ _) (Iff.trans (dt_2 c_21 c_21) (Iff.trans (i_27 _ _) (i_31 _ _)))))))) (fun a0 a1 h_34 i_33 => k_T a0 a1 h_34 (fun _ _ => Iff.trans (dt_2 (fun n => n c_1) c_1) (Iff.trans (i_7 _ _) (Iff.trans (dt_2 (fun n => n c_11) c_11) (Iff.trans (i_17 _ _) (Iff.trans (dt_2 c_21 c_21) (Iff.trans (i_27 _ _) (i_33 _ _))))))))
set_option maxHeartbeats 1000000 in
theorem d_b_Co_symbolOf_40 {U : ut} {u : Nat} {s0 : Int32} {S : cs} {K : Int32 → cs → Prop} (h : b_Co_symbolOf_40 U u s0 S K) {Q : Prop} (k_K : ∀ (a0 : Int32) (a1 : cs), K a0 a1 → (∀ (K' : Int32 → cs → Prop), b_Co_symbolOf_40 U u s0 S K' ↔ K' a0 a1) → Q) : Q := by
  unfold b_Co_symbolOf_40 at h
  exact k_K _ _ h (fun _ => Iff.rfl)
set_option maxHeartbeats 1000000 in
theorem d_b_Co_symbolOf_39 {U : ut} {u : Nat} {S : cs} {K : Int32 → cs → Prop} (h : b_Co_symbolOf_39 U u S K) {Q : Prop} (k_K : ∀ (a0 : Int32) (a1 : cs), K a0 a1 → (∀ (K' : Int32 → cs → Prop), b_Co_symbolOf_39 U u S K' ↔ K' a0 a1) → Q) : Q := by
  unfold b_Co_symbolOf_39 at h
  exact d_b_Co_symbolOf_40 h (fun a0 a1 h_2 i_1 => k_K a0 a1 h_2 (fun _ => i_1 _))
set_option maxHeartbeats 1000000 in
theorem d_p_Co_symbolOf {U : ut} {u : Nat} {x1 : Int32} {x2 : Int32} {S : cs} {K : Int32 → cs → Prop} (h : p_Co_symbolOf U u x1 x2 S K) {Q : Prop} (k_K : ∀ (a0 : Int32) (a1 : cs), K a0 a1 → (∀ (K' : Int32 → cs → Prop), p_Co_symbolOf U u x1 x2 S K' ↔ K' a0 a1) → Q) : Q := by
  unfold p_Co_symbolOf at h
  refine dt_p (And.right (And.right (And.right h))) (fun c_1 h_2 => ?_) (fun c_1 h_2 => ?_)
  ·
    exact d_b_Co_symbolOf_39 h_2 (fun a0 a1 h_4 i_3 => k_K a0 a1 h_4 (fun _ => Iff.trans (dt_a (And.left h)) (Iff.trans (dt_a (And.left (And.right h))) (Iff.trans (dt_a (And.left (And.right (And.right h)))) (Iff.trans (dt_1 c_1 (fun n => n c_1)) (i_3 _))))))
  ·
    refine dt_p (And.right (And.right (And.right h_2))) (fun c_5 h_6 => ?_) (fun c_5 h_6 => ?_)
    ·
      exact d_b_Co_symbolOf_39 h_6 (fun a0 a1 h_8 i_7 => k_K a0 a1 h_8 (fun _ => Iff.trans (dt_a (And.left h)) (Iff.trans (dt_a (And.left (And.right h))) (Iff.trans (dt_a (And.left (And.right (And.right h)))) (Iff.trans (dt_2 c_1 c_1) (Iff.trans (dt_a (And.left h_2)) (Iff.trans (dt_a (And.left (And.right h_2))) (Iff.trans (dt_a (And.left (And.right (And.right h_2)))) (Iff.trans (dt_1 c_5 (fun n => n c_5)) (i_7 _))))))))))
    ·
      exact d_b_Co_symbolOf_40 (And.right (And.right (And.right (And.right (And.right (And.right h_6)))))) (fun a0 a1 h_10 i_9 => k_K a0 a1 h_10 (fun _ => Iff.trans (dt_a (And.left h)) (Iff.trans (dt_a (And.left (And.right h))) (Iff.trans (dt_a (And.left (And.right (And.right h)))) (Iff.trans (dt_2 c_1 c_1) (Iff.trans (dt_a (And.left h_2)) (Iff.trans (dt_a (And.left (And.right h_2))) (Iff.trans (dt_a (And.left (And.right (And.right h_2)))) (Iff.trans (dt_2 c_5 c_5) (Iff.trans (dt_a (And.left h_6)) (Iff.trans (dt_a (And.left (And.right h_6))) (Iff.trans (dt_a (And.left (And.right (And.right h_6)))) (Iff.trans (dt_a (And.left (And.right (And.right (And.right h_6))))) (Iff.trans (dt_a (And.left (And.right (And.right (And.right (And.right h_6)))))) (Iff.trans (dt_a (And.left (And.right (And.right (And.right (And.right (And.right h_6))))))) (i_9 _))))))))))))))))
set_option maxHeartbeats 1000000 in
theorem d_b_Re_readSymbol_73 {U : ut} {u : Nat} {x3 : Int32} {S : cs} {K : Int32 → cs → Prop} {T : Nat → cs → Prop} (h : b_Re_readSymbol_73 U u x3 S K T) {Q : Prop} (k_K : ∀ (a0 : Int32) (a1 : cs), K a0 a1 → (∀ (K' : Int32 → cs → Prop) (T' : Nat → cs → Prop), b_Re_readSymbol_73 U u x3 S K' T' ↔ K' a0 a1) → Q) (k_T : ∀ (a0 : Nat) (a1 : cs), T a0 a1 → (∀ (K' : Int32 → cs → Prop) (T' : Nat → cs → Prop), b_Re_readSymbol_73 U u x3 S K' T' ↔ T' a0 a1) → Q) : Q := by
  unfold b_Re_readSymbol_73 at h
  exact k_K _ _ h (fun _ _ => Iff.rfl)
set_option maxHeartbeats 1000000 in
theorem d_b_Re_readSymbol_58 {U : ut} {u : Nat} {x3 : Int32} {S : cs} {K : Int32 → cs → Prop} {T : Nat → cs → Prop} (h : b_Re_readSymbol_58 U u x3 S K T) {Q : Prop} (k_K : ∀ (a0 : Int32) (a1 : cs), K a0 a1 → (∀ (K' : Int32 → cs → Prop) (T' : Nat → cs → Prop), b_Re_readSymbol_58 U u x3 S K' T' ↔ K' a0 a1) → Q) (k_T : ∀ (a0 : Nat) (a1 : cs), T a0 a1 → (∀ (K' : Int32 → cs → Prop) (T' : Nat → cs → Prop), b_Re_readSymbol_58 U u x3 S K' T' ↔ T' a0 a1) → Q) : Q := by
  unfold b_Re_readSymbol_58 at h
  refine dt_n h (fun c_1 h_2 => ?_) (fun c_1 h_2 => ?_)
  ·
    exact d_b_Re_readSymbol_73 h_2 (fun a0 a1 h_4 i_3 => k_K a0 a1 h_4 (fun _ _ => Iff.trans (dt_1 c_1 c_1) (i_3 _ _))) (fun a0 a1 h_6 i_5 => k_T a0 a1 h_6 (fun _ _ => Iff.trans (dt_1 c_1 c_1) (i_5 _ _)))
  ·
    refine d_p_Re_fail h_2 (fun S70 h_8 i_7 => ?_) (fun a0 a1 h_10 i_9 => k_T a0 a1 h_10 (fun _ _ => Iff.trans (dt_2 (fun n => n c_1) c_1) (i_9 _ _)))
    exact d_b_Re_readSymbol_73 h_8 (fun a0 a1 h_12 i_11 => k_K a0 a1 h_12 (fun _ _ => Iff.trans (dt_2 (fun n => n c_1) c_1) (Iff.trans (i_7 _ _) (i_11 _ _)))) (fun a0 a1 h_14 i_13 => k_T a0 a1 h_14 (fun _ _ => Iff.trans (dt_2 (fun n => n c_1) c_1) (Iff.trans (i_7 _ _) (i_13 _ _))))
set_option maxHeartbeats 1000000 in
theorem d_b_Re_readSymbol_23 {U : ut} {u : Nat} {x1 : Nat} {x2 : Int32} {x3 : Int32} {x4 : Int32} {S : cs} {R23 : Nat → Int32 → Int32 → Int32 → cs → Prop} {K : Int32 → cs → Prop} {T : Nat → cs → Prop} (h : b_Re_readSymbol_23 U u x1 x2 x3 x4 S R23 K T) {Q : Prop} (k_R23 : ∀ (a0 : Nat) (a1 : Int32) (a2 : Int32) (a3 : Int32) (a4 : cs), R23 a0 a1 a2 a3 a4 → (∀ (R23' : Nat → Int32 → Int32 → Int32 → cs → Prop) (K' : Int32 → cs → Prop) (T' : Nat → cs → Prop), b_Re_readSymbol_23 U u x1 x2 x3 x4 S R23' K' T' ↔ R23' a0 a1 a2 a3 a4) → Q) (k_K : ∀ (a0 : Int32) (a1 : cs), K a0 a1 → (∀ (R23' : Nat → Int32 → Int32 → Int32 → cs → Prop) (K' : Int32 → cs → Prop) (T' : Nat → cs → Prop), b_Re_readSymbol_23 U u x1 x2 x3 x4 S R23' K' T' ↔ K' a0 a1) → Q) (k_T : ∀ (a0 : Nat) (a1 : cs), T a0 a1 → (∀ (R23' : Nat → Int32 → Int32 → Int32 → cs → Prop) (K' : Int32 → cs → Prop) (T' : Nat → cs → Prop), b_Re_readSymbol_23 U u x1 x2 x3 x4 S R23' K' T' ↔ T' a0 a1) → Q) : Q := by
  unfold b_Re_readSymbol_23 at h
  refine dt_p h (fun c_1 h_2 => ?_) (fun c_1 h_2 => ?_)
  ·
    exact d_b_Re_readSymbol_58 h_2 (fun a0 a1 h_4 i_3 => k_K a0 a1 h_4 (fun _ _ _ => Iff.trans (dt_1 c_1 (fun n => n c_1)) (i_3 _ _))) (fun a0 a1 h_6 i_5 => k_T a0 a1 h_6 (fun _ _ _ => Iff.trans (dt_1 c_1 (fun n => n c_1)) (i_5 _ _)))
  ·
    refine dt_n h_2 (fun c_7 h_8 => ?_) (fun c_7 h_8 => ?_)
    ·
      exact d_b_Re_readSymbol_58 h_8 (fun a0 a1 h_10 i_9 => k_K a0 a1 h_10 (fun _ _ _ => Iff.trans (dt_2 c_1 c_1) (Iff.trans (dt_1 c_7 c_7) (i_9 _ _)))) (fun a0 a1 h_12 i_11 => k_T a0 a1 h_12 (fun _ _ _ => Iff.trans (dt_2 c_1 c_1) (Iff.trans (dt_1 c_7 c_7) (i_11 _ _))))
    ·
      refine d_p_Re_readBit h_8 (fun v39 S39 h_14 i_13 => ?_) (fun a0 a1 h_16 i_15 => k_T a0 a1 h_16 (fun _ _ _ => Iff.trans (dt_2 c_1 c_1) (Iff.trans (dt_2 (fun n => n c_7) c_7) (i_15 _ _))))
      refine d_p_Co_symbolOf (And.right h_14) (fun v48 S48 h_18 i_17 => ?_)
      exact k_R23 _ _ _ _ _ h_18 (fun _ _ _ => Iff.trans (dt_2 c_1 c_1) (Iff.trans (dt_2 (fun n => n c_7) c_7) (Iff.trans (i_13 _ _) (Iff.trans (dt_a (And.left h_14)) (i_17 _)))))
theorem l_e_Re_readSymbol_23 {U : ut} {u : Nat} {x1 : Nat} {x2 : Int32} {x3 : Int32} {x4 : Int32} {S : cs} {K : Int32 → cs → Prop} {T : Nat → cs → Prop} : e_Re_readSymbol_23 U u x1 x2 x3 x4 S K T ↔ lpE (C := (Int32 → cs → Prop) × (Nat → cs → Prop)) (fun (y : (Nat) × (Int32) × (Int32) × (Int32) × (cs)) (R : ((Nat) × (Int32) × (Int32) × (Int32) × (cs)) → Prop) (c : (Int32 → cs → Prop) × (Nat → cs → Prop)) => b_Re_readSymbol_23 U u y.1 y.2.1 y.2.2.1 y.2.2.2.1 y.2.2.2.2 (fun z0 z1 z2 z3 z4 => R (z0, z1, z2, z3, z4)) c.1 c.2) (x1, x2, x3, x4, S) (K, T) :=
  ⟨fun ⟨I, μ, h0, hs⟩ => ⟨fun t => I t.1 t.2.1 t.2.2.1 t.2.2.2.1 t.2.2.2.2, fun t => μ t.1 t.2.1 t.2.2.1 t.2.2.2.1 t.2.2.2.2, h0, fun t ht => hs _ _ _ _ _ ht⟩, fun ⟨I, μ, h0, hs⟩ => ⟨fun y0 y1 y2 y3 y4 => I (y0, y1, y2, y3, y4), fun y0 y1 y2 y3 y4 => μ (y0, y1, y2, y3, y4), h0, fun y0 y1 y2 y3 y4 hy => hs (y0, y1, y2, y3, y4) hy⟩⟩
set_option maxHeartbeats 1000000 in
theorem d_e_Re_readSymbol_23 {U : ut} {u : Nat} {x1 : Nat} {x2 : Int32} {x3 : Int32} {x4 : Int32} {S : cs} {K : Int32 → cs → Prop} {T : Nat → cs → Prop} (h : e_Re_readSymbol_23 U u x1 x2 x3 x4 S K T) {Q : Prop} (k_K : ∀ (a0 : Int32) (a1 : cs), K a0 a1 → (∀ (K' : Int32 → cs → Prop) (T' : Nat → cs → Prop), e_Re_readSymbol_23 U u x1 x2 x3 x4 S K' T' ↔ K' a0 a1) → Q) (k_T : ∀ (a0 : Nat) (a1 : cs), T a0 a1 → (∀ (K' : Int32 → cs → Prop) (T' : Nat → cs → Prop), e_Re_readSymbol_23 U u x1 x2 x3 x4 S K' T' ↔ T' a0 a1) → Q) : Q := by
  obtain ⟨o, ho, hoc, hi⟩ := lp_det (C := (Int32 → cs → Prop) × (Nat → cs → Prop)) (b := (fun (y : (Nat) × (Int32) × (Int32) × (Int32) × (cs)) (R : ((Nat) × (Int32) × (Int32) × (Int32) × (cs)) → Prop) (c : (Int32 → cs → Prop) × (Nat → cs → Prop)) => b_Re_readSymbol_23 U u y.1 y.2.1 y.2.2.1 y.2.2.2.1 y.2.2.2.2 (fun z0 z1 z2 z3 z4 => R (z0, z1, z2, z3, z4)) c.1 c.2)) (O := (fun (o : ((Int32 → cs → Prop) × (Nat → cs → Prop)) → Prop) => (∃ (a0 : Int32) (a1 : cs), o = fun c => c.1 a0 a1) ∨ (∃ (a0 : Nat) (a1 : cs), o = fun c => c.2 a0 a1))) (fun y R c hy => d_b_Re_readSymbol_23 hy (fun a0 a1 a2 a3 a4 ha ia => Or.inl ⟨(a0, a1, a2, a3, a4), ha, fun R' c' => ia (fun z0 z1 z2 z3 z4 => R' (z0, z1, z2, z3, z4)) c'.1 c'.2⟩) (fun a0 a1 ha ia => Or.inr ⟨(fun c => c.1 a0 a1), Or.inl ⟨a0, a1, rfl⟩, ha, fun R' c' => ia (fun z0 z1 z2 z3 z4 => R' (z0, z1, z2, z3, z4)) c'.1 c'.2⟩) (fun a0 a1 ha ia => Or.inr ⟨(fun c => c.2 a0 a1), Or.inr (⟨a0, a1, rfl⟩), ha, fun R' c' => ia (fun z0 z1 z2 z3 z4 => R' (z0, z1, z2, z3, z4)) c'.1 c'.2⟩)) (l_e_Re_readSymbol_23.mp h)
  rcases ho with ⟨a0, a1, rfl⟩ | ⟨a0, a1, rfl⟩
  · exact k_K _ _ hoc (fun K' T' => Iff.trans l_e_Re_readSymbol_23 (hi (K', T')))
  · exact k_T _ _ hoc (fun K' T' => Iff.trans l_e_Re_readSymbol_23 (hi (K', T')))
theorem v_e_Re_readSymbol_23 {U : ut} {u : Nat} {x1 : Nat} {x2 : Int32} {x3 : Int32} {x4 : Int32} {S : cs} {K : Int32 → cs → Prop} {T : Nat → cs → Prop} (h : e_Re_readSymbol_23 U u x1 x2 x3 x4 S K T) {G : Prop} (Inv : Int32 → Int32 → Int32 → cs → Prop) (h0 : Inv x2 x3 x4 S) (hs : ∀ (yx2 : Int32) (yx3 : Int32) (yx4 : Int32) (yS : cs) (R : Nat → Int32 → Int32 → Int32 → cs → Prop), Inv yx2 yx3 yx4 yS → b_Re_readSymbol_23 U u x1 yx2 yx3 yx4 yS R K T → (∃ (zx2 : Int32) (zx3 : Int32) (zx4 : Int32) (zS : cs), R x1 zx2 zx3 zx4 zS ∧ Inv zx2 zx3 zx4 zS) ∨ G) : G := by
  obtain ⟨I, μ, i0, is⟩ := h
  have go : ∀ (n : Nat) (yx2 : Int32) (yx3 : Int32) (yx4 : Int32) (yS : cs), μ x1 yx2 yx3 yx4 yS < n → I x1 yx2 yx3 yx4 yS → Inv yx2 yx3 yx4 yS → G := by
    intro n
    induction n with
    | zero => intro yx2 yx3 yx4 yS hy; exact absurd hy (Nat.not_lt_zero _)
    | succ n ih =>
      intro yx2 yx3 yx4 yS hy hI hV
      rcases hs yx2 yx3 yx4 yS _ hV (is x1 yx2 yx3 yx4 yS hI) with ⟨zx2, zx3, zx4, zS, ⟨hz, hm⟩, hv⟩ | g
      · exact ih zx2 zx3 zx4 zS (Nat.lt_of_lt_of_le hm (Nat.le_of_lt_succ hy)) hz hv
      · exact g
  exact go _ x2 x3 x4 S (Nat.lt_succ_self _) i0 h0
theorem r_e_Re_readSymbol_23 {U : ut} {u : Nat} {x1 : Nat} {x2 : Int32} {x3 : Int32} {x4 : Int32} {S : cs} {K : Int32 → cs → Prop} {T : Nat → cs → Prop} (h : e_Re_readSymbol_23 U u x1 x2 x3 x4 S K T) : b_Re_readSymbol_23 U u x1 x2 x3 x4 S (fun zx1 zx2 zx3 zx4 zS => e_Re_readSymbol_23 U u zx1 zx2 zx3 zx4 zS K T) K T := by
  obtain ⟨I, μ, i0, is⟩ := h
  exact d_b_Re_readSymbol_23 (is x1 x2 x3 x4 S i0) (fun a0 a1 a2 a3 a4 ha ia => (ia _ _ _).mpr ⟨I, μ, ha.1, is⟩) (fun a0 a1 ha ia => (ia _ _ _).mpr ha) (fun a0 a1 ha ia => (ia _ _ _).mpr ha)
set_option maxHeartbeats 1000000 in
theorem d_p_Re_readSymbol {U : ut} {u : Nat} {x1 : Nat} {S : cs} {K : Int32 → cs → Prop} {T : Nat → cs → Prop} (h : p_Re_readSymbol U u x1 S K T) {Q : Prop} (k_K : ∀ (a0 : Int32) (a1 : cs), K a0 a1 → (∀ (K' : Int32 → cs → Prop) (T' : Nat → cs → Prop), p_Re_readSymbol U u x1 S K' T' ↔ K' a0 a1) → Q) (k_T : ∀ (a0 : Nat) (a1 : cs), T a0 a1 → (∀ (K' : Int32 → cs → Prop) (T' : Nat → cs → Prop), p_Re_readSymbol U u x1 S K' T' ↔ T' a0 a1) → Q) : Q := by
  unfold p_Re_readSymbol at h
  refine d_p_Re_readBit h (fun v1 S1 h_2 i_1 => ?_) (fun a0 a1 h_4 i_3 => k_T a0 a1 h_4 (fun _ _ => i_3 _ _))
  refine d_p_Co_symbolOf (And.right h_2) (fun v16 S16 h_6 i_5 => ?_)
  exact d_e_Re_readSymbol_23 h_6 (fun a0 a1 h_8 i_7 => k_K a0 a1 h_8 (fun _ _ => Iff.trans (i_1 _ _) (Iff.trans (dt_a (And.left h_2)) (Iff.trans (i_5 _) (i_7 _ _))))) (fun a0 a1 h_10 i_9 => k_T a0 a1 h_10 (fun _ _ => Iff.trans (i_1 _ _) (Iff.trans (dt_a (And.left h_2)) (Iff.trans (i_5 _) (i_9 _ _)))))
set_option maxHeartbeats 1000000 in
theorem d_b_Re_readNumber_44 {U : ut} {u : Nat} {s0 : Int32} {S : cs} {K : Int32 → cs → Prop} {T : Nat → cs → Prop} (h : b_Re_readNumber_44 U u s0 S K T) {Q : Prop} (k_K : ∀ (a0 : Int32) (a1 : cs), K a0 a1 → (∀ (K' : Int32 → cs → Prop) (T' : Nat → cs → Prop), b_Re_readNumber_44 U u s0 S K' T' ↔ K' a0 a1) → Q) (k_T : ∀ (a0 : Nat) (a1 : cs), T a0 a1 → (∀ (K' : Int32 → cs → Prop) (T' : Nat → cs → Prop), b_Re_readNumber_44 U u s0 S K' T' ↔ T' a0 a1) → Q) : Q := by
  unfold b_Re_readNumber_44 at h
  exact k_K _ _ h (fun _ _ => Iff.rfl)
set_option maxHeartbeats 1000000 in
theorem d_b_Re_readNumber_4 {U : ut} {u : Nat} {x1 : Int32} {x2 : Int32} {x3 : Int32} {S : cs} {R4 : Int32 → Int32 → Int32 → cs → Prop} {K : Int32 → cs → Prop} {T : Nat → cs → Prop} (h : b_Re_readNumber_4 U u x1 x2 x3 S R4 K T) {Q : Prop} (k_R4 : ∀ (a0 : Int32) (a1 : Int32) (a2 : Int32) (a3 : cs), R4 a0 a1 a2 a3 → (∀ (R4' : Int32 → Int32 → Int32 → cs → Prop) (K' : Int32 → cs → Prop) (T' : Nat → cs → Prop), b_Re_readNumber_4 U u x1 x2 x3 S R4' K' T' ↔ R4' a0 a1 a2 a3) → Q) (k_K : ∀ (a0 : Int32) (a1 : cs), K a0 a1 → (∀ (R4' : Int32 → Int32 → Int32 → cs → Prop) (K' : Int32 → cs → Prop) (T' : Nat → cs → Prop), b_Re_readNumber_4 U u x1 x2 x3 S R4' K' T' ↔ K' a0 a1) → Q) (k_T : ∀ (a0 : Nat) (a1 : cs), T a0 a1 → (∀ (R4' : Int32 → Int32 → Int32 → cs → Prop) (K' : Int32 → cs → Prop) (T' : Nat → cs → Prop), b_Re_readNumber_4 U u x1 x2 x3 S R4' K' T' ↔ T' a0 a1) → Q) : Q := by
  unfold b_Re_readNumber_4 at h
  refine dt_p h (fun c_1 h_2 => ?_) (fun c_1 h_2 => ?_)
  ·
    refine dt_p h_2 (fun c_3 h_4 => ?_) (fun c_3 h_4 => ?_)
    ·
      exact d_b_Re_readNumber_44 h_4 (fun a0 a1 h_6 i_5 => k_K a0 a1 h_6 (fun _ _ _ => Iff.trans (dt_1 c_1 (fun n => n c_1)) (Iff.trans (dt_1 c_3 (fun n => n c_3)) (i_5 _ _)))) (fun a0 a1 h_8 i_7 => k_T a0 a1 h_8 (fun _ _ _ => Iff.trans (dt_1 c_1 (fun n => n c_1)) (Iff.trans (dt_1 c_3 (fun n => n c_3)) (i_7 _ _))))
    ·
      exact d_b_Re_readNumber_44 h_4 (fun a0 a1 h_10 i_9 => k_K a0 a1 h_10 (fun _ _ _ => Iff.trans (dt_1 c_1 (fun n => n c_1)) (Iff.trans (dt_2 c_3 c_3) (i_9 _ _)))) (fun a0 a1 h_12 i_11 => k_T a0 a1 h_12 (fun _ _ _ => Iff.trans (dt_1 c_1 (fun n => n c_1)) (Iff.trans (dt_2 c_3 c_3) (i_11 _ _))))
  ·
    refine d_p_Re_readBit h_2 (fun v13 S13 h_14 i_13 => ?_) (fun a0 a1 h_16 i_15 => k_T a0 a1 h_16 (fun _ _ _ => Iff.trans (dt_2 c_1 c_1) (i_15 _ _)))
    exact k_R4 _ _ _ _ h_14 (fun _ _ _ => Iff.trans (dt_2 c_1 c_1) (i_13 _ _))
theorem l_e_Re_readNumber_4 {U : ut} {u : Nat} {x1 : Int32} {x2 : Int32} {x3 : Int32} {S : cs} {K : Int32 → cs → Prop} {T : Nat → cs → Prop} : e_Re_readNumber_4 U u x1 x2 x3 S K T ↔ lpE (C := (Int32 → cs → Prop) × (Nat → cs → Prop)) (fun (y : (Int32) × (Int32) × (Int32) × (cs)) (R : ((Int32) × (Int32) × (Int32) × (cs)) → Prop) (c : (Int32 → cs → Prop) × (Nat → cs → Prop)) => b_Re_readNumber_4 U u y.1 y.2.1 y.2.2.1 y.2.2.2 (fun z0 z1 z2 z3 => R (z0, z1, z2, z3)) c.1 c.2) (x1, x2, x3, S) (K, T) :=
  ⟨fun ⟨I, μ, h0, hs⟩ => ⟨fun t => I t.1 t.2.1 t.2.2.1 t.2.2.2, fun t => μ t.1 t.2.1 t.2.2.1 t.2.2.2, h0, fun t ht => hs _ _ _ _ ht⟩, fun ⟨I, μ, h0, hs⟩ => ⟨fun y0 y1 y2 y3 => I (y0, y1, y2, y3), fun y0 y1 y2 y3 => μ (y0, y1, y2, y3), h0, fun y0 y1 y2 y3 hy => hs (y0, y1, y2, y3) hy⟩⟩
set_option maxHeartbeats 1000000 in
theorem d_e_Re_readNumber_4 {U : ut} {u : Nat} {x1 : Int32} {x2 : Int32} {x3 : Int32} {S : cs} {K : Int32 → cs → Prop} {T : Nat → cs → Prop} (h : e_Re_readNumber_4 U u x1 x2 x3 S K T) {Q : Prop} (k_K : ∀ (a0 : Int32) (a1 : cs), K a0 a1 → (∀ (K' : Int32 → cs → Prop) (T' : Nat → cs → Prop), e_Re_readNumber_4 U u x1 x2 x3 S K' T' ↔ K' a0 a1) → Q) (k_T : ∀ (a0 : Nat) (a1 : cs), T a0 a1 → (∀ (K' : Int32 → cs → Prop) (T' : Nat → cs → Prop), e_Re_readNumber_4 U u x1 x2 x3 S K' T' ↔ T' a0 a1) → Q) : Q := by
  obtain ⟨o, ho, hoc, hi⟩ := lp_det (C := (Int32 → cs → Prop) × (Nat → cs → Prop)) (b := (fun (y : (Int32) × (Int32) × (Int32) × (cs)) (R : ((Int32) × (Int32) × (Int32) × (cs)) → Prop) (c : (Int32 → cs → Prop) × (Nat → cs → Prop)) => b_Re_readNumber_4 U u y.1 y.2.1 y.2.2.1 y.2.2.2 (fun z0 z1 z2 z3 => R (z0, z1, z2, z3)) c.1 c.2)) (O := (fun (o : ((Int32 → cs → Prop) × (Nat → cs → Prop)) → Prop) => (∃ (a0 : Int32) (a1 : cs), o = fun c => c.1 a0 a1) ∨ (∃ (a0 : Nat) (a1 : cs), o = fun c => c.2 a0 a1))) (fun y R c hy => d_b_Re_readNumber_4 hy (fun a0 a1 a2 a3 ha ia => Or.inl ⟨(a0, a1, a2, a3), ha, fun R' c' => ia (fun z0 z1 z2 z3 => R' (z0, z1, z2, z3)) c'.1 c'.2⟩) (fun a0 a1 ha ia => Or.inr ⟨(fun c => c.1 a0 a1), Or.inl ⟨a0, a1, rfl⟩, ha, fun R' c' => ia (fun z0 z1 z2 z3 => R' (z0, z1, z2, z3)) c'.1 c'.2⟩) (fun a0 a1 ha ia => Or.inr ⟨(fun c => c.2 a0 a1), Or.inr (⟨a0, a1, rfl⟩), ha, fun R' c' => ia (fun z0 z1 z2 z3 => R' (z0, z1, z2, z3)) c'.1 c'.2⟩)) (l_e_Re_readNumber_4.mp h)
  rcases ho with ⟨a0, a1, rfl⟩ | ⟨a0, a1, rfl⟩
  · exact k_K _ _ hoc (fun K' T' => Iff.trans l_e_Re_readNumber_4 (hi (K', T')))
  · exact k_T _ _ hoc (fun K' T' => Iff.trans l_e_Re_readNumber_4 (hi (K', T')))
theorem v_e_Re_readNumber_4 {U : ut} {u : Nat} {x1 : Int32} {x2 : Int32} {x3 : Int32} {S : cs} {K : Int32 → cs → Prop} {T : Nat → cs → Prop} (h : e_Re_readNumber_4 U u x1 x2 x3 S K T) {G : Prop} (Inv : Int32 → Int32 → cs → Prop) (h0 : Inv x2 x3 S) (hs : ∀ (yx2 : Int32) (yx3 : Int32) (yS : cs) (R : Int32 → Int32 → Int32 → cs → Prop), Inv yx2 yx3 yS → b_Re_readNumber_4 U u x1 yx2 yx3 yS R K T → (∃ (zx2 : Int32) (zx3 : Int32) (zS : cs), R x1 zx2 zx3 zS ∧ Inv zx2 zx3 zS) ∨ G) : G := by
  obtain ⟨I, μ, i0, is⟩ := h
  have go : ∀ (n : Nat) (yx2 : Int32) (yx3 : Int32) (yS : cs), μ x1 yx2 yx3 yS < n → I x1 yx2 yx3 yS → Inv yx2 yx3 yS → G := by
    intro n
    induction n with
    | zero => intro yx2 yx3 yS hy; exact absurd hy (Nat.not_lt_zero _)
    | succ n ih =>
      intro yx2 yx3 yS hy hI hV
      rcases hs yx2 yx3 yS _ hV (is x1 yx2 yx3 yS hI) with ⟨zx2, zx3, zS, ⟨hz, hm⟩, hv⟩ | g
      · exact ih zx2 zx3 zS (Nat.lt_of_lt_of_le hm (Nat.le_of_lt_succ hy)) hz hv
      · exact g
  exact go _ x2 x3 S (Nat.lt_succ_self _) i0 h0
theorem r_e_Re_readNumber_4 {U : ut} {u : Nat} {x1 : Int32} {x2 : Int32} {x3 : Int32} {S : cs} {K : Int32 → cs → Prop} {T : Nat → cs → Prop} (h : e_Re_readNumber_4 U u x1 x2 x3 S K T) : b_Re_readNumber_4 U u x1 x2 x3 S (fun zx1 zx2 zx3 zS => e_Re_readNumber_4 U u zx1 zx2 zx3 zS K T) K T := by
  obtain ⟨I, μ, i0, is⟩ := h
  exact d_b_Re_readNumber_4 (is x1 x2 x3 S i0) (fun a0 a1 a2 a3 ha ia => (ia _ _ _).mpr ⟨I, μ, ha.1, is⟩) (fun a0 a1 ha ia => (ia _ _ _).mpr ha) (fun a0 a1 ha ia => (ia _ _ _).mpr ha)
set_option maxHeartbeats 1000000 in
theorem d_p_Re_readNumber {U : ut} {u : Nat} {x1 : Int32} {S : cs} {K : Int32 → cs → Prop} {T : Nat → cs → Prop} (h : p_Re_readNumber U u x1 S K T) {Q : Prop} (k_K : ∀ (a0 : Int32) (a1 : cs), K a0 a1 → (∀ (K' : Int32 → cs → Prop) (T' : Nat → cs → Prop), p_Re_readNumber U u x1 S K' T' ↔ K' a0 a1) → Q) (k_T : ∀ (a0 : Nat) (a1 : cs), T a0 a1 → (∀ (K' : Int32 → cs → Prop) (T' : Nat → cs → Prop), p_Re_readNumber U u x1 S K' T' ↔ T' a0 a1) → Q) : Q := by
  unfold p_Re_readNumber at h
  exact d_e_Re_readNumber_4 h (fun a0 a1 h_2 i_1 => k_K a0 a1 h_2 (fun _ _ => i_1 _ _)) (fun a0 a1 h_4 i_3 => k_T a0 a1 h_4 (fun _ _ => i_3 _ _))
set_option maxHeartbeats 1000000 in
theorem d_b_Un_readBlock_219 {U : ut} {u : Nat} {S : cs} {K : cs → Prop} {T : Nat → cs → Prop} (h : b_Un_readBlock_219 U u S K T) {Q : Prop} (k_K : ∀ (a0 : cs), K a0 → (∀ (K' : cs → Prop) (T' : Nat → cs → Prop), b_Un_readBlock_219 U u S K' T' ↔ K' a0) → Q) (k_T : ∀ (a0 : Nat) (a1 : cs), T a0 a1 → (∀ (K' : cs → Prop) (T' : Nat → cs → Prop), b_Un_readBlock_219 U u S K' T' ↔ T' a0 a1) → Q) : Q := by
  unfold b_Un_readBlock_219 at h
  exact k_K _ h (fun _ _ => Iff.rfl)
set_option maxHeartbeats 1000000 in
theorem d_b_Un_readBlock_213 {U : ut} {u : Nat} {x3 : Int32} {x5 : Nat} {x6 : Int32} {x7 : Int32} {S : cs} {R122 : Int32 → Nat → Int32 → Int32 → cs → Prop} {K : cs → Prop} {T : Nat → cs → Prop} (h : b_Un_readBlock_213 U u x3 x5 x6 x7 S R122 K T) {Q : Prop} (k_R122 : ∀ (a0 : Int32) (a1 : Nat) (a2 : Int32) (a3 : Int32) (a4 : cs), R122 a0 a1 a2 a3 a4 → (∀ (R122' : Int32 → Nat → Int32 → Int32 → cs → Prop) (K' : cs → Prop) (T' : Nat → cs → Prop), b_Un_readBlock_213 U u x3 x5 x6 x7 S R122' K' T' ↔ R122' a0 a1 a2 a3 a4) → Q) (k_K : ∀ (a0 : cs), K a0 → (∀ (R122' : Int32 → Nat → Int32 → Int32 → cs → Prop) (K' : cs → Prop) (T' : Nat → cs → Prop), b_Un_readBlock_213 U u x3 x5 x6 x7 S R122' K' T' ↔ K' a0) → Q) (k_T : ∀ (a0 : Nat) (a1 : cs), T a0 a1 → (∀ (R122' : Int32 → Nat → Int32 → Int32 → cs → Prop) (K' : cs → Prop) (T' : Nat → cs → Prop), b_Un_readBlock_213 U u x3 x5 x6 x7 S R122' K' T' ↔ T' a0 a1) → Q) : Q := by
  unfold b_Un_readBlock_213 at h
  exact k_R122 _ _ _ _ _ h (fun _ _ _ => Iff.rfl)
set_option maxHeartbeats 1000000 in
theorem d_b_Un_readBlock_122 {U : ut} {u : Nat} {x3 : Int32} {x5 : Nat} {x6 : Int32} {x7 : Int32} {S : cs} {R122 : Int32 → Nat → Int32 → Int32 → cs → Prop} {K : cs → Prop} {T : Nat → cs → Prop} (h : b_Un_readBlock_122 U u x3 x5 x6 x7 S R122 K T) {Q : Prop} (k_R122 : ∀ (a0 : Int32) (a1 : Nat) (a2 : Int32) (a3 : Int32) (a4 : cs), R122 a0 a1 a2 a3 a4 → (∀ (R122' : Int32 → Nat → Int32 → Int32 → cs → Prop) (K' : cs → Prop) (T' : Nat → cs → Prop), b_Un_readBlock_122 U u x3 x5 x6 x7 S R122' K' T' ↔ R122' a0 a1 a2 a3 a4) → Q) (k_K : ∀ (a0 : cs), K a0 → (∀ (R122' : Int32 → Nat → Int32 → Int32 → cs → Prop) (K' : cs → Prop) (T' : Nat → cs → Prop), b_Un_readBlock_122 U u x3 x5 x6 x7 S R122' K' T' ↔ K' a0) → Q) (k_T : ∀ (a0 : Nat) (a1 : cs), T a0 a1 → (∀ (R122' : Int32 → Nat → Int32 → Int32 → cs → Prop) (K' : cs → Prop) (T' : Nat → cs → Prop), b_Un_readBlock_122 U u x3 x5 x6 x7 S R122' K' T' ↔ T' a0 a1) → Q) : Q := by
  unfold b_Un_readBlock_122 at h
  refine dt_p h (fun c_1 h_2 => ?_) (fun c_1 h_2 => ?_)
  ·
    exact d_b_Un_readBlock_219 h_2 (fun a0 h_4 i_3 => k_K a0 h_4 (fun _ _ _ => Iff.trans (dt_1 c_1 (fun n => n c_1)) (i_3 _ _))) (fun a0 a1 h_6 i_5 => k_T a0 a1 h_6 (fun _ _ _ => Iff.trans (dt_1 c_1 (fun n => n c_1)) (i_5 _ _)))
  ·
    refine dt_p h_2 (fun c_7 h_8 => ?_) (fun c_7 h_8 => ?_)
    ·
      exact d_b_Un_readBlock_219 h_8 (fun a0 h_10 i_9 => k_K a0 h_10 (fun _ _ _ => Iff.trans (dt_2 c_1 c_1) (Iff.trans (dt_1 c_7 (fun n => n c_7)) (i_9 _ _)))) (fun a0 a1 h_12 i_11 => k_T a0 a1 h_12 (fun _ _ _ => Iff.trans (dt_2 c_1 c_1) (Iff.trans (dt_1 c_7 (fun n => n c_7)) (i_11 _ _))))
    ·
      refine d_p_Re_readSymbol (And.right (And.right h_8)) (fun v140 S140 h_14 i_13 => ?_) (fun a0 a1 h_16 i_15 => k_T a0 a1 h_16 (fun _ _ _ => Iff.trans (dt_2 c_1 c_1) (Iff.trans (dt_2 c_7 c_7) (Iff.trans (dt_a (And.left h_8)) (Iff.trans (dt_a (And.left (And.right h_8))) (i_15 _ _))))))
      refine dt_p h_14 (fun c_17 h_18 => ?_) (fun c_17 h_18 => ?_)
      ·
        refine dt_p h_18 (fun c_19 h_20 => ?_) (fun c_19 h_20 => ?_)
        ·
          exact d_b_Un_readBlock_213 h_20 (fun a0 a1 a2 a3 a4 h_22 i_21 => k_R122 a0 a1 a2 a3 a4 h_22 (fun _ _ _ => Iff.trans (dt_2 c_1 c_1) (Iff.trans (dt_2 c_7 c_7) (Iff.trans (dt_a (And.left h_8)) (Iff.trans (dt_a (And.left (And.right h_8))) (Iff.trans (i_13 _ _) (Iff.trans (dt_1 c_17 (fun n => n c_17)) (Iff.trans (dt_1 c_19 (fun n => n c_19)) (i_21 _ _ _))))))))) (fun a0 h_24 i_23 => k_K a0 h_24 (fun _ _ _ => Iff.trans (dt_2 c_1 c_1) (Iff.trans (dt_2 c_7 c_7) (Iff.trans (dt_a (And.left h_8)) (Iff.trans (dt_a (And.left (And.right h_8))) (Iff.trans (i_13 _ _) (Iff.trans (dt_1 c_17 (fun n => n c_17)) (Iff.trans (dt_1 c_19 (fun n => n c_19)) (i_23 _ _ _))))))))) (fun a0 a1 h_26 i_25 => k_T a0 a1 h_26 (fun _ _ _ => Iff.trans (dt_2 c_1 c_1) (Iff.trans (dt_2 c_7 c_7) (Iff.trans (dt_a (And.left h_8)) (Iff.trans (dt_a (And.left (And.right h_8))) (Iff.trans (i_13 _ _) (Iff.trans (dt_1 c_17 (fun n => n c_17)) (Iff.trans (dt_1 c_19 (fun n => n c_19)) (i_25 _ _ _)))))))))
        ·
          refine d_p_Re_readNumber (And.right (And.right (And.right (And.right (And.right h_20))))) (fun v209 S209 h_28 i_27 => ?_) (fun a0 a1 h_30 i_29 => k_T a0 a1 h_30 (fun _ _ _ => Iff.trans (dt_2 c_1 c_1) (Iff.trans (dt_2 c_7 c_7) (Iff.trans (dt_a (And.left h_8)) (Iff.trans (dt_a (And.left (And.right h_8))) (Iff.trans (i_13 _ _) (Iff.trans (dt_1 c_17 (fun n => n c_17)) (Iff.trans (dt_2 c_19 c_19) (Iff.trans (dt_a (And.left h_20)) (Iff.trans (dt_a (And.left (And.right h_20))) (Iff.trans (dt_a (And.left (And.right (And.right h_20)))) (Iff.trans (dt_a (And.left (And.right (And.right (And.right h_20))))) (Iff.trans (dt_a (And.left (And.right (And.right (And.right (And.right h_20)))))) (i_29 _ _))))))))))))))
          exact d_b_Un_readBlock_213 (And.right (And.right h_28)) (fun a0 a1 a2 a3 a4 h_32 i_31 => k_R122 a0 a1 a2 a3 a4 h_32 (fun _ _ _ => Iff.trans (dt_2 c_1 c_1) (Iff.trans (dt_2 c_7 c_7) (Iff.trans (dt_a (And.left h_8)) (Iff.trans (dt_a (And.left (And.right h_8))) (Iff.trans (i_13 _ _) (Iff.trans (dt_1 c_17 (fun n => n c_17)) (Iff.trans (dt_2 c_19 c_19) (Iff.trans (dt_a (And.left h_20)) (Iff.trans (dt_a (And.left (And.right h_20))) (Iff.trans (dt_a (And.left (And.right (And.right h_20)))) (Iff.trans (dt_a (And.left (And.right (And.right (And.right h_20))))) (Iff.trans (dt_a (And.left (And.right (And.right (And.right (And.right h_20)))))) (Iff.trans (i_27 _ _) (Iff.trans (dt_a (And.left h_28)) (Iff.trans (dt_a (And.left (And.right h_28))) (i_31 _ _ _))))))))))))))))) (fun a0 h_34 i_33 => k_K a0 h_34 (fun _ _ _ => Iff.trans (dt_2 c_1 c_1) (Iff.trans (dt_2 c_7 c_7) (Iff.trans (dt_a (And.left h_8)) (Iff.trans (dt_a (And.left (And.right h_8))) (Iff.trans (i_13 _ _) (Iff.trans (dt_1 c_17 (fun n => n c_17)) (Iff.trans (dt_2 c_19 c_19) (Iff.trans (dt_a (And.left h_20)) (Iff.trans (dt_a (And.left (And.right h_20))) (Iff.trans (dt_a (And.left (And.right (And.right h_20)))) (Iff.trans (dt_a (And.left (And.right (And.right (And.right h_20))))) (Iff.trans (dt_a (And.left (And.right (And.right (And.right (And.right h_20)))))) (Iff.trans (i_27 _ _) (Iff.trans (dt_a (And.left h_28)) (Iff.trans (dt_a (And.left (And.right h_28))) (i_33 _ _ _))))))))))))))))) (fun a0 a1 h_36 i_35 => k_T a0 a1 h_36 (fun _ _ _ => Iff.trans (dt_2 c_1 c_1) (Iff.trans (dt_2 c_7 c_7) (Iff.trans (dt_a (And.left h_8)) (Iff.trans (dt_a (And.left (And.right h_8))) (Iff.trans (i_13 _ _) (Iff.trans (dt_1 c_17 (fun n => n c_17)) (Iff.trans (dt_2 c_19 c_19) (Iff.trans (dt_a (And.left h_20)) (Iff.trans (dt_a (And.left (And.right h_20))) (Iff.trans (dt_a (And.left (And.right (And.right h_20)))) (Iff.trans (dt_a (And.left (And.right (And.right (And.right h_20))))) (Iff.trans (dt_a (And.left (And.right (And.right (And.right (And.right h_20)))))) (Iff.trans (i_27 _ _) (Iff.trans (dt_a (And.left h_28)) (Iff.trans (dt_a (And.left (And.right h_28))) (i_35 _ _ _)))))))))))))))))
      ·
        refine d_p_Re_fail (And.right (And.right (And.right h_18))) (fun S175 h_38 i_37 => ?_) (fun a0 a1 h_40 i_39 => k_T a0 a1 h_40 (fun _ _ _ => Iff.trans (dt_2 c_1 c_1) (Iff.trans (dt_2 c_7 c_7) (Iff.trans (dt_a (And.left h_8)) (Iff.trans (dt_a (And.left (And.right h_8))) (Iff.trans (i_13 _ _) (Iff.trans (dt_2 c_17 c_17) (Iff.trans (dt_a (And.left h_18)) (Iff.trans (dt_a (And.left (And.right h_18))) (Iff.trans (dt_a (And.left (And.right (And.right h_18)))) (i_39 _ _)))))))))))
        exact d_b_Un_readBlock_213 h_38 (fun a0 a1 a2 a3 a4 h_42 i_41 => k_R122 a0 a1 a2 a3 a4 h_42 (fun _ _ _ => Iff.trans (dt_2 c_1 c_1) (Iff.trans (dt_2 c_7 c_7) (Iff.trans (dt_a (And.left h_8)) (Iff.trans (dt_a (And.left (And.right h_8))) (Iff.trans (i_13 _ _) (Iff.trans (dt_2 c_17 c_17) (Iff.trans (dt_a (And.left h_18)) (Iff.trans (dt_a (And.left (And.right h_18))) (Iff.trans (dt_a (And.left (And.right (And.right h_18)))) (Iff.trans (i_37 _ _) (i_41 _ _ _)))))))))))) (fun a0 h_44 i_43 => k_K a0 h_44 (fun _ _ _ => Iff.trans (dt_2 c_1 c_1) (Iff.trans (dt_2 c_7 c_7) (Iff.trans (dt_a (And.left h_8)) (Iff.trans (dt_a (And.left (And.right h_8))) (Iff.trans (i_13 _ _) (Iff.trans (dt_2 c_17 c_17) (Iff.trans (dt_a (And.left h_18)) (Iff.trans (dt_a (And.left (And.right h_18))) (Iff.trans (dt_a (And.left (And.right (And.right h_18)))) (Iff.trans (i_37 _ _) (i_43 _ _ _)))))))))))) (fun a0 a1 h_46 i_45 => k_T a0 a1 h_46 (fun _ _ _ => Iff.trans (dt_2 c_1 c_1) (Iff.trans (dt_2 c_7 c_7) (Iff.trans (dt_a (And.left h_8)) (Iff.trans (dt_a (And.left (And.right h_8))) (Iff.trans (i_13 _ _) (Iff.trans (dt_2 c_17 c_17) (Iff.trans (dt_a (And.left h_18)) (Iff.trans (dt_a (And.left (And.right h_18))) (Iff.trans (dt_a (And.left (And.right (And.right h_18)))) (Iff.trans (i_37 _ _) (i_45 _ _ _))))))))))))
theorem l_e_Un_readBlock_122 {U : ut} {u : Nat} {x3 : Int32} {x5 : Nat} {x6 : Int32} {x7 : Int32} {S : cs} {K : cs → Prop} {T : Nat → cs → Prop} : e_Un_readBlock_122 U u x3 x5 x6 x7 S K T ↔ lpE (C := (cs → Prop) × (Nat → cs → Prop)) (fun (y : (Int32) × (Nat) × (Int32) × (Int32) × (cs)) (R : ((Int32) × (Nat) × (Int32) × (Int32) × (cs)) → Prop) (c : (cs → Prop) × (Nat → cs → Prop)) => b_Un_readBlock_122 U u y.1 y.2.1 y.2.2.1 y.2.2.2.1 y.2.2.2.2 (fun z0 z1 z2 z3 z4 => R (z0, z1, z2, z3, z4)) c.1 c.2) (x3, x5, x6, x7, S) (K, T) :=
  ⟨fun ⟨I, μ, h0, hs⟩ => ⟨fun t => I t.1 t.2.1 t.2.2.1 t.2.2.2.1 t.2.2.2.2, fun t => μ t.1 t.2.1 t.2.2.1 t.2.2.2.1 t.2.2.2.2, h0, fun t ht => hs _ _ _ _ _ ht⟩, fun ⟨I, μ, h0, hs⟩ => ⟨fun y0 y1 y2 y3 y4 => I (y0, y1, y2, y3, y4), fun y0 y1 y2 y3 y4 => μ (y0, y1, y2, y3, y4), h0, fun y0 y1 y2 y3 y4 hy => hs (y0, y1, y2, y3, y4) hy⟩⟩
set_option maxHeartbeats 1000000 in
theorem d_e_Un_readBlock_122 {U : ut} {u : Nat} {x3 : Int32} {x5 : Nat} {x6 : Int32} {x7 : Int32} {S : cs} {K : cs → Prop} {T : Nat → cs → Prop} (h : e_Un_readBlock_122 U u x3 x5 x6 x7 S K T) {Q : Prop} (k_K : ∀ (a0 : cs), K a0 → (∀ (K' : cs → Prop) (T' : Nat → cs → Prop), e_Un_readBlock_122 U u x3 x5 x6 x7 S K' T' ↔ K' a0) → Q) (k_T : ∀ (a0 : Nat) (a1 : cs), T a0 a1 → (∀ (K' : cs → Prop) (T' : Nat → cs → Prop), e_Un_readBlock_122 U u x3 x5 x6 x7 S K' T' ↔ T' a0 a1) → Q) : Q := by
  obtain ⟨o, ho, hoc, hi⟩ := lp_det (C := (cs → Prop) × (Nat → cs → Prop)) (b := (fun (y : (Int32) × (Nat) × (Int32) × (Int32) × (cs)) (R : ((Int32) × (Nat) × (Int32) × (Int32) × (cs)) → Prop) (c : (cs → Prop) × (Nat → cs → Prop)) => b_Un_readBlock_122 U u y.1 y.2.1 y.2.2.1 y.2.2.2.1 y.2.2.2.2 (fun z0 z1 z2 z3 z4 => R (z0, z1, z2, z3, z4)) c.1 c.2)) (O := (fun (o : ((cs → Prop) × (Nat → cs → Prop)) → Prop) => (∃ (a0 : cs), o = fun c => c.1 a0) ∨ (∃ (a0 : Nat) (a1 : cs), o = fun c => c.2 a0 a1))) (fun y R c hy => d_b_Un_readBlock_122 hy (fun a0 a1 a2 a3 a4 ha ia => Or.inl ⟨(a0, a1, a2, a3, a4), ha, fun R' c' => ia (fun z0 z1 z2 z3 z4 => R' (z0, z1, z2, z3, z4)) c'.1 c'.2⟩) (fun a0 ha ia => Or.inr ⟨(fun c => c.1 a0), Or.inl ⟨a0, rfl⟩, ha, fun R' c' => ia (fun z0 z1 z2 z3 z4 => R' (z0, z1, z2, z3, z4)) c'.1 c'.2⟩) (fun a0 a1 ha ia => Or.inr ⟨(fun c => c.2 a0 a1), Or.inr (⟨a0, a1, rfl⟩), ha, fun R' c' => ia (fun z0 z1 z2 z3 z4 => R' (z0, z1, z2, z3, z4)) c'.1 c'.2⟩)) (l_e_Un_readBlock_122.mp h)
  rcases ho with ⟨a0, rfl⟩ | ⟨a0, a1, rfl⟩
  · exact k_K _ hoc (fun K' T' => Iff.trans l_e_Un_readBlock_122 (hi (K', T')))
  · exact k_T _ _ hoc (fun K' T' => Iff.trans l_e_Un_readBlock_122 (hi (K', T')))
theorem v_e_Un_readBlock_122 {U : ut} {u : Nat} {x3 : Int32} {x5 : Nat} {x6 : Int32} {x7 : Int32} {S : cs} {K : cs → Prop} {T : Nat → cs → Prop} (h : e_Un_readBlock_122 U u x3 x5 x6 x7 S K T) {G : Prop} (Inv : Int32 → Int32 → cs → Prop) (h0 : Inv x6 x7 S) (hs : ∀ (yx6 : Int32) (yx7 : Int32) (yS : cs) (R : Int32 → Nat → Int32 → Int32 → cs → Prop), Inv yx6 yx7 yS → b_Un_readBlock_122 U u x3 x5 yx6 yx7 yS R K T → (∃ (zx6 : Int32) (zx7 : Int32) (zS : cs), R x3 x5 zx6 zx7 zS ∧ Inv zx6 zx7 zS) ∨ G) : G := by
  obtain ⟨I, μ, i0, is⟩ := h
  have go : ∀ (n : Nat) (yx6 : Int32) (yx7 : Int32) (yS : cs), μ x3 x5 yx6 yx7 yS < n → I x3 x5 yx6 yx7 yS → Inv yx6 yx7 yS → G := by
    intro n
    induction n with
    | zero => intro yx6 yx7 yS hy; exact absurd hy (Nat.not_lt_zero _)
    | succ n ih =>
      intro yx6 yx7 yS hy hI hV
      rcases hs yx6 yx7 yS _ hV (is x3 x5 yx6 yx7 yS hI) with ⟨zx6, zx7, zS, ⟨hz, hm⟩, hv⟩ | g
      · exact ih zx6 zx7 zS (Nat.lt_of_lt_of_le hm (Nat.le_of_lt_succ hy)) hz hv
      · exact g
  exact go _ x6 x7 S (Nat.lt_succ_self _) i0 h0
theorem r_e_Un_readBlock_122 {U : ut} {u : Nat} {x3 : Int32} {x5 : Nat} {x6 : Int32} {x7 : Int32} {S : cs} {K : cs → Prop} {T : Nat → cs → Prop} (h : e_Un_readBlock_122 U u x3 x5 x6 x7 S K T) : b_Un_readBlock_122 U u x3 x5 x6 x7 S (fun zx3 zx5 zx6 zx7 zS => e_Un_readBlock_122 U u zx3 zx5 zx6 zx7 zS K T) K T := by
  obtain ⟨I, μ, i0, is⟩ := h
  exact d_b_Un_readBlock_122 (is x3 x5 x6 x7 S i0) (fun a0 a1 a2 a3 a4 ha ia => (ia _ _ _).mpr ⟨I, μ, ha.1, is⟩) (fun a0 ha ia => (ia _ _ _).mpr ha) (fun a0 a1 ha ia => (ia _ _ _).mpr ha)
set_option maxHeartbeats 1000000 in
theorem d_b_Un_readBlock_85 {U : ut} {u : Nat} {x2 : Int32} {x3 : Int32} {S : cs} {K : cs → Prop} {T : Nat → cs → Prop} (h : b_Un_readBlock_85 U u x2 x3 S K T) {Q : Prop} (k_K : ∀ (a0 : cs), K a0 → (∀ (K' : cs → Prop) (T' : Nat → cs → Prop), b_Un_readBlock_85 U u x2 x3 S K' T' ↔ K' a0) → Q) (k_T : ∀ (a0 : Nat) (a1 : cs), T a0 a1 → (∀ (K' : cs → Prop) (T' : Nat → cs → Prop), b_Un_readBlock_85 U u x2 x3 S K' T' ↔ T' a0 a1) → Q) : Q := by
  unfold b_Un_readBlock_85 at h
  exact d_e_Un_readBlock_122 (And.right (And.right (And.right (And.right (And.right (And.right (And.right (And.right (And.right (And.right (And.right (And.right (And.right (And.right (And.right (And.right (And.right h))))))))))))))))) (fun a0 h_2 i_1 => k_K a0 h_2 (fun _ _ => Iff.trans (dt_a (And.left h)) (Iff.trans (dt_a (And.left (And.right h))) (Iff.trans (dt_a (And.left (And.right (And.right h)))) (Iff.trans (dt_a (And.left (And.right (And.right (And.right h))))) (Iff.trans (dt_a (And.left (And.right (And.right (And.right (And.right h)))))) (Iff.trans (dt_a (And.left (And.right (And.right (And.right (And.right (And.right h))))))) (Iff.trans (dt_a (And.left (And.right (And.right (And.right (And.right (And.right (And.right h)))))))) (Iff.trans (dt_a (And.left (And.right (And.right (And.right (And.right (And.right (And.right (And.right h))))))))) (Iff.trans (dt_a (And.left (And.right (And.right (And.right (And.right (And.right (And.right (And.right (And.right h)))))))))) (Iff.trans (dt_a (And.left (And.right (And.right (And.right (And.right (And.right (And.right (And.right (And.right (And.right h))))))))))) (Iff.trans (dt_a (And.left (And.right (And.right (And.right (And.right (And.right (And.right (And.right (And.right (And.right (And.right h)))))))))))) (Iff.trans (dt_a (And.left (And.right (And.right (And.right (And.right (And.right (And.right (And.right (And.right (And.right (And.right (And.right h))))))))))))) (Iff.trans (dt_a (And.left (And.right (And.right (And.right (And.right (And.right (And.right (And.right (And.right (And.right (And.right (And.right (And.right h)))))))))))))) (Iff.trans (dt_a (And.left (And.right (And.right (And.right (And.right (And.right (And.right (And.right (And.right (And.right (And.right (And.right (And.right (And.right h))))))))))))))) (Iff.trans (dt_a (And.left (And.right (And.right (And.right (And.right (And.right (And.right (And.right (And.right (And.right (And.right (And.right (And.right (And.right (And.right h)))))))))))))))) (Iff.trans (dt_a (And.left (And.right (And.right (And.right (And.right (And.right (And.right (And.right (And.right (And.right (And.right (And.right (And.right (And.right (And.right (And.right h))))))))))))))))) (Iff.trans (dt_a (And.left (And.right (And.right (And.right (And.right (And.right (And.right (And.right (And.right (And.right (And.right (And.right (And.right (And.right (And.right (And.right (And.right h)))))))))))))))))) (i_1 _ _))))))))))))))))))) (fun a0 a1 h_4 i_3 => k_T a0 a1 h_4 (fun _ _ => Iff.trans (dt_a (And.left h)) (Iff.trans (dt_a (And.left (And.right h))) (Iff.trans (dt_a (And.left (And.right (And.right h)))) (Iff.trans (dt_a (And.left (And.right (And.right (And.right h))))) (Iff.trans (dt_a (And.left (And.right (And.right (And.right (And.right h)))))) (Iff.trans (dt_a (And.left (And.right (And.right (And.right (And.right (And.right h))))))) (Iff.trans (dt_a (And.left (And.right (And.right (And.right (And.right (And.right (And.right h)))))))) (Iff.trans (dt_a (And.left (And.right (And.right (And.right (And.right (And.right (And.right (And.right h))))))))) (Iff.trans (dt_a (And.left (And.right (And.right (And.right (And.right (And.right (And.right (And.right (And.right h)))))))))) (Iff.trans (dt_a (And.left (And.right (And.right (And.right (And.right (And.right (And.right (And.right (And.right (And.right h))))))))))) (Iff.trans (dt_a (And.left (And.right (And.right (And.right (And.right (And.right (And.right (And.right (And.right (And.right (And.right h)))))))))))) (Iff.trans (dt_a (And.left (And.right (And.right (And.right (And.right (And.right (And.right (And.right (And.right (And.right (And.right (And.right h))))))))))))) (Iff.trans (dt_a (And.left (And.right (And.right (And.right (And.right (And.right (And.right (And.right (And.right (And.right (And.right (And.right (And.right h)))))))))))))) (Iff.trans (dt_a (And.left (And.right (And.right (And.right (And.right (And.right (And.right (And.right (And.right (And.right (And.right (And.right (And.right (And.right h))))))))))))))) (Iff.trans (dt_a (And.left (And.right (And.right (And.right (And.right (And.right (And.right (And.right (And.right (And.right (And.right (And.right (And.right (And.right (And.right h)))))))))))))))) (Iff.trans (dt_a (And.left (And.right (And.right (And.right (And.right (And.right (And.right (And.right (And.right (And.right (And.right (And.right (And.right (And.right (And.right (And.right h))))))))))))))))) (Iff.trans (dt_a (And.left (And.right (And.right (And.right (And.right (And.right (And.right (And.right (And.right (And.right (And.right (And.right (And.right (And.right (And.right (And.right (And.right h)))))))))))))))))) (i_3 _ _)))))))))))))))))))
set_option maxHeartbeats 1000000 in
theorem d_p_Un_readBlock {U : ut} {u : Nat} {x1 : Int32} {S : cs} {K : cs → Prop} {T : Nat → cs → Prop} (h : p_Un_readBlock U u x1 S K T) {Q : Prop} (k_K : ∀ (a0 : cs), K a0 → (∀ (K' : cs → Prop) (T' : Nat → cs → Prop), p_Un_readBlock U u x1 S K' T' ↔ K' a0) → Q) (k_T : ∀ (a0 : Nat) (a1 : cs), T a0 a1 → (∀ (K' : cs → Prop) (T' : Nat → cs → Prop), p_Un_readBlock U u x1 S K' T' ↔ T' a0 a1) → Q) : Q := by
  unfold p_Un_readBlock at h
  refine d_p_Re_readSymbol (And.right (And.right (And.right (And.right (And.right (And.right (And.right (And.right (And.right (And.right (And.right h))))))))))) (fun v28 S28 h_2 i_1 => ?_) (fun a0 a1 h_4 i_3 => k_T a0 a1 h_4 (fun _ _ => Iff.trans (dt_a (And.left h)) (Iff.trans (dt_a (And.left (And.right h))) (Iff.trans (dt_a (And.left (And.right (And.right h)))) (Iff.trans (dt_a (And.left (And.right (And.right (And.right h))))) (Iff.trans (dt_a (And.left (And.right (And.right (And.right (And.right h)))))) (Iff.trans (dt_a (And.left (And.right (And.right (And.right (And.right (And.right h))))))) (Iff.trans (dt_a (And.left (And.right (And.right (And.right (And.right (And.right (And.right h)))))))) (Iff.trans (dt_a (And.left (And.right (And.right (And.right (And.right (And.right (And.right (And.right h))))))))) (Iff.trans (dt_a (And.left (And.right (And.right (And.right (And.right (And.right (And.right (And.right (And.right h)))))))))) (Iff.trans (dt_a (And.left (And.right (And.right (And.right (And.right (And.right (And.right (And.right (And.right (And.right h))))))))))) (Iff.trans (dt_a (And.left (And.right (And.right (And.right (And.right (And.right (And.right (And.right (And.right (And.right (And.right h)))))))))))) (i_3 _ _)))))))))))))
  refine d_p_Re_readNumber (And.right (And.right (And.right (And.right (And.right h_2))))) (fun v46 S46 h_6 i_5 => ?_) (fun a0 a1 h_8 i_7 => k_T a0 a1 h_8 (fun _ _ => Iff.trans (dt_a (And.left h)) (Iff.trans (dt_a (And.left (And.right h))) (Iff.trans (dt_a (And.left (And.right (And.right h)))) (Iff.trans (dt_a (And.left (And.right (And.right (And.right h))))) (Iff.trans (dt_a (And.left (And.right (And.right (And.right (And.right h)))))) (Iff.trans (dt_a (And.left (And.right (And.right (And.right (And.right (And.right h))))))) (Iff.trans (dt_a (And.left (And.right (And.right (And.right (And.right (And.right (And.right h)))))))) (Iff.trans (dt_a (And.left (And.right (And.right (And.right (And.right (And.right (And.right (And.right h))))))))) (Iff.trans (dt_a (And.left (And.right (And.right (And.right (And.right (And.right (And.right (And.right (And.right h)))))))))) (Iff.trans (dt_a (And.left (And.right (And.right (And.right (And.right (And.right (And.right (And.right (And.right (And.right h))))))))))) (Iff.trans (dt_a (And.left (And.right (And.right (And.right (And.right (And.right (And.right (And.right (And.right (And.right (And.right h)))))))))))) (Iff.trans (i_1 _ _) (Iff.trans (dt_a (And.left h_2)) (Iff.trans (dt_a (And.left (And.right h_2))) (Iff.trans (dt_a (And.left (And.right (And.right h_2)))) (Iff.trans (dt_a (And.left (And.right (And.right (And.right h_2))))) (Iff.trans (dt_a (And.left (And.right (And.right (And.right (And.right h_2)))))) (i_7 _ _)))))))))))))))))))
  refine d_p_B_isWithin (And.right (And.right (And.right (And.right h_6)))) (fun v63 h_10 i_9 => ?_)
  refine dt_n h_10 (fun c_11 h_12 => ?_) (fun c_11 h_12 => ?_)
  ·
    exact d_b_Un_readBlock_85 h_12 (fun a0 h_14 i_13 => k_K a0 h_14 (fun _ _ => Iff.trans (dt_a (And.left h)) (Iff.trans (dt_a (And.left (And.right h))) (Iff.trans (dt_a (And.left (And.right (And.right h)))) (Iff.trans (dt_a (And.left (And.right (And.right (And.right h))))) (Iff.trans (dt_a (And.left (And.right (And.right (And.right (And.right h)))))) (Iff.trans (dt_a (And.left (And.right (And.right (And.right (And.right (And.right h))))))) (Iff.trans (dt_a (And.left (And.right (And.right (And.right (And.right (And.right (And.right h)))))))) (Iff.trans (dt_a (And.left (And.right (And.right (And.right (And.right (And.right (And.right (And.right h))))))))) (Iff.trans (dt_a (And.left (And.right (And.right (And.right (And.right (And.right (And.right (And.right (And.right h)))))))))) (Iff.trans (dt_a (And.left (And.right (And.right (And.right (And.right (And.right (And.right (And.right (And.right (And.right h))))))))))) (Iff.trans (dt_a (And.left (And.right (And.right (And.right (And.right (And.right (And.right (And.right (And.right (And.right (And.right h)))))))))))) (Iff.trans (i_1 _ _) (Iff.trans (dt_a (And.left h_2)) (Iff.trans (dt_a (And.left (And.right h_2))) (Iff.trans (dt_a (And.left (And.right (And.right h_2)))) (Iff.trans (dt_a (And.left (And.right (And.right (And.right h_2))))) (Iff.trans (dt_a (And.left (And.right (And.right (And.right (And.right h_2)))))) (Iff.trans (i_5 _ _) (Iff.trans (dt_a (And.left h_6)) (Iff.trans (dt_a (And.left (And.right h_6))) (Iff.trans (dt_a (And.left (And.right (And.right h_6)))) (Iff.trans (dt_a (And.left (And.right (And.right (And.right h_6))))) (Iff.trans (i_9 _) (Iff.trans (dt_1 c_11 c_11) (i_13 _ _)))))))))))))))))))))))))) (fun a0 a1 h_16 i_15 => k_T a0 a1 h_16 (fun _ _ => Iff.trans (dt_a (And.left h)) (Iff.trans (dt_a (And.left (And.right h))) (Iff.trans (dt_a (And.left (And.right (And.right h)))) (Iff.trans (dt_a (And.left (And.right (And.right (And.right h))))) (Iff.trans (dt_a (And.left (And.right (And.right (And.right (And.right h)))))) (Iff.trans (dt_a (And.left (And.right (And.right (And.right (And.right (And.right h))))))) (Iff.trans (dt_a (And.left (And.right (And.right (And.right (And.right (And.right (And.right h)))))))) (Iff.trans (dt_a (And.left (And.right (And.right (And.right (And.right (And.right (And.right (And.right h))))))))) (Iff.trans (dt_a (And.left (And.right (And.right (And.right (And.right (And.right (And.right (And.right (And.right h)))))))))) (Iff.trans (dt_a (And.left (And.right (And.right (And.right (And.right (And.right (And.right (And.right (And.right (And.right h))))))))))) (Iff.trans (dt_a (And.left (And.right (And.right (And.right (And.right (And.right (And.right (And.right (And.right (And.right (And.right h)))))))))))) (Iff.trans (i_1 _ _) (Iff.trans (dt_a (And.left h_2)) (Iff.trans (dt_a (And.left (And.right h_2))) (Iff.trans (dt_a (And.left (And.right (And.right h_2)))) (Iff.trans (dt_a (And.left (And.right (And.right (And.right h_2))))) (Iff.trans (dt_a (And.left (And.right (And.right (And.right (And.right h_2)))))) (Iff.trans (i_5 _ _) (Iff.trans (dt_a (And.left h_6)) (Iff.trans (dt_a (And.left (And.right h_6))) (Iff.trans (dt_a (And.left (And.right (And.right h_6)))) (Iff.trans (dt_a (And.left (And.right (And.right (And.right h_6))))) (Iff.trans (i_9 _) (Iff.trans (dt_1 c_11 c_11) (i_15 _ _))))))))))))))))))))))))))
  ·
    refine d_p_Re_fail (And.right (And.right (And.right h_12))) (fun S82 h_18 i_17 => ?_) (fun a0 a1 h_20 i_19 => k_T a0 a1 h_20 (fun _ _ => Iff.trans (dt_a (And.left h)) (Iff.trans (dt_a (And.left (And.right h))) (Iff.trans (dt_a (And.left (And.right (And.right h)))) (Iff.trans (dt_a (And.left (And.right (And.right (And.right h))))) (Iff.trans (dt_a (And.left (And.right (And.right (And.right (And.right h)))))) (Iff.trans (dt_a (And.left (And.right (And.right (And.right (And.right (And.right h))))))) (Iff.trans (dt_a (And.left (And.right (And.right (And.right (And.right (And.right (And.right h)))))))) (Iff.trans (dt_a (And.left (And.right (And.right (And.right (And.right (And.right (And.right (And.right h))))))))) (Iff.trans (dt_a (And.left (And.right (And.right (And.right (And.right (And.right (And.right (And.right (And.right h)))))))))) (Iff.trans (dt_a (And.left (And.right (And.right (And.right (And.right (And.right (And.right (And.right (And.right (And.right h))))))))))) (Iff.trans (dt_a (And.left (And.right (And.right (And.right (And.right (And.right (And.right (And.right (And.right (And.right (And.right h)))))))))))) (Iff.trans (i_1 _ _) (Iff.trans (dt_a (And.left h_2)) (Iff.trans (dt_a (And.left (And.right h_2))) (Iff.trans (dt_a (And.left (And.right (And.right h_2)))) (Iff.trans (dt_a (And.left (And.right (And.right (And.right h_2))))) (Iff.trans (dt_a (And.left (And.right (And.right (And.right (And.right h_2)))))) (Iff.trans (i_5 _ _) (Iff.trans (dt_a (And.left h_6)) (Iff.trans (dt_a (And.left (And.right h_6))) (Iff.trans (dt_a (And.left (And.right (And.right h_6)))) (Iff.trans (dt_a (And.left (And.right (And.right (And.right h_6))))) (Iff.trans (i_9 _) (Iff.trans (dt_2 (fun n => n c_11) c_11) (Iff.trans (dt_a (And.left h_12)) (Iff.trans (dt_a (And.left (And.right h_12))) (Iff.trans (dt_a (And.left (And.right (And.right h_12)))) (i_19 _ _)))))))))))))))))))))))))))))
    exact d_b_Un_readBlock_85 h_18 (fun a0 h_22 i_21 => k_K a0 h_22 (fun _ _ => Iff.trans (dt_a (And.left h)) (Iff.trans (dt_a (And.left (And.right h))) (Iff.trans (dt_a (And.left (And.right (And.right h)))) (Iff.trans (dt_a (And.left (And.right (And.right (And.right h))))) (Iff.trans (dt_a (And.left (And.right (And.right (And.right (And.right h)))))) (Iff.trans (dt_a (And.left (And.right (And.right (And.right (And.right (And.right h))))))) (Iff.trans (dt_a (And.left (And.right (And.right (And.right (And.right (And.right (And.right h)))))))) (Iff.trans (dt_a (And.left (And.right (And.right (And.right (And.right (And.right (And.right (And.right h))))))))) (Iff.trans (dt_a (And.left (And.right (And.right (And.right (And.right (And.right (And.right (And.right (And.right h)))))))))) (Iff.trans (dt_a (And.left (And.right (And.right (And.right (And.right (And.right (And.right (And.right (And.right (And.right h))))))))))) (Iff.trans (dt_a (And.left (And.right (And.right (And.right (And.right (And.right (And.right (And.right (And.right (And.right (And.right h)))))))))))) (Iff.trans (i_1 _ _) (Iff.trans (dt_a (And.left h_2)) (Iff.trans (dt_a (And.left (And.right h_2))) (Iff.trans (dt_a (And.left (And.right (And.right h_2)))) (Iff.trans (dt_a (And.left (And.right (And.right (And.right h_2))))) (Iff.trans (dt_a (And.left (And.right (And.right (And.right (And.right h_2)))))) (Iff.trans (i_5 _ _) (Iff.trans (dt_a (And.left h_6)) (Iff.trans (dt_a (And.left (And.right h_6))) (Iff.trans (dt_a (And.left (And.right (And.right h_6)))) (Iff.trans (dt_a (And.left (And.right (And.right (And.right h_6))))) (Iff.trans (i_9 _) (Iff.trans (dt_2 (fun n => n c_11) c_11) (Iff.trans (dt_a (And.left h_12)) (Iff.trans (dt_a (And.left (And.right h_12))) (Iff.trans (dt_a (And.left (And.right (And.right h_12)))) (Iff.trans (i_17 _ _) (i_21 _ _)))))))))))))))))))))))))))))) (fun a0 a1 h_24 i_23 => k_T a0 a1 h_24 (fun _ _ => Iff.trans (dt_a (And.left h)) (Iff.trans (dt_a (And.left (And.right h))) (Iff.trans (dt_a (And.left (And.right (And.right h)))) (Iff.trans (dt_a (And.left (And.right (And.right (And.right h))))) (Iff.trans (dt_a (And.left (And.right (And.right (And.right (And.right h)))))) (Iff.trans (dt_a (And.left (And.right (And.right (And.right (And.right (And.right h))))))) (Iff.trans (dt_a (And.left (And.right (And.right (And.right (And.right (And.right (And.right h)))))))) (Iff.trans (dt_a (And.left (And.right (And.right (And.right (And.right (And.right (And.right (And.right h))))))))) (Iff.trans (dt_a (And.left (And.right (And.right (And.right (And.right (And.right (And.right (And.right (And.right h)))))))))) (Iff.trans (dt_a (And.left (And.right (And.right (And.right (And.right (And.right (And.right (And.right (And.right (And.right h))))))))))) (Iff.trans (dt_a (And.left (And.right (And.right (And.right (And.right (And.right (And.right (And.right (And.right (And.right (And.right h)))))))))))) (Iff.trans (i_1 _ _) (Iff.trans (dt_a (And.left h_2)) (Iff.trans (dt_a (And.left (And.right h_2))) (Iff.trans (dt_a (And.left (And.right (And.right h_2)))) (Iff.trans (dt_a (And.left (And.right (And.right (And.right h_2))))) (Iff.trans (dt_a (And.left (And.right (And.right (And.right (And.right h_2)))))) (Iff.trans (i_5 _ _) (Iff.trans (dt_a (And.left h_6)) (Iff.trans (dt_a (And.left (And.right h_6))) (Iff.trans (dt_a (And.left (And.right (And.right h_6)))) (Iff.trans (dt_a (And.left (And.right (And.right (And.right h_6))))) (Iff.trans (i_9 _) (Iff.trans (dt_2 (fun n => n c_11) c_11) (Iff.trans (dt_a (And.left h_12)) (Iff.trans (dt_a (And.left (And.right h_12))) (Iff.trans (dt_a (And.left (And.right (And.right h_12)))) (Iff.trans (i_17 _ _) (i_23 _ _))))))))))))))))))))))))))))))
set_option maxHeartbeats 1000000 in
theorem d_b_Un_readData_67 {U : ut} {u : Nat} {x1 : Int32} {x2 : Int32} {x3 : Int32} {S : cs} {R19 : Int32 → Int32 → cs → Prop} {R67 : Int32 → Int32 → Int32 → cs → Prop} {K : cs → Prop} {T : Nat → cs → Prop} (h : b_Un_readData_67 U u x1 x2 x3 S R19 R67 K T) {Q : Prop} (k_R19 : ∀ (a0 : Int32) (a1 : Int32) (a2 : cs), R19 a0 a1 a2 → (∀ (R19' : Int32 → Int32 → cs → Prop) (R67' : Int32 → Int32 → Int32 → cs → Prop) (K' : cs → Prop) (T' : Nat → cs → Prop), b_Un_readData_67 U u x1 x2 x3 S R19' R67' K' T' ↔ R19' a0 a1 a2) → Q) (k_R67 : ∀ (a0 : Int32) (a1 : Int32) (a2 : Int32) (a3 : cs), R67 a0 a1 a2 a3 → (∀ (R19' : Int32 → Int32 → cs → Prop) (R67' : Int32 → Int32 → Int32 → cs → Prop) (K' : cs → Prop) (T' : Nat → cs → Prop), b_Un_readData_67 U u x1 x2 x3 S R19' R67' K' T' ↔ R67' a0 a1 a2 a3) → Q) (k_K : ∀ (a0 : cs), K a0 → (∀ (R19' : Int32 → Int32 → cs → Prop) (R67' : Int32 → Int32 → Int32 → cs → Prop) (K' : cs → Prop) (T' : Nat → cs → Prop), b_Un_readData_67 U u x1 x2 x3 S R19' R67' K' T' ↔ K' a0) → Q) (k_T : ∀ (a0 : Nat) (a1 : cs), T a0 a1 → (∀ (R19' : Int32 → Int32 → cs → Prop) (R67' : Int32 → Int32 → Int32 → cs → Prop) (K' : cs → Prop) (T' : Nat → cs → Prop), b_Un_readData_67 U u x1 x2 x3 S R19' R67' K' T' ↔ T' a0 a1) → Q) : Q := by
  unfold b_Un_readData_67 at h
  refine dt_p (And.right (And.right h)) (fun c_1 h_2 => ?_) (fun c_1 h_2 => ?_)
  ·
    exact k_R19 _ _ _ h_2 (fun _ _ _ _ => Iff.trans (dt_a (And.left h)) (Iff.trans (dt_a (And.left (And.right h))) (dt_1 c_1 (fun n => n c_1))))
  ·
    refine d_p_Un_readBlock (And.right (And.right (And.right (And.right (And.right h_2))))) (fun S98 h_4 i_3 => ?_) (fun a0 a1 h_6 i_5 => k_T a0 a1 h_6 (fun _ _ _ _ => Iff.trans (dt_a (And.left h)) (Iff.trans (dt_a (And.left (And.right h))) (Iff.trans (dt_2 c_1 c_1) (Iff.trans (dt_a (And.left h_2)) (Iff.trans (dt_a (And.left (And.right h_2))) (Iff.trans (dt_a (And.left (And.right (And.right h_2)))) (Iff.trans (dt_a (And.left (And.right (And.right (And.right h_2))))) (Iff.trans (dt_a (And.left (And.right (And.right (And.right (And.right h_2)))))) (i_5 _ _))))))))))
    exact k_R67 _ _ _ _ h_4 (fun _ _ _ _ => Iff.trans (dt_a (And.left h)) (Iff.trans (dt_a (And.left (And.right h))) (Iff.trans (dt_2 c_1 c_1) (Iff.trans (dt_a (And.left h_2)) (Iff.trans (dt_a (And.left (And.right h_2))) (Iff.trans (dt_a (And.left (And.right (And.right h_2)))) (Iff.trans (dt_a (And.left (And.right (And.right (And.right h_2))))) (Iff.trans (dt_a (And.left (And.right (And.right (And.right (And.right h_2)))))) (i_3 _ _)))))))))
theorem l_e_Un_readData_67 {U : ut} {u : Nat} {x1 : Int32} {x2 : Int32} {x3 : Int32} {S : cs} {R19 : Int32 → Int32 → cs → Prop} {K : cs → Prop} {T : Nat → cs → Prop} : e_Un_readData_67 U u x1 x2 x3 S R19 K T ↔ lpE (C := (Int32 → Int32 → cs → Prop) × (cs → Prop) × (Nat → cs → Prop)) (fun (y : (Int32) × (Int32) × (Int32) × (cs)) (R : ((Int32) × (Int32) × (Int32) × (cs)) → Prop) (c : (Int32 → Int32 → cs → Prop) × (cs → Prop) × (Nat → cs → Prop)) => b_Un_readData_67 U u y.1 y.2.1 y.2.2.1 y.2.2.2 c.1 (fun z0 z1 z2 z3 => R (z0, z1, z2, z3)) c.2.1 c.2.2) (x1, x2, x3, S) (R19, K, T) :=
  ⟨fun ⟨I, μ, h0, hs⟩ => ⟨fun t => I t.1 t.2.1 t.2.2.1 t.2.2.2, fun t => μ t.1 t.2.1 t.2.2.1 t.2.2.2, h0, fun t ht => hs _ _ _ _ ht⟩, fun ⟨I, μ, h0, hs⟩ => ⟨fun y0 y1 y2 y3 => I (y0, y1, y2, y3), fun y0 y1 y2 y3 => μ (y0, y1, y2, y3), h0, fun y0 y1 y2 y3 hy => hs (y0, y1, y2, y3) hy⟩⟩
set_option maxHeartbeats 1000000 in
theorem d_e_Un_readData_67 {U : ut} {u : Nat} {x1 : Int32} {x2 : Int32} {x3 : Int32} {S : cs} {R19 : Int32 → Int32 → cs → Prop} {K : cs → Prop} {T : Nat → cs → Prop} (h : e_Un_readData_67 U u x1 x2 x3 S R19 K T) {Q : Prop} (k_R19 : ∀ (a0 : Int32) (a1 : Int32) (a2 : cs), R19 a0 a1 a2 → (∀ (R19' : Int32 → Int32 → cs → Prop) (K' : cs → Prop) (T' : Nat → cs → Prop), e_Un_readData_67 U u x1 x2 x3 S R19' K' T' ↔ R19' a0 a1 a2) → Q) (k_K : ∀ (a0 : cs), K a0 → (∀ (R19' : Int32 → Int32 → cs → Prop) (K' : cs → Prop) (T' : Nat → cs → Prop), e_Un_readData_67 U u x1 x2 x3 S R19' K' T' ↔ K' a0) → Q) (k_T : ∀ (a0 : Nat) (a1 : cs), T a0 a1 → (∀ (R19' : Int32 → Int32 → cs → Prop) (K' : cs → Prop) (T' : Nat → cs → Prop), e_Un_readData_67 U u x1 x2 x3 S R19' K' T' ↔ T' a0 a1) → Q) : Q := by
  obtain ⟨o, ho, hoc, hi⟩ := lp_det (C := (Int32 → Int32 → cs → Prop) × (cs → Prop) × (Nat → cs → Prop)) (b := (fun (y : (Int32) × (Int32) × (Int32) × (cs)) (R : ((Int32) × (Int32) × (Int32) × (cs)) → Prop) (c : (Int32 → Int32 → cs → Prop) × (cs → Prop) × (Nat → cs → Prop)) => b_Un_readData_67 U u y.1 y.2.1 y.2.2.1 y.2.2.2 c.1 (fun z0 z1 z2 z3 => R (z0, z1, z2, z3)) c.2.1 c.2.2)) (O := (fun (o : ((Int32 → Int32 → cs → Prop) × (cs → Prop) × (Nat → cs → Prop)) → Prop) => (∃ (a0 : Int32) (a1 : Int32) (a2 : cs), o = fun c => c.1 a0 a1 a2) ∨ (∃ (a0 : cs), o = fun c => c.2.1 a0) ∨ (∃ (a0 : Nat) (a1 : cs), o = fun c => c.2.2 a0 a1))) (fun y R c hy => d_b_Un_readData_67 hy (fun a0 a1 a2 ha ia => Or.inr ⟨(fun c => c.1 a0 a1 a2), Or.inl ⟨a0, a1, a2, rfl⟩, ha, fun R' c' => ia c'.1 (fun z0 z1 z2 z3 => R' (z0, z1, z2, z3)) c'.2.1 c'.2.2⟩) (fun a0 a1 a2 a3 ha ia => Or.inl ⟨(a0, a1, a2, a3), ha, fun R' c' => ia c'.1 (fun z0 z1 z2 z3 => R' (z0, z1, z2, z3)) c'.2.1 c'.2.2⟩) (fun a0 ha ia => Or.inr ⟨(fun c => c.2.1 a0), Or.inr (Or.inl ⟨a0, rfl⟩), ha, fun R' c' => ia c'.1 (fun z0 z1 z2 z3 => R' (z0, z1, z2, z3)) c'.2.1 c'.2.2⟩) (fun a0 a1 ha ia => Or.inr ⟨(fun c => c.2.2 a0 a1), Or.inr (Or.inr (⟨a0, a1, rfl⟩)), ha, fun R' c' => ia c'.1 (fun z0 z1 z2 z3 => R' (z0, z1, z2, z3)) c'.2.1 c'.2.2⟩)) (l_e_Un_readData_67.mp h)
  rcases ho with ⟨a0, a1, a2, rfl⟩ | ⟨a0, rfl⟩ | ⟨a0, a1, rfl⟩
  · exact k_R19 _ _ _ hoc (fun R19' K' T' => Iff.trans l_e_Un_readData_67 (hi (R19', K', T')))
  · exact k_K _ hoc (fun R19' K' T' => Iff.trans l_e_Un_readData_67 (hi (R19', K', T')))
  · exact k_T _ _ hoc (fun R19' K' T' => Iff.trans l_e_Un_readData_67 (hi (R19', K', T')))
theorem v_e_Un_readData_67 {U : ut} {u : Nat} {x1 : Int32} {x2 : Int32} {x3 : Int32} {S : cs} {R19 : Int32 → Int32 → cs → Prop} {K : cs → Prop} {T : Nat → cs → Prop} (h : e_Un_readData_67 U u x1 x2 x3 S R19 K T) {G : Prop} (Inv : Int32 → cs → Prop) (h0 : Inv x3 S) (hs : ∀ (yx3 : Int32) (yS : cs) (R : Int32 → Int32 → Int32 → cs → Prop), Inv yx3 yS → b_Un_readData_67 U u x1 x2 yx3 yS R19 R K T → (∃ (zx3 : Int32) (zS : cs), R x1 x2 zx3 zS ∧ Inv zx3 zS) ∨ G) : G := by
  obtain ⟨I, μ, i0, is⟩ := h
  have go : ∀ (n : Nat) (yx3 : Int32) (yS : cs), μ x1 x2 yx3 yS < n → I x1 x2 yx3 yS → Inv yx3 yS → G := by
    intro n
    induction n with
    | zero => intro yx3 yS hy; exact absurd hy (Nat.not_lt_zero _)
    | succ n ih =>
      intro yx3 yS hy hI hV
      rcases hs yx3 yS _ hV (is x1 x2 yx3 yS hI) with ⟨zx3, zS, ⟨hz, hm⟩, hv⟩ | g
      · exact ih zx3 zS (Nat.lt_of_lt_of_le hm (Nat.le_of_lt_succ hy)) hz hv
      · exact g
  exact go _ x3 S (Nat.lt_succ_self _) i0 h0
theorem r_e_Un_readData_67 {U : ut} {u : Nat} {x1 : Int32} {x2 : Int32} {x3 : Int32} {S : cs} {R19 : Int32 → Int32 → cs → Prop} {K : cs → Prop} {T : Nat → cs → Prop} (h : e_Un_readData_67 U u x1 x2 x3 S R19 K T) : b_Un_readData_67 U u x1 x2 x3 S R19 (fun zx1 zx2 zx3 zS => e_Un_readData_67 U u zx1 zx2 zx3 zS R19 K T) K T := by
  obtain ⟨I, μ, i0, is⟩ := h
  exact d_b_Un_readData_67 (is x1 x2 x3 S i0) (fun a0 a1 a2 ha ia => (ia _ _ _ _).mpr ha) (fun a0 a1 a2 a3 ha ia => (ia _ _ _ _).mpr ⟨I, μ, ha.1, is⟩) (fun a0 ha ia => (ia _ _ _ _).mpr ha) (fun a0 a1 ha ia => (ia _ _ _ _).mpr ha)
set_option maxHeartbeats 1000000 in
theorem d_b_Un_readData_65 {U : ut} {u : Nat} {x1 : Int32} {x2 : Int32} {S : cs} {R19 : Int32 → Int32 → cs → Prop} {K : cs → Prop} {T : Nat → cs → Prop} (h : b_Un_readData_65 U u x1 x2 S R19 K T) {Q : Prop} (k_R19 : ∀ (a0 : Int32) (a1 : Int32) (a2 : cs), R19 a0 a1 a2 → (∀ (R19' : Int32 → Int32 → cs → Prop) (K' : cs → Prop) (T' : Nat → cs → Prop), b_Un_readData_65 U u x1 x2 S R19' K' T' ↔ R19' a0 a1 a2) → Q) (k_K : ∀ (a0 : cs), K a0 → (∀ (R19' : Int32 → Int32 → cs → Prop) (K' : cs → Prop) (T' : Nat → cs → Prop), b_Un_readData_65 U u x1 x2 S R19' K' T' ↔ K' a0) → Q) (k_T : ∀ (a0 : Nat) (a1 : cs), T a0 a1 → (∀ (R19' : Int32 → Int32 → cs → Prop) (K' : cs → Prop) (T' : Nat → cs → Prop), b_Un_readData_65 U u x1 x2 S R19' K' T' ↔ T' a0 a1) → Q) : Q := by
  unfold b_Un_readData_65 at h
  exact d_e_Un_readData_67 h (fun a0 a1 a2 h_2 i_1 => k_R19 a0 a1 a2 h_2 (fun _ _ _ => i_1 _ _ _)) (fun a0 h_4 i_3 => k_K a0 h_4 (fun _ _ _ => i_3 _ _ _)) (fun a0 a1 h_6 i_5 => k_T a0 a1 h_6 (fun _ _ _ => i_5 _ _ _))
set_option maxHeartbeats 1000000 in
theorem d_b_Un_readData_19 {U : ut} {u : Nat} {x1 : Int32} {x2 : Int32} {S : cs} {R19 : Int32 → Int32 → cs → Prop} {K : cs → Prop} {T : Nat → cs → Prop} (h : b_Un_readData_19 U u x1 x2 S R19 K T) {Q : Prop} (k_R19 : ∀ (a0 : Int32) (a1 : Int32) (a2 : cs), R19 a0 a1 a2 → (∀ (R19' : Int32 → Int32 → cs → Prop) (K' : cs → Prop) (T' : Nat → cs → Prop), b_Un_readData_19 U u x1 x2 S R19' K' T' ↔ R19' a0 a1 a2) → Q) (k_K : ∀ (a0 : cs), K a0 → (∀ (R19' : Int32 → Int32 → cs → Prop) (K' : cs → Prop) (T' : Nat → cs → Prop), b_Un_readData_19 U u x1 x2 S R19' K' T' ↔ K' a0) → Q) (k_T : ∀ (a0 : Nat) (a1 : cs), T a0 a1 → (∀ (R19' : Int32 → Int32 → cs → Prop) (K' : cs → Prop) (T' : Nat → cs → Prop), b_Un_readData_19 U u x1 x2 S R19' K' T' ↔ T' a0 a1) → Q) : Q := by
  unfold b_Un_readData_19 at h
  refine dt_p (And.right (And.right h)) (fun c_1 h_2 => ?_) (fun c_1 h_2 => ?_)
  ·
    exact k_K _ h_2 (fun _ _ _ => Iff.trans (dt_a (And.left h)) (Iff.trans (dt_a (And.left (And.right h))) (dt_1 c_1 (fun n => n c_1))))
  ·
    refine dt_p h_2 (fun c_3 h_4 => ?_) (fun c_3 h_4 => ?_)
    ·
      exact d_b_Un_readData_65 h_4 (fun a0 a1 a2 h_6 i_5 => k_R19 a0 a1 a2 h_6 (fun _ _ _ => Iff.trans (dt_a (And.left h)) (Iff.trans (dt_a (And.left (And.right h))) (Iff.trans (dt_2 c_1 c_1) (Iff.trans (dt_1 c_3 (fun n => n c_3)) (i_5 _ _ _)))))) (fun a0 h_8 i_7 => k_K a0 h_8 (fun _ _ _ => Iff.trans (dt_a (And.left h)) (Iff.trans (dt_a (And.left (And.right h))) (Iff.trans (dt_2 c_1 c_1) (Iff.trans (dt_1 c_3 (fun n => n c_3)) (i_7 _ _ _)))))) (fun a0 a1 h_10 i_9 => k_T a0 a1 h_10 (fun _ _ _ => Iff.trans (dt_a (And.left h)) (Iff.trans (dt_a (And.left (And.right h))) (Iff.trans (dt_2 c_1 c_1) (Iff.trans (dt_1 c_3 (fun n => n c_3)) (i_9 _ _ _))))))
    ·
      refine dt_p h_4 (fun c_11 h_12 => ?_) (fun c_11 h_12 => ?_)
      ·
        exact d_b_Un_readData_65 h_12 (fun a0 a1 a2 h_14 i_13 => k_R19 a0 a1 a2 h_14 (fun _ _ _ => Iff.trans (dt_a (And.left h)) (Iff.trans (dt_a (And.left (And.right h))) (Iff.trans (dt_2 c_1 c_1) (Iff.trans (dt_2 c_3 c_3) (Iff.trans (dt_1 c_11 (fun n => n c_11)) (i_13 _ _ _))))))) (fun a0 h_16 i_15 => k_K a0 h_16 (fun _ _ _ => Iff.trans (dt_a (And.left h)) (Iff.trans (dt_a (And.left (And.right h))) (Iff.trans (dt_2 c_1 c_1) (Iff.trans (dt_2 c_3 c_3) (Iff.trans (dt_1 c_11 (fun n => n c_11)) (i_15 _ _ _))))))) (fun a0 a1 h_18 i_17 => k_T a0 a1 h_18 (fun _ _ _ => Iff.trans (dt_a (And.left h)) (Iff.trans (dt_a (And.left (And.right h))) (Iff.trans (dt_2 c_1 c_1) (Iff.trans (dt_2 c_3 c_3) (Iff.trans (dt_1 c_11 (fun n => n c_11)) (i_17 _ _ _)))))))
      ·
        refine dt_n (And.right h_12) (fun c_19 h_20 => ?_) (fun c_19 h_20 => ?_)
        ·
          exact d_b_Un_readData_65 h_20 (fun a0 a1 a2 h_22 i_21 => k_R19 a0 a1 a2 h_22 (fun _ _ _ => Iff.trans (dt_a (And.left h)) (Iff.trans (dt_a (And.left (And.right h))) (Iff.trans (dt_2 c_1 c_1) (Iff.trans (dt_2 c_3 c_3) (Iff.trans (dt_2 c_11 c_11) (Iff.trans (dt_a (And.left h_12)) (Iff.trans (dt_1 c_19 c_19) (i_21 _ _ _))))))))) (fun a0 h_24 i_23 => k_K a0 h_24 (fun _ _ _ => Iff.trans (dt_a (And.left h)) (Iff.trans (dt_a (And.left (And.right h))) (Iff.trans (dt_2 c_1 c_1) (Iff.trans (dt_2 c_3 c_3) (Iff.trans (dt_2 c_11 c_11) (Iff.trans (dt_a (And.left h_12)) (Iff.trans (dt_1 c_19 c_19) (i_23 _ _ _))))))))) (fun a0 a1 h_26 i_25 => k_T a0 a1 h_26 (fun _ _ _ => Iff.trans (dt_a (And.left h)) (Iff.trans (dt_a (And.left (And.right h))) (Iff.trans (dt_2 c_1 c_1) (Iff.trans (dt_2 c_3 c_3) (Iff.trans (dt_2 c_11 c_11) (Iff.trans (dt_a (And.left h_12)) (Iff.trans (dt_1 c_19 c_19) (i_25 _ _ _)))))))))
        ·
          refine d_p_Un_readAgain h_20 (fun S59 h_28 i_27 => ?_) (fun a0 a1 h_30 i_29 => k_T a0 a1 h_30 (fun _ _ _ => Iff.trans (dt_a (And.left h)) (Iff.trans (dt_a (And.left (And.right h))) (Iff.trans (dt_2 c_1 c_1) (Iff.trans (dt_2 c_3 c_3) (Iff.trans (dt_2 c_11 c_11) (Iff.trans (dt_a (And.left h_12)) (Iff.trans (dt_2 (fun n => n c_19) c_19) (i_29 _ _)))))))))
          exact d_b_Un_readData_65 h_28 (fun a0 a1 a2 h_32 i_31 => k_R19 a0 a1 a2 h_32 (fun _ _ _ => Iff.trans (dt_a (And.left h)) (Iff.trans (dt_a (And.left (And.right h))) (Iff.trans (dt_2 c_1 c_1) (Iff.trans (dt_2 c_3 c_3) (Iff.trans (dt_2 c_11 c_11) (Iff.trans (dt_a (And.left h_12)) (Iff.trans (dt_2 (fun n => n c_19) c_19) (Iff.trans (i_27 _ _) (i_31 _ _ _)))))))))) (fun a0 h_34 i_33 => k_K a0 h_34 (fun _ _ _ => Iff.trans (dt_a (And.left h)) (Iff.trans (dt_a (And.left (And.right h))) (Iff.trans (dt_2 c_1 c_1) (Iff.trans (dt_2 c_3 c_3) (Iff.trans (dt_2 c_11 c_11) (Iff.trans (dt_a (And.left h_12)) (Iff.trans (dt_2 (fun n => n c_19) c_19) (Iff.trans (i_27 _ _) (i_33 _ _ _)))))))))) (fun a0 a1 h_36 i_35 => k_T a0 a1 h_36 (fun _ _ _ => Iff.trans (dt_a (And.left h)) (Iff.trans (dt_a (And.left (And.right h))) (Iff.trans (dt_2 c_1 c_1) (Iff.trans (dt_2 c_3 c_3) (Iff.trans (dt_2 c_11 c_11) (Iff.trans (dt_a (And.left h_12)) (Iff.trans (dt_2 (fun n => n c_19) c_19) (Iff.trans (i_27 _ _) (i_35 _ _ _))))))))))
theorem l_e_Un_readData_19 {U : ut} {u : Nat} {x1 : Int32} {x2 : Int32} {S : cs} {K : cs → Prop} {T : Nat → cs → Prop} : e_Un_readData_19 U u x1 x2 S K T ↔ lpE (C := (cs → Prop) × (Nat → cs → Prop)) (fun (y : (Int32) × (Int32) × (cs)) (R : ((Int32) × (Int32) × (cs)) → Prop) (c : (cs → Prop) × (Nat → cs → Prop)) => b_Un_readData_19 U u y.1 y.2.1 y.2.2 (fun z0 z1 z2 => R (z0, z1, z2)) c.1 c.2) (x1, x2, S) (K, T) :=
  ⟨fun ⟨I, μ, h0, hs⟩ => ⟨fun t => I t.1 t.2.1 t.2.2, fun t => μ t.1 t.2.1 t.2.2, h0, fun t ht => hs _ _ _ ht⟩, fun ⟨I, μ, h0, hs⟩ => ⟨fun y0 y1 y2 => I (y0, y1, y2), fun y0 y1 y2 => μ (y0, y1, y2), h0, fun y0 y1 y2 hy => hs (y0, y1, y2) hy⟩⟩
set_option maxHeartbeats 1000000 in
theorem d_e_Un_readData_19 {U : ut} {u : Nat} {x1 : Int32} {x2 : Int32} {S : cs} {K : cs → Prop} {T : Nat → cs → Prop} (h : e_Un_readData_19 U u x1 x2 S K T) {Q : Prop} (k_K : ∀ (a0 : cs), K a0 → (∀ (K' : cs → Prop) (T' : Nat → cs → Prop), e_Un_readData_19 U u x1 x2 S K' T' ↔ K' a0) → Q) (k_T : ∀ (a0 : Nat) (a1 : cs), T a0 a1 → (∀ (K' : cs → Prop) (T' : Nat → cs → Prop), e_Un_readData_19 U u x1 x2 S K' T' ↔ T' a0 a1) → Q) : Q := by
  obtain ⟨o, ho, hoc, hi⟩ := lp_det (C := (cs → Prop) × (Nat → cs → Prop)) (b := (fun (y : (Int32) × (Int32) × (cs)) (R : ((Int32) × (Int32) × (cs)) → Prop) (c : (cs → Prop) × (Nat → cs → Prop)) => b_Un_readData_19 U u y.1 y.2.1 y.2.2 (fun z0 z1 z2 => R (z0, z1, z2)) c.1 c.2)) (O := (fun (o : ((cs → Prop) × (Nat → cs → Prop)) → Prop) => (∃ (a0 : cs), o = fun c => c.1 a0) ∨ (∃ (a0 : Nat) (a1 : cs), o = fun c => c.2 a0 a1))) (fun y R c hy => d_b_Un_readData_19 hy (fun a0 a1 a2 ha ia => Or.inl ⟨(a0, a1, a2), ha, fun R' c' => ia (fun z0 z1 z2 => R' (z0, z1, z2)) c'.1 c'.2⟩) (fun a0 ha ia => Or.inr ⟨(fun c => c.1 a0), Or.inl ⟨a0, rfl⟩, ha, fun R' c' => ia (fun z0 z1 z2 => R' (z0, z1, z2)) c'.1 c'.2⟩) (fun a0 a1 ha ia => Or.inr ⟨(fun c => c.2 a0 a1), Or.inr (⟨a0, a1, rfl⟩), ha, fun R' c' => ia (fun z0 z1 z2 => R' (z0, z1, z2)) c'.1 c'.2⟩)) (l_e_Un_readData_19.mp h)
  rcases ho with ⟨a0, rfl⟩ | ⟨a0, a1, rfl⟩
  · exact k_K _ hoc (fun K' T' => Iff.trans l_e_Un_readData_19 (hi (K', T')))
  · exact k_T _ _ hoc (fun K' T' => Iff.trans l_e_Un_readData_19 (hi (K', T')))
theorem v_e_Un_readData_19 {U : ut} {u : Nat} {x1 : Int32} {x2 : Int32} {S : cs} {K : cs → Prop} {T : Nat → cs → Prop} (h : e_Un_readData_19 U u x1 x2 S K T) {G : Prop} (Inv : Int32 → Int32 → cs → Prop) (h0 : Inv x1 x2 S) (hs : ∀ (yx1 : Int32) (yx2 : Int32) (yS : cs) (R : Int32 → Int32 → cs → Prop), Inv yx1 yx2 yS → b_Un_readData_19 U u yx1 yx2 yS R K T → (∃ (zx1 : Int32) (zx2 : Int32) (zS : cs), R zx1 zx2 zS ∧ Inv zx1 zx2 zS) ∨ G) : G := by
  obtain ⟨I, μ, i0, is⟩ := h
  have go : ∀ (n : Nat) (yx1 : Int32) (yx2 : Int32) (yS : cs), μ yx1 yx2 yS < n → I yx1 yx2 yS → Inv yx1 yx2 yS → G := by
    intro n
    induction n with
    | zero => intro yx1 yx2 yS hy; exact absurd hy (Nat.not_lt_zero _)
    | succ n ih =>
      intro yx1 yx2 yS hy hI hV
      rcases hs yx1 yx2 yS _ hV (is yx1 yx2 yS hI) with ⟨zx1, zx2, zS, ⟨hz, hm⟩, hv⟩ | g
      · exact ih zx1 zx2 zS (Nat.lt_of_lt_of_le hm (Nat.le_of_lt_succ hy)) hz hv
      · exact g
  exact go _ x1 x2 S (Nat.lt_succ_self _) i0 h0
theorem r_e_Un_readData_19 {U : ut} {u : Nat} {x1 : Int32} {x2 : Int32} {S : cs} {K : cs → Prop} {T : Nat → cs → Prop} (h : e_Un_readData_19 U u x1 x2 S K T) : b_Un_readData_19 U u x1 x2 S (fun zx1 zx2 zS => e_Un_readData_19 U u zx1 zx2 zS K T) K T := by
  obtain ⟨I, μ, i0, is⟩ := h
  exact d_b_Un_readData_19 (is x1 x2 S i0) (fun a0 a1 a2 ha ia => (ia _ _ _).mpr ⟨I, μ, ha.1, is⟩) (fun a0 ha ia => (ia _ _ _).mpr ha) (fun a0 a1 ha ia => (ia _ _ _).mpr ha)
set_option maxHeartbeats 1000000 in
theorem d_p_Un_readData {U : ut} {u : Nat} {S : cs} {K : cs → Prop} {T : Nat → cs → Prop} (h : p_Un_readData U u S K T) {Q : Prop} (k_K : ∀ (a0 : cs), K a0 → (∀ (K' : cs → Prop) (T' : Nat → cs → Prop), p_Un_readData U u S K' T' ↔ K' a0) → Q) (k_T : ∀ (a0 : Nat) (a1 : cs), T a0 a1 → (∀ (K' : cs → Prop) (T' : Nat → cs → Prop), p_Un_readData U u S K' T' ↔ T' a0 a1) → Q) : Q := by
  unfold p_Un_readData at h
  refine d_p_Re_dropBits (And.right (And.right h)) (fun S4 h_2 i_1 => ?_)
  refine d_p_Ar_fillI (And.right h_2) (fun S12 h_4 i_3 => ?_)
  exact d_e_Un_readData_19 h_4 (fun a0 h_6 i_5 => k_K a0 h_6 (fun _ _ => Iff.trans (dt_a (And.left h)) (Iff.trans (dt_a (And.left (And.right h))) (Iff.trans (i_1 _) (Iff.trans (dt_a (And.left h_2)) (Iff.trans (i_3 _) (i_5 _ _))))))) (fun a0 a1 h_8 i_7 => k_T a0 a1 h_8 (fun _ _ => Iff.trans (dt_a (And.left h)) (Iff.trans (dt_a (And.left (And.right h))) (Iff.trans (i_1 _) (Iff.trans (dt_a (And.left h_2)) (Iff.trans (i_3 _) (i_7 _ _)))))))
set_option maxHeartbeats 1000000 in
theorem d_b_Un_readRow_156 {U : ut} {u : Nat} {S : cs} {K : cs → Prop} {T : Nat → cs → Prop} (h : b_Un_readRow_156 U u S K T) {Q : Prop} (k_K : ∀ (a0 : cs), K a0 → (∀ (K' : cs → Prop) (T' : Nat → cs → Prop), b_Un_readRow_156 U u S K' T' ↔ K' a0) → Q) (k_T : ∀ (a0 : Nat) (a1 : cs), T a0 a1 → (∀ (K' : cs → Prop) (T' : Nat → cs → Prop), b_Un_readRow_156 U u S K' T' ↔ T' a0 a1) → Q) : Q := by
  unfold b_Un_readRow_156 at h
  exact k_K _ h (fun _ _ => Iff.rfl)
set_option maxHeartbeats 1000000 in
theorem d_b_Un_readRow_120 {U : ut} {u : Nat} {S : cs} {K : cs → Prop} {T : Nat → cs → Prop} (h : b_Un_readRow_120 U u S K T) {Q : Prop} (k_K : ∀ (a0 : cs), K a0 → (∀ (K' : cs → Prop) (T' : Nat → cs → Prop), b_Un_readRow_120 U u S K' T' ↔ K' a0) → Q) (k_T : ∀ (a0 : Nat) (a1 : cs), T a0 a1 → (∀ (K' : cs → Prop) (T' : Nat → cs → Prop), b_Un_readRow_120 U u S K' T' ↔ T' a0 a1) → Q) : Q := by
  unfold b_Un_readRow_120 at h
  refine d_p_Ro_has (And.right (And.right (And.right (And.right (And.right h))))) (fun v134 S134 h_2 i_1 => ?_)
  refine dt_p h_2 (fun c_3 h_4 => ?_) (fun c_3 h_4 => ?_)
  ·
    exact d_b_Un_readRow_156 h_4 (fun a0 h_6 i_5 => k_K a0 h_6 (fun _ _ => Iff.trans (dt_a (And.left h)) (Iff.trans (dt_a (And.left (And.right h))) (Iff.trans (dt_a (And.left (And.right (And.right h)))) (Iff.trans (dt_a (And.left (And.right (And.right (And.right h))))) (Iff.trans (dt_a (And.left (And.right (And.right (And.right (And.right h)))))) (Iff.trans (i_1 _) (Iff.trans (dt_1 c_3 (fun n => n c_3)) (i_5 _ _))))))))) (fun a0 a1 h_8 i_7 => k_T a0 a1 h_8 (fun _ _ => Iff.trans (dt_a (And.left h)) (Iff.trans (dt_a (And.left (And.right h))) (Iff.trans (dt_a (And.left (And.right (And.right h)))) (Iff.trans (dt_a (And.left (And.right (And.right (And.right h))))) (Iff.trans (dt_a (And.left (And.right (And.right (And.right (And.right h)))))) (Iff.trans (i_1 _) (Iff.trans (dt_1 c_3 (fun n => n c_3)) (i_7 _ _)))))))))
  ·
    refine d_p_Re_fail (And.right (And.right (And.right h_4))) (fun S153 h_10 i_9 => ?_) (fun a0 a1 h_12 i_11 => k_T a0 a1 h_12 (fun _ _ => Iff.trans (dt_a (And.left h)) (Iff.trans (dt_a (And.left (And.right h))) (Iff.trans (dt_a (And.left (And.right (And.right h)))) (Iff.trans (dt_a (And.left (And.right (And.right (And.right h))))) (Iff.trans (dt_a (And.left (And.right (And.right (And.right (And.right h)))))) (Iff.trans (i_1 _) (Iff.trans (dt_2 c_3 c_3) (Iff.trans (dt_a (And.left h_4)) (Iff.trans (dt_a (And.left (And.right h_4))) (Iff.trans (dt_a (And.left (And.right (And.right h_4)))) (i_11 _ _))))))))))))
    exact d_b_Un_readRow_156 h_10 (fun a0 h_14 i_13 => k_K a0 h_14 (fun _ _ => Iff.trans (dt_a (And.left h)) (Iff.trans (dt_a (And.left (And.right h))) (Iff.trans (dt_a (And.left (And.right (And.right h)))) (Iff.trans (dt_a (And.left (And.right (And.right (And.right h))))) (Iff.trans (dt_a (And.left (And.right (And.right (And.right (And.right h)))))) (Iff.trans (i_1 _) (Iff.trans (dt_2 c_3 c_3) (Iff.trans (dt_a (And.left h_4)) (Iff.trans (dt_a (And.left (And.right h_4))) (Iff.trans (dt_a (And.left (And.right (And.right h_4)))) (Iff.trans (i_9 _ _) (i_13 _ _))))))))))))) (fun a0 a1 h_16 i_15 => k_T a0 a1 h_16 (fun _ _ => Iff.trans (dt_a (And.left h)) (Iff.trans (dt_a (And.left (And.right h))) (Iff.trans (dt_a (And.left (And.right (And.right h)))) (Iff.trans (dt_a (And.left (And.right (And.right (And.right h))))) (Iff.trans (dt_a (And.left (And.right (And.right (And.right (And.right h)))))) (Iff.trans (i_1 _) (Iff.trans (dt_2 c_3 c_3) (Iff.trans (dt_a (And.left h_4)) (Iff.trans (dt_a (And.left (And.right h_4))) (Iff.trans (dt_a (And.left (And.right (And.right h_4)))) (Iff.trans (i_9 _ _) (i_15 _ _)))))))))))))
set_option maxHeartbeats 1000000 in
theorem d_b_Un_readRow_114 {U : ut} {u : Nat} {x1 : Int32} {x2 : Int32} {S : cs} {R38 : Int32 → Int32 → cs → Prop} {K : cs → Prop} {T : Nat → cs → Prop} (h : b_Un_readRow_114 U u x1 x2 S R38 K T) {Q : Prop} (k_R38 : ∀ (a0 : Int32) (a1 : Int32) (a2 : cs), R38 a0 a1 a2 → (∀ (R38' : Int32 → Int32 → cs → Prop) (K' : cs → Prop) (T' : Nat → cs → Prop), b_Un_readRow_114 U u x1 x2 S R38' K' T' ↔ R38' a0 a1 a2) → Q) (k_K : ∀ (a0 : cs), K a0 → (∀ (R38' : Int32 → Int32 → cs → Prop) (K' : cs → Prop) (T' : Nat → cs → Prop), b_Un_readRow_114 U u x1 x2 S R38' K' T' ↔ K' a0) → Q) (k_T : ∀ (a0 : Nat) (a1 : cs), T a0 a1 → (∀ (R38' : Int32 → Int32 → cs → Prop) (K' : cs → Prop) (T' : Nat → cs → Prop), b_Un_readRow_114 U u x1 x2 S R38' K' T' ↔ T' a0 a1) → Q) : Q := by
  unfold b_Un_readRow_114 at h
  exact k_R38 _ _ _ h (fun _ _ _ => Iff.rfl)
set_option maxHeartbeats 1000000 in
theorem d_b_Un_readRow_103 {U : ut} {u : Nat} {x1 : Int32} {x2 : Int32} {x3 : Int32} {S : cs} {R38 : Int32 → Int32 → cs → Prop} {K : cs → Prop} {T : Nat → cs → Prop} (h : b_Un_readRow_103 U u x1 x2 x3 S R38 K T) {Q : Prop} (k_R38 : ∀ (a0 : Int32) (a1 : Int32) (a2 : cs), R38 a0 a1 a2 → (∀ (R38' : Int32 → Int32 → cs → Prop) (K' : cs → Prop) (T' : Nat → cs → Prop), b_Un_readRow_103 U u x1 x2 x3 S R38' K' T' ↔ R38' a0 a1 a2) → Q) (k_K : ∀ (a0 : cs), K a0 → (∀ (R38' : Int32 → Int32 → cs → Prop) (K' : cs → Prop) (T' : Nat → cs → Prop), b_Un_readRow_103 U u x1 x2 x3 S R38' K' T' ↔ K' a0) → Q) (k_T : ∀ (a0 : Nat) (a1 : cs), T a0 a1 → (∀ (R38' : Int32 → Int32 → cs → Prop) (K' : cs → Prop) (T' : Nat → cs → Prop), b_Un_readRow_103 U u x1 x2 x3 S R38' K' T' ↔ T' a0 a1) → Q) : Q := by
  unfold b_Un_readRow_103 at h
  refine dt_n h (fun c_1 h_2 => ?_) (fun c_1 h_2 => ?_)
  ·
    exact d_b_Un_readRow_114 h_2 (fun a0 a1 a2 h_4 i_3 => k_R38 a0 a1 a2 h_4 (fun _ _ _ => Iff.trans (dt_1 c_1 c_1) (i_3 _ _ _))) (fun a0 h_6 i_5 => k_K a0 h_6 (fun _ _ _ => Iff.trans (dt_1 c_1 c_1) (i_5 _ _ _))) (fun a0 a1 h_8 i_7 => k_T a0 a1 h_8 (fun _ _ _ => Iff.trans (dt_1 c_1 c_1) (i_7 _ _ _)))
  ·
    refine d_p_Un_readData h_2 (fun S111 h_10 i_9 => ?_) (fun a0 a1 h_12 i_11 => k_T a0 a1 h_12 (fun _ _ _ => Iff.trans (dt_2 (fun n => n c_1) c_1) (i_11 _ _)))
    exact d_b_Un_readRow_114 h_10 (fun a0 a1 a2 h_14 i_13 => k_R38 a0 a1 a2 h_14 (fun _ _ _ => Iff.trans (dt_2 (fun n => n c_1) c_1) (Iff.trans (i_9 _ _) (i_13 _ _ _)))) (fun a0 h_16 i_15 => k_K a0 h_16 (fun _ _ _ => Iff.trans (dt_2 (fun n => n c_1) c_1) (Iff.trans (i_9 _ _) (i_15 _ _ _)))) (fun a0 a1 h_18 i_17 => k_T a0 a1 h_18 (fun _ _ _ => Iff.trans (dt_2 (fun n => n c_1) c_1) (Iff.trans (i_9 _ _) (i_17 _ _ _))))
set_option maxHeartbeats 1000000 in
theorem d_b_Un_readRow_94 {U : ut} {u : Nat} {x1 : Int32} {x2 : Int32} {x3 : Int32} {S : cs} {R38 : Int32 → Int32 → cs → Prop} {K : cs → Prop} {T : Nat → cs → Prop} (h : b_Un_readRow_94 U u x1 x2 x3 S R38 K T) {Q : Prop} (k_R38 : ∀ (a0 : Int32) (a1 : Int32) (a2 : cs), R38 a0 a1 a2 → (∀ (R38' : Int32 → Int32 → cs → Prop) (K' : cs → Prop) (T' : Nat → cs → Prop), b_Un_readRow_94 U u x1 x2 x3 S R38' K' T' ↔ R38' a0 a1 a2) → Q) (k_K : ∀ (a0 : cs), K a0 → (∀ (R38' : Int32 → Int32 → cs → Prop) (K' : cs → Prop) (T' : Nat → cs → Prop), b_Un_readRow_94 U u x1 x2 x3 S R38' K' T' ↔ K' a0) → Q) (k_T : ∀ (a0 : Nat) (a1 : cs), T a0 a1 → (∀ (R38' : Int32 → Int32 → cs → Prop) (K' : cs → Prop) (T' : Nat → cs → Prop), b_Un_readRow_94 U u x1 x2 x3 S R38' K' T' ↔ T' a0 a1) → Q) : Q := by
  unfold b_Un_readRow_94 at h
  refine dt_p h (fun c_1 h_2 => ?_) (fun c_1 h_2 => ?_)
  ·
    exact d_b_Un_readRow_103 h_2 (fun a0 a1 a2 h_4 i_3 => k_R38 a0 a1 a2 h_4 (fun _ _ _ => Iff.trans (dt_1 c_1 (fun n => n c_1)) (i_3 _ _ _))) (fun a0 h_6 i_5 => k_K a0 h_6 (fun _ _ _ => Iff.trans (dt_1 c_1 (fun n => n c_1)) (i_5 _ _ _))) (fun a0 a1 h_8 i_7 => k_T a0 a1 h_8 (fun _ _ _ => Iff.trans (dt_1 c_1 (fun n => n c_1)) (i_7 _ _ _)))
  ·
    refine d_p_Un_readSection h_2 (fun S100 h_10 i_9 => ?_) (fun a0 a1 h_12 i_11 => k_T a0 a1 h_12 (fun _ _ _ => Iff.trans (dt_2 c_1 c_1) (i_11 _ _)))
    exact d_b_Un_readRow_103 h_10 (fun a0 a1 a2 h_14 i_13 => k_R38 a0 a1 a2 h_14 (fun _ _ _ => Iff.trans (dt_2 c_1 c_1) (Iff.trans (i_9 _ _) (i_13 _ _ _)))) (fun a0 h_16 i_15 => k_K a0 h_16 (fun _ _ _ => Iff.trans (dt_2 c_1 c_1) (Iff.trans (i_9 _ _) (i_15 _ _ _)))) (fun a0 a1 h_18 i_17 => k_T a0 a1 h_18 (fun _ _ _ => Iff.trans (dt_2 c_1 c_1) (Iff.trans (i_9 _ _) (i_17 _ _ _))))
set_option maxHeartbeats 1000000 in
theorem d_b_Un_readRow_68 {U : ut} {u : Nat} {x2 : Int32} {x3 : Int32} {s0 : Int32} {S : cs} {R38 : Int32 → Int32 → cs → Prop} {K : cs → Prop} {T : Nat → cs → Prop} (h : b_Un_readRow_68 U u x2 x3 s0 S R38 K T) {Q : Prop} (k_R38 : ∀ (a0 : Int32) (a1 : Int32) (a2 : cs), R38 a0 a1 a2 → (∀ (R38' : Int32 → Int32 → cs → Prop) (K' : cs → Prop) (T' : Nat → cs → Prop), b_Un_readRow_68 U u x2 x3 s0 S R38' K' T' ↔ R38' a0 a1 a2) → Q) (k_K : ∀ (a0 : cs), K a0 → (∀ (R38' : Int32 → Int32 → cs → Prop) (K' : cs → Prop) (T' : Nat → cs → Prop), b_Un_readRow_68 U u x2 x3 s0 S R38' K' T' ↔ K' a0) → Q) (k_T : ∀ (a0 : Nat) (a1 : cs), T a0 a1 → (∀ (R38' : Int32 → Int32 → cs → Prop) (K' : cs → Prop) (T' : Nat → cs → Prop), b_Un_readRow_68 U u x2 x3 s0 S R38' K' T' ↔ T' a0 a1) → Q) : Q := by
  unfold b_Un_readRow_68 at h
  refine d_p_Un_canCome h (fun v71 S71 h_2 i_1 => ?_)
  refine dt_n h_2 (fun c_3 h_4 => ?_) (fun c_3 h_4 => ?_)
  ·
    exact d_b_Un_readRow_94 h_4 (fun a0 a1 a2 h_6 i_5 => k_R38 a0 a1 a2 h_6 (fun _ _ _ => Iff.trans (i_1 _) (Iff.trans (dt_1 c_3 c_3) (i_5 _ _ _)))) (fun a0 h_8 i_7 => k_K a0 h_8 (fun _ _ _ => Iff.trans (i_1 _) (Iff.trans (dt_1 c_3 c_3) (i_7 _ _ _)))) (fun a0 a1 h_10 i_9 => k_T a0 a1 h_10 (fun _ _ _ => Iff.trans (i_1 _) (Iff.trans (dt_1 c_3 c_3) (i_9 _ _ _))))
  ·
    refine d_p_Re_fail (And.right (And.right (And.right h_4))) (fun S91 h_12 i_11 => ?_) (fun a0 a1 h_14 i_13 => k_T a0 a1 h_14 (fun _ _ _ => Iff.trans (i_1 _) (Iff.trans (dt_2 (fun n => n c_3) c_3) (Iff.trans (dt_a (And.left h_4)) (Iff.trans (dt_a (And.left (And.right h_4))) (Iff.trans (dt_a (And.left (And.right (And.right h_4)))) (i_13 _ _)))))))
    exact d_b_Un_readRow_94 h_12 (fun a0 a1 a2 h_16 i_15 => k_R38 a0 a1 a2 h_16 (fun _ _ _ => Iff.trans (i_1 _) (Iff.trans (dt_2 (fun n => n c_3) c_3) (Iff.trans (dt_a (And.left h_4)) (Iff.trans (dt_a (And.left (And.right h_4))) (Iff.trans (dt_a (And.left (And.right (And.right h_4)))) (Iff.trans (i_11 _ _) (i_15 _ _ _)))))))) (fun a0 h_18 i_17 => k_K a0 h_18 (fun _ _ _ => Iff.trans (i_1 _) (Iff.trans (dt_2 (fun n => n c_3) c_3) (Iff.trans (dt_a (And.left h_4)) (Iff.trans (dt_a (And.left (And.right h_4))) (Iff.trans (dt_a (And.left (And.right (And.right h_4)))) (Iff.trans (i_11 _ _) (i_17 _ _ _)))))))) (fun a0 a1 h_20 i_19 => k_T a0 a1 h_20 (fun _ _ _ => Iff.trans (i_1 _) (Iff.trans (dt_2 (fun n => n c_3) c_3) (Iff.trans (dt_a (And.left h_4)) (Iff.trans (dt_a (And.left (And.right h_4))) (Iff.trans (dt_a (And.left (And.right (And.right h_4)))) (Iff.trans (i_11 _ _) (i_19 _ _ _))))))))
set_option maxHeartbeats 1000000 in
theorem d_b_Un_readRow_38 {U : ut} {u : Nat} {x1 : Int32} {x2 : Int32} {S : cs} {R38 : Int32 → Int32 → cs → Prop} {K : cs → Prop} {T : Nat → cs → Prop} (h : b_Un_readRow_38 U u x1 x2 S R38 K T) {Q : Prop} (k_R38 : ∀ (a0 : Int32) (a1 : Int32) (a2 : cs), R38 a0 a1 a2 → (∀ (R38' : Int32 → Int32 → cs → Prop) (K' : cs → Prop) (T' : Nat → cs → Prop), b_Un_readRow_38 U u x1 x2 S R38' K' T' ↔ R38' a0 a1 a2) → Q) (k_K : ∀ (a0 : cs), K a0 → (∀ (R38' : Int32 → Int32 → cs → Prop) (K' : cs → Prop) (T' : Nat → cs → Prop), b_Un_readRow_38 U u x1 x2 S R38' K' T' ↔ K' a0) → Q) (k_T : ∀ (a0 : Nat) (a1 : cs), T a0 a1 → (∀ (R38' : Int32 → Int32 → cs → Prop) (K' : cs → Prop) (T' : Nat → cs → Prop), b_Un_readRow_38 U u x1 x2 S R38' K' T' ↔ T' a0 a1) → Q) : Q := by
  unfold b_Un_readRow_38 at h
  refine dt_p h (fun c_1 h_2 => ?_) (fun c_1 h_2 => ?_)
  ·
    exact d_b_Un_readRow_120 h_2 (fun a0 h_4 i_3 => k_K a0 h_4 (fun _ _ _ => Iff.trans (dt_1 c_1 (fun n => n c_1)) (i_3 _ _))) (fun a0 a1 h_6 i_5 => k_T a0 a1 h_6 (fun _ _ _ => Iff.trans (dt_1 c_1 (fun n => n c_1)) (i_5 _ _)))
  ·
    refine dt_p h_2 (fun c_7 h_8 => ?_) (fun c_7 h_8 => ?_)
    ·
      exact d_b_Un_readRow_120 h_8 (fun a0 h_10 i_9 => k_K a0 h_10 (fun _ _ _ => Iff.trans (dt_2 c_1 c_1) (Iff.trans (dt_1 c_7 (fun n => n c_7)) (i_9 _ _)))) (fun a0 a1 h_12 i_11 => k_T a0 a1 h_12 (fun _ _ _ => Iff.trans (dt_2 c_1 c_1) (Iff.trans (dt_1 c_7 (fun n => n c_7)) (i_11 _ _))))
    ·
      refine d_p_Re_readMark (And.right (And.right h_8)) (fun v52 S52 h_14 i_13 => ?_) (fun a0 a1 h_16 i_15 => k_T a0 a1 h_16 (fun _ _ _ => Iff.trans (dt_2 c_1 c_1) (Iff.trans (dt_2 c_7 c_7) (Iff.trans (dt_a (And.left h_8)) (Iff.trans (dt_a (And.left (And.right h_8))) (i_15 _ _))))))
      refine dt_p h_14 (fun c_17 h_18 => ?_) (fun c_17 h_18 => ?_)
      ·
        exact d_b_Un_readRow_68 h_18 (fun a0 a1 a2 h_20 i_19 => k_R38 a0 a1 a2 h_20 (fun _ _ _ => Iff.trans (dt_2 c_1 c_1) (Iff.trans (dt_2 c_7 c_7) (Iff.trans (dt_a (And.left h_8)) (Iff.trans (dt_a (And.left (And.right h_8))) (Iff.trans (i_13 _ _) (Iff.trans (dt_1 c_17 (fun n => n c_17)) (i_19 _ _ _)))))))) (fun a0 h_22 i_21 => k_K a0 h_22 (fun _ _ _ => Iff.trans (dt_2 c_1 c_1) (Iff.trans (dt_2 c_7 c_7) (Iff.trans (dt_a (And.left h_8)) (Iff.trans (dt_a (And.left (And.right h_8))) (Iff.trans (i_13 _ _) (Iff.trans (dt_1 c_17 (fun n => n c_17)) (i_21 _ _ _)))))))) (fun a0 a1 h_24 i_23 => k_T a0 a1 h_24 (fun _ _ _ => Iff.trans (dt_2 c_1 c_1) (Iff.trans (dt_2 c_7 c_7) (Iff.trans (dt_a (And.left h_8)) (Iff.trans (dt_a (And.left (And.right h_8))) (Iff.trans (i_13 _ _) (Iff.trans (dt_1 c_17 (fun n => n c_17)) (i_23 _ _ _))))))))
      ·
        exact d_b_Un_readRow_68 h_18 (fun a0 a1 a2 h_26 i_25 => k_R38 a0 a1 a2 h_26 (fun _ _ _ => Iff.trans (dt_2 c_1 c_1) (Iff.trans (dt_2 c_7 c_7) (Iff.trans (dt_a (And.left h_8)) (Iff.trans (dt_a (And.left (And.right h_8))) (Iff.trans (i_13 _ _) (Iff.trans (dt_2 c_17 c_17) (i_25 _ _ _)))))))) (fun a0 h_28 i_27 => k_K a0 h_28 (fun _ _ _ => Iff.trans (dt_2 c_1 c_1) (Iff.trans (dt_2 c_7 c_7) (Iff.trans (dt_a (And.left h_8)) (Iff.trans (dt_a (And.left (And.right h_8))) (Iff.trans (i_13 _ _) (Iff.trans (dt_2 c_17 c_17) (i_27 _ _ _)))))))) (fun a0 a1 h_30 i_29 => k_T a0 a1 h_30 (fun _ _ _ => Iff.trans (dt_2 c_1 c_1) (Iff.trans (dt_2 c_7 c_7) (Iff.trans (dt_a (And.left h_8)) (Iff.trans (dt_a (And.left (And.right h_8))) (Iff.trans (i_13 _ _) (Iff.trans (dt_2 c_17 c_17) (i_29 _ _ _))))))))
theorem l_e_Un_readRow_38 {U : ut} {u : Nat} {x1 : Int32} {x2 : Int32} {S : cs} {K : cs → Prop} {T : Nat → cs → Prop} : e_Un_readRow_38 U u x1 x2 S K T ↔ lpE (C := (cs → Prop) × (Nat → cs → Prop)) (fun (y : (Int32) × (Int32) × (cs)) (R : ((Int32) × (Int32) × (cs)) → Prop) (c : (cs → Prop) × (Nat → cs → Prop)) => b_Un_readRow_38 U u y.1 y.2.1 y.2.2 (fun z0 z1 z2 => R (z0, z1, z2)) c.1 c.2) (x1, x2, S) (K, T) :=
  ⟨fun ⟨I, μ, h0, hs⟩ => ⟨fun t => I t.1 t.2.1 t.2.2, fun t => μ t.1 t.2.1 t.2.2, h0, fun t ht => hs _ _ _ ht⟩, fun ⟨I, μ, h0, hs⟩ => ⟨fun y0 y1 y2 => I (y0, y1, y2), fun y0 y1 y2 => μ (y0, y1, y2), h0, fun y0 y1 y2 hy => hs (y0, y1, y2) hy⟩⟩
set_option maxHeartbeats 1000000 in
theorem d_e_Un_readRow_38 {U : ut} {u : Nat} {x1 : Int32} {x2 : Int32} {S : cs} {K : cs → Prop} {T : Nat → cs → Prop} (h : e_Un_readRow_38 U u x1 x2 S K T) {Q : Prop} (k_K : ∀ (a0 : cs), K a0 → (∀ (K' : cs → Prop) (T' : Nat → cs → Prop), e_Un_readRow_38 U u x1 x2 S K' T' ↔ K' a0) → Q) (k_T : ∀ (a0 : Nat) (a1 : cs), T a0 a1 → (∀ (K' : cs → Prop) (T' : Nat → cs → Prop), e_Un_readRow_38 U u x1 x2 S K' T' ↔ T' a0 a1) → Q) : Q := by
  obtain ⟨o, ho, hoc, hi⟩ := lp_det (C := (cs → Prop) × (Nat → cs → Prop)) (b := (fun (y : (Int32) × (Int32) × (cs)) (R : ((Int32) × (Int32) × (cs)) → Prop) (c : (cs → Prop) × (Nat → cs → Prop)) => b_Un_readRow_38 U u y.1 y.2.1 y.2.2 (fun z0 z1 z2 => R (z0, z1, z2)) c.1 c.2)) (O := (fun (o : ((cs → Prop) × (Nat → cs → Prop)) → Prop) => (∃ (a0 : cs), o = fun c => c.1 a0) ∨ (∃ (a0 : Nat) (a1 : cs), o = fun c => c.2 a0 a1))) (fun y R c hy => d_b_Un_readRow_38 hy (fun a0 a1 a2 ha ia => Or.inl ⟨(a0, a1, a2), ha, fun R' c' => ia (fun z0 z1 z2 => R' (z0, z1, z2)) c'.1 c'.2⟩) (fun a0 ha ia => Or.inr ⟨(fun c => c.1 a0), Or.inl ⟨a0, rfl⟩, ha, fun R' c' => ia (fun z0 z1 z2 => R' (z0, z1, z2)) c'.1 c'.2⟩) (fun a0 a1 ha ia => Or.inr ⟨(fun c => c.2 a0 a1), Or.inr (⟨a0, a1, rfl⟩), ha, fun R' c' => ia (fun z0 z1 z2 => R' (z0, z1, z2)) c'.1 c'.2⟩)) (l_e_Un_readRow_38.mp h)
  rcases ho with ⟨a0, rfl⟩ | ⟨a0, a1, rfl⟩
  · exact k_K _ hoc (fun K' T' => Iff.trans l_e_Un_readRow_38 (hi (K', T')))
  · exact k_T _ _ hoc (fun K' T' => Iff.trans l_e_Un_readRow_38 (hi (K', T')))
theorem v_e_Un_readRow_38 {U : ut} {u : Nat} {x1 : Int32} {x2 : Int32} {S : cs} {K : cs → Prop} {T : Nat → cs → Prop} (h : e_Un_readRow_38 U u x1 x2 S K T) {G : Prop} (Inv : Int32 → Int32 → cs → Prop) (h0 : Inv x1 x2 S) (hs : ∀ (yx1 : Int32) (yx2 : Int32) (yS : cs) (R : Int32 → Int32 → cs → Prop), Inv yx1 yx2 yS → b_Un_readRow_38 U u yx1 yx2 yS R K T → (∃ (zx1 : Int32) (zx2 : Int32) (zS : cs), R zx1 zx2 zS ∧ Inv zx1 zx2 zS) ∨ G) : G := by
  obtain ⟨I, μ, i0, is⟩ := h
  have go : ∀ (n : Nat) (yx1 : Int32) (yx2 : Int32) (yS : cs), μ yx1 yx2 yS < n → I yx1 yx2 yS → Inv yx1 yx2 yS → G := by
    intro n
    induction n with
    | zero => intro yx1 yx2 yS hy; exact absurd hy (Nat.not_lt_zero _)
    | succ n ih =>
      intro yx1 yx2 yS hy hI hV
      rcases hs yx1 yx2 yS _ hV (is yx1 yx2 yS hI) with ⟨zx1, zx2, zS, ⟨hz, hm⟩, hv⟩ | g
      · exact ih zx1 zx2 zS (Nat.lt_of_lt_of_le hm (Nat.le_of_lt_succ hy)) hz hv
      · exact g
  exact go _ x1 x2 S (Nat.lt_succ_self _) i0 h0
theorem r_e_Un_readRow_38 {U : ut} {u : Nat} {x1 : Int32} {x2 : Int32} {S : cs} {K : cs → Prop} {T : Nat → cs → Prop} (h : e_Un_readRow_38 U u x1 x2 S K T) : b_Un_readRow_38 U u x1 x2 S (fun zx1 zx2 zS => e_Un_readRow_38 U u zx1 zx2 zS K T) K T := by
  obtain ⟨I, μ, i0, is⟩ := h
  exact d_b_Un_readRow_38 (is x1 x2 S i0) (fun a0 a1 a2 ha ia => (ia _ _ _).mpr ⟨I, μ, ha.1, is⟩) (fun a0 ha ia => (ia _ _ _).mpr ha) (fun a0 a1 ha ia => (ia _ _ _).mpr ha)
set_option maxHeartbeats 1000000 in
theorem d_b_Un_readRow_34 {U : ut} {u : Nat} {S : cs} {K : cs → Prop} {T : Nat → cs → Prop} (h : b_Un_readRow_34 U u S K T) {Q : Prop} (k_K : ∀ (a0 : cs), K a0 → (∀ (K' : cs → Prop) (T' : Nat → cs → Prop), b_Un_readRow_34 U u S K' T' ↔ K' a0) → Q) (k_T : ∀ (a0 : Nat) (a1 : cs), T a0 a1 → (∀ (K' : cs → Prop) (T' : Nat → cs → Prop), b_Un_readRow_34 U u S K' T' ↔ T' a0 a1) → Q) : Q := by
  unfold b_Un_readRow_34 at h
  exact d_e_Un_readRow_38 h (fun a0 h_2 i_1 => k_K a0 h_2 (fun _ _ => i_1 _ _)) (fun a0 a1 h_4 i_3 => k_T a0 a1 h_4 (fun _ _ => i_3 _ _))
set_option maxHeartbeats 1000000 in
theorem d_p_Un_readRow {U : ut} {u : Nat} {S : cs} {K : cs → Prop} {T : Nat → cs → Prop} (h : p_Un_readRow U u S K T) {Q : Prop} (k_K : ∀ (a0 : cs), K a0 → (∀ (K' : cs → Prop) (T' : Nat → cs → Prop), p_Un_readRow U u S K' T' ↔ K' a0) → Q) (k_T : ∀ (a0 : Nat) (a1 : cs), T a0 a1 → (∀ (K' : cs → Prop) (T' : Nat → cs → Prop), p_Un_readRow U u S K' T' ↔ T' a0 a1) → Q) : Q := by
  unfold p_Un_readRow at h
  refine d_p_Un_begin h (fun S1 h_2 i_1 => ?_)
  refine d_p_Re_readMark (And.right (And.right h_2)) (fun v8 S8 h_4 i_3 => ?_) (fun a0 a1 h_6 i_5 => k_T a0 a1 h_6 (fun _ _ => Iff.trans (i_1 _) (Iff.trans (dt_a (And.left h_2)) (Iff.trans (dt_a (And.left (And.right h_2))) (i_5 _ _)))))
  refine dt_p h_4 (fun c_7 h_8 => ?_) (fun c_7 h_8 => ?_)
  ·
    exact d_b_Un_readRow_34 h_8 (fun a0 h_10 i_9 => k_K a0 h_10 (fun _ _ => Iff.trans (i_1 _) (Iff.trans (dt_a (And.left h_2)) (Iff.trans (dt_a (And.left (And.right h_2))) (Iff.trans (i_3 _ _) (Iff.trans (dt_1 c_7 (fun n => n c_7)) (i_9 _ _))))))) (fun a0 a1 h_12 i_11 => k_T a0 a1 h_12 (fun _ _ => Iff.trans (i_1 _) (Iff.trans (dt_a (And.left h_2)) (Iff.trans (dt_a (And.left (And.right h_2))) (Iff.trans (i_3 _ _) (Iff.trans (dt_1 c_7 (fun n => n c_7)) (i_11 _ _)))))))
  ·
    refine d_p_Re_fail (And.right (And.right (And.right h_8))) (fun S31 h_14 i_13 => ?_) (fun a0 a1 h_16 i_15 => k_T a0 a1 h_16 (fun _ _ => Iff.trans (i_1 _) (Iff.trans (dt_a (And.left h_2)) (Iff.trans (dt_a (And.left (And.right h_2))) (Iff.trans (i_3 _ _) (Iff.trans (dt_2 c_7 c_7) (Iff.trans (dt_a (And.left h_8)) (Iff.trans (dt_a (And.left (And.right h_8))) (Iff.trans (dt_a (And.left (And.right (And.right h_8)))) (i_15 _ _))))))))))
    exact d_b_Un_readRow_34 h_14 (fun a0 h_18 i_17 => k_K a0 h_18 (fun _ _ => Iff.trans (i_1 _) (Iff.trans (dt_a (And.left h_2)) (Iff.trans (dt_a (And.left (And.right h_2))) (Iff.trans (i_3 _ _) (Iff.trans (dt_2 c_7 c_7) (Iff.trans (dt_a (And.left h_8)) (Iff.trans (dt_a (And.left (And.right h_8))) (Iff.trans (dt_a (And.left (And.right (And.right h_8)))) (Iff.trans (i_13 _ _) (i_17 _ _))))))))))) (fun a0 a1 h_20 i_19 => k_T a0 a1 h_20 (fun _ _ => Iff.trans (i_1 _) (Iff.trans (dt_a (And.left h_2)) (Iff.trans (dt_a (And.left (And.right h_2))) (Iff.trans (i_3 _ _) (Iff.trans (dt_2 c_7 c_7) (Iff.trans (dt_a (And.left h_8)) (Iff.trans (dt_a (And.left (And.right h_8))) (Iff.trans (dt_a (And.left (And.right (And.right h_8)))) (Iff.trans (i_13 _ _) (i_19 _ _)))))))))))
set_option maxHeartbeats 1000000 in
theorem d_p_Un_handOver {U : ut} {u : Nat} {x1 : Nat} {S : cs} {K : Nat → cs → Prop} (h : p_Un_handOver U u x1 S K) {Q : Prop} (k_K : ∀ (a0 : Nat) (a1 : cs), K a0 a1 → (∀ (K' : Nat → cs → Prop), p_Un_handOver U u x1 S K' ↔ K' a0 a1) → Q) : Q := by
  unfold p_Un_handOver at h
  exact k_K _ _ (And.right (And.right (And.right h))) (fun _ => Iff.trans (dt_a (And.left h)) (Iff.trans (dt_a (And.left (And.right h))) (dt_a (And.left (And.right (And.right h))))))
set_option maxHeartbeats 1000000 in
theorem d_p_B_place {U : ut} {u : Nat} {S : cs} {K : Int32 → cs → Prop} (h : p_B_place U u S K) {Q : Prop} (k_K : ∀ (a0 : Int32) (a1 : cs), K a0 a1 → (∀ (K' : Int32 → cs → Prop), p_B_place U u S K' ↔ K' a0 a1) → Q) : Q := by
  unfold p_B_place at h
  exact k_K _ _ h (fun _ => Iff.rfl)
set_option maxHeartbeats 1000000 in
theorem d_b_B_about_75 {U : ut} {u : Nat} {s0 : Int32} {S : cs} {K : Int32 → cs → Prop} {T : Nat → cs → Prop} (h : b_B_about_75 U u s0 S K T) {Q : Prop} (k_K : ∀ (a0 : Int32) (a1 : cs), K a0 a1 → (∀ (K' : Int32 → cs → Prop) (T' : Nat → cs → Prop), b_B_about_75 U u s0 S K' T' ↔ K' a0 a1) → Q) (k_T : ∀ (a0 : Nat) (a1 : cs), T a0 a1 → (∀ (K' : Int32 → cs → Prop) (T' : Nat → cs → Prop), b_B_about_75 U u s0 S K' T' ↔ T' a0 a1) → Q) : Q := by
  unfold b_B_about_75 at h
  exact k_K _ _ h (fun _ _ => Iff.rfl)
set_option maxHeartbeats 1000000 in
theorem d_p_B_about {U : ut} {u : Nat} {x1 : Int32} {S : cs} {K : Int32 → cs → Prop} {T : Nat → cs → Prop} (h : p_B_about U u x1 S K T) {Q : Prop} (k_K : ∀ (a0 : Int32) (a1 : cs), K a0 a1 → (∀ (K' : Int32 → cs → Prop) (T' : Nat → cs → Prop), p_B_about U u x1 S K' T' ↔ K' a0 a1) → Q) (k_T : ∀ (a0 : Nat) (a1 : cs), T a0 a1 → (∀ (K' : Int32 → cs → Prop) (T' : Nat → cs → Prop), p_B_about U u x1 S K' T' ↔ T' a0 a1) → Q) : Q := by
  unfold p_B_about at h
  refine d_p_B_isWithin h (fun v3 h_2 i_1 => ?_)
  refine dt_n h_2 (fun c_3 h_4 => ?_) (fun c_3 h_4 => ?_)
  ·
    refine dt_n (And.right (And.right h_4)) (fun c_5 h_6 => ?_) (fun c_5 h_6 => ?_)
    ·
      refine dt_n h_6 (fun c_7 h_8 => ?_) (fun c_7 h_8 => ?_)
      ·
        refine dt_n h_8 (fun c_9 h_10 => ?_) (fun c_9 h_10 => ?_)
        ·
          exact d_b_B_about_75 (And.right h_10) (fun a0 a1 h_12 i_11 => k_K a0 a1 h_12 (fun _ _ => Iff.trans (i_1 _) (Iff.trans (dt_1 c_3 c_3) (Iff.trans (dt_a (And.left h_4)) (Iff.trans (dt_a (And.left (And.right h_4))) (Iff.trans (dt_1 c_5 c_5) (Iff.trans (dt_1 c_7 c_7) (Iff.trans (dt_1 c_9 c_9) (Iff.trans (dt_a (And.left h_10)) (i_11 _ _)))))))))) (fun a0 a1 h_14 i_13 => k_T a0 a1 h_14 (fun _ _ => Iff.trans (i_1 _) (Iff.trans (dt_1 c_3 c_3) (Iff.trans (dt_a (And.left h_4)) (Iff.trans (dt_a (And.left (And.right h_4))) (Iff.trans (dt_1 c_5 c_5) (Iff.trans (dt_1 c_7 c_7) (Iff.trans (dt_1 c_9 c_9) (Iff.trans (dt_a (And.left h_10)) (i_13 _ _))))))))))
        ·
          exact d_b_B_about_75 (And.right h_10) (fun a0 a1 h_16 i_15 => k_K a0 a1 h_16 (fun _ _ => Iff.trans (i_1 _) (Iff.trans (dt_1 c_3 c_3) (Iff.trans (dt_a (And.left h_4)) (Iff.trans (dt_a (And.left (And.right h_4))) (Iff.trans (dt_1 c_5 c_5) (Iff.trans (dt_1 c_7 c_7) (Iff.trans (dt_2 (fun n => n c_9) c_9) (Iff.trans (dt_a (And.left h_10)) (i_15 _ _)))))))))) (fun a0 a1 h_18 i_17 => k_T a0 a1 h_18 (fun _ _ => Iff.trans (i_1 _) (Iff.trans (dt_1 c_3 c_3) (Iff.trans (dt_a (And.left h_4)) (Iff.trans (dt_a (And.left (And.right h_4))) (Iff.trans (dt_1 c_5 c_5) (Iff.trans (dt_1 c_7 c_7) (Iff.trans (dt_2 (fun n => n c_9) c_9) (Iff.trans (dt_a (And.left h_10)) (i_17 _ _))))))))))
      ·
        exact d_b_B_about_75 (And.right h_8) (fun a0 a1 h_20 i_19 => k_K a0 a1 h_20 (fun _ _ => Iff.trans (i_1 _) (Iff.trans (dt_1 c_3 c_3) (Iff.trans (dt_a (And.left h_4)) (Iff.trans (dt_a (And.left (And.right h_4))) (Iff.trans (dt_1 c_5 c_5) (Iff.trans (dt_2 (fun n => n c_7) c_7) (Iff.trans (dt_a (And.left h_8)) (i_19 _ _))))))))) (fun a0 a1 h_22 i_21 => k_T a0 a1 h_22 (fun _ _ => Iff.trans (i_1 _) (Iff.trans (dt_1 c_3 c_3) (Iff.trans (dt_a (And.left h_4)) (Iff.trans (dt_a (And.left (And.right h_4))) (Iff.trans (dt_1 c_5 c_5) (Iff.trans (dt_2 (fun n => n c_7) c_7) (Iff.trans (dt_a (And.left h_8)) (i_21 _ _)))))))))
    ·
      exact k_T _ _ h_6 (fun _ _ => Iff.trans (i_1 _) (Iff.trans (dt_1 c_3 c_3) (Iff.trans (dt_a (And.left h_4)) (Iff.trans (dt_a (And.left (And.right h_4))) (dt_2 (fun n => n c_5) c_5)))))
  ·
    exact k_T _ _ h_4 (fun _ _ => Iff.trans (i_1 _) (dt_2 (fun n => n c_3) c_3))
set_option maxHeartbeats 1000000 in
theorem d_b_Wa_hasWeights_33 {U : ut} {u : Nat} {x1 : Int32} {x3 : Int32} {s0 : Int32} {S : cs} {R4 : Int32 → Int32 → Int32 → cs → Prop} {K : Int32 → cs → Prop} (h : b_Wa_hasWeights_33 U u x1 x3 s0 S R4 K) {Q : Prop} (k_R4 : ∀ (a0 : Int32) (a1 : Int32) (a2 : Int32) (a3 : cs), R4 a0 a1 a2 a3 → (∀ (R4' : Int32 → Int32 → Int32 → cs → Prop) (K' : Int32 → cs → Prop), b_Wa_hasWeights_33 U u x1 x3 s0 S R4' K' ↔ R4' a0 a1 a2 a3) → Q) (k_K : ∀ (a0 : Int32) (a1 : cs), K a0 a1 → (∀ (R4' : Int32 → Int32 → Int32 → cs → Prop) (K' : Int32 → cs → Prop), b_Wa_hasWeights_33 U u x1 x3 s0 S R4' K' ↔ K' a0 a1) → Q) : Q := by
  unfold b_Wa_hasWeights_33 at h
  exact k_R4 _ _ _ _ h (fun _ _ => Iff.rfl)
set_option maxHeartbeats 1000000 in
theorem d_b_Wa_hasWeights_28 {U : ut} {u : Nat} {x1 : Int32} {x3 : Int32} {S : cs} {R4 : Int32 → Int32 → Int32 → cs → Prop} {K : Int32 → cs → Prop} (h : b_Wa_hasWeights_28 U u x1 x3 S R4 K) {Q : Prop} (k_R4 : ∀ (a0 : Int32) (a1 : Int32) (a2 : Int32) (a3 : cs), R4 a0 a1 a2 a3 → (∀ (R4' : Int32 → Int32 → Int32 → cs → Prop) (K' : Int32 → cs → Prop), b_Wa_hasWeights_28 U u x1 x3 S R4' K' ↔ R4' a0 a1 a2 a3) → Q) (k_K : ∀ (a0 : Int32) (a1 : cs), K a0 a1 → (∀ (R4' : Int32 → Int32 → Int32 → cs → Prop) (K' : Int32 → cs → Prop), b_Wa_hasWeights_28 U u x1 x3 S R4' K' ↔ K' a0 a1) → Q) : Q := by
  unfold b_Wa_hasWeights_28 at h
  exact d_b_Wa_hasWeights_33 h (fun a0 a1 a2 a3 h_2 i_1 => k_R4 a0 a1 a2 a3 h_2 (fun _ _ => i_1 _ _)) (fun a0 a1 h_4 i_3 => k_K a0 a1 h_4 (fun _ _ => i_3 _ _))
set_option maxHeartbeats 1000000 in
theorem d_b_Wa_hasWeights_4 {U : ut} {u : Nat} {x1 : Int32} {x2 : Int32} {x3 : Int32} {S : cs} {R4 : Int32 → Int32 → Int32 → cs → Prop} {K : Int32 → cs → Prop} (h : b_Wa_hasWeights_4 U u x1 x2 x3 S R4 K) {Q : Prop} (k_R4 : ∀ (a0 : Int32) (a1 : Int32) (a2 : Int32) (a3 : cs), R4 a0 a1 a2 a3 → (∀ (R4' : Int32 → Int32 → Int32 → cs → Prop) (K' : Int32 → cs → Prop), b_Wa_hasWeights_4 U u x1 x2 x3 S R4' K' ↔ R4' a0 a1 a2 a3) → Q) (k_K : ∀ (a0 : Int32) (a1 : cs), K a0 a1 → (∀ (R4' : Int32 → Int32 → Int32 → cs → Prop) (K' : Int32 → cs → Prop), b_Wa_hasWeights_4 U u x1 x2 x3 S R4' K' ↔ K' a0 a1) → Q) : Q := by
  unfold b_Wa_hasWeights_4 at h
  refine dt_p h (fun c_1 h_2 => ?_) (fun c_1 h_2 => ?_)
  ·
    exact k_K _ _ (And.right h_2) (fun _ _ => Iff.trans (dt_1 c_1 (fun n => n c_1)) (dt_a (And.left h_2)))
  ·
    refine dt_n h_2 (fun c_3 h_4 => ?_) (fun c_3 h_4 => ?_)
    ·
      exact d_b_Wa_hasWeights_28 h_4 (fun a0 a1 a2 a3 h_6 i_5 => k_R4 a0 a1 a2 a3 h_6 (fun _ _ => Iff.trans (dt_2 c_1 c_1) (Iff.trans (dt_1 c_3 c_3) (i_5 _ _)))) (fun a0 a1 h_8 i_7 => k_K a0 a1 h_8 (fun _ _ => Iff.trans (dt_2 c_1 c_1) (Iff.trans (dt_1 c_3 c_3) (i_7 _ _))))
    ·
      refine dt_p (And.right (And.right (And.right h_4))) (fun c_9 h_10 => ?_) (fun c_9 h_10 => ?_)
      ·
        exact d_b_Wa_hasWeights_33 h_10 (fun a0 a1 a2 a3 h_12 i_11 => k_R4 a0 a1 a2 a3 h_12 (fun _ _ => Iff.trans (dt_2 c_1 c_1) (Iff.trans (dt_2 (fun n => n c_3) c_3) (Iff.trans (dt_a (And.left h_4)) (Iff.trans (dt_a (And.left (And.right h_4))) (Iff.trans (dt_a (And.left (And.right (And.right h_4)))) (Iff.trans (dt_1 c_9 (fun n => n c_9)) (i_11 _ _)))))))) (fun a0 a1 h_14 i_13 => k_K a0 a1 h_14 (fun _ _ => Iff.trans (dt_2 c_1 c_1) (Iff.trans (dt_2 (fun n => n c_3) c_3) (Iff.trans (dt_a (And.left h_4)) (Iff.trans (dt_a (And.left (And.right h_4))) (Iff.trans (dt_a (And.left (And.right (And.right h_4)))) (Iff.trans (dt_1 c_9 (fun n => n c_9)) (i_13 _ _))))))))
      ·
        exact d_b_Wa_hasWeights_28 h_10 (fun a0 a1 a2 a3 h_16 i_15 => k_R4 a0 a1 a2 a3 h_16 (fun _ _ => Iff.trans (dt_2 c_1 c_1) (Iff.trans (dt_2 (fun n => n c_3) c_3) (Iff.trans (dt_a (And.left h_4)) (Iff.trans (dt_a (And.left (And.right h_4))) (Iff.trans (dt_a (And.left (And.right (And.right h_4)))) (Iff.trans (dt_2 c_9 c_9) (i_15 _ _)))))))) (fun a0 a1 h_18 i_17 => k_K a0 a1 h_18 (fun _ _ => Iff.trans (dt_2 c_1 c_1) (Iff.trans (dt_2 (fun n => n c_3) c_3) (Iff.trans (dt_a (And.left h_4)) (Iff.trans (dt_a (And.left (And.right h_4))) (Iff.trans (dt_a (And.left (And.right (And.right h_4)))) (Iff.trans (dt_2 c_9 c_9) (i_17 _ _))))))))
theorem l_e_Wa_hasWeights_4 {U : ut} {u : Nat} {x1 : Int32} {x2 : Int32} {x3 : Int32} {S : cs} {K : Int32 → cs → Prop} : e_Wa_hasWeights_4 U u x1 x2 x3 S K ↔ lpE (C := (Int32 → cs → Prop)) (fun (y : (Int32) × (Int32) × (Int32) × (cs)) (R : ((Int32) × (Int32) × (Int32) × (cs)) → Prop) (c : (Int32 → cs → Prop)) => b_Wa_hasWeights_4 U u y.1 y.2.1 y.2.2.1 y.2.2.2 (fun z0 z1 z2 z3 => R (z0, z1, z2, z3)) c) (x1, x2, x3, S) K :=
  ⟨fun ⟨I, μ, h0, hs⟩ => ⟨fun t => I t.1 t.2.1 t.2.2.1 t.2.2.2, fun t => μ t.1 t.2.1 t.2.2.1 t.2.2.2, h0, fun t ht => hs _ _ _ _ ht⟩, fun ⟨I, μ, h0, hs⟩ => ⟨fun y0 y1 y2 y3 => I (y0, y1, y2, y3), fun y0 y1 y2 y3 => μ (y0, y1, y2, y3), h0, fun y0 y1 y2 y3 hy => hs (y0, y1, y2, y3) hy⟩⟩
set_option maxHeartbeats 1000000 in
theorem d_e_Wa_hasWeights_4 {U : ut} {u : Nat} {x1 : Int32} {x2 : Int32} {x3 : Int32} {S : cs} {K : Int32 → cs → Prop} (h : e_Wa_hasWeights_4 U u x1 x2 x3 S K) {Q : Prop} (k_K : ∀ (a0 : Int32) (a1 : cs), K a0 a1 → (∀ (K' : Int32 → cs → Prop), e_Wa_hasWeights_4 U u x1 x2 x3 S K' ↔ K' a0 a1) → Q) : Q := by
  obtain ⟨o, ho, hoc, hi⟩ := lp_det (C := (Int32 → cs → Prop)) (b := (fun (y : (Int32) × (Int32) × (Int32) × (cs)) (R : ((Int32) × (Int32) × (Int32) × (cs)) → Prop) (c : (Int32 → cs → Prop)) => b_Wa_hasWeights_4 U u y.1 y.2.1 y.2.2.1 y.2.2.2 (fun z0 z1 z2 z3 => R (z0, z1, z2, z3)) c)) (O := (fun (o : ((Int32 → cs → Prop)) → Prop) => (∃ (a0 : Int32) (a1 : cs), o = fun c => c a0 a1))) (fun y R c hy => d_b_Wa_hasWeights_4 hy (fun a0 a1 a2 a3 ha ia => Or.inl ⟨(a0, a1, a2, a3), ha, fun R' c' => ia (fun z0 z1 z2 z3 => R' (z0, z1, z2, z3)) c'⟩) (fun a0 a1 ha ia => Or.inr ⟨(fun c => c a0 a1), ⟨a0, a1, rfl⟩, ha, fun R' c' => ia (fun z0 z1 z2 z3 => R' (z0, z1, z2, z3)) c'⟩)) (l_e_Wa_hasWeights_4.mp h)
  rcases ho with ⟨a0, a1, rfl⟩
  · exact k_K _ _ hoc (fun K' => Iff.trans l_e_Wa_hasWeights_4 (hi K'))
theorem v_e_Wa_hasWeights_4 {U : ut} {u : Nat} {x1 : Int32} {x2 : Int32} {x3 : Int32} {S : cs} {K : Int32 → cs → Prop} (h : e_Wa_hasWeights_4 U u x1 x2 x3 S K) {G : Prop} (Inv : Int32 → Int32 → cs → Prop) (h0 : Inv x2 x3 S) (hs : ∀ (yx2 : Int32) (yx3 : Int32) (yS : cs) (R : Int32 → Int32 → Int32 → cs → Prop), Inv yx2 yx3 yS → b_Wa_hasWeights_4 U u x1 yx2 yx3 yS R K → (∃ (zx2 : Int32) (zx3 : Int32) (zS : cs), R x1 zx2 zx3 zS ∧ Inv zx2 zx3 zS) ∨ G) : G := by
  obtain ⟨I, μ, i0, is⟩ := h
  have go : ∀ (n : Nat) (yx2 : Int32) (yx3 : Int32) (yS : cs), μ x1 yx2 yx3 yS < n → I x1 yx2 yx3 yS → Inv yx2 yx3 yS → G := by
    intro n
    induction n with
    | zero => intro yx2 yx3 yS hy; exact absurd hy (Nat.not_lt_zero _)
    | succ n ih =>
      intro yx2 yx3 yS hy hI hV
      rcases hs yx2 yx3 yS _ hV (is x1 yx2 yx3 yS hI) with ⟨zx2, zx3, zS, ⟨hz, hm⟩, hv⟩ | g
      · exact ih zx2 zx3 zS (Nat.lt_of_lt_of_le hm (Nat.le_of_lt_succ hy)) hz hv
      · exact g
  exact go _ x2 x3 S (Nat.lt_succ_self _) i0 h0
theorem r_e_Wa_hasWeights_4 {U : ut} {u : Nat} {x1 : Int32} {x2 : Int32} {x3 : Int32} {S : cs} {K : Int32 → cs → Prop} (h : e_Wa_hasWeights_4 U u x1 x2 x3 S K) : b_Wa_hasWeights_4 U u x1 x2 x3 S (fun zx1 zx2 zx3 zS => e_Wa_hasWeights_4 U u zx1 zx2 zx3 zS K) K := by
  obtain ⟨I, μ, i0, is⟩ := h
  exact d_b_Wa_hasWeights_4 (is x1 x2 x3 S i0) (fun a0 a1 a2 a3 ha ia => (ia _ _).mpr ⟨I, μ, ha.1, is⟩) (fun a0 a1 ha ia => (ia _ _).mpr ha)
set_option maxHeartbeats 1000000 in
theorem d_p_Wa_hasWeights {U : ut} {u : Nat} {x1 : Int32} {S : cs} {K : Int32 → cs → Prop} (h : p_Wa_hasWeights U u x1 S K) {Q : Prop} (k_K : ∀ (a0 : Int32) (a1 : cs), K a0 a1 → (∀ (K' : Int32 → cs → Prop), p_Wa_hasWeights U u x1 S K' ↔ K' a0 a1) → Q) : Q := by
  unfold p_Wa_hasWeights at h
  exact d_e_Wa_hasWeights_4 h (fun a0 a1 h_2 i_1 => k_K a0 a1 h_2 (fun _ => i_1 _))
set_option maxHeartbeats 1000000 in
theorem d_b_Wa_makeRow_15 {U : ut} {u : Nat} {x1 : Int32} {x2 : Int32} {x3 : Int64} {x5 : Int32} {S : cs} {R2 : Int32 → Int32 → cs → Prop} {R15 : Int32 → Int32 → Int64 → Int32 → cs → Prop} {K : cs → Prop} (h : b_Wa_makeRow_15 U u x1 x2 x3 x5 S R2 R15 K) {Q : Prop} (k_R2 : ∀ (a0 : Int32) (a1 : Int32) (a2 : cs), R2 a0 a1 a2 → (∀ (R2' : Int32 → Int32 → cs → Prop) (R15' : Int32 → Int32 → Int64 → Int32 → cs → Prop) (K' : cs → Prop), b_Wa_makeRow_15 U u x1 x2 x3 x5 S R2' R15' K' ↔ R2' a0 a1 a2) → Q) (k_R15 : ∀ (a0 : Int32) (a1 : Int32) (a2 : Int64) (a3 : Int32) (a4 : cs), R15 a0 a1 a2 a3 a4 → (∀ (R2' : Int32 → Int32 → cs → Prop) (R15' : Int32 → Int32 → Int64 → Int32 → cs → Prop) (K' : cs → Prop), b_Wa_makeRow_15 U u x1 x2 x3 x5 S R2' R15' K' ↔ R15' a0 a1 a2 a3 a4) → Q) (k_K : ∀ (a0 : cs), K a0 → (∀ (R2' : Int32 → Int32 → cs → Prop) (R15' : Int32 → Int32 → Int64 → Int32 → cs → Prop) (K' : cs → Prop), b_Wa_makeRow_15 U u x1 x2 x3 x5 S R2' R15' K' ↔ K' a0) → Q) : Q := by
  unfold b_Wa_makeRow_15 at h
  refine dt_p h (fun c_1 h_2 => ?_) (fun c_1 h_2 => ?_)
  ·
    exact k_R2 _ _ _ (And.right (And.right (And.right h_2))) (fun _ _ _ => Iff.trans (dt_1 c_1 (fun n => n c_1)) (Iff.trans (dt_a (And.left h_2)) (Iff.trans (dt_a (And.left (And.right h_2))) (dt_a (And.left (And.right (And.right h_2)))))))
  ·
    exact k_R15 _ _ _ _ _ (And.right (And.right (And.right (And.right (And.right (And.right h_2)))))) (fun _ _ _ => Iff.trans (dt_2 c_1 c_1) (Iff.trans (dt_a (And.left h_2)) (Iff.trans (dt_a (And.left (And.right h_2))) (Iff.trans (dt_a (And.left (And.right (And.right h_2)))) (Iff.trans (dt_a (And.left (And.right (And.right (And.right h_2))))) (Iff.trans (dt_a (And.left (And.right (And.right (And.right (And.right h_2)))))) (dt_a (And.left (And.right (And.right (And.right (And.right (And.right h_2)))))))))))))
theorem l_e_Wa_makeRow_15 {U : ut} {u : Nat} {x1 : Int32} {x2 : Int32} {x3 : Int64} {x5 : Int32} {S : cs} {R2 : Int32 → Int32 → cs → Prop} {K : cs → Prop} : e_Wa_makeRow_15 U u x1 x2 x3 x5 S R2 K ↔ lpE (C := (Int32 → Int32 → cs → Prop) × (cs → Prop)) (fun (y : (Int32) × (Int32) × (Int64) × (Int32) × (cs)) (R : ((Int32) × (Int32) × (Int64) × (Int32) × (cs)) → Prop) (c : (Int32 → Int32 → cs → Prop) × (cs → Prop)) => b_Wa_makeRow_15 U u y.1 y.2.1 y.2.2.1 y.2.2.2.1 y.2.2.2.2 c.1 (fun z0 z1 z2 z3 z4 => R (z0, z1, z2, z3, z4)) c.2) (x1, x2, x3, x5, S) (R2, K) :=
  ⟨fun ⟨I, μ, h0, hs⟩ => ⟨fun t => I t.1 t.2.1 t.2.2.1 t.2.2.2.1 t.2.2.2.2, fun t => μ t.1 t.2.1 t.2.2.1 t.2.2.2.1 t.2.2.2.2, h0, fun t ht => hs _ _ _ _ _ ht⟩, fun ⟨I, μ, h0, hs⟩ => ⟨fun y0 y1 y2 y3 y4 => I (y0, y1, y2, y3, y4), fun y0 y1 y2 y3 y4 => μ (y0, y1, y2, y3, y4), h0, fun y0 y1 y2 y3 y4 hy => hs (y0, y1, y2, y3, y4) hy⟩⟩
set_option maxHeartbeats 1000000 in
theorem d_e_Wa_makeRow_15 {U : ut} {u : Nat} {x1 : Int32} {x2 : Int32} {x3 : Int64} {x5 : Int32} {S : cs} {R2 : Int32 → Int32 → cs → Prop} {K : cs → Prop} (h : e_Wa_makeRow_15 U u x1 x2 x3 x5 S R2 K) {Q : Prop} (k_R2 : ∀ (a0 : Int32) (a1 : Int32) (a2 : cs), R2 a0 a1 a2 → (∀ (R2' : Int32 → Int32 → cs → Prop) (K' : cs → Prop), e_Wa_makeRow_15 U u x1 x2 x3 x5 S R2' K' ↔ R2' a0 a1 a2) → Q) (k_K : ∀ (a0 : cs), K a0 → (∀ (R2' : Int32 → Int32 → cs → Prop) (K' : cs → Prop), e_Wa_makeRow_15 U u x1 x2 x3 x5 S R2' K' ↔ K' a0) → Q) : Q := by
  obtain ⟨o, ho, hoc, hi⟩ := lp_det (C := (Int32 → Int32 → cs → Prop) × (cs → Prop)) (b := (fun (y : (Int32) × (Int32) × (Int64) × (Int32) × (cs)) (R : ((Int32) × (Int32) × (Int64) × (Int32) × (cs)) → Prop) (c : (Int32 → Int32 → cs → Prop) × (cs → Prop)) => b_Wa_makeRow_15 U u y.1 y.2.1 y.2.2.1 y.2.2.2.1 y.2.2.2.2 c.1 (fun z0 z1 z2 z3 z4 => R (z0, z1, z2, z3, z4)) c.2)) (O := (fun (o : ((Int32 → Int32 → cs → Prop) × (cs → Prop)) → Prop) => (∃ (a0 : Int32) (a1 : Int32) (a2 : cs), o = fun c => c.1 a0 a1 a2) ∨ (∃ (a0 : cs), o = fun c => c.2 a0))) (fun y R c hy => d_b_Wa_makeRow_15 hy (fun a0 a1 a2 ha ia => Or.inr ⟨(fun c => c.1 a0 a1 a2), Or.inl ⟨a0, a1, a2, rfl⟩, ha, fun R' c' => ia c'.1 (fun z0 z1 z2 z3 z4 => R' (z0, z1, z2, z3, z4)) c'.2⟩) (fun a0 a1 a2 a3 a4 ha ia => Or.inl ⟨(a0, a1, a2, a3, a4), ha, fun R' c' => ia c'.1 (fun z0 z1 z2 z3 z4 => R' (z0, z1, z2, z3, z4)) c'.2⟩) (fun a0 ha ia => Or.inr ⟨(fun c => c.2 a0), Or.inr (⟨a0, rfl⟩), ha, fun R' c' => ia c'.1 (fun z0 z1 z2 z3 z4 => R' (z0, z1, z2, z3, z4)) c'.2⟩)) (l_e_Wa_makeRow_15.mp h)
  rcases ho with ⟨a0, a1, a2, rfl⟩ | ⟨a0, rfl⟩
  · exact k_R2 _ _ _ hoc (fun R2' K' => Iff.trans l_e_Wa_makeRow_15 (hi (R2', K')))
  · exact k_K _ hoc (fun R2' K' => Iff.trans l_e_Wa_makeRow_15 (hi (R2', K')))
theorem v_e_Wa_makeRow_15 {U : ut} {u : Nat} {x1 : Int32} {x2 : Int32} {x3 : Int64} {x5 : Int32} {S : cs} {R2 : Int32 → Int32 → cs → Prop} {K : cs → Prop} (h : e_Wa_makeRow_15 U u x1 x2 x3 x5 S R2 K) {G : Prop} (Inv : Int64 → Int32 → cs → Prop) (h0 : Inv x3 x5 S) (hs : ∀ (yx3 : Int64) (yx5 : Int32) (yS : cs) (R : Int32 → Int32 → Int64 → Int32 → cs → Prop), Inv yx3 yx5 yS → b_Wa_makeRow_15 U u x1 x2 yx3 yx5 yS R2 R K → (∃ (zx3 : Int64) (zx5 : Int32) (zS : cs), R x1 x2 zx3 zx5 zS ∧ Inv zx3 zx5 zS) ∨ G) : G := by
  obtain ⟨I, μ, i0, is⟩ := h
  have go : ∀ (n : Nat) (yx3 : Int64) (yx5 : Int32) (yS : cs), μ x1 x2 yx3 yx5 yS < n → I x1 x2 yx3 yx5 yS → Inv yx3 yx5 yS → G := by
    intro n
    induction n with
    | zero => intro yx3 yx5 yS hy; exact absurd hy (Nat.not_lt_zero _)
    | succ n ih =>
      intro yx3 yx5 yS hy hI hV
      rcases hs yx3 yx5 yS _ hV (is x1 x2 yx3 yx5 yS hI) with ⟨zx3, zx5, zS, ⟨hz, hm⟩, hv⟩ | g
      · exact ih zx3 zx5 zS (Nat.lt_of_lt_of_le hm (Nat.le_of_lt_succ hy)) hz hv
      · exact g
  exact go _ x3 x5 S (Nat.lt_succ_self _) i0 h0
theorem r_e_Wa_makeRow_15 {U : ut} {u : Nat} {x1 : Int32} {x2 : Int32} {x3 : Int64} {x5 : Int32} {S : cs} {R2 : Int32 → Int32 → cs → Prop} {K : cs → Prop} (h : e_Wa_makeRow_15 U u x1 x2 x3 x5 S R2 K) : b_Wa_makeRow_15 U u x1 x2 x3 x5 S R2 (fun zx1 zx2 zx3 zx5 zS => e_Wa_makeRow_15 U u zx1 zx2 zx3 zx5 zS R2 K) K := by
  obtain ⟨I, μ, i0, is⟩ := h
  exact d_b_Wa_makeRow_15 (is x1 x2 x3 x5 S i0) (fun a0 a1 a2 ha ia => (ia _ _ _).mpr ha) (fun a0 a1 a2 a3 a4 ha ia => (ia _ _ _).mpr ⟨I, μ, ha.1, is⟩) (fun a0 ha ia => (ia _ _ _).mpr ha)
set_option maxHeartbeats 1000000 in
theorem d_b_Wa_makeRow_2 {U : ut} {u : Nat} {x1 : Int32} {x2 : Int32} {S : cs} {R2 : Int32 → Int32 → cs → Prop} {K : cs → Prop} (h : b_Wa_makeRow_2 U u x1 x2 S R2 K) {Q : Prop} (k_R2 : ∀ (a0 : Int32) (a1 : Int32) (a2 : cs), R2 a0 a1 a2 → (∀ (R2' : Int32 → Int32 → cs → Prop) (K' : cs → Prop), b_Wa_makeRow_2 U u x1 x2 S R2' K' ↔ R2' a0 a1 a2) → Q) (k_K : ∀ (a0 : cs), K a0 → (∀ (R2' : Int32 → Int32 → cs → Prop) (K' : cs → Prop), b_Wa_makeRow_2 U u x1 x2 S R2' K' ↔ K' a0) → Q) : Q := by
  unfold b_Wa_makeRow_2 at h
  refine dt_p h (fun c_1 h_2 => ?_) (fun c_1 h_2 => ?_)
  ·
    exact k_K _ h_2 (fun _ _ => dt_1 c_1 (fun n => n c_1))
  ·
    exact d_e_Wa_makeRow_15 h_2 (fun a0 a1 a2 h_4 i_3 => k_R2 a0 a1 a2 h_4 (fun _ _ => Iff.trans (dt_2 c_1 c_1) (i_3 _ _))) (fun a0 h_6 i_5 => k_K a0 h_6 (fun _ _ => Iff.trans (dt_2 c_1 c_1) (i_5 _ _)))
theorem l_e_Wa_makeRow_2 {U : ut} {u : Nat} {x1 : Int32} {x2 : Int32} {S : cs} {K : cs → Prop} : e_Wa_makeRow_2 U u x1 x2 S K ↔ lpE (C := (cs → Prop)) (fun (y : (Int32) × (Int32) × (cs)) (R : ((Int32) × (Int32) × (cs)) → Prop) (c : (cs → Prop)) => b_Wa_makeRow_2 U u y.1 y.2.1 y.2.2 (fun z0 z1 z2 => R (z0, z1, z2)) c) (x1, x2, S) K :=
  ⟨fun ⟨I, μ, h0, hs⟩ => ⟨fun t => I t.1 t.2.1 t.2.2, fun t => μ t.1 t.2.1 t.2.2, h0, fun t ht => hs _ _ _ ht⟩, fun ⟨I, μ, h0, hs⟩ => ⟨fun y0 y1 y2 => I (y0, y1, y2), fun y0 y1 y2 => μ (y0, y1, y2), h0, fun y0 y1 y2 hy => hs (y0, y1, y2) hy⟩⟩
set_option maxHeartbeats 1000000 in
theorem d_e_Wa_makeRow_2 {U : ut} {u : Nat} {x1 : Int32} {x2 : Int32} {S : cs} {K : cs → Prop} (h : e_Wa_makeRow_2 U u x1 x2 S K) {Q : Prop} (k_K : ∀ (a0 : cs), K a0 → (∀ (K' : cs → Prop), e_Wa_makeRow_2 U u x1 x2 S K' ↔ K' a0) → Q) : Q := by
  obtain ⟨o, ho, hoc, hi⟩ := lp_det (C := (cs → Prop)) (b := (fun (y : (Int32) × (Int32) × (cs)) (R : ((Int32) × (Int32) × (cs)) → Prop) (c : (cs → Prop)) => b_Wa_makeRow_2 U u y.1 y.2.1 y.2.2 (fun z0 z1 z2 => R (z0, z1, z2)) c)) (O := (fun (o : ((cs → Prop)) → Prop) => (∃ (a0 : cs), o = fun c => c a0))) (fun y R c hy => d_b_Wa_makeRow_2 hy (fun a0 a1 a2 ha ia => Or.inl ⟨(a0, a1, a2), ha, fun R' c' => ia (fun z0 z1 z2 => R' (z0, z1, z2)) c'⟩) (fun a0 ha ia => Or.inr ⟨(fun c => c a0), ⟨a0, rfl⟩, ha, fun R' c' => ia (fun z0 z1 z2 => R' (z0, z1, z2)) c'⟩)) (l_e_Wa_makeRow_2.mp h)
  rcases ho with ⟨a0, rfl⟩
  · exact k_K _ hoc (fun K' => Iff.trans l_e_Wa_makeRow_2 (hi K'))
theorem v_e_Wa_makeRow_2 {U : ut} {u : Nat} {x1 : Int32} {x2 : Int32} {S : cs} {K : cs → Prop} (h : e_Wa_makeRow_2 U u x1 x2 S K) {G : Prop} (Inv : Int32 → cs → Prop) (h0 : Inv x2 S) (hs : ∀ (yx2 : Int32) (yS : cs) (R : Int32 → Int32 → cs → Prop), Inv yx2 yS → b_Wa_makeRow_2 U u x1 yx2 yS R K → (∃ (zx2 : Int32) (zS : cs), R x1 zx2 zS ∧ Inv zx2 zS) ∨ G) : G := by
  obtain ⟨I, μ, i0, is⟩ := h
  have go : ∀ (n : Nat) (yx2 : Int32) (yS : cs), μ x1 yx2 yS < n → I x1 yx2 yS → Inv yx2 yS → G := by
    intro n
    induction n with
    | zero => intro yx2 yS hy; exact absurd hy (Nat.not_lt_zero _)
    | succ n ih =>
      intro yx2 yS hy hI hV
      rcases hs yx2 yS _ hV (is x1 yx2 yS hI) with ⟨zx2, zS, ⟨hz, hm⟩, hv⟩ | g
      · exact ih zx2 zS (Nat.lt_of_lt_of_le hm (Nat.le_of_lt_succ hy)) hz hv
      · exact g
  exact go _ x2 S (Nat.lt_succ_self _) i0 h0
theorem r_e_Wa_makeRow_2 {U : ut} {u : Nat} {x1 : Int32} {x2 : Int32} {S : cs} {K : cs → Prop} (h : e_Wa_makeRow_2 U u x1 x2 S K) : b_Wa_makeRow_2 U u x1 x2 S (fun zx1 zx2 zS => e_Wa_makeRow_2 U u zx1 zx2 zS K) K := by
  obtain ⟨I, μ, i0, is⟩ := h
  exact d_b_Wa_makeRow_2 (is x1 x2 S i0) (fun a0 a1 a2 ha ia => (ia _ _).mpr ⟨I, μ, ha.1, is⟩) (fun a0 ha ia => (ia _ _).mpr ha)
set_option maxHeartbeats 1000000 in
theorem d_p_Wa_makeRow {U : ut} {u : Nat} {x1 : Int32} {S : cs} {K : cs → Prop} (h : p_Wa_makeRow U u x1 S K) {Q : Prop} (k_K : ∀ (a0 : cs), K a0 → (∀ (K' : cs → Prop), p_Wa_makeRow U u x1 S K' ↔ K' a0) → Q) : Q := by
  unfold p_Wa_makeRow at h
  exact d_e_Wa_makeRow_2 h (fun a0 h_2 i_1 => k_K a0 h_2 (fun _ => i_1 _))
set_option maxHeartbeats 1000000 in
theorem d_p_Ar_rangeCheck {x0 : Int32} {x1 : Int32} {x2 : Int32} {K : Prop} (h : p_Ar_rangeCheck x0 x1 x2 K) {Q : Prop} (k_K : K → (∀ (K' : Prop), p_Ar_rangeCheck x0 x1 x2 K' ↔ K') → Q) : Q := by
  unfold p_Ar_rangeCheck at h
  refine dt_p h (fun c_1 h_2 => ?_) (fun c_1 h_2 => ?_)
  ·
    refine dt_p h_2 (fun c_3 h_4 => ?_) (fun c_3 h_4 => ?_)
    ·
      refine dt_p h_4 (fun c_5 h_6 => ?_) (fun c_5 h_6 => ?_)
      ·
        exact k_K h_6 (fun _ => Iff.trans (dt_1 c_1 (fun n => n c_1)) (Iff.trans (dt_1 c_3 (fun n => n c_3)) (dt_1 c_5 (fun n => n c_5))))
      ·
        exact False.elim h_6
    ·
      exact False.elim h_4
  ·
    exact False.elim h_2
set_option maxHeartbeats 1000000 in
theorem d_b_Ar_fillJ_10 {U : ut} {x0 : Nat} {x2 : Int32} {x3 : Int64} {x5 : Int32} {S : cs} {R10 : Nat → Int32 → Int64 → Int32 → cs → Prop} {K : cs → Prop} (h : b_Ar_fillJ_10 U x0 x2 x3 x5 S R10 K) {Q : Prop} (k_R10 : ∀ (a0 : Nat) (a1 : Int32) (a2 : Int64) (a3 : Int32) (a4 : cs), R10 a0 a1 a2 a3 a4 → (∀ (R10' : Nat → Int32 → Int64 → Int32 → cs → Prop) (K' : cs → Prop), b_Ar_fillJ_10 U x0 x2 x3 x5 S R10' K' ↔ R10' a0 a1 a2 a3 a4) → Q) (k_K : ∀ (a0 : cs), K a0 → (∀ (R10' : Nat → Int32 → Int64 → Int32 → cs → Prop) (K' : cs → Prop), b_Ar_fillJ_10 U x0 x2 x3 x5 S R10' K' ↔ K' a0) → Q) : Q := by
  unfold b_Ar_fillJ_10 at h
  refine dt_p h (fun c_1 h_2 => ?_) (fun c_1 h_2 => ?_)
  ·
    exact k_K _ h_2 (fun _ _ => dt_1 c_1 (fun n => n c_1))
  ·
    exact k_R10 _ _ _ _ _ (And.right (And.right h_2)) (fun _ _ => Iff.trans (dt_2 c_1 c_1) (Iff.trans (dt_a (And.left h_2)) (dt_a (And.left (And.right h_2)))))
theorem l_e_Ar_fillJ_10 {U : ut} {x0 : Nat} {x2 : Int32} {x3 : Int64} {x5 : Int32} {S : cs} {K : cs → Prop} : e_Ar_fillJ_10 U x0 x2 x3 x5 S K ↔ lpE (C := (cs → Prop)) (fun (y : (Nat) × (Int32) × (Int64) × (Int32) × (cs)) (R : ((Nat) × (Int32) × (Int64) × (Int32) × (cs)) → Prop) (c : (cs → Prop)) => b_Ar_fillJ_10 U y.1 y.2.1 y.2.2.1 y.2.2.2.1 y.2.2.2.2 (fun z0 z1 z2 z3 z4 => R (z0, z1, z2, z3, z4)) c) (x0, x2, x3, x5, S) K :=
  ⟨fun ⟨I, μ, h0, hs⟩ => ⟨fun t => I t.1 t.2.1 t.2.2.1 t.2.2.2.1 t.2.2.2.2, fun t => μ t.1 t.2.1 t.2.2.1 t.2.2.2.1 t.2.2.2.2, h0, fun t ht => hs _ _ _ _ _ ht⟩, fun ⟨I, μ, h0, hs⟩ => ⟨fun y0 y1 y2 y3 y4 => I (y0, y1, y2, y3, y4), fun y0 y1 y2 y3 y4 => μ (y0, y1, y2, y3, y4), h0, fun y0 y1 y2 y3 y4 hy => hs (y0, y1, y2, y3, y4) hy⟩⟩
set_option maxHeartbeats 1000000 in
theorem d_e_Ar_fillJ_10 {U : ut} {x0 : Nat} {x2 : Int32} {x3 : Int64} {x5 : Int32} {S : cs} {K : cs → Prop} (h : e_Ar_fillJ_10 U x0 x2 x3 x5 S K) {Q : Prop} (k_K : ∀ (a0 : cs), K a0 → (∀ (K' : cs → Prop), e_Ar_fillJ_10 U x0 x2 x3 x5 S K' ↔ K' a0) → Q) : Q := by
  obtain ⟨o, ho, hoc, hi⟩ := lp_det (C := (cs → Prop)) (b := (fun (y : (Nat) × (Int32) × (Int64) × (Int32) × (cs)) (R : ((Nat) × (Int32) × (Int64) × (Int32) × (cs)) → Prop) (c : (cs → Prop)) => b_Ar_fillJ_10 U y.1 y.2.1 y.2.2.1 y.2.2.2.1 y.2.2.2.2 (fun z0 z1 z2 z3 z4 => R (z0, z1, z2, z3, z4)) c)) (O := (fun (o : ((cs → Prop)) → Prop) => (∃ (a0 : cs), o = fun c => c a0))) (fun y R c hy => d_b_Ar_fillJ_10 hy (fun a0 a1 a2 a3 a4 ha ia => Or.inl ⟨(a0, a1, a2, a3, a4), ha, fun R' c' => ia (fun z0 z1 z2 z3 z4 => R' (z0, z1, z2, z3, z4)) c'⟩) (fun a0 ha ia => Or.inr ⟨(fun c => c a0), ⟨a0, rfl⟩, ha, fun R' c' => ia (fun z0 z1 z2 z3 z4 => R' (z0, z1, z2, z3, z4)) c'⟩)) (l_e_Ar_fillJ_10.mp h)
  rcases ho with ⟨a0, rfl⟩
  · exact k_K _ hoc (fun K' => Iff.trans l_e_Ar_fillJ_10 (hi K'))
theorem v_e_Ar_fillJ_10 {U : ut} {x0 : Nat} {x2 : Int32} {x3 : Int64} {x5 : Int32} {S : cs} {K : cs → Prop} (h : e_Ar_fillJ_10 U x0 x2 x3 x5 S K) {G : Prop} (Inv : Int32 → cs → Prop) (h0 : Inv x5 S) (hs : ∀ (yx5 : Int32) (yS : cs) (R : Nat → Int32 → Int64 → Int32 → cs → Prop), Inv yx5 yS → b_Ar_fillJ_10 U x0 x2 x3 yx5 yS R K → (∃ (zx5 : Int32) (zS : cs), R x0 x2 x3 zx5 zS ∧ Inv zx5 zS) ∨ G) : G := by
  obtain ⟨I, μ, i0, is⟩ := h
  have go : ∀ (n : Nat) (yx5 : Int32) (yS : cs), μ x0 x2 x3 yx5 yS < n → I x0 x2 x3 yx5 yS → Inv yx5 yS → G := by
    intro n
    induction n with
    | zero => intro yx5 yS hy; exact absurd hy (Nat.not_lt_zero _)
    | succ n ih =>
      intro yx5 yS hy hI hV
      rcases hs yx5 yS _ hV (is x0 x2 x3 yx5 yS hI) with ⟨zx5, zS, ⟨hz, hm⟩, hv⟩ | g
      · exact ih zx5 zS (Nat.lt_of_lt_of_le hm (Nat.le_of_lt_succ hy)) hz hv
      · exact g
  exact go _ x5 S (Nat.lt_succ_self _) i0 h0
theorem r_e_Ar_fillJ_10 {U : ut} {x0 : Nat} {x2 : Int32} {x3 : Int64} {x5 : Int32} {S : cs} {K : cs → Prop} (h : e_Ar_fillJ_10 U x0 x2 x3 x5 S K) : b_Ar_fillJ_10 U x0 x2 x3 x5 S (fun zx0 zx2 zx3 zx5 zS => e_Ar_fillJ_10 U zx0 zx2 zx3 zx5 zS K) K := by
  obtain ⟨I, μ, i0, is⟩ := h
  exact d_b_Ar_fillJ_10 (is x0 x2 x3 x5 S i0) (fun a0 a1 a2 a3 a4 ha ia => (ia _ _).mpr ⟨I, μ, ha.1, is⟩) (fun a0 ha ia => (ia _ _).mpr ha)
set_option maxHeartbeats 1000000 in
theorem d_p_Ar_fillJ {U : ut} {x0 : Nat} {x1 : Int32} {x2 : Int32} {x3 : Int64} {S : cs} {K : cs → Prop} (h : p_Ar_fillJ U x0 x1 x2 x3 S K) {Q : Prop} (k_K : ∀ (a0 : cs), K a0 → (∀ (K' : cs → Prop), p_Ar_fillJ U x0 x1 x2 x3 S K' ↔ K' a0) → Q) : Q := by
  unfold p_Ar_fillJ at h
  refine d_p_Ar_rangeCheck (And.right h) (fun h_2 i_1 => ?_)
  exact d_e_Ar_fillJ_10 h_2 (fun a0 h_4 i_3 => k_K a0 h_4 (fun _ => Iff.trans (dt_a (And.left h)) (Iff.trans (i_1 _) (i_3 _))))
set_option maxHeartbeats 1000000 in
theorem d_b_Wa_makeSamples_79 {U : ut} {u : Nat} {x1 : Int32} {x2 : Int32} {x3 : Int32} {x4 : Int64} {x6 : Int32} {S : cs} {R57 : Int32 → Int32 → cs → Prop} {R65 : Int32 → Int32 → Int32 → cs → Prop} {R79 : Int32 → Int32 → Int32 → Int64 → Int32 → cs → Prop} {K : cs → Prop} (h : b_Wa_makeSamples_79 U u x1 x2 x3 x4 x6 S R57 R65 R79 K) {Q : Prop} (k_R57 : ∀ (a0 : Int32) (a1 : Int32) (a2 : cs), R57 a0 a1 a2 → (∀ (R57' : Int32 → Int32 → cs → Prop) (R65' : Int32 → Int32 → Int32 → cs → Prop) (R79' : Int32 → Int32 → Int32 → Int64 → Int32 → cs → Prop) (K' : cs → Prop), b_Wa_makeSamples_79 U u x1 x2 x3 x4 x6 S R57' R65' R79' K' ↔ R57' a0 a1 a2) → Q) (k_R65 : ∀ (a0 : Int32) (a1 : Int32) (a2 : Int32) (a3 : cs), R65 a0 a1 a2 a3 → (∀ (R57' : Int32 → Int32 → cs → Prop) (R65' : Int32 → Int32 → Int32 → cs → Prop) (R79' : Int32 → Int32 → Int32 → Int64 → Int32 → cs → Prop) (K' : cs → Prop), b_Wa_makeSamples_79 U u x1 x2 x3 x4 x6 S R57' R65' R79' K' ↔ R65' a0 a1 a2 a3) → Q) (k_R79 : ∀ (a0 : Int32) (a1 : Int32) (a2 : Int32) (a3 : Int64) (a4 : Int32) (a5 : cs), R79 a0 a1 a2 a3 a4 a5 → (∀ (R57' : Int32 → Int32 → cs → Prop) (R65' : Int32 → Int32 → Int32 → cs → Prop) (R79' : Int32 → Int32 → Int32 → Int64 → Int32 → cs → Prop) (K' : cs → Prop), b_Wa_makeSamples_79 U u x1 x2 x3 x4 x6 S R57' R65' R79' K' ↔ R79' a0 a1 a2 a3 a4 a5) → Q) (k_K : ∀ (a0 : cs), K a0 → (∀ (R57' : Int32 → Int32 → cs → Prop) (R65' : Int32 → Int32 → Int32 → cs → Prop) (R79' : Int32 → Int32 → Int32 → Int64 → Int32 → cs → Prop) (K' : cs → Prop), b_Wa_makeSamples_79 U u x1 x2 x3 x4 x6 S R57' R65' R79' K' ↔ K' a0) → Q) : Q := by
  unfold b_Wa_makeSamples_79 at h
  refine dt_p h (fun c_1 h_2 => ?_) (fun c_1 h_2 => ?_)
  ·
    refine d_p_B_clamp (And.right h_2) (fun v146 h_4 i_3 => ?_)
    exact k_R65 _ _ _ _ (And.right (And.right h_4)) (fun _ _ _ _ => Iff.trans (dt_1 c_1 (fun n => n c_1)) (Iff.trans (dt_a (And.left h_2)) (Iff.trans (i_3 _) (Iff.trans (dt_a (And.left h_4)) (dt_a (And.left (And.right h_4)))))))
  ·
    exact k_R79 _ _ _ _ _ _ (And.right (And.right (And.right (And.right (And.right (And.right h_2)))))) (fun _ _ _ _ => Iff.trans (dt_2 c_1 c_1) (Iff.trans (dt_a (And.left h_2)) (Iff.trans (dt_a (And.left (And.right h_2))) (Iff.trans (dt_a (And.left (And.right (And.right h_2)))) (Iff.trans (dt_a (And.left (And.right (And.right (And.right h_2))))) (Iff.trans (dt_a (And.left (And.right (And.right (And.right (And.right h_2)))))) (dt_a (And.left (And.right (And.right (And.right (And.right (And.right h_2)))))))))))))
theorem l_e_Wa_makeSamples_79 {U : ut} {u : Nat} {x1 : Int32} {x2 : Int32} {x3 : Int32} {x4 : Int64} {x6 : Int32} {S : cs} {R57 : Int32 → Int32 → cs → Prop} {R65 : Int32 → Int32 → Int32 → cs → Prop} {K : cs → Prop} : e_Wa_makeSamples_79 U u x1 x2 x3 x4 x6 S R57 R65 K ↔ lpE (C := (Int32 → Int32 → cs → Prop) × (Int32 → Int32 → Int32 → cs → Prop) × (cs → Prop)) (fun (y : (Int32) × (Int32) × (Int32) × (Int64) × (Int32) × (cs)) (R : ((Int32) × (Int32) × (Int32) × (Int64) × (Int32) × (cs)) → Prop) (c : (Int32 → Int32 → cs → Prop) × (Int32 → Int32 → Int32 → cs → Prop) × (cs → Prop)) => b_Wa_makeSamples_79 U u y.1 y.2.1 y.2.2.1 y.2.2.2.1 y.2.2.2.2.1 y.2.2.2.2.2 c.1 c.2.1 (fun z0 z1 z2 z3 z4 z5 => R (z0, z1, z2, z3, z4, z5)) c.2.2) (x1, x2, x3, x4, x6, S) (R57, R65, K) :=
  ⟨fun ⟨I, μ, h0, hs⟩ => ⟨fun t => I t.1 t.2.1 t.2.2.1 t.2.2.2.1 t.2.2.2.2.1 t.2.2.2.2.2, fun t => μ t.1 t.2.1 t.2.2.1 t.2.2.2.1 t.2.2.2.2.1 t.2.2.2.2.2, h0, fun t ht => hs _ _ _ _ _ _ ht⟩, fun ⟨I, μ, h0, hs⟩ => ⟨fun y0 y1 y2 y3 y4 y5 => I (y0, y1, y2, y3, y4, y5), fun y0 y1 y2 y3 y4 y5 => μ (y0, y1, y2, y3, y4, y5), h0, fun y0 y1 y2 y3 y4 y5 hy => hs (y0, y1, y2, y3, y4, y5) hy⟩⟩
set_option maxHeartbeats 1000000 in
theorem d_e_Wa_makeSamples_79 {U : ut} {u : Nat} {x1 : Int32} {x2 : Int32} {x3 : Int32} {x4 : Int64} {x6 : Int32} {S : cs} {R57 : Int32 → Int32 → cs → Prop} {R65 : Int32 → Int32 → Int32 → cs → Prop} {K : cs → Prop} (h : e_Wa_makeSamples_79 U u x1 x2 x3 x4 x6 S R57 R65 K) {Q : Prop} (k_R57 : ∀ (a0 : Int32) (a1 : Int32) (a2 : cs), R57 a0 a1 a2 → (∀ (R57' : Int32 → Int32 → cs → Prop) (R65' : Int32 → Int32 → Int32 → cs → Prop) (K' : cs → Prop), e_Wa_makeSamples_79 U u x1 x2 x3 x4 x6 S R57' R65' K' ↔ R57' a0 a1 a2) → Q) (k_R65 : ∀ (a0 : Int32) (a1 : Int32) (a2 : Int32) (a3 : cs), R65 a0 a1 a2 a3 → (∀ (R57' : Int32 → Int32 → cs → Prop) (R65' : Int32 → Int32 → Int32 → cs → Prop) (K' : cs → Prop), e_Wa_makeSamples_79 U u x1 x2 x3 x4 x6 S R57' R65' K' ↔ R65' a0 a1 a2 a3) → Q) (k_K : ∀ (a0 : cs), K a0 → (∀ (R57' : Int32 → Int32 → cs → Prop) (R65' : Int32 → Int32 → Int32 → cs → Prop) (K' : cs → Prop), e_Wa_makeSamples_79 U u x1 x2 x3 x4 x6 S R57' R65' K' ↔ K' a0) → Q) : Q := by
  obtain ⟨o, ho, hoc, hi⟩ := lp_det (C := (Int32 → Int32 → cs → Prop) × (Int32 → Int32 → Int32 → cs → Prop) × (cs → Prop)) (b := (fun (y : (Int32) × (Int32) × (Int32) × (Int64) × (Int32) × (cs)) (R : ((Int32) × (Int32) × (Int32) × (Int64) × (Int32) × (cs)) → Prop) (c : (Int32 → Int32 → cs → Prop) × (Int32 → Int32 → Int32 → cs → Prop) × (cs → Prop)) => b_Wa_makeSamples_79 U u y.1 y.2.1 y.2.2.1 y.2.2.2.1 y.2.2.2.2.1 y.2.2.2.2.2 c.1 c.2.1 (fun z0 z1 z2 z3 z4 z5 => R (z0, z1, z2, z3, z4, z5)) c.2.2)) (O := (fun (o : ((Int32 → Int32 → cs → Prop) × (Int32 → Int32 → Int32 → cs → Prop) × (cs → Prop)) → Prop) => (∃ (a0 : Int32) (a1 : Int32) (a2 : cs), o = fun c => c.1 a0 a1 a2) ∨ (∃ (a0 : Int32) (a1 : Int32) (a2 : Int32) (a3 : cs), o = fun c => c.2.1 a0 a1 a2 a3) ∨ (∃ (a0 : cs), o = fun c => c.2.2 a0))) (fun y R c hy => d_b_Wa_makeSamples_79 hy (fun a0 a1 a2 ha ia => Or.inr ⟨(fun c => c.1 a0 a1 a2), Or.inl ⟨a0, a1, a2, rfl⟩, ha, fun R' c' => ia c'.1 c'.2.1 (fun z0 z1 z2 z3 z4 z5 => R' (z0, z1, z2, z3, z4, z5)) c'.2.2⟩) (fun a0 a1 a2 a3 ha ia => Or.inr ⟨(fun c => c.2.1 a0 a1 a2 a3), Or.inr (Or.inl ⟨a0, a1, a2, a3, rfl⟩), ha, fun R' c' => ia c'.1 c'.2.1 (fun z0 z1 z2 z3 z4 z5 => R' (z0, z1, z2, z3, z4, z5)) c'.2.2⟩) (fun a0 a1 a2 a3 a4 a5 ha ia => Or.inl ⟨(a0, a1, a2, a3, a4, a5), ha, fun R' c' => ia c'.1 c'.2.1 (fun z0 z1 z2 z3 z4 z5 => R' (z0, z1, z2, z3, z4, z5)) c'.2.2⟩) (fun a0 ha ia => Or.inr ⟨(fun c => c.2.2 a0), Or.inr (Or.inr (⟨a0, rfl⟩)), ha, fun R' c' => ia c'.1 c'.2.1 (fun z0 z1 z2 z3 z4 z5 => R' (z0, z1, z2, z3, z4, z5)) c'.2.2⟩)) (l_e_Wa_makeSamples_79.mp h)
  rcases ho with ⟨a0, a1, a2, rfl⟩ | ⟨a0, a1, a2, a3, rfl⟩ | ⟨a0, rfl⟩
  · exact k_R57 _ _ _ hoc (fun R57' R65' K' => Iff.trans l_e_Wa_makeSamples_79 (hi (R57', R65', K')))
  · exact k_R65 _ _ _ _ hoc (fun R57' R65' K' => Iff.trans l_e_Wa_makeSamples_79 (hi (R57', R65', K')))
  · exact k_K _ hoc (fun R57' R65' K' => Iff.trans l_e_Wa_makeSamples_79 (hi (R57', R65', K')))
theorem v_e_Wa_makeSamples_79 {U : ut} {u : Nat} {x1 : Int32} {x2 : Int32} {x3 : Int32} {x4 : Int64} {x6 : Int32} {S : cs} {R57 : Int32 → Int32 → cs → Prop} {R65 : Int32 → Int32 → Int32 → cs → Prop} {K : cs → Prop} (h : e_Wa_makeSamples_79 U u x1 x2 x3 x4 x6 S R57 R65 K) {G : Prop} (Inv : Int64 → Int32 → cs → Prop) (h0 : Inv x4 x6 S) (hs : ∀ (yx4 : Int64) (yx6 : Int32) (yS : cs) (R : Int32 → Int32 → Int32 → Int64 → Int32 → cs → Prop), Inv yx4 yx6 yS → b_Wa_makeSamples_79 U u x1 x2 x3 yx4 yx6 yS R57 R65 R K → (∃ (zx4 : Int64) (zx6 : Int32) (zS : cs), R x1 x2 x3 zx4 zx6 zS ∧ Inv zx4 zx6 zS) ∨ G) : G := by
  obtain ⟨I, μ, i0, is⟩ := h
  have go : ∀ (n : Nat) (yx4 : Int64) (yx6 : Int32) (yS : cs), μ x1 x2 x3 yx4 yx6 yS < n → I x1 x2 x3 yx4 yx6 yS → Inv yx4 yx6 yS → G := by
    intro n
    induction n with
    | zero => intro yx4 yx6 yS hy; exact absurd hy (Nat.not_lt_zero _)
    | succ n ih =>
      intro yx4 yx6 yS hy hI hV
      rcases hs yx4 yx6 yS _ hV (is x1 x2 x3 yx4 yx6 yS hI) with ⟨zx4, zx6, zS, ⟨hz, hm⟩, hv⟩ | g
      · exact ih zx4 zx6 zS (Nat.lt_of_lt_of_le hm (Nat.le_of_lt_succ hy)) hz hv
      · exact g
  exact go _ x4 x6 S (Nat.lt_succ_self _) i0 h0
theorem r_e_Wa_makeSamples_79 {U : ut} {u : Nat} {x1 : Int32} {x2 : Int32} {x3 : Int32} {x4 : Int64} {x6 : Int32} {S : cs} {R57 : Int32 → Int32 → cs → Prop} {R65 : Int32 → Int32 → Int32 → cs → Prop} {K : cs → Prop} (h : e_Wa_makeSamples_79 U u x1 x2 x3 x4 x6 S R57 R65 K) : b_Wa_makeSamples_79 U u x1 x2 x3 x4 x6 S R57 R65 (fun zx1 zx2 zx3 zx4 zx6 zS => e_Wa_makeSamples_79 U u zx1 zx2 zx3 zx4 zx6 zS R57 R65 K) K := by
  obtain ⟨I, μ, i0, is⟩ := h
  exact d_b_Wa_makeSamples_79 (is x1 x2 x3 x4 x6 S i0) (fun a0 a1 a2 ha ia => (ia _ _ _ _).mpr ha) (fun a0 a1 a2 a3 ha ia => (ia _ _ _ _).mpr ha) (fun a0 a1 a2 a3 a4 a5 ha ia => (ia _ _ _ _).mpr ⟨I, μ, ha.1, is⟩) (fun a0 ha ia => (ia _ _ _ _).mpr ha)
set_option maxHeartbeats 1000000 in
theorem d_b_Wa_makeSamples_65 {U : ut} {u : Nat} {x1 : Int32} {x2 : Int32} {x3 : Int32} {S : cs} {R57 : Int32 → Int32 → cs → Prop} {R65 : Int32 → Int32 → Int32 → cs → Prop} {K : cs → Prop} (h : b_Wa_makeSamples_65 U u x1 x2 x3 S R57 R65 K) {Q : Prop} (k_R57 : ∀ (a0 : Int32) (a1 : Int32) (a2 : cs), R57 a0 a1 a2 → (∀ (R57' : Int32 → Int32 → cs → Prop) (R65' : Int32 → Int32 → Int32 → cs → Prop) (K' : cs → Prop), b_Wa_makeSamples_65 U u x1 x2 x3 S R57' R65' K' ↔ R57' a0 a1 a2) → Q) (k_R65 : ∀ (a0 : Int32) (a1 : Int32) (a2 : Int32) (a3 : cs), R65 a0 a1 a2 a3 → (∀ (R57' : Int32 → Int32 → cs → Prop) (R65' : Int32 → Int32 → Int32 → cs → Prop) (K' : cs → Prop), b_Wa_makeSamples_65 U u x1 x2 x3 S R57' R65' K' ↔ R65' a0 a1 a2 a3) → Q) (k_K : ∀ (a0 : cs), K a0 → (∀ (R57' : Int32 → Int32 → cs → Prop) (R65' : Int32 → Int32 → Int32 → cs → Prop) (K' : cs → Prop), b_Wa_makeSamples_65 U u x1 x2 x3 S R57' R65' K' ↔ K' a0) → Q) : Q := by
  unfold b_Wa_makeSamples_65 at h
  refine dt_p h (fun c_1 h_2 => ?_) (fun c_1 h_2 => ?_)
  ·
    exact k_R57 _ _ _ h_2 (fun _ _ _ => dt_1 c_1 (fun n => n c_1))
  ·
    exact d_e_Wa_makeSamples_79 h_2 (fun a0 a1 a2 h_4 i_3 => k_R57 a0 a1 a2 h_4 (fun _ _ _ => Iff.trans (dt_2 c_1 c_1) (i_3 _ _ _))) (fun a0 a1 a2 a3 h_6 i_5 => k_R65 a0 a1 a2 a3 h_6 (fun _ _ _ => Iff.trans (dt_2 c_1 c_1) (i_5 _ _ _))) (fun a0 h_8 i_7 => k_K a0 h_8 (fun _ _ _ => Iff.trans (dt_2 c_1 c_1) (i_7 _ _ _)))
theorem l_e_Wa_makeSamples_65 {U : ut} {u : Nat} {x1 : Int32} {x2 : Int32} {x3 : Int32} {S : cs} {R57 : Int32 → Int32 → cs → Prop} {K : cs → Prop} : e_Wa_makeSamples_65 U u x1 x2 x3 S R57 K ↔ lpE (C := (Int32 → Int32 → cs → Prop) × (cs → Prop)) (fun (y : (Int32) × (Int32) × (Int32) × (cs)) (R : ((Int32) × (Int32) × (Int32) × (cs)) → Prop) (c : (Int32 → Int32 → cs → Prop) × (cs → Prop)) => b_Wa_makeSamples_65 U u y.1 y.2.1 y.2.2.1 y.2.2.2 c.1 (fun z0 z1 z2 z3 => R (z0, z1, z2, z3)) c.2) (x1, x2, x3, S) (R57, K) :=
  ⟨fun ⟨I, μ, h0, hs⟩ => ⟨fun t => I t.1 t.2.1 t.2.2.1 t.2.2.2, fun t => μ t.1 t.2.1 t.2.2.1 t.2.2.2, h0, fun t ht => hs _ _ _ _ ht⟩, fun ⟨I, μ, h0, hs⟩ => ⟨fun y0 y1 y2 y3 => I (y0, y1, y2, y3), fun y0 y1 y2 y3 => μ (y0, y1, y2, y3), h0, fun y0 y1 y2 y3 hy => hs (y0, y1, y2, y3) hy⟩⟩
set_option maxHeartbeats 1000000 in
theorem d_e_Wa_makeSamples_65 {U : ut} {u : Nat} {x1 : Int32} {x2 : Int32} {x3 : Int32} {S : cs} {R57 : Int32 → Int32 → cs → Prop} {K : cs → Prop} (h : e_Wa_makeSamples_65 U u x1 x2 x3 S R57 K) {Q : Prop} (k_R57 : ∀ (a0 : Int32) (a1 : Int32) (a2 : cs), R57 a0 a1 a2 → (∀ (R57' : Int32 → Int32 → cs → Prop) (K' : cs → Prop), e_Wa_makeSamples_65 U u x1 x2 x3 S R57' K' ↔ R57' a0 a1 a2) → Q) (k_K : ∀ (a0 : cs), K a0 → (∀ (R57' : Int32 → Int32 → cs → Prop) (K' : cs → Prop), e_Wa_makeSamples_65 U u x1 x2 x3 S R57' K' ↔ K' a0) → Q) : Q := by
  obtain ⟨o, ho, hoc, hi⟩ := lp_det (C := (Int32 → Int32 → cs → Prop) × (cs → Prop)) (b := (fun (y : (Int32) × (Int32) × (Int32) × (cs)) (R : ((Int32) × (Int32) × (Int32) × (cs)) → Prop) (c : (Int32 → Int32 → cs → Prop) × (cs → Prop)) => b_Wa_makeSamples_65 U u y.1 y.2.1 y.2.2.1 y.2.2.2 c.1 (fun z0 z1 z2 z3 => R (z0, z1, z2, z3)) c.2)) (O := (fun (o : ((Int32 → Int32 → cs → Prop) × (cs → Prop)) → Prop) => (∃ (a0 : Int32) (a1 : Int32) (a2 : cs), o = fun c => c.1 a0 a1 a2) ∨ (∃ (a0 : cs), o = fun c => c.2 a0))) (fun y R c hy => d_b_Wa_makeSamples_65 hy (fun a0 a1 a2 ha ia => Or.inr ⟨(fun c => c.1 a0 a1 a2), Or.inl ⟨a0, a1, a2, rfl⟩, ha, fun R' c' => ia c'.1 (fun z0 z1 z2 z3 => R' (z0, z1, z2, z3)) c'.2⟩) (fun a0 a1 a2 a3 ha ia => Or.inl ⟨(a0, a1, a2, a3), ha, fun R' c' => ia c'.1 (fun z0 z1 z2 z3 => R' (z0, z1, z2, z3)) c'.2⟩) (fun a0 ha ia => Or.inr ⟨(fun c => c.2 a0), Or.inr (⟨a0, rfl⟩), ha, fun R' c' => ia c'.1 (fun z0 z1 z2 z3 => R' (z0, z1, z2, z3)) c'.2⟩)) (l_e_Wa_makeSamples_65.mp h)
  rcases ho with ⟨a0, a1, a2, rfl⟩ | ⟨a0, rfl⟩
  · exact k_R57 _ _ _ hoc (fun R57' K' => Iff.trans l_e_Wa_makeSamples_65 (hi (R57', K')))
  · exact k_K _ hoc (fun R57' K' => Iff.trans l_e_Wa_makeSamples_65 (hi (R57', K')))
theorem v_e_Wa_makeSamples_65 {U : ut} {u : Nat} {x1 : Int32} {x2 : Int32} {x3 : Int32} {S : cs} {R57 : Int32 → Int32 → cs → Prop} {K : cs → Prop} (h : e_Wa_makeSamples_65 U u x1 x2 x3 S R57 K) {G : Prop} (Inv : Int32 → cs → Prop) (h0 : Inv x3 S) (hs : ∀ (yx3 : Int32) (yS : cs) (R : Int32 → Int32 → Int32 → cs → Prop), Inv yx3 yS → b_Wa_makeSamples_65 U u x1 x2 yx3 yS R57 R K → (∃ (zx3 : Int32) (zS : cs), R x1 x2 zx3 zS ∧ Inv zx3 zS) ∨ G) : G := by
  obtain ⟨I, μ, i0, is⟩ := h
  have go : ∀ (n : Nat) (yx3 : Int32) (yS : cs), μ x1 x2 yx3 yS < n → I x1 x2 yx3 yS → Inv yx3 yS → G := by
    intro n
    induction n with
    | zero => intro yx3 yS hy; exact absurd hy (Nat.not_lt_zero _)
    | succ n ih =>
      intro yx3 yS hy hI hV
      rcases hs yx3 yS _ hV (is x1 x2 yx3 yS hI) with ⟨zx3, zS, ⟨hz, hm⟩, hv⟩ | g
      · exact ih zx3 zS (Nat.lt_of_lt_of_le hm (Nat.le_of_lt_succ hy)) hz hv
      · exact g
  exact go _ x3 S (Nat.lt_succ_self _) i0 h0
theorem r_e_Wa_makeSamples_65 {U : ut} {u : Nat} {x1 : Int32} {x2 : Int32} {x3 : Int32} {S : cs} {R57 : Int32 → Int32 → cs → Prop} {K : cs → Prop} (h : e_Wa_makeSamples_65 U u x1 x2 x3 S R57 K) : b_Wa_makeSamples_65 U u x1 x2 x3 S R57 (fun zx1 zx2 zx3 zS => e_Wa_makeSamples_65 U u zx1 zx2 zx3 zS R57 K) K := by
  obtain ⟨I, μ, i0, is⟩ := h
  exact d_b_Wa_makeSamples_65 (is x1 x2 x3 S i0) (fun a0 a1 a2 ha ia => (ia _ _ _).mpr ha) (fun a0 a1 a2 a3 ha ia => (ia _ _ _).mpr ⟨I, μ, ha.1, is⟩) (fun a0 ha ia => (ia _ _ _).mpr ha)
set_option maxHeartbeats 1000000 in
theorem d_b_Wa_makeSamples_57 {U : ut} {u : Nat} {x1 : Int32} {x2 : Int32} {S : cs} {R57 : Int32 → Int32 → cs → Prop} {K : cs → Prop} (h : b_Wa_makeSamples_57 U u x1 x2 S R57 K) {Q : Prop} (k_R57 : ∀ (a0 : Int32) (a1 : Int32) (a2 : cs), R57 a0 a1 a2 → (∀ (R57' : Int32 → Int32 → cs → Prop) (K' : cs → Prop), b_Wa_makeSamples_57 U u x1 x2 S R57' K' ↔ R57' a0 a1 a2) → Q) (k_K : ∀ (a0 : cs), K a0 → (∀ (R57' : Int32 → Int32 → cs → Prop) (K' : cs → Prop), b_Wa_makeSamples_57 U u x1 x2 S R57' K' ↔ K' a0) → Q) : Q := by
  unfold b_Wa_makeSamples_57 at h
  refine dt_p h (fun c_1 h_2 => ?_) (fun c_1 h_2 => ?_)
  ·
    exact k_K _ h_2 (fun _ _ => dt_1 c_1 (fun n => n c_1))
  ·
    exact d_e_Wa_makeSamples_65 h_2 (fun a0 a1 a2 h_4 i_3 => k_R57 a0 a1 a2 h_4 (fun _ _ => Iff.trans (dt_2 c_1 c_1) (i_3 _ _))) (fun a0 h_6 i_5 => k_K a0 h_6 (fun _ _ => Iff.trans (dt_2 c_1 c_1) (i_5 _ _)))
theorem l_e_Wa_makeSamples_57 {U : ut} {u : Nat} {x1 : Int32} {x2 : Int32} {S : cs} {K : cs → Prop} : e_Wa_makeSamples_57 U u x1 x2 S K ↔ lpE (C := (cs → Prop)) (fun (y : (Int32) × (Int32) × (cs)) (R : ((Int32) × (Int32) × (cs)) → Prop) (c : (cs → Prop)) => b_Wa_makeSamples_57 U u y.1 y.2.1 y.2.2 (fun z0 z1 z2 => R (z0, z1, z2)) c) (x1, x2, S) K :=
  ⟨fun ⟨I, μ, h0, hs⟩ => ⟨fun t => I t.1 t.2.1 t.2.2, fun t => μ t.1 t.2.1 t.2.2, h0, fun t ht => hs _ _ _ ht⟩, fun ⟨I, μ, h0, hs⟩ => ⟨fun y0 y1 y2 => I (y0, y1, y2), fun y0 y1 y2 => μ (y0, y1, y2), h0, fun y0 y1 y2 hy => hs (y0, y1, y2) hy⟩⟩
set_option maxHeartbeats 1000000 in
theorem d_e_Wa_makeSamples_57 {U : ut} {u : Nat} {x1 : Int32} {x2 : Int32} {S : cs} {K : cs → Prop} (h : e_Wa_makeSamples_57 U u x1 x2 S K) {Q : Prop} (k_K : ∀ (a0 : cs), K a0 → (∀ (K' : cs → Prop), e_Wa_makeSamples_57 U u x1 x2 S K' ↔ K' a0) → Q) : Q := by
  obtain ⟨o, ho, hoc, hi⟩ := lp_det (C := (cs → Prop)) (b := (fun (y : (Int32) × (Int32) × (cs)) (R : ((Int32) × (Int32) × (cs)) → Prop) (c : (cs → Prop)) => b_Wa_makeSamples_57 U u y.1 y.2.1 y.2.2 (fun z0 z1 z2 => R (z0, z1, z2)) c)) (O := (fun (o : ((cs → Prop)) → Prop) => (∃ (a0 : cs), o = fun c => c a0))) (fun y R c hy => d_b_Wa_makeSamples_57 hy (fun a0 a1 a2 ha ia => Or.inl ⟨(a0, a1, a2), ha, fun R' c' => ia (fun z0 z1 z2 => R' (z0, z1, z2)) c'⟩) (fun a0 ha ia => Or.inr ⟨(fun c => c a0), ⟨a0, rfl⟩, ha, fun R' c' => ia (fun z0 z1 z2 => R' (z0, z1, z2)) c'⟩)) (l_e_Wa_makeSamples_57.mp h)
  rcases ho with ⟨a0, rfl⟩
  · exact k_K _ hoc (fun K' => Iff.trans l_e_Wa_makeSamples_57 (hi K'))
theorem v_e_Wa_makeSamples_57 {U : ut} {u : Nat} {x1 : Int32} {x2 : Int32} {S : cs} {K : cs → Prop} (h : e_Wa_makeSamples_57 U u x1 x2 S K) {G : Prop} (Inv : Int32 → cs → Prop) (h0 : Inv x2 S) (hs : ∀ (yx2 : Int32) (yS : cs) (R : Int32 → Int32 → cs → Prop), Inv yx2 yS → b_Wa_makeSamples_57 U u x1 yx2 yS R K → (∃ (zx2 : Int32) (zS : cs), R x1 zx2 zS ∧ Inv zx2 zS) ∨ G) : G := by
  obtain ⟨I, μ, i0, is⟩ := h
  have go : ∀ (n : Nat) (yx2 : Int32) (yS : cs), μ x1 yx2 yS < n → I x1 yx2 yS → Inv yx2 yS → G := by
    intro n
    induction n with
    | zero => intro yx2 yS hy; exact absurd hy (Nat.not_lt_zero _)
    | succ n ih =>
      intro yx2 yS hy hI hV
      rcases hs yx2 yS _ hV (is x1 yx2 yS hI) with ⟨zx2, zS, ⟨hz, hm⟩, hv⟩ | g
      · exact ih zx2 zS (Nat.lt_of_lt_of_le hm (Nat.le_of_lt_succ hy)) hz hv
      · exact g
  exact go _ x2 S (Nat.lt_succ_self _) i0 h0
theorem r_e_Wa_makeSamples_57 {U : ut} {u : Nat} {x1 : Int32} {x2 : Int32} {S : cs} {K : cs → Prop} (h : e_Wa_makeSamples_57 U u x1 x2 S K) : b_Wa_makeSamples_57 U u x1 x2 S (fun zx1 zx2 zS => e_Wa_makeSamples_57 U u zx1 zx2 zS K) K := by
  obtain ⟨I, μ, i0, is⟩ := h
  exact d_b_Wa_makeSamples_57 (is x1 x2 S i0) (fun a0 a1 a2 ha ia => (ia _ _).mpr ⟨I, μ, ha.1, is⟩) (fun a0 ha ia => (ia _ _).mpr ha)
set_option maxHeartbeats 1000000 in
theorem d_b_Wa_makeSamples_49 {U : ut} {u : Nat} {x1 : Int32} {x2 : Int32} {S : cs} {R4 : Int32 → Int32 → cs → Prop} {K : cs → Prop} (h : b_Wa_makeSamples_49 U u x1 x2 S R4 K) {Q : Prop} (k_R4 : ∀ (a0 : Int32) (a1 : Int32) (a2 : cs), R4 a0 a1 a2 → (∀ (R4' : Int32 → Int32 → cs → Prop) (K' : cs → Prop), b_Wa_makeSamples_49 U u x1 x2 S R4' K' ↔ R4' a0 a1 a2) → Q) (k_K : ∀ (a0 : cs), K a0 → (∀ (R4' : Int32 → Int32 → cs → Prop) (K' : cs → Prop), b_Wa_makeSamples_49 U u x1 x2 S R4' K' ↔ K' a0) → Q) : Q := by
  unfold b_Wa_makeSamples_49 at h
  exact k_R4 _ _ _ h (fun _ _ => Iff.rfl)
set_option maxHeartbeats 1000000 in
theorem d_b_Wa_makeSamples_4 {U : ut} {u : Nat} {x1 : Int32} {x2 : Int32} {S : cs} {R4 : Int32 → Int32 → cs → Prop} {K : cs → Prop} (h : b_Wa_makeSamples_4 U u x1 x2 S R4 K) {Q : Prop} (k_R4 : ∀ (a0 : Int32) (a1 : Int32) (a2 : cs), R4 a0 a1 a2 → (∀ (R4' : Int32 → Int32 → cs → Prop) (K' : cs → Prop), b_Wa_makeSamples_4 U u x1 x2 S R4' K' ↔ R4' a0 a1 a2) → Q) (k_K : ∀ (a0 : cs), K a0 → (∀ (R4' : Int32 → Int32 → cs → Prop) (K' : cs → Prop), b_Wa_makeSamples_4 U u x1 x2 S R4' K' ↔ K' a0) → Q) : Q := by
  unfold b_Wa_makeSamples_4 at h
  refine dt_p h (fun c_1 h_2 => ?_) (fun c_1 h_2 => ?_)
  ·
    exact d_e_Wa_makeSamples_57 h_2 (fun a0 h_4 i_3 => k_K a0 h_4 (fun _ _ => Iff.trans (dt_1 c_1 (fun n => n c_1)) (i_3 _)))
  ·
    refine d_p_Wa_hasWeights h_2 (fun v12 S12 h_6 i_5 => ?_)
    refine dt_p h_6 (fun c_7 h_8 => ?_) (fun c_7 h_8 => ?_)
    ·
      refine d_p_Ar_fillJ (And.right h_8) (fun S46 h_10 i_9 => ?_)
      exact d_b_Wa_makeSamples_49 h_10 (fun a0 a1 a2 h_12 i_11 => k_R4 a0 a1 a2 h_12 (fun _ _ => Iff.trans (dt_2 c_1 c_1) (Iff.trans (i_5 _) (Iff.trans (dt_1 c_7 (fun n => n c_7)) (Iff.trans (dt_a (And.left h_8)) (Iff.trans (i_9 _) (i_11 _ _))))))) (fun a0 h_14 i_13 => k_K a0 h_14 (fun _ _ => Iff.trans (dt_2 c_1 c_1) (Iff.trans (i_5 _) (Iff.trans (dt_1 c_7 (fun n => n c_7)) (Iff.trans (dt_a (And.left h_8)) (Iff.trans (i_9 _) (i_13 _ _)))))))
    ·
      refine d_p_Wa_makeRow h_8 (fun S20 h_16 i_15 => ?_)
      exact d_b_Wa_makeSamples_49 h_16 (fun a0 a1 a2 h_18 i_17 => k_R4 a0 a1 a2 h_18 (fun _ _ => Iff.trans (dt_2 c_1 c_1) (Iff.trans (i_5 _) (Iff.trans (dt_2 c_7 c_7) (Iff.trans (i_15 _) (i_17 _ _)))))) (fun a0 h_20 i_19 => k_K a0 h_20 (fun _ _ => Iff.trans (dt_2 c_1 c_1) (Iff.trans (i_5 _) (Iff.trans (dt_2 c_7 c_7) (Iff.trans (i_15 _) (i_19 _ _))))))
theorem l_e_Wa_makeSamples_4 {U : ut} {u : Nat} {x1 : Int32} {x2 : Int32} {S : cs} {K : cs → Prop} : e_Wa_makeSamples_4 U u x1 x2 S K ↔ lpE (C := (cs → Prop)) (fun (y : (Int32) × (Int32) × (cs)) (R : ((Int32) × (Int32) × (cs)) → Prop) (c : (cs → Prop)) => b_Wa_makeSamples_4 U u y.1 y.2.1 y.2.2 (fun z0 z1 z2 => R (z0, z1, z2)) c) (x1, x2, S) K :=
  ⟨fun ⟨I, μ, h0, hs⟩ => ⟨fun t => I t.1 t.2.1 t.2.2, fun t => μ t.1 t.2.1 t.2.2, h0, fun t ht => hs _ _ _ ht⟩, fun ⟨I, μ, h0, hs⟩ => ⟨fun y0 y1 y2 => I (y0, y1, y2), fun y0 y1 y2 => μ (y0, y1, y2), h0, fun y0 y1 y2 hy => hs (y0, y1, y2) hy⟩⟩
set_option maxHeartbeats 1000000 in
theorem d_e_Wa_makeSamples_4 {U : ut} {u : Nat} {x1 : Int32} {x2 : Int32} {S : cs} {K : cs → Prop} (h : e_Wa_makeSamples_4 U u x1 x2 S K) {Q : Prop} (k_K : ∀ (a0 : cs), K a0 → (∀ (K' : cs → Prop), e_Wa_makeSamples_4 U u x1 x2 S K' ↔ K' a0) → Q) : Q := by
  obtain ⟨o, ho, hoc, hi⟩ := lp_det (C := (cs → Prop)) (b := (fun (y : (Int32) × (Int32) × (cs)) (R : ((Int32) × (Int32) × (cs)) → Prop) (c : (cs → Prop)) => b_Wa_makeSamples_4 U u y.1 y.2.1 y.2.2 (fun z0 z1 z2 => R (z0, z1, z2)) c)) (O := (fun (o : ((cs → Prop)) → Prop) => (∃ (a0 : cs), o = fun c => c a0))) (fun y R c hy => d_b_Wa_makeSamples_4 hy (fun a0 a1 a2 ha ia => Or.inl ⟨(a0, a1, a2), ha, fun R' c' => ia (fun z0 z1 z2 => R' (z0, z1, z2)) c'⟩) (fun a0 ha ia => Or.inr ⟨(fun c => c a0), ⟨a0, rfl⟩, ha, fun R' c' => ia (fun z0 z1 z2 => R' (z0, z1, z2)) c'⟩)) (l_e_Wa_makeSamples_4.mp h)
  rcases ho with ⟨a0, rfl⟩
  · exact k_K _ hoc (fun K' => Iff.trans l_e_Wa_makeSamples_4 (hi K'))
theorem v_e_Wa_makeSamples_4 {U : ut} {u : Nat} {x1 : Int32} {x2 : Int32} {S : cs} {K : cs → Prop} (h : e_Wa_makeSamples_4 U u x1 x2 S K) {G : Prop} (Inv : Int32 → Int32 → cs → Prop) (h0 : Inv x1 x2 S) (hs : ∀ (yx1 : Int32) (yx2 : Int32) (yS : cs) (R : Int32 → Int32 → cs → Prop), Inv yx1 yx2 yS → b_Wa_makeSamples_4 U u yx1 yx2 yS R K → (∃ (zx1 : Int32) (zx2 : Int32) (zS : cs), R zx1 zx2 zS ∧ Inv zx1 zx2 zS) ∨ G) : G := by
  obtain ⟨I, μ, i0, is⟩ := h
  have go : ∀ (n : Nat) (yx1 : Int32) (yx2 : Int32) (yS : cs), μ yx1 yx2 yS < n → I yx1 yx2 yS → Inv yx1 yx2 yS → G := by
    intro n
    induction n with
    | zero => intro yx1 yx2 yS hy; exact absurd hy (Nat.not_lt_zero _)
    | succ n ih =>
      intro yx1 yx2 yS hy hI hV
      rcases hs yx1 yx2 yS _ hV (is yx1 yx2 yS hI) with ⟨zx1, zx2, zS, ⟨hz, hm⟩, hv⟩ | g
      · exact ih zx1 zx2 zS (Nat.lt_of_lt_of_le hm (Nat.le_of_lt_succ hy)) hz hv
      · exact g
  exact go _ x1 x2 S (Nat.lt_succ_self _) i0 h0
theorem r_e_Wa_makeSamples_4 {U : ut} {u : Nat} {x1 : Int32} {x2 : Int32} {S : cs} {K : cs → Prop} (h : e_Wa_makeSamples_4 U u x1 x2 S K) : b_Wa_makeSamples_4 U u x1 x2 S (fun zx1 zx2 zS => e_Wa_makeSamples_4 U u zx1 zx2 zS K) K := by
  obtain ⟨I, μ, i0, is⟩ := h
  exact d_b_Wa_makeSamples_4 (is x1 x2 S i0) (fun a0 a1 a2 ha ia => (ia _ _).mpr ⟨I, μ, ha.1, is⟩) (fun a0 ha ia => (ia _ _).mpr ha)
set_option maxHeartbeats 1000000 in
theorem d_p_Wa_makeSamples {U : ut} {u : Nat} {S : cs} {K : cs → Prop} (h : p_Wa_makeSamples U u S K) {Q : Prop} (k_K : ∀ (a0 : cs), K a0 → (∀ (K' : cs → Prop), p_Wa_makeSamples U u S K' ↔ K' a0) → Q) : Q := by
  unfold p_Wa_makeSamples at h
  exact d_e_Wa_makeSamples_4 h (fun a0 h_2 i_1 => k_K a0 h_2 (fun _ => i_1 _))
set_option maxHeartbeats 1000000 in
theorem d_b_Pi_drawBlock_85 {U : ut} {u : Nat} {x1 : Nat} {x2 : Int32} {x3 : Int32} {x4 : Int32} {x6 : Int32} {S : cs} {R85 : Nat → Int32 → Int32 → Int32 → Int32 → cs → Prop} {K : cs → Prop} (h : b_Pi_drawBlock_85 U u x1 x2 x3 x4 x6 S R85 K) {Q : Prop} (k_R85 : ∀ (a0 : Nat) (a1 : Int32) (a2 : Int32) (a3 : Int32) (a4 : Int32) (a5 : cs), R85 a0 a1 a2 a3 a4 a5 → (∀ (R85' : Nat → Int32 → Int32 → Int32 → Int32 → cs → Prop) (K' : cs → Prop), b_Pi_drawBlock_85 U u x1 x2 x3 x4 x6 S R85' K' ↔ R85' a0 a1 a2 a3 a4 a5) → Q) (k_K : ∀ (a0 : cs), K a0 → (∀ (R85' : Nat → Int32 → Int32 → Int32 → Int32 → cs → Prop) (K' : cs → Prop), b_Pi_drawBlock_85 U u x1 x2 x3 x4 x6 S R85' K' ↔ K' a0) → Q) : Q := by
  unfold b_Pi_drawBlock_85 at h
  refine dt_p h (fun c_1 h_2 => ?_) (fun c_1 h_2 => ?_)
  ·
    exact k_K _ h_2 (fun _ _ => dt_1 c_1 (fun n => n c_1))
  ·
    refine d_p_B_spot (And.right h_2) (fun v112 h_4 i_3 => ?_)
    exact k_R85 _ _ _ _ _ _ (And.right (And.right (And.right (And.right (And.right (And.right h_4)))))) (fun _ _ => Iff.trans (dt_2 c_1 c_1) (Iff.trans (dt_a (And.left h_2)) (Iff.trans (i_3 _) (Iff.trans (dt_a (And.left h_4)) (Iff.trans (dt_a (And.left (And.right h_4))) (Iff.trans (dt_a (And.left (And.right (And.right h_4)))) (Iff.trans (dt_a (And.left (And.right (And.right (And.right h_4))))) (Iff.trans (dt_a (And.left (And.right (And.right (And.right (And.right h_4)))))) (dt_a (And.left (And.right (And.right (And.right (And.right (And.right h_4)))))))))))))))
theorem l_e_Pi_drawBlock_85 {U : ut} {u : Nat} {x1 : Nat} {x2 : Int32} {x3 : Int32} {x4 : Int32} {x6 : Int32} {S : cs} {K : cs → Prop} : e_Pi_drawBlock_85 U u x1 x2 x3 x4 x6 S K ↔ lpE (C := (cs → Prop)) (fun (y : (Nat) × (Int32) × (Int32) × (Int32) × (Int32) × (cs)) (R : ((Nat) × (Int32) × (Int32) × (Int32) × (Int32) × (cs)) → Prop) (c : (cs → Prop)) => b_Pi_drawBlock_85 U u y.1 y.2.1 y.2.2.1 y.2.2.2.1 y.2.2.2.2.1 y.2.2.2.2.2 (fun z0 z1 z2 z3 z4 z5 => R (z0, z1, z2, z3, z4, z5)) c) (x1, x2, x3, x4, x6, S) K :=
  ⟨fun ⟨I, μ, h0, hs⟩ => ⟨fun t => I t.1 t.2.1 t.2.2.1 t.2.2.2.1 t.2.2.2.2.1 t.2.2.2.2.2, fun t => μ t.1 t.2.1 t.2.2.1 t.2.2.2.1 t.2.2.2.2.1 t.2.2.2.2.2, h0, fun t ht => hs _ _ _ _ _ _ ht⟩, fun ⟨I, μ, h0, hs⟩ => ⟨fun y0 y1 y2 y3 y4 y5 => I (y0, y1, y2, y3, y4, y5), fun y0 y1 y2 y3 y4 y5 => μ (y0, y1, y2, y3, y4, y5), h0, fun y0 y1 y2 y3 y4 y5 hy => hs (y0, y1, y2, y3, y4, y5) hy⟩⟩
set_option maxHeartbeats 1000000 in
theorem d_e_Pi_drawBlock_85 {U : ut} {u : Nat} {x1 : Nat} {x2 : Int32} {x3 : Int32} {x4 : Int32} {x6 : Int32} {S : cs} {K : cs → Prop} (h : e_Pi_drawBlock_85 U u x1 x2 x3 x4 x6 S K) {Q : Prop} (k_K : ∀ (a0 : cs), K a0 → (∀ (K' : cs → Prop), e_Pi_drawBlock_85 U u x1 x2 x3 x4 x6 S K' ↔ K' a0) → Q) : Q := by
  obtain ⟨o, ho, hoc, hi⟩ := lp_det (C := (cs → Prop)) (b := (fun (y : (Nat) × (Int32) × (Int32) × (Int32) × (Int32) × (cs)) (R : ((Nat) × (Int32) × (Int32) × (Int32) × (Int32) × (cs)) → Prop) (c : (cs → Prop)) => b_Pi_drawBlock_85 U u y.1 y.2.1 y.2.2.1 y.2.2.2.1 y.2.2.2.2.1 y.2.2.2.2.2 (fun z0 z1 z2 z3 z4 z5 => R (z0, z1, z2, z3, z4, z5)) c)) (O := (fun (o : ((cs → Prop)) → Prop) => (∃ (a0 : cs), o = fun c => c a0))) (fun y R c hy => d_b_Pi_drawBlock_85 hy (fun a0 a1 a2 a3 a4 a5 ha ia => Or.inl ⟨(a0, a1, a2, a3, a4, a5), ha, fun R' c' => ia (fun z0 z1 z2 z3 z4 z5 => R' (z0, z1, z2, z3, z4, z5)) c'⟩) (fun a0 ha ia => Or.inr ⟨(fun c => c a0), ⟨a0, rfl⟩, ha, fun R' c' => ia (fun z0 z1 z2 z3 z4 z5 => R' (z0, z1, z2, z3, z4, z5)) c'⟩)) (l_e_Pi_drawBlock_85.mp h)
  rcases ho with ⟨a0, rfl⟩
  · exact k_K _ hoc (fun K' => Iff.trans l_e_Pi_drawBlock_85 (hi K'))
theorem v_e_Pi_drawBlock_85 {U : ut} {u : Nat} {x1 : Nat} {x2 : Int32} {x3 : Int32} {x4 : Int32} {x6 : Int32} {S : cs} {K : cs → Prop} (h : e_Pi_drawBlock_85 U u x1 x2 x3 x4 x6 S K) {G : Prop} (Inv : Int32 → cs → Prop) (h0 : Inv x6 S) (hs : ∀ (yx6 : Int32) (yS : cs) (R : Nat → Int32 → Int32 → Int32 → Int32 → cs → Prop), Inv yx6 yS → b_Pi_drawBlock_85 U u x1 x2 x3 x4 yx6 yS R K → (∃ (zx6 : Int32) (zS : cs), R x1 x2 x3 x4 zx6 zS ∧ Inv zx6 zS) ∨ G) : G := by
  obtain ⟨I, μ, i0, is⟩ := h
  have go : ∀ (n : Nat) (yx6 : Int32) (yS : cs), μ x1 x2 x3 x4 yx6 yS < n → I x1 x2 x3 x4 yx6 yS → Inv yx6 yS → G := by
    intro n
    induction n with
    | zero => intro yx6 yS hy; exact absurd hy (Nat.not_lt_zero _)
    | succ n ih =>
      intro yx6 yS hy hI hV
      rcases hs yx6 yS _ hV (is x1 x2 x3 x4 yx6 yS hI) with ⟨zx6, zS, ⟨hz, hm⟩, hv⟩ | g
      · exact ih zx6 zS (Nat.lt_of_lt_of_le hm (Nat.le_of_lt_succ hy)) hz hv
      · exact g
  exact go _ x6 S (Nat.lt_succ_self _) i0 h0
theorem r_e_Pi_drawBlock_85 {U : ut} {u : Nat} {x1 : Nat} {x2 : Int32} {x3 : Int32} {x4 : Int32} {x6 : Int32} {S : cs} {K : cs → Prop} (h : e_Pi_drawBlock_85 U u x1 x2 x3 x4 x6 S K) : b_Pi_drawBlock_85 U u x1 x2 x3 x4 x6 S (fun zx1 zx2 zx3 zx4 zx6 zS => e_Pi_drawBlock_85 U u zx1 zx2 zx3 zx4 zx6 zS K) K := by
  obtain ⟨I, μ, i0, is⟩ := h
  exact d_b_Pi_drawBlock_85 (is x1 x2 x3 x4 x6 S i0) (fun a0 a1 a2 a3 a4 a5 ha ia => (ia _ _).mpr ⟨I, μ, ha.1, is⟩) (fun a0 ha ia => (ia _ _).mpr ha)
set_option maxHeartbeats 1000000 in
theorem d_b_Pi_drawBlock_31 {U : ut} {u : Nat} {x1 : Nat} {x2 : Int32} {x3 : Int32} {x4 : Int32} {x5 : Int32} {x6 : Int32} {S : cs} {R31 : Nat → Int32 → Int32 → Int32 → Int32 → Int32 → cs → Prop} {K : cs → Prop} (h : b_Pi_drawBlock_31 U u x1 x2 x3 x4 x5 x6 S R31 K) {Q : Prop} (k_R31 : ∀ (a0 : Nat) (a1 : Int32) (a2 : Int32) (a3 : Int32) (a4 : Int32) (a5 : Int32) (a6 : cs), R31 a0 a1 a2 a3 a4 a5 a6 → (∀ (R31' : Nat → Int32 → Int32 → Int32 → Int32 → Int32 → cs → Prop) (K' : cs → Prop), b_Pi_drawBlock_31 U u x1 x2 x3 x4 x5 x6 S R31' K' ↔ R31' a0 a1 a2 a3 a4 a5 a6) → Q) (k_K : ∀ (a0 : cs), K a0 → (∀ (R31' : Nat → Int32 → Int32 → Int32 → Int32 → Int32 → cs → Prop) (K' : cs → Prop), b_Pi_drawBlock_31 U u x1 x2 x3 x4 x5 x6 S R31' K' ↔ K' a0) → Q) : Q := by
  unfold b_Pi_drawBlock_31 at h
  refine dt_p h (fun c_1 h_2 => ?_) (fun c_1 h_2 => ?_)
  ·
    refine d_p_Wa_makeSamples (And.right h_2) (fun S79 h_4 i_3 => ?_)
    exact d_e_Pi_drawBlock_85 h_4 (fun a0 h_6 i_5 => k_K a0 h_6 (fun _ _ => Iff.trans (dt_1 c_1 (fun n => n c_1)) (Iff.trans (dt_a (And.left h_2)) (Iff.trans (i_3 _) (i_5 _)))))
  ·
    exact k_R31 _ _ _ _ _ _ _ (And.right (And.right (And.right (And.right (And.right (And.right (And.right (And.right (And.right (And.right (And.right h_2))))))))))) (fun _ _ => Iff.trans (dt_2 c_1 c_1) (Iff.trans (dt_a (And.left h_2)) (Iff.trans (dt_a (And.left (And.right h_2))) (Iff.trans (dt_a (And.left (And.right (And.right h_2)))) (Iff.trans (dt_a (And.left (And.right (And.right (And.right h_2))))) (Iff.trans (dt_a (And.left (And.right (And.right (And.right (And.right h_2)))))) (Iff.trans (dt_a (And.left (And.right (And.right (And.right (And.right (And.right h_2))))))) (Iff.trans (dt_a (And.left (And.right (And.right (And.right (And.right (And.right (And.right h_2)))))))) (Iff.trans (dt_a (And.left (And.right (And.right (And.right (And.right (And.right (And.right (And.right h_2))))))))) (Iff.trans (dt_a (And.left (And.right (And.right (And.right (And.right (And.right (And.right (And.right (And.right h_2)))))))))) (Iff.trans (dt_a (And.left (And.right (And.right (And.right (And.right (And.right (And.right (And.right (And.right (And.right h_2))))))))))) (dt_a (And.left (And.right (And.right (And.right (And.right (And.right (And.right (And.right (And.right (And.right (And.right h_2)))))))))))))))))))))))
theorem l_e_Pi_drawBlock_31 {U : ut} {u : Nat} {x1 : Nat} {x2 : Int32} {x3 : Int32} {x4 : Int32} {x5 : Int32} {x6 : Int32} {S : cs} {K : cs → Prop} : e_Pi_drawBlock_31 U u x1 x2 x3 x4 x5 x6 S K ↔ lpE (C := (cs → Prop)) (fun (y : (Nat) × (Int32) × (Int32) × (Int32) × (Int32) × (Int32) × (cs)) (R : ((Nat) × (Int32) × (Int32) × (Int32) × (Int32) × (Int32) × (cs)) → Prop) (c : (cs → Prop)) => b_Pi_drawBlock_31 U u y.1 y.2.1 y.2.2.1 y.2.2.2.1 y.2.2.2.2.1 y.2.2.2.2.2.1 y.2.2.2.2.2.2 (fun z0 z1 z2 z3 z4 z5 z6 => R (z0, z1, z2, z3, z4, z5, z6)) c) (x1, x2, x3, x4, x5, x6, S) K :=
  ⟨fun ⟨I, μ, h0, hs⟩ => ⟨fun t => I t.1 t.2.1 t.2.2.1 t.2.2.2.1 t.2.2.2.2.1 t.2.2.2.2.2.1 t.2.2.2.2.2.2, fun t => μ t.1 t.2.1 t.2.2.1 t.2.2.2.1 t.2.2.2.2.1 t.2.2.2.2.2.1 t.2.2.2.2.2.2, h0, fun t ht => hs _ _ _ _ _ _ _ ht⟩, fun ⟨I, μ, h0, hs⟩ => ⟨fun y0 y1 y2 y3 y4 y5 y6 => I (y0, y1, y2, y3, y4, y5, y6), fun y0 y1 y2 y3 y4 y5 y6 => μ (y0, y1, y2, y3, y4, y5, y6), h0, fun y0 y1 y2 y3 y4 y5 y6 hy => hs (y0, y1, y2, y3, y4, y5, y6) hy⟩⟩
set_option maxHeartbeats 1000000 in
theorem d_e_Pi_drawBlock_31 {U : ut} {u : Nat} {x1 : Nat} {x2 : Int32} {x3 : Int32} {x4 : Int32} {x5 : Int32} {x6 : Int32} {S : cs} {K : cs → Prop} (h : e_Pi_drawBlock_31 U u x1 x2 x3 x4 x5 x6 S K) {Q : Prop} (k_K : ∀ (a0 : cs), K a0 → (∀ (K' : cs → Prop), e_Pi_drawBlock_31 U u x1 x2 x3 x4 x5 x6 S K' ↔ K' a0) → Q) : Q := by
  obtain ⟨o, ho, hoc, hi⟩ := lp_det (C := (cs → Prop)) (b := (fun (y : (Nat) × (Int32) × (Int32) × (Int32) × (Int32) × (Int32) × (cs)) (R : ((Nat) × (Int32) × (Int32) × (Int32) × (Int32) × (Int32) × (cs)) → Prop) (c : (cs → Prop)) => b_Pi_drawBlock_31 U u y.1 y.2.1 y.2.2.1 y.2.2.2.1 y.2.2.2.2.1 y.2.2.2.2.2.1 y.2.2.2.2.2.2 (fun z0 z1 z2 z3 z4 z5 z6 => R (z0, z1, z2, z3, z4, z5, z6)) c)) (O := (fun (o : ((cs → Prop)) → Prop) => (∃ (a0 : cs), o = fun c => c a0))) (fun y R c hy => d_b_Pi_drawBlock_31 hy (fun a0 a1 a2 a3 a4 a5 a6 ha ia => Or.inl ⟨(a0, a1, a2, a3, a4, a5, a6), ha, fun R' c' => ia (fun z0 z1 z2 z3 z4 z5 z6 => R' (z0, z1, z2, z3, z4, z5, z6)) c'⟩) (fun a0 ha ia => Or.inr ⟨(fun c => c a0), ⟨a0, rfl⟩, ha, fun R' c' => ia (fun z0 z1 z2 z3 z4 z5 z6 => R' (z0, z1, z2, z3, z4, z5, z6)) c'⟩)) (l_e_Pi_drawBlock_31.mp h)
  rcases ho with ⟨a0, rfl⟩
  · exact k_K _ hoc (fun K' => Iff.trans l_e_Pi_drawBlock_31 (hi K'))
theorem v_e_Pi_drawBlock_31 {U : ut} {u : Nat} {x1 : Nat} {x2 : Int32} {x3 : Int32} {x4 : Int32} {x5 : Int32} {x6 : Int32} {S : cs} {K : cs → Prop} (h : e_Pi_drawBlock_31 U u x1 x2 x3 x4 x5 x6 S K) {G : Prop} (Inv : Int32 → cs → Prop) (h0 : Inv x6 S) (hs : ∀ (yx6 : Int32) (yS : cs) (R : Nat → Int32 → Int32 → Int32 → Int32 → Int32 → cs → Prop), Inv yx6 yS → b_Pi_drawBlock_31 U u x1 x2 x3 x4 x5 yx6 yS R K → (∃ (zx6 : Int32) (zS : cs), R x1 x2 x3 x4 x5 zx6 zS ∧ Inv zx6 zS) ∨ G) : G := by
  obtain ⟨I, μ, i0, is⟩ := h
  have go : ∀ (n : Nat) (yx6 : Int32) (yS : cs), μ x1 x2 x3 x4 x5 yx6 yS < n → I x1 x2 x3 x4 x5 yx6 yS → Inv yx6 yS → G := by
    intro n
    induction n with
    | zero => intro yx6 yS hy; exact absurd hy (Nat.not_lt_zero _)
    | succ n ih =>
      intro yx6 yS hy hI hV
      rcases hs yx6 yS _ hV (is x1 x2 x3 x4 x5 yx6 yS hI) with ⟨zx6, zS, ⟨hz, hm⟩, hv⟩ | g
      · exact ih zx6 zS (Nat.lt_of_lt_of_le hm (Nat.le_of_lt_succ hy)) hz hv
      · exact g
  exact go _ x6 S (Nat.lt_succ_self _) i0 h0
theorem r_e_Pi_drawBlock_31 {U : ut} {u : Nat} {x1 : Nat} {x2 : Int32} {x3 : Int32} {x4 : Int32} {x5 : Int32} {x6 : Int32} {S : cs} {K : cs → Prop} (h : e_Pi_drawBlock_31 U u x1 x2 x3 x4 x5 x6 S K) : b_Pi_drawBlock_31 U u x1 x2 x3 x4 x5 x6 S (fun zx1 zx2 zx3 zx4 zx5 zx6 zS => e_Pi_drawBlock_31 U u zx1 zx2 zx3 zx4 zx5 zx6 zS K) K := by
  obtain ⟨I, μ, i0, is⟩ := h
  exact d_b_Pi_drawBlock_31 (is x1 x2 x3 x4 x5 x6 S i0) (fun a0 a1 a2 a3 a4 a5 a6 ha ia => (ia _ _).mpr ⟨I, μ, ha.1, is⟩) (fun a0 ha ia => (ia _ _).mpr ha)
