set_option maxHeartbeats 1000000 in
theorem d_b_readTables_144 {S : ms} {K : ms → Prop} (h : b_readTables_144 S K) {Q : Prop} (k_K : ∀ (a0 : ms), K a0 → (∀ (K' : ms → Prop), b_readTables_144 S K' ↔ K' a0) → Q) : Q := by
  unfold b_readTables_144 at h
  exact k_K _ h (fun _ => Iff.rfl)
set_option maxHeartbeats 1000000 in
theorem d_b_readTables_140 {s0 : Int32} {S : ms} {R2 : Int32 → ms → Prop} {K : ms → Prop} (h : b_readTables_140 s0 S R2 K) {Q : Prop} (k_R2 : ∀ (a0 : Int32) (a1 : ms), R2 a0 a1 → (∀ (R2' : Int32 → ms → Prop) (K' : ms → Prop), b_readTables_140 s0 S R2' K' ↔ R2' a0 a1) → Q) (k_K : ∀ (a0 : ms), K a0 → (∀ (R2' : Int32 → ms → Prop) (K' : ms → Prop), b_readTables_140 s0 S R2' K' ↔ K' a0) → Q) : Q := by
  unfold b_readTables_140 at h
  exact k_R2 _ _ h (fun _ _ => Iff.rfl)
set_option maxHeartbeats 1000000 in
theorem d_b_readTables_124 {S : ms} {R2 : Int32 → ms → Prop} {K : ms → Prop} (h : b_readTables_124 S R2 K) {Q : Prop} (k_R2 : ∀ (a0 : Int32) (a1 : ms), R2 a0 a1 → (∀ (R2' : Int32 → ms → Prop) (K' : ms → Prop), b_readTables_124 S R2' K' ↔ R2' a0 a1) → Q) (k_K : ∀ (a0 : ms), K a0 → (∀ (R2' : Int32 → ms → Prop) (K' : ms → Prop), b_readTables_124 S R2' K' ↔ K' a0) → Q) : Q := by
  unfold b_readTables_124 at h
  refine dt_p h (fun c_1 h_2 => ?_) (fun c_1 h_2 => ?_)
  ·
    exact d_b_readTables_140 h_2 (fun a0 a1 h_4 i_3 => k_R2 a0 a1 h_4 (fun _ _ => Iff.trans (dt_1 c_1 (fun n => n c_1)) (i_3 _ _))) (fun a0 h_6 i_5 => k_K a0 h_6 (fun _ _ => Iff.trans (dt_1 c_1 (fun n => n c_1)) (i_5 _ _)))
  ·
    exact d_b_readTables_140 h_2 (fun a0 a1 h_8 i_7 => k_R2 a0 a1 h_8 (fun _ _ => Iff.trans (dt_2 c_1 c_1) (i_7 _ _))) (fun a0 h_10 i_9 => k_K a0 h_10 (fun _ _ => Iff.trans (dt_2 c_1 c_1) (i_9 _ _)))
set_option maxHeartbeats 1000000 in
theorem d_b_readTables_110 {x2 : Int32} {S : ms} {R2 : Int32 → ms → Prop} {K : ms → Prop} (h : b_readTables_110 x2 S R2 K) {Q : Prop} (k_R2 : ∀ (a0 : Int32) (a1 : ms), R2 a0 a1 → (∀ (R2' : Int32 → ms → Prop) (K' : ms → Prop), b_readTables_110 x2 S R2' K' ↔ R2' a0 a1) → Q) (k_K : ∀ (a0 : ms), K a0 → (∀ (R2' : Int32 → ms → Prop) (K' : ms → Prop), b_readTables_110 x2 S R2' K' ↔ K' a0) → Q) : Q := by
  unfold b_readTables_110 at h
  refine dt_n h (fun c_1 h_2 => ?_) (fun c_1 h_2 => ?_)
  ·
    exact d_b_readTables_124 h_2 (fun a0 a1 h_4 i_3 => k_R2 a0 a1 h_4 (fun _ _ => Iff.trans (dt_1 c_1 c_1) (i_3 _ _))) (fun a0 h_6 i_5 => k_K a0 h_6 (fun _ _ => Iff.trans (dt_1 c_1 c_1) (i_5 _ _)))
  ·
    exact d_b_readTables_124 (And.right h_2) (fun a0 a1 h_8 i_7 => k_R2 a0 a1 h_8 (fun _ _ => Iff.trans (dt_2 (fun n => n c_1) c_1) (Iff.trans (dt_a (And.left h_2)) (i_7 _ _)))) (fun a0 h_10 i_9 => k_K a0 h_10 (fun _ _ => Iff.trans (dt_2 (fun n => n c_1) c_1) (Iff.trans (dt_a (And.left h_2)) (i_9 _ _))))
set_option maxHeartbeats 1000000 in
theorem d_b_readTables_104 {x2 : Int32} {x3 : Int32} {S : ms} {R2 : Int32 → ms → Prop} {R40 : Int32 → Int32 → ms → Prop} {K : ms → Prop} (h : b_readTables_104 x2 x3 S R2 R40 K) {Q : Prop} (k_R2 : ∀ (a0 : Int32) (a1 : ms), R2 a0 a1 → (∀ (R2' : Int32 → ms → Prop) (R40' : Int32 → Int32 → ms → Prop) (K' : ms → Prop), b_readTables_104 x2 x3 S R2' R40' K' ↔ R2' a0 a1) → Q) (k_R40 : ∀ (a0 : Int32) (a1 : Int32) (a2 : ms), R40 a0 a1 a2 → (∀ (R2' : Int32 → ms → Prop) (R40' : Int32 → Int32 → ms → Prop) (K' : ms → Prop), b_readTables_104 x2 x3 S R2' R40' K' ↔ R40' a0 a1 a2) → Q) (k_K : ∀ (a0 : ms), K a0 → (∀ (R2' : Int32 → ms → Prop) (R40' : Int32 → Int32 → ms → Prop) (K' : ms → Prop), b_readTables_104 x2 x3 S R2' R40' K' ↔ K' a0) → Q) : Q := by
  unfold b_readTables_104 at h
  exact k_R40 _ _ _ h (fun _ _ _ => Iff.rfl)
set_option maxHeartbeats 1000000 in
theorem d_b_readTables_70 {x2 : Int32} {x3 : Int32} {x4 : Int32} {s1 : Int32} {S : ms} {R2 : Int32 → ms → Prop} {R40 : Int32 → Int32 → ms → Prop} {K : ms → Prop} (h : b_readTables_70 x2 x3 x4 s1 S R2 R40 K) {Q : Prop} (k_R2 : ∀ (a0 : Int32) (a1 : ms), R2 a0 a1 → (∀ (R2' : Int32 → ms → Prop) (R40' : Int32 → Int32 → ms → Prop) (K' : ms → Prop), b_readTables_70 x2 x3 x4 s1 S R2' R40' K' ↔ R2' a0 a1) → Q) (k_R40 : ∀ (a0 : Int32) (a1 : Int32) (a2 : ms), R40 a0 a1 a2 → (∀ (R2' : Int32 → ms → Prop) (R40' : Int32 → Int32 → ms → Prop) (K' : ms → Prop), b_readTables_70 x2 x3 x4 s1 S R2' R40' K' ↔ R40' a0 a1 a2) → Q) (k_K : ∀ (a0 : ms), K a0 → (∀ (R2' : Int32 → ms → Prop) (R40' : Int32 → Int32 → ms → Prop) (K' : ms → Prop), b_readTables_70 x2 x3 x4 s1 S R2' R40' K' ↔ K' a0) → Q) : Q := by
  unfold b_readTables_70 at h
  refine d_p_must h (fun S76 h_2 i_1 => ?_)
  refine dt_n h_2 (fun c_3 h_4 => ?_) (fun c_3 h_4 => ?_)
  ·
    exact d_b_readTables_104 h_4 (fun a0 a1 h_6 i_5 => k_R2 a0 a1 h_6 (fun _ _ _ => Iff.trans (i_1 _) (Iff.trans (dt_1 c_3 c_3) (i_5 _ _ _)))) (fun a0 a1 a2 h_8 i_7 => k_R40 a0 a1 a2 h_8 (fun _ _ _ => Iff.trans (i_1 _) (Iff.trans (dt_1 c_3 c_3) (i_7 _ _ _)))) (fun a0 h_10 i_9 => k_K a0 h_10 (fun _ _ _ => Iff.trans (i_1 _) (Iff.trans (dt_1 c_3 c_3) (i_9 _ _ _))))
  ·
    exact d_b_readTables_104 (And.right (And.right h_4)) (fun a0 a1 h_12 i_11 => k_R2 a0 a1 h_12 (fun _ _ _ => Iff.trans (i_1 _) (Iff.trans (dt_2 (fun n => n c_3) c_3) (Iff.trans (dt_a (And.left h_4)) (Iff.trans (dt_a (And.left (And.right h_4))) (i_11 _ _ _)))))) (fun a0 a1 a2 h_14 i_13 => k_R40 a0 a1 a2 h_14 (fun _ _ _ => Iff.trans (i_1 _) (Iff.trans (dt_2 (fun n => n c_3) c_3) (Iff.trans (dt_a (And.left h_4)) (Iff.trans (dt_a (And.left (And.right h_4))) (i_13 _ _ _)))))) (fun a0 h_16 i_15 => k_K a0 h_16 (fun _ _ _ => Iff.trans (i_1 _) (Iff.trans (dt_2 (fun n => n c_3) c_3) (Iff.trans (dt_a (And.left h_4)) (Iff.trans (dt_a (And.left (And.right h_4))) (i_15 _ _ _))))))
set_option maxHeartbeats 1000000 in
theorem d_b_readTables_40 {x2 : Int32} {x3 : Int32} {S : ms} {R2 : Int32 → ms → Prop} {R40 : Int32 → Int32 → ms → Prop} {K : ms → Prop} (h : b_readTables_40 x2 x3 S R2 R40 K) {Q : Prop} (k_R2 : ∀ (a0 : Int32) (a1 : ms), R2 a0 a1 → (∀ (R2' : Int32 → ms → Prop) (R40' : Int32 → Int32 → ms → Prop) (K' : ms → Prop), b_readTables_40 x2 x3 S R2' R40' K' ↔ R2' a0 a1) → Q) (k_R40 : ∀ (a0 : Int32) (a1 : Int32) (a2 : ms), R40 a0 a1 a2 → (∀ (R2' : Int32 → ms → Prop) (R40' : Int32 → Int32 → ms → Prop) (K' : ms → Prop), b_readTables_40 x2 x3 S R2' R40' K' ↔ R40' a0 a1 a2) → Q) (k_K : ∀ (a0 : ms), K a0 → (∀ (R2' : Int32 → ms → Prop) (R40' : Int32 → Int32 → ms → Prop) (K' : ms → Prop), b_readTables_40 x2 x3 S R2' R40' K' ↔ K' a0) → Q) : Q := by
  unfold b_readTables_40 at h
  refine dt_p h (fun c_1 h_2 => ?_) (fun c_1 h_2 => ?_)
  ·
    exact d_b_readTables_110 h_2 (fun a0 a1 h_4 i_3 => k_R2 a0 a1 h_4 (fun _ _ _ => Iff.trans (dt_1 c_1 (fun n => n c_1)) (i_3 _ _))) (fun a0 h_6 i_5 => k_K a0 h_6 (fun _ _ _ => Iff.trans (dt_1 c_1 (fun n => n c_1)) (i_5 _ _)))
  ·
    refine dt_n h_2 (fun c_7 h_8 => ?_) (fun c_7 h_8 => ?_)
    ·
      exact d_b_readTables_110 h_8 (fun a0 a1 h_10 i_9 => k_R2 a0 a1 h_10 (fun _ _ _ => Iff.trans (dt_2 c_1 c_1) (Iff.trans (dt_1 c_7 c_7) (i_9 _ _)))) (fun a0 h_12 i_11 => k_K a0 h_12 (fun _ _ _ => Iff.trans (dt_2 c_1 c_1) (Iff.trans (dt_1 c_7 c_7) (i_11 _ _))))
    ·
      refine d_p_nextWithin h_8 (fun v54 S54 h_14 i_13 => ?_)
      refine dt_p h_14 (fun c_15 h_16 => ?_) (fun c_15 h_16 => ?_)
      ·
        exact d_b_readTables_70 h_16 (fun a0 a1 h_18 i_17 => k_R2 a0 a1 h_18 (fun _ _ _ => Iff.trans (dt_2 c_1 c_1) (Iff.trans (dt_2 (fun n => n c_7) c_7) (Iff.trans (i_13 _) (Iff.trans (dt_1 c_15 (fun n => n c_15)) (i_17 _ _ _)))))) (fun a0 a1 a2 h_20 i_19 => k_R40 a0 a1 a2 h_20 (fun _ _ _ => Iff.trans (dt_2 c_1 c_1) (Iff.trans (dt_2 (fun n => n c_7) c_7) (Iff.trans (i_13 _) (Iff.trans (dt_1 c_15 (fun n => n c_15)) (i_19 _ _ _)))))) (fun a0 h_22 i_21 => k_K a0 h_22 (fun _ _ _ => Iff.trans (dt_2 c_1 c_1) (Iff.trans (dt_2 (fun n => n c_7) c_7) (Iff.trans (i_13 _) (Iff.trans (dt_1 c_15 (fun n => n c_15)) (i_21 _ _ _))))))
      ·
        exact d_b_readTables_70 h_16 (fun a0 a1 h_24 i_23 => k_R2 a0 a1 h_24 (fun _ _ _ => Iff.trans (dt_2 c_1 c_1) (Iff.trans (dt_2 (fun n => n c_7) c_7) (Iff.trans (i_13 _) (Iff.trans (dt_2 c_15 c_15) (i_23 _ _ _)))))) (fun a0 a1 a2 h_26 i_25 => k_R40 a0 a1 a2 h_26 (fun _ _ _ => Iff.trans (dt_2 c_1 c_1) (Iff.trans (dt_2 (fun n => n c_7) c_7) (Iff.trans (i_13 _) (Iff.trans (dt_2 c_15 c_15) (i_25 _ _ _)))))) (fun a0 h_28 i_27 => k_K a0 h_28 (fun _ _ _ => Iff.trans (dt_2 c_1 c_1) (Iff.trans (dt_2 (fun n => n c_7) c_7) (Iff.trans (i_13 _) (Iff.trans (dt_2 c_15 c_15) (i_27 _ _ _))))))
theorem l_e_readTables_40  {x2 : Int32} {x3 : Int32} {S : ms} {R2 : Int32 → ms → Prop} {K : ms → Prop} : e_readTables_40 x2 x3 S R2 K ↔ lpE (C := (Int32 → ms → Prop) × (ms → Prop)) (fun (y : (Int32) × (Int32) × (ms)) (R : ((Int32) × (Int32) × (ms)) → Prop) (c : (Int32 → ms → Prop) × (ms → Prop)) => b_readTables_40 y.1 y.2.1 y.2.2 c.1 (fun z0 z1 z2 => R (z0, z1, z2)) c.2) (x2, x3, S) (R2, K) :=
  ⟨fun ⟨I, μ, h0, hs⟩ => ⟨fun t => I t.1 t.2.1 t.2.2, fun t => μ t.1 t.2.1 t.2.2, h0, fun t ht => hs _ _ _ ht⟩, fun ⟨I, μ, h0, hs⟩ => ⟨fun y0 y1 y2 => I (y0, y1, y2), fun y0 y1 y2 => μ (y0, y1, y2), h0, fun y0 y1 y2 hy => hs (y0, y1, y2) hy⟩⟩
set_option maxHeartbeats 1000000 in
theorem d_e_readTables_40 {x2 : Int32} {x3 : Int32} {S : ms} {R2 : Int32 → ms → Prop} {K : ms → Prop} (h : e_readTables_40 x2 x3 S R2 K) {Q : Prop} (k_R2 : ∀ (a0 : Int32) (a1 : ms), R2 a0 a1 → (∀ (R2' : Int32 → ms → Prop) (K' : ms → Prop), e_readTables_40 x2 x3 S R2' K' ↔ R2' a0 a1) → Q) (k_K : ∀ (a0 : ms), K a0 → (∀ (R2' : Int32 → ms → Prop) (K' : ms → Prop), e_readTables_40 x2 x3 S R2' K' ↔ K' a0) → Q) : Q := by
  obtain ⟨o, ho, hoc, hi⟩ := lp_det (C := (Int32 → ms → Prop) × (ms → Prop)) (b := (fun (y : (Int32) × (Int32) × (ms)) (R : ((Int32) × (Int32) × (ms)) → Prop) (c : (Int32 → ms → Prop) × (ms → Prop)) => b_readTables_40 y.1 y.2.1 y.2.2 c.1 (fun z0 z1 z2 => R (z0, z1, z2)) c.2)) (O := (fun (o : ((Int32 → ms → Prop) × (ms → Prop)) → Prop) => (∃ (a0 : Int32) (a1 : ms), o = fun c => c.1 a0 a1) ∨ (∃ (a0 : ms), o = fun c => c.2 a0))) (fun y R c hy => d_b_readTables_40 hy (fun a0 a1 ha ia => Or.inr ⟨(fun c => c.1 a0 a1), Or.inl ⟨a0, a1, rfl⟩, ha, fun R' c' => ia c'.1 (fun z0 z1 z2 => R' (z0, z1, z2)) c'.2⟩) (fun a0 a1 a2 ha ia => Or.inl ⟨(a0, a1, a2), ha, fun R' c' => ia c'.1 (fun z0 z1 z2 => R' (z0, z1, z2)) c'.2⟩) (fun a0 ha ia => Or.inr ⟨(fun c => c.2 a0), Or.inr (⟨a0, rfl⟩), ha, fun R' c' => ia c'.1 (fun z0 z1 z2 => R' (z0, z1, z2)) c'.2⟩)) (l_e_readTables_40.mp h)
  rcases ho with ⟨a0, a1, rfl⟩ | ⟨a0, rfl⟩
  · exact k_R2 _ _ hoc (fun R2' K' => Iff.trans l_e_readTables_40 (hi (R2', K')))
  · exact k_K _ hoc (fun R2' K' => Iff.trans l_e_readTables_40 (hi (R2', K')))
theorem v_e_readTables_40 {x2 : Int32} {x3 : Int32} {S : ms} {R2 : Int32 → ms → Prop} {K : ms → Prop} (h : e_readTables_40 x2 x3 S R2 K) {G : Prop} (Inv : Int32 → ms → Prop) (h0 : Inv x3 S) (hs : ∀ (yx3 : Int32) (yS : ms) (R : Int32 → Int32 → ms → Prop), Inv yx3 yS → b_readTables_40 x2 yx3 yS R2 R K → (∃ (zx3 : Int32) (zS : ms), R x2 zx3 zS ∧ Inv zx3 zS) ∨ G) : G := by
  obtain ⟨I, μ, i0, is⟩ := h
  have go : ∀ (n : Nat) (yx3 : Int32) (yS : ms), μ x2 yx3 yS < n → I x2 yx3 yS → Inv yx3 yS → G := by
    intro n
    induction n with
    | zero => intro yx3 yS hy; exact absurd hy (Nat.not_lt_zero _)
    | succ n ih =>
      intro yx3 yS hy hI hV
      rcases hs yx3 yS _ hV (is x2 yx3 yS hI) with ⟨zx3, zS, ⟨hz, hm⟩, hv⟩ | g
      · exact ih zx3 zS (Nat.lt_of_lt_of_le hm (Nat.le_of_lt_succ hy)) hz hv
      · exact g
  exact go _ x3 S (Nat.lt_succ_self _) i0 h0
theorem r_e_readTables_40 {x2 : Int32} {x3 : Int32} {S : ms} {R2 : Int32 → ms → Prop} {K : ms → Prop} (h : e_readTables_40 x2 x3 S R2 K) : b_readTables_40 x2 x3 S R2 (fun zx2 zx3 zS => e_readTables_40 zx2 zx3 zS R2 K) K := by
  obtain ⟨I, μ, i0, is⟩ := h
  exact d_b_readTables_40 (is x2 x3 S i0) (fun a0 a1 ha ia => (ia _ _ _).mpr ha) (fun a0 a1 a2 ha ia => (ia _ _ _).mpr ⟨I, μ, ha.1, is⟩) (fun a0 ha ia => (ia _ _ _).mpr ha)
set_option maxHeartbeats 1000000 in
theorem d_b_readTables_29 {x2 : Int32} {s1 : Int32} {S : ms} {R2 : Int32 → ms → Prop} {K : ms → Prop} (h : b_readTables_29 x2 s1 S R2 K) {Q : Prop} (k_R2 : ∀ (a0 : Int32) (a1 : ms), R2 a0 a1 → (∀ (R2' : Int32 → ms → Prop) (K' : ms → Prop), b_readTables_29 x2 s1 S R2' K' ↔ R2' a0 a1) → Q) (k_K : ∀ (a0 : ms), K a0 → (∀ (R2' : Int32 → ms → Prop) (K' : ms → Prop), b_readTables_29 x2 s1 S R2' K' ↔ K' a0) → Q) : Q := by
  unfold b_readTables_29 at h
  refine d_p_must h (fun S35 h_2 i_1 => ?_)
  exact d_e_readTables_40 h_2 (fun a0 a1 h_4 i_3 => k_R2 a0 a1 h_4 (fun _ _ => Iff.trans (i_1 _) (i_3 _ _))) (fun a0 h_6 i_5 => k_K a0 h_6 (fun _ _ => Iff.trans (i_1 _) (i_5 _ _)))
set_option maxHeartbeats 1000000 in
theorem d_b_readTables_2 {x1 : Int32} {S : ms} {R2 : Int32 → ms → Prop} {K : ms → Prop} (h : b_readTables_2 x1 S R2 K) {Q : Prop} (k_R2 : ∀ (a0 : Int32) (a1 : ms), R2 a0 a1 → (∀ (R2' : Int32 → ms → Prop) (K' : ms → Prop), b_readTables_2 x1 S R2' K' ↔ R2' a0 a1) → Q) (k_K : ∀ (a0 : ms), K a0 → (∀ (R2' : Int32 → ms → Prop) (K' : ms → Prop), b_readTables_2 x1 S R2' K' ↔ K' a0) → Q) : Q := by
  unfold b_readTables_2 at h
  refine dt_p h (fun c_1 h_2 => ?_) (fun c_1 h_2 => ?_)
  ·
    exact d_b_readTables_144 h_2 (fun a0 h_4 i_3 => k_K a0 h_4 (fun _ _ => Iff.trans (dt_1 c_1 (fun n => n c_1)) (i_3 _)))
  ·
    refine dt_n h_2 (fun c_5 h_6 => ?_) (fun c_5 h_6 => ?_)
    ·
      exact d_b_readTables_144 h_6 (fun a0 h_8 i_7 => k_K a0 h_8 (fun _ _ => Iff.trans (dt_2 c_1 c_1) (Iff.trans (dt_1 c_5 c_5) (i_7 _))))
    ·
      refine d_p_nextWithin h_6 (fun v14 S14 h_10 i_9 => ?_)
      refine dt_p h_10 (fun c_11 h_12 => ?_) (fun c_11 h_12 => ?_)
      ·
        exact d_b_readTables_29 h_12 (fun a0 a1 h_14 i_13 => k_R2 a0 a1 h_14 (fun _ _ => Iff.trans (dt_2 c_1 c_1) (Iff.trans (dt_2 (fun n => n c_5) c_5) (Iff.trans (i_9 _) (Iff.trans (dt_1 c_11 (fun n => n c_11)) (i_13 _ _)))))) (fun a0 h_16 i_15 => k_K a0 h_16 (fun _ _ => Iff.trans (dt_2 c_1 c_1) (Iff.trans (dt_2 (fun n => n c_5) c_5) (Iff.trans (i_9 _) (Iff.trans (dt_1 c_11 (fun n => n c_11)) (i_15 _ _))))))
      ·
        exact d_b_readTables_29 h_12 (fun a0 a1 h_18 i_17 => k_R2 a0 a1 h_18 (fun _ _ => Iff.trans (dt_2 c_1 c_1) (Iff.trans (dt_2 (fun n => n c_5) c_5) (Iff.trans (i_9 _) (Iff.trans (dt_2 c_11 c_11) (i_17 _ _)))))) (fun a0 h_20 i_19 => k_K a0 h_20 (fun _ _ => Iff.trans (dt_2 c_1 c_1) (Iff.trans (dt_2 (fun n => n c_5) c_5) (Iff.trans (i_9 _) (Iff.trans (dt_2 c_11 c_11) (i_19 _ _))))))
theorem l_e_readTables_2  {x1 : Int32} {S : ms} {K : ms → Prop} : e_readTables_2 x1 S K ↔ lpE (C := (ms → Prop)) (fun (y : (Int32) × (ms)) (R : ((Int32) × (ms)) → Prop) (c : (ms → Prop)) => b_readTables_2 y.1 y.2 (fun z0 z1 => R (z0, z1)) c) (x1, S) K :=
  ⟨fun ⟨I, μ, h0, hs⟩ => ⟨fun t => I t.1 t.2, fun t => μ t.1 t.2, h0, fun t ht => hs _ _ ht⟩, fun ⟨I, μ, h0, hs⟩ => ⟨fun y0 y1 => I (y0, y1), fun y0 y1 => μ (y0, y1), h0, fun y0 y1 hy => hs (y0, y1) hy⟩⟩
set_option maxHeartbeats 1000000 in
theorem d_e_readTables_2 {x1 : Int32} {S : ms} {K : ms → Prop} (h : e_readTables_2 x1 S K) {Q : Prop} (k_K : ∀ (a0 : ms), K a0 → (∀ (K' : ms → Prop), e_readTables_2 x1 S K' ↔ K' a0) → Q) : Q := by
  obtain ⟨o, ho, hoc, hi⟩ := lp_det (C := (ms → Prop)) (b := (fun (y : (Int32) × (ms)) (R : ((Int32) × (ms)) → Prop) (c : (ms → Prop)) => b_readTables_2 y.1 y.2 (fun z0 z1 => R (z0, z1)) c)) (O := (fun (o : ((ms → Prop)) → Prop) => (∃ (a0 : ms), o = fun c => c a0))) (fun y R c hy => d_b_readTables_2 hy (fun a0 a1 ha ia => Or.inl ⟨(a0, a1), ha, fun R' c' => ia (fun z0 z1 => R' (z0, z1)) c'⟩) (fun a0 ha ia => Or.inr ⟨(fun c => c a0), ⟨a0, rfl⟩, ha, fun R' c' => ia (fun z0 z1 => R' (z0, z1)) c'⟩)) (l_e_readTables_2.mp h)
  rcases ho with ⟨a0, rfl⟩
  · exact k_K _ hoc (fun K' => Iff.trans l_e_readTables_2 (hi K'))
theorem v_e_readTables_2 {x1 : Int32} {S : ms} {K : ms → Prop} (h : e_readTables_2 x1 S K) {G : Prop} (Inv : Int32 → ms → Prop) (h0 : Inv x1 S) (hs : ∀ (yx1 : Int32) (yS : ms) (R : Int32 → ms → Prop), Inv yx1 yS → b_readTables_2 yx1 yS R K → (∃ (zx1 : Int32) (zS : ms), R zx1 zS ∧ Inv zx1 zS) ∨ G) : G := by
  obtain ⟨I, μ, i0, is⟩ := h
  have go : ∀ (n : Nat) (yx1 : Int32) (yS : ms), μ yx1 yS < n → I yx1 yS → Inv yx1 yS → G := by
    intro n
    induction n with
    | zero => intro yx1 yS hy; exact absurd hy (Nat.not_lt_zero _)
    | succ n ih =>
      intro yx1 yS hy hI hV
      rcases hs yx1 yS _ hV (is yx1 yS hI) with ⟨zx1, zS, ⟨hz, hm⟩, hv⟩ | g
      · exact ih zx1 zS (Nat.lt_of_lt_of_le hm (Nat.le_of_lt_succ hy)) hz hv
      · exact g
  exact go _ x1 S (Nat.lt_succ_self _) i0 h0
theorem r_e_readTables_2 {x1 : Int32} {S : ms} {K : ms → Prop} (h : e_readTables_2 x1 S K) : b_readTables_2 x1 S (fun zx1 zS => e_readTables_2 zx1 zS K) K := by
  obtain ⟨I, μ, i0, is⟩ := h
  exact d_b_readTables_2 (is x1 S i0) (fun a0 a1 ha ia => (ia _ _).mpr ⟨I, μ, ha.1, is⟩) (fun a0 ha ia => (ia _ _).mpr ha)
set_option maxHeartbeats 1000000 in
theorem d_p_readTables {S : ms} {K : ms → Prop} (h : p_readTables S K) {Q : Prop} (k_K : ∀ (a0 : ms), K a0 → (∀ (K' : ms → Prop), p_readTables S K' ↔ K' a0) → Q) : Q := by
  unfold p_readTables at h
  exact d_e_readTables_2 h (fun a0 h_2 i_1 => k_K a0 h_2 (fun _ => i_1 _))
set_option maxHeartbeats 1000000 in
theorem d_b_readCodes_362 {S : ms} {K : ms → Prop} (h : b_readCodes_362 S K) {Q : Prop} (k_K : ∀ (a0 : ms), K a0 → (∀ (K' : ms → Prop), b_readCodes_362 S K' ↔ K' a0) → Q) : Q := by
  unfold b_readCodes_362 at h
  exact k_K _ h (fun _ => Iff.rfl)
set_option maxHeartbeats 1000000 in
theorem d_b_readCodes_358 {s0 : Int32} {S : ms} {R2 : Int32 → ms → Prop} {K : ms → Prop} (h : b_readCodes_358 s0 S R2 K) {Q : Prop} (k_R2 : ∀ (a0 : Int32) (a1 : ms), R2 a0 a1 → (∀ (R2' : Int32 → ms → Prop) (K' : ms → Prop), b_readCodes_358 s0 S R2' K' ↔ R2' a0 a1) → Q) (k_K : ∀ (a0 : ms), K a0 → (∀ (R2' : Int32 → ms → Prop) (K' : ms → Prop), b_readCodes_358 s0 S R2' K' ↔ K' a0) → Q) : Q := by
  unfold b_readCodes_358 at h
  exact k_R2 _ _ h (fun _ _ => Iff.rfl)
set_option maxHeartbeats 1000000 in
theorem d_b_readCodes_342 {S : ms} {R2 : Int32 → ms → Prop} {K : ms → Prop} (h : b_readCodes_342 S R2 K) {Q : Prop} (k_R2 : ∀ (a0 : Int32) (a1 : ms), R2 a0 a1 → (∀ (R2' : Int32 → ms → Prop) (K' : ms → Prop), b_readCodes_342 S R2' K' ↔ R2' a0 a1) → Q) (k_K : ∀ (a0 : ms), K a0 → (∀ (R2' : Int32 → ms → Prop) (K' : ms → Prop), b_readCodes_342 S R2' K' ↔ K' a0) → Q) : Q := by
  unfold b_readCodes_342 at h
  refine dt_p h (fun c_1 h_2 => ?_) (fun c_1 h_2 => ?_)
  ·
    exact d_b_readCodes_358 h_2 (fun a0 a1 h_4 i_3 => k_R2 a0 a1 h_4 (fun _ _ => Iff.trans (dt_1 c_1 (fun n => n c_1)) (i_3 _ _))) (fun a0 h_6 i_5 => k_K a0 h_6 (fun _ _ => Iff.trans (dt_1 c_1 (fun n => n c_1)) (i_5 _ _)))
  ·
    exact d_b_readCodes_358 h_2 (fun a0 a1 h_8 i_7 => k_R2 a0 a1 h_8 (fun _ _ => Iff.trans (dt_2 c_1 c_1) (i_7 _ _))) (fun a0 h_10 i_9 => k_K a0 h_10 (fun _ _ => Iff.trans (dt_2 c_1 c_1) (i_9 _ _)))
set_option maxHeartbeats 1000000 in
theorem d_b_readCodes_328 {x3 : Int32} {S : ms} {R2 : Int32 → ms → Prop} {K : ms → Prop} (h : b_readCodes_328 x3 S R2 K) {Q : Prop} (k_R2 : ∀ (a0 : Int32) (a1 : ms), R2 a0 a1 → (∀ (R2' : Int32 → ms → Prop) (K' : ms → Prop), b_readCodes_328 x3 S R2' K' ↔ R2' a0 a1) → Q) (k_K : ∀ (a0 : ms), K a0 → (∀ (R2' : Int32 → ms → Prop) (K' : ms → Prop), b_readCodes_328 x3 S R2' K' ↔ K' a0) → Q) : Q := by
  unfold b_readCodes_328 at h
  refine dt_n h (fun c_1 h_2 => ?_) (fun c_1 h_2 => ?_)
  ·
    exact d_b_readCodes_342 h_2 (fun a0 a1 h_4 i_3 => k_R2 a0 a1 h_4 (fun _ _ => Iff.trans (dt_1 c_1 c_1) (i_3 _ _))) (fun a0 h_6 i_5 => k_K a0 h_6 (fun _ _ => Iff.trans (dt_1 c_1 c_1) (i_5 _ _)))
  ·
    exact d_b_readCodes_342 (And.right h_2) (fun a0 a1 h_8 i_7 => k_R2 a0 a1 h_8 (fun _ _ => Iff.trans (dt_2 (fun n => n c_1) c_1) (Iff.trans (dt_a (And.left h_2)) (i_7 _ _)))) (fun a0 h_10 i_9 => k_K a0 h_10 (fun _ _ => Iff.trans (dt_2 (fun n => n c_1) c_1) (Iff.trans (dt_a (And.left h_2)) (i_9 _ _))))
set_option maxHeartbeats 1000000 in
theorem d_b_readCodes_322 {x3 : Int32} {x5 : Int32} {x8 : Int32} {S : ms} {R2 : Int32 → ms → Prop} {R213 : Int32 → Int32 → Int32 → ms → Prop} {K : ms → Prop} (h : b_readCodes_322 x3 x5 x8 S R2 R213 K) {Q : Prop} (k_R2 : ∀ (a0 : Int32) (a1 : ms), R2 a0 a1 → (∀ (R2' : Int32 → ms → Prop) (R213' : Int32 → Int32 → Int32 → ms → Prop) (K' : ms → Prop), b_readCodes_322 x3 x5 x8 S R2' R213' K' ↔ R2' a0 a1) → Q) (k_R213 : ∀ (a0 : Int32) (a1 : Int32) (a2 : Int32) (a3 : ms), R213 a0 a1 a2 a3 → (∀ (R2' : Int32 → ms → Prop) (R213' : Int32 → Int32 → Int32 → ms → Prop) (K' : ms → Prop), b_readCodes_322 x3 x5 x8 S R2' R213' K' ↔ R213' a0 a1 a2 a3) → Q) (k_K : ∀ (a0 : ms), K a0 → (∀ (R2' : Int32 → ms → Prop) (R213' : Int32 → Int32 → Int32 → ms → Prop) (K' : ms → Prop), b_readCodes_322 x3 x5 x8 S R2' R213' K' ↔ K' a0) → Q) : Q := by
  unfold b_readCodes_322 at h
  exact k_R213 _ _ _ _ h (fun _ _ _ => Iff.rfl)
set_option maxHeartbeats 1000000 in
theorem d_b_readCodes_291 {x3 : Int32} {x5 : Int32} {x8 : Int32} {x9 : Int32} {s1 : Int32} {S : ms} {R2 : Int32 → ms → Prop} {R213 : Int32 → Int32 → Int32 → ms → Prop} {K : ms → Prop} (h : b_readCodes_291 x3 x5 x8 x9 s1 S R2 R213 K) {Q : Prop} (k_R2 : ∀ (a0 : Int32) (a1 : ms), R2 a0 a1 → (∀ (R2' : Int32 → ms → Prop) (R213' : Int32 → Int32 → Int32 → ms → Prop) (K' : ms → Prop), b_readCodes_291 x3 x5 x8 x9 s1 S R2' R213' K' ↔ R2' a0 a1) → Q) (k_R213 : ∀ (a0 : Int32) (a1 : Int32) (a2 : Int32) (a3 : ms), R213 a0 a1 a2 a3 → (∀ (R2' : Int32 → ms → Prop) (R213' : Int32 → Int32 → Int32 → ms → Prop) (K' : ms → Prop), b_readCodes_291 x3 x5 x8 x9 s1 S R2' R213' K' ↔ R213' a0 a1 a2 a3) → Q) (k_K : ∀ (a0 : ms), K a0 → (∀ (R2' : Int32 → ms → Prop) (R213' : Int32 → Int32 → Int32 → ms → Prop) (K' : ms → Prop), b_readCodes_291 x3 x5 x8 x9 s1 S R2' R213' K' ↔ K' a0) → Q) : Q := by
  unfold b_readCodes_291 at h
  refine d_p_must h (fun S297 h_2 i_1 => ?_)
  refine dt_n h_2 (fun c_3 h_4 => ?_) (fun c_3 h_4 => ?_)
  ·
    exact d_b_readCodes_322 h_4 (fun a0 a1 h_6 i_5 => k_R2 a0 a1 h_6 (fun _ _ _ => Iff.trans (i_1 _) (Iff.trans (dt_1 c_3 c_3) (i_5 _ _ _)))) (fun a0 a1 a2 a3 h_8 i_7 => k_R213 a0 a1 a2 a3 h_8 (fun _ _ _ => Iff.trans (i_1 _) (Iff.trans (dt_1 c_3 c_3) (i_7 _ _ _)))) (fun a0 h_10 i_9 => k_K a0 h_10 (fun _ _ _ => Iff.trans (i_1 _) (Iff.trans (dt_1 c_3 c_3) (i_9 _ _ _))))
  ·
    exact d_b_readCodes_322 (And.right h_4) (fun a0 a1 h_12 i_11 => k_R2 a0 a1 h_12 (fun _ _ _ => Iff.trans (i_1 _) (Iff.trans (dt_2 (fun n => n c_3) c_3) (Iff.trans (dt_a (And.left h_4)) (i_11 _ _ _))))) (fun a0 a1 a2 a3 h_14 i_13 => k_R213 a0 a1 a2 a3 h_14 (fun _ _ _ => Iff.trans (i_1 _) (Iff.trans (dt_2 (fun n => n c_3) c_3) (Iff.trans (dt_a (And.left h_4)) (i_13 _ _ _))))) (fun a0 h_16 i_15 => k_K a0 h_16 (fun _ _ _ => Iff.trans (i_1 _) (Iff.trans (dt_2 (fun n => n c_3) c_3) (Iff.trans (dt_a (And.left h_4)) (i_15 _ _ _)))))
set_option maxHeartbeats 1000000 in
theorem d_b_readCodes_290 {x3 : Int32} {x5 : Int32} {x8 : Int32} {x9 : Int32} {S : ms} {R2 : Int32 → ms → Prop} {R213 : Int32 → Int32 → Int32 → ms → Prop} {K : ms → Prop} (h : b_readCodes_290 x3 x5 x8 x9 S R2 R213 K) {Q : Prop} (k_R2 : ∀ (a0 : Int32) (a1 : ms), R2 a0 a1 → (∀ (R2' : Int32 → ms → Prop) (R213' : Int32 → Int32 → Int32 → ms → Prop) (K' : ms → Prop), b_readCodes_290 x3 x5 x8 x9 S R2' R213' K' ↔ R2' a0 a1) → Q) (k_R213 : ∀ (a0 : Int32) (a1 : Int32) (a2 : Int32) (a3 : ms), R213 a0 a1 a2 a3 → (∀ (R2' : Int32 → ms → Prop) (R213' : Int32 → Int32 → Int32 → ms → Prop) (K' : ms → Prop), b_readCodes_290 x3 x5 x8 x9 S R2' R213' K' ↔ R213' a0 a1 a2 a3) → Q) (k_K : ∀ (a0 : ms), K a0 → (∀ (R2' : Int32 → ms → Prop) (R213' : Int32 → Int32 → Int32 → ms → Prop) (K' : ms → Prop), b_readCodes_290 x3 x5 x8 x9 S R2' R213' K' ↔ K' a0) → Q) : Q := by
  unfold b_readCodes_290 at h
  exact d_b_readCodes_291 h (fun a0 a1 h_2 i_1 => k_R2 a0 a1 h_2 (fun _ _ _ => i_1 _ _ _)) (fun a0 a1 a2 a3 h_4 i_3 => k_R213 a0 a1 a2 a3 h_4 (fun _ _ _ => i_3 _ _ _)) (fun a0 h_6 i_5 => k_K a0 h_6 (fun _ _ _ => i_5 _ _ _))
set_option maxHeartbeats 1000000 in
theorem d_b_readCodes_286 {x3 : Int32} {x5 : Int32} {x8 : Int32} {x9 : Int32} {S : ms} {R2 : Int32 → ms → Prop} {R213 : Int32 → Int32 → Int32 → ms → Prop} {K : ms → Prop} (h : b_readCodes_286 x3 x5 x8 x9 S R2 R213 K) {Q : Prop} (k_R2 : ∀ (a0 : Int32) (a1 : ms), R2 a0 a1 → (∀ (R2' : Int32 → ms → Prop) (R213' : Int32 → Int32 → Int32 → ms → Prop) (K' : ms → Prop), b_readCodes_286 x3 x5 x8 x9 S R2' R213' K' ↔ R2' a0 a1) → Q) (k_R213 : ∀ (a0 : Int32) (a1 : Int32) (a2 : Int32) (a3 : ms), R213 a0 a1 a2 a3 → (∀ (R2' : Int32 → ms → Prop) (R213' : Int32 → Int32 → Int32 → ms → Prop) (K' : ms → Prop), b_readCodes_286 x3 x5 x8 x9 S R2' R213' K' ↔ R213' a0 a1 a2 a3) → Q) (k_K : ∀ (a0 : ms), K a0 → (∀ (R2' : Int32 → ms → Prop) (R213' : Int32 → Int32 → Int32 → ms → Prop) (K' : ms → Prop), b_readCodes_286 x3 x5 x8 x9 S R2' R213' K' ↔ K' a0) → Q) : Q := by
  unfold b_readCodes_286 at h
  exact d_b_readCodes_291 h (fun a0 a1 h_2 i_1 => k_R2 a0 a1 h_2 (fun _ _ _ => i_1 _ _ _)) (fun a0 a1 a2 a3 h_4 i_3 => k_R213 a0 a1 a2 a3 h_4 (fun _ _ _ => i_3 _ _ _)) (fun a0 h_6 i_5 => k_K a0 h_6 (fun _ _ _ => i_5 _ _ _))
set_option maxHeartbeats 1000000 in
theorem d_b_readCodes_213 {x3 : Int32} {x5 : Int32} {x8 : Int32} {S : ms} {R2 : Int32 → ms → Prop} {R213 : Int32 → Int32 → Int32 → ms → Prop} {K : ms → Prop} (h : b_readCodes_213 x3 x5 x8 S R2 R213 K) {Q : Prop} (k_R2 : ∀ (a0 : Int32) (a1 : ms), R2 a0 a1 → (∀ (R2' : Int32 → ms → Prop) (R213' : Int32 → Int32 → Int32 → ms → Prop) (K' : ms → Prop), b_readCodes_213 x3 x5 x8 S R2' R213' K' ↔ R2' a0 a1) → Q) (k_R213 : ∀ (a0 : Int32) (a1 : Int32) (a2 : Int32) (a3 : ms), R213 a0 a1 a2 a3 → (∀ (R2' : Int32 → ms → Prop) (R213' : Int32 → Int32 → Int32 → ms → Prop) (K' : ms → Prop), b_readCodes_213 x3 x5 x8 S R2' R213' K' ↔ R213' a0 a1 a2 a3) → Q) (k_K : ∀ (a0 : ms), K a0 → (∀ (R2' : Int32 → ms → Prop) (R213' : Int32 → Int32 → Int32 → ms → Prop) (K' : ms → Prop), b_readCodes_213 x3 x5 x8 S R2' R213' K' ↔ K' a0) → Q) : Q := by
  unfold b_readCodes_213 at h
  refine dt_p h (fun c_1 h_2 => ?_) (fun c_1 h_2 => ?_)
  ·
    exact d_b_readCodes_328 h_2 (fun a0 a1 h_4 i_3 => k_R2 a0 a1 h_4 (fun _ _ _ => Iff.trans (dt_1 c_1 (fun n => n c_1)) (i_3 _ _))) (fun a0 h_6 i_5 => k_K a0 h_6 (fun _ _ _ => Iff.trans (dt_1 c_1 (fun n => n c_1)) (i_5 _ _)))
  ·
    refine dt_n h_2 (fun c_7 h_8 => ?_) (fun c_7 h_8 => ?_)
    ·
      exact d_b_readCodes_328 h_8 (fun a0 a1 h_10 i_9 => k_R2 a0 a1 h_10 (fun _ _ _ => Iff.trans (dt_2 c_1 c_1) (Iff.trans (dt_1 c_7 c_7) (i_9 _ _)))) (fun a0 h_12 i_11 => k_K a0 h_12 (fun _ _ _ => Iff.trans (dt_2 c_1 c_1) (Iff.trans (dt_1 c_7 c_7) (i_11 _ _))))
    ·
      refine d_p_nextWithin h_8 (fun v228 S228 h_14 i_13 => ?_)
      refine dt_p h_14 (fun c_15 h_16 => ?_) (fun c_15 h_16 => ?_)
      ·
        refine dt_p h_16 (fun c_17 h_18 => ?_) (fun c_17 h_18 => ?_)
        ·
          exact d_b_readCodes_286 h_18 (fun a0 a1 h_20 i_19 => k_R2 a0 a1 h_20 (fun _ _ _ => Iff.trans (dt_2 c_1 c_1) (Iff.trans (dt_2 (fun n => n c_7) c_7) (Iff.trans (i_13 _) (Iff.trans (dt_1 c_15 (fun n => n c_15)) (Iff.trans (dt_1 c_17 (fun n => n c_17)) (i_19 _ _ _))))))) (fun a0 a1 a2 a3 h_22 i_21 => k_R213 a0 a1 a2 a3 h_22 (fun _ _ _ => Iff.trans (dt_2 c_1 c_1) (Iff.trans (dt_2 (fun n => n c_7) c_7) (Iff.trans (i_13 _) (Iff.trans (dt_1 c_15 (fun n => n c_15)) (Iff.trans (dt_1 c_17 (fun n => n c_17)) (i_21 _ _ _))))))) (fun a0 h_24 i_23 => k_K a0 h_24 (fun _ _ _ => Iff.trans (dt_2 c_1 c_1) (Iff.trans (dt_2 (fun n => n c_7) c_7) (Iff.trans (i_13 _) (Iff.trans (dt_1 c_15 (fun n => n c_15)) (Iff.trans (dt_1 c_17 (fun n => n c_17)) (i_23 _ _ _)))))))
        ·
          refine dt_p h_18 (fun c_25 h_26 => ?_) (fun c_25 h_26 => ?_)
          ·
            exact d_b_readCodes_286 h_26 (fun a0 a1 h_28 i_27 => k_R2 a0 a1 h_28 (fun _ _ _ => Iff.trans (dt_2 c_1 c_1) (Iff.trans (dt_2 (fun n => n c_7) c_7) (Iff.trans (i_13 _) (Iff.trans (dt_1 c_15 (fun n => n c_15)) (Iff.trans (dt_2 c_17 c_17) (Iff.trans (dt_1 c_25 (fun n => n c_25)) (i_27 _ _ _)))))))) (fun a0 a1 a2 a3 h_30 i_29 => k_R213 a0 a1 a2 a3 h_30 (fun _ _ _ => Iff.trans (dt_2 c_1 c_1) (Iff.trans (dt_2 (fun n => n c_7) c_7) (Iff.trans (i_13 _) (Iff.trans (dt_1 c_15 (fun n => n c_15)) (Iff.trans (dt_2 c_17 c_17) (Iff.trans (dt_1 c_25 (fun n => n c_25)) (i_29 _ _ _)))))))) (fun a0 h_32 i_31 => k_K a0 h_32 (fun _ _ _ => Iff.trans (dt_2 c_1 c_1) (Iff.trans (dt_2 (fun n => n c_7) c_7) (Iff.trans (i_13 _) (Iff.trans (dt_1 c_15 (fun n => n c_15)) (Iff.trans (dt_2 c_17 c_17) (Iff.trans (dt_1 c_25 (fun n => n c_25)) (i_31 _ _ _))))))))
          ·
            refine dt_p h_26 (fun c_33 h_34 => ?_) (fun c_33 h_34 => ?_)
            ·
              exact d_b_readCodes_290 h_34 (fun a0 a1 h_36 i_35 => k_R2 a0 a1 h_36 (fun _ _ _ => Iff.trans (dt_2 c_1 c_1) (Iff.trans (dt_2 (fun n => n c_7) c_7) (Iff.trans (i_13 _) (Iff.trans (dt_1 c_15 (fun n => n c_15)) (Iff.trans (dt_2 c_17 c_17) (Iff.trans (dt_2 c_25 c_25) (Iff.trans (dt_1 c_33 (fun n => n c_33)) (i_35 _ _ _))))))))) (fun a0 a1 a2 a3 h_38 i_37 => k_R213 a0 a1 a2 a3 h_38 (fun _ _ _ => Iff.trans (dt_2 c_1 c_1) (Iff.trans (dt_2 (fun n => n c_7) c_7) (Iff.trans (i_13 _) (Iff.trans (dt_1 c_15 (fun n => n c_15)) (Iff.trans (dt_2 c_17 c_17) (Iff.trans (dt_2 c_25 c_25) (Iff.trans (dt_1 c_33 (fun n => n c_33)) (i_37 _ _ _))))))))) (fun a0 h_40 i_39 => k_K a0 h_40 (fun _ _ _ => Iff.trans (dt_2 c_1 c_1) (Iff.trans (dt_2 (fun n => n c_7) c_7) (Iff.trans (i_13 _) (Iff.trans (dt_1 c_15 (fun n => n c_15)) (Iff.trans (dt_2 c_17 c_17) (Iff.trans (dt_2 c_25 c_25) (Iff.trans (dt_1 c_33 (fun n => n c_33)) (i_39 _ _ _)))))))))
            ·
              refine dt_p h_34 (fun c_41 h_42 => ?_) (fun c_41 h_42 => ?_)
              ·
                exact d_b_readCodes_290 h_42 (fun a0 a1 h_44 i_43 => k_R2 a0 a1 h_44 (fun _ _ _ => Iff.trans (dt_2 c_1 c_1) (Iff.trans (dt_2 (fun n => n c_7) c_7) (Iff.trans (i_13 _) (Iff.trans (dt_1 c_15 (fun n => n c_15)) (Iff.trans (dt_2 c_17 c_17) (Iff.trans (dt_2 c_25 c_25) (Iff.trans (dt_2 c_33 c_33) (Iff.trans (dt_1 c_41 (fun n => n c_41)) (i_43 _ _ _)))))))))) (fun a0 a1 a2 a3 h_46 i_45 => k_R213 a0 a1 a2 a3 h_46 (fun _ _ _ => Iff.trans (dt_2 c_1 c_1) (Iff.trans (dt_2 (fun n => n c_7) c_7) (Iff.trans (i_13 _) (Iff.trans (dt_1 c_15 (fun n => n c_15)) (Iff.trans (dt_2 c_17 c_17) (Iff.trans (dt_2 c_25 c_25) (Iff.trans (dt_2 c_33 c_33) (Iff.trans (dt_1 c_41 (fun n => n c_41)) (i_45 _ _ _)))))))))) (fun a0 h_48 i_47 => k_K a0 h_48 (fun _ _ _ => Iff.trans (dt_2 c_1 c_1) (Iff.trans (dt_2 (fun n => n c_7) c_7) (Iff.trans (i_13 _) (Iff.trans (dt_1 c_15 (fun n => n c_15)) (Iff.trans (dt_2 c_17 c_17) (Iff.trans (dt_2 c_25 c_25) (Iff.trans (dt_2 c_33 c_33) (Iff.trans (dt_1 c_41 (fun n => n c_41)) (i_47 _ _ _))))))))))
              ·
                exact d_b_readCodes_286 h_42 (fun a0 a1 h_50 i_49 => k_R2 a0 a1 h_50 (fun _ _ _ => Iff.trans (dt_2 c_1 c_1) (Iff.trans (dt_2 (fun n => n c_7) c_7) (Iff.trans (i_13 _) (Iff.trans (dt_1 c_15 (fun n => n c_15)) (Iff.trans (dt_2 c_17 c_17) (Iff.trans (dt_2 c_25 c_25) (Iff.trans (dt_2 c_33 c_33) (Iff.trans (dt_2 c_41 c_41) (i_49 _ _ _)))))))))) (fun a0 a1 a2 a3 h_52 i_51 => k_R213 a0 a1 a2 a3 h_52 (fun _ _ _ => Iff.trans (dt_2 c_1 c_1) (Iff.trans (dt_2 (fun n => n c_7) c_7) (Iff.trans (i_13 _) (Iff.trans (dt_1 c_15 (fun n => n c_15)) (Iff.trans (dt_2 c_17 c_17) (Iff.trans (dt_2 c_25 c_25) (Iff.trans (dt_2 c_33 c_33) (Iff.trans (dt_2 c_41 c_41) (i_51 _ _ _)))))))))) (fun a0 h_54 i_53 => k_K a0 h_54 (fun _ _ _ => Iff.trans (dt_2 c_1 c_1) (Iff.trans (dt_2 (fun n => n c_7) c_7) (Iff.trans (i_13 _) (Iff.trans (dt_1 c_15 (fun n => n c_15)) (Iff.trans (dt_2 c_17 c_17) (Iff.trans (dt_2 c_25 c_25) (Iff.trans (dt_2 c_33 c_33) (Iff.trans (dt_2 c_41 c_41) (i_53 _ _ _))))))))))
      ·
        refine dt_p h_16 (fun c_55 h_56 => ?_) (fun c_55 h_56 => ?_)
        ·
          exact d_b_readCodes_291 h_56 (fun a0 a1 h_58 i_57 => k_R2 a0 a1 h_58 (fun _ _ _ => Iff.trans (dt_2 c_1 c_1) (Iff.trans (dt_2 (fun n => n c_7) c_7) (Iff.trans (i_13 _) (Iff.trans (dt_2 c_15 c_15) (Iff.trans (dt_1 c_55 (fun n => n c_55)) (i_57 _ _ _))))))) (fun a0 a1 a2 a3 h_60 i_59 => k_R213 a0 a1 a2 a3 h_60 (fun _ _ _ => Iff.trans (dt_2 c_1 c_1) (Iff.trans (dt_2 (fun n => n c_7) c_7) (Iff.trans (i_13 _) (Iff.trans (dt_2 c_15 c_15) (Iff.trans (dt_1 c_55 (fun n => n c_55)) (i_59 _ _ _))))))) (fun a0 h_62 i_61 => k_K a0 h_62 (fun _ _ _ => Iff.trans (dt_2 c_1 c_1) (Iff.trans (dt_2 (fun n => n c_7) c_7) (Iff.trans (i_13 _) (Iff.trans (dt_2 c_15 c_15) (Iff.trans (dt_1 c_55 (fun n => n c_55)) (i_61 _ _ _)))))))
        ·
          exact d_b_readCodes_291 h_56 (fun a0 a1 h_64 i_63 => k_R2 a0 a1 h_64 (fun _ _ _ => Iff.trans (dt_2 c_1 c_1) (Iff.trans (dt_2 (fun n => n c_7) c_7) (Iff.trans (i_13 _) (Iff.trans (dt_2 c_15 c_15) (Iff.trans (dt_2 c_55 c_55) (i_63 _ _ _))))))) (fun a0 a1 a2 a3 h_66 i_65 => k_R213 a0 a1 a2 a3 h_66 (fun _ _ _ => Iff.trans (dt_2 c_1 c_1) (Iff.trans (dt_2 (fun n => n c_7) c_7) (Iff.trans (i_13 _) (Iff.trans (dt_2 c_15 c_15) (Iff.trans (dt_2 c_55 c_55) (i_65 _ _ _))))))) (fun a0 h_68 i_67 => k_K a0 h_68 (fun _ _ _ => Iff.trans (dt_2 c_1 c_1) (Iff.trans (dt_2 (fun n => n c_7) c_7) (Iff.trans (i_13 _) (Iff.trans (dt_2 c_15 c_15) (Iff.trans (dt_2 c_55 c_55) (i_67 _ _ _)))))))
theorem l_e_readCodes_213  {x3 : Int32} {x5 : Int32} {x8 : Int32} {S : ms} {R2 : Int32 → ms → Prop} {K : ms → Prop} : e_readCodes_213 x3 x5 x8 S R2 K ↔ lpE (C := (Int32 → ms → Prop) × (ms → Prop)) (fun (y : (Int32) × (Int32) × (Int32) × (ms)) (R : ((Int32) × (Int32) × (Int32) × (ms)) → Prop) (c : (Int32 → ms → Prop) × (ms → Prop)) => b_readCodes_213 y.1 y.2.1 y.2.2.1 y.2.2.2 c.1 (fun z0 z1 z2 z3 => R (z0, z1, z2, z3)) c.2) (x3, x5, x8, S) (R2, K) :=
  ⟨fun ⟨I, μ, h0, hs⟩ => ⟨fun t => I t.1 t.2.1 t.2.2.1 t.2.2.2, fun t => μ t.1 t.2.1 t.2.2.1 t.2.2.2, h0, fun t ht => hs _ _ _ _ ht⟩, fun ⟨I, μ, h0, hs⟩ => ⟨fun y0 y1 y2 y3 => I (y0, y1, y2, y3), fun y0 y1 y2 y3 => μ (y0, y1, y2, y3), h0, fun y0 y1 y2 y3 hy => hs (y0, y1, y2, y3) hy⟩⟩
set_option maxHeartbeats 1000000 in
theorem d_e_readCodes_213 {x3 : Int32} {x5 : Int32} {x8 : Int32} {S : ms} {R2 : Int32 → ms → Prop} {K : ms → Prop} (h : e_readCodes_213 x3 x5 x8 S R2 K) {Q : Prop} (k_R2 : ∀ (a0 : Int32) (a1 : ms), R2 a0 a1 → (∀ (R2' : Int32 → ms → Prop) (K' : ms → Prop), e_readCodes_213 x3 x5 x8 S R2' K' ↔ R2' a0 a1) → Q) (k_K : ∀ (a0 : ms), K a0 → (∀ (R2' : Int32 → ms → Prop) (K' : ms → Prop), e_readCodes_213 x3 x5 x8 S R2' K' ↔ K' a0) → Q) : Q := by
  obtain ⟨o, ho, hoc, hi⟩ := lp_det (C := (Int32 → ms → Prop) × (ms → Prop)) (b := (fun (y : (Int32) × (Int32) × (Int32) × (ms)) (R : ((Int32) × (Int32) × (Int32) × (ms)) → Prop) (c : (Int32 → ms → Prop) × (ms → Prop)) => b_readCodes_213 y.1 y.2.1 y.2.2.1 y.2.2.2 c.1 (fun z0 z1 z2 z3 => R (z0, z1, z2, z3)) c.2)) (O := (fun (o : ((Int32 → ms → Prop) × (ms → Prop)) → Prop) => (∃ (a0 : Int32) (a1 : ms), o = fun c => c.1 a0 a1) ∨ (∃ (a0 : ms), o = fun c => c.2 a0))) (fun y R c hy => d_b_readCodes_213 hy (fun a0 a1 ha ia => Or.inr ⟨(fun c => c.1 a0 a1), Or.inl ⟨a0, a1, rfl⟩, ha, fun R' c' => ia c'.1 (fun z0 z1 z2 z3 => R' (z0, z1, z2, z3)) c'.2⟩) (fun a0 a1 a2 a3 ha ia => Or.inl ⟨(a0, a1, a2, a3), ha, fun R' c' => ia c'.1 (fun z0 z1 z2 z3 => R' (z0, z1, z2, z3)) c'.2⟩) (fun a0 ha ia => Or.inr ⟨(fun c => c.2 a0), Or.inr (⟨a0, rfl⟩), ha, fun R' c' => ia c'.1 (fun z0 z1 z2 z3 => R' (z0, z1, z2, z3)) c'.2⟩)) (l_e_readCodes_213.mp h)
  rcases ho with ⟨a0, a1, rfl⟩ | ⟨a0, rfl⟩
  · exact k_R2 _ _ hoc (fun R2' K' => Iff.trans l_e_readCodes_213 (hi (R2', K')))
  · exact k_K _ hoc (fun R2' K' => Iff.trans l_e_readCodes_213 (hi (R2', K')))
theorem v_e_readCodes_213 {x3 : Int32} {x5 : Int32} {x8 : Int32} {S : ms} {R2 : Int32 → ms → Prop} {K : ms → Prop} (h : e_readCodes_213 x3 x5 x8 S R2 K) {G : Prop} (Inv : Int32 → ms → Prop) (h0 : Inv x8 S) (hs : ∀ (yx8 : Int32) (yS : ms) (R : Int32 → Int32 → Int32 → ms → Prop), Inv yx8 yS → b_readCodes_213 x3 x5 yx8 yS R2 R K → (∃ (zx8 : Int32) (zS : ms), R x3 x5 zx8 zS ∧ Inv zx8 zS) ∨ G) : G := by
  obtain ⟨I, μ, i0, is⟩ := h
  have go : ∀ (n : Nat) (yx8 : Int32) (yS : ms), μ x3 x5 yx8 yS < n → I x3 x5 yx8 yS → Inv yx8 yS → G := by
    intro n
    induction n with
    | zero => intro yx8 yS hy; exact absurd hy (Nat.not_lt_zero _)
    | succ n ih =>
      intro yx8 yS hy hI hV
      rcases hs yx8 yS _ hV (is x3 x5 yx8 yS hI) with ⟨zx8, zS, ⟨hz, hm⟩, hv⟩ | g
      · exact ih zx8 zS (Nat.lt_of_lt_of_le hm (Nat.le_of_lt_succ hy)) hz hv
      · exact g
  exact go _ x8 S (Nat.lt_succ_self _) i0 h0
theorem r_e_readCodes_213 {x3 : Int32} {x5 : Int32} {x8 : Int32} {S : ms} {R2 : Int32 → ms → Prop} {K : ms → Prop} (h : e_readCodes_213 x3 x5 x8 S R2 K) : b_readCodes_213 x3 x5 x8 S R2 (fun zx3 zx5 zx8 zS => e_readCodes_213 zx3 zx5 zx8 zS R2 K) K := by
  obtain ⟨I, μ, i0, is⟩ := h
  exact d_b_readCodes_213 (is x3 x5 x8 S i0) (fun a0 a1 ha ia => (ia _ _ _).mpr ha) (fun a0 a1 a2 a3 ha ia => (ia _ _ _).mpr ⟨I, μ, ha.1, is⟩) (fun a0 ha ia => (ia _ _ _).mpr ha)
set_option maxHeartbeats 1000000 in
theorem d_b_readCodes_205 {x3 : Int32} {x4 : Int32} {x5 : Int32} {s1 : Int32} {S : ms} {R2 : Int32 → ms → Prop} {K : ms → Prop} (h : b_readCodes_205 x3 x4 x5 s1 S R2 K) {Q : Prop} (k_R2 : ∀ (a0 : Int32) (a1 : ms), R2 a0 a1 → (∀ (R2' : Int32 → ms → Prop) (K' : ms → Prop), b_readCodes_205 x3 x4 x5 s1 S R2' K' ↔ R2' a0 a1) → Q) (k_K : ∀ (a0 : ms), K a0 → (∀ (R2' : Int32 → ms → Prop) (K' : ms → Prop), b_readCodes_205 x3 x4 x5 s1 S R2' K' ↔ K' a0) → Q) : Q := by
  unfold b_readCodes_205 at h
  refine d_p_must h (fun S207 h_2 i_1 => ?_)
  exact d_e_readCodes_213 h_2 (fun a0 a1 h_4 i_3 => k_R2 a0 a1 h_4 (fun _ _ => Iff.trans (i_1 _) (i_3 _ _))) (fun a0 h_6 i_5 => k_K a0 h_6 (fun _ _ => Iff.trans (i_1 _) (i_5 _ _)))
set_option maxHeartbeats 1000000 in
theorem d_b_readCodes_204 {x3 : Int32} {x4 : Int32} {x5 : Int32} {S : ms} {R2 : Int32 → ms → Prop} {K : ms → Prop} (h : b_readCodes_204 x3 x4 x5 S R2 K) {Q : Prop} (k_R2 : ∀ (a0 : Int32) (a1 : ms), R2 a0 a1 → (∀ (R2' : Int32 → ms → Prop) (K' : ms → Prop), b_readCodes_204 x3 x4 x5 S R2' K' ↔ R2' a0 a1) → Q) (k_K : ∀ (a0 : ms), K a0 → (∀ (R2' : Int32 → ms → Prop) (K' : ms → Prop), b_readCodes_204 x3 x4 x5 S R2' K' ↔ K' a0) → Q) : Q := by
  unfold b_readCodes_204 at h
  exact d_b_readCodes_205 h (fun a0 a1 h_2 i_1 => k_R2 a0 a1 h_2 (fun _ _ => i_1 _ _)) (fun a0 h_4 i_3 => k_K a0 h_4 (fun _ _ => i_3 _ _))
set_option maxHeartbeats 1000000 in
theorem d_b_readCodes_186 {x3 : Int32} {x4 : Int32} {x5 : Int32} {x7 : Int32} {S : ms} {R2 : Int32 → ms → Prop} {K : ms → Prop} (h : b_readCodes_186 x3 x4 x5 x7 S R2 K) {Q : Prop} (k_R2 : ∀ (a0 : Int32) (a1 : ms), R2 a0 a1 → (∀ (R2' : Int32 → ms → Prop) (K' : ms → Prop), b_readCodes_186 x3 x4 x5 x7 S R2' K' ↔ R2' a0 a1) → Q) (k_K : ∀ (a0 : ms), K a0 → (∀ (R2' : Int32 → ms → Prop) (K' : ms → Prop), b_readCodes_186 x3 x4 x5 x7 S R2' K' ↔ K' a0) → Q) : Q := by
  unfold b_readCodes_186 at h
  refine dt_p h (fun c_1 h_2 => ?_) (fun c_1 h_2 => ?_)
  ·
    exact d_b_readCodes_204 h_2 (fun a0 a1 h_4 i_3 => k_R2 a0 a1 h_4 (fun _ _ => Iff.trans (dt_1 c_1 (fun n => n c_1)) (i_3 _ _))) (fun a0 h_6 i_5 => k_K a0 h_6 (fun _ _ => Iff.trans (dt_1 c_1 (fun n => n c_1)) (i_5 _ _)))
  ·
    refine dt_p h_2 (fun c_7 h_8 => ?_) (fun c_7 h_8 => ?_)
    ·
      exact d_b_readCodes_204 h_8 (fun a0 a1 h_10 i_9 => k_R2 a0 a1 h_10 (fun _ _ => Iff.trans (dt_2 c_1 c_1) (Iff.trans (dt_1 c_7 (fun n => n c_7)) (i_9 _ _)))) (fun a0 h_12 i_11 => k_K a0 h_12 (fun _ _ => Iff.trans (dt_2 c_1 c_1) (Iff.trans (dt_1 c_7 (fun n => n c_7)) (i_11 _ _))))
    ·
      exact d_b_readCodes_205 h_8 (fun a0 a1 h_14 i_13 => k_R2 a0 a1 h_14 (fun _ _ => Iff.trans (dt_2 c_1 c_1) (Iff.trans (dt_2 c_7 c_7) (i_13 _ _)))) (fun a0 h_16 i_15 => k_K a0 h_16 (fun _ _ => Iff.trans (dt_2 c_1 c_1) (Iff.trans (dt_2 c_7 c_7) (i_15 _ _))))
set_option maxHeartbeats 1000000 in
theorem d_b_readCodes_180 {x3 : Int32} {x4 : Int32} {x5 : Int32} {x6 : Int32} {x7 : Int32} {x8 : Int32} {S : ms} {R2 : Int32 → ms → Prop} {R82 : Int32 → Int32 → Int32 → Int32 → Int32 → Int32 → ms → Prop} {K : ms → Prop} (h : b_readCodes_180 x3 x4 x5 x6 x7 x8 S R2 R82 K) {Q : Prop} (k_R2 : ∀ (a0 : Int32) (a1 : ms), R2 a0 a1 → (∀ (R2' : Int32 → ms → Prop) (R82' : Int32 → Int32 → Int32 → Int32 → Int32 → Int32 → ms → Prop) (K' : ms → Prop), b_readCodes_180 x3 x4 x5 x6 x7 x8 S R2' R82' K' ↔ R2' a0 a1) → Q) (k_R82 : ∀ (a0 : Int32) (a1 : Int32) (a2 : Int32) (a3 : Int32) (a4 : Int32) (a5 : Int32) (a6 : ms), R82 a0 a1 a2 a3 a4 a5 a6 → (∀ (R2' : Int32 → ms → Prop) (R82' : Int32 → Int32 → Int32 → Int32 → Int32 → Int32 → ms → Prop) (K' : ms → Prop), b_readCodes_180 x3 x4 x5 x6 x7 x8 S R2' R82' K' ↔ R82' a0 a1 a2 a3 a4 a5 a6) → Q) (k_K : ∀ (a0 : ms), K a0 → (∀ (R2' : Int32 → ms → Prop) (R82' : Int32 → Int32 → Int32 → Int32 → Int32 → Int32 → ms → Prop) (K' : ms → Prop), b_readCodes_180 x3 x4 x5 x6 x7 x8 S R2' R82' K' ↔ K' a0) → Q) : Q := by
  unfold b_readCodes_180 at h
  exact k_R82 _ _ _ _ _ _ _ h (fun _ _ _ => Iff.rfl)
set_option maxHeartbeats 1000000 in
theorem d_b_readCodes_178 {x3 : Int32} {x4 : Int32} {x5 : Int32} {x7 : Int32} {x8 : Int32} {s0 : Int32} {S : ms} {R2 : Int32 → ms → Prop} {R82 : Int32 → Int32 → Int32 → Int32 → Int32 → Int32 → ms → Prop} {K : ms → Prop} (h : b_readCodes_178 x3 x4 x5 x7 x8 s0 S R2 R82 K) {Q : Prop} (k_R2 : ∀ (a0 : Int32) (a1 : ms), R2 a0 a1 → (∀ (R2' : Int32 → ms → Prop) (R82' : Int32 → Int32 → Int32 → Int32 → Int32 → Int32 → ms → Prop) (K' : ms → Prop), b_readCodes_178 x3 x4 x5 x7 x8 s0 S R2' R82' K' ↔ R2' a0 a1) → Q) (k_R82 : ∀ (a0 : Int32) (a1 : Int32) (a2 : Int32) (a3 : Int32) (a4 : Int32) (a5 : Int32) (a6 : ms), R82 a0 a1 a2 a3 a4 a5 a6 → (∀ (R2' : Int32 → ms → Prop) (R82' : Int32 → Int32 → Int32 → Int32 → Int32 → Int32 → ms → Prop) (K' : ms → Prop), b_readCodes_178 x3 x4 x5 x7 x8 s0 S R2' R82' K' ↔ R82' a0 a1 a2 a3 a4 a5 a6) → Q) (k_K : ∀ (a0 : ms), K a0 → (∀ (R2' : Int32 → ms → Prop) (R82' : Int32 → Int32 → Int32 → Int32 → Int32 → Int32 → ms → Prop) (K' : ms → Prop), b_readCodes_178 x3 x4 x5 x7 x8 s0 S R2' R82' K' ↔ K' a0) → Q) : Q := by
  unfold b_readCodes_178 at h
  exact d_b_readCodes_180 h (fun a0 a1 h_2 i_1 => k_R2 a0 a1 h_2 (fun _ _ _ => i_1 _ _ _)) (fun a0 a1 a2 a3 a4 a5 a6 h_4 i_3 => k_R82 a0 a1 a2 a3 a4 a5 a6 h_4 (fun _ _ _ => i_3 _ _ _)) (fun a0 h_6 i_5 => k_K a0 h_6 (fun _ _ _ => i_5 _ _ _))
set_option maxHeartbeats 1000000 in
theorem d_b_readCodes_160 {x3 : Int32} {x4 : Int32} {x5 : Int32} {x6 : Int32} {x8 : Int32} {s0 : Int32} {S : ms} {R2 : Int32 → ms → Prop} {R82 : Int32 → Int32 → Int32 → Int32 → Int32 → Int32 → ms → Prop} {K : ms → Prop} (h : b_readCodes_160 x3 x4 x5 x6 x8 s0 S R2 R82 K) {Q : Prop} (k_R2 : ∀ (a0 : Int32) (a1 : ms), R2 a0 a1 → (∀ (R2' : Int32 → ms → Prop) (R82' : Int32 → Int32 → Int32 → Int32 → Int32 → Int32 → ms → Prop) (K' : ms → Prop), b_readCodes_160 x3 x4 x5 x6 x8 s0 S R2' R82' K' ↔ R2' a0 a1) → Q) (k_R82 : ∀ (a0 : Int32) (a1 : Int32) (a2 : Int32) (a3 : Int32) (a4 : Int32) (a5 : Int32) (a6 : ms), R82 a0 a1 a2 a3 a4 a5 a6 → (∀ (R2' : Int32 → ms → Prop) (R82' : Int32 → Int32 → Int32 → Int32 → Int32 → Int32 → ms → Prop) (K' : ms → Prop), b_readCodes_160 x3 x4 x5 x6 x8 s0 S R2' R82' K' ↔ R82' a0 a1 a2 a3 a4 a5 a6) → Q) (k_K : ∀ (a0 : ms), K a0 → (∀ (R2' : Int32 → ms → Prop) (R82' : Int32 → Int32 → Int32 → Int32 → Int32 → Int32 → ms → Prop) (K' : ms → Prop), b_readCodes_160 x3 x4 x5 x6 x8 s0 S R2' R82' K' ↔ K' a0) → Q) : Q := by
  unfold b_readCodes_160 at h
  refine dt_p h (fun c_1 h_2 => ?_) (fun c_1 h_2 => ?_)
  ·
    exact d_b_readCodes_178 h_2 (fun a0 a1 h_4 i_3 => k_R2 a0 a1 h_4 (fun _ _ _ => Iff.trans (dt_1 c_1 (fun n => n c_1)) (i_3 _ _ _))) (fun a0 a1 a2 a3 a4 a5 a6 h_6 i_5 => k_R82 a0 a1 a2 a3 a4 a5 a6 h_6 (fun _ _ _ => Iff.trans (dt_1 c_1 (fun n => n c_1)) (i_5 _ _ _))) (fun a0 h_8 i_7 => k_K a0 h_8 (fun _ _ _ => Iff.trans (dt_1 c_1 (fun n => n c_1)) (i_7 _ _ _)))
  ·
    exact d_b_readCodes_178 h_2 (fun a0 a1 h_10 i_9 => k_R2 a0 a1 h_10 (fun _ _ _ => Iff.trans (dt_2 c_1 c_1) (i_9 _ _ _))) (fun a0 a1 a2 a3 a4 a5 a6 h_12 i_11 => k_R82 a0 a1 a2 a3 a4 a5 a6 h_12 (fun _ _ _ => Iff.trans (dt_2 c_1 c_1) (i_11 _ _ _))) (fun a0 h_14 i_13 => k_K a0 h_14 (fun _ _ _ => Iff.trans (dt_2 c_1 c_1) (i_13 _ _ _)))
set_option maxHeartbeats 1000000 in
theorem d_b_readCodes_159 {x3 : Int32} {x4 : Int32} {x5 : Int32} {x6 : Int32} {x8 : Int32} {S : ms} {R2 : Int32 → ms → Prop} {R82 : Int32 → Int32 → Int32 → Int32 → Int32 → Int32 → ms → Prop} {K : ms → Prop} (h : b_readCodes_159 x3 x4 x5 x6 x8 S R2 R82 K) {Q : Prop} (k_R2 : ∀ (a0 : Int32) (a1 : ms), R2 a0 a1 → (∀ (R2' : Int32 → ms → Prop) (R82' : Int32 → Int32 → Int32 → Int32 → Int32 → Int32 → ms → Prop) (K' : ms → Prop), b_readCodes_159 x3 x4 x5 x6 x8 S R2' R82' K' ↔ R2' a0 a1) → Q) (k_R82 : ∀ (a0 : Int32) (a1 : Int32) (a2 : Int32) (a3 : Int32) (a4 : Int32) (a5 : Int32) (a6 : ms), R82 a0 a1 a2 a3 a4 a5 a6 → (∀ (R2' : Int32 → ms → Prop) (R82' : Int32 → Int32 → Int32 → Int32 → Int32 → Int32 → ms → Prop) (K' : ms → Prop), b_readCodes_159 x3 x4 x5 x6 x8 S R2' R82' K' ↔ R82' a0 a1 a2 a3 a4 a5 a6) → Q) (k_K : ∀ (a0 : ms), K a0 → (∀ (R2' : Int32 → ms → Prop) (R82' : Int32 → Int32 → Int32 → Int32 → Int32 → Int32 → ms → Prop) (K' : ms → Prop), b_readCodes_159 x3 x4 x5 x6 x8 S R2' R82' K' ↔ K' a0) → Q) : Q := by
  unfold b_readCodes_159 at h
  exact d_b_readCodes_160 h (fun a0 a1 h_2 i_1 => k_R2 a0 a1 h_2 (fun _ _ _ => i_1 _ _ _)) (fun a0 a1 a2 a3 a4 a5 a6 h_4 i_3 => k_R82 a0 a1 a2 a3 a4 a5 a6 h_4 (fun _ _ _ => i_3 _ _ _)) (fun a0 h_6 i_5 => k_K a0 h_6 (fun _ _ _ => i_5 _ _ _))
set_option maxHeartbeats 1000000 in
theorem d_b_readCodes_82 {x3 : Int32} {x4 : Int32} {x5 : Int32} {x6 : Int32} {x7 : Int32} {x8 : Int32} {S : ms} {R2 : Int32 → ms → Prop} {R82 : Int32 → Int32 → Int32 → Int32 → Int32 → Int32 → ms → Prop} {K : ms → Prop} (h : b_readCodes_82 x3 x4 x5 x6 x7 x8 S R2 R82 K) {Q : Prop} (k_R2 : ∀ (a0 : Int32) (a1 : ms), R2 a0 a1 → (∀ (R2' : Int32 → ms → Prop) (R82' : Int32 → Int32 → Int32 → Int32 → Int32 → Int32 → ms → Prop) (K' : ms → Prop), b_readCodes_82 x3 x4 x5 x6 x7 x8 S R2' R82' K' ↔ R2' a0 a1) → Q) (k_R82 : ∀ (a0 : Int32) (a1 : Int32) (a2 : Int32) (a3 : Int32) (a4 : Int32) (a5 : Int32) (a6 : ms), R82 a0 a1 a2 a3 a4 a5 a6 → (∀ (R2' : Int32 → ms → Prop) (R82' : Int32 → Int32 → Int32 → Int32 → Int32 → Int32 → ms → Prop) (K' : ms → Prop), b_readCodes_82 x3 x4 x5 x6 x7 x8 S R2' R82' K' ↔ R82' a0 a1 a2 a3 a4 a5 a6) → Q) (k_K : ∀ (a0 : ms), K a0 → (∀ (R2' : Int32 → ms → Prop) (R82' : Int32 → Int32 → Int32 → Int32 → Int32 → Int32 → ms → Prop) (K' : ms → Prop), b_readCodes_82 x3 x4 x5 x6 x7 x8 S R2' R82' K' ↔ K' a0) → Q) : Q := by
  unfold b_readCodes_82 at h
  refine dt_p h (fun c_1 h_2 => ?_) (fun c_1 h_2 => ?_)
  ·
    exact d_b_readCodes_186 h_2 (fun a0 a1 h_4 i_3 => k_R2 a0 a1 h_4 (fun _ _ _ => Iff.trans (dt_1 c_1 (fun n => n c_1)) (i_3 _ _))) (fun a0 h_6 i_5 => k_K a0 h_6 (fun _ _ _ => Iff.trans (dt_1 c_1 (fun n => n c_1)) (i_5 _ _)))
  ·
    refine dt_n h_2 (fun c_7 h_8 => ?_) (fun c_7 h_8 => ?_)
    ·
      exact d_b_readCodes_186 h_8 (fun a0 a1 h_10 i_9 => k_R2 a0 a1 h_10 (fun _ _ _ => Iff.trans (dt_2 c_1 c_1) (Iff.trans (dt_1 c_7 c_7) (i_9 _ _)))) (fun a0 h_12 i_11 => k_K a0 h_12 (fun _ _ _ => Iff.trans (dt_2 c_1 c_1) (Iff.trans (dt_1 c_7 c_7) (i_11 _ _))))
    ·
      refine d_p_nextWithin h_8 (fun v97 S97 h_14 i_13 => ?_)
      refine dt_n h_14 (fun c_15 h_16 => ?_) (fun c_15 h_16 => ?_)
      ·
        exact d_b_readCodes_180 h_16 (fun a0 a1 h_18 i_17 => k_R2 a0 a1 h_18 (fun _ _ _ => Iff.trans (dt_2 c_1 c_1) (Iff.trans (dt_2 (fun n => n c_7) c_7) (Iff.trans (i_13 _) (Iff.trans (dt_1 c_15 c_15) (i_17 _ _ _)))))) (fun a0 a1 a2 a3 a4 a5 a6 h_20 i_19 => k_R82 a0 a1 a2 a3 a4 a5 a6 h_20 (fun _ _ _ => Iff.trans (dt_2 c_1 c_1) (Iff.trans (dt_2 (fun n => n c_7) c_7) (Iff.trans (i_13 _) (Iff.trans (dt_1 c_15 c_15) (i_19 _ _ _)))))) (fun a0 h_22 i_21 => k_K a0 h_22 (fun _ _ _ => Iff.trans (dt_2 c_1 c_1) (Iff.trans (dt_2 (fun n => n c_7) c_7) (Iff.trans (i_13 _) (Iff.trans (dt_1 c_15 c_15) (i_21 _ _ _))))))
      ·
        refine dt_p (And.right h_16) (fun c_23 h_24 => ?_) (fun c_23 h_24 => ?_)
        ·
          exact d_b_readCodes_159 h_24 (fun a0 a1 h_26 i_25 => k_R2 a0 a1 h_26 (fun _ _ _ => Iff.trans (dt_2 c_1 c_1) (Iff.trans (dt_2 (fun n => n c_7) c_7) (Iff.trans (i_13 _) (Iff.trans (dt_2 (fun n => n c_15) c_15) (Iff.trans (dt_a (And.left h_16)) (Iff.trans (dt_1 c_23 (fun n => n c_23)) (i_25 _ _ _)))))))) (fun a0 a1 a2 a3 a4 a5 a6 h_28 i_27 => k_R82 a0 a1 a2 a3 a4 a5 a6 h_28 (fun _ _ _ => Iff.trans (dt_2 c_1 c_1) (Iff.trans (dt_2 (fun n => n c_7) c_7) (Iff.trans (i_13 _) (Iff.trans (dt_2 (fun n => n c_15) c_15) (Iff.trans (dt_a (And.left h_16)) (Iff.trans (dt_1 c_23 (fun n => n c_23)) (i_27 _ _ _)))))))) (fun a0 h_30 i_29 => k_K a0 h_30 (fun _ _ _ => Iff.trans (dt_2 c_1 c_1) (Iff.trans (dt_2 (fun n => n c_7) c_7) (Iff.trans (i_13 _) (Iff.trans (dt_2 (fun n => n c_15) c_15) (Iff.trans (dt_a (And.left h_16)) (Iff.trans (dt_1 c_23 (fun n => n c_23)) (i_29 _ _ _))))))))
        ·
          refine dt_p h_24 (fun c_31 h_32 => ?_) (fun c_31 h_32 => ?_)
          ·
            exact d_b_readCodes_159 h_32 (fun a0 a1 h_34 i_33 => k_R2 a0 a1 h_34 (fun _ _ _ => Iff.trans (dt_2 c_1 c_1) (Iff.trans (dt_2 (fun n => n c_7) c_7) (Iff.trans (i_13 _) (Iff.trans (dt_2 (fun n => n c_15) c_15) (Iff.trans (dt_a (And.left h_16)) (Iff.trans (dt_2 c_23 c_23) (Iff.trans (dt_1 c_31 (fun n => n c_31)) (i_33 _ _ _))))))))) (fun a0 a1 a2 a3 a4 a5 a6 h_36 i_35 => k_R82 a0 a1 a2 a3 a4 a5 a6 h_36 (fun _ _ _ => Iff.trans (dt_2 c_1 c_1) (Iff.trans (dt_2 (fun n => n c_7) c_7) (Iff.trans (i_13 _) (Iff.trans (dt_2 (fun n => n c_15) c_15) (Iff.trans (dt_a (And.left h_16)) (Iff.trans (dt_2 c_23 c_23) (Iff.trans (dt_1 c_31 (fun n => n c_31)) (i_35 _ _ _))))))))) (fun a0 h_38 i_37 => k_K a0 h_38 (fun _ _ _ => Iff.trans (dt_2 c_1 c_1) (Iff.trans (dt_2 (fun n => n c_7) c_7) (Iff.trans (i_13 _) (Iff.trans (dt_2 (fun n => n c_15) c_15) (Iff.trans (dt_a (And.left h_16)) (Iff.trans (dt_2 c_23 c_23) (Iff.trans (dt_1 c_31 (fun n => n c_31)) (i_37 _ _ _)))))))))
          ·
            exact d_b_readCodes_160 h_32 (fun a0 a1 h_40 i_39 => k_R2 a0 a1 h_40 (fun _ _ _ => Iff.trans (dt_2 c_1 c_1) (Iff.trans (dt_2 (fun n => n c_7) c_7) (Iff.trans (i_13 _) (Iff.trans (dt_2 (fun n => n c_15) c_15) (Iff.trans (dt_a (And.left h_16)) (Iff.trans (dt_2 c_23 c_23) (Iff.trans (dt_2 c_31 c_31) (i_39 _ _ _))))))))) (fun a0 a1 a2 a3 a4 a5 a6 h_42 i_41 => k_R82 a0 a1 a2 a3 a4 a5 a6 h_42 (fun _ _ _ => Iff.trans (dt_2 c_1 c_1) (Iff.trans (dt_2 (fun n => n c_7) c_7) (Iff.trans (i_13 _) (Iff.trans (dt_2 (fun n => n c_15) c_15) (Iff.trans (dt_a (And.left h_16)) (Iff.trans (dt_2 c_23 c_23) (Iff.trans (dt_2 c_31 c_31) (i_41 _ _ _))))))))) (fun a0 h_44 i_43 => k_K a0 h_44 (fun _ _ _ => Iff.trans (dt_2 c_1 c_1) (Iff.trans (dt_2 (fun n => n c_7) c_7) (Iff.trans (i_13 _) (Iff.trans (dt_2 (fun n => n c_15) c_15) (Iff.trans (dt_a (And.left h_16)) (Iff.trans (dt_2 c_23 c_23) (Iff.trans (dt_2 c_31 c_31) (i_43 _ _ _)))))))))
theorem l_e_readCodes_82  {x3 : Int32} {x4 : Int32} {x5 : Int32} {x6 : Int32} {x7 : Int32} {x8 : Int32} {S : ms} {R2 : Int32 → ms → Prop} {K : ms → Prop} : e_readCodes_82 x3 x4 x5 x6 x7 x8 S R2 K ↔ lpE (C := (Int32 → ms → Prop) × (ms → Prop)) (fun (y : (Int32) × (Int32) × (Int32) × (Int32) × (Int32) × (Int32) × (ms)) (R : ((Int32) × (Int32) × (Int32) × (Int32) × (Int32) × (Int32) × (ms)) → Prop) (c : (Int32 → ms → Prop) × (ms → Prop)) => b_readCodes_82 y.1 y.2.1 y.2.2.1 y.2.2.2.1 y.2.2.2.2.1 y.2.2.2.2.2.1 y.2.2.2.2.2.2 c.1 (fun z0 z1 z2 z3 z4 z5 z6 => R (z0, z1, z2, z3, z4, z5, z6)) c.2) (x3, x4, x5, x6, x7, x8, S) (R2, K) :=
  ⟨fun ⟨I, μ, h0, hs⟩ => ⟨fun t => I t.1 t.2.1 t.2.2.1 t.2.2.2.1 t.2.2.2.2.1 t.2.2.2.2.2.1 t.2.2.2.2.2.2, fun t => μ t.1 t.2.1 t.2.2.1 t.2.2.2.1 t.2.2.2.2.1 t.2.2.2.2.2.1 t.2.2.2.2.2.2, h0, fun t ht => hs _ _ _ _ _ _ _ ht⟩, fun ⟨I, μ, h0, hs⟩ => ⟨fun y0 y1 y2 y3 y4 y5 y6 => I (y0, y1, y2, y3, y4, y5, y6), fun y0 y1 y2 y3 y4 y5 y6 => μ (y0, y1, y2, y3, y4, y5, y6), h0, fun y0 y1 y2 y3 y4 y5 y6 hy => hs (y0, y1, y2, y3, y4, y5, y6) hy⟩⟩
set_option maxHeartbeats 1000000 in
theorem d_e_readCodes_82 {x3 : Int32} {x4 : Int32} {x5 : Int32} {x6 : Int32} {x7 : Int32} {x8 : Int32} {S : ms} {R2 : Int32 → ms → Prop} {K : ms → Prop} (h : e_readCodes_82 x3 x4 x5 x6 x7 x8 S R2 K) {Q : Prop} (k_R2 : ∀ (a0 : Int32) (a1 : ms), R2 a0 a1 → (∀ (R2' : Int32 → ms → Prop) (K' : ms → Prop), e_readCodes_82 x3 x4 x5 x6 x7 x8 S R2' K' ↔ R2' a0 a1) → Q) (k_K : ∀ (a0 : ms), K a0 → (∀ (R2' : Int32 → ms → Prop) (K' : ms → Prop), e_readCodes_82 x3 x4 x5 x6 x7 x8 S R2' K' ↔ K' a0) → Q) : Q := by
  obtain ⟨o, ho, hoc, hi⟩ := lp_det (C := (Int32 → ms → Prop) × (ms → Prop)) (b := (fun (y : (Int32) × (Int32) × (Int32) × (Int32) × (Int32) × (Int32) × (ms)) (R : ((Int32) × (Int32) × (Int32) × (Int32) × (Int32) × (Int32) × (ms)) → Prop) (c : (Int32 → ms → Prop) × (ms → Prop)) => b_readCodes_82 y.1 y.2.1 y.2.2.1 y.2.2.2.1 y.2.2.2.2.1 y.2.2.2.2.2.1 y.2.2.2.2.2.2 c.1 (fun z0 z1 z2 z3 z4 z5 z6 => R (z0, z1, z2, z3, z4, z5, z6)) c.2)) (O := (fun (o : ((Int32 → ms → Prop) × (ms → Prop)) → Prop) => (∃ (a0 : Int32) (a1 : ms), o = fun c => c.1 a0 a1) ∨ (∃ (a0 : ms), o = fun c => c.2 a0))) (fun y R c hy => d_b_readCodes_82 hy (fun a0 a1 ha ia => Or.inr ⟨(fun c => c.1 a0 a1), Or.inl ⟨a0, a1, rfl⟩, ha, fun R' c' => ia c'.1 (fun z0 z1 z2 z3 z4 z5 z6 => R' (z0, z1, z2, z3, z4, z5, z6)) c'.2⟩) (fun a0 a1 a2 a3 a4 a5 a6 ha ia => Or.inl ⟨(a0, a1, a2, a3, a4, a5, a6), ha, fun R' c' => ia c'.1 (fun z0 z1 z2 z3 z4 z5 z6 => R' (z0, z1, z2, z3, z4, z5, z6)) c'.2⟩) (fun a0 ha ia => Or.inr ⟨(fun c => c.2 a0), Or.inr (⟨a0, rfl⟩), ha, fun R' c' => ia c'.1 (fun z0 z1 z2 z3 z4 z5 z6 => R' (z0, z1, z2, z3, z4, z5, z6)) c'.2⟩)) (l_e_readCodes_82.mp h)
  rcases ho with ⟨a0, a1, rfl⟩ | ⟨a0, rfl⟩
  · exact k_R2 _ _ hoc (fun R2' K' => Iff.trans l_e_readCodes_82 (hi (R2', K')))
  · exact k_K _ hoc (fun R2' K' => Iff.trans l_e_readCodes_82 (hi (R2', K')))
theorem v_e_readCodes_82 {x3 : Int32} {x4 : Int32} {x5 : Int32} {x6 : Int32} {x7 : Int32} {x8 : Int32} {S : ms} {R2 : Int32 → ms → Prop} {K : ms → Prop} (h : e_readCodes_82 x3 x4 x5 x6 x7 x8 S R2 K) {G : Prop} (Inv : Int32 → Int32 → Int32 → Int32 → ms → Prop) (h0 : Inv x5 x6 x7 x8 S) (hs : ∀ (yx5 : Int32) (yx6 : Int32) (yx7 : Int32) (yx8 : Int32) (yS : ms) (R : Int32 → Int32 → Int32 → Int32 → Int32 → Int32 → ms → Prop), Inv yx5 yx6 yx7 yx8 yS → b_readCodes_82 x3 x4 yx5 yx6 yx7 yx8 yS R2 R K → (∃ (zx5 : Int32) (zx6 : Int32) (zx7 : Int32) (zx8 : Int32) (zS : ms), R x3 x4 zx5 zx6 zx7 zx8 zS ∧ Inv zx5 zx6 zx7 zx8 zS) ∨ G) : G := by
  obtain ⟨I, μ, i0, is⟩ := h
  have go : ∀ (n : Nat) (yx5 : Int32) (yx6 : Int32) (yx7 : Int32) (yx8 : Int32) (yS : ms), μ x3 x4 yx5 yx6 yx7 yx8 yS < n → I x3 x4 yx5 yx6 yx7 yx8 yS → Inv yx5 yx6 yx7 yx8 yS → G := by
    intro n
    induction n with
    | zero => intro yx5 yx6 yx7 yx8 yS hy; exact absurd hy (Nat.not_lt_zero _)
    | succ n ih =>
      intro yx5 yx6 yx7 yx8 yS hy hI hV
      rcases hs yx5 yx6 yx7 yx8 yS _ hV (is x3 x4 yx5 yx6 yx7 yx8 yS hI) with ⟨zx5, zx6, zx7, zx8, zS, ⟨hz, hm⟩, hv⟩ | g
      · exact ih zx5 zx6 zx7 zx8 zS (Nat.lt_of_lt_of_le hm (Nat.le_of_lt_succ hy)) hz hv
      · exact g
  exact go _ x5 x6 x7 x8 S (Nat.lt_succ_self _) i0 h0
theorem r_e_readCodes_82 {x3 : Int32} {x4 : Int32} {x5 : Int32} {x6 : Int32} {x7 : Int32} {x8 : Int32} {S : ms} {R2 : Int32 → ms → Prop} {K : ms → Prop} (h : e_readCodes_82 x3 x4 x5 x6 x7 x8 S R2 K) : b_readCodes_82 x3 x4 x5 x6 x7 x8 S R2 (fun zx3 zx4 zx5 zx6 zx7 zx8 zS => e_readCodes_82 zx3 zx4 zx5 zx6 zx7 zx8 zS R2 K) K := by
  obtain ⟨I, μ, i0, is⟩ := h
  exact d_b_readCodes_82 (is x3 x4 x5 x6 x7 x8 S i0) (fun a0 a1 ha ia => (ia _ _ _).mpr ha) (fun a0 a1 a2 a3 a4 a5 a6 ha ia => (ia _ _ _).mpr ⟨I, μ, ha.1, is⟩) (fun a0 ha ia => (ia _ _ _).mpr ha)
set_option maxHeartbeats 1000000 in
theorem d_b_readCodes_63 {s0 : Int32} {S : ms} {R2 : Int32 → ms → Prop} {K : ms → Prop} (h : b_readCodes_63 s0 S R2 K) {Q : Prop} (k_R2 : ∀ (a0 : Int32) (a1 : ms), R2 a0 a1 → (∀ (R2' : Int32 → ms → Prop) (K' : ms → Prop), b_readCodes_63 s0 S R2' K' ↔ R2' a0 a1) → Q) (k_K : ∀ (a0 : ms), K a0 → (∀ (R2' : Int32 → ms → Prop) (K' : ms → Prop), b_readCodes_63 s0 S R2' K' ↔ K' a0) → Q) : Q := by
  unfold b_readCodes_63 at h
  exact d_e_readCodes_82 h (fun a0 a1 h_2 i_1 => k_R2 a0 a1 h_2 (fun _ _ => i_1 _ _)) (fun a0 h_4 i_3 => k_K a0 h_4 (fun _ _ => i_3 _ _))
set_option maxHeartbeats 1000000 in
theorem d_b_readCodes_41 {x2 : Int32} {s1 : Int32} {S : ms} {R2 : Int32 → ms → Prop} {K : ms → Prop} (h : b_readCodes_41 x2 s1 S R2 K) {Q : Prop} (k_R2 : ∀ (a0 : Int32) (a1 : ms), R2 a0 a1 → (∀ (R2' : Int32 → ms → Prop) (K' : ms → Prop), b_readCodes_41 x2 s1 S R2' K' ↔ R2' a0 a1) → Q) (k_K : ∀ (a0 : ms), K a0 → (∀ (R2' : Int32 → ms → Prop) (K' : ms → Prop), b_readCodes_41 x2 s1 S R2' K' ↔ K' a0) → Q) : Q := by
  unfold b_readCodes_41 at h
  refine d_p_must h (fun S47 h_2 i_1 => ?_)
  refine dt_p h_2 (fun c_3 h_4 => ?_) (fun c_3 h_4 => ?_)
  ·
    exact d_b_readCodes_63 h_4 (fun a0 a1 h_6 i_5 => k_R2 a0 a1 h_6 (fun _ _ => Iff.trans (i_1 _) (Iff.trans (dt_1 c_3 (fun n => n c_3)) (i_5 _ _)))) (fun a0 h_8 i_7 => k_K a0 h_8 (fun _ _ => Iff.trans (i_1 _) (Iff.trans (dt_1 c_3 (fun n => n c_3)) (i_7 _ _))))
  ·
    exact d_b_readCodes_63 h_4 (fun a0 a1 h_10 i_9 => k_R2 a0 a1 h_10 (fun _ _ => Iff.trans (i_1 _) (Iff.trans (dt_2 c_3 c_3) (i_9 _ _)))) (fun a0 h_12 i_11 => k_K a0 h_12 (fun _ _ => Iff.trans (i_1 _) (Iff.trans (dt_2 c_3 c_3) (i_11 _ _))))
set_option maxHeartbeats 1000000 in
theorem d_b_readCodes_36 {x2 : Int32} {S : ms} {R2 : Int32 → ms → Prop} {K : ms → Prop} (h : b_readCodes_36 x2 S R2 K) {Q : Prop} (k_R2 : ∀ (a0 : Int32) (a1 : ms), R2 a0 a1 → (∀ (R2' : Int32 → ms → Prop) (K' : ms → Prop), b_readCodes_36 x2 S R2' K' ↔ R2' a0 a1) → Q) (k_K : ∀ (a0 : ms), K a0 → (∀ (R2' : Int32 → ms → Prop) (K' : ms → Prop), b_readCodes_36 x2 S R2' K' ↔ K' a0) → Q) : Q := by
  unfold b_readCodes_36 at h
  exact d_b_readCodes_41 h (fun a0 a1 h_2 i_1 => k_R2 a0 a1 h_2 (fun _ _ => i_1 _ _)) (fun a0 h_4 i_3 => k_K a0 h_4 (fun _ _ => i_3 _ _))
set_option maxHeartbeats 1000000 in
theorem d_b_readCodes_2 {x1 : Int32} {S : ms} {R2 : Int32 → ms → Prop} {K : ms → Prop} (h : b_readCodes_2 x1 S R2 K) {Q : Prop} (k_R2 : ∀ (a0 : Int32) (a1 : ms), R2 a0 a1 → (∀ (R2' : Int32 → ms → Prop) (K' : ms → Prop), b_readCodes_2 x1 S R2' K' ↔ R2' a0 a1) → Q) (k_K : ∀ (a0 : ms), K a0 → (∀ (R2' : Int32 → ms → Prop) (K' : ms → Prop), b_readCodes_2 x1 S R2' K' ↔ K' a0) → Q) : Q := by
  unfold b_readCodes_2 at h
  refine dt_p h (fun c_1 h_2 => ?_) (fun c_1 h_2 => ?_)
  ·
    exact d_b_readCodes_362 h_2 (fun a0 h_4 i_3 => k_K a0 h_4 (fun _ _ => Iff.trans (dt_1 c_1 (fun n => n c_1)) (i_3 _)))
  ·
    refine dt_n h_2 (fun c_5 h_6 => ?_) (fun c_5 h_6 => ?_)
    ·
      exact d_b_readCodes_362 h_6 (fun a0 h_8 i_7 => k_K a0 h_8 (fun _ _ => Iff.trans (dt_2 c_1 c_1) (Iff.trans (dt_1 c_5 c_5) (i_7 _))))
    ·
      refine d_p_nextWithin h_6 (fun v14 S14 h_10 i_9 => ?_)
      refine dt_p h_10 (fun c_11 h_12 => ?_) (fun c_11 h_12 => ?_)
      ·
        exact d_b_readCodes_36 h_12 (fun a0 a1 h_14 i_13 => k_R2 a0 a1 h_14 (fun _ _ => Iff.trans (dt_2 c_1 c_1) (Iff.trans (dt_2 (fun n => n c_5) c_5) (Iff.trans (i_9 _) (Iff.trans (dt_1 c_11 (fun n => n c_11)) (i_13 _ _)))))) (fun a0 h_16 i_15 => k_K a0 h_16 (fun _ _ => Iff.trans (dt_2 c_1 c_1) (Iff.trans (dt_2 (fun n => n c_5) c_5) (Iff.trans (i_9 _) (Iff.trans (dt_1 c_11 (fun n => n c_11)) (i_15 _ _))))))
      ·
        refine dt_p h_12 (fun c_17 h_18 => ?_) (fun c_17 h_18 => ?_)
        ·
          exact d_b_readCodes_36 h_18 (fun a0 a1 h_20 i_19 => k_R2 a0 a1 h_20 (fun _ _ => Iff.trans (dt_2 c_1 c_1) (Iff.trans (dt_2 (fun n => n c_5) c_5) (Iff.trans (i_9 _) (Iff.trans (dt_2 c_11 c_11) (Iff.trans (dt_1 c_17 (fun n => n c_17)) (i_19 _ _))))))) (fun a0 h_22 i_21 => k_K a0 h_22 (fun _ _ => Iff.trans (dt_2 c_1 c_1) (Iff.trans (dt_2 (fun n => n c_5) c_5) (Iff.trans (i_9 _) (Iff.trans (dt_2 c_11 c_11) (Iff.trans (dt_1 c_17 (fun n => n c_17)) (i_21 _ _)))))))
        ·
          refine dt_n h_18 (fun c_23 h_24 => ?_) (fun c_23 h_24 => ?_)
          ·
            exact d_b_readCodes_41 h_24 (fun a0 a1 h_26 i_25 => k_R2 a0 a1 h_26 (fun _ _ => Iff.trans (dt_2 c_1 c_1) (Iff.trans (dt_2 (fun n => n c_5) c_5) (Iff.trans (i_9 _) (Iff.trans (dt_2 c_11 c_11) (Iff.trans (dt_2 c_17 c_17) (Iff.trans (dt_1 c_23 c_23) (i_25 _ _)))))))) (fun a0 h_28 i_27 => k_K a0 h_28 (fun _ _ => Iff.trans (dt_2 c_1 c_1) (Iff.trans (dt_2 (fun n => n c_5) c_5) (Iff.trans (i_9 _) (Iff.trans (dt_2 c_11 c_11) (Iff.trans (dt_2 c_17 c_17) (Iff.trans (dt_1 c_23 c_23) (i_27 _ _))))))))
          ·
            exact d_b_readCodes_36 h_24 (fun a0 a1 h_30 i_29 => k_R2 a0 a1 h_30 (fun _ _ => Iff.trans (dt_2 c_1 c_1) (Iff.trans (dt_2 (fun n => n c_5) c_5) (Iff.trans (i_9 _) (Iff.trans (dt_2 c_11 c_11) (Iff.trans (dt_2 c_17 c_17) (Iff.trans (dt_2 (fun n => n c_23) c_23) (i_29 _ _)))))))) (fun a0 h_32 i_31 => k_K a0 h_32 (fun _ _ => Iff.trans (dt_2 c_1 c_1) (Iff.trans (dt_2 (fun n => n c_5) c_5) (Iff.trans (i_9 _) (Iff.trans (dt_2 c_11 c_11) (Iff.trans (dt_2 c_17 c_17) (Iff.trans (dt_2 (fun n => n c_23) c_23) (i_31 _ _))))))))
theorem l_e_readCodes_2  {x1 : Int32} {S : ms} {K : ms → Prop} : e_readCodes_2 x1 S K ↔ lpE (C := (ms → Prop)) (fun (y : (Int32) × (ms)) (R : ((Int32) × (ms)) → Prop) (c : (ms → Prop)) => b_readCodes_2 y.1 y.2 (fun z0 z1 => R (z0, z1)) c) (x1, S) K :=
  ⟨fun ⟨I, μ, h0, hs⟩ => ⟨fun t => I t.1 t.2, fun t => μ t.1 t.2, h0, fun t ht => hs _ _ ht⟩, fun ⟨I, μ, h0, hs⟩ => ⟨fun y0 y1 => I (y0, y1), fun y0 y1 => μ (y0, y1), h0, fun y0 y1 hy => hs (y0, y1) hy⟩⟩
set_option maxHeartbeats 1000000 in
theorem d_e_readCodes_2 {x1 : Int32} {S : ms} {K : ms → Prop} (h : e_readCodes_2 x1 S K) {Q : Prop} (k_K : ∀ (a0 : ms), K a0 → (∀ (K' : ms → Prop), e_readCodes_2 x1 S K' ↔ K' a0) → Q) : Q := by
  obtain ⟨o, ho, hoc, hi⟩ := lp_det (C := (ms → Prop)) (b := (fun (y : (Int32) × (ms)) (R : ((Int32) × (ms)) → Prop) (c : (ms → Prop)) => b_readCodes_2 y.1 y.2 (fun z0 z1 => R (z0, z1)) c)) (O := (fun (o : ((ms → Prop)) → Prop) => (∃ (a0 : ms), o = fun c => c a0))) (fun y R c hy => d_b_readCodes_2 hy (fun a0 a1 ha ia => Or.inl ⟨(a0, a1), ha, fun R' c' => ia (fun z0 z1 => R' (z0, z1)) c'⟩) (fun a0 ha ia => Or.inr ⟨(fun c => c a0), ⟨a0, rfl⟩, ha, fun R' c' => ia (fun z0 z1 => R' (z0, z1)) c'⟩)) (l_e_readCodes_2.mp h)
  rcases ho with ⟨a0, rfl⟩
  · exact k_K _ hoc (fun K' => Iff.trans l_e_readCodes_2 (hi K'))
theorem v_e_readCodes_2 {x1 : Int32} {S : ms} {K : ms → Prop} (h : e_readCodes_2 x1 S K) {G : Prop} (Inv : Int32 → ms → Prop) (h0 : Inv x1 S) (hs : ∀ (yx1 : Int32) (yS : ms) (R : Int32 → ms → Prop), Inv yx1 yS → b_readCodes_2 yx1 yS R K → (∃ (zx1 : Int32) (zS : ms), R zx1 zS ∧ Inv zx1 zS) ∨ G) : G := by
  obtain ⟨I, μ, i0, is⟩ := h
  have go : ∀ (n : Nat) (yx1 : Int32) (yS : ms), μ yx1 yS < n → I yx1 yS → Inv yx1 yS → G := by
    intro n
    induction n with
    | zero => intro yx1 yS hy; exact absurd hy (Nat.not_lt_zero _)
    | succ n ih =>
      intro yx1 yS hy hI hV
      rcases hs yx1 yS _ hV (is yx1 yS hI) with ⟨zx1, zS, ⟨hz, hm⟩, hv⟩ | g
      · exact ih zx1 zS (Nat.lt_of_lt_of_le hm (Nat.le_of_lt_succ hy)) hz hv
      · exact g
  exact go _ x1 S (Nat.lt_succ_self _) i0 h0
theorem r_e_readCodes_2 {x1 : Int32} {S : ms} {K : ms → Prop} (h : e_readCodes_2 x1 S K) : b_readCodes_2 x1 S (fun zx1 zS => e_readCodes_2 zx1 zS K) K := by
  obtain ⟨I, μ, i0, is⟩ := h
  exact d_b_readCodes_2 (is x1 S i0) (fun a0 a1 ha ia => (ia _ _).mpr ⟨I, μ, ha.1, is⟩) (fun a0 ha ia => (ia _ _).mpr ha)
set_option maxHeartbeats 1000000 in
theorem d_p_readCodes {S : ms} {K : ms → Prop} (h : p_readCodes S K) {Q : Prop} (k_K : ∀ (a0 : ms), K a0 → (∀ (K' : ms → Prop), p_readCodes S K' ↔ K' a0) → Q) : Q := by
  unfold p_readCodes at h
  exact d_e_readCodes_2 h (fun a0 h_2 i_1 => k_K a0 h_2 (fun _ => i_1 _))
set_option maxHeartbeats 1000000 in
theorem d_b_readFrame_465 {S : ms} {K : ms → Prop} (h : b_readFrame_465 S K) {Q : Prop} (k_K : ∀ (a0 : ms), K a0 → (∀ (K' : ms → Prop), b_readFrame_465 S K' ↔ K' a0) → Q) : Q := by
  unfold b_readFrame_465 at h
  exact k_K _ h (fun _ => Iff.rfl)
set_option maxHeartbeats 1000000 in
theorem d_b_readFrame_426 {x2 : Int32} {x3 : Int32} {x4 : Int32} {S : ms} {K : ms → Prop} (h : b_readFrame_426 x2 x3 x4 S K) {Q : Prop} (k_K : ∀ (a0 : ms), K a0 → (∀ (K' : ms → Prop), b_readFrame_426 x2 x3 x4 S K' ↔ K' a0) → Q) : Q := by
  unfold b_readFrame_426 at h
  refine dt_n h (fun c_1 h_2 => ?_) (fun c_1 h_2 => ?_)
  ·
    exact d_b_readFrame_465 h_2 (fun a0 h_4 i_3 => k_K a0 h_4 (fun _ => Iff.trans (dt_1 c_1 c_1) (i_3 _)))
  ·
    refine d_p_makeGrids (And.right (And.right (And.right h_2))) (fun S462 h_6 i_5 => ?_)
    exact d_b_readFrame_465 h_6 (fun a0 h_8 i_7 => k_K a0 h_8 (fun _ => Iff.trans (dt_2 (fun n => n c_1) c_1) (Iff.trans (dt_a (And.left h_2)) (Iff.trans (dt_a (And.left (And.right h_2))) (Iff.trans (dt_a (And.left (And.right (And.right h_2)))) (Iff.trans (i_5 _) (i_7 _)))))))
set_option maxHeartbeats 1000000 in
theorem d_b_readFrame_411 {x2 : Int32} {x3 : Int32} {x4 : Int32} {x5 : Int32} {s1 : Int32} {S : ms} {R192 : Int32 → Int32 → Int32 → Int32 → ms → Prop} {K : ms → Prop} (h : b_readFrame_411 x2 x3 x4 x5 s1 S R192 K) {Q : Prop} (k_R192 : ∀ (a0 : Int32) (a1 : Int32) (a2 : Int32) (a3 : Int32) (a4 : ms), R192 a0 a1 a2 a3 a4 → (∀ (R192' : Int32 → Int32 → Int32 → Int32 → ms → Prop) (K' : ms → Prop), b_readFrame_411 x2 x3 x4 x5 s1 S R192' K' ↔ R192' a0 a1 a2 a3 a4) → Q) (k_K : ∀ (a0 : ms), K a0 → (∀ (R192' : Int32 → Int32 → Int32 → Int32 → ms → Prop) (K' : ms → Prop), b_readFrame_411 x2 x3 x4 x5 s1 S R192' K' ↔ K' a0) → Q) : Q := by
  unfold b_readFrame_411 at h
  refine d_p_must h (fun S417 h_2 i_1 => ?_)
  exact k_R192 _ _ _ _ _ h_2 (fun _ _ => i_1 _)
set_option maxHeartbeats 1000000 in
theorem d_b_readFrame_393 {x2 : Int32} {x3 : Int32} {x4 : Int32} {x5 : Int32} {s1 : Int32} {s2 : Int32} {S : ms} {R192 : Int32 → Int32 → Int32 → Int32 → ms → Prop} {K : ms → Prop} (h : b_readFrame_393 x2 x3 x4 x5 s1 s2 S R192 K) {Q : Prop} (k_R192 : ∀ (a0 : Int32) (a1 : Int32) (a2 : Int32) (a3 : Int32) (a4 : ms), R192 a0 a1 a2 a3 a4 → (∀ (R192' : Int32 → Int32 → Int32 → Int32 → ms → Prop) (K' : ms → Prop), b_readFrame_393 x2 x3 x4 x5 s1 s2 S R192' K' ↔ R192' a0 a1 a2 a3 a4) → Q) (k_K : ∀ (a0 : ms), K a0 → (∀ (R192' : Int32 → Int32 → Int32 → Int32 → ms → Prop) (K' : ms → Prop), b_readFrame_393 x2 x3 x4 x5 s1 s2 S R192' K' ↔ K' a0) → Q) : Q := by
  unfold b_readFrame_393 at h
  refine dt_p (And.right (And.right h)) (fun c_1 h_2 => ?_) (fun c_1 h_2 => ?_)
  ·
    exact d_b_readFrame_411 h_2 (fun a0 a1 a2 a3 a4 h_4 i_3 => k_R192 a0 a1 a2 a3 a4 h_4 (fun _ _ => Iff.trans (dt_a (And.left h)) (Iff.trans (dt_a (And.left (And.right h))) (Iff.trans (dt_1 c_1 (fun n => n c_1)) (i_3 _ _))))) (fun a0 h_6 i_5 => k_K a0 h_6 (fun _ _ => Iff.trans (dt_a (And.left h)) (Iff.trans (dt_a (And.left (And.right h))) (Iff.trans (dt_1 c_1 (fun n => n c_1)) (i_5 _ _)))))
  ·
    exact d_b_readFrame_411 h_2 (fun a0 a1 a2 a3 a4 h_8 i_7 => k_R192 a0 a1 a2 a3 a4 h_8 (fun _ _ => Iff.trans (dt_a (And.left h)) (Iff.trans (dt_a (And.left (And.right h))) (Iff.trans (dt_2 c_1 c_1) (i_7 _ _))))) (fun a0 h_10 i_9 => k_K a0 h_10 (fun _ _ => Iff.trans (dt_a (And.left h)) (Iff.trans (dt_a (And.left (And.right h))) (Iff.trans (dt_2 c_1 c_1) (i_9 _ _)))))
set_option maxHeartbeats 1000000 in
theorem d_b_readFrame_334 {x2 : Int32} {x3 : Int32} {x4 : Int32} {x5 : Int32} {x7 : Int32} {s1 : Int32} {S : ms} {R192 : Int32 → Int32 → Int32 → Int32 → ms → Prop} {K : ms → Prop} (h : b_readFrame_334 x2 x3 x4 x5 x7 s1 S R192 K) {Q : Prop} (k_R192 : ∀ (a0 : Int32) (a1 : Int32) (a2 : Int32) (a3 : Int32) (a4 : ms), R192 a0 a1 a2 a3 a4 → (∀ (R192' : Int32 → Int32 → Int32 → Int32 → ms → Prop) (K' : ms → Prop), b_readFrame_334 x2 x3 x4 x5 x7 s1 S R192' K' ↔ R192' a0 a1 a2 a3 a4) → Q) (k_K : ∀ (a0 : ms), K a0 → (∀ (R192' : Int32 → Int32 → Int32 → Int32 → ms → Prop) (K' : ms → Prop), b_readFrame_334 x2 x3 x4 x5 x7 s1 S R192' K' ↔ K' a0) → Q) : Q := by
  unfold b_readFrame_334 at h
  refine d_p_must h (fun S340 h_2 i_1 => ?_)
  refine dt_n (And.right (And.right h_2)) (fun c_3 h_4 => ?_) (fun c_3 h_4 => ?_)
  ·
    exact d_b_readFrame_393 h_4 (fun a0 a1 a2 a3 a4 h_6 i_5 => k_R192 a0 a1 a2 a3 a4 h_6 (fun _ _ => Iff.trans (i_1 _) (Iff.trans (dt_a (And.left h_2)) (Iff.trans (dt_a (And.left (And.right h_2))) (Iff.trans (dt_1 c_3 c_3) (i_5 _ _)))))) (fun a0 h_8 i_7 => k_K a0 h_8 (fun _ _ => Iff.trans (i_1 _) (Iff.trans (dt_a (And.left h_2)) (Iff.trans (dt_a (And.left (And.right h_2))) (Iff.trans (dt_1 c_3 c_3) (i_7 _ _))))))
  ·
    refine d_p_next h_4 (fun v386 S386 h_10 i_9 => ?_)
    exact d_b_readFrame_393 h_10 (fun a0 a1 a2 a3 a4 h_12 i_11 => k_R192 a0 a1 a2 a3 a4 h_12 (fun _ _ => Iff.trans (i_1 _) (Iff.trans (dt_a (And.left h_2)) (Iff.trans (dt_a (And.left (And.right h_2))) (Iff.trans (dt_2 (fun n => n c_3) c_3) (Iff.trans (i_9 _) (i_11 _ _))))))) (fun a0 h_14 i_13 => k_K a0 h_14 (fun _ _ => Iff.trans (i_1 _) (Iff.trans (dt_a (And.left h_2)) (Iff.trans (dt_a (And.left (And.right h_2))) (Iff.trans (dt_2 (fun n => n c_3) c_3) (Iff.trans (i_9 _) (i_13 _ _)))))))
set_option maxHeartbeats 1000000 in
theorem d_b_readFrame_333 {x2 : Int32} {x3 : Int32} {x4 : Int32} {x5 : Int32} {x7 : Int32} {S : ms} {R192 : Int32 → Int32 → Int32 → Int32 → ms → Prop} {K : ms → Prop} (h : b_readFrame_333 x2 x3 x4 x5 x7 S R192 K) {Q : Prop} (k_R192 : ∀ (a0 : Int32) (a1 : Int32) (a2 : Int32) (a3 : Int32) (a4 : ms), R192 a0 a1 a2 a3 a4 → (∀ (R192' : Int32 → Int32 → Int32 → Int32 → ms → Prop) (K' : ms → Prop), b_readFrame_333 x2 x3 x4 x5 x7 S R192' K' ↔ R192' a0 a1 a2 a3 a4) → Q) (k_K : ∀ (a0 : ms), K a0 → (∀ (R192' : Int32 → Int32 → Int32 → Int32 → ms → Prop) (K' : ms → Prop), b_readFrame_333 x2 x3 x4 x5 x7 S R192' K' ↔ K' a0) → Q) : Q := by
  unfold b_readFrame_333 at h
  exact d_b_readFrame_334 h (fun a0 a1 a2 a3 a4 h_2 i_1 => k_R192 a0 a1 a2 a3 a4 h_2 (fun _ _ => i_1 _ _)) (fun a0 h_4 i_3 => k_K a0 h_4 (fun _ _ => i_3 _ _))
set_option maxHeartbeats 1000000 in
theorem d_b_readFrame_329 {x2 : Int32} {x3 : Int32} {x4 : Int32} {x5 : Int32} {x7 : Int32} {S : ms} {R192 : Int32 → Int32 → Int32 → Int32 → ms → Prop} {K : ms → Prop} (h : b_readFrame_329 x2 x3 x4 x5 x7 S R192 K) {Q : Prop} (k_R192 : ∀ (a0 : Int32) (a1 : Int32) (a2 : Int32) (a3 : Int32) (a4 : ms), R192 a0 a1 a2 a3 a4 → (∀ (R192' : Int32 → Int32 → Int32 → Int32 → ms → Prop) (K' : ms → Prop), b_readFrame_329 x2 x3 x4 x5 x7 S R192' K' ↔ R192' a0 a1 a2 a3 a4) → Q) (k_K : ∀ (a0 : ms), K a0 → (∀ (R192' : Int32 → Int32 → Int32 → Int32 → ms → Prop) (K' : ms → Prop), b_readFrame_329 x2 x3 x4 x5 x7 S R192' K' ↔ K' a0) → Q) : Q := by
  unfold b_readFrame_329 at h
  exact d_b_readFrame_334 h (fun a0 a1 a2 a3 a4 h_2 i_1 => k_R192 a0 a1 a2 a3 a4 h_2 (fun _ _ => i_1 _ _)) (fun a0 h_4 i_3 => k_K a0 h_4 (fun _ _ => i_3 _ _))
set_option maxHeartbeats 1000000 in
theorem d_b_readFrame_311 {x2 : Int32} {x3 : Int32} {x4 : Int32} {x5 : Int32} {x7 : Int32} {S : ms} {R192 : Int32 → Int32 → Int32 → Int32 → ms → Prop} {K : ms → Prop} (h : b_readFrame_311 x2 x3 x4 x5 x7 S R192 K) {Q : Prop} (k_R192 : ∀ (a0 : Int32) (a1 : Int32) (a2 : Int32) (a3 : Int32) (a4 : ms), R192 a0 a1 a2 a3 a4 → (∀ (R192' : Int32 → Int32 → Int32 → Int32 → ms → Prop) (K' : ms → Prop), b_readFrame_311 x2 x3 x4 x5 x7 S R192' K' ↔ R192' a0 a1 a2 a3 a4) → Q) (k_K : ∀ (a0 : ms), K a0 → (∀ (R192' : Int32 → Int32 → Int32 → Int32 → ms → Prop) (K' : ms → Prop), b_readFrame_311 x2 x3 x4 x5 x7 S R192' K' ↔ K' a0) → Q) : Q := by
  unfold b_readFrame_311 at h
  refine dt_p h (fun c_1 h_2 => ?_) (fun c_1 h_2 => ?_)
  ·
    exact d_b_readFrame_329 h_2 (fun a0 a1 a2 a3 a4 h_4 i_3 => k_R192 a0 a1 a2 a3 a4 h_4 (fun _ _ => Iff.trans (dt_1 c_1 (fun n => n c_1)) (i_3 _ _))) (fun a0 h_6 i_5 => k_K a0 h_6 (fun _ _ => Iff.trans (dt_1 c_1 (fun n => n c_1)) (i_5 _ _)))
  ·
    refine dt_n h_2 (fun c_7 h_8 => ?_) (fun c_7 h_8 => ?_)
    ·
      exact d_b_readFrame_333 h_8 (fun a0 a1 a2 a3 a4 h_10 i_9 => k_R192 a0 a1 a2 a3 a4 h_10 (fun _ _ => Iff.trans (dt_2 c_1 c_1) (Iff.trans (dt_1 c_7 c_7) (i_9 _ _)))) (fun a0 h_12 i_11 => k_K a0 h_12 (fun _ _ => Iff.trans (dt_2 c_1 c_1) (Iff.trans (dt_1 c_7 c_7) (i_11 _ _))))
    ·
      exact d_b_readFrame_329 h_8 (fun a0 a1 a2 a3 a4 h_14 i_13 => k_R192 a0 a1 a2 a3 a4 h_14 (fun _ _ => Iff.trans (dt_2 c_1 c_1) (Iff.trans (dt_2 (fun n => n c_7) c_7) (i_13 _ _)))) (fun a0 h_16 i_15 => k_K a0 h_16 (fun _ _ => Iff.trans (dt_2 c_1 c_1) (Iff.trans (dt_2 (fun n => n c_7) c_7) (i_15 _ _))))
set_option maxHeartbeats 1000000 in
theorem d_b_readFrame_292 {x2 : Int32} {x3 : Int32} {x4 : Int32} {x5 : Int32} {s0 : Int32} {S : ms} {R192 : Int32 → Int32 → Int32 → Int32 → ms → Prop} {K : ms → Prop} (h : b_readFrame_292 x2 x3 x4 x5 s0 S R192 K) {Q : Prop} (k_R192 : ∀ (a0 : Int32) (a1 : Int32) (a2 : Int32) (a3 : Int32) (a4 : ms), R192 a0 a1 a2 a3 a4 → (∀ (R192' : Int32 → Int32 → Int32 → Int32 → ms → Prop) (K' : ms → Prop), b_readFrame_292 x2 x3 x4 x5 s0 S R192' K' ↔ R192' a0 a1 a2 a3 a4) → Q) (k_K : ∀ (a0 : ms), K a0 → (∀ (R192' : Int32 → Int32 → Int32 → Int32 → ms → Prop) (K' : ms → Prop), b_readFrame_292 x2 x3 x4 x5 s0 S R192' K' ↔ K' a0) → Q) : Q := by
  unfold b_readFrame_292 at h
  refine dt_p h (fun c_1 h_2 => ?_) (fun c_1 h_2 => ?_)
  ·
    exact d_b_readFrame_311 h_2 (fun a0 a1 a2 a3 a4 h_4 i_3 => k_R192 a0 a1 a2 a3 a4 h_4 (fun _ _ => Iff.trans (dt_1 c_1 (fun n => n c_1)) (i_3 _ _))) (fun a0 h_6 i_5 => k_K a0 h_6 (fun _ _ => Iff.trans (dt_1 c_1 (fun n => n c_1)) (i_5 _ _)))
  ·
    refine dt_n h_2 (fun c_7 h_8 => ?_) (fun c_7 h_8 => ?_)
    ·
      exact d_b_readFrame_333 h_8 (fun a0 a1 a2 a3 a4 h_10 i_9 => k_R192 a0 a1 a2 a3 a4 h_10 (fun _ _ => Iff.trans (dt_2 c_1 c_1) (Iff.trans (dt_1 c_7 c_7) (i_9 _ _)))) (fun a0 h_12 i_11 => k_K a0 h_12 (fun _ _ => Iff.trans (dt_2 c_1 c_1) (Iff.trans (dt_1 c_7 c_7) (i_11 _ _))))
    ·
      exact d_b_readFrame_311 h_8 (fun a0 a1 a2 a3 a4 h_14 i_13 => k_R192 a0 a1 a2 a3 a4 h_14 (fun _ _ => Iff.trans (dt_2 c_1 c_1) (Iff.trans (dt_2 (fun n => n c_7) c_7) (i_13 _ _)))) (fun a0 h_16 i_15 => k_K a0 h_16 (fun _ _ => Iff.trans (dt_2 c_1 c_1) (Iff.trans (dt_2 (fun n => n c_7) c_7) (i_15 _ _))))
set_option maxHeartbeats 1000000 in
theorem d_b_readFrame_257 {x2 : Int32} {x3 : Int32} {x4 : Int32} {x5 : Int32} {x7 : Int32} {s0 : Int32} {S : ms} {R192 : Int32 → Int32 → Int32 → Int32 → ms → Prop} {R223 : Int32 → Int32 → Int32 → Int32 → Int32 → Int32 → ms → Prop} {K : ms → Prop} (h : b_readFrame_257 x2 x3 x4 x5 x7 s0 S R192 R223 K) {Q : Prop} (k_R192 : ∀ (a0 : Int32) (a1 : Int32) (a2 : Int32) (a3 : Int32) (a4 : ms), R192 a0 a1 a2 a3 a4 → (∀ (R192' : Int32 → Int32 → Int32 → Int32 → ms → Prop) (R223' : Int32 → Int32 → Int32 → Int32 → Int32 → Int32 → ms → Prop) (K' : ms → Prop), b_readFrame_257 x2 x3 x4 x5 x7 s0 S R192' R223' K' ↔ R192' a0 a1 a2 a3 a4) → Q) (k_R223 : ∀ (a0 : Int32) (a1 : Int32) (a2 : Int32) (a3 : Int32) (a4 : Int32) (a5 : Int32) (a6 : ms), R223 a0 a1 a2 a3 a4 a5 a6 → (∀ (R192' : Int32 → Int32 → Int32 → Int32 → ms → Prop) (R223' : Int32 → Int32 → Int32 → Int32 → Int32 → Int32 → ms → Prop) (K' : ms → Prop), b_readFrame_257 x2 x3 x4 x5 x7 s0 S R192' R223' K' ↔ R223' a0 a1 a2 a3 a4 a5 a6) → Q) (k_K : ∀ (a0 : ms), K a0 → (∀ (R192' : Int32 → Int32 → Int32 → Int32 → ms → Prop) (R223' : Int32 → Int32 → Int32 → Int32 → Int32 → Int32 → ms → Prop) (K' : ms → Prop), b_readFrame_257 x2 x3 x4 x5 x7 s0 S R192' R223' K' ↔ K' a0) → Q) : Q := by
  unfold b_readFrame_257 at h
  exact k_R223 _ _ _ _ _ _ _ h (fun _ _ _ => Iff.rfl)
set_option maxHeartbeats 1000000 in
theorem d_b_readFrame_256 {x2 : Int32} {x3 : Int32} {x4 : Int32} {x5 : Int32} {x7 : Int32} {S : ms} {R192 : Int32 → Int32 → Int32 → Int32 → ms → Prop} {R223 : Int32 → Int32 → Int32 → Int32 → Int32 → Int32 → ms → Prop} {K : ms → Prop} (h : b_readFrame_256 x2 x3 x4 x5 x7 S R192 R223 K) {Q : Prop} (k_R192 : ∀ (a0 : Int32) (a1 : Int32) (a2 : Int32) (a3 : Int32) (a4 : ms), R192 a0 a1 a2 a3 a4 → (∀ (R192' : Int32 → Int32 → Int32 → Int32 → ms → Prop) (R223' : Int32 → Int32 → Int32 → Int32 → Int32 → Int32 → ms → Prop) (K' : ms → Prop), b_readFrame_256 x2 x3 x4 x5 x7 S R192' R223' K' ↔ R192' a0 a1 a2 a3 a4) → Q) (k_R223 : ∀ (a0 : Int32) (a1 : Int32) (a2 : Int32) (a3 : Int32) (a4 : Int32) (a5 : Int32) (a6 : ms), R223 a0 a1 a2 a3 a4 a5 a6 → (∀ (R192' : Int32 → Int32 → Int32 → Int32 → ms → Prop) (R223' : Int32 → Int32 → Int32 → Int32 → Int32 → Int32 → ms → Prop) (K' : ms → Prop), b_readFrame_256 x2 x3 x4 x5 x7 S R192' R223' K' ↔ R223' a0 a1 a2 a3 a4 a5 a6) → Q) (k_K : ∀ (a0 : ms), K a0 → (∀ (R192' : Int32 → Int32 → Int32 → Int32 → ms → Prop) (R223' : Int32 → Int32 → Int32 → Int32 → Int32 → Int32 → ms → Prop) (K' : ms → Prop), b_readFrame_256 x2 x3 x4 x5 x7 S R192' R223' K' ↔ K' a0) → Q) : Q := by
  unfold b_readFrame_256 at h
  exact d_b_readFrame_257 h (fun a0 a1 a2 a3 a4 h_2 i_1 => k_R192 a0 a1 a2 a3 a4 h_2 (fun _ _ _ => i_1 _ _ _)) (fun a0 a1 a2 a3 a4 a5 a6 h_4 i_3 => k_R223 a0 a1 a2 a3 a4 a5 a6 h_4 (fun _ _ _ => i_3 _ _ _)) (fun a0 h_6 i_5 => k_K a0 h_6 (fun _ _ _ => i_5 _ _ _))
set_option maxHeartbeats 1000000 in
theorem d_b_readFrame_223 {x2 : Int32} {x3 : Int32} {x4 : Int32} {x5 : Int32} {x6 : Int32} {x7 : Int32} {S : ms} {R192 : Int32 → Int32 → Int32 → Int32 → ms → Prop} {R223 : Int32 → Int32 → Int32 → Int32 → Int32 → Int32 → ms → Prop} {K : ms → Prop} (h : b_readFrame_223 x2 x3 x4 x5 x6 x7 S R192 R223 K) {Q : Prop} (k_R192 : ∀ (a0 : Int32) (a1 : Int32) (a2 : Int32) (a3 : Int32) (a4 : ms), R192 a0 a1 a2 a3 a4 → (∀ (R192' : Int32 → Int32 → Int32 → Int32 → ms → Prop) (R223' : Int32 → Int32 → Int32 → Int32 → Int32 → Int32 → ms → Prop) (K' : ms → Prop), b_readFrame_223 x2 x3 x4 x5 x6 x7 S R192' R223' K' ↔ R192' a0 a1 a2 a3 a4) → Q) (k_R223 : ∀ (a0 : Int32) (a1 : Int32) (a2 : Int32) (a3 : Int32) (a4 : Int32) (a5 : Int32) (a6 : ms), R223 a0 a1 a2 a3 a4 a5 a6 → (∀ (R192' : Int32 → Int32 → Int32 → Int32 → ms → Prop) (R223' : Int32 → Int32 → Int32 → Int32 → Int32 → Int32 → ms → Prop) (K' : ms → Prop), b_readFrame_223 x2 x3 x4 x5 x6 x7 S R192' R223' K' ↔ R223' a0 a1 a2 a3 a4 a5 a6) → Q) (k_K : ∀ (a0 : ms), K a0 → (∀ (R192' : Int32 → Int32 → Int32 → Int32 → ms → Prop) (R223' : Int32 → Int32 → Int32 → Int32 → Int32 → Int32 → ms → Prop) (K' : ms → Prop), b_readFrame_223 x2 x3 x4 x5 x6 x7 S R192' R223' K' ↔ K' a0) → Q) : Q := by
  unfold b_readFrame_223 at h
  refine dt_p h (fun c_1 h_2 => ?_) (fun c_1 h_2 => ?_)
  ·
    refine d_p_must h_2 (fun S274 h_4 i_3 => ?_)
    refine dt_n h_4 (fun c_5 h_6 => ?_) (fun c_5 h_6 => ?_)
    ·
      exact d_b_readFrame_292 h_6 (fun a0 a1 a2 a3 a4 h_8 i_7 => k_R192 a0 a1 a2 a3 a4 h_8 (fun _ _ _ => Iff.trans (dt_1 c_1 (fun n => n c_1)) (Iff.trans (i_3 _) (Iff.trans (dt_1 c_5 c_5) (i_7 _ _))))) (fun a0 h_10 i_9 => k_K a0 h_10 (fun _ _ _ => Iff.trans (dt_1 c_1 (fun n => n c_1)) (Iff.trans (i_3 _) (Iff.trans (dt_1 c_5 c_5) (i_9 _ _)))))
    ·
      refine d_p_next h_6 (fun v285 S285 h_12 i_11 => ?_)
      exact d_b_readFrame_292 h_12 (fun a0 a1 a2 a3 a4 h_14 i_13 => k_R192 a0 a1 a2 a3 a4 h_14 (fun _ _ _ => Iff.trans (dt_1 c_1 (fun n => n c_1)) (Iff.trans (i_3 _) (Iff.trans (dt_2 (fun n => n c_5) c_5) (Iff.trans (i_11 _) (i_13 _ _)))))) (fun a0 h_16 i_15 => k_K a0 h_16 (fun _ _ _ => Iff.trans (dt_1 c_1 (fun n => n c_1)) (Iff.trans (i_3 _) (Iff.trans (dt_2 (fun n => n c_5) c_5) (Iff.trans (i_11 _) (i_15 _ _))))))
  ·
    refine dt_p h_2 (fun c_17 h_18 => ?_) (fun c_17 h_18 => ?_)
    ·
      exact d_b_readFrame_256 h_18 (fun a0 a1 a2 a3 a4 h_20 i_19 => k_R192 a0 a1 a2 a3 a4 h_20 (fun _ _ _ => Iff.trans (dt_2 c_1 c_1) (Iff.trans (dt_1 c_17 (fun n => n c_17)) (i_19 _ _ _)))) (fun a0 a1 a2 a3 a4 a5 a6 h_22 i_21 => k_R223 a0 a1 a2 a3 a4 a5 a6 h_22 (fun _ _ _ => Iff.trans (dt_2 c_1 c_1) (Iff.trans (dt_1 c_17 (fun n => n c_17)) (i_21 _ _ _)))) (fun a0 h_24 i_23 => k_K a0 h_24 (fun _ _ _ => Iff.trans (dt_2 c_1 c_1) (Iff.trans (dt_1 c_17 (fun n => n c_17)) (i_23 _ _ _))))
    ·
      refine dt_p (And.right (And.right h_18)) (fun c_25 h_26 => ?_) (fun c_25 h_26 => ?_)
      ·
        exact d_b_readFrame_256 h_26 (fun a0 a1 a2 a3 a4 h_28 i_27 => k_R192 a0 a1 a2 a3 a4 h_28 (fun _ _ _ => Iff.trans (dt_2 c_1 c_1) (Iff.trans (dt_2 c_17 c_17) (Iff.trans (dt_a (And.left h_18)) (Iff.trans (dt_a (And.left (And.right h_18))) (Iff.trans (dt_1 c_25 (fun n => n c_25)) (i_27 _ _ _))))))) (fun a0 a1 a2 a3 a4 a5 a6 h_30 i_29 => k_R223 a0 a1 a2 a3 a4 a5 a6 h_30 (fun _ _ _ => Iff.trans (dt_2 c_1 c_1) (Iff.trans (dt_2 c_17 c_17) (Iff.trans (dt_a (And.left h_18)) (Iff.trans (dt_a (And.left (And.right h_18))) (Iff.trans (dt_1 c_25 (fun n => n c_25)) (i_29 _ _ _))))))) (fun a0 h_32 i_31 => k_K a0 h_32 (fun _ _ _ => Iff.trans (dt_2 c_1 c_1) (Iff.trans (dt_2 c_17 c_17) (Iff.trans (dt_a (And.left h_18)) (Iff.trans (dt_a (And.left (And.right h_18))) (Iff.trans (dt_1 c_25 (fun n => n c_25)) (i_31 _ _ _)))))))
      ·
        exact d_b_readFrame_257 h_26 (fun a0 a1 a2 a3 a4 h_34 i_33 => k_R192 a0 a1 a2 a3 a4 h_34 (fun _ _ _ => Iff.trans (dt_2 c_1 c_1) (Iff.trans (dt_2 c_17 c_17) (Iff.trans (dt_a (And.left h_18)) (Iff.trans (dt_a (And.left (And.right h_18))) (Iff.trans (dt_2 c_25 c_25) (i_33 _ _ _))))))) (fun a0 a1 a2 a3 a4 a5 a6 h_36 i_35 => k_R223 a0 a1 a2 a3 a4 a5 a6 h_36 (fun _ _ _ => Iff.trans (dt_2 c_1 c_1) (Iff.trans (dt_2 c_17 c_17) (Iff.trans (dt_a (And.left h_18)) (Iff.trans (dt_a (And.left (And.right h_18))) (Iff.trans (dt_2 c_25 c_25) (i_35 _ _ _))))))) (fun a0 h_38 i_37 => k_K a0 h_38 (fun _ _ _ => Iff.trans (dt_2 c_1 c_1) (Iff.trans (dt_2 c_17 c_17) (Iff.trans (dt_a (And.left h_18)) (Iff.trans (dt_a (And.left (And.right h_18))) (Iff.trans (dt_2 c_25 c_25) (i_37 _ _ _)))))))
theorem l_e_readFrame_223  {x2 : Int32} {x3 : Int32} {x4 : Int32} {x5 : Int32} {x6 : Int32} {x7 : Int32} {S : ms} {R192 : Int32 → Int32 → Int32 → Int32 → ms → Prop} {K : ms → Prop} : e_readFrame_223 x2 x3 x4 x5 x6 x7 S R192 K ↔ lpE (C := (Int32 → Int32 → Int32 → Int32 → ms → Prop) × (ms → Prop)) (fun (y : (Int32) × (Int32) × (Int32) × (Int32) × (Int32) × (Int32) × (ms)) (R : ((Int32) × (Int32) × (Int32) × (Int32) × (Int32) × (Int32) × (ms)) → Prop) (c : (Int32 → Int32 → Int32 → Int32 → ms → Prop) × (ms → Prop)) => b_readFrame_223 y.1 y.2.1 y.2.2.1 y.2.2.2.1 y.2.2.2.2.1 y.2.2.2.2.2.1 y.2.2.2.2.2.2 c.1 (fun z0 z1 z2 z3 z4 z5 z6 => R (z0, z1, z2, z3, z4, z5, z6)) c.2) (x2, x3, x4, x5, x6, x7, S) (R192, K) :=
  ⟨fun ⟨I, μ, h0, hs⟩ => ⟨fun t => I t.1 t.2.1 t.2.2.1 t.2.2.2.1 t.2.2.2.2.1 t.2.2.2.2.2.1 t.2.2.2.2.2.2, fun t => μ t.1 t.2.1 t.2.2.1 t.2.2.2.1 t.2.2.2.2.1 t.2.2.2.2.2.1 t.2.2.2.2.2.2, h0, fun t ht => hs _ _ _ _ _ _ _ ht⟩, fun ⟨I, μ, h0, hs⟩ => ⟨fun y0 y1 y2 y3 y4 y5 y6 => I (y0, y1, y2, y3, y4, y5, y6), fun y0 y1 y2 y3 y4 y5 y6 => μ (y0, y1, y2, y3, y4, y5, y6), h0, fun y0 y1 y2 y3 y4 y5 y6 hy => hs (y0, y1, y2, y3, y4, y5, y6) hy⟩⟩
set_option maxHeartbeats 1000000 in
theorem d_e_readFrame_223 {x2 : Int32} {x3 : Int32} {x4 : Int32} {x5 : Int32} {x6 : Int32} {x7 : Int32} {S : ms} {R192 : Int32 → Int32 → Int32 → Int32 → ms → Prop} {K : ms → Prop} (h : e_readFrame_223 x2 x3 x4 x5 x6 x7 S R192 K) {Q : Prop} (k_R192 : ∀ (a0 : Int32) (a1 : Int32) (a2 : Int32) (a3 : Int32) (a4 : ms), R192 a0 a1 a2 a3 a4 → (∀ (R192' : Int32 → Int32 → Int32 → Int32 → ms → Prop) (K' : ms → Prop), e_readFrame_223 x2 x3 x4 x5 x6 x7 S R192' K' ↔ R192' a0 a1 a2 a3 a4) → Q) (k_K : ∀ (a0 : ms), K a0 → (∀ (R192' : Int32 → Int32 → Int32 → Int32 → ms → Prop) (K' : ms → Prop), e_readFrame_223 x2 x3 x4 x5 x6 x7 S R192' K' ↔ K' a0) → Q) : Q := by
  obtain ⟨o, ho, hoc, hi⟩ := lp_det (C := (Int32 → Int32 → Int32 → Int32 → ms → Prop) × (ms → Prop)) (b := (fun (y : (Int32) × (Int32) × (Int32) × (Int32) × (Int32) × (Int32) × (ms)) (R : ((Int32) × (Int32) × (Int32) × (Int32) × (Int32) × (Int32) × (ms)) → Prop) (c : (Int32 → Int32 → Int32 → Int32 → ms → Prop) × (ms → Prop)) => b_readFrame_223 y.1 y.2.1 y.2.2.1 y.2.2.2.1 y.2.2.2.2.1 y.2.2.2.2.2.1 y.2.2.2.2.2.2 c.1 (fun z0 z1 z2 z3 z4 z5 z6 => R (z0, z1, z2, z3, z4, z5, z6)) c.2)) (O := (fun (o : ((Int32 → Int32 → Int32 → Int32 → ms → Prop) × (ms → Prop)) → Prop) => (∃ (a0 : Int32) (a1 : Int32) (a2 : Int32) (a3 : Int32) (a4 : ms), o = fun c => c.1 a0 a1 a2 a3 a4) ∨ (∃ (a0 : ms), o = fun c => c.2 a0))) (fun y R c hy => d_b_readFrame_223 hy (fun a0 a1 a2 a3 a4 ha ia => Or.inr ⟨(fun c => c.1 a0 a1 a2 a3 a4), Or.inl ⟨a0, a1, a2, a3, a4, rfl⟩, ha, fun R' c' => ia c'.1 (fun z0 z1 z2 z3 z4 z5 z6 => R' (z0, z1, z2, z3, z4, z5, z6)) c'.2⟩) (fun a0 a1 a2 a3 a4 a5 a6 ha ia => Or.inl ⟨(a0, a1, a2, a3, a4, a5, a6), ha, fun R' c' => ia c'.1 (fun z0 z1 z2 z3 z4 z5 z6 => R' (z0, z1, z2, z3, z4, z5, z6)) c'.2⟩) (fun a0 ha ia => Or.inr ⟨(fun c => c.2 a0), Or.inr (⟨a0, rfl⟩), ha, fun R' c' => ia c'.1 (fun z0 z1 z2 z3 z4 z5 z6 => R' (z0, z1, z2, z3, z4, z5, z6)) c'.2⟩)) (l_e_readFrame_223.mp h)
  rcases ho with ⟨a0, a1, a2, a3, a4, rfl⟩ | ⟨a0, rfl⟩
  · exact k_R192 _ _ _ _ _ hoc (fun R192' K' => Iff.trans l_e_readFrame_223 (hi (R192', K')))
  · exact k_K _ hoc (fun R192' K' => Iff.trans l_e_readFrame_223 (hi (R192', K')))
theorem v_e_readFrame_223 {x2 : Int32} {x3 : Int32} {x4 : Int32} {x5 : Int32} {x6 : Int32} {x7 : Int32} {S : ms} {R192 : Int32 → Int32 → Int32 → Int32 → ms → Prop} {K : ms → Prop} (h : e_readFrame_223 x2 x3 x4 x5 x6 x7 S R192 K) {G : Prop} (Inv : Int32 → Int32 → ms → Prop) (h0 : Inv x6 x7 S) (hs : ∀ (yx6 : Int32) (yx7 : Int32) (yS : ms) (R : Int32 → Int32 → Int32 → Int32 → Int32 → Int32 → ms → Prop), Inv yx6 yx7 yS → b_readFrame_223 x2 x3 x4 x5 yx6 yx7 yS R192 R K → (∃ (zx6 : Int32) (zx7 : Int32) (zS : ms), R x2 x3 x4 x5 zx6 zx7 zS ∧ Inv zx6 zx7 zS) ∨ G) : G := by
  obtain ⟨I, μ, i0, is⟩ := h
  have go : ∀ (n : Nat) (yx6 : Int32) (yx7 : Int32) (yS : ms), μ x2 x3 x4 x5 yx6 yx7 yS < n → I x2 x3 x4 x5 yx6 yx7 yS → Inv yx6 yx7 yS → G := by
    intro n
    induction n with
    | zero => intro yx6 yx7 yS hy; exact absurd hy (Nat.not_lt_zero _)
    | succ n ih =>
      intro yx6 yx7 yS hy hI hV
      rcases hs yx6 yx7 yS _ hV (is x2 x3 x4 x5 yx6 yx7 yS hI) with ⟨zx6, zx7, zS, ⟨hz, hm⟩, hv⟩ | g
      · exact ih zx6 zx7 zS (Nat.lt_of_lt_of_le hm (Nat.le_of_lt_succ hy)) hz hv
      · exact g
  exact go _ x6 x7 S (Nat.lt_succ_self _) i0 h0
theorem r_e_readFrame_223 {x2 : Int32} {x3 : Int32} {x4 : Int32} {x5 : Int32} {x6 : Int32} {x7 : Int32} {S : ms} {R192 : Int32 → Int32 → Int32 → Int32 → ms → Prop} {K : ms → Prop} (h : e_readFrame_223 x2 x3 x4 x5 x6 x7 S R192 K) : b_readFrame_223 x2 x3 x4 x5 x6 x7 S R192 (fun zx2 zx3 zx4 zx5 zx6 zx7 zS => e_readFrame_223 zx2 zx3 zx4 zx5 zx6 zx7 zS R192 K) K := by
  obtain ⟨I, μ, i0, is⟩ := h
  exact d_b_readFrame_223 (is x2 x3 x4 x5 x6 x7 S i0) (fun a0 a1 a2 a3 a4 ha ia => (ia _ _ _).mpr ha) (fun a0 a1 a2 a3 a4 a5 a6 ha ia => (ia _ _ _).mpr ⟨I, μ, ha.1, is⟩) (fun a0 ha ia => (ia _ _ _).mpr ha)
set_option maxHeartbeats 1000000 in
theorem d_b_readFrame_192 {x2 : Int32} {x3 : Int32} {x4 : Int32} {x5 : Int32} {S : ms} {R192 : Int32 → Int32 → Int32 → Int32 → ms → Prop} {K : ms → Prop} (h : b_readFrame_192 x2 x3 x4 x5 S R192 K) {Q : Prop} (k_R192 : ∀ (a0 : Int32) (a1 : Int32) (a2 : Int32) (a3 : Int32) (a4 : ms), R192 a0 a1 a2 a3 a4 → (∀ (R192' : Int32 → Int32 → Int32 → Int32 → ms → Prop) (K' : ms → Prop), b_readFrame_192 x2 x3 x4 x5 S R192' K' ↔ R192' a0 a1 a2 a3 a4) → Q) (k_K : ∀ (a0 : ms), K a0 → (∀ (R192' : Int32 → Int32 → Int32 → Int32 → ms → Prop) (K' : ms → Prop), b_readFrame_192 x2 x3 x4 x5 S R192' K' ↔ K' a0) → Q) : Q := by
  unfold b_readFrame_192 at h
  refine dt_p h (fun c_1 h_2 => ?_) (fun c_1 h_2 => ?_)
  ·
    exact d_b_readFrame_426 h_2 (fun a0 h_4 i_3 => k_K a0 h_4 (fun _ _ => Iff.trans (dt_1 c_1 (fun n => n c_1)) (i_3 _)))
  ·
    refine dt_n h_2 (fun c_5 h_6 => ?_) (fun c_5 h_6 => ?_)
    ·
      exact d_b_readFrame_426 h_6 (fun a0 h_8 i_7 => k_K a0 h_8 (fun _ _ => Iff.trans (dt_2 c_1 c_1) (Iff.trans (dt_1 c_5 c_5) (i_7 _))))
    ·
      refine d_p_next h_6 (fun v213 S213 h_10 i_9 => ?_)
      exact d_e_readFrame_223 (And.right h_10) (fun a0 a1 a2 a3 a4 h_12 i_11 => k_R192 a0 a1 a2 a3 a4 h_12 (fun _ _ => Iff.trans (dt_2 c_1 c_1) (Iff.trans (dt_2 (fun n => n c_5) c_5) (Iff.trans (i_9 _) (Iff.trans (dt_a (And.left h_10)) (i_11 _ _)))))) (fun a0 h_14 i_13 => k_K a0 h_14 (fun _ _ => Iff.trans (dt_2 c_1 c_1) (Iff.trans (dt_2 (fun n => n c_5) c_5) (Iff.trans (i_9 _) (Iff.trans (dt_a (And.left h_10)) (i_13 _ _))))))
theorem l_e_readFrame_192  {x2 : Int32} {x3 : Int32} {x4 : Int32} {x5 : Int32} {S : ms} {K : ms → Prop} : e_readFrame_192 x2 x3 x4 x5 S K ↔ lpE (C := (ms → Prop)) (fun (y : (Int32) × (Int32) × (Int32) × (Int32) × (ms)) (R : ((Int32) × (Int32) × (Int32) × (Int32) × (ms)) → Prop) (c : (ms → Prop)) => b_readFrame_192 y.1 y.2.1 y.2.2.1 y.2.2.2.1 y.2.2.2.2 (fun z0 z1 z2 z3 z4 => R (z0, z1, z2, z3, z4)) c) (x2, x3, x4, x5, S) K :=
  ⟨fun ⟨I, μ, h0, hs⟩ => ⟨fun t => I t.1 t.2.1 t.2.2.1 t.2.2.2.1 t.2.2.2.2, fun t => μ t.1 t.2.1 t.2.2.1 t.2.2.2.1 t.2.2.2.2, h0, fun t ht => hs _ _ _ _ _ ht⟩, fun ⟨I, μ, h0, hs⟩ => ⟨fun y0 y1 y2 y3 y4 => I (y0, y1, y2, y3, y4), fun y0 y1 y2 y3 y4 => μ (y0, y1, y2, y3, y4), h0, fun y0 y1 y2 y3 y4 hy => hs (y0, y1, y2, y3, y4) hy⟩⟩
set_option maxHeartbeats 1000000 in
theorem d_e_readFrame_192 {x2 : Int32} {x3 : Int32} {x4 : Int32} {x5 : Int32} {S : ms} {K : ms → Prop} (h : e_readFrame_192 x2 x3 x4 x5 S K) {Q : Prop} (k_K : ∀ (a0 : ms), K a0 → (∀ (K' : ms → Prop), e_readFrame_192 x2 x3 x4 x5 S K' ↔ K' a0) → Q) : Q := by
  obtain ⟨o, ho, hoc, hi⟩ := lp_det (C := (ms → Prop)) (b := (fun (y : (Int32) × (Int32) × (Int32) × (Int32) × (ms)) (R : ((Int32) × (Int32) × (Int32) × (Int32) × (ms)) → Prop) (c : (ms → Prop)) => b_readFrame_192 y.1 y.2.1 y.2.2.1 y.2.2.2.1 y.2.2.2.2 (fun z0 z1 z2 z3 z4 => R (z0, z1, z2, z3, z4)) c)) (O := (fun (o : ((ms → Prop)) → Prop) => (∃ (a0 : ms), o = fun c => c a0))) (fun y R c hy => d_b_readFrame_192 hy (fun a0 a1 a2 a3 a4 ha ia => Or.inl ⟨(a0, a1, a2, a3, a4), ha, fun R' c' => ia (fun z0 z1 z2 z3 z4 => R' (z0, z1, z2, z3, z4)) c'⟩) (fun a0 ha ia => Or.inr ⟨(fun c => c a0), ⟨a0, rfl⟩, ha, fun R' c' => ia (fun z0 z1 z2 z3 z4 => R' (z0, z1, z2, z3, z4)) c'⟩)) (l_e_readFrame_192.mp h)
  rcases ho with ⟨a0, rfl⟩
  · exact k_K _ hoc (fun K' => Iff.trans l_e_readFrame_192 (hi K'))
theorem v_e_readFrame_192 {x2 : Int32} {x3 : Int32} {x4 : Int32} {x5 : Int32} {S : ms} {K : ms → Prop} (h : e_readFrame_192 x2 x3 x4 x5 S K) {G : Prop} (Inv : Int32 → ms → Prop) (h0 : Inv x5 S) (hs : ∀ (yx5 : Int32) (yS : ms) (R : Int32 → Int32 → Int32 → Int32 → ms → Prop), Inv yx5 yS → b_readFrame_192 x2 x3 x4 yx5 yS R K → (∃ (zx5 : Int32) (zS : ms), R x2 x3 x4 zx5 zS ∧ Inv zx5 zS) ∨ G) : G := by
  obtain ⟨I, μ, i0, is⟩ := h
  have go : ∀ (n : Nat) (yx5 : Int32) (yS : ms), μ x2 x3 x4 yx5 yS < n → I x2 x3 x4 yx5 yS → Inv yx5 yS → G := by
    intro n
    induction n with
    | zero => intro yx5 yS hy; exact absurd hy (Nat.not_lt_zero _)
    | succ n ih =>
      intro yx5 yS hy hI hV
      rcases hs yx5 yS _ hV (is x2 x3 x4 yx5 yS hI) with ⟨zx5, zS, ⟨hz, hm⟩, hv⟩ | g
      · exact ih zx5 zS (Nat.lt_of_lt_of_le hm (Nat.le_of_lt_succ hy)) hz hv
      · exact g
  exact go _ x5 S (Nat.lt_succ_self _) i0 h0
theorem r_e_readFrame_192 {x2 : Int32} {x3 : Int32} {x4 : Int32} {x5 : Int32} {S : ms} {K : ms → Prop} (h : e_readFrame_192 x2 x3 x4 x5 S K) : b_readFrame_192 x2 x3 x4 x5 S (fun zx2 zx3 zx4 zx5 zS => e_readFrame_192 zx2 zx3 zx4 zx5 zS K) K := by
  obtain ⟨I, μ, i0, is⟩ := h
  exact d_b_readFrame_192 (is x2 x3 x4 x5 S i0) (fun a0 a1 a2 a3 a4 ha ia => (ia _ _).mpr ⟨I, μ, ha.1, is⟩) (fun a0 ha ia => (ia _ _).mpr ha)
set_option maxHeartbeats 1000000 in
theorem d_b_readFrame_189 {x2 : Int32} {x3 : Int32} {x4 : Int32} {S : ms} {K : ms → Prop} (h : b_readFrame_189 x2 x3 x4 S K) {Q : Prop} (k_K : ∀ (a0 : ms), K a0 → (∀ (K' : ms → Prop), b_readFrame_189 x2 x3 x4 S K' ↔ K' a0) → Q) : Q := by
  unfold b_readFrame_189 at h
  exact d_e_readFrame_192 h (fun a0 h_2 i_1 => k_K a0 h_2 (fun _ => i_1 _))
set_option maxHeartbeats 1000000 in
theorem d_b_readFrame_143 {x2 : Int32} {x3 : Int32} {x4 : Int32} {s1 : Int32} {S : ms} {K : ms → Prop} (h : b_readFrame_143 x2 x3 x4 s1 S K) {Q : Prop} (k_K : ∀ (a0 : ms), K a0 → (∀ (K' : ms → Prop), b_readFrame_143 x2 x3 x4 s1 S K' ↔ K' a0) → Q) : Q := by
  unfold b_readFrame_143 at h
  refine d_p_must h (fun S149 h_2 i_1 => ?_)
  refine dt_n h_2 (fun c_3 h_4 => ?_) (fun c_3 h_4 => ?_)
  ·
    exact d_b_readFrame_189 h_4 (fun a0 h_6 i_5 => k_K a0 h_6 (fun _ => Iff.trans (i_1 _) (Iff.trans (dt_1 c_3 c_3) (i_5 _))))
  ·
    refine dt_p h_4 (fun c_7 h_8 => ?_) (fun c_7 h_8 => ?_)
    ·
      exact d_b_readFrame_189 h_8 (fun a0 h_10 i_9 => k_K a0 h_10 (fun _ => Iff.trans (i_1 _) (Iff.trans (dt_2 (fun n => n c_3) c_3) (Iff.trans (dt_1 c_7 (fun n => n c_7)) (i_9 _)))))
    ·
      refine d_p_fail h_8 (fun v184 S184 h_12 i_11 => ?_)
      exact d_b_readFrame_189 h_12 (fun a0 h_14 i_13 => k_K a0 h_14 (fun _ => Iff.trans (i_1 _) (Iff.trans (dt_2 (fun n => n c_3) c_3) (Iff.trans (dt_2 c_7 c_7) (Iff.trans (i_11 _) (i_13 _))))))
set_option maxHeartbeats 1000000 in
theorem d_b_readFrame_138 {x2 : Int32} {x3 : Int32} {x4 : Int32} {S : ms} {K : ms → Prop} (h : b_readFrame_138 x2 x3 x4 S K) {Q : Prop} (k_K : ∀ (a0 : ms), K a0 → (∀ (K' : ms → Prop), b_readFrame_138 x2 x3 x4 S K' ↔ K' a0) → Q) : Q := by
  unfold b_readFrame_138 at h
  exact d_b_readFrame_143 h (fun a0 h_2 i_1 => k_K a0 h_2 (fun _ => i_1 _))
set_option maxHeartbeats 1000000 in
theorem d_b_readFrame_123 {x2 : Int32} {x3 : Int32} {s0 : Int32} {S : ms} {K : ms → Prop} (h : b_readFrame_123 x2 x3 s0 S K) {Q : Prop} (k_K : ∀ (a0 : ms), K a0 → (∀ (K' : ms → Prop), b_readFrame_123 x2 x3 s0 S K' ↔ K' a0) → Q) : Q := by
  unfold b_readFrame_123 at h
  refine dt_p h (fun c_1 h_2 => ?_) (fun c_1 h_2 => ?_)
  ·
    exact d_b_readFrame_138 h_2 (fun a0 h_4 i_3 => k_K a0 h_4 (fun _ => Iff.trans (dt_1 c_1 (fun n => n c_1)) (i_3 _)))
  ·
    refine dt_n h_2 (fun c_5 h_6 => ?_) (fun c_5 h_6 => ?_)
    ·
      exact d_b_readFrame_143 h_6 (fun a0 h_8 i_7 => k_K a0 h_8 (fun _ => Iff.trans (dt_2 c_1 c_1) (Iff.trans (dt_1 c_5 c_5) (i_7 _))))
    ·
      exact d_b_readFrame_138 h_6 (fun a0 h_10 i_9 => k_K a0 h_10 (fun _ => Iff.trans (dt_2 c_1 c_1) (Iff.trans (dt_2 (fun n => n c_5) c_5) (i_9 _))))
set_option maxHeartbeats 1000000 in
theorem d_b_readFrame_99 {x2 : Int32} {x3 : Int32} {s1 : Int32} {S : ms} {K : ms → Prop} (h : b_readFrame_99 x2 x3 s1 S K) {Q : Prop} (k_K : ∀ (a0 : ms), K a0 → (∀ (K' : ms → Prop), b_readFrame_99 x2 x3 s1 S K' ↔ K' a0) → Q) : Q := by
  unfold b_readFrame_99 at h
  refine d_p_must h (fun S105 h_2 i_1 => ?_)
  refine dt_n h_2 (fun c_3 h_4 => ?_) (fun c_3 h_4 => ?_)
  ·
    exact d_b_readFrame_123 h_4 (fun a0 h_6 i_5 => k_K a0 h_6 (fun _ => Iff.trans (i_1 _) (Iff.trans (dt_1 c_3 c_3) (i_5 _))))
  ·
    refine d_p_next h_4 (fun v116 S116 h_8 i_7 => ?_)
    exact d_b_readFrame_123 h_8 (fun a0 h_10 i_9 => k_K a0 h_10 (fun _ => Iff.trans (i_1 _) (Iff.trans (dt_2 (fun n => n c_3) c_3) (Iff.trans (i_7 _) (i_9 _)))))
set_option maxHeartbeats 1000000 in
theorem d_b_readFrame_98 {x2 : Int32} {x3 : Int32} {S : ms} {K : ms → Prop} (h : b_readFrame_98 x2 x3 S K) {Q : Prop} (k_K : ∀ (a0 : ms), K a0 → (∀ (K' : ms → Prop), b_readFrame_98 x2 x3 S K' ↔ K' a0) → Q) : Q := by
  unfold b_readFrame_98 at h
  exact d_b_readFrame_99 h (fun a0 h_2 i_1 => k_K a0 h_2 (fun _ => i_1 _))
set_option maxHeartbeats 1000000 in
theorem d_b_readFrame_82 {x2 : Int32} {s0 : Int32} {S : ms} {K : ms → Prop} (h : b_readFrame_82 x2 s0 S K) {Q : Prop} (k_K : ∀ (a0 : ms), K a0 → (∀ (K' : ms → Prop), b_readFrame_82 x2 s0 S K' ↔ K' a0) → Q) : Q := by
  unfold b_readFrame_82 at h
  refine dt_p h (fun c_1 h_2 => ?_) (fun c_1 h_2 => ?_)
  ·
    exact d_b_readFrame_98 h_2 (fun a0 h_4 i_3 => k_K a0 h_4 (fun _ => Iff.trans (dt_1 c_1 (fun n => n c_1)) (i_3 _)))
  ·
    refine dt_p h_2 (fun c_5 h_6 => ?_) (fun c_5 h_6 => ?_)
    ·
      exact d_b_readFrame_98 h_6 (fun a0 h_8 i_7 => k_K a0 h_8 (fun _ => Iff.trans (dt_2 c_1 c_1) (Iff.trans (dt_1 c_5 (fun n => n c_5)) (i_7 _))))
    ·
      exact d_b_readFrame_99 h_6 (fun a0 h_10 i_9 => k_K a0 h_10 (fun _ => Iff.trans (dt_2 c_1 c_1) (Iff.trans (dt_2 c_5 c_5) (i_9 _))))
set_option maxHeartbeats 1000000 in
theorem d_b_readFrame_58 {x2 : Int32} {s1 : Int32} {S : ms} {K : ms → Prop} (h : b_readFrame_58 x2 s1 S K) {Q : Prop} (k_K : ∀ (a0 : ms), K a0 → (∀ (K' : ms → Prop), b_readFrame_58 x2 s1 S K' ↔ K' a0) → Q) : Q := by
  unfold b_readFrame_58 at h
  refine d_p_must h (fun S64 h_2 i_1 => ?_)
  refine dt_n h_2 (fun c_3 h_4 => ?_) (fun c_3 h_4 => ?_)
  ·
    exact d_b_readFrame_82 h_4 (fun a0 h_6 i_5 => k_K a0 h_6 (fun _ => Iff.trans (i_1 _) (Iff.trans (dt_1 c_3 c_3) (i_5 _))))
  ·
    refine d_p_nextTwo h_4 (fun v75 S75 h_8 i_7 => ?_)
    exact d_b_readFrame_82 h_8 (fun a0 h_10 i_9 => k_K a0 h_10 (fun _ => Iff.trans (i_1 _) (Iff.trans (dt_2 (fun n => n c_3) c_3) (Iff.trans (i_7 _) (i_9 _)))))
set_option maxHeartbeats 1000000 in
theorem d_b_readFrame_57 {x2 : Int32} {S : ms} {K : ms → Prop} (h : b_readFrame_57 x2 S K) {Q : Prop} (k_K : ∀ (a0 : ms), K a0 → (∀ (K' : ms → Prop), b_readFrame_57 x2 S K' ↔ K' a0) → Q) : Q := by
  unfold b_readFrame_57 at h
  exact d_b_readFrame_58 h (fun a0 h_2 i_1 => k_K a0 h_2 (fun _ => i_1 _))
set_option maxHeartbeats 1000000 in
theorem d_b_readFrame_41 {s0 : Int32} {S : ms} {K : ms → Prop} (h : b_readFrame_41 s0 S K) {Q : Prop} (k_K : ∀ (a0 : ms), K a0 → (∀ (K' : ms → Prop), b_readFrame_41 s0 S K' ↔ K' a0) → Q) : Q := by
  unfold b_readFrame_41 at h
  refine dt_p h (fun c_1 h_2 => ?_) (fun c_1 h_2 => ?_)
  ·
    exact d_b_readFrame_57 h_2 (fun a0 h_4 i_3 => k_K a0 h_4 (fun _ => Iff.trans (dt_1 c_1 (fun n => n c_1)) (i_3 _)))
  ·
    refine dt_p h_2 (fun c_5 h_6 => ?_) (fun c_5 h_6 => ?_)
    ·
      exact d_b_readFrame_57 h_6 (fun a0 h_8 i_7 => k_K a0 h_8 (fun _ => Iff.trans (dt_2 c_1 c_1) (Iff.trans (dt_1 c_5 (fun n => n c_5)) (i_7 _))))
    ·
      exact d_b_readFrame_58 h_6 (fun a0 h_10 i_9 => k_K a0 h_10 (fun _ => Iff.trans (dt_2 c_1 c_1) (Iff.trans (dt_2 c_5 c_5) (i_9 _))))
set_option maxHeartbeats 1000000 in
theorem d_b_readFrame_17 {s1 : Int32} {S : ms} {K : ms → Prop} (h : b_readFrame_17 s1 S K) {Q : Prop} (k_K : ∀ (a0 : ms), K a0 → (∀ (K' : ms → Prop), b_readFrame_17 s1 S K' ↔ K' a0) → Q) : Q := by
  unfold b_readFrame_17 at h
  refine d_p_must h (fun S23 h_2 i_1 => ?_)
  refine dt_n h_2 (fun c_3 h_4 => ?_) (fun c_3 h_4 => ?_)
  ·
    exact d_b_readFrame_41 h_4 (fun a0 h_6 i_5 => k_K a0 h_6 (fun _ => Iff.trans (i_1 _) (Iff.trans (dt_1 c_3 c_3) (i_5 _))))
  ·
    refine d_p_nextTwo h_4 (fun v34 S34 h_8 i_7 => ?_)
    exact d_b_readFrame_41 h_8 (fun a0 h_10 i_9 => k_K a0 h_10 (fun _ => Iff.trans (i_1 _) (Iff.trans (dt_2 (fun n => n c_3) c_3) (Iff.trans (i_7 _) (i_9 _)))))
set_option maxHeartbeats 1000000 in
theorem d_p_readFrame {S : ms} {K : ms → Prop} (h : p_readFrame S K) {Q : Prop} (k_K : ∀ (a0 : ms), K a0 → (∀ (K' : ms → Prop), p_readFrame S K' ↔ K' a0) → Q) : Q := by
  unfold p_readFrame at h
  refine d_p_next h (fun v1 S1 h_2 i_1 => ?_)
  refine dt_n h_2 (fun c_3 h_4 => ?_) (fun c_3 h_4 => ?_)
  ·
    exact d_b_readFrame_17 h_4 (fun a0 h_6 i_5 => k_K a0 h_6 (fun _ => Iff.trans (i_1 _) (Iff.trans (dt_1 c_3 c_3) (i_5 _))))
  ·
    exact d_b_readFrame_17 h_4 (fun a0 h_8 i_7 => k_K a0 h_8 (fun _ => Iff.trans (i_1 _) (Iff.trans (dt_2 (fun n => n c_3) c_3) (i_7 _))))
set_option maxHeartbeats 1000000 in
theorem d_b_layerNamed_29 {x1 : Int32} {x3 : Int32} {s0 : Int32} {S : ms} {R4 : Int32 → Int32 → Int32 → ms → Prop} {K : Int32 → ms → Prop} (h : b_layerNamed_29 x1 x3 s0 S R4 K) {Q : Prop} (k_R4 : ∀ (a0 : Int32) (a1 : Int32) (a2 : Int32) (a3 : ms), R4 a0 a1 a2 a3 → (∀ (R4' : Int32 → Int32 → Int32 → ms → Prop) (K' : Int32 → ms → Prop), b_layerNamed_29 x1 x3 s0 S R4' K' ↔ R4' a0 a1 a2 a3) → Q) (k_K : ∀ (a0 : Int32) (a1 : ms), K a0 a1 → (∀ (R4' : Int32 → Int32 → Int32 → ms → Prop) (K' : Int32 → ms → Prop), b_layerNamed_29 x1 x3 s0 S R4' K' ↔ K' a0 a1) → Q) : Q := by
  unfold b_layerNamed_29 at h
  exact k_R4 _ _ _ _ h (fun _ _ => Iff.rfl)
set_option maxHeartbeats 1000000 in
theorem d_b_layerNamed_4 {x1 : Int32} {x2 : Int32} {x3 : Int32} {S : ms} {R4 : Int32 → Int32 → Int32 → ms → Prop} {K : Int32 → ms → Prop} (h : b_layerNamed_4 x1 x2 x3 S R4 K) {Q : Prop} (k_R4 : ∀ (a0 : Int32) (a1 : Int32) (a2 : Int32) (a3 : ms), R4 a0 a1 a2 a3 → (∀ (R4' : Int32 → Int32 → Int32 → ms → Prop) (K' : Int32 → ms → Prop), b_layerNamed_4 x1 x2 x3 S R4' K' ↔ R4' a0 a1 a2 a3) → Q) (k_K : ∀ (a0 : Int32) (a1 : ms), K a0 a1 → (∀ (R4' : Int32 → Int32 → Int32 → ms → Prop) (K' : Int32 → ms → Prop), b_layerNamed_4 x1 x2 x3 S R4' K' ↔ K' a0 a1) → Q) : Q := by
  unfold b_layerNamed_4 at h
  refine dt_p (And.right h) (fun c_1 h_2 => ?_) (fun c_1 h_2 => ?_)
  ·
    exact k_K _ _ h_2 (fun _ _ => Iff.trans (dt_a (And.left h)) (dt_1 c_1 (fun n => n c_1)))
  ·
    refine dt_n (And.right h_2) (fun c_3 h_4 => ?_) (fun c_3 h_4 => ?_)
    ·
      exact d_b_layerNamed_29 h_4 (fun a0 a1 a2 a3 h_6 i_5 => k_R4 a0 a1 a2 a3 h_6 (fun _ _ => Iff.trans (dt_a (And.left h)) (Iff.trans (dt_2 c_1 c_1) (Iff.trans (dt_a (And.left h_2)) (Iff.trans (dt_1 c_3 c_3) (i_5 _ _)))))) (fun a0 a1 h_8 i_7 => k_K a0 a1 h_8 (fun _ _ => Iff.trans (dt_a (And.left h)) (Iff.trans (dt_2 c_1 c_1) (Iff.trans (dt_a (And.left h_2)) (Iff.trans (dt_1 c_3 c_3) (i_7 _ _))))))
    ·
      exact d_b_layerNamed_29 h_4 (fun a0 a1 a2 a3 h_10 i_9 => k_R4 a0 a1 a2 a3 h_10 (fun _ _ => Iff.trans (dt_a (And.left h)) (Iff.trans (dt_2 c_1 c_1) (Iff.trans (dt_a (And.left h_2)) (Iff.trans (dt_2 (fun n => n c_3) c_3) (i_9 _ _)))))) (fun a0 a1 h_12 i_11 => k_K a0 a1 h_12 (fun _ _ => Iff.trans (dt_a (And.left h)) (Iff.trans (dt_2 c_1 c_1) (Iff.trans (dt_a (And.left h_2)) (Iff.trans (dt_2 (fun n => n c_3) c_3) (i_11 _ _))))))
theorem l_e_layerNamed_4  {x1 : Int32} {x2 : Int32} {x3 : Int32} {S : ms} {K : Int32 → ms → Prop} : e_layerNamed_4 x1 x2 x3 S K ↔ lpE (C := (Int32 → ms → Prop)) (fun (y : (Int32) × (Int32) × (Int32) × (ms)) (R : ((Int32) × (Int32) × (Int32) × (ms)) → Prop) (c : (Int32 → ms → Prop)) => b_layerNamed_4 y.1 y.2.1 y.2.2.1 y.2.2.2 (fun z0 z1 z2 z3 => R (z0, z1, z2, z3)) c) (x1, x2, x3, S) K :=
  ⟨fun ⟨I, μ, h0, hs⟩ => ⟨fun t => I t.1 t.2.1 t.2.2.1 t.2.2.2, fun t => μ t.1 t.2.1 t.2.2.1 t.2.2.2, h0, fun t ht => hs _ _ _ _ ht⟩, fun ⟨I, μ, h0, hs⟩ => ⟨fun y0 y1 y2 y3 => I (y0, y1, y2, y3), fun y0 y1 y2 y3 => μ (y0, y1, y2, y3), h0, fun y0 y1 y2 y3 hy => hs (y0, y1, y2, y3) hy⟩⟩
set_option maxHeartbeats 1000000 in
theorem d_e_layerNamed_4 {x1 : Int32} {x2 : Int32} {x3 : Int32} {S : ms} {K : Int32 → ms → Prop} (h : e_layerNamed_4 x1 x2 x3 S K) {Q : Prop} (k_K : ∀ (a0 : Int32) (a1 : ms), K a0 a1 → (∀ (K' : Int32 → ms → Prop), e_layerNamed_4 x1 x2 x3 S K' ↔ K' a0 a1) → Q) : Q := by
  obtain ⟨o, ho, hoc, hi⟩ := lp_det (C := (Int32 → ms → Prop)) (b := (fun (y : (Int32) × (Int32) × (Int32) × (ms)) (R : ((Int32) × (Int32) × (Int32) × (ms)) → Prop) (c : (Int32 → ms → Prop)) => b_layerNamed_4 y.1 y.2.1 y.2.2.1 y.2.2.2 (fun z0 z1 z2 z3 => R (z0, z1, z2, z3)) c)) (O := (fun (o : ((Int32 → ms → Prop)) → Prop) => (∃ (a0 : Int32) (a1 : ms), o = fun c => c a0 a1))) (fun y R c hy => d_b_layerNamed_4 hy (fun a0 a1 a2 a3 ha ia => Or.inl ⟨(a0, a1, a2, a3), ha, fun R' c' => ia (fun z0 z1 z2 z3 => R' (z0, z1, z2, z3)) c'⟩) (fun a0 a1 ha ia => Or.inr ⟨(fun c => c a0 a1), ⟨a0, a1, rfl⟩, ha, fun R' c' => ia (fun z0 z1 z2 z3 => R' (z0, z1, z2, z3)) c'⟩)) (l_e_layerNamed_4.mp h)
  rcases ho with ⟨a0, a1, rfl⟩
  · exact k_K _ _ hoc (fun K' => Iff.trans l_e_layerNamed_4 (hi K'))
theorem v_e_layerNamed_4 {x1 : Int32} {x2 : Int32} {x3 : Int32} {S : ms} {K : Int32 → ms → Prop} (h : e_layerNamed_4 x1 x2 x3 S K) {G : Prop} (Inv : Int32 → Int32 → ms → Prop) (h0 : Inv x2 x3 S) (hs : ∀ (yx2 : Int32) (yx3 : Int32) (yS : ms) (R : Int32 → Int32 → Int32 → ms → Prop), Inv yx2 yx3 yS → b_layerNamed_4 x1 yx2 yx3 yS R K → (∃ (zx2 : Int32) (zx3 : Int32) (zS : ms), R x1 zx2 zx3 zS ∧ Inv zx2 zx3 zS) ∨ G) : G := by
  obtain ⟨I, μ, i0, is⟩ := h
  have go : ∀ (n : Nat) (yx2 : Int32) (yx3 : Int32) (yS : ms), μ x1 yx2 yx3 yS < n → I x1 yx2 yx3 yS → Inv yx2 yx3 yS → G := by
    intro n
    induction n with
    | zero => intro yx2 yx3 yS hy; exact absurd hy (Nat.not_lt_zero _)
    | succ n ih =>
      intro yx2 yx3 yS hy hI hV
      rcases hs yx2 yx3 yS _ hV (is x1 yx2 yx3 yS hI) with ⟨zx2, zx3, zS, ⟨hz, hm⟩, hv⟩ | g
      · exact ih zx2 zx3 zS (Nat.lt_of_lt_of_le hm (Nat.le_of_lt_succ hy)) hz hv
      · exact g
  exact go _ x2 x3 S (Nat.lt_succ_self _) i0 h0
theorem r_e_layerNamed_4 {x1 : Int32} {x2 : Int32} {x3 : Int32} {S : ms} {K : Int32 → ms → Prop} (h : e_layerNamed_4 x1 x2 x3 S K) : b_layerNamed_4 x1 x2 x3 S (fun zx1 zx2 zx3 zS => e_layerNamed_4 zx1 zx2 zx3 zS K) K := by
  obtain ⟨I, μ, i0, is⟩ := h
  exact d_b_layerNamed_4 (is x1 x2 x3 S i0) (fun a0 a1 a2 a3 ha ia => (ia _ _).mpr ⟨I, μ, ha.1, is⟩) (fun a0 a1 ha ia => (ia _ _).mpr ha)
set_option maxHeartbeats 1000000 in
theorem d_p_layerNamed {x1 : Int32} {S : ms} {K : Int32 → ms → Prop} (h : p_layerNamed x1 S K) {Q : Prop} (k_K : ∀ (a0 : Int32) (a1 : ms), K a0 a1 → (∀ (K' : Int32 → ms → Prop), p_layerNamed x1 S K' ↔ K' a0 a1) → Q) : Q := by
  unfold p_layerNamed at h
  exact d_e_layerNamed_4 h (fun a0 a1 h_2 i_1 => k_K a0 a1 h_2 (fun _ => i_1 _))
set_option maxHeartbeats 1000000 in
theorem d_b_readScanHead_557 {S : ms} {K : ms → Prop} (h : b_readScanHead_557 S K) {Q : Prop} (k_K : ∀ (a0 : ms), K a0 → (∀ (K' : ms → Prop), b_readScanHead_557 S K' ↔ K' a0) → Q) : Q := by
  unfold b_readScanHead_557 at h
  exact k_K _ h (fun _ => Iff.rfl)
set_option maxHeartbeats 1000000 in
theorem d_b_readScanHead_497 {x1 : Int32} {x5 : Int32} {x6 : Int32} {S : ms} {R468 : Int32 → Int32 → ms → Prop} {R497 : Int32 → Int32 → Int32 → ms → Prop} {K : ms → Prop} (h : b_readScanHead_497 x1 x5 x6 S R468 R497 K) {Q : Prop} (k_R468 : ∀ (a0 : Int32) (a1 : Int32) (a2 : ms), R468 a0 a1 a2 → (∀ (R468' : Int32 → Int32 → ms → Prop) (R497' : Int32 → Int32 → Int32 → ms → Prop) (K' : ms → Prop), b_readScanHead_497 x1 x5 x6 S R468' R497' K' ↔ R468' a0 a1 a2) → Q) (k_R497 : ∀ (a0 : Int32) (a1 : Int32) (a2 : Int32) (a3 : ms), R497 a0 a1 a2 a3 → (∀ (R468' : Int32 → Int32 → ms → Prop) (R497' : Int32 → Int32 → Int32 → ms → Prop) (K' : ms → Prop), b_readScanHead_497 x1 x5 x6 S R468' R497' K' ↔ R497' a0 a1 a2 a3) → Q) (k_K : ∀ (a0 : ms), K a0 → (∀ (R468' : Int32 → Int32 → ms → Prop) (R497' : Int32 → Int32 → Int32 → ms → Prop) (K' : ms → Prop), b_readScanHead_497 x1 x5 x6 S R468' R497' K' ↔ K' a0) → Q) : Q := by
  unfold b_readScanHead_497 at h
  refine dt_p h (fun c_1 h_2 => ?_) (fun c_1 h_2 => ?_)
  ·
    exact k_R468 _ _ _ h_2 (fun _ _ _ => dt_1 c_1 (fun n => n c_1))
  ·
    exact k_R497 _ _ _ _ (And.right (And.right (And.right (And.right (And.right h_2))))) (fun _ _ _ => Iff.trans (dt_2 c_1 c_1) (Iff.trans (dt_a (And.left h_2)) (Iff.trans (dt_a (And.left (And.right h_2))) (Iff.trans (dt_a (And.left (And.right (And.right h_2)))) (Iff.trans (dt_a (And.left (And.right (And.right (And.right h_2))))) (dt_a (And.left (And.right (And.right (And.right (And.right h_2)))))))))))
theorem l_e_readScanHead_497  {x1 : Int32} {x5 : Int32} {x6 : Int32} {S : ms} {R468 : Int32 → Int32 → ms → Prop} {K : ms → Prop} : e_readScanHead_497 x1 x5 x6 S R468 K ↔ lpE (C := (Int32 → Int32 → ms → Prop) × (ms → Prop)) (fun (y : (Int32) × (Int32) × (Int32) × (ms)) (R : ((Int32) × (Int32) × (Int32) × (ms)) → Prop) (c : (Int32 → Int32 → ms → Prop) × (ms → Prop)) => b_readScanHead_497 y.1 y.2.1 y.2.2.1 y.2.2.2 c.1 (fun z0 z1 z2 z3 => R (z0, z1, z2, z3)) c.2) (x1, x5, x6, S) (R468, K) :=
  ⟨fun ⟨I, μ, h0, hs⟩ => ⟨fun t => I t.1 t.2.1 t.2.2.1 t.2.2.2, fun t => μ t.1 t.2.1 t.2.2.1 t.2.2.2, h0, fun t ht => hs _ _ _ _ ht⟩, fun ⟨I, μ, h0, hs⟩ => ⟨fun y0 y1 y2 y3 => I (y0, y1, y2, y3), fun y0 y1 y2 y3 => μ (y0, y1, y2, y3), h0, fun y0 y1 y2 y3 hy => hs (y0, y1, y2, y3) hy⟩⟩
set_option maxHeartbeats 1000000 in
theorem d_e_readScanHead_497 {x1 : Int32} {x5 : Int32} {x6 : Int32} {S : ms} {R468 : Int32 → Int32 → ms → Prop} {K : ms → Prop} (h : e_readScanHead_497 x1 x5 x6 S R468 K) {Q : Prop} (k_R468 : ∀ (a0 : Int32) (a1 : Int32) (a2 : ms), R468 a0 a1 a2 → (∀ (R468' : Int32 → Int32 → ms → Prop) (K' : ms → Prop), e_readScanHead_497 x1 x5 x6 S R468' K' ↔ R468' a0 a1 a2) → Q) (k_K : ∀ (a0 : ms), K a0 → (∀ (R468' : Int32 → Int32 → ms → Prop) (K' : ms → Prop), e_readScanHead_497 x1 x5 x6 S R468' K' ↔ K' a0) → Q) : Q := by
  obtain ⟨o, ho, hoc, hi⟩ := lp_det (C := (Int32 → Int32 → ms → Prop) × (ms → Prop)) (b := (fun (y : (Int32) × (Int32) × (Int32) × (ms)) (R : ((Int32) × (Int32) × (Int32) × (ms)) → Prop) (c : (Int32 → Int32 → ms → Prop) × (ms → Prop)) => b_readScanHead_497 y.1 y.2.1 y.2.2.1 y.2.2.2 c.1 (fun z0 z1 z2 z3 => R (z0, z1, z2, z3)) c.2)) (O := (fun (o : ((Int32 → Int32 → ms → Prop) × (ms → Prop)) → Prop) => (∃ (a0 : Int32) (a1 : Int32) (a2 : ms), o = fun c => c.1 a0 a1 a2) ∨ (∃ (a0 : ms), o = fun c => c.2 a0))) (fun y R c hy => d_b_readScanHead_497 hy (fun a0 a1 a2 ha ia => Or.inr ⟨(fun c => c.1 a0 a1 a2), Or.inl ⟨a0, a1, a2, rfl⟩, ha, fun R' c' => ia c'.1 (fun z0 z1 z2 z3 => R' (z0, z1, z2, z3)) c'.2⟩) (fun a0 a1 a2 a3 ha ia => Or.inl ⟨(a0, a1, a2, a3), ha, fun R' c' => ia c'.1 (fun z0 z1 z2 z3 => R' (z0, z1, z2, z3)) c'.2⟩) (fun a0 ha ia => Or.inr ⟨(fun c => c.2 a0), Or.inr (⟨a0, rfl⟩), ha, fun R' c' => ia c'.1 (fun z0 z1 z2 z3 => R' (z0, z1, z2, z3)) c'.2⟩)) (l_e_readScanHead_497.mp h)
  rcases ho with ⟨a0, a1, a2, rfl⟩ | ⟨a0, rfl⟩
  · exact k_R468 _ _ _ hoc (fun R468' K' => Iff.trans l_e_readScanHead_497 (hi (R468', K')))
  · exact k_K _ hoc (fun R468' K' => Iff.trans l_e_readScanHead_497 (hi (R468', K')))
theorem v_e_readScanHead_497 {x1 : Int32} {x5 : Int32} {x6 : Int32} {S : ms} {R468 : Int32 → Int32 → ms → Prop} {K : ms → Prop} (h : e_readScanHead_497 x1 x5 x6 S R468 K) {G : Prop} (Inv : Int32 → ms → Prop) (h0 : Inv x6 S) (hs : ∀ (yx6 : Int32) (yS : ms) (R : Int32 → Int32 → Int32 → ms → Prop), Inv yx6 yS → b_readScanHead_497 x1 x5 yx6 yS R468 R K → (∃ (zx6 : Int32) (zS : ms), R x1 x5 zx6 zS ∧ Inv zx6 zS) ∨ G) : G := by
  obtain ⟨I, μ, i0, is⟩ := h
  have go : ∀ (n : Nat) (yx6 : Int32) (yS : ms), μ x1 x5 yx6 yS < n → I x1 x5 yx6 yS → Inv yx6 yS → G := by
    intro n
    induction n with
    | zero => intro yx6 yS hy; exact absurd hy (Nat.not_lt_zero _)
    | succ n ih =>
      intro yx6 yS hy hI hV
      rcases hs yx6 yS _ hV (is x1 x5 yx6 yS hI) with ⟨zx6, zS, ⟨hz, hm⟩, hv⟩ | g
      · exact ih zx6 zS (Nat.lt_of_lt_of_le hm (Nat.le_of_lt_succ hy)) hz hv
      · exact g
  exact go _ x6 S (Nat.lt_succ_self _) i0 h0
theorem r_e_readScanHead_497 {x1 : Int32} {x5 : Int32} {x6 : Int32} {S : ms} {R468 : Int32 → Int32 → ms → Prop} {K : ms → Prop} (h : e_readScanHead_497 x1 x5 x6 S R468 K) : b_readScanHead_497 x1 x5 x6 S R468 (fun zx1 zx5 zx6 zS => e_readScanHead_497 zx1 zx5 zx6 zS R468 K) K := by
  obtain ⟨I, μ, i0, is⟩ := h
  exact d_b_readScanHead_497 (is x1 x5 x6 S i0) (fun a0 a1 a2 ha ia => (ia _ _ _).mpr ha) (fun a0 a1 a2 a3 ha ia => (ia _ _ _).mpr ⟨I, μ, ha.1, is⟩) (fun a0 ha ia => (ia _ _ _).mpr ha)
set_option maxHeartbeats 1000000 in
theorem d_b_readScanHead_468 {x1 : Int32} {x5 : Int32} {S : ms} {R468 : Int32 → Int32 → ms → Prop} {K : ms → Prop} (h : b_readScanHead_468 x1 x5 S R468 K) {Q : Prop} (k_R468 : ∀ (a0 : Int32) (a1 : Int32) (a2 : ms), R468 a0 a1 a2 → (∀ (R468' : Int32 → Int32 → ms → Prop) (K' : ms → Prop), b_readScanHead_468 x1 x5 S R468' K' ↔ R468' a0 a1 a2) → Q) (k_K : ∀ (a0 : ms), K a0 → (∀ (R468' : Int32 → Int32 → ms → Prop) (K' : ms → Prop), b_readScanHead_468 x1 x5 S R468' K' ↔ K' a0) → Q) : Q := by
  unfold b_readScanHead_468 at h
  refine dt_p h (fun c_1 h_2 => ?_) (fun c_1 h_2 => ?_)
  ·
    exact d_b_readScanHead_557 h_2 (fun a0 h_4 i_3 => k_K a0 h_4 (fun _ _ => Iff.trans (dt_1 c_1 (fun n => n c_1)) (i_3 _)))
  ·
    refine dt_n h_2 (fun c_5 h_6 => ?_) (fun c_5 h_6 => ?_)
    ·
      exact d_b_readScanHead_557 h_6 (fun a0 h_8 i_7 => k_K a0 h_8 (fun _ _ => Iff.trans (dt_2 c_1 c_1) (Iff.trans (dt_1 c_5 c_5) (i_7 _))))
    ·
      exact d_e_readScanHead_497 (And.right (And.right h_6)) (fun a0 a1 a2 h_10 i_9 => k_R468 a0 a1 a2 h_10 (fun _ _ => Iff.trans (dt_2 c_1 c_1) (Iff.trans (dt_2 (fun n => n c_5) c_5) (Iff.trans (dt_a (And.left h_6)) (Iff.trans (dt_a (And.left (And.right h_6))) (i_9 _ _)))))) (fun a0 h_12 i_11 => k_K a0 h_12 (fun _ _ => Iff.trans (dt_2 c_1 c_1) (Iff.trans (dt_2 (fun n => n c_5) c_5) (Iff.trans (dt_a (And.left h_6)) (Iff.trans (dt_a (And.left (And.right h_6))) (i_11 _ _))))))
theorem l_e_readScanHead_468  {x1 : Int32} {x5 : Int32} {S : ms} {K : ms → Prop} : e_readScanHead_468 x1 x5 S K ↔ lpE (C := (ms → Prop)) (fun (y : (Int32) × (Int32) × (ms)) (R : ((Int32) × (Int32) × (ms)) → Prop) (c : (ms → Prop)) => b_readScanHead_468 y.1 y.2.1 y.2.2 (fun z0 z1 z2 => R (z0, z1, z2)) c) (x1, x5, S) K :=
  ⟨fun ⟨I, μ, h0, hs⟩ => ⟨fun t => I t.1 t.2.1 t.2.2, fun t => μ t.1 t.2.1 t.2.2, h0, fun t ht => hs _ _ _ ht⟩, fun ⟨I, μ, h0, hs⟩ => ⟨fun y0 y1 y2 => I (y0, y1, y2), fun y0 y1 y2 => μ (y0, y1, y2), h0, fun y0 y1 y2 hy => hs (y0, y1, y2) hy⟩⟩
set_option maxHeartbeats 1000000 in
theorem d_e_readScanHead_468 {x1 : Int32} {x5 : Int32} {S : ms} {K : ms → Prop} (h : e_readScanHead_468 x1 x5 S K) {Q : Prop} (k_K : ∀ (a0 : ms), K a0 → (∀ (K' : ms → Prop), e_readScanHead_468 x1 x5 S K' ↔ K' a0) → Q) : Q := by
  obtain ⟨o, ho, hoc, hi⟩ := lp_det (C := (ms → Prop)) (b := (fun (y : (Int32) × (Int32) × (ms)) (R : ((Int32) × (Int32) × (ms)) → Prop) (c : (ms → Prop)) => b_readScanHead_468 y.1 y.2.1 y.2.2 (fun z0 z1 z2 => R (z0, z1, z2)) c)) (O := (fun (o : ((ms → Prop)) → Prop) => (∃ (a0 : ms), o = fun c => c a0))) (fun y R c hy => d_b_readScanHead_468 hy (fun a0 a1 a2 ha ia => Or.inl ⟨(a0, a1, a2), ha, fun R' c' => ia (fun z0 z1 z2 => R' (z0, z1, z2)) c'⟩) (fun a0 ha ia => Or.inr ⟨(fun c => c a0), ⟨a0, rfl⟩, ha, fun R' c' => ia (fun z0 z1 z2 => R' (z0, z1, z2)) c'⟩)) (l_e_readScanHead_468.mp h)
  rcases ho with ⟨a0, rfl⟩
  · exact k_K _ hoc (fun K' => Iff.trans l_e_readScanHead_468 (hi K'))
theorem v_e_readScanHead_468 {x1 : Int32} {x5 : Int32} {S : ms} {K : ms → Prop} (h : e_readScanHead_468 x1 x5 S K) {G : Prop} (Inv : Int32 → ms → Prop) (h0 : Inv x5 S) (hs : ∀ (yx5 : Int32) (yS : ms) (R : Int32 → Int32 → ms → Prop), Inv yx5 yS → b_readScanHead_468 x1 yx5 yS R K → (∃ (zx5 : Int32) (zS : ms), R x1 zx5 zS ∧ Inv zx5 zS) ∨ G) : G := by
  obtain ⟨I, μ, i0, is⟩ := h
  have go : ∀ (n : Nat) (yx5 : Int32) (yS : ms), μ x1 yx5 yS < n → I x1 yx5 yS → Inv yx5 yS → G := by
    intro n
    induction n with
    | zero => intro yx5 yS hy; exact absurd hy (Nat.not_lt_zero _)
    | succ n ih =>
      intro yx5 yS hy hI hV
      rcases hs yx5 yS _ hV (is x1 yx5 yS hI) with ⟨zx5, zS, ⟨hz, hm⟩, hv⟩ | g
      · exact ih zx5 zS (Nat.lt_of_lt_of_le hm (Nat.le_of_lt_succ hy)) hz hv
      · exact g
  exact go _ x5 S (Nat.lt_succ_self _) i0 h0
theorem r_e_readScanHead_468 {x1 : Int32} {x5 : Int32} {S : ms} {K : ms → Prop} (h : e_readScanHead_468 x1 x5 S K) : b_readScanHead_468 x1 x5 S (fun zx1 zx5 zS => e_readScanHead_468 zx1 zx5 zS K) K := by
  obtain ⟨I, μ, i0, is⟩ := h
  exact d_b_readScanHead_468 (is x1 x5 S i0) (fun a0 a1 a2 ha ia => (ia _ _).mpr ⟨I, μ, ha.1, is⟩) (fun a0 ha ia => (ia _ _).mpr ha)
set_option maxHeartbeats 1000000 in
theorem d_b_readScanHead_460 {x1 : Int32} {S : ms} {K : ms → Prop} (h : b_readScanHead_460 x1 S K) {Q : Prop} (k_K : ∀ (a0 : ms), K a0 → (∀ (K' : ms → Prop), b_readScanHead_460 x1 S K' ↔ K' a0) → Q) : Q := by
  unfold b_readScanHead_460 at h
  exact d_e_readScanHead_468 h (fun a0 h_2 i_1 => k_K a0 h_2 (fun _ => i_1 _))
set_option maxHeartbeats 1000000 in
theorem d_b_readScanHead_432 {x1 : Int32} {x2 : Int32} {x4 : Int32} {S : ms} {K : ms → Prop} (h : b_readScanHead_432 x1 x2 x4 S K) {Q : Prop} (k_K : ∀ (a0 : ms), K a0 → (∀ (K' : ms → Prop), b_readScanHead_432 x1 x2 x4 S K' ↔ K' a0) → Q) : Q := by
  unfold b_readScanHead_432 at h
  refine dt_n h (fun c_1 h_2 => ?_) (fun c_1 h_2 => ?_)
  ·
    exact d_b_readScanHead_460 h_2 (fun a0 h_4 i_3 => k_K a0 h_4 (fun _ => Iff.trans (dt_1 c_1 c_1) (i_3 _)))
  ·
    refine dt_p h_2 (fun c_5 h_6 => ?_) (fun c_5 h_6 => ?_)
    ·
      exact d_b_readScanHead_460 h_6 (fun a0 h_8 i_7 => k_K a0 h_8 (fun _ => Iff.trans (dt_2 (fun n => n c_1) c_1) (Iff.trans (dt_1 c_5 (fun n => n c_5)) (i_7 _))))
    ·
      refine dt_p h_6 (fun c_9 h_10 => ?_) (fun c_9 h_10 => ?_)
      ·
        exact d_b_readScanHead_460 h_10 (fun a0 h_12 i_11 => k_K a0 h_12 (fun _ => Iff.trans (dt_2 (fun n => n c_1) c_1) (Iff.trans (dt_2 c_5 c_5) (Iff.trans (dt_1 c_9 (fun n => n c_9)) (i_11 _)))))
      ·
        refine d_p_fail h_10 (fun v455 S455 h_14 i_13 => ?_)
        exact d_b_readScanHead_460 h_14 (fun a0 h_16 i_15 => k_K a0 h_16 (fun _ => Iff.trans (dt_2 (fun n => n c_1) c_1) (Iff.trans (dt_2 c_5 c_5) (Iff.trans (dt_2 c_9 c_9) (Iff.trans (i_13 _) (i_15 _))))))
set_option maxHeartbeats 1000000 in
theorem d_b_readScanHead_417 {x1 : Int32} {x2 : Int32} {x4 : Int32} {x5 : Int32} {s1 : Int32} {S : ms} {R375 : Int32 → Int32 → Int32 → Int32 → ms → Prop} {K : ms → Prop} (h : b_readScanHead_417 x1 x2 x4 x5 s1 S R375 K) {Q : Prop} (k_R375 : ∀ (a0 : Int32) (a1 : Int32) (a2 : Int32) (a3 : Int32) (a4 : ms), R375 a0 a1 a2 a3 a4 → (∀ (R375' : Int32 → Int32 → Int32 → Int32 → ms → Prop) (K' : ms → Prop), b_readScanHead_417 x1 x2 x4 x5 s1 S R375' K' ↔ R375' a0 a1 a2 a3 a4) → Q) (k_K : ∀ (a0 : ms), K a0 → (∀ (R375' : Int32 → Int32 → Int32 → Int32 → ms → Prop) (K' : ms → Prop), b_readScanHead_417 x1 x2 x4 x5 s1 S R375' K' ↔ K' a0) → Q) : Q := by
  unfold b_readScanHead_417 at h
  refine d_p_must h (fun S423 h_2 i_1 => ?_)
  exact k_R375 _ _ _ _ _ h_2 (fun _ _ => i_1 _)
set_option maxHeartbeats 1000000 in
theorem d_b_readScanHead_409 {x1 : Int32} {x2 : Int32} {x4 : Int32} {x5 : Int32} {s1 : Int32} {s2 : Int32} {S : ms} {R375 : Int32 → Int32 → Int32 → Int32 → ms → Prop} {K : ms → Prop} (h : b_readScanHead_409 x1 x2 x4 x5 s1 s2 S R375 K) {Q : Prop} (k_R375 : ∀ (a0 : Int32) (a1 : Int32) (a2 : Int32) (a3 : Int32) (a4 : ms), R375 a0 a1 a2 a3 a4 → (∀ (R375' : Int32 → Int32 → Int32 → Int32 → ms → Prop) (K' : ms → Prop), b_readScanHead_409 x1 x2 x4 x5 s1 s2 S R375' K' ↔ R375' a0 a1 a2 a3 a4) → Q) (k_K : ∀ (a0 : ms), K a0 → (∀ (R375' : Int32 → Int32 → Int32 → Int32 → ms → Prop) (K' : ms → Prop), b_readScanHead_409 x1 x2 x4 x5 s1 s2 S R375' K' ↔ K' a0) → Q) : Q := by
  unfold b_readScanHead_409 at h
  refine dt_n h (fun c_1 h_2 => ?_) (fun c_1 h_2 => ?_)
  ·
    exact d_b_readScanHead_417 h_2 (fun a0 a1 a2 a3 a4 h_4 i_3 => k_R375 a0 a1 a2 a3 a4 h_4 (fun _ _ => Iff.trans (dt_1 c_1 c_1) (i_3 _ _))) (fun a0 h_6 i_5 => k_K a0 h_6 (fun _ _ => Iff.trans (dt_1 c_1 c_1) (i_5 _ _)))
  ·
    exact d_b_readScanHead_417 h_2 (fun a0 a1 a2 a3 a4 h_8 i_7 => k_R375 a0 a1 a2 a3 a4 h_8 (fun _ _ => Iff.trans (dt_2 (fun n => n c_1) c_1) (i_7 _ _))) (fun a0 h_10 i_9 => k_K a0 h_10 (fun _ _ => Iff.trans (dt_2 (fun n => n c_1) c_1) (i_9 _ _)))
set_option maxHeartbeats 1000000 in
theorem d_b_readScanHead_375 {x1 : Int32} {x2 : Int32} {x4 : Int32} {x5 : Int32} {S : ms} {R375 : Int32 → Int32 → Int32 → Int32 → ms → Prop} {K : ms → Prop} (h : b_readScanHead_375 x1 x2 x4 x5 S R375 K) {Q : Prop} (k_R375 : ∀ (a0 : Int32) (a1 : Int32) (a2 : Int32) (a3 : Int32) (a4 : ms), R375 a0 a1 a2 a3 a4 → (∀ (R375' : Int32 → Int32 → Int32 → Int32 → ms → Prop) (K' : ms → Prop), b_readScanHead_375 x1 x2 x4 x5 S R375' K' ↔ R375' a0 a1 a2 a3 a4) → Q) (k_K : ∀ (a0 : ms), K a0 → (∀ (R375' : Int32 → Int32 → Int32 → Int32 → ms → Prop) (K' : ms → Prop), b_readScanHead_375 x1 x2 x4 x5 S R375' K' ↔ K' a0) → Q) : Q := by
  unfold b_readScanHead_375 at h
  refine dt_p h (fun c_1 h_2 => ?_) (fun c_1 h_2 => ?_)
  ·
    exact d_b_readScanHead_432 h_2 (fun a0 h_4 i_3 => k_K a0 h_4 (fun _ _ => Iff.trans (dt_1 c_1 (fun n => n c_1)) (i_3 _)))
  ·
    refine dt_n h_2 (fun c_5 h_6 => ?_) (fun c_5 h_6 => ?_)
    ·
      exact d_b_readScanHead_432 h_6 (fun a0 h_8 i_7 => k_K a0 h_8 (fun _ _ => Iff.trans (dt_2 c_1 c_1) (Iff.trans (dt_1 c_5 c_5) (i_7 _))))
    ·
      refine d_p_next h_6 (fun v389 S389 h_10 i_9 => ?_)
      refine dt_n h_10 (fun c_11 h_12 => ?_) (fun c_11 h_12 => ?_)
      ·
        exact d_b_readScanHead_409 h_12 (fun a0 a1 a2 a3 a4 h_14 i_13 => k_R375 a0 a1 a2 a3 a4 h_14 (fun _ _ => Iff.trans (dt_2 c_1 c_1) (Iff.trans (dt_2 (fun n => n c_5) c_5) (Iff.trans (i_9 _) (Iff.trans (dt_1 c_11 c_11) (i_13 _ _)))))) (fun a0 h_16 i_15 => k_K a0 h_16 (fun _ _ => Iff.trans (dt_2 c_1 c_1) (Iff.trans (dt_2 (fun n => n c_5) c_5) (Iff.trans (i_9 _) (Iff.trans (dt_1 c_11 c_11) (i_15 _ _))))))
      ·
        exact d_b_readScanHead_409 h_12 (fun a0 a1 a2 a3 a4 h_18 i_17 => k_R375 a0 a1 a2 a3 a4 h_18 (fun _ _ => Iff.trans (dt_2 c_1 c_1) (Iff.trans (dt_2 (fun n => n c_5) c_5) (Iff.trans (i_9 _) (Iff.trans (dt_2 (fun n => n c_11) c_11) (i_17 _ _)))))) (fun a0 h_20 i_19 => k_K a0 h_20 (fun _ _ => Iff.trans (dt_2 c_1 c_1) (Iff.trans (dt_2 (fun n => n c_5) c_5) (Iff.trans (i_9 _) (Iff.trans (dt_2 (fun n => n c_11) c_11) (i_19 _ _))))))
theorem l_e_readScanHead_375  {x1 : Int32} {x2 : Int32} {x4 : Int32} {x5 : Int32} {S : ms} {K : ms → Prop} : e_readScanHead_375 x1 x2 x4 x5 S K ↔ lpE (C := (ms → Prop)) (fun (y : (Int32) × (Int32) × (Int32) × (Int32) × (ms)) (R : ((Int32) × (Int32) × (Int32) × (Int32) × (ms)) → Prop) (c : (ms → Prop)) => b_readScanHead_375 y.1 y.2.1 y.2.2.1 y.2.2.2.1 y.2.2.2.2 (fun z0 z1 z2 z3 z4 => R (z0, z1, z2, z3, z4)) c) (x1, x2, x4, x5, S) K :=
  ⟨fun ⟨I, μ, h0, hs⟩ => ⟨fun t => I t.1 t.2.1 t.2.2.1 t.2.2.2.1 t.2.2.2.2, fun t => μ t.1 t.2.1 t.2.2.1 t.2.2.2.1 t.2.2.2.2, h0, fun t ht => hs _ _ _ _ _ ht⟩, fun ⟨I, μ, h0, hs⟩ => ⟨fun y0 y1 y2 y3 y4 => I (y0, y1, y2, y3, y4), fun y0 y1 y2 y3 y4 => μ (y0, y1, y2, y3, y4), h0, fun y0 y1 y2 y3 y4 hy => hs (y0, y1, y2, y3, y4) hy⟩⟩
set_option maxHeartbeats 1000000 in
theorem d_e_readScanHead_375 {x1 : Int32} {x2 : Int32} {x4 : Int32} {x5 : Int32} {S : ms} {K : ms → Prop} (h : e_readScanHead_375 x1 x2 x4 x5 S K) {Q : Prop} (k_K : ∀ (a0 : ms), K a0 → (∀ (K' : ms → Prop), e_readScanHead_375 x1 x2 x4 x5 S K' ↔ K' a0) → Q) : Q := by
  obtain ⟨o, ho, hoc, hi⟩ := lp_det (C := (ms → Prop)) (b := (fun (y : (Int32) × (Int32) × (Int32) × (Int32) × (ms)) (R : ((Int32) × (Int32) × (Int32) × (Int32) × (ms)) → Prop) (c : (ms → Prop)) => b_readScanHead_375 y.1 y.2.1 y.2.2.1 y.2.2.2.1 y.2.2.2.2 (fun z0 z1 z2 z3 z4 => R (z0, z1, z2, z3, z4)) c)) (O := (fun (o : ((ms → Prop)) → Prop) => (∃ (a0 : ms), o = fun c => c a0))) (fun y R c hy => d_b_readScanHead_375 hy (fun a0 a1 a2 a3 a4 ha ia => Or.inl ⟨(a0, a1, a2, a3, a4), ha, fun R' c' => ia (fun z0 z1 z2 z3 z4 => R' (z0, z1, z2, z3, z4)) c'⟩) (fun a0 ha ia => Or.inr ⟨(fun c => c a0), ⟨a0, rfl⟩, ha, fun R' c' => ia (fun z0 z1 z2 z3 z4 => R' (z0, z1, z2, z3, z4)) c'⟩)) (l_e_readScanHead_375.mp h)
  rcases ho with ⟨a0, rfl⟩
  · exact k_K _ hoc (fun K' => Iff.trans l_e_readScanHead_375 (hi K'))
theorem v_e_readScanHead_375 {x1 : Int32} {x2 : Int32} {x4 : Int32} {x5 : Int32} {S : ms} {K : ms → Prop} (h : e_readScanHead_375 x1 x2 x4 x5 S K) {G : Prop} (Inv : Int32 → ms → Prop) (h0 : Inv x5 S) (hs : ∀ (yx5 : Int32) (yS : ms) (R : Int32 → Int32 → Int32 → Int32 → ms → Prop), Inv yx5 yS → b_readScanHead_375 x1 x2 x4 yx5 yS R K → (∃ (zx5 : Int32) (zS : ms), R x1 x2 x4 zx5 zS ∧ Inv zx5 zS) ∨ G) : G := by
  obtain ⟨I, μ, i0, is⟩ := h
  have go : ∀ (n : Nat) (yx5 : Int32) (yS : ms), μ x1 x2 x4 yx5 yS < n → I x1 x2 x4 yx5 yS → Inv yx5 yS → G := by
    intro n
    induction n with
    | zero => intro yx5 yS hy; exact absurd hy (Nat.not_lt_zero _)
    | succ n ih =>
      intro yx5 yS hy hI hV
      rcases hs yx5 yS _ hV (is x1 x2 x4 yx5 yS hI) with ⟨zx5, zS, ⟨hz, hm⟩, hv⟩ | g
      · exact ih zx5 zS (Nat.lt_of_lt_of_le hm (Nat.le_of_lt_succ hy)) hz hv
      · exact g
  exact go _ x5 S (Nat.lt_succ_self _) i0 h0
theorem r_e_readScanHead_375 {x1 : Int32} {x2 : Int32} {x4 : Int32} {x5 : Int32} {S : ms} {K : ms → Prop} (h : e_readScanHead_375 x1 x2 x4 x5 S K) : b_readScanHead_375 x1 x2 x4 x5 S (fun zx1 zx2 zx4 zx5 zS => e_readScanHead_375 zx1 zx2 zx4 zx5 zS K) K := by
  obtain ⟨I, μ, i0, is⟩ := h
  exact d_b_readScanHead_375 (is x1 x2 x4 x5 S i0) (fun a0 a1 a2 a3 a4 ha ia => (ia _ _).mpr ⟨I, μ, ha.1, is⟩) (fun a0 ha ia => (ia _ _).mpr ha)
set_option maxHeartbeats 1000000 in
theorem d_b_readScanHead_372 {x1 : Int32} {x2 : Int32} {x4 : Int32} {S : ms} {K : ms → Prop} (h : b_readScanHead_372 x1 x2 x4 S K) {Q : Prop} (k_K : ∀ (a0 : ms), K a0 → (∀ (K' : ms → Prop), b_readScanHead_372 x1 x2 x4 S K' ↔ K' a0) → Q) : Q := by
  unfold b_readScanHead_372 at h
  exact d_e_readScanHead_375 h (fun a0 h_2 i_1 => k_K a0 h_2 (fun _ => i_1 _))
set_option maxHeartbeats 1000000 in
theorem d_b_readScanHead_366 {x1 : Int32} {x2 : Int32} {x3 : Int32} {x4 : Int32} {x5 : Int32} {S : ms} {R79 : Int32 → Int32 → Int32 → Int32 → Int32 → ms → Prop} {K : ms → Prop} (h : b_readScanHead_366 x1 x2 x3 x4 x5 S R79 K) {Q : Prop} (k_R79 : ∀ (a0 : Int32) (a1 : Int32) (a2 : Int32) (a3 : Int32) (a4 : Int32) (a5 : ms), R79 a0 a1 a2 a3 a4 a5 → (∀ (R79' : Int32 → Int32 → Int32 → Int32 → Int32 → ms → Prop) (K' : ms → Prop), b_readScanHead_366 x1 x2 x3 x4 x5 S R79' K' ↔ R79' a0 a1 a2 a3 a4 a5) → Q) (k_K : ∀ (a0 : ms), K a0 → (∀ (R79' : Int32 → Int32 → Int32 → Int32 → Int32 → ms → Prop) (K' : ms → Prop), b_readScanHead_366 x1 x2 x3 x4 x5 S R79' K' ↔ K' a0) → Q) : Q := by
  unfold b_readScanHead_366 at h
  exact k_R79 _ _ _ _ _ _ h (fun _ _ => Iff.rfl)
set_option maxHeartbeats 1000000 in
theorem d_b_readScanHead_297 {x1 : Int32} {x2 : Int32} {x3 : Int32} {x4 : Int32} {x5 : Int32} {x7 : Int32} {x8 : Int32} {S : ms} {R79 : Int32 → Int32 → Int32 → Int32 → Int32 → ms → Prop} {K : ms → Prop} (h : b_readScanHead_297 x1 x2 x3 x4 x5 x7 x8 S R79 K) {Q : Prop} (k_R79 : ∀ (a0 : Int32) (a1 : Int32) (a2 : Int32) (a3 : Int32) (a4 : Int32) (a5 : ms), R79 a0 a1 a2 a3 a4 a5 → (∀ (R79' : Int32 → Int32 → Int32 → Int32 → Int32 → ms → Prop) (K' : ms → Prop), b_readScanHead_297 x1 x2 x3 x4 x5 x7 x8 S R79' K' ↔ R79' a0 a1 a2 a3 a4 a5) → Q) (k_K : ∀ (a0 : ms), K a0 → (∀ (R79' : Int32 → Int32 → Int32 → Int32 → Int32 → ms → Prop) (K' : ms → Prop), b_readScanHead_297 x1 x2 x3 x4 x5 x7 x8 S R79' K' ↔ K' a0) → Q) : Q := by
  unfold b_readScanHead_297 at h
  refine dt_n h (fun c_1 h_2 => ?_) (fun c_1 h_2 => ?_)
  ·
    exact d_b_readScanHead_366 h_2 (fun a0 a1 a2 a3 a4 a5 h_4 i_3 => k_R79 a0 a1 a2 a3 a4 a5 h_4 (fun _ _ => Iff.trans (dt_1 c_1 c_1) (i_3 _ _))) (fun a0 h_6 i_5 => k_K a0 h_6 (fun _ _ => Iff.trans (dt_1 c_1 c_1) (i_5 _ _)))
  ·
    exact d_b_readScanHead_366 (And.right (And.right (And.right (And.right (And.right h_2))))) (fun a0 a1 a2 a3 a4 a5 h_8 i_7 => k_R79 a0 a1 a2 a3 a4 a5 h_8 (fun _ _ => Iff.trans (dt_2 (fun n => n c_1) c_1) (Iff.trans (dt_a (And.left h_2)) (Iff.trans (dt_a (And.left (And.right h_2))) (Iff.trans (dt_a (And.left (And.right (And.right h_2)))) (Iff.trans (dt_a (And.left (And.right (And.right (And.right h_2))))) (Iff.trans (dt_a (And.left (And.right (And.right (And.right (And.right h_2)))))) (i_7 _ _)))))))) (fun a0 h_10 i_9 => k_K a0 h_10 (fun _ _ => Iff.trans (dt_2 (fun n => n c_1) c_1) (Iff.trans (dt_a (And.left h_2)) (Iff.trans (dt_a (And.left (And.right h_2))) (Iff.trans (dt_a (And.left (And.right (And.right h_2)))) (Iff.trans (dt_a (And.left (And.right (And.right (And.right h_2))))) (Iff.trans (dt_a (And.left (And.right (And.right (And.right (And.right h_2)))))) (i_9 _ _))))))))
set_option maxHeartbeats 1000000 in
theorem d_b_readScanHead_283 {x1 : Int32} {x2 : Int32} {x3 : Int32} {x4 : Int32} {x5 : Int32} {x7 : Int32} {x8 : Int32} {S : ms} {R79 : Int32 → Int32 → Int32 → Int32 → Int32 → ms → Prop} {K : ms → Prop} (h : b_readScanHead_283 x1 x2 x3 x4 x5 x7 x8 S R79 K) {Q : Prop} (k_R79 : ∀ (a0 : Int32) (a1 : Int32) (a2 : Int32) (a3 : Int32) (a4 : Int32) (a5 : ms), R79 a0 a1 a2 a3 a4 a5 → (∀ (R79' : Int32 → Int32 → Int32 → Int32 → Int32 → ms → Prop) (K' : ms → Prop), b_readScanHead_283 x1 x2 x3 x4 x5 x7 x8 S R79' K' ↔ R79' a0 a1 a2 a3 a4 a5) → Q) (k_K : ∀ (a0 : ms), K a0 → (∀ (R79' : Int32 → Int32 → Int32 → Int32 → Int32 → ms → Prop) (K' : ms → Prop), b_readScanHead_283 x1 x2 x3 x4 x5 x7 x8 S R79' K' ↔ K' a0) → Q) : Q := by
  unfold b_readScanHead_283 at h
  refine d_p_fail h (fun v292 S292 h_2 i_1 => ?_)
  exact d_b_readScanHead_297 h_2 (fun a0 a1 a2 a3 a4 a5 h_4 i_3 => k_R79 a0 a1 a2 a3 a4 a5 h_4 (fun _ _ => Iff.trans (i_1 _) (i_3 _ _))) (fun a0 h_6 i_5 => k_K a0 h_6 (fun _ _ => Iff.trans (i_1 _) (i_5 _ _)))
set_option maxHeartbeats 1000000 in
theorem d_b_readScanHead_241 {x1 : Int32} {x2 : Int32} {x3 : Int32} {x4 : Int32} {x5 : Int32} {x7 : Int32} {x8 : Int32} {s1 : Int32} {S : ms} {R79 : Int32 → Int32 → Int32 → Int32 → Int32 → ms → Prop} {K : ms → Prop} (h : b_readScanHead_241 x1 x2 x3 x4 x5 x7 x8 s1 S R79 K) {Q : Prop} (k_R79 : ∀ (a0 : Int32) (a1 : Int32) (a2 : Int32) (a3 : Int32) (a4 : Int32) (a5 : ms), R79 a0 a1 a2 a3 a4 a5 → (∀ (R79' : Int32 → Int32 → Int32 → Int32 → Int32 → ms → Prop) (K' : ms → Prop), b_readScanHead_241 x1 x2 x3 x4 x5 x7 x8 s1 S R79' K' ↔ R79' a0 a1 a2 a3 a4 a5) → Q) (k_K : ∀ (a0 : ms), K a0 → (∀ (R79' : Int32 → Int32 → Int32 → Int32 → Int32 → ms → Prop) (K' : ms → Prop), b_readScanHead_241 x1 x2 x3 x4 x5 x7 x8 s1 S R79' K' ↔ K' a0) → Q) : Q := by
  unfold b_readScanHead_241 at h
  refine d_p_must h (fun S247 h_2 i_1 => ?_)
  refine dt_n h_2 (fun c_3 h_4 => ?_) (fun c_3 h_4 => ?_)
  ·
    exact d_b_readScanHead_297 h_4 (fun a0 a1 a2 a3 a4 a5 h_6 i_5 => k_R79 a0 a1 a2 a3 a4 a5 h_6 (fun _ _ => Iff.trans (i_1 _) (Iff.trans (dt_1 c_3 c_3) (i_5 _ _)))) (fun a0 h_8 i_7 => k_K a0 h_8 (fun _ _ => Iff.trans (i_1 _) (Iff.trans (dt_1 c_3 c_3) (i_7 _ _))))
  ·
    refine dt_p (And.right h_4) (fun c_9 h_10 => ?_) (fun c_9 h_10 => ?_)
    ·
      exact d_b_readScanHead_283 h_10 (fun a0 a1 a2 a3 a4 a5 h_12 i_11 => k_R79 a0 a1 a2 a3 a4 a5 h_12 (fun _ _ => Iff.trans (i_1 _) (Iff.trans (dt_2 (fun n => n c_3) c_3) (Iff.trans (dt_a (And.left h_4)) (Iff.trans (dt_1 c_9 (fun n => n c_9)) (i_11 _ _)))))) (fun a0 h_14 i_13 => k_K a0 h_14 (fun _ _ => Iff.trans (i_1 _) (Iff.trans (dt_2 (fun n => n c_3) c_3) (Iff.trans (dt_a (And.left h_4)) (Iff.trans (dt_1 c_9 (fun n => n c_9)) (i_13 _ _))))))
    ·
      refine dt_n (And.right h_10) (fun c_15 h_16 => ?_) (fun c_15 h_16 => ?_)
      ·
        exact d_b_readScanHead_297 h_16 (fun a0 a1 a2 a3 a4 a5 h_18 i_17 => k_R79 a0 a1 a2 a3 a4 a5 h_18 (fun _ _ => Iff.trans (i_1 _) (Iff.trans (dt_2 (fun n => n c_3) c_3) (Iff.trans (dt_a (And.left h_4)) (Iff.trans (dt_2 c_9 c_9) (Iff.trans (dt_a (And.left h_10)) (Iff.trans (dt_1 c_15 c_15) (i_17 _ _)))))))) (fun a0 h_20 i_19 => k_K a0 h_20 (fun _ _ => Iff.trans (i_1 _) (Iff.trans (dt_2 (fun n => n c_3) c_3) (Iff.trans (dt_a (And.left h_4)) (Iff.trans (dt_2 c_9 c_9) (Iff.trans (dt_a (And.left h_10)) (Iff.trans (dt_1 c_15 c_15) (i_19 _ _))))))))
      ·
        exact d_b_readScanHead_283 h_16 (fun a0 a1 a2 a3 a4 a5 h_22 i_21 => k_R79 a0 a1 a2 a3 a4 a5 h_22 (fun _ _ => Iff.trans (i_1 _) (Iff.trans (dt_2 (fun n => n c_3) c_3) (Iff.trans (dt_a (And.left h_4)) (Iff.trans (dt_2 c_9 c_9) (Iff.trans (dt_a (And.left h_10)) (Iff.trans (dt_2 (fun n => n c_15) c_15) (i_21 _ _)))))))) (fun a0 h_24 i_23 => k_K a0 h_24 (fun _ _ => Iff.trans (i_1 _) (Iff.trans (dt_2 (fun n => n c_3) c_3) (Iff.trans (dt_a (And.left h_4)) (Iff.trans (dt_2 c_9 c_9) (Iff.trans (dt_a (And.left h_10)) (Iff.trans (dt_2 (fun n => n c_15) c_15) (i_23 _ _))))))))
set_option maxHeartbeats 1000000 in
theorem d_b_readScanHead_236 {x1 : Int32} {x2 : Int32} {x3 : Int32} {x4 : Int32} {x5 : Int32} {x7 : Int32} {x8 : Int32} {S : ms} {R79 : Int32 → Int32 → Int32 → Int32 → Int32 → ms → Prop} {K : ms → Prop} (h : b_readScanHead_236 x1 x2 x3 x4 x5 x7 x8 S R79 K) {Q : Prop} (k_R79 : ∀ (a0 : Int32) (a1 : Int32) (a2 : Int32) (a3 : Int32) (a4 : Int32) (a5 : ms), R79 a0 a1 a2 a3 a4 a5 → (∀ (R79' : Int32 → Int32 → Int32 → Int32 → Int32 → ms → Prop) (K' : ms → Prop), b_readScanHead_236 x1 x2 x3 x4 x5 x7 x8 S R79' K' ↔ R79' a0 a1 a2 a3 a4 a5) → Q) (k_K : ∀ (a0 : ms), K a0 → (∀ (R79' : Int32 → Int32 → Int32 → Int32 → Int32 → ms → Prop) (K' : ms → Prop), b_readScanHead_236 x1 x2 x3 x4 x5 x7 x8 S R79' K' ↔ K' a0) → Q) : Q := by
  unfold b_readScanHead_236 at h
  exact d_b_readScanHead_241 h (fun a0 a1 a2 a3 a4 a5 h_2 i_1 => k_R79 a0 a1 a2 a3 a4 a5 h_2 (fun _ _ => i_1 _ _)) (fun a0 h_4 i_3 => k_K a0 h_4 (fun _ _ => i_3 _ _))
set_option maxHeartbeats 1000000 in
theorem d_b_readScanHead_208 {x1 : Int32} {x2 : Int32} {x3 : Int32} {x4 : Int32} {x5 : Int32} {x7 : Int32} {s0 : Int32} {S : ms} {R79 : Int32 → Int32 → Int32 → Int32 → Int32 → ms → Prop} {K : ms → Prop} (h : b_readScanHead_208 x1 x2 x3 x4 x5 x7 s0 S R79 K) {Q : Prop} (k_R79 : ∀ (a0 : Int32) (a1 : Int32) (a2 : Int32) (a3 : Int32) (a4 : Int32) (a5 : ms), R79 a0 a1 a2 a3 a4 a5 → (∀ (R79' : Int32 → Int32 → Int32 → Int32 → Int32 → ms → Prop) (K' : ms → Prop), b_readScanHead_208 x1 x2 x3 x4 x5 x7 s0 S R79' K' ↔ R79' a0 a1 a2 a3 a4 a5) → Q) (k_K : ∀ (a0 : ms), K a0 → (∀ (R79' : Int32 → Int32 → Int32 → Int32 → Int32 → ms → Prop) (K' : ms → Prop), b_readScanHead_208 x1 x2 x3 x4 x5 x7 s0 S R79' K' ↔ K' a0) → Q) : Q := by
  unfold b_readScanHead_208 at h
  refine dt_p h (fun c_1 h_2 => ?_) (fun c_1 h_2 => ?_)
  ·
    exact d_b_readScanHead_236 h_2 (fun a0 a1 a2 a3 a4 a5 h_4 i_3 => k_R79 a0 a1 a2 a3 a4 a5 h_4 (fun _ _ => Iff.trans (dt_1 c_1 (fun n => n c_1)) (i_3 _ _))) (fun a0 h_6 i_5 => k_K a0 h_6 (fun _ _ => Iff.trans (dt_1 c_1 (fun n => n c_1)) (i_5 _ _)))
  ·
    refine dt_p h_2 (fun c_7 h_8 => ?_) (fun c_7 h_8 => ?_)
    ·
      exact d_b_readScanHead_236 h_8 (fun a0 a1 a2 a3 a4 a5 h_10 i_9 => k_R79 a0 a1 a2 a3 a4 a5 h_10 (fun _ _ => Iff.trans (dt_2 c_1 c_1) (Iff.trans (dt_1 c_7 (fun n => n c_7)) (i_9 _ _)))) (fun a0 h_12 i_11 => k_K a0 h_12 (fun _ _ => Iff.trans (dt_2 c_1 c_1) (Iff.trans (dt_1 c_7 (fun n => n c_7)) (i_11 _ _))))
    ·
      refine dt_p h_8 (fun c_13 h_14 => ?_) (fun c_13 h_14 => ?_)
      ·
        exact d_b_readScanHead_236 h_14 (fun a0 a1 a2 a3 a4 a5 h_16 i_15 => k_R79 a0 a1 a2 a3 a4 a5 h_16 (fun _ _ => Iff.trans (dt_2 c_1 c_1) (Iff.trans (dt_2 c_7 c_7) (Iff.trans (dt_1 c_13 (fun n => n c_13)) (i_15 _ _))))) (fun a0 h_18 i_17 => k_K a0 h_18 (fun _ _ => Iff.trans (dt_2 c_1 c_1) (Iff.trans (dt_2 c_7 c_7) (Iff.trans (dt_1 c_13 (fun n => n c_13)) (i_17 _ _)))))
      ·
        refine dt_n h_14 (fun c_19 h_20 => ?_) (fun c_19 h_20 => ?_)
        ·
          exact d_b_readScanHead_241 h_20 (fun a0 a1 a2 a3 a4 a5 h_22 i_21 => k_R79 a0 a1 a2 a3 a4 a5 h_22 (fun _ _ => Iff.trans (dt_2 c_1 c_1) (Iff.trans (dt_2 c_7 c_7) (Iff.trans (dt_2 c_13 c_13) (Iff.trans (dt_1 c_19 c_19) (i_21 _ _)))))) (fun a0 h_24 i_23 => k_K a0 h_24 (fun _ _ => Iff.trans (dt_2 c_1 c_1) (Iff.trans (dt_2 c_7 c_7) (Iff.trans (dt_2 c_13 c_13) (Iff.trans (dt_1 c_19 c_19) (i_23 _ _))))))
        ·
          exact d_b_readScanHead_236 h_20 (fun a0 a1 a2 a3 a4 a5 h_26 i_25 => k_R79 a0 a1 a2 a3 a4 a5 h_26 (fun _ _ => Iff.trans (dt_2 c_1 c_1) (Iff.trans (dt_2 c_7 c_7) (Iff.trans (dt_2 c_13 c_13) (Iff.trans (dt_2 (fun n => n c_19) c_19) (i_25 _ _)))))) (fun a0 h_28 i_27 => k_K a0 h_28 (fun _ _ => Iff.trans (dt_2 c_1 c_1) (Iff.trans (dt_2 c_7 c_7) (Iff.trans (dt_2 c_13 c_13) (Iff.trans (dt_2 (fun n => n c_19) c_19) (i_27 _ _))))))
set_option maxHeartbeats 1000000 in
theorem d_b_readScanHead_193 {x1 : Int32} {x2 : Int32} {x3 : Int32} {x4 : Int32} {x5 : Int32} {x7 : Int32} {S : ms} {R79 : Int32 → Int32 → Int32 → Int32 → Int32 → ms → Prop} {K : ms → Prop} (h : b_readScanHead_193 x1 x2 x3 x4 x5 x7 S R79 K) {Q : Prop} (k_R79 : ∀ (a0 : Int32) (a1 : Int32) (a2 : Int32) (a3 : Int32) (a4 : Int32) (a5 : ms), R79 a0 a1 a2 a3 a4 a5 → (∀ (R79' : Int32 → Int32 → Int32 → Int32 → Int32 → ms → Prop) (K' : ms → Prop), b_readScanHead_193 x1 x2 x3 x4 x5 x7 S R79' K' ↔ R79' a0 a1 a2 a3 a4 a5) → Q) (k_K : ∀ (a0 : ms), K a0 → (∀ (R79' : Int32 → Int32 → Int32 → Int32 → Int32 → ms → Prop) (K' : ms → Prop), b_readScanHead_193 x1 x2 x3 x4 x5 x7 S R79' K' ↔ K' a0) → Q) : Q := by
  unfold b_readScanHead_193 at h
  refine dt_n h (fun c_1 h_2 => ?_) (fun c_1 h_2 => ?_)
  ·
    exact d_b_readScanHead_208 h_2 (fun a0 a1 a2 a3 a4 a5 h_4 i_3 => k_R79 a0 a1 a2 a3 a4 a5 h_4 (fun _ _ => Iff.trans (dt_1 c_1 c_1) (i_3 _ _))) (fun a0 h_6 i_5 => k_K a0 h_6 (fun _ _ => Iff.trans (dt_1 c_1 c_1) (i_5 _ _)))
  ·
    refine d_p_next h_2 (fun v201 S201 h_8 i_7 => ?_)
    exact d_b_readScanHead_208 h_8 (fun a0 a1 a2 a3 a4 a5 h_10 i_9 => k_R79 a0 a1 a2 a3 a4 a5 h_10 (fun _ _ => Iff.trans (dt_2 (fun n => n c_1) c_1) (Iff.trans (i_7 _) (i_9 _ _)))) (fun a0 h_12 i_11 => k_K a0 h_12 (fun _ _ => Iff.trans (dt_2 (fun n => n c_1) c_1) (Iff.trans (i_7 _) (i_11 _ _))))
set_option maxHeartbeats 1000000 in
theorem d_b_readScanHead_148 {x1 : Int32} {x2 : Int32} {x3 : Int32} {x4 : Int32} {x5 : Int32} {x7 : Int32} {s1 : Int32} {S : ms} {R79 : Int32 → Int32 → Int32 → Int32 → Int32 → ms → Prop} {K : ms → Prop} (h : b_readScanHead_148 x1 x2 x3 x4 x5 x7 s1 S R79 K) {Q : Prop} (k_R79 : ∀ (a0 : Int32) (a1 : Int32) (a2 : Int32) (a3 : Int32) (a4 : Int32) (a5 : ms), R79 a0 a1 a2 a3 a4 a5 → (∀ (R79' : Int32 → Int32 → Int32 → Int32 → Int32 → ms → Prop) (K' : ms → Prop), b_readScanHead_148 x1 x2 x3 x4 x5 x7 s1 S R79' K' ↔ R79' a0 a1 a2 a3 a4 a5) → Q) (k_K : ∀ (a0 : ms), K a0 → (∀ (R79' : Int32 → Int32 → Int32 → Int32 → Int32 → ms → Prop) (K' : ms → Prop), b_readScanHead_148 x1 x2 x3 x4 x5 x7 s1 S R79' K' ↔ K' a0) → Q) : Q := by
  unfold b_readScanHead_148 at h
  refine d_p_must h (fun S154 h_2 i_1 => ?_)
  refine dt_n h_2 (fun c_3 h_4 => ?_) (fun c_3 h_4 => ?_)
  ·
    exact d_b_readScanHead_193 h_4 (fun a0 a1 a2 a3 a4 a5 h_6 i_5 => k_R79 a0 a1 a2 a3 a4 a5 h_6 (fun _ _ => Iff.trans (i_1 _) (Iff.trans (dt_1 c_3 c_3) (i_5 _ _)))) (fun a0 h_8 i_7 => k_K a0 h_8 (fun _ _ => Iff.trans (i_1 _) (Iff.trans (dt_1 c_3 c_3) (i_7 _ _))))
  ·
    refine dt_n (And.right (And.right h_4)) (fun c_9 h_10 => ?_) (fun c_9 h_10 => ?_)
    ·
      exact d_b_readScanHead_193 h_10 (fun a0 a1 a2 a3 a4 a5 h_12 i_11 => k_R79 a0 a1 a2 a3 a4 a5 h_12 (fun _ _ => Iff.trans (i_1 _) (Iff.trans (dt_2 (fun n => n c_3) c_3) (Iff.trans (dt_a (And.left h_4)) (Iff.trans (dt_a (And.left (And.right h_4))) (Iff.trans (dt_1 c_9 c_9) (i_11 _ _))))))) (fun a0 h_14 i_13 => k_K a0 h_14 (fun _ _ => Iff.trans (i_1 _) (Iff.trans (dt_2 (fun n => n c_3) c_3) (Iff.trans (dt_a (And.left h_4)) (Iff.trans (dt_a (And.left (And.right h_4))) (Iff.trans (dt_1 c_9 c_9) (i_13 _ _)))))))
    ·
      refine d_p_fail h_10 (fun v188 S188 h_16 i_15 => ?_)
      exact d_b_readScanHead_193 h_16 (fun a0 a1 a2 a3 a4 a5 h_18 i_17 => k_R79 a0 a1 a2 a3 a4 a5 h_18 (fun _ _ => Iff.trans (i_1 _) (Iff.trans (dt_2 (fun n => n c_3) c_3) (Iff.trans (dt_a (And.left h_4)) (Iff.trans (dt_a (And.left (And.right h_4))) (Iff.trans (dt_2 (fun n => n c_9) c_9) (Iff.trans (i_15 _) (i_17 _ _)))))))) (fun a0 h_20 i_19 => k_K a0 h_20 (fun _ _ => Iff.trans (i_1 _) (Iff.trans (dt_2 (fun n => n c_3) c_3) (Iff.trans (dt_a (And.left h_4)) (Iff.trans (dt_a (And.left (And.right h_4))) (Iff.trans (dt_2 (fun n => n c_9) c_9) (Iff.trans (i_15 _) (i_19 _ _))))))))
set_option maxHeartbeats 1000000 in
theorem d_b_readScanHead_147 {x1 : Int32} {x2 : Int32} {x3 : Int32} {x4 : Int32} {x5 : Int32} {x7 : Int32} {S : ms} {R79 : Int32 → Int32 → Int32 → Int32 → Int32 → ms → Prop} {K : ms → Prop} (h : b_readScanHead_147 x1 x2 x3 x4 x5 x7 S R79 K) {Q : Prop} (k_R79 : ∀ (a0 : Int32) (a1 : Int32) (a2 : Int32) (a3 : Int32) (a4 : Int32) (a5 : ms), R79 a0 a1 a2 a3 a4 a5 → (∀ (R79' : Int32 → Int32 → Int32 → Int32 → Int32 → ms → Prop) (K' : ms → Prop), b_readScanHead_147 x1 x2 x3 x4 x5 x7 S R79' K' ↔ R79' a0 a1 a2 a3 a4 a5) → Q) (k_K : ∀ (a0 : ms), K a0 → (∀ (R79' : Int32 → Int32 → Int32 → Int32 → Int32 → ms → Prop) (K' : ms → Prop), b_readScanHead_147 x1 x2 x3 x4 x5 x7 S R79' K' ↔ K' a0) → Q) : Q := by
  unfold b_readScanHead_147 at h
  exact d_b_readScanHead_148 h (fun a0 a1 a2 a3 a4 a5 h_2 i_1 => k_R79 a0 a1 a2 a3 a4 a5 h_2 (fun _ _ => i_1 _ _)) (fun a0 h_4 i_3 => k_K a0 h_4 (fun _ _ => i_3 _ _))
set_option maxHeartbeats 1000000 in
theorem d_b_readScanHead_139 {x1 : Int32} {x2 : Int32} {x3 : Int32} {x4 : Int32} {x5 : Int32} {x7 : Int32} {s2 : Int32} {S : ms} {R79 : Int32 → Int32 → Int32 → Int32 → Int32 → ms → Prop} {K : ms → Prop} (h : b_readScanHead_139 x1 x2 x3 x4 x5 x7 s2 S R79 K) {Q : Prop} (k_R79 : ∀ (a0 : Int32) (a1 : Int32) (a2 : Int32) (a3 : Int32) (a4 : Int32) (a5 : ms), R79 a0 a1 a2 a3 a4 a5 → (∀ (R79' : Int32 → Int32 → Int32 → Int32 → Int32 → ms → Prop) (K' : ms → Prop), b_readScanHead_139 x1 x2 x3 x4 x5 x7 s2 S R79' K' ↔ R79' a0 a1 a2 a3 a4 a5) → Q) (k_K : ∀ (a0 : ms), K a0 → (∀ (R79' : Int32 → Int32 → Int32 → Int32 → Int32 → ms → Prop) (K' : ms → Prop), b_readScanHead_139 x1 x2 x3 x4 x5 x7 s2 S R79' K' ↔ K' a0) → Q) : Q := by
  unfold b_readScanHead_139 at h
  refine dt_n (And.right h) (fun c_1 h_2 => ?_) (fun c_1 h_2 => ?_)
  ·
    exact d_b_readScanHead_147 h_2 (fun a0 a1 a2 a3 a4 a5 h_4 i_3 => k_R79 a0 a1 a2 a3 a4 a5 h_4 (fun _ _ => Iff.trans (dt_a (And.left h)) (Iff.trans (dt_1 c_1 c_1) (i_3 _ _)))) (fun a0 h_6 i_5 => k_K a0 h_6 (fun _ _ => Iff.trans (dt_a (And.left h)) (Iff.trans (dt_1 c_1 c_1) (i_5 _ _))))
  ·
    exact d_b_readScanHead_148 h_2 (fun a0 a1 a2 a3 a4 a5 h_8 i_7 => k_R79 a0 a1 a2 a3 a4 a5 h_8 (fun _ _ => Iff.trans (dt_a (And.left h)) (Iff.trans (dt_2 (fun n => n c_1) c_1) (i_7 _ _)))) (fun a0 h_10 i_9 => k_K a0 h_10 (fun _ _ => Iff.trans (dt_a (And.left h)) (Iff.trans (dt_2 (fun n => n c_1) c_1) (i_9 _ _))))
set_option maxHeartbeats 1000000 in
theorem d_b_readScanHead_115 {x1 : Int32} {x2 : Int32} {x3 : Int32} {x4 : Int32} {x5 : Int32} {s0 : Int32} {S : ms} {R79 : Int32 → Int32 → Int32 → Int32 → Int32 → ms → Prop} {K : ms → Prop} (h : b_readScanHead_115 x1 x2 x3 x4 x5 s0 S R79 K) {Q : Prop} (k_R79 : ∀ (a0 : Int32) (a1 : Int32) (a2 : Int32) (a3 : Int32) (a4 : Int32) (a5 : ms), R79 a0 a1 a2 a3 a4 a5 → (∀ (R79' : Int32 → Int32 → Int32 → Int32 → Int32 → ms → Prop) (K' : ms → Prop), b_readScanHead_115 x1 x2 x3 x4 x5 s0 S R79' K' ↔ R79' a0 a1 a2 a3 a4 a5) → Q) (k_K : ∀ (a0 : ms), K a0 → (∀ (R79' : Int32 → Int32 → Int32 → Int32 → Int32 → ms → Prop) (K' : ms → Prop), b_readScanHead_115 x1 x2 x3 x4 x5 s0 S R79' K' ↔ K' a0) → Q) : Q := by
  unfold b_readScanHead_115 at h
  refine dt_p h (fun c_1 h_2 => ?_) (fun c_1 h_2 => ?_)
  ·
    exact d_b_readScanHead_147 h_2 (fun a0 a1 a2 a3 a4 a5 h_4 i_3 => k_R79 a0 a1 a2 a3 a4 a5 h_4 (fun _ _ => Iff.trans (dt_1 c_1 (fun n => n c_1)) (i_3 _ _))) (fun a0 h_6 i_5 => k_K a0 h_6 (fun _ _ => Iff.trans (dt_1 c_1 (fun n => n c_1)) (i_5 _ _)))
  ·
    refine dt_p h_2 (fun c_7 h_8 => ?_) (fun c_7 h_8 => ?_)
    ·
      exact d_b_readScanHead_139 h_8 (fun a0 a1 a2 a3 a4 a5 h_10 i_9 => k_R79 a0 a1 a2 a3 a4 a5 h_10 (fun _ _ => Iff.trans (dt_2 c_1 c_1) (Iff.trans (dt_1 c_7 (fun n => n c_7)) (i_9 _ _)))) (fun a0 h_12 i_11 => k_K a0 h_12 (fun _ _ => Iff.trans (dt_2 c_1 c_1) (Iff.trans (dt_1 c_7 (fun n => n c_7)) (i_11 _ _))))
    ·
      exact d_b_readScanHead_139 h_8 (fun a0 a1 a2 a3 a4 a5 h_14 i_13 => k_R79 a0 a1 a2 a3 a4 a5 h_14 (fun _ _ => Iff.trans (dt_2 c_1 c_1) (Iff.trans (dt_2 c_7 c_7) (i_13 _ _)))) (fun a0 h_16 i_15 => k_K a0 h_16 (fun _ _ => Iff.trans (dt_2 c_1 c_1) (Iff.trans (dt_2 c_7 c_7) (i_15 _ _))))
set_option maxHeartbeats 1000000 in
theorem d_b_readScanHead_79 {x1 : Int32} {x2 : Int32} {x3 : Int32} {x4 : Int32} {x5 : Int32} {S : ms} {R79 : Int32 → Int32 → Int32 → Int32 → Int32 → ms → Prop} {K : ms → Prop} (h : b_readScanHead_79 x1 x2 x3 x4 x5 S R79 K) {Q : Prop} (k_R79 : ∀ (a0 : Int32) (a1 : Int32) (a2 : Int32) (a3 : Int32) (a4 : Int32) (a5 : ms), R79 a0 a1 a2 a3 a4 a5 → (∀ (R79' : Int32 → Int32 → Int32 → Int32 → Int32 → ms → Prop) (K' : ms → Prop), b_readScanHead_79 x1 x2 x3 x4 x5 S R79' K' ↔ R79' a0 a1 a2 a3 a4 a5) → Q) (k_K : ∀ (a0 : ms), K a0 → (∀ (R79' : Int32 → Int32 → Int32 → Int32 → Int32 → ms → Prop) (K' : ms → Prop), b_readScanHead_79 x1 x2 x3 x4 x5 S R79' K' ↔ K' a0) → Q) : Q := by
  unfold b_readScanHead_79 at h
  refine dt_p h (fun c_1 h_2 => ?_) (fun c_1 h_2 => ?_)
  ·
    exact d_b_readScanHead_372 h_2 (fun a0 h_4 i_3 => k_K a0 h_4 (fun _ _ => Iff.trans (dt_1 c_1 (fun n => n c_1)) (i_3 _)))
  ·
    refine dt_n h_2 (fun c_5 h_6 => ?_) (fun c_5 h_6 => ?_)
    ·
      exact d_b_readScanHead_372 h_6 (fun a0 h_8 i_7 => k_K a0 h_8 (fun _ _ => Iff.trans (dt_2 c_1 c_1) (Iff.trans (dt_1 c_5 c_5) (i_7 _))))
    ·
      refine d_p_next h_6 (fun v93 S93 h_10 i_9 => ?_)
      refine dt_n h_10 (fun c_11 h_12 => ?_) (fun c_11 h_12 => ?_)
      ·
        exact d_b_readScanHead_115 h_12 (fun a0 a1 a2 a3 a4 a5 h_14 i_13 => k_R79 a0 a1 a2 a3 a4 a5 h_14 (fun _ _ => Iff.trans (dt_2 c_1 c_1) (Iff.trans (dt_2 (fun n => n c_5) c_5) (Iff.trans (i_9 _) (Iff.trans (dt_1 c_11 c_11) (i_13 _ _)))))) (fun a0 h_16 i_15 => k_K a0 h_16 (fun _ _ => Iff.trans (dt_2 c_1 c_1) (Iff.trans (dt_2 (fun n => n c_5) c_5) (Iff.trans (i_9 _) (Iff.trans (dt_1 c_11 c_11) (i_15 _ _))))))
      ·
        refine d_p_layerNamed h_12 (fun v108 S108 h_18 i_17 => ?_)
        exact d_b_readScanHead_115 h_18 (fun a0 a1 a2 a3 a4 a5 h_20 i_19 => k_R79 a0 a1 a2 a3 a4 a5 h_20 (fun _ _ => Iff.trans (dt_2 c_1 c_1) (Iff.trans (dt_2 (fun n => n c_5) c_5) (Iff.trans (i_9 _) (Iff.trans (dt_2 (fun n => n c_11) c_11) (Iff.trans (i_17 _) (i_19 _ _))))))) (fun a0 h_22 i_21 => k_K a0 h_22 (fun _ _ => Iff.trans (dt_2 c_1 c_1) (Iff.trans (dt_2 (fun n => n c_5) c_5) (Iff.trans (i_9 _) (Iff.trans (dt_2 (fun n => n c_11) c_11) (Iff.trans (i_17 _) (i_21 _ _)))))))
theorem l_e_readScanHead_79  {x1 : Int32} {x2 : Int32} {x3 : Int32} {x4 : Int32} {x5 : Int32} {S : ms} {K : ms → Prop} : e_readScanHead_79 x1 x2 x3 x4 x5 S K ↔ lpE (C := (ms → Prop)) (fun (y : (Int32) × (Int32) × (Int32) × (Int32) × (Int32) × (ms)) (R : ((Int32) × (Int32) × (Int32) × (Int32) × (Int32) × (ms)) → Prop) (c : (ms → Prop)) => b_readScanHead_79 y.1 y.2.1 y.2.2.1 y.2.2.2.1 y.2.2.2.2.1 y.2.2.2.2.2 (fun z0 z1 z2 z3 z4 z5 => R (z0, z1, z2, z3, z4, z5)) c) (x1, x2, x3, x4, x5, S) K :=
  ⟨fun ⟨I, μ, h0, hs⟩ => ⟨fun t => I t.1 t.2.1 t.2.2.1 t.2.2.2.1 t.2.2.2.2.1 t.2.2.2.2.2, fun t => μ t.1 t.2.1 t.2.2.1 t.2.2.2.1 t.2.2.2.2.1 t.2.2.2.2.2, h0, fun t ht => hs _ _ _ _ _ _ ht⟩, fun ⟨I, μ, h0, hs⟩ => ⟨fun y0 y1 y2 y3 y4 y5 => I (y0, y1, y2, y3, y4, y5), fun y0 y1 y2 y3 y4 y5 => μ (y0, y1, y2, y3, y4, y5), h0, fun y0 y1 y2 y3 y4 y5 hy => hs (y0, y1, y2, y3, y4, y5) hy⟩⟩
set_option maxHeartbeats 1000000 in
theorem d_e_readScanHead_79 {x1 : Int32} {x2 : Int32} {x3 : Int32} {x4 : Int32} {x5 : Int32} {S : ms} {K : ms → Prop} (h : e_readScanHead_79 x1 x2 x3 x4 x5 S K) {Q : Prop} (k_K : ∀ (a0 : ms), K a0 → (∀ (K' : ms → Prop), e_readScanHead_79 x1 x2 x3 x4 x5 S K' ↔ K' a0) → Q) : Q := by
  obtain ⟨o, ho, hoc, hi⟩ := lp_det (C := (ms → Prop)) (b := (fun (y : (Int32) × (Int32) × (Int32) × (Int32) × (Int32) × (ms)) (R : ((Int32) × (Int32) × (Int32) × (Int32) × (Int32) × (ms)) → Prop) (c : (ms → Prop)) => b_readScanHead_79 y.1 y.2.1 y.2.2.1 y.2.2.2.1 y.2.2.2.2.1 y.2.2.2.2.2 (fun z0 z1 z2 z3 z4 z5 => R (z0, z1, z2, z3, z4, z5)) c)) (O := (fun (o : ((ms → Prop)) → Prop) => (∃ (a0 : ms), o = fun c => c a0))) (fun y R c hy => d_b_readScanHead_79 hy (fun a0 a1 a2 a3 a4 a5 ha ia => Or.inl ⟨(a0, a1, a2, a3, a4, a5), ha, fun R' c' => ia (fun z0 z1 z2 z3 z4 z5 => R' (z0, z1, z2, z3, z4, z5)) c'⟩) (fun a0 ha ia => Or.inr ⟨(fun c => c a0), ⟨a0, rfl⟩, ha, fun R' c' => ia (fun z0 z1 z2 z3 z4 z5 => R' (z0, z1, z2, z3, z4, z5)) c'⟩)) (l_e_readScanHead_79.mp h)
  rcases ho with ⟨a0, rfl⟩
  · exact k_K _ hoc (fun K' => Iff.trans l_e_readScanHead_79 (hi K'))
theorem v_e_readScanHead_79 {x1 : Int32} {x2 : Int32} {x3 : Int32} {x4 : Int32} {x5 : Int32} {S : ms} {K : ms → Prop} (h : e_readScanHead_79 x1 x2 x3 x4 x5 S K) {G : Prop} (Inv : Int32 → Int32 → Int32 → ms → Prop) (h0 : Inv x3 x4 x5 S) (hs : ∀ (yx3 : Int32) (yx4 : Int32) (yx5 : Int32) (yS : ms) (R : Int32 → Int32 → Int32 → Int32 → Int32 → ms → Prop), Inv yx3 yx4 yx5 yS → b_readScanHead_79 x1 x2 yx3 yx4 yx5 yS R K → (∃ (zx3 : Int32) (zx4 : Int32) (zx5 : Int32) (zS : ms), R x1 x2 zx3 zx4 zx5 zS ∧ Inv zx3 zx4 zx5 zS) ∨ G) : G := by
  obtain ⟨I, μ, i0, is⟩ := h
  have go : ∀ (n : Nat) (yx3 : Int32) (yx4 : Int32) (yx5 : Int32) (yS : ms), μ x1 x2 yx3 yx4 yx5 yS < n → I x1 x2 yx3 yx4 yx5 yS → Inv yx3 yx4 yx5 yS → G := by
    intro n
    induction n with
    | zero => intro yx3 yx4 yx5 yS hy; exact absurd hy (Nat.not_lt_zero _)
    | succ n ih =>
      intro yx3 yx4 yx5 yS hy hI hV
      rcases hs yx3 yx4 yx5 yS _ hV (is x1 x2 yx3 yx4 yx5 yS hI) with ⟨zx3, zx4, zx5, zS, ⟨hz, hm⟩, hv⟩ | g
      · exact ih zx3 zx4 zx5 zS (Nat.lt_of_lt_of_le hm (Nat.le_of_lt_succ hy)) hz hv
      · exact g
  exact go _ x3 x4 x5 S (Nat.lt_succ_self _) i0 h0
theorem r_e_readScanHead_79 {x1 : Int32} {x2 : Int32} {x3 : Int32} {x4 : Int32} {x5 : Int32} {S : ms} {K : ms → Prop} (h : e_readScanHead_79 x1 x2 x3 x4 x5 S K) : b_readScanHead_79 x1 x2 x3 x4 x5 S (fun zx1 zx2 zx3 zx4 zx5 zS => e_readScanHead_79 zx1 zx2 zx3 zx4 zx5 zS K) K := by
  obtain ⟨I, μ, i0, is⟩ := h
  exact d_b_readScanHead_79 (is x1 x2 x3 x4 x5 S i0) (fun a0 a1 a2 a3 a4 a5 ha ia => (ia _ _).mpr ⟨I, μ, ha.1, is⟩) (fun a0 ha ia => (ia _ _).mpr ha)
set_option maxHeartbeats 1000000 in
theorem d_b_readScanHead_71 {x1 : Int32} {x2 : Int32} {S : ms} {K : ms → Prop} (h : b_readScanHead_71 x1 x2 S K) {Q : Prop} (k_K : ∀ (a0 : ms), K a0 → (∀ (K' : ms → Prop), b_readScanHead_71 x1 x2 S K' ↔ K' a0) → Q) : Q := by
  unfold b_readScanHead_71 at h
  exact d_e_readScanHead_79 h (fun a0 h_2 i_1 => k_K a0 h_2 (fun _ => i_1 _))
set_option maxHeartbeats 1000000 in
theorem d_b_readScanHead_32 {x1 : Int32} {x2 : Int32} {s1 : Int32} {S : ms} {K : ms → Prop} (h : b_readScanHead_32 x1 x2 s1 S K) {Q : Prop} (k_K : ∀ (a0 : ms), K a0 → (∀ (K' : ms → Prop), b_readScanHead_32 x1 x2 s1 S K' ↔ K' a0) → Q) : Q := by
  unfold b_readScanHead_32 at h
  refine d_p_must h (fun S33 h_2 i_1 => ?_)
  refine dt_n h_2 (fun c_3 h_4 => ?_) (fun c_3 h_4 => ?_)
  ·
    exact d_b_readScanHead_71 h_4 (fun a0 h_6 i_5 => k_K a0 h_6 (fun _ => Iff.trans (i_1 _) (Iff.trans (dt_1 c_3 c_3) (i_5 _))))
  ·
    refine dt_p h_4 (fun c_7 h_8 => ?_) (fun c_7 h_8 => ?_)
    ·
      exact d_b_readScanHead_71 h_8 (fun a0 h_10 i_9 => k_K a0 h_10 (fun _ => Iff.trans (i_1 _) (Iff.trans (dt_2 (fun n => n c_3) c_3) (Iff.trans (dt_1 c_7 (fun n => n c_7)) (i_9 _)))))
    ·
      refine d_p_fail h_8 (fun v67 S67 h_12 i_11 => ?_)
      exact d_b_readScanHead_71 h_12 (fun a0 h_14 i_13 => k_K a0 h_14 (fun _ => Iff.trans (i_1 _) (Iff.trans (dt_2 (fun n => n c_3) c_3) (Iff.trans (dt_2 c_7 c_7) (Iff.trans (i_11 _) (i_13 _))))))
set_option maxHeartbeats 1000000 in
theorem d_b_readScanHead_31 {x1 : Int32} {x2 : Int32} {S : ms} {K : ms → Prop} (h : b_readScanHead_31 x1 x2 S K) {Q : Prop} (k_K : ∀ (a0 : ms), K a0 → (∀ (K' : ms → Prop), b_readScanHead_31 x1 x2 S K' ↔ K' a0) → Q) : Q := by
  unfold b_readScanHead_31 at h
  exact d_b_readScanHead_32 h (fun a0 h_2 i_1 => k_K a0 h_2 (fun _ => i_1 _))
set_option maxHeartbeats 1000000 in
theorem d_p_readScanHead {S : ms} {K : ms → Prop} (h : p_readScanHead S K) {Q : Prop} (k_K : ∀ (a0 : ms), K a0 → (∀ (K' : ms → Prop), p_readScanHead S K' ↔ K' a0) → Q) : Q := by
  unfold p_readScanHead at h
  refine d_p_next h (fun v1 S1 h_2 i_1 => ?_)
  refine dt_p h_2 (fun c_3 h_4 => ?_) (fun c_3 h_4 => ?_)
  ·
    exact d_b_readScanHead_31 h_4 (fun a0 h_6 i_5 => k_K a0 h_6 (fun _ => Iff.trans (i_1 _) (Iff.trans (dt_1 c_3 (fun n => n c_3)) (i_5 _))))
  ·
    refine dt_p (And.right h_4) (fun c_7 h_8 => ?_) (fun c_7 h_8 => ?_)
    ·
      exact d_b_readScanHead_31 h_8 (fun a0 h_10 i_9 => k_K a0 h_10 (fun _ => Iff.trans (i_1 _) (Iff.trans (dt_2 c_3 c_3) (Iff.trans (dt_a (And.left h_4)) (Iff.trans (dt_1 c_7 (fun n => n c_7)) (i_9 _))))))
    ·
      exact d_b_readScanHead_32 h_8 (fun a0 h_12 i_11 => k_K a0 h_12 (fun _ => Iff.trans (i_1 _) (Iff.trans (dt_2 c_3 c_3) (Iff.trans (dt_a (And.left h_4)) (Iff.trans (dt_2 c_7 c_7) (i_11 _))))))
set_option maxHeartbeats 1000000 in
theorem d_b_readBit_73 {S : ms} {K : Int32 → ms → Prop} (h : b_readBit_73 S K) {Q : Prop} (k_K : ∀ (a0 : Int32) (a1 : ms), K a0 a1 → (∀ (K' : Int32 → ms → Prop), b_readBit_73 S K' ↔ K' a0 a1) → Q) : Q := by
  unfold b_readBit_73 at h
  refine dt_p h (fun c_1 h_2 => ?_) (fun c_1 h_2 => ?_)
  ·
    exact k_K _ _ h_2 (fun _ => dt_1 c_1 (fun n => n c_1))
  ·
    exact k_K _ _ h_2 (fun _ => dt_2 c_1 c_1)
set_option maxHeartbeats 1000000 in
theorem d_b_readBit_67 {S : ms} {K : Int32 → ms → Prop} (h : b_readBit_67 S K) {Q : Prop} (k_K : ∀ (a0 : Int32) (a1 : ms), K a0 a1 → (∀ (K' : Int32 → ms → Prop), b_readBit_67 S K' ↔ K' a0 a1) → Q) : Q := by
  unfold b_readBit_67 at h
  exact d_b_readBit_73 h (fun a0 a1 h_2 i_1 => k_K a0 a1 h_2 (fun _ => i_1 _))
set_option maxHeartbeats 1000000 in
theorem d_p_readBit {S : ms} {K : Int32 → ms → Prop} (h : p_readBit S K) {Q : Prop} (k_K : ∀ (a0 : Int32) (a1 : ms), K a0 a1 → (∀ (K' : Int32 → ms → Prop), p_readBit S K' ↔ K' a0 a1) → Q) : Q := by
  unfold p_readBit at h
  refine dt_n h (fun c_1 h_2 => ?_) (fun c_1 h_2 => ?_)
  ·
    exact d_b_readBit_73 h_2 (fun a0 a1 h_4 i_3 => k_K a0 a1 h_4 (fun _ => Iff.trans (dt_1 c_1 c_1) (i_3 _)))
  ·
    refine d_p_next h_2 (fun v17 S17 h_6 i_5 => ?_)
    refine dt_n h_6 (fun c_7 h_8 => ?_) (fun c_7 h_8 => ?_)
    ·
      exact d_b_readBit_67 h_8 (fun a0 a1 h_10 i_9 => k_K a0 a1 h_10 (fun _ => Iff.trans (dt_2 (fun n => n c_1) c_1) (Iff.trans (i_5 _) (Iff.trans (dt_1 c_7 c_7) (i_9 _)))))
    ·
      refine dt_n h_8 (fun c_11 h_12 => ?_) (fun c_11 h_12 => ?_)
      ·
        exact d_b_readBit_67 h_12 (fun a0 a1 h_14 i_13 => k_K a0 a1 h_14 (fun _ => Iff.trans (dt_2 (fun n => n c_1) c_1) (Iff.trans (i_5 _) (Iff.trans (dt_2 (fun n => n c_7) c_7) (Iff.trans (dt_1 c_11 c_11) (i_13 _))))))
      ·
        refine d_p_next h_12 (fun v41 S41 h_16 i_15 => ?_)
        refine dt_n h_16 (fun c_17 h_18 => ?_) (fun c_17 h_18 => ?_)
        ·
          exact d_b_readBit_67 h_18 (fun a0 a1 h_20 i_19 => k_K a0 a1 h_20 (fun _ => Iff.trans (dt_2 (fun n => n c_1) c_1) (Iff.trans (i_5 _) (Iff.trans (dt_2 (fun n => n c_7) c_7) (Iff.trans (dt_2 (fun n => n c_11) c_11) (Iff.trans (i_15 _) (Iff.trans (dt_1 c_17 c_17) (i_19 _))))))))
        ·
          refine dt_p h_18 (fun c_21 h_22 => ?_) (fun c_21 h_22 => ?_)
          ·
            exact d_b_readBit_67 h_22 (fun a0 a1 h_24 i_23 => k_K a0 a1 h_24 (fun _ => Iff.trans (dt_2 (fun n => n c_1) c_1) (Iff.trans (i_5 _) (Iff.trans (dt_2 (fun n => n c_7) c_7) (Iff.trans (dt_2 (fun n => n c_11) c_11) (Iff.trans (i_15 _) (Iff.trans (dt_2 (fun n => n c_17) c_17) (Iff.trans (dt_1 c_21 (fun n => n c_21)) (i_23 _)))))))))
          ·
            refine d_p_fail h_22 (fun v63 S63 h_26 i_25 => ?_)
            exact d_b_readBit_67 h_26 (fun a0 a1 h_28 i_27 => k_K a0 a1 h_28 (fun _ => Iff.trans (dt_2 (fun n => n c_1) c_1) (Iff.trans (i_5 _) (Iff.trans (dt_2 (fun n => n c_7) c_7) (Iff.trans (dt_2 (fun n => n c_11) c_11) (Iff.trans (i_15 _) (Iff.trans (dt_2 (fun n => n c_17) c_17) (Iff.trans (dt_2 c_21 c_21) (Iff.trans (i_25 _) (i_27 _))))))))))
set_option maxHeartbeats 1000000 in
theorem d_b_readSymbol_39 {x1 : Int32} {x2 : Int32} {x3 : Int32} {x4 : Int32} {x5 : Int32} {S : ms} {R10 : Int32 → Int32 → Int32 → Int32 → Int32 → ms → Prop} {K : Int32 → ms → Prop} (h : b_readSymbol_39 x1 x2 x3 x4 x5 S R10 K) {Q : Prop} (k_R10 : ∀ (a0 : Int32) (a1 : Int32) (a2 : Int32) (a3 : Int32) (a4 : Int32) (a5 : ms), R10 a0 a1 a2 a3 a4 a5 → (∀ (R10' : Int32 → Int32 → Int32 → Int32 → Int32 → ms → Prop) (K' : Int32 → ms → Prop), b_readSymbol_39 x1 x2 x3 x4 x5 S R10' K' ↔ R10' a0 a1 a2 a3 a4 a5) → Q) (k_K : ∀ (a0 : Int32) (a1 : ms), K a0 a1 → (∀ (R10' : Int32 → Int32 → Int32 → Int32 → Int32 → ms → Prop) (K' : Int32 → ms → Prop), b_readSymbol_39 x1 x2 x3 x4 x5 S R10' K' ↔ K' a0 a1) → Q) : Q := by
  unfold b_readSymbol_39 at h
  refine dt_p h (fun c_1 h_2 => ?_) (fun c_1 h_2 => ?_)
  ·
    refine dt_p (And.right h_2) (fun c_3 h_4 => ?_) (fun c_3 h_4 => ?_)
    ·
      exact k_R10 _ _ _ _ _ _ h_4 (fun _ _ => Iff.trans (dt_1 c_1 (fun n => n c_1)) (Iff.trans (dt_a (And.left h_2)) (dt_1 c_3 (fun n => n c_3))))
    ·
      exact k_K _ _ (And.right h_4) (fun _ _ => Iff.trans (dt_1 c_1 (fun n => n c_1)) (Iff.trans (dt_a (And.left h_2)) (Iff.trans (dt_2 c_3 c_3) (dt_a (And.left h_4)))))
  ·
    exact k_K _ _ h_2 (fun _ _ => dt_2 c_1 c_1)
set_option maxHeartbeats 1000000 in
theorem d_b_readSymbol_10 {x1 : Int32} {x2 : Int32} {x3 : Int32} {x4 : Int32} {x5 : Int32} {S : ms} {R10 : Int32 → Int32 → Int32 → Int32 → Int32 → ms → Prop} {K : Int32 → ms → Prop} (h : b_readSymbol_10 x1 x2 x3 x4 x5 S R10 K) {Q : Prop} (k_R10 : ∀ (a0 : Int32) (a1 : Int32) (a2 : Int32) (a3 : Int32) (a4 : Int32) (a5 : ms), R10 a0 a1 a2 a3 a4 a5 → (∀ (R10' : Int32 → Int32 → Int32 → Int32 → Int32 → ms → Prop) (K' : Int32 → ms → Prop), b_readSymbol_10 x1 x2 x3 x4 x5 S R10' K' ↔ R10' a0 a1 a2 a3 a4 a5) → Q) (k_K : ∀ (a0 : Int32) (a1 : ms), K a0 a1 → (∀ (R10' : Int32 → Int32 → Int32 → Int32 → Int32 → ms → Prop) (K' : Int32 → ms → Prop), b_readSymbol_10 x1 x2 x3 x4 x5 S R10' K' ↔ K' a0 a1) → Q) : Q := by
  unfold b_readSymbol_10 at h
  refine dt_p h (fun c_1 h_2 => ?_) (fun c_1 h_2 => ?_)
  ·
    refine d_p_fail h_2 (fun v117 S117 h_4 i_3 => ?_)
    exact k_K _ _ h_4 (fun _ _ => Iff.trans (dt_1 c_1 (fun n => n c_1)) (i_3 _))
  ·
    refine d_p_readBit h_2 (fun v21 S21 h_6 i_5 => ?_)
    refine dt_n h_6 (fun c_7 h_8 => ?_) (fun c_7 h_8 => ?_)
    ·
      exact d_b_readSymbol_39 h_8 (fun a0 a1 a2 a3 a4 a5 h_10 i_9 => k_R10 a0 a1 a2 a3 a4 a5 h_10 (fun _ _ => Iff.trans (dt_2 c_1 c_1) (Iff.trans (i_5 _) (Iff.trans (dt_1 c_7 c_7) (i_9 _ _))))) (fun a0 a1 h_12 i_11 => k_K a0 a1 h_12 (fun _ _ => Iff.trans (dt_2 c_1 c_1) (Iff.trans (i_5 _) (Iff.trans (dt_1 c_7 c_7) (i_11 _ _)))))
    ·
      exact d_b_readSymbol_39 h_8 (fun a0 a1 a2 a3 a4 a5 h_14 i_13 => k_R10 a0 a1 a2 a3 a4 a5 h_14 (fun _ _ => Iff.trans (dt_2 c_1 c_1) (Iff.trans (i_5 _) (Iff.trans (dt_2 (fun n => n c_7) c_7) (i_13 _ _))))) (fun a0 a1 h_16 i_15 => k_K a0 a1 h_16 (fun _ _ => Iff.trans (dt_2 c_1 c_1) (Iff.trans (i_5 _) (Iff.trans (dt_2 (fun n => n c_7) c_7) (i_15 _ _)))))
theorem l_e_readSymbol_10  {x1 : Int32} {x2 : Int32} {x3 : Int32} {x4 : Int32} {x5 : Int32} {S : ms} {K : Int32 → ms → Prop} : e_readSymbol_10 x1 x2 x3 x4 x5 S K ↔ lpE (C := (Int32 → ms → Prop)) (fun (y : (Int32) × (Int32) × (Int32) × (Int32) × (Int32) × (ms)) (R : ((Int32) × (Int32) × (Int32) × (Int32) × (Int32) × (ms)) → Prop) (c : (Int32 → ms → Prop)) => b_readSymbol_10 y.1 y.2.1 y.2.2.1 y.2.2.2.1 y.2.2.2.2.1 y.2.2.2.2.2 (fun z0 z1 z2 z3 z4 z5 => R (z0, z1, z2, z3, z4, z5)) c) (x1, x2, x3, x4, x5, S) K :=
  ⟨fun ⟨I, μ, h0, hs⟩ => ⟨fun t => I t.1 t.2.1 t.2.2.1 t.2.2.2.1 t.2.2.2.2.1 t.2.2.2.2.2, fun t => μ t.1 t.2.1 t.2.2.1 t.2.2.2.1 t.2.2.2.2.1 t.2.2.2.2.2, h0, fun t ht => hs _ _ _ _ _ _ ht⟩, fun ⟨I, μ, h0, hs⟩ => ⟨fun y0 y1 y2 y3 y4 y5 => I (y0, y1, y2, y3, y4, y5), fun y0 y1 y2 y3 y4 y5 => μ (y0, y1, y2, y3, y4, y5), h0, fun y0 y1 y2 y3 y4 y5 hy => hs (y0, y1, y2, y3, y4, y5) hy⟩⟩
set_option maxHeartbeats 1000000 in
theorem d_e_readSymbol_10 {x1 : Int32} {x2 : Int32} {x3 : Int32} {x4 : Int32} {x5 : Int32} {S : ms} {K : Int32 → ms → Prop} (h : e_readSymbol_10 x1 x2 x3 x4 x5 S K) {Q : Prop} (k_K : ∀ (a0 : Int32) (a1 : ms), K a0 a1 → (∀ (K' : Int32 → ms → Prop), e_readSymbol_10 x1 x2 x3 x4 x5 S K' ↔ K' a0 a1) → Q) : Q := by
  obtain ⟨o, ho, hoc, hi⟩ := lp_det (C := (Int32 → ms → Prop)) (b := (fun (y : (Int32) × (Int32) × (Int32) × (Int32) × (Int32) × (ms)) (R : ((Int32) × (Int32) × (Int32) × (Int32) × (Int32) × (ms)) → Prop) (c : (Int32 → ms → Prop)) => b_readSymbol_10 y.1 y.2.1 y.2.2.1 y.2.2.2.1 y.2.2.2.2.1 y.2.2.2.2.2 (fun z0 z1 z2 z3 z4 z5 => R (z0, z1, z2, z3, z4, z5)) c)) (O := (fun (o : ((Int32 → ms → Prop)) → Prop) => (∃ (a0 : Int32) (a1 : ms), o = fun c => c a0 a1))) (fun y R c hy => d_b_readSymbol_10 hy (fun a0 a1 a2 a3 a4 a5 ha ia => Or.inl ⟨(a0, a1, a2, a3, a4, a5), ha, fun R' c' => ia (fun z0 z1 z2 z3 z4 z5 => R' (z0, z1, z2, z3, z4, z5)) c'⟩) (fun a0 a1 ha ia => Or.inr ⟨(fun c => c a0 a1), ⟨a0, a1, rfl⟩, ha, fun R' c' => ia (fun z0 z1 z2 z3 z4 z5 => R' (z0, z1, z2, z3, z4, z5)) c'⟩)) (l_e_readSymbol_10.mp h)
  rcases ho with ⟨a0, a1, rfl⟩
  · exact k_K _ _ hoc (fun K' => Iff.trans l_e_readSymbol_10 (hi K'))
theorem v_e_readSymbol_10 {x1 : Int32} {x2 : Int32} {x3 : Int32} {x4 : Int32} {x5 : Int32} {S : ms} {K : Int32 → ms → Prop} (h : e_readSymbol_10 x1 x2 x3 x4 x5 S K) {G : Prop} (Inv : Int32 → Int32 → Int32 → Int32 → ms → Prop) (h0 : Inv x2 x3 x4 x5 S) (hs : ∀ (yx2 : Int32) (yx3 : Int32) (yx4 : Int32) (yx5 : Int32) (yS : ms) (R : Int32 → Int32 → Int32 → Int32 → Int32 → ms → Prop), Inv yx2 yx3 yx4 yx5 yS → b_readSymbol_10 x1 yx2 yx3 yx4 yx5 yS R K → (∃ (zx2 : Int32) (zx3 : Int32) (zx4 : Int32) (zx5 : Int32) (zS : ms), R x1 zx2 zx3 zx4 zx5 zS ∧ Inv zx2 zx3 zx4 zx5 zS) ∨ G) : G := by
  obtain ⟨I, μ, i0, is⟩ := h
  have go : ∀ (n : Nat) (yx2 : Int32) (yx3 : Int32) (yx4 : Int32) (yx5 : Int32) (yS : ms), μ x1 yx2 yx3 yx4 yx5 yS < n → I x1 yx2 yx3 yx4 yx5 yS → Inv yx2 yx3 yx4 yx5 yS → G := by
    intro n
    induction n with
    | zero => intro yx2 yx3 yx4 yx5 yS hy; exact absurd hy (Nat.not_lt_zero _)
    | succ n ih =>
      intro yx2 yx3 yx4 yx5 yS hy hI hV
      rcases hs yx2 yx3 yx4 yx5 yS _ hV (is x1 yx2 yx3 yx4 yx5 yS hI) with ⟨zx2, zx3, zx4, zx5, zS, ⟨hz, hm⟩, hv⟩ | g
      · exact ih zx2 zx3 zx4 zx5 zS (Nat.lt_of_lt_of_le hm (Nat.le_of_lt_succ hy)) hz hv
      · exact g
  exact go _ x2 x3 x4 x5 S (Nat.lt_succ_self _) i0 h0
theorem r_e_readSymbol_10 {x1 : Int32} {x2 : Int32} {x3 : Int32} {x4 : Int32} {x5 : Int32} {S : ms} {K : Int32 → ms → Prop} (h : e_readSymbol_10 x1 x2 x3 x4 x5 S K) : b_readSymbol_10 x1 x2 x3 x4 x5 S (fun zx1 zx2 zx3 zx4 zx5 zS => e_readSymbol_10 zx1 zx2 zx3 zx4 zx5 zS K) K := by
  obtain ⟨I, μ, i0, is⟩ := h
  exact d_b_readSymbol_10 (is x1 x2 x3 x4 x5 S i0) (fun a0 a1 a2 a3 a4 a5 ha ia => (ia _ _).mpr ⟨I, μ, ha.1, is⟩) (fun a0 a1 ha ia => (ia _ _).mpr ha)
set_option maxHeartbeats 1000000 in
theorem d_p_readSymbol {x1 : Int32} {S : ms} {K : Int32 → ms → Prop} (h : p_readSymbol x1 S K) {Q : Prop} (k_K : ∀ (a0 : Int32) (a1 : ms), K a0 a1 → (∀ (K' : Int32 → ms → Prop), p_readSymbol x1 S K' ↔ K' a0 a1) → Q) : Q := by
  unfold p_readSymbol at h
  exact d_e_readSymbol_10 h (fun a0 a1 h_2 i_1 => k_K a0 a1 h_2 (fun _ => i_1 _))
set_option maxHeartbeats 1000000 in
theorem d_b_readNumber_48 {s0 : Int32} {S : ms} {K : Int32 → ms → Prop} (h : b_readNumber_48 s0 S K) {Q : Prop} (k_K : ∀ (a0 : Int32) (a1 : ms), K a0 a1 → (∀ (K' : Int32 → ms → Prop), b_readNumber_48 s0 S K' ↔ K' a0 a1) → Q) : Q := by
  unfold b_readNumber_48 at h
  exact k_K _ _ h (fun _ => Iff.rfl)
set_option maxHeartbeats 1000000 in
theorem d_b_readNumber_47 {x2 : Int32} {S : ms} {K : Int32 → ms → Prop} (h : b_readNumber_47 x2 S K) {Q : Prop} (k_K : ∀ (a0 : Int32) (a1 : ms), K a0 a1 → (∀ (K' : Int32 → ms → Prop), b_readNumber_47 x2 S K' ↔ K' a0 a1) → Q) : Q := by
  unfold b_readNumber_47 at h
  exact d_b_readNumber_48 h (fun a0 a1 h_2 i_1 => k_K a0 a1 h_2 (fun _ => i_1 _))
set_option maxHeartbeats 1000000 in
theorem d_b_readNumber_4 {x1 : Int32} {x2 : Int32} {x3 : Int32} {S : ms} {R4 : Int32 → Int32 → Int32 → ms → Prop} {K : Int32 → ms → Prop} (h : b_readNumber_4 x1 x2 x3 S R4 K) {Q : Prop} (k_R4 : ∀ (a0 : Int32) (a1 : Int32) (a2 : Int32) (a3 : ms), R4 a0 a1 a2 a3 → (∀ (R4' : Int32 → Int32 → Int32 → ms → Prop) (K' : Int32 → ms → Prop), b_readNumber_4 x1 x2 x3 S R4' K' ↔ R4' a0 a1 a2 a3) → Q) (k_K : ∀ (a0 : Int32) (a1 : ms), K a0 a1 → (∀ (R4' : Int32 → Int32 → Int32 → ms → Prop) (K' : Int32 → ms → Prop), b_readNumber_4 x1 x2 x3 S R4' K' ↔ K' a0 a1) → Q) : Q := by
  unfold b_readNumber_4 at h
  refine dt_p h (fun c_1 h_2 => ?_) (fun c_1 h_2 => ?_)
  ·
    refine dt_p h_2 (fun c_3 h_4 => ?_) (fun c_3 h_4 => ?_)
    ·
      exact d_b_readNumber_47 h_4 (fun a0 a1 h_6 i_5 => k_K a0 a1 h_6 (fun _ _ => Iff.trans (dt_1 c_1 (fun n => n c_1)) (Iff.trans (dt_1 c_3 (fun n => n c_3)) (i_5 _))))
    ·
      refine dt_p h_4 (fun c_7 h_8 => ?_) (fun c_7 h_8 => ?_)
      ·
        exact d_b_readNumber_47 h_8 (fun a0 a1 h_10 i_9 => k_K a0 a1 h_10 (fun _ _ => Iff.trans (dt_1 c_1 (fun n => n c_1)) (Iff.trans (dt_2 c_3 c_3) (Iff.trans (dt_1 c_7 (fun n => n c_7)) (i_9 _)))))
      ·
        exact d_b_readNumber_48 h_8 (fun a0 a1 h_12 i_11 => k_K a0 a1 h_12 (fun _ _ => Iff.trans (dt_1 c_1 (fun n => n c_1)) (Iff.trans (dt_2 c_3 c_3) (Iff.trans (dt_2 c_7 c_7) (i_11 _)))))
  ·
    refine d_p_readBit h_2 (fun v13 S13 h_14 i_13 => ?_)
    exact k_R4 _ _ _ _ h_14 (fun _ _ => Iff.trans (dt_2 c_1 c_1) (i_13 _))
theorem l_e_readNumber_4  {x1 : Int32} {x2 : Int32} {x3 : Int32} {S : ms} {K : Int32 → ms → Prop} : e_readNumber_4 x1 x2 x3 S K ↔ lpE (C := (Int32 → ms → Prop)) (fun (y : (Int32) × (Int32) × (Int32) × (ms)) (R : ((Int32) × (Int32) × (Int32) × (ms)) → Prop) (c : (Int32 → ms → Prop)) => b_readNumber_4 y.1 y.2.1 y.2.2.1 y.2.2.2 (fun z0 z1 z2 z3 => R (z0, z1, z2, z3)) c) (x1, x2, x3, S) K :=
  ⟨fun ⟨I, μ, h0, hs⟩ => ⟨fun t => I t.1 t.2.1 t.2.2.1 t.2.2.2, fun t => μ t.1 t.2.1 t.2.2.1 t.2.2.2, h0, fun t ht => hs _ _ _ _ ht⟩, fun ⟨I, μ, h0, hs⟩ => ⟨fun y0 y1 y2 y3 => I (y0, y1, y2, y3), fun y0 y1 y2 y3 => μ (y0, y1, y2, y3), h0, fun y0 y1 y2 y3 hy => hs (y0, y1, y2, y3) hy⟩⟩
set_option maxHeartbeats 1000000 in
theorem d_e_readNumber_4 {x1 : Int32} {x2 : Int32} {x3 : Int32} {S : ms} {K : Int32 → ms → Prop} (h : e_readNumber_4 x1 x2 x3 S K) {Q : Prop} (k_K : ∀ (a0 : Int32) (a1 : ms), K a0 a1 → (∀ (K' : Int32 → ms → Prop), e_readNumber_4 x1 x2 x3 S K' ↔ K' a0 a1) → Q) : Q := by
  obtain ⟨o, ho, hoc, hi⟩ := lp_det (C := (Int32 → ms → Prop)) (b := (fun (y : (Int32) × (Int32) × (Int32) × (ms)) (R : ((Int32) × (Int32) × (Int32) × (ms)) → Prop) (c : (Int32 → ms → Prop)) => b_readNumber_4 y.1 y.2.1 y.2.2.1 y.2.2.2 (fun z0 z1 z2 z3 => R (z0, z1, z2, z3)) c)) (O := (fun (o : ((Int32 → ms → Prop)) → Prop) => (∃ (a0 : Int32) (a1 : ms), o = fun c => c a0 a1))) (fun y R c hy => d_b_readNumber_4 hy (fun a0 a1 a2 a3 ha ia => Or.inl ⟨(a0, a1, a2, a3), ha, fun R' c' => ia (fun z0 z1 z2 z3 => R' (z0, z1, z2, z3)) c'⟩) (fun a0 a1 ha ia => Or.inr ⟨(fun c => c a0 a1), ⟨a0, a1, rfl⟩, ha, fun R' c' => ia (fun z0 z1 z2 z3 => R' (z0, z1, z2, z3)) c'⟩)) (l_e_readNumber_4.mp h)
  rcases ho with ⟨a0, a1, rfl⟩
  · exact k_K _ _ hoc (fun K' => Iff.trans l_e_readNumber_4 (hi K'))
theorem v_e_readNumber_4 {x1 : Int32} {x2 : Int32} {x3 : Int32} {S : ms} {K : Int32 → ms → Prop} (h : e_readNumber_4 x1 x2 x3 S K) {G : Prop} (Inv : Int32 → Int32 → ms → Prop) (h0 : Inv x2 x3 S) (hs : ∀ (yx2 : Int32) (yx3 : Int32) (yS : ms) (R : Int32 → Int32 → Int32 → ms → Prop), Inv yx2 yx3 yS → b_readNumber_4 x1 yx2 yx3 yS R K → (∃ (zx2 : Int32) (zx3 : Int32) (zS : ms), R x1 zx2 zx3 zS ∧ Inv zx2 zx3 zS) ∨ G) : G := by
  obtain ⟨I, μ, i0, is⟩ := h
  have go : ∀ (n : Nat) (yx2 : Int32) (yx3 : Int32) (yS : ms), μ x1 yx2 yx3 yS < n → I x1 yx2 yx3 yS → Inv yx2 yx3 yS → G := by
    intro n
    induction n with
    | zero => intro yx2 yx3 yS hy; exact absurd hy (Nat.not_lt_zero _)
    | succ n ih =>
      intro yx2 yx3 yS hy hI hV
      rcases hs yx2 yx3 yS _ hV (is x1 yx2 yx3 yS hI) with ⟨zx2, zx3, zS, ⟨hz, hm⟩, hv⟩ | g
      · exact ih zx2 zx3 zS (Nat.lt_of_lt_of_le hm (Nat.le_of_lt_succ hy)) hz hv
      · exact g
  exact go _ x2 x3 S (Nat.lt_succ_self _) i0 h0
theorem r_e_readNumber_4 {x1 : Int32} {x2 : Int32} {x3 : Int32} {S : ms} {K : Int32 → ms → Prop} (h : e_readNumber_4 x1 x2 x3 S K) : b_readNumber_4 x1 x2 x3 S (fun zx1 zx2 zx3 zS => e_readNumber_4 zx1 zx2 zx3 zS K) K := by
  obtain ⟨I, μ, i0, is⟩ := h
  exact d_b_readNumber_4 (is x1 x2 x3 S i0) (fun a0 a1 a2 a3 ha ia => (ia _ _).mpr ⟨I, μ, ha.1, is⟩) (fun a0 a1 ha ia => (ia _ _).mpr ha)
set_option maxHeartbeats 1000000 in
theorem d_p_readNumber {x1 : Int32} {S : ms} {K : Int32 → ms → Prop} (h : p_readNumber x1 S K) {Q : Prop} (k_K : ∀ (a0 : Int32) (a1 : ms), K a0 a1 → (∀ (K' : Int32 → ms → Prop), p_readNumber x1 S K' ↔ K' a0 a1) → Q) : Q := by
  unfold p_readNumber at h
  exact d_e_readNumber_4 h (fun a0 a1 h_2 i_1 => k_K a0 a1 h_2 (fun _ => i_1 _))
set_option maxHeartbeats 1000000 in
theorem d_b_readBlock_248 {S : ms} {K : ms → Prop} (h : b_readBlock_248 S K) {Q : Prop} (k_K : ∀ (a0 : ms), K a0 → (∀ (K' : ms → Prop), b_readBlock_248 S K' ↔ K' a0) → Q) : Q := by
  unfold b_readBlock_248 at h
  exact k_K _ h (fun _ => Iff.rfl)
set_option maxHeartbeats 1000000 in
theorem d_b_readBlock_245 {x1 : Int32} {x2 : Int32} {x3 : Int32} {x7 : Int32} {S : ms} {R102 : Int32 → Int32 → Int32 → Int32 → ms → Prop} {K : ms → Prop} (h : b_readBlock_245 x1 x2 x3 x7 S R102 K) {Q : Prop} (k_R102 : ∀ (a0 : Int32) (a1 : Int32) (a2 : Int32) (a3 : Int32) (a4 : ms), R102 a0 a1 a2 a3 a4 → (∀ (R102' : Int32 → Int32 → Int32 → Int32 → ms → Prop) (K' : ms → Prop), b_readBlock_245 x1 x2 x3 x7 S R102' K' ↔ R102' a0 a1 a2 a3 a4) → Q) (k_K : ∀ (a0 : ms), K a0 → (∀ (R102' : Int32 → Int32 → Int32 → Int32 → ms → Prop) (K' : ms → Prop), b_readBlock_245 x1 x2 x3 x7 S R102' K' ↔ K' a0) → Q) : Q := by
  unfold b_readBlock_245 at h
  exact k_R102 _ _ _ _ _ h (fun _ _ => Iff.rfl)
set_option maxHeartbeats 1000000 in
theorem d_b_readBlock_208 {x1 : Int32} {x2 : Int32} {x3 : Int32} {x7 : Int32} {x8 : Int32} {S : ms} {R102 : Int32 → Int32 → Int32 → Int32 → ms → Prop} {K : ms → Prop} (h : b_readBlock_208 x1 x2 x3 x7 x8 S R102 K) {Q : Prop} (k_R102 : ∀ (a0 : Int32) (a1 : Int32) (a2 : Int32) (a3 : Int32) (a4 : ms), R102 a0 a1 a2 a3 a4 → (∀ (R102' : Int32 → Int32 → Int32 → Int32 → ms → Prop) (K' : ms → Prop), b_readBlock_208 x1 x2 x3 x7 x8 S R102' K' ↔ R102' a0 a1 a2 a3 a4) → Q) (k_K : ∀ (a0 : ms), K a0 → (∀ (R102' : Int32 → Int32 → Int32 → Int32 → ms → Prop) (K' : ms → Prop), b_readBlock_208 x1 x2 x3 x7 x8 S R102' K' ↔ K' a0) → Q) : Q := by
  unfold b_readBlock_208 at h
  refine dt_p h (fun c_1 h_2 => ?_) (fun c_1 h_2 => ?_)
  ·
    exact d_b_readBlock_245 h_2 (fun a0 a1 a2 a3 a4 h_4 i_3 => k_R102 a0 a1 a2 a3 a4 h_4 (fun _ _ => Iff.trans (dt_1 c_1 (fun n => n c_1)) (i_3 _ _))) (fun a0 h_6 i_5 => k_K a0 h_6 (fun _ _ => Iff.trans (dt_1 c_1 (fun n => n c_1)) (i_5 _ _)))
  ·
    refine d_p_readNumber h_2 (fun v222 S222 h_8 i_7 => ?_)
    refine d_p_levelCell h_8 (fun v236 h_10 i_9 => ?_)
    exact d_b_readBlock_245 (And.right h_10) (fun a0 a1 a2 a3 a4 h_12 i_11 => k_R102 a0 a1 a2 a3 a4 h_12 (fun _ _ => Iff.trans (dt_2 c_1 c_1) (Iff.trans (i_7 _) (Iff.trans (i_9 _) (Iff.trans (dt_a (And.left h_10)) (i_11 _ _)))))) (fun a0 h_14 i_13 => k_K a0 h_14 (fun _ _ => Iff.trans (dt_2 c_1 c_1) (Iff.trans (i_7 _) (Iff.trans (i_9 _) (Iff.trans (dt_a (And.left h_10)) (i_13 _ _))))))
set_option maxHeartbeats 1000000 in
theorem d_b_readBlock_195 {x1 : Int32} {x2 : Int32} {x3 : Int32} {x5 : Int32} {x7 : Int32} {S : ms} {R102 : Int32 → Int32 → Int32 → Int32 → ms → Prop} {K : ms → Prop} (h : b_readBlock_195 x1 x2 x3 x5 x7 S R102 K) {Q : Prop} (k_R102 : ∀ (a0 : Int32) (a1 : Int32) (a2 : Int32) (a3 : Int32) (a4 : ms), R102 a0 a1 a2 a3 a4 → (∀ (R102' : Int32 → Int32 → Int32 → Int32 → ms → Prop) (K' : ms → Prop), b_readBlock_195 x1 x2 x3 x5 x7 S R102' K' ↔ R102' a0 a1 a2 a3 a4) → Q) (k_K : ∀ (a0 : ms), K a0 → (∀ (R102' : Int32 → Int32 → Int32 → Int32 → ms → Prop) (K' : ms → Prop), b_readBlock_195 x1 x2 x3 x5 x7 S R102' K' ↔ K' a0) → Q) : Q := by
  unfold b_readBlock_195 at h
  refine d_p_fail h (fun v200 S200 h_2 i_1 => ?_)
  exact d_b_readBlock_245 h_2 (fun a0 a1 a2 a3 a4 h_4 i_3 => k_R102 a0 a1 a2 a3 a4 h_4 (fun _ _ => Iff.trans (i_1 _) (i_3 _ _))) (fun a0 h_6 i_5 => k_K a0 h_6 (fun _ _ => Iff.trans (i_1 _) (i_5 _ _)))
set_option maxHeartbeats 1000000 in
theorem d_b_readBlock_167 {x1 : Int32} {x2 : Int32} {x3 : Int32} {x5 : Int32} {x8 : Int32} {s0 : Int32} {s1 : Int32} {S : ms} {R102 : Int32 → Int32 → Int32 → Int32 → ms → Prop} {K : ms → Prop} (h : b_readBlock_167 x1 x2 x3 x5 x8 s0 s1 S R102 K) {Q : Prop} (k_R102 : ∀ (a0 : Int32) (a1 : Int32) (a2 : Int32) (a3 : Int32) (a4 : ms), R102 a0 a1 a2 a3 a4 → (∀ (R102' : Int32 → Int32 → Int32 → Int32 → ms → Prop) (K' : ms → Prop), b_readBlock_167 x1 x2 x3 x5 x8 s0 s1 S R102' K' ↔ R102' a0 a1 a2 a3 a4) → Q) (k_K : ∀ (a0 : ms), K a0 → (∀ (R102' : Int32 → Int32 → Int32 → Int32 → ms → Prop) (K' : ms → Prop), b_readBlock_167 x1 x2 x3 x5 x8 s0 s1 S R102' K' ↔ K' a0) → Q) : Q := by
  unfold b_readBlock_167 at h
  refine dt_n h (fun c_1 h_2 => ?_) (fun c_1 h_2 => ?_)
  ·
    refine dt_p h_2 (fun c_3 h_4 => ?_) (fun c_3 h_4 => ?_)
    ·
      exact d_b_readBlock_208 h_4 (fun a0 a1 a2 a3 a4 h_6 i_5 => k_R102 a0 a1 a2 a3 a4 h_6 (fun _ _ => Iff.trans (dt_1 c_1 c_1) (Iff.trans (dt_1 c_3 (fun n => n c_3)) (i_5 _ _)))) (fun a0 h_8 i_7 => k_K a0 h_8 (fun _ _ => Iff.trans (dt_1 c_1 c_1) (Iff.trans (dt_1 c_3 (fun n => n c_3)) (i_7 _ _))))
    ·
      exact d_b_readBlock_195 h_4 (fun a0 a1 a2 a3 a4 h_10 i_9 => k_R102 a0 a1 a2 a3 a4 h_10 (fun _ _ => Iff.trans (dt_1 c_1 c_1) (Iff.trans (dt_2 c_3 c_3) (i_9 _ _)))) (fun a0 h_12 i_11 => k_K a0 h_12 (fun _ _ => Iff.trans (dt_1 c_1 c_1) (Iff.trans (dt_2 c_3 c_3) (i_11 _ _))))
  ·
    refine dt_p h_2 (fun c_13 h_14 => ?_) (fun c_13 h_14 => ?_)
    ·
      exact d_b_readBlock_208 h_14 (fun a0 a1 a2 a3 a4 h_16 i_15 => k_R102 a0 a1 a2 a3 a4 h_16 (fun _ _ => Iff.trans (dt_2 (fun n => n c_1) c_1) (Iff.trans (dt_1 c_13 (fun n => n c_13)) (i_15 _ _)))) (fun a0 h_18 i_17 => k_K a0 h_18 (fun _ _ => Iff.trans (dt_2 (fun n => n c_1) c_1) (Iff.trans (dt_1 c_13 (fun n => n c_13)) (i_17 _ _))))
    ·
      exact d_b_readBlock_195 h_14 (fun a0 a1 a2 a3 a4 h_20 i_19 => k_R102 a0 a1 a2 a3 a4 h_20 (fun _ _ => Iff.trans (dt_2 (fun n => n c_1) c_1) (Iff.trans (dt_2 c_13 c_13) (i_19 _ _)))) (fun a0 h_22 i_21 => k_K a0 h_22 (fun _ _ => Iff.trans (dt_2 (fun n => n c_1) c_1) (Iff.trans (dt_2 c_13 c_13) (i_21 _ _))))
set_option maxHeartbeats 1000000 in
theorem d_b_readBlock_146 {S : ms} {K : ms → Prop} (h : b_readBlock_146 S K) {Q : Prop} (k_K : ∀ (a0 : ms), K a0 → (∀ (K' : ms → Prop), b_readBlock_146 S K' ↔ K' a0) → Q) : Q := by
  unfold b_readBlock_146 at h
  exact k_K _ h (fun _ => Iff.rfl)
set_option maxHeartbeats 1000000 in
theorem d_b_readBlock_102 {x1 : Int32} {x2 : Int32} {x3 : Int32} {x7 : Int32} {S : ms} {R102 : Int32 → Int32 → Int32 → Int32 → ms → Prop} {K : ms → Prop} (h : b_readBlock_102 x1 x2 x3 x7 S R102 K) {Q : Prop} (k_R102 : ∀ (a0 : Int32) (a1 : Int32) (a2 : Int32) (a3 : Int32) (a4 : ms), R102 a0 a1 a2 a3 a4 → (∀ (R102' : Int32 → Int32 → Int32 → Int32 → ms → Prop) (K' : ms → Prop), b_readBlock_102 x1 x2 x3 x7 S R102' K' ↔ R102' a0 a1 a2 a3 a4) → Q) (k_K : ∀ (a0 : ms), K a0 → (∀ (R102' : Int32 → Int32 → Int32 → Int32 → ms → Prop) (K' : ms → Prop), b_readBlock_102 x1 x2 x3 x7 S R102' K' ↔ K' a0) → Q) : Q := by
  unfold b_readBlock_102 at h
  refine dt_p h (fun c_1 h_2 => ?_) (fun c_1 h_2 => ?_)
  ·
    exact d_b_readBlock_248 h_2 (fun a0 h_4 i_3 => k_K a0 h_4 (fun _ _ => Iff.trans (dt_1 c_1 (fun n => n c_1)) (i_3 _)))
  ·
    refine dt_n h_2 (fun c_5 h_6 => ?_) (fun c_5 h_6 => ?_)
    ·
      exact d_b_readBlock_248 h_6 (fun a0 h_8 i_7 => k_K a0 h_8 (fun _ _ => Iff.trans (dt_2 c_1 c_1) (Iff.trans (dt_1 c_5 c_5) (i_7 _))))
    ·
      refine d_p_readSymbol (And.right h_6) (fun v123 S123 h_10 i_9 => ?_)
      refine dt_p h_10 (fun c_11 h_12 => ?_) (fun c_11 h_12 => ?_)
      ·
        exact d_b_readBlock_146 h_12 (fun a0 h_14 i_13 => k_K a0 h_14 (fun _ _ => Iff.trans (dt_2 c_1 c_1) (Iff.trans (dt_2 (fun n => n c_5) c_5) (Iff.trans (dt_a (And.left h_6)) (Iff.trans (i_9 _) (Iff.trans (dt_1 c_11 (fun n => n c_11)) (i_13 _)))))))
      ·
        refine dt_n h_12 (fun c_15 h_16 => ?_) (fun c_15 h_16 => ?_)
        ·
          refine dt_n h_16 (fun c_17 h_18 => ?_) (fun c_17 h_18 => ?_)
          ·
            exact d_b_readBlock_167 h_18 (fun a0 a1 a2 a3 a4 h_20 i_19 => k_R102 a0 a1 a2 a3 a4 h_20 (fun _ _ => Iff.trans (dt_2 c_1 c_1) (Iff.trans (dt_2 (fun n => n c_5) c_5) (Iff.trans (dt_a (And.left h_6)) (Iff.trans (i_9 _) (Iff.trans (dt_2 c_11 c_11) (Iff.trans (dt_1 c_15 c_15) (Iff.trans (dt_1 c_17 c_17) (i_19 _ _))))))))) (fun a0 h_22 i_21 => k_K a0 h_22 (fun _ _ => Iff.trans (dt_2 c_1 c_1) (Iff.trans (dt_2 (fun n => n c_5) c_5) (Iff.trans (dt_a (And.left h_6)) (Iff.trans (i_9 _) (Iff.trans (dt_2 c_11 c_11) (Iff.trans (dt_1 c_15 c_15) (Iff.trans (dt_1 c_17 c_17) (i_21 _ _)))))))))
          ·
            exact d_b_readBlock_167 h_18 (fun a0 a1 a2 a3 a4 h_24 i_23 => k_R102 a0 a1 a2 a3 a4 h_24 (fun _ _ => Iff.trans (dt_2 c_1 c_1) (Iff.trans (dt_2 (fun n => n c_5) c_5) (Iff.trans (dt_a (And.left h_6)) (Iff.trans (i_9 _) (Iff.trans (dt_2 c_11 c_11) (Iff.trans (dt_1 c_15 c_15) (Iff.trans (dt_2 (fun n => n c_17) c_17) (i_23 _ _))))))))) (fun a0 h_26 i_25 => k_K a0 h_26 (fun _ _ => Iff.trans (dt_2 c_1 c_1) (Iff.trans (dt_2 (fun n => n c_5) c_5) (Iff.trans (dt_a (And.left h_6)) (Iff.trans (i_9 _) (Iff.trans (dt_2 c_11 c_11) (Iff.trans (dt_1 c_15 c_15) (Iff.trans (dt_2 (fun n => n c_17) c_17) (i_25 _ _)))))))))
        ·
          exact d_b_readBlock_146 h_16 (fun a0 h_28 i_27 => k_K a0 h_28 (fun _ _ => Iff.trans (dt_2 c_1 c_1) (Iff.trans (dt_2 (fun n => n c_5) c_5) (Iff.trans (dt_a (And.left h_6)) (Iff.trans (i_9 _) (Iff.trans (dt_2 c_11 c_11) (Iff.trans (dt_2 (fun n => n c_15) c_15) (i_27 _))))))))
theorem l_e_readBlock_102  {x1 : Int32} {x2 : Int32} {x3 : Int32} {x7 : Int32} {S : ms} {K : ms → Prop} : e_readBlock_102 x1 x2 x3 x7 S K ↔ lpE (C := (ms → Prop)) (fun (y : (Int32) × (Int32) × (Int32) × (Int32) × (ms)) (R : ((Int32) × (Int32) × (Int32) × (Int32) × (ms)) → Prop) (c : (ms → Prop)) => b_readBlock_102 y.1 y.2.1 y.2.2.1 y.2.2.2.1 y.2.2.2.2 (fun z0 z1 z2 z3 z4 => R (z0, z1, z2, z3, z4)) c) (x1, x2, x3, x7, S) K :=
  ⟨fun ⟨I, μ, h0, hs⟩ => ⟨fun t => I t.1 t.2.1 t.2.2.1 t.2.2.2.1 t.2.2.2.2, fun t => μ t.1 t.2.1 t.2.2.1 t.2.2.2.1 t.2.2.2.2, h0, fun t ht => hs _ _ _ _ _ ht⟩, fun ⟨I, μ, h0, hs⟩ => ⟨fun y0 y1 y2 y3 y4 => I (y0, y1, y2, y3, y4), fun y0 y1 y2 y3 y4 => μ (y0, y1, y2, y3, y4), h0, fun y0 y1 y2 y3 y4 hy => hs (y0, y1, y2, y3, y4) hy⟩⟩
set_option maxHeartbeats 1000000 in
theorem d_e_readBlock_102 {x1 : Int32} {x2 : Int32} {x3 : Int32} {x7 : Int32} {S : ms} {K : ms → Prop} (h : e_readBlock_102 x1 x2 x3 x7 S K) {Q : Prop} (k_K : ∀ (a0 : ms), K a0 → (∀ (K' : ms → Prop), e_readBlock_102 x1 x2 x3 x7 S K' ↔ K' a0) → Q) : Q := by
  obtain ⟨o, ho, hoc, hi⟩ := lp_det (C := (ms → Prop)) (b := (fun (y : (Int32) × (Int32) × (Int32) × (Int32) × (ms)) (R : ((Int32) × (Int32) × (Int32) × (Int32) × (ms)) → Prop) (c : (ms → Prop)) => b_readBlock_102 y.1 y.2.1 y.2.2.1 y.2.2.2.1 y.2.2.2.2 (fun z0 z1 z2 z3 z4 => R (z0, z1, z2, z3, z4)) c)) (O := (fun (o : ((ms → Prop)) → Prop) => (∃ (a0 : ms), o = fun c => c a0))) (fun y R c hy => d_b_readBlock_102 hy (fun a0 a1 a2 a3 a4 ha ia => Or.inl ⟨(a0, a1, a2, a3, a4), ha, fun R' c' => ia (fun z0 z1 z2 z3 z4 => R' (z0, z1, z2, z3, z4)) c'⟩) (fun a0 ha ia => Or.inr ⟨(fun c => c a0), ⟨a0, rfl⟩, ha, fun R' c' => ia (fun z0 z1 z2 z3 z4 => R' (z0, z1, z2, z3, z4)) c'⟩)) (l_e_readBlock_102.mp h)
  rcases ho with ⟨a0, rfl⟩
  · exact k_K _ hoc (fun K' => Iff.trans l_e_readBlock_102 (hi K'))
theorem v_e_readBlock_102 {x1 : Int32} {x2 : Int32} {x3 : Int32} {x7 : Int32} {S : ms} {K : ms → Prop} (h : e_readBlock_102 x1 x2 x3 x7 S K) {G : Prop} (Inv : Int32 → ms → Prop) (h0 : Inv x7 S) (hs : ∀ (yx7 : Int32) (yS : ms) (R : Int32 → Int32 → Int32 → Int32 → ms → Prop), Inv yx7 yS → b_readBlock_102 x1 x2 x3 yx7 yS R K → (∃ (zx7 : Int32) (zS : ms), R x1 x2 x3 zx7 zS ∧ Inv zx7 zS) ∨ G) : G := by
  obtain ⟨I, μ, i0, is⟩ := h
  have go : ∀ (n : Nat) (yx7 : Int32) (yS : ms), μ x1 x2 x3 yx7 yS < n → I x1 x2 x3 yx7 yS → Inv yx7 yS → G := by
    intro n
    induction n with
    | zero => intro yx7 yS hy; exact absurd hy (Nat.not_lt_zero _)
    | succ n ih =>
      intro yx7 yS hy hI hV
      rcases hs yx7 yS _ hV (is x1 x2 x3 yx7 yS hI) with ⟨zx7, zS, ⟨hz, hm⟩, hv⟩ | g
      · exact ih zx7 zS (Nat.lt_of_lt_of_le hm (Nat.le_of_lt_succ hy)) hz hv
      · exact g
  exact go _ x7 S (Nat.lt_succ_self _) i0 h0
theorem r_e_readBlock_102 {x1 : Int32} {x2 : Int32} {x3 : Int32} {x7 : Int32} {S : ms} {K : ms → Prop} (h : e_readBlock_102 x1 x2 x3 x7 S K) : b_readBlock_102 x1 x2 x3 x7 S (fun zx1 zx2 zx3 zx7 zS => e_readBlock_102 zx1 zx2 zx3 zx7 zS K) K := by
  obtain ⟨I, μ, i0, is⟩ := h
  exact d_b_readBlock_102 (is x1 x2 x3 x7 S i0) (fun a0 a1 a2 a3 a4 ha ia => (ia _ _).mpr ⟨I, μ, ha.1, is⟩) (fun a0 ha ia => (ia _ _).mpr ha)
set_option maxHeartbeats 1000000 in
theorem d_b_readBlock_77 {x1 : Int32} {x2 : Int32} {x3 : Int32} {x6 : Int32} {S : ms} {K : ms → Prop} (h : b_readBlock_77 x1 x2 x3 x6 S K) {Q : Prop} (k_K : ∀ (a0 : ms), K a0 → (∀ (K' : ms → Prop), b_readBlock_77 x1 x2 x3 x6 S K' ↔ K' a0) → Q) : Q := by
  unfold b_readBlock_77 at h
  refine d_p_levelCell (And.right h) (fun v93 h_2 i_1 => ?_)
  exact d_e_readBlock_102 (And.right h_2) (fun a0 h_4 i_3 => k_K a0 h_4 (fun _ => Iff.trans (dt_a (And.left h)) (Iff.trans (i_1 _) (Iff.trans (dt_a (And.left h_2)) (i_3 _)))))
set_option maxHeartbeats 1000000 in
theorem d_b_readBlock_67 {x1 : Int32} {x2 : Int32} {x3 : Int32} {x5 : Int32} {x6 : Int32} {S : ms} {K : ms → Prop} (h : b_readBlock_67 x1 x2 x3 x5 x6 S K) {Q : Prop} (k_K : ∀ (a0 : ms), K a0 → (∀ (K' : ms → Prop), b_readBlock_67 x1 x2 x3 x5 x6 S K' ↔ K' a0) → Q) : Q := by
  unfold b_readBlock_67 at h
  refine d_p_fail h (fun v72 S72 h_2 i_1 => ?_)
  exact d_b_readBlock_77 h_2 (fun a0 h_4 i_3 => k_K a0 h_4 (fun _ => Iff.trans (i_1 _) (i_3 _)))
set_option maxHeartbeats 1000000 in
theorem d_b_readBlock_42 {x1 : Int32} {x2 : Int32} {x3 : Int32} {x5 : Int32} {s0 : Int32} {S : ms} {K : ms → Prop} (h : b_readBlock_42 x1 x2 x3 x5 s0 S K) {Q : Prop} (k_K : ∀ (a0 : ms), K a0 → (∀ (K' : ms → Prop), b_readBlock_42 x1 x2 x3 x5 s0 S K' ↔ K' a0) → Q) : Q := by
  unfold b_readBlock_42 at h
  refine dt_n h (fun c_1 h_2 => ?_) (fun c_1 h_2 => ?_)
  ·
    exact d_b_readBlock_77 h_2 (fun a0 h_4 i_3 => k_K a0 h_4 (fun _ => Iff.trans (dt_1 c_1 c_1) (i_3 _)))
  ·
    refine dt_p h_2 (fun c_5 h_6 => ?_) (fun c_5 h_6 => ?_)
    ·
      exact d_b_readBlock_67 h_6 (fun a0 h_8 i_7 => k_K a0 h_8 (fun _ => Iff.trans (dt_2 (fun n => n c_1) c_1) (Iff.trans (dt_1 c_5 (fun n => n c_5)) (i_7 _))))
    ·
      refine dt_p h_6 (fun c_9 h_10 => ?_) (fun c_9 h_10 => ?_)
      ·
        exact d_b_readBlock_77 h_10 (fun a0 h_12 i_11 => k_K a0 h_12 (fun _ => Iff.trans (dt_2 (fun n => n c_1) c_1) (Iff.trans (dt_2 c_5 c_5) (Iff.trans (dt_1 c_9 (fun n => n c_9)) (i_11 _)))))
      ·
        exact d_b_readBlock_67 h_10 (fun a0 h_14 i_13 => k_K a0 h_14 (fun _ => Iff.trans (dt_2 (fun n => n c_1) c_1) (Iff.trans (dt_2 c_5 c_5) (Iff.trans (dt_2 c_9 c_9) (i_13 _)))))
set_option maxHeartbeats 1000000 in
theorem d_p_readBlock {x1 : Int32} {x2 : Int32} {x3 : Int32} {S : ms} {K : ms → Prop} (h : p_readBlock x1 x2 x3 S K) {Q : Prop} (k_K : ∀ (a0 : ms), K a0 → (∀ (K' : ms → Prop), p_readBlock x1 x2 x3 S K' ↔ K' a0) → Q) : Q := by
  unfold p_readBlock at h
  refine d_p_readSymbol (And.right h) (fun v7 S7 h_2 i_1 => ?_)
  refine dt_n h_2 (fun c_3 h_4 => ?_) (fun c_3 h_4 => ?_)
  ·
    exact d_b_readBlock_42 h_4 (fun a0 h_6 i_5 => k_K a0 h_6 (fun _ => Iff.trans (dt_a (And.left h)) (Iff.trans (i_1 _) (Iff.trans (dt_1 c_3 c_3) (i_5 _)))))
  ·
    refine d_p_readNumber (And.right h_4) (fun v34 S34 h_8 i_7 => ?_)
    exact d_b_readBlock_42 h_8 (fun a0 h_10 i_9 => k_K a0 h_10 (fun _ => Iff.trans (dt_a (And.left h)) (Iff.trans (i_1 _) (Iff.trans (dt_2 (fun n => n c_3) c_3) (Iff.trans (dt_a (And.left h_4)) (Iff.trans (i_7 _) (i_9 _)))))))
set_option maxHeartbeats 1000000 in
theorem d_b_readUnit_166 {S : ms} {K : ms → Prop} (h : b_readUnit_166 S K) {Q : Prop} (k_K : ∀ (a0 : ms), K a0 → (∀ (K' : ms → Prop), b_readUnit_166 S K' ↔ K' a0) → Q) : Q := by
  unfold b_readUnit_166 at h
  exact k_K _ h (fun _ => Iff.rfl)
set_option maxHeartbeats 1000000 in
theorem d_b_readUnit_160 {x3 : Int32} {x4 : Int32} {x5 : Int32} {S : ms} {R12 : Int32 → Int32 → Int32 → ms → Prop} {K : ms → Prop} (h : b_readUnit_160 x3 x4 x5 S R12 K) {Q : Prop} (k_R12 : ∀ (a0 : Int32) (a1 : Int32) (a2 : Int32) (a3 : ms), R12 a0 a1 a2 a3 → (∀ (R12' : Int32 → Int32 → Int32 → ms → Prop) (K' : ms → Prop), b_readUnit_160 x3 x4 x5 S R12' K' ↔ R12' a0 a1 a2 a3) → Q) (k_K : ∀ (a0 : ms), K a0 → (∀ (R12' : Int32 → Int32 → Int32 → ms → Prop) (K' : ms → Prop), b_readUnit_160 x3 x4 x5 S R12' K' ↔ K' a0) → Q) : Q := by
  unfold b_readUnit_160 at h
  exact k_R12 _ _ _ _ h (fun _ _ => Iff.rfl)
set_option maxHeartbeats 1000000 in
theorem d_b_readUnit_88 {x3 : Int32} {x4 : Int32} {x5 : Int32} {x6 : Int32} {x7 : Int32} {x8 : Int32} {x9 : Int32} {S : ms} {R12 : Int32 → Int32 → Int32 → ms → Prop} {R88 : Int32 → Int32 → Int32 → Int32 → Int32 → Int32 → Int32 → ms → Prop} {K : ms → Prop} (h : b_readUnit_88 x3 x4 x5 x6 x7 x8 x9 S R12 R88 K) {Q : Prop} (k_R12 : ∀ (a0 : Int32) (a1 : Int32) (a2 : Int32) (a3 : ms), R12 a0 a1 a2 a3 → (∀ (R12' : Int32 → Int32 → Int32 → ms → Prop) (R88' : Int32 → Int32 → Int32 → Int32 → Int32 → Int32 → Int32 → ms → Prop) (K' : ms → Prop), b_readUnit_88 x3 x4 x5 x6 x7 x8 x9 S R12' R88' K' ↔ R12' a0 a1 a2 a3) → Q) (k_R88 : ∀ (a0 : Int32) (a1 : Int32) (a2 : Int32) (a3 : Int32) (a4 : Int32) (a5 : Int32) (a6 : Int32) (a7 : ms), R88 a0 a1 a2 a3 a4 a5 a6 a7 → (∀ (R12' : Int32 → Int32 → Int32 → ms → Prop) (R88' : Int32 → Int32 → Int32 → Int32 → Int32 → Int32 → Int32 → ms → Prop) (K' : ms → Prop), b_readUnit_88 x3 x4 x5 x6 x7 x8 x9 S R12' R88' K' ↔ R88' a0 a1 a2 a3 a4 a5 a6 a7) → Q) (k_K : ∀ (a0 : ms), K a0 → (∀ (R12' : Int32 → Int32 → Int32 → ms → Prop) (R88' : Int32 → Int32 → Int32 → Int32 → Int32 → Int32 → Int32 → ms → Prop) (K' : ms → Prop), b_readUnit_88 x3 x4 x5 x6 x7 x8 x9 S R12' R88' K' ↔ K' a0) → Q) : Q := by
  unfold b_readUnit_88 at h
  refine dt_p h (fun c_1 h_2 => ?_) (fun c_1 h_2 => ?_)
  ·
    exact d_b_readUnit_160 h_2 (fun a0 a1 a2 a3 h_4 i_3 => k_R12 a0 a1 a2 a3 h_4 (fun _ _ _ => Iff.trans (dt_1 c_1 (fun n => n c_1)) (i_3 _ _))) (fun a0 h_6 i_5 => k_K a0 h_6 (fun _ _ _ => Iff.trans (dt_1 c_1 (fun n => n c_1)) (i_5 _ _)))
  ·
    refine dt_n h_2 (fun c_7 h_8 => ?_) (fun c_7 h_8 => ?_)
    ·
      exact d_b_readUnit_160 h_8 (fun a0 a1 a2 a3 h_10 i_9 => k_R12 a0 a1 a2 a3 h_10 (fun _ _ _ => Iff.trans (dt_2 c_1 c_1) (Iff.trans (dt_1 c_7 c_7) (i_9 _ _)))) (fun a0 h_12 i_11 => k_K a0 h_12 (fun _ _ _ => Iff.trans (dt_2 c_1 c_1) (Iff.trans (dt_1 c_7 c_7) (i_11 _ _))))
    ·
      refine d_p_readBlock (And.right (And.right (And.right h_8))) (fun S151 h_14 i_13 => ?_)
      exact k_R88 _ _ _ _ _ _ _ _ h_14 (fun _ _ _ => Iff.trans (dt_2 c_1 c_1) (Iff.trans (dt_2 (fun n => n c_7) c_7) (Iff.trans (dt_a (And.left h_8)) (Iff.trans (dt_a (And.left (And.right h_8))) (Iff.trans (dt_a (And.left (And.right (And.right h_8)))) (i_13 _))))))
theorem l_e_readUnit_88  {x3 : Int32} {x4 : Int32} {x5 : Int32} {x6 : Int32} {x7 : Int32} {x8 : Int32} {x9 : Int32} {S : ms} {R12 : Int32 → Int32 → Int32 → ms → Prop} {K : ms → Prop} : e_readUnit_88 x3 x4 x5 x6 x7 x8 x9 S R12 K ↔ lpE (C := (Int32 → Int32 → Int32 → ms → Prop) × (ms → Prop)) (fun (y : (Int32) × (Int32) × (Int32) × (Int32) × (Int32) × (Int32) × (Int32) × (ms)) (R : ((Int32) × (Int32) × (Int32) × (Int32) × (Int32) × (Int32) × (Int32) × (ms)) → Prop) (c : (Int32 → Int32 → Int32 → ms → Prop) × (ms → Prop)) => b_readUnit_88 y.1 y.2.1 y.2.2.1 y.2.2.2.1 y.2.2.2.2.1 y.2.2.2.2.2.1 y.2.2.2.2.2.2.1 y.2.2.2.2.2.2.2 c.1 (fun z0 z1 z2 z3 z4 z5 z6 z7 => R (z0, z1, z2, z3, z4, z5, z6, z7)) c.2) (x3, x4, x5, x6, x7, x8, x9, S) (R12, K) :=
  ⟨fun ⟨I, μ, h0, hs⟩ => ⟨fun t => I t.1 t.2.1 t.2.2.1 t.2.2.2.1 t.2.2.2.2.1 t.2.2.2.2.2.1 t.2.2.2.2.2.2.1 t.2.2.2.2.2.2.2, fun t => μ t.1 t.2.1 t.2.2.1 t.2.2.2.1 t.2.2.2.2.1 t.2.2.2.2.2.1 t.2.2.2.2.2.2.1 t.2.2.2.2.2.2.2, h0, fun t ht => hs _ _ _ _ _ _ _ _ ht⟩, fun ⟨I, μ, h0, hs⟩ => ⟨fun y0 y1 y2 y3 y4 y5 y6 y7 => I (y0, y1, y2, y3, y4, y5, y6, y7), fun y0 y1 y2 y3 y4 y5 y6 y7 => μ (y0, y1, y2, y3, y4, y5, y6, y7), h0, fun y0 y1 y2 y3 y4 y5 y6 y7 hy => hs (y0, y1, y2, y3, y4, y5, y6, y7) hy⟩⟩
set_option maxHeartbeats 1000000 in
theorem d_e_readUnit_88 {x3 : Int32} {x4 : Int32} {x5 : Int32} {x6 : Int32} {x7 : Int32} {x8 : Int32} {x9 : Int32} {S : ms} {R12 : Int32 → Int32 → Int32 → ms → Prop} {K : ms → Prop} (h : e_readUnit_88 x3 x4 x5 x6 x7 x8 x9 S R12 K) {Q : Prop} (k_R12 : ∀ (a0 : Int32) (a1 : Int32) (a2 : Int32) (a3 : ms), R12 a0 a1 a2 a3 → (∀ (R12' : Int32 → Int32 → Int32 → ms → Prop) (K' : ms → Prop), e_readUnit_88 x3 x4 x5 x6 x7 x8 x9 S R12' K' ↔ R12' a0 a1 a2 a3) → Q) (k_K : ∀ (a0 : ms), K a0 → (∀ (R12' : Int32 → Int32 → Int32 → ms → Prop) (K' : ms → Prop), e_readUnit_88 x3 x4 x5 x6 x7 x8 x9 S R12' K' ↔ K' a0) → Q) : Q := by
  obtain ⟨o, ho, hoc, hi⟩ := lp_det (C := (Int32 → Int32 → Int32 → ms → Prop) × (ms → Prop)) (b := (fun (y : (Int32) × (Int32) × (Int32) × (Int32) × (Int32) × (Int32) × (Int32) × (ms)) (R : ((Int32) × (Int32) × (Int32) × (Int32) × (Int32) × (Int32) × (Int32) × (ms)) → Prop) (c : (Int32 → Int32 → Int32 → ms → Prop) × (ms → Prop)) => b_readUnit_88 y.1 y.2.1 y.2.2.1 y.2.2.2.1 y.2.2.2.2.1 y.2.2.2.2.2.1 y.2.2.2.2.2.2.1 y.2.2.2.2.2.2.2 c.1 (fun z0 z1 z2 z3 z4 z5 z6 z7 => R (z0, z1, z2, z3, z4, z5, z6, z7)) c.2)) (O := (fun (o : ((Int32 → Int32 → Int32 → ms → Prop) × (ms → Prop)) → Prop) => (∃ (a0 : Int32) (a1 : Int32) (a2 : Int32) (a3 : ms), o = fun c => c.1 a0 a1 a2 a3) ∨ (∃ (a0 : ms), o = fun c => c.2 a0))) (fun y R c hy => d_b_readUnit_88 hy (fun a0 a1 a2 a3 ha ia => Or.inr ⟨(fun c => c.1 a0 a1 a2 a3), Or.inl ⟨a0, a1, a2, a3, rfl⟩, ha, fun R' c' => ia c'.1 (fun z0 z1 z2 z3 z4 z5 z6 z7 => R' (z0, z1, z2, z3, z4, z5, z6, z7)) c'.2⟩) (fun a0 a1 a2 a3 a4 a5 a6 a7 ha ia => Or.inl ⟨(a0, a1, a2, a3, a4, a5, a6, a7), ha, fun R' c' => ia c'.1 (fun z0 z1 z2 z3 z4 z5 z6 z7 => R' (z0, z1, z2, z3, z4, z5, z6, z7)) c'.2⟩) (fun a0 ha ia => Or.inr ⟨(fun c => c.2 a0), Or.inr (⟨a0, rfl⟩), ha, fun R' c' => ia c'.1 (fun z0 z1 z2 z3 z4 z5 z6 z7 => R' (z0, z1, z2, z3, z4, z5, z6, z7)) c'.2⟩)) (l_e_readUnit_88.mp h)
  rcases ho with ⟨a0, a1, a2, a3, rfl⟩ | ⟨a0, rfl⟩
  · exact k_R12 _ _ _ _ hoc (fun R12' K' => Iff.trans l_e_readUnit_88 (hi (R12', K')))
  · exact k_K _ hoc (fun R12' K' => Iff.trans l_e_readUnit_88 (hi (R12', K')))
theorem v_e_readUnit_88 {x3 : Int32} {x4 : Int32} {x5 : Int32} {x6 : Int32} {x7 : Int32} {x8 : Int32} {x9 : Int32} {S : ms} {R12 : Int32 → Int32 → Int32 → ms → Prop} {K : ms → Prop} (h : e_readUnit_88 x3 x4 x5 x6 x7 x8 x9 S R12 K) {G : Prop} (Inv : Int32 → ms → Prop) (h0 : Inv x9 S) (hs : ∀ (yx9 : Int32) (yS : ms) (R : Int32 → Int32 → Int32 → Int32 → Int32 → Int32 → Int32 → ms → Prop), Inv yx9 yS → b_readUnit_88 x3 x4 x5 x6 x7 x8 yx9 yS R12 R K → (∃ (zx9 : Int32) (zS : ms), R x3 x4 x5 x6 x7 x8 zx9 zS ∧ Inv zx9 zS) ∨ G) : G := by
  obtain ⟨I, μ, i0, is⟩ := h
  have go : ∀ (n : Nat) (yx9 : Int32) (yS : ms), μ x3 x4 x5 x6 x7 x8 yx9 yS < n → I x3 x4 x5 x6 x7 x8 yx9 yS → Inv yx9 yS → G := by
    intro n
    induction n with
    | zero => intro yx9 yS hy; exact absurd hy (Nat.not_lt_zero _)
    | succ n ih =>
      intro yx9 yS hy hI hV
      rcases hs yx9 yS _ hV (is x3 x4 x5 x6 x7 x8 yx9 yS hI) with ⟨zx9, zS, ⟨hz, hm⟩, hv⟩ | g
      · exact ih zx9 zS (Nat.lt_of_lt_of_le hm (Nat.le_of_lt_succ hy)) hz hv
      · exact g
  exact go _ x9 S (Nat.lt_succ_self _) i0 h0
theorem r_e_readUnit_88 {x3 : Int32} {x4 : Int32} {x5 : Int32} {x6 : Int32} {x7 : Int32} {x8 : Int32} {x9 : Int32} {S : ms} {R12 : Int32 → Int32 → Int32 → ms → Prop} {K : ms → Prop} (h : e_readUnit_88 x3 x4 x5 x6 x7 x8 x9 S R12 K) : b_readUnit_88 x3 x4 x5 x6 x7 x8 x9 S R12 (fun zx3 zx4 zx5 zx6 zx7 zx8 zx9 zS => e_readUnit_88 zx3 zx4 zx5 zx6 zx7 zx8 zx9 zS R12 K) K := by
  obtain ⟨I, μ, i0, is⟩ := h
  exact d_b_readUnit_88 (is x3 x4 x5 x6 x7 x8 x9 S i0) (fun a0 a1 a2 a3 ha ia => (ia _ _ _).mpr ha) (fun a0 a1 a2 a3 a4 a5 a6 a7 ha ia => (ia _ _ _).mpr ⟨I, μ, ha.1, is⟩) (fun a0 ha ia => (ia _ _ _).mpr ha)
set_option maxHeartbeats 1000000 in
theorem d_b_readUnit_83 {x3 : Int32} {x4 : Int32} {x5 : Int32} {x6 : Int32} {x7 : Int32} {s0 : Int32} {S : ms} {R12 : Int32 → Int32 → Int32 → ms → Prop} {K : ms → Prop} (h : b_readUnit_83 x3 x4 x5 x6 x7 s0 S R12 K) {Q : Prop} (k_R12 : ∀ (a0 : Int32) (a1 : Int32) (a2 : Int32) (a3 : ms), R12 a0 a1 a2 a3 → (∀ (R12' : Int32 → Int32 → Int32 → ms → Prop) (K' : ms → Prop), b_readUnit_83 x3 x4 x5 x6 x7 s0 S R12' K' ↔ R12' a0 a1 a2 a3) → Q) (k_K : ∀ (a0 : ms), K a0 → (∀ (R12' : Int32 → Int32 → Int32 → ms → Prop) (K' : ms → Prop), b_readUnit_83 x3 x4 x5 x6 x7 s0 S R12' K' ↔ K' a0) → Q) : Q := by
  unfold b_readUnit_83 at h
  exact d_e_readUnit_88 h (fun a0 a1 a2 a3 h_2 i_1 => k_R12 a0 a1 a2 a3 h_2 (fun _ _ => i_1 _ _)) (fun a0 h_4 i_3 => k_K a0 h_4 (fun _ _ => i_3 _ _))
set_option maxHeartbeats 1000000 in
theorem d_b_readUnit_59 {x3 : Int32} {x4 : Int32} {x5 : Int32} {x6 : Int32} {s0 : Int32} {S : ms} {R12 : Int32 → Int32 → Int32 → ms → Prop} {K : ms → Prop} (h : b_readUnit_59 x3 x4 x5 x6 s0 S R12 K) {Q : Prop} (k_R12 : ∀ (a0 : Int32) (a1 : Int32) (a2 : Int32) (a3 : ms), R12 a0 a1 a2 a3 → (∀ (R12' : Int32 → Int32 → Int32 → ms → Prop) (K' : ms → Prop), b_readUnit_59 x3 x4 x5 x6 s0 S R12' K' ↔ R12' a0 a1 a2 a3) → Q) (k_K : ∀ (a0 : ms), K a0 → (∀ (R12' : Int32 → Int32 → Int32 → ms → Prop) (K' : ms → Prop), b_readUnit_59 x3 x4 x5 x6 s0 S R12' K' ↔ K' a0) → Q) : Q := by
  unfold b_readUnit_59 at h
  refine dt_n h (fun c_1 h_2 => ?_) (fun c_1 h_2 => ?_)
  ·
    exact d_b_readUnit_83 (And.right h_2) (fun a0 a1 a2 a3 h_4 i_3 => k_R12 a0 a1 a2 a3 h_4 (fun _ _ => Iff.trans (dt_1 c_1 c_1) (Iff.trans (dt_a (And.left h_2)) (i_3 _ _)))) (fun a0 h_6 i_5 => k_K a0 h_6 (fun _ _ => Iff.trans (dt_1 c_1 c_1) (Iff.trans (dt_a (And.left h_2)) (i_5 _ _))))
  ·
    exact d_b_readUnit_83 h_2 (fun a0 a1 a2 a3 h_8 i_7 => k_R12 a0 a1 a2 a3 h_8 (fun _ _ => Iff.trans (dt_2 (fun n => n c_1) c_1) (i_7 _ _))) (fun a0 h_10 i_9 => k_K a0 h_10 (fun _ _ => Iff.trans (dt_2 (fun n => n c_1) c_1) (i_9 _ _)))
set_option maxHeartbeats 1000000 in
theorem d_b_readUnit_12 {x3 : Int32} {x4 : Int32} {x5 : Int32} {S : ms} {R12 : Int32 → Int32 → Int32 → ms → Prop} {K : ms → Prop} (h : b_readUnit_12 x3 x4 x5 S R12 K) {Q : Prop} (k_R12 : ∀ (a0 : Int32) (a1 : Int32) (a2 : Int32) (a3 : ms), R12 a0 a1 a2 a3 → (∀ (R12' : Int32 → Int32 → Int32 → ms → Prop) (K' : ms → Prop), b_readUnit_12 x3 x4 x5 S R12' K' ↔ R12' a0 a1 a2 a3) → Q) (k_K : ∀ (a0 : ms), K a0 → (∀ (R12' : Int32 → Int32 → Int32 → ms → Prop) (K' : ms → Prop), b_readUnit_12 x3 x4 x5 S R12' K' ↔ K' a0) → Q) : Q := by
  unfold b_readUnit_12 at h
  refine dt_p h (fun c_1 h_2 => ?_) (fun c_1 h_2 => ?_)
  ·
    exact d_b_readUnit_166 h_2 (fun a0 h_4 i_3 => k_K a0 h_4 (fun _ _ => Iff.trans (dt_1 c_1 (fun n => n c_1)) (i_3 _)))
  ·
    refine dt_n h_2 (fun c_5 h_6 => ?_) (fun c_5 h_6 => ?_)
    ·
      exact d_b_readUnit_166 h_6 (fun a0 h_8 i_7 => k_K a0 h_8 (fun _ _ => Iff.trans (dt_2 c_1 c_1) (Iff.trans (dt_1 c_5 c_5) (i_7 _))))
    ·
      refine dt_n (And.right h_6) (fun c_9 h_10 => ?_) (fun c_9 h_10 => ?_)
      ·
        exact d_b_readUnit_59 (And.right h_10) (fun a0 a1 a2 a3 h_12 i_11 => k_R12 a0 a1 a2 a3 h_12 (fun _ _ => Iff.trans (dt_2 c_1 c_1) (Iff.trans (dt_2 (fun n => n c_5) c_5) (Iff.trans (dt_a (And.left h_6)) (Iff.trans (dt_1 c_9 c_9) (Iff.trans (dt_a (And.left h_10)) (i_11 _ _))))))) (fun a0 h_14 i_13 => k_K a0 h_14 (fun _ _ => Iff.trans (dt_2 c_1 c_1) (Iff.trans (dt_2 (fun n => n c_5) c_5) (Iff.trans (dt_a (And.left h_6)) (Iff.trans (dt_1 c_9 c_9) (Iff.trans (dt_a (And.left h_10)) (i_13 _ _)))))))
      ·
        exact d_b_readUnit_59 h_10 (fun a0 a1 a2 a3 h_16 i_15 => k_R12 a0 a1 a2 a3 h_16 (fun _ _ => Iff.trans (dt_2 c_1 c_1) (Iff.trans (dt_2 (fun n => n c_5) c_5) (Iff.trans (dt_a (And.left h_6)) (Iff.trans (dt_2 (fun n => n c_9) c_9) (i_15 _ _)))))) (fun a0 h_18 i_17 => k_K a0 h_18 (fun _ _ => Iff.trans (dt_2 c_1 c_1) (Iff.trans (dt_2 (fun n => n c_5) c_5) (Iff.trans (dt_a (And.left h_6)) (Iff.trans (dt_2 (fun n => n c_9) c_9) (i_17 _ _))))))
theorem l_e_readUnit_12  {x3 : Int32} {x4 : Int32} {x5 : Int32} {S : ms} {K : ms → Prop} : e_readUnit_12 x3 x4 x5 S K ↔ lpE (C := (ms → Prop)) (fun (y : (Int32) × (Int32) × (Int32) × (ms)) (R : ((Int32) × (Int32) × (Int32) × (ms)) → Prop) (c : (ms → Prop)) => b_readUnit_12 y.1 y.2.1 y.2.2.1 y.2.2.2 (fun z0 z1 z2 z3 => R (z0, z1, z2, z3)) c) (x3, x4, x5, S) K :=
  ⟨fun ⟨I, μ, h0, hs⟩ => ⟨fun t => I t.1 t.2.1 t.2.2.1 t.2.2.2, fun t => μ t.1 t.2.1 t.2.2.1 t.2.2.2, h0, fun t ht => hs _ _ _ _ ht⟩, fun ⟨I, μ, h0, hs⟩ => ⟨fun y0 y1 y2 y3 => I (y0, y1, y2, y3), fun y0 y1 y2 y3 => μ (y0, y1, y2, y3), h0, fun y0 y1 y2 y3 hy => hs (y0, y1, y2, y3) hy⟩⟩
set_option maxHeartbeats 1000000 in
theorem d_e_readUnit_12 {x3 : Int32} {x4 : Int32} {x5 : Int32} {S : ms} {K : ms → Prop} (h : e_readUnit_12 x3 x4 x5 S K) {Q : Prop} (k_K : ∀ (a0 : ms), K a0 → (∀ (K' : ms → Prop), e_readUnit_12 x3 x4 x5 S K' ↔ K' a0) → Q) : Q := by
  obtain ⟨o, ho, hoc, hi⟩ := lp_det (C := (ms → Prop)) (b := (fun (y : (Int32) × (Int32) × (Int32) × (ms)) (R : ((Int32) × (Int32) × (Int32) × (ms)) → Prop) (c : (ms → Prop)) => b_readUnit_12 y.1 y.2.1 y.2.2.1 y.2.2.2 (fun z0 z1 z2 z3 => R (z0, z1, z2, z3)) c)) (O := (fun (o : ((ms → Prop)) → Prop) => (∃ (a0 : ms), o = fun c => c a0))) (fun y R c hy => d_b_readUnit_12 hy (fun a0 a1 a2 a3 ha ia => Or.inl ⟨(a0, a1, a2, a3), ha, fun R' c' => ia (fun z0 z1 z2 z3 => R' (z0, z1, z2, z3)) c'⟩) (fun a0 ha ia => Or.inr ⟨(fun c => c a0), ⟨a0, rfl⟩, ha, fun R' c' => ia (fun z0 z1 z2 z3 => R' (z0, z1, z2, z3)) c'⟩)) (l_e_readUnit_12.mp h)
  rcases ho with ⟨a0, rfl⟩
  · exact k_K _ hoc (fun K' => Iff.trans l_e_readUnit_12 (hi K'))
theorem v_e_readUnit_12 {x3 : Int32} {x4 : Int32} {x5 : Int32} {S : ms} {K : ms → Prop} (h : e_readUnit_12 x3 x4 x5 S K) {G : Prop} (Inv : Int32 → ms → Prop) (h0 : Inv x5 S) (hs : ∀ (yx5 : Int32) (yS : ms) (R : Int32 → Int32 → Int32 → ms → Prop), Inv yx5 yS → b_readUnit_12 x3 x4 yx5 yS R K → (∃ (zx5 : Int32) (zS : ms), R x3 x4 zx5 zS ∧ Inv zx5 zS) ∨ G) : G := by
  obtain ⟨I, μ, i0, is⟩ := h
  have go : ∀ (n : Nat) (yx5 : Int32) (yS : ms), μ x3 x4 yx5 yS < n → I x3 x4 yx5 yS → Inv yx5 yS → G := by
    intro n
    induction n with
    | zero => intro yx5 yS hy; exact absurd hy (Nat.not_lt_zero _)
    | succ n ih =>
      intro yx5 yS hy hI hV
      rcases hs yx5 yS _ hV (is x3 x4 yx5 yS hI) with ⟨zx5, zS, ⟨hz, hm⟩, hv⟩ | g
      · exact ih zx5 zS (Nat.lt_of_lt_of_le hm (Nat.le_of_lt_succ hy)) hz hv
      · exact g
  exact go _ x5 S (Nat.lt_succ_self _) i0 h0
theorem r_e_readUnit_12 {x3 : Int32} {x4 : Int32} {x5 : Int32} {S : ms} {K : ms → Prop} (h : e_readUnit_12 x3 x4 x5 S K) : b_readUnit_12 x3 x4 x5 S (fun zx3 zx4 zx5 zS => e_readUnit_12 zx3 zx4 zx5 zS K) K := by
  obtain ⟨I, μ, i0, is⟩ := h
  exact d_b_readUnit_12 (is x3 x4 x5 S i0) (fun a0 a1 a2 a3 ha ia => (ia _ _).mpr ⟨I, μ, ha.1, is⟩) (fun a0 ha ia => (ia _ _).mpr ha)
set_option maxHeartbeats 1000000 in
theorem d_p_readUnit {x1 : Int32} {x2 : Int32} {S : ms} {K : ms → Prop} (h : p_readUnit x1 x2 S K) {Q : Prop} (k_K : ∀ (a0 : ms), K a0 → (∀ (K' : ms → Prop), p_readUnit x1 x2 S K' ↔ K' a0) → Q) : Q := by
  unfold p_readUnit at h
  exact d_e_readUnit_12 (And.right (And.right h)) (fun a0 h_2 i_1 => k_K a0 h_2 (fun _ => Iff.trans (dt_a (And.left h)) (Iff.trans (dt_a (And.left (And.right h))) (i_1 _))))
set_option maxHeartbeats 1000000 in
theorem d_b_readData_260 {S : ms} {K : ms → Prop} (h : b_readData_260 S K) {Q : Prop} (k_K : ∀ (a0 : ms), K a0 → (∀ (K' : ms → Prop), b_readData_260 S K' ↔ K' a0) → Q) : Q := by
  unfold b_readData_260 at h
  exact k_K _ h (fun _ => Iff.rfl)
set_option maxHeartbeats 1000000 in
theorem d_b_readData_254 {x2 : Int32} {x3 : Int32} {x4 : Int32} {S : ms} {R106 : Int32 → Int32 → Int32 → ms → Prop} {K : ms → Prop} (h : b_readData_254 x2 x3 x4 S R106 K) {Q : Prop} (k_R106 : ∀ (a0 : Int32) (a1 : Int32) (a2 : Int32) (a3 : ms), R106 a0 a1 a2 a3 → (∀ (R106' : Int32 → Int32 → Int32 → ms → Prop) (K' : ms → Prop), b_readData_254 x2 x3 x4 S R106' K' ↔ R106' a0 a1 a2 a3) → Q) (k_K : ∀ (a0 : ms), K a0 → (∀ (R106' : Int32 → Int32 → Int32 → ms → Prop) (K' : ms → Prop), b_readData_254 x2 x3 x4 S R106' K' ↔ K' a0) → Q) : Q := by
  unfold b_readData_254 at h
  exact k_R106 _ _ _ _ h (fun _ _ => Iff.rfl)
set_option maxHeartbeats 1000000 in
theorem d_b_readData_240 {x2 : Int32} {x3 : Int32} {x4 : Int32} {S : ms} {R106 : Int32 → Int32 → Int32 → ms → Prop} {K : ms → Prop} (h : b_readData_240 x2 x3 x4 S R106 K) {Q : Prop} (k_R106 : ∀ (a0 : Int32) (a1 : Int32) (a2 : Int32) (a3 : ms), R106 a0 a1 a2 a3 → (∀ (R106' : Int32 → Int32 → Int32 → ms → Prop) (K' : ms → Prop), b_readData_240 x2 x3 x4 S R106' K' ↔ R106' a0 a1 a2 a3) → Q) (k_K : ∀ (a0 : ms), K a0 → (∀ (R106' : Int32 → Int32 → Int32 → ms → Prop) (K' : ms → Prop), b_readData_240 x2 x3 x4 S R106' K' ↔ K' a0) → Q) : Q := by
  unfold b_readData_240 at h
  refine dt_n h (fun c_1 h_2 => ?_) (fun c_1 h_2 => ?_)
  ·
    exact d_b_readData_254 h_2 (fun a0 a1 a2 a3 h_4 i_3 => k_R106 a0 a1 a2 a3 h_4 (fun _ _ => Iff.trans (dt_1 c_1 c_1) (i_3 _ _))) (fun a0 h_6 i_5 => k_K a0 h_6 (fun _ _ => Iff.trans (dt_1 c_1 c_1) (i_5 _ _)))
  ·
    refine d_p_readUnit h_2 (fun S251 h_8 i_7 => ?_)
    exact d_b_readData_254 h_8 (fun a0 a1 a2 a3 h_10 i_9 => k_R106 a0 a1 a2 a3 h_10 (fun _ _ => Iff.trans (dt_2 (fun n => n c_1) c_1) (Iff.trans (i_7 _) (i_9 _ _)))) (fun a0 h_12 i_11 => k_K a0 h_12 (fun _ _ => Iff.trans (dt_2 (fun n => n c_1) c_1) (Iff.trans (i_7 _) (i_11 _ _))))
set_option maxHeartbeats 1000000 in
theorem d_b_readData_226 {x2 : Int32} {x3 : Int32} {x4 : Int32} {x5 : Int32} {x6 : Int32} {S : ms} {R106 : Int32 → Int32 → Int32 → ms → Prop} {R210 : Int32 → Int32 → Int32 → Int32 → Int32 → ms → Prop} {K : ms → Prop} (h : b_readData_226 x2 x3 x4 x5 x6 S R106 R210 K) {Q : Prop} (k_R106 : ∀ (a0 : Int32) (a1 : Int32) (a2 : Int32) (a3 : ms), R106 a0 a1 a2 a3 → (∀ (R106' : Int32 → Int32 → Int32 → ms → Prop) (R210' : Int32 → Int32 → Int32 → Int32 → Int32 → ms → Prop) (K' : ms → Prop), b_readData_226 x2 x3 x4 x5 x6 S R106' R210' K' ↔ R106' a0 a1 a2 a3) → Q) (k_R210 : ∀ (a0 : Int32) (a1 : Int32) (a2 : Int32) (a3 : Int32) (a4 : Int32) (a5 : ms), R210 a0 a1 a2 a3 a4 a5 → (∀ (R106' : Int32 → Int32 → Int32 → ms → Prop) (R210' : Int32 → Int32 → Int32 → Int32 → Int32 → ms → Prop) (K' : ms → Prop), b_readData_226 x2 x3 x4 x5 x6 S R106' R210' K' ↔ R210' a0 a1 a2 a3 a4 a5) → Q) (k_K : ∀ (a0 : ms), K a0 → (∀ (R106' : Int32 → Int32 → Int32 → ms → Prop) (R210' : Int32 → Int32 → Int32 → Int32 → Int32 → ms → Prop) (K' : ms → Prop), b_readData_226 x2 x3 x4 x5 x6 S R106' R210' K' ↔ K' a0) → Q) : Q := by
  unfold b_readData_226 at h
  exact k_R210 _ _ _ _ _ _ (And.right h) (fun _ _ _ => dt_a (And.left h))
set_option maxHeartbeats 1000000 in
theorem d_b_readData_210 {x2 : Int32} {x3 : Int32} {x4 : Int32} {x5 : Int32} {x6 : Int32} {S : ms} {R106 : Int32 → Int32 → Int32 → ms → Prop} {R210 : Int32 → Int32 → Int32 → Int32 → Int32 → ms → Prop} {K : ms → Prop} (h : b_readData_210 x2 x3 x4 x5 x6 S R106 R210 K) {Q : Prop} (k_R106 : ∀ (a0 : Int32) (a1 : Int32) (a2 : Int32) (a3 : ms), R106 a0 a1 a2 a3 → (∀ (R106' : Int32 → Int32 → Int32 → ms → Prop) (R210' : Int32 → Int32 → Int32 → Int32 → Int32 → ms → Prop) (K' : ms → Prop), b_readData_210 x2 x3 x4 x5 x6 S R106' R210' K' ↔ R106' a0 a1 a2 a3) → Q) (k_R210 : ∀ (a0 : Int32) (a1 : Int32) (a2 : Int32) (a3 : Int32) (a4 : Int32) (a5 : ms), R210 a0 a1 a2 a3 a4 a5 → (∀ (R106' : Int32 → Int32 → Int32 → ms → Prop) (R210' : Int32 → Int32 → Int32 → Int32 → Int32 → ms → Prop) (K' : ms → Prop), b_readData_210 x2 x3 x4 x5 x6 S R106' R210' K' ↔ R210' a0 a1 a2 a3 a4 a5) → Q) (k_K : ∀ (a0 : ms), K a0 → (∀ (R106' : Int32 → Int32 → Int32 → ms → Prop) (R210' : Int32 → Int32 → Int32 → Int32 → Int32 → ms → Prop) (K' : ms → Prop), b_readData_210 x2 x3 x4 x5 x6 S R106' R210' K' ↔ K' a0) → Q) : Q := by
  unfold b_readData_210 at h
  refine dt_p h (fun c_1 h_2 => ?_) (fun c_1 h_2 => ?_)
  ·
    exact d_b_readData_240 h_2 (fun a0 a1 a2 a3 h_4 i_3 => k_R106 a0 a1 a2 a3 h_4 (fun _ _ _ => Iff.trans (dt_1 c_1 (fun n => n c_1)) (i_3 _ _))) (fun a0 h_6 i_5 => k_K a0 h_6 (fun _ _ _ => Iff.trans (dt_1 c_1 (fun n => n c_1)) (i_5 _ _)))
  ·
    refine dt_p h_2 (fun c_7 h_8 => ?_) (fun c_7 h_8 => ?_)
    ·
      exact d_b_readData_226 h_8 (fun a0 a1 a2 a3 h_10 i_9 => k_R106 a0 a1 a2 a3 h_10 (fun _ _ _ => Iff.trans (dt_2 c_1 c_1) (Iff.trans (dt_1 c_7 (fun n => n c_7)) (i_9 _ _ _)))) (fun a0 a1 a2 a3 a4 a5 h_12 i_11 => k_R210 a0 a1 a2 a3 a4 a5 h_12 (fun _ _ _ => Iff.trans (dt_2 c_1 c_1) (Iff.trans (dt_1 c_7 (fun n => n c_7)) (i_11 _ _ _)))) (fun a0 h_14 i_13 => k_K a0 h_14 (fun _ _ _ => Iff.trans (dt_2 c_1 c_1) (Iff.trans (dt_1 c_7 (fun n => n c_7)) (i_13 _ _ _))))
    ·
      refine dt_p h_8 (fun c_15 h_16 => ?_) (fun c_15 h_16 => ?_)
      ·
        exact d_b_readData_240 h_16 (fun a0 a1 a2 a3 h_18 i_17 => k_R106 a0 a1 a2 a3 h_18 (fun _ _ _ => Iff.trans (dt_2 c_1 c_1) (Iff.trans (dt_2 c_7 c_7) (Iff.trans (dt_1 c_15 (fun n => n c_15)) (i_17 _ _))))) (fun a0 h_20 i_19 => k_K a0 h_20 (fun _ _ _ => Iff.trans (dt_2 c_1 c_1) (Iff.trans (dt_2 c_7 c_7) (Iff.trans (dt_1 c_15 (fun n => n c_15)) (i_19 _ _)))))
      ·
        exact d_b_readData_226 h_16 (fun a0 a1 a2 a3 h_22 i_21 => k_R106 a0 a1 a2 a3 h_22 (fun _ _ _ => Iff.trans (dt_2 c_1 c_1) (Iff.trans (dt_2 c_7 c_7) (Iff.trans (dt_2 c_15 c_15) (i_21 _ _ _))))) (fun a0 a1 a2 a3 a4 a5 h_24 i_23 => k_R210 a0 a1 a2 a3 a4 a5 h_24 (fun _ _ _ => Iff.trans (dt_2 c_1 c_1) (Iff.trans (dt_2 c_7 c_7) (Iff.trans (dt_2 c_15 c_15) (i_23 _ _ _))))) (fun a0 h_26 i_25 => k_K a0 h_26 (fun _ _ _ => Iff.trans (dt_2 c_1 c_1) (Iff.trans (dt_2 c_7 c_7) (Iff.trans (dt_2 c_15 c_15) (i_25 _ _ _)))))
theorem l_e_readData_210  {x2 : Int32} {x3 : Int32} {x4 : Int32} {x5 : Int32} {x6 : Int32} {S : ms} {R106 : Int32 → Int32 → Int32 → ms → Prop} {K : ms → Prop} : e_readData_210 x2 x3 x4 x5 x6 S R106 K ↔ lpE (C := (Int32 → Int32 → Int32 → ms → Prop) × (ms → Prop)) (fun (y : (Int32) × (Int32) × (Int32) × (Int32) × (Int32) × (ms)) (R : ((Int32) × (Int32) × (Int32) × (Int32) × (Int32) × (ms)) → Prop) (c : (Int32 → Int32 → Int32 → ms → Prop) × (ms → Prop)) => b_readData_210 y.1 y.2.1 y.2.2.1 y.2.2.2.1 y.2.2.2.2.1 y.2.2.2.2.2 c.1 (fun z0 z1 z2 z3 z4 z5 => R (z0, z1, z2, z3, z4, z5)) c.2) (x2, x3, x4, x5, x6, S) (R106, K) :=
  ⟨fun ⟨I, μ, h0, hs⟩ => ⟨fun t => I t.1 t.2.1 t.2.2.1 t.2.2.2.1 t.2.2.2.2.1 t.2.2.2.2.2, fun t => μ t.1 t.2.1 t.2.2.1 t.2.2.2.1 t.2.2.2.2.1 t.2.2.2.2.2, h0, fun t ht => hs _ _ _ _ _ _ ht⟩, fun ⟨I, μ, h0, hs⟩ => ⟨fun y0 y1 y2 y3 y4 y5 => I (y0, y1, y2, y3, y4, y5), fun y0 y1 y2 y3 y4 y5 => μ (y0, y1, y2, y3, y4, y5), h0, fun y0 y1 y2 y3 y4 y5 hy => hs (y0, y1, y2, y3, y4, y5) hy⟩⟩
set_option maxHeartbeats 1000000 in
theorem d_e_readData_210 {x2 : Int32} {x3 : Int32} {x4 : Int32} {x5 : Int32} {x6 : Int32} {S : ms} {R106 : Int32 → Int32 → Int32 → ms → Prop} {K : ms → Prop} (h : e_readData_210 x2 x3 x4 x5 x6 S R106 K) {Q : Prop} (k_R106 : ∀ (a0 : Int32) (a1 : Int32) (a2 : Int32) (a3 : ms), R106 a0 a1 a2 a3 → (∀ (R106' : Int32 → Int32 → Int32 → ms → Prop) (K' : ms → Prop), e_readData_210 x2 x3 x4 x5 x6 S R106' K' ↔ R106' a0 a1 a2 a3) → Q) (k_K : ∀ (a0 : ms), K a0 → (∀ (R106' : Int32 → Int32 → Int32 → ms → Prop) (K' : ms → Prop), e_readData_210 x2 x3 x4 x5 x6 S R106' K' ↔ K' a0) → Q) : Q := by
  obtain ⟨o, ho, hoc, hi⟩ := lp_det (C := (Int32 → Int32 → Int32 → ms → Prop) × (ms → Prop)) (b := (fun (y : (Int32) × (Int32) × (Int32) × (Int32) × (Int32) × (ms)) (R : ((Int32) × (Int32) × (Int32) × (Int32) × (Int32) × (ms)) → Prop) (c : (Int32 → Int32 → Int32 → ms → Prop) × (ms → Prop)) => b_readData_210 y.1 y.2.1 y.2.2.1 y.2.2.2.1 y.2.2.2.2.1 y.2.2.2.2.2 c.1 (fun z0 z1 z2 z3 z4 z5 => R (z0, z1, z2, z3, z4, z5)) c.2)) (O := (fun (o : ((Int32 → Int32 → Int32 → ms → Prop) × (ms → Prop)) → Prop) => (∃ (a0 : Int32) (a1 : Int32) (a2 : Int32) (a3 : ms), o = fun c => c.1 a0 a1 a2 a3) ∨ (∃ (a0 : ms), o = fun c => c.2 a0))) (fun y R c hy => d_b_readData_210 hy (fun a0 a1 a2 a3 ha ia => Or.inr ⟨(fun c => c.1 a0 a1 a2 a3), Or.inl ⟨a0, a1, a2, a3, rfl⟩, ha, fun R' c' => ia c'.1 (fun z0 z1 z2 z3 z4 z5 => R' (z0, z1, z2, z3, z4, z5)) c'.2⟩) (fun a0 a1 a2 a3 a4 a5 ha ia => Or.inl ⟨(a0, a1, a2, a3, a4, a5), ha, fun R' c' => ia c'.1 (fun z0 z1 z2 z3 z4 z5 => R' (z0, z1, z2, z3, z4, z5)) c'.2⟩) (fun a0 ha ia => Or.inr ⟨(fun c => c.2 a0), Or.inr (⟨a0, rfl⟩), ha, fun R' c' => ia c'.1 (fun z0 z1 z2 z3 z4 z5 => R' (z0, z1, z2, z3, z4, z5)) c'.2⟩)) (l_e_readData_210.mp h)
  rcases ho with ⟨a0, a1, a2, a3, rfl⟩ | ⟨a0, rfl⟩
  · exact k_R106 _ _ _ _ hoc (fun R106' K' => Iff.trans l_e_readData_210 (hi (R106', K')))
  · exact k_K _ hoc (fun R106' K' => Iff.trans l_e_readData_210 (hi (R106', K')))
theorem v_e_readData_210 {x2 : Int32} {x3 : Int32} {x4 : Int32} {x5 : Int32} {x6 : Int32} {S : ms} {R106 : Int32 → Int32 → Int32 → ms → Prop} {K : ms → Prop} (h : e_readData_210 x2 x3 x4 x5 x6 S R106 K) {G : Prop} (Inv : Int32 → ms → Prop) (h0 : Inv x6 S) (hs : ∀ (yx6 : Int32) (yS : ms) (R : Int32 → Int32 → Int32 → Int32 → Int32 → ms → Prop), Inv yx6 yS → b_readData_210 x2 x3 x4 x5 yx6 yS R106 R K → (∃ (zx6 : Int32) (zS : ms), R x2 x3 x4 x5 zx6 zS ∧ Inv zx6 zS) ∨ G) : G := by
  obtain ⟨I, μ, i0, is⟩ := h
  have go : ∀ (n : Nat) (yx6 : Int32) (yS : ms), μ x2 x3 x4 x5 yx6 yS < n → I x2 x3 x4 x5 yx6 yS → Inv yx6 yS → G := by
    intro n
    induction n with
    | zero => intro yx6 yS hy; exact absurd hy (Nat.not_lt_zero _)
    | succ n ih =>
      intro yx6 yS hy hI hV
      rcases hs yx6 yS _ hV (is x2 x3 x4 x5 yx6 yS hI) with ⟨zx6, zS, ⟨hz, hm⟩, hv⟩ | g
      · exact ih zx6 zS (Nat.lt_of_lt_of_le hm (Nat.le_of_lt_succ hy)) hz hv
      · exact g
  exact go _ x6 S (Nat.lt_succ_self _) i0 h0
theorem r_e_readData_210 {x2 : Int32} {x3 : Int32} {x4 : Int32} {x5 : Int32} {x6 : Int32} {S : ms} {R106 : Int32 → Int32 → Int32 → ms → Prop} {K : ms → Prop} (h : e_readData_210 x2 x3 x4 x5 x6 S R106 K) : b_readData_210 x2 x3 x4 x5 x6 S R106 (fun zx2 zx3 zx4 zx5 zx6 zS => e_readData_210 zx2 zx3 zx4 zx5 zx6 zS R106 K) K := by
  obtain ⟨I, μ, i0, is⟩ := h
  exact d_b_readData_210 (is x2 x3 x4 x5 x6 S i0) (fun a0 a1 a2 a3 ha ia => (ia _ _ _).mpr ha) (fun a0 a1 a2 a3 a4 a5 ha ia => (ia _ _ _).mpr ⟨I, μ, ha.1, is⟩) (fun a0 ha ia => (ia _ _ _).mpr ha)
set_option maxHeartbeats 1000000 in
theorem d_b_readData_207 {x2 : Int32} {x3 : Int32} {x4 : Int32} {x5 : Int32} {S : ms} {R106 : Int32 → Int32 → Int32 → ms → Prop} {K : ms → Prop} (h : b_readData_207 x2 x3 x4 x5 S R106 K) {Q : Prop} (k_R106 : ∀ (a0 : Int32) (a1 : Int32) (a2 : Int32) (a3 : ms), R106 a0 a1 a2 a3 → (∀ (R106' : Int32 → Int32 → Int32 → ms → Prop) (K' : ms → Prop), b_readData_207 x2 x3 x4 x5 S R106' K' ↔ R106' a0 a1 a2 a3) → Q) (k_K : ∀ (a0 : ms), K a0 → (∀ (R106' : Int32 → Int32 → Int32 → ms → Prop) (K' : ms → Prop), b_readData_207 x2 x3 x4 x5 S R106' K' ↔ K' a0) → Q) : Q := by
  unfold b_readData_207 at h
  exact d_e_readData_210 h (fun a0 a1 a2 a3 h_2 i_1 => k_R106 a0 a1 a2 a3 h_2 (fun _ _ => i_1 _ _)) (fun a0 h_4 i_3 => k_K a0 h_4 (fun _ _ => i_3 _ _))
set_option maxHeartbeats 1000000 in
theorem d_b_readData_148 {x2 : Int32} {x3 : Int32} {x4 : Int32} {s0 : Int32} {S : ms} {R106 : Int32 → Int32 → Int32 → ms → Prop} {K : ms → Prop} (h : b_readData_148 x2 x3 x4 s0 S R106 K) {Q : Prop} (k_R106 : ∀ (a0 : Int32) (a1 : Int32) (a2 : Int32) (a3 : ms), R106 a0 a1 a2 a3 → (∀ (R106' : Int32 → Int32 → Int32 → ms → Prop) (K' : ms → Prop), b_readData_148 x2 x3 x4 s0 S R106' K' ↔ R106' a0 a1 a2 a3) → Q) (k_K : ∀ (a0 : ms), K a0 → (∀ (R106' : Int32 → Int32 → Int32 → ms → Prop) (K' : ms → Prop), b_readData_148 x2 x3 x4 s0 S R106' K' ↔ K' a0) → Q) : Q := by
  unfold b_readData_148 at h
  refine dt_p h (fun c_1 h_2 => ?_) (fun c_1 h_2 => ?_)
  ·
    exact d_b_readData_207 h_2 (fun a0 a1 a2 a3 h_4 i_3 => k_R106 a0 a1 a2 a3 h_4 (fun _ _ => Iff.trans (dt_1 c_1 (fun n => n c_1)) (i_3 _ _))) (fun a0 h_6 i_5 => k_K a0 h_6 (fun _ _ => Iff.trans (dt_1 c_1 (fun n => n c_1)) (i_5 _ _)))
  ·
    refine d_p_readMark h_2 (fun v161 S161 h_8 i_7 => ?_)
    refine dt_n h_8 (fun c_9 h_10 => ?_) (fun c_9 h_10 => ?_)
    ·
      exact d_b_readData_207 h_10 (fun a0 a1 a2 a3 h_12 i_11 => k_R106 a0 a1 a2 a3 h_12 (fun _ _ => Iff.trans (dt_2 c_1 c_1) (Iff.trans (i_7 _) (Iff.trans (dt_1 c_9 c_9) (i_11 _ _))))) (fun a0 h_14 i_13 => k_K a0 h_14 (fun _ _ => Iff.trans (dt_2 c_1 c_1) (Iff.trans (i_7 _) (Iff.trans (dt_1 c_9 c_9) (i_13 _ _)))))
    ·
      refine dt_p (And.right h_10) (fun c_15 h_16 => ?_) (fun c_15 h_16 => ?_)
      ·
        exact d_b_readData_207 h_16 (fun a0 a1 a2 a3 h_18 i_17 => k_R106 a0 a1 a2 a3 h_18 (fun _ _ => Iff.trans (dt_2 c_1 c_1) (Iff.trans (i_7 _) (Iff.trans (dt_2 (fun n => n c_9) c_9) (Iff.trans (dt_a (And.left h_10)) (Iff.trans (dt_1 c_15 (fun n => n c_15)) (i_17 _ _))))))) (fun a0 h_20 i_19 => k_K a0 h_20 (fun _ _ => Iff.trans (dt_2 c_1 c_1) (Iff.trans (i_7 _) (Iff.trans (dt_2 (fun n => n c_9) c_9) (Iff.trans (dt_a (And.left h_10)) (Iff.trans (dt_1 c_15 (fun n => n c_15)) (i_19 _ _)))))))
      ·
        refine d_p_fail h_16 (fun v202 S202 h_22 i_21 => ?_)
        exact d_b_readData_207 h_22 (fun a0 a1 a2 a3 h_24 i_23 => k_R106 a0 a1 a2 a3 h_24 (fun _ _ => Iff.trans (dt_2 c_1 c_1) (Iff.trans (i_7 _) (Iff.trans (dt_2 (fun n => n c_9) c_9) (Iff.trans (dt_a (And.left h_10)) (Iff.trans (dt_2 c_15 c_15) (Iff.trans (i_21 _) (i_23 _ _)))))))) (fun a0 h_26 i_25 => k_K a0 h_26 (fun _ _ => Iff.trans (dt_2 c_1 c_1) (Iff.trans (i_7 _) (Iff.trans (dt_2 (fun n => n c_9) c_9) (Iff.trans (dt_a (And.left h_10)) (Iff.trans (dt_2 c_15 c_15) (Iff.trans (i_21 _) (i_25 _ _))))))))
set_option maxHeartbeats 1000000 in
theorem d_b_readData_147 {x2 : Int32} {x3 : Int32} {x4 : Int32} {S : ms} {R106 : Int32 → Int32 → Int32 → ms → Prop} {K : ms → Prop} (h : b_readData_147 x2 x3 x4 S R106 K) {Q : Prop} (k_R106 : ∀ (a0 : Int32) (a1 : Int32) (a2 : Int32) (a3 : ms), R106 a0 a1 a2 a3 → (∀ (R106' : Int32 → Int32 → Int32 → ms → Prop) (K' : ms → Prop), b_readData_147 x2 x3 x4 S R106' K' ↔ R106' a0 a1 a2 a3) → Q) (k_K : ∀ (a0 : ms), K a0 → (∀ (R106' : Int32 → Int32 → Int32 → ms → Prop) (K' : ms → Prop), b_readData_147 x2 x3 x4 S R106' K' ↔ K' a0) → Q) : Q := by
  unfold b_readData_147 at h
  exact d_b_readData_148 h (fun a0 a1 a2 a3 h_2 i_1 => k_R106 a0 a1 a2 a3 h_2 (fun _ _ => i_1 _ _)) (fun a0 h_4 i_3 => k_K a0 h_4 (fun _ _ => i_3 _ _))
set_option maxHeartbeats 1000000 in
theorem d_b_readData_106 {x2 : Int32} {x3 : Int32} {x4 : Int32} {S : ms} {R106 : Int32 → Int32 → Int32 → ms → Prop} {K : ms → Prop} (h : b_readData_106 x2 x3 x4 S R106 K) {Q : Prop} (k_R106 : ∀ (a0 : Int32) (a1 : Int32) (a2 : Int32) (a3 : ms), R106 a0 a1 a2 a3 → (∀ (R106' : Int32 → Int32 → Int32 → ms → Prop) (K' : ms → Prop), b_readData_106 x2 x3 x4 S R106' K' ↔ R106' a0 a1 a2 a3) → Q) (k_K : ∀ (a0 : ms), K a0 → (∀ (R106' : Int32 → Int32 → Int32 → ms → Prop) (K' : ms → Prop), b_readData_106 x2 x3 x4 S R106' K' ↔ K' a0) → Q) : Q := by
  unfold b_readData_106 at h
  refine dt_p h (fun c_1 h_2 => ?_) (fun c_1 h_2 => ?_)
  ·
    exact d_b_readData_260 h_2 (fun a0 h_4 i_3 => k_K a0 h_4 (fun _ _ => Iff.trans (dt_1 c_1 (fun n => n c_1)) (i_3 _)))
  ·
    refine dt_n h_2 (fun c_5 h_6 => ?_) (fun c_5 h_6 => ?_)
    ·
      exact d_b_readData_260 h_6 (fun a0 h_8 i_7 => k_K a0 h_8 (fun _ _ => Iff.trans (dt_2 c_1 c_1) (Iff.trans (dt_1 c_5 c_5) (i_7 _))))
    ·
      refine dt_p h_6 (fun c_9 h_10 => ?_) (fun c_9 h_10 => ?_)
      ·
        exact d_b_readData_147 h_10 (fun a0 a1 a2 a3 h_12 i_11 => k_R106 a0 a1 a2 a3 h_12 (fun _ _ => Iff.trans (dt_2 c_1 c_1) (Iff.trans (dt_2 (fun n => n c_5) c_5) (Iff.trans (dt_1 c_9 (fun n => n c_9)) (i_11 _ _))))) (fun a0 h_14 i_13 => k_K a0 h_14 (fun _ _ => Iff.trans (dt_2 c_1 c_1) (Iff.trans (dt_2 (fun n => n c_5) c_5) (Iff.trans (dt_1 c_9 (fun n => n c_9)) (i_13 _ _)))))
      ·
        refine dt_p h_10 (fun c_15 h_16 => ?_) (fun c_15 h_16 => ?_)
        ·
          exact d_b_readData_147 h_16 (fun a0 a1 a2 a3 h_18 i_17 => k_R106 a0 a1 a2 a3 h_18 (fun _ _ => Iff.trans (dt_2 c_1 c_1) (Iff.trans (dt_2 (fun n => n c_5) c_5) (Iff.trans (dt_2 c_9 c_9) (Iff.trans (dt_1 c_15 (fun n => n c_15)) (i_17 _ _)))))) (fun a0 h_20 i_19 => k_K a0 h_20 (fun _ _ => Iff.trans (dt_2 c_1 c_1) (Iff.trans (dt_2 (fun n => n c_5) c_5) (Iff.trans (dt_2 c_9 c_9) (Iff.trans (dt_1 c_15 (fun n => n c_15)) (i_19 _ _))))))
        ·
          refine dt_n (And.right h_16) (fun c_21 h_22 => ?_) (fun c_21 h_22 => ?_)
          ·
            exact d_b_readData_147 h_22 (fun a0 a1 a2 a3 h_24 i_23 => k_R106 a0 a1 a2 a3 h_24 (fun _ _ => Iff.trans (dt_2 c_1 c_1) (Iff.trans (dt_2 (fun n => n c_5) c_5) (Iff.trans (dt_2 c_9 c_9) (Iff.trans (dt_2 c_15 c_15) (Iff.trans (dt_a (And.left h_16)) (Iff.trans (dt_1 c_21 c_21) (i_23 _ _)))))))) (fun a0 h_26 i_25 => k_K a0 h_26 (fun _ _ => Iff.trans (dt_2 c_1 c_1) (Iff.trans (dt_2 (fun n => n c_5) c_5) (Iff.trans (dt_2 c_9 c_9) (Iff.trans (dt_2 c_15 c_15) (Iff.trans (dt_a (And.left h_16)) (Iff.trans (dt_1 c_21 c_21) (i_25 _ _))))))))
          ·
            exact d_b_readData_148 h_22 (fun a0 a1 a2 a3 h_28 i_27 => k_R106 a0 a1 a2 a3 h_28 (fun _ _ => Iff.trans (dt_2 c_1 c_1) (Iff.trans (dt_2 (fun n => n c_5) c_5) (Iff.trans (dt_2 c_9 c_9) (Iff.trans (dt_2 c_15 c_15) (Iff.trans (dt_a (And.left h_16)) (Iff.trans (dt_2 (fun n => n c_21) c_21) (i_27 _ _)))))))) (fun a0 h_30 i_29 => k_K a0 h_30 (fun _ _ => Iff.trans (dt_2 c_1 c_1) (Iff.trans (dt_2 (fun n => n c_5) c_5) (Iff.trans (dt_2 c_9 c_9) (Iff.trans (dt_2 c_15 c_15) (Iff.trans (dt_a (And.left h_16)) (Iff.trans (dt_2 (fun n => n c_21) c_21) (i_29 _ _))))))))
theorem l_e_readData_106  {x2 : Int32} {x3 : Int32} {x4 : Int32} {S : ms} {K : ms → Prop} : e_readData_106 x2 x3 x4 S K ↔ lpE (C := (ms → Prop)) (fun (y : (Int32) × (Int32) × (Int32) × (ms)) (R : ((Int32) × (Int32) × (Int32) × (ms)) → Prop) (c : (ms → Prop)) => b_readData_106 y.1 y.2.1 y.2.2.1 y.2.2.2 (fun z0 z1 z2 z3 => R (z0, z1, z2, z3)) c) (x2, x3, x4, S) K :=
  ⟨fun ⟨I, μ, h0, hs⟩ => ⟨fun t => I t.1 t.2.1 t.2.2.1 t.2.2.2, fun t => μ t.1 t.2.1 t.2.2.1 t.2.2.2, h0, fun t ht => hs _ _ _ _ ht⟩, fun ⟨I, μ, h0, hs⟩ => ⟨fun y0 y1 y2 y3 => I (y0, y1, y2, y3), fun y0 y1 y2 y3 => μ (y0, y1, y2, y3), h0, fun y0 y1 y2 y3 hy => hs (y0, y1, y2, y3) hy⟩⟩
set_option maxHeartbeats 1000000 in
theorem d_e_readData_106 {x2 : Int32} {x3 : Int32} {x4 : Int32} {S : ms} {K : ms → Prop} (h : e_readData_106 x2 x3 x4 S K) {Q : Prop} (k_K : ∀ (a0 : ms), K a0 → (∀ (K' : ms → Prop), e_readData_106 x2 x3 x4 S K' ↔ K' a0) → Q) : Q := by
  obtain ⟨o, ho, hoc, hi⟩ := lp_det (C := (ms → Prop)) (b := (fun (y : (Int32) × (Int32) × (Int32) × (ms)) (R : ((Int32) × (Int32) × (Int32) × (ms)) → Prop) (c : (ms → Prop)) => b_readData_106 y.1 y.2.1 y.2.2.1 y.2.2.2 (fun z0 z1 z2 z3 => R (z0, z1, z2, z3)) c)) (O := (fun (o : ((ms → Prop)) → Prop) => (∃ (a0 : ms), o = fun c => c a0))) (fun y R c hy => d_b_readData_106 hy (fun a0 a1 a2 a3 ha ia => Or.inl ⟨(a0, a1, a2, a3), ha, fun R' c' => ia (fun z0 z1 z2 z3 => R' (z0, z1, z2, z3)) c'⟩) (fun a0 ha ia => Or.inr ⟨(fun c => c a0), ⟨a0, rfl⟩, ha, fun R' c' => ia (fun z0 z1 z2 z3 => R' (z0, z1, z2, z3)) c'⟩)) (l_e_readData_106.mp h)
  rcases ho with ⟨a0, rfl⟩
  · exact k_K _ hoc (fun K' => Iff.trans l_e_readData_106 (hi K'))
theorem v_e_readData_106 {x2 : Int32} {x3 : Int32} {x4 : Int32} {S : ms} {K : ms → Prop} (h : e_readData_106 x2 x3 x4 S K) {G : Prop} (Inv : Int32 → ms → Prop) (h0 : Inv x4 S) (hs : ∀ (yx4 : Int32) (yS : ms) (R : Int32 → Int32 → Int32 → ms → Prop), Inv yx4 yS → b_readData_106 x2 x3 yx4 yS R K → (∃ (zx4 : Int32) (zS : ms), R x2 x3 zx4 zS ∧ Inv zx4 zS) ∨ G) : G := by
  obtain ⟨I, μ, i0, is⟩ := h
  have go : ∀ (n : Nat) (yx4 : Int32) (yS : ms), μ x2 x3 yx4 yS < n → I x2 x3 yx4 yS → Inv yx4 yS → G := by
    intro n
    induction n with
    | zero => intro yx4 yS hy; exact absurd hy (Nat.not_lt_zero _)
    | succ n ih =>
      intro yx4 yS hy hI hV
      rcases hs yx4 yS _ hV (is x2 x3 yx4 yS hI) with ⟨zx4, zS, ⟨hz, hm⟩, hv⟩ | g
      · exact ih zx4 zS (Nat.lt_of_lt_of_le hm (Nat.le_of_lt_succ hy)) hz hv
      · exact g
  exact go _ x4 S (Nat.lt_succ_self _) i0 h0
theorem r_e_readData_106 {x2 : Int32} {x3 : Int32} {x4 : Int32} {S : ms} {K : ms → Prop} (h : e_readData_106 x2 x3 x4 S K) : b_readData_106 x2 x3 x4 S (fun zx2 zx3 zx4 zS => e_readData_106 zx2 zx3 zx4 zS K) K := by
  obtain ⟨I, μ, i0, is⟩ := h
  exact d_b_readData_106 (is x2 x3 x4 S i0) (fun a0 a1 a2 a3 ha ia => (ia _ _).mpr ⟨I, μ, ha.1, is⟩) (fun a0 ha ia => (ia _ _).mpr ha)
set_option maxHeartbeats 1000000 in
theorem d_b_readData_97 {x2 : Int32} {s0 : Int32} {S : ms} {K : ms → Prop} (h : b_readData_97 x2 s0 S K) {Q : Prop} (k_K : ∀ (a0 : ms), K a0 → (∀ (K' : ms → Prop), b_readData_97 x2 s0 S K' ↔ K' a0) → Q) : Q := by
  unfold b_readData_97 at h
  exact d_e_readData_106 h (fun a0 h_2 i_1 => k_K a0 h_2 (fun _ => i_1 _))
set_option maxHeartbeats 1000000 in
theorem d_b_readData_55 {x1 : Int32} {s0 : Int32} {S : ms} {K : ms → Prop} (h : b_readData_55 x1 s0 S K) {Q : Prop} (k_K : ∀ (a0 : ms), K a0 → (∀ (K' : ms → Prop), b_readData_55 x1 s0 S K' ↔ K' a0) → Q) : Q := by
  unfold b_readData_55 at h
  refine dt_p h (fun c_1 h_2 => ?_) (fun c_1 h_2 => ?_)
  ·
    refine d_p_greatest (And.right h_2) (fun v90 S90 h_4 i_3 => ?_)
    refine d_p_upward h_4 (fun v94 h_6 i_5 => ?_)
    exact d_b_readData_97 h_6 (fun a0 h_8 i_7 => k_K a0 h_8 (fun _ => Iff.trans (dt_1 c_1 (fun n => n c_1)) (Iff.trans (dt_a (And.left h_2)) (Iff.trans (i_3 _) (Iff.trans (i_5 _) (i_7 _))))))
  ·
    refine d_p_layerHigh (And.right h_2) (fun v68 S68 h_10 i_9 => ?_)
    refine d_p_upward h_10 (fun v73 h_12 i_11 => ?_)
    exact d_b_readData_97 h_12 (fun a0 h_14 i_13 => k_K a0 h_14 (fun _ => Iff.trans (dt_2 c_1 c_1) (Iff.trans (dt_a (And.left h_2)) (Iff.trans (i_9 _) (Iff.trans (i_11 _) (i_13 _))))))
set_option maxHeartbeats 1000000 in
theorem d_b_readData_13 {s0 : Int32} {S : ms} {K : ms → Prop} (h : b_readData_13 s0 S K) {Q : Prop} (k_K : ∀ (a0 : ms), K a0 → (∀ (K' : ms → Prop), b_readData_13 s0 S K' ↔ K' a0) → Q) : Q := by
  unfold b_readData_13 at h
  refine dt_p h (fun c_1 h_2 => ?_) (fun c_1 h_2 => ?_)
  ·
    refine d_p_greatest (And.right h_2) (fun v48 S48 h_4 i_3 => ?_)
    refine d_p_upward h_4 (fun v52 h_6 i_5 => ?_)
    exact d_b_readData_55 h_6 (fun a0 h_8 i_7 => k_K a0 h_8 (fun _ => Iff.trans (dt_1 c_1 (fun n => n c_1)) (Iff.trans (dt_a (And.left h_2)) (Iff.trans (i_3 _) (Iff.trans (i_5 _) (i_7 _))))))
  ·
    refine d_p_layerWide (And.right h_2) (fun v26 S26 h_10 i_9 => ?_)
    refine d_p_upward h_10 (fun v31 h_12 i_11 => ?_)
    exact d_b_readData_55 h_12 (fun a0 h_14 i_13 => k_K a0 h_14 (fun _ => Iff.trans (dt_2 c_1 c_1) (Iff.trans (dt_a (And.left h_2)) (Iff.trans (i_9 _) (Iff.trans (i_11 _) (i_13 _))))))
set_option maxHeartbeats 1000000 in
theorem d_p_readData {S : ms} {K : ms → Prop} (h : p_readData S K) {Q : Prop} (k_K : ∀ (a0 : ms), K a0 → (∀ (K' : ms → Prop), p_readData S K' ↔ K' a0) → Q) : Q := by
  unfold p_readData at h
  refine dt_n h (fun c_1 h_2 => ?_) (fun c_1 h_2 => ?_)
  ·
    exact d_b_readData_13 h_2 (fun a0 h_4 i_3 => k_K a0 h_4 (fun _ => Iff.trans (dt_1 c_1 c_1) (i_3 _)))
  ·
    exact d_b_readData_13 h_2 (fun a0 h_6 i_5 => k_K a0 h_6 (fun _ => Iff.trans (dt_2 (fun n => n c_1) c_1) (i_5 _)))
set_option maxHeartbeats 1000000 in
theorem d_b_readSection_157 {S : ms} {K : ms → Prop} (h : b_readSection_157 S K) {Q : Prop} (k_K : ∀ (a0 : ms), K a0 → (∀ (K' : ms → Prop), b_readSection_157 S K' ↔ K' a0) → Q) : Q := by
  unfold b_readSection_157 at h
  exact k_K _ h (fun _ => Iff.rfl)
set_option maxHeartbeats 1000000 in
theorem d_b_readSection_131 {S : ms} {R131 : ms → Prop} {K : ms → Prop} (h : b_readSection_131 S R131 K) {Q : Prop} (k_R131 : ∀ (a0 : ms), R131 a0 → (∀ (R131' : ms → Prop) (K' : ms → Prop), b_readSection_131 S R131' K' ↔ R131' a0) → Q) (k_K : ∀ (a0 : ms), K a0 → (∀ (R131' : ms → Prop) (K' : ms → Prop), b_readSection_131 S R131' K' ↔ K' a0) → Q) : Q := by
  unfold b_readSection_131 at h
  refine dt_p h (fun c_1 h_2 => ?_) (fun c_1 h_2 => ?_)
  ·
    exact d_b_readSection_157 h_2 (fun a0 h_4 i_3 => k_K a0 h_4 (fun _ _ => Iff.trans (dt_1 c_1 (fun n => n c_1)) (i_3 _)))
  ·
    refine dt_n h_2 (fun c_5 h_6 => ?_) (fun c_5 h_6 => ?_)
    ·
      exact d_b_readSection_157 h_6 (fun a0 h_8 i_7 => k_K a0 h_8 (fun _ _ => Iff.trans (dt_2 c_1 c_1) (Iff.trans (dt_1 c_5 c_5) (i_7 _))))
    ·
      refine d_p_next h_6 (fun v150 S150 h_10 i_9 => ?_)
      exact k_R131 _ h_10 (fun _ _ => Iff.trans (dt_2 c_1 c_1) (Iff.trans (dt_2 (fun n => n c_5) c_5) (i_9 _)))
theorem l_e_readSection_131  {S : ms} {K : ms → Prop} : e_readSection_131 S K ↔ lpE (C := (ms → Prop)) (fun (y : (ms)) (R : ((ms)) → Prop) (c : (ms → Prop)) => b_readSection_131 y (fun z0 => R z0) c) S K :=
  ⟨fun ⟨I, μ, h0, hs⟩ => ⟨fun t => I t, fun t => μ t, h0, fun t ht => hs _ ht⟩, fun ⟨I, μ, h0, hs⟩ => ⟨fun y0 => I y0, fun y0 => μ y0, h0, fun y0 hy => hs y0 hy⟩⟩
set_option maxHeartbeats 1000000 in
theorem d_e_readSection_131 {S : ms} {K : ms → Prop} (h : e_readSection_131 S K) {Q : Prop} (k_K : ∀ (a0 : ms), K a0 → (∀ (K' : ms → Prop), e_readSection_131 S K' ↔ K' a0) → Q) : Q := by
  obtain ⟨o, ho, hoc, hi⟩ := lp_det (C := (ms → Prop)) (b := (fun (y : (ms)) (R : ((ms)) → Prop) (c : (ms → Prop)) => b_readSection_131 y (fun z0 => R z0) c)) (O := (fun (o : ((ms → Prop)) → Prop) => (∃ (a0 : ms), o = fun c => c a0))) (fun y R c hy => d_b_readSection_131 hy (fun a0 ha ia => Or.inl ⟨a0, ha, fun R' c' => ia (fun z0 => R' z0) c'⟩) (fun a0 ha ia => Or.inr ⟨(fun c => c a0), ⟨a0, rfl⟩, ha, fun R' c' => ia (fun z0 => R' z0) c'⟩)) (l_e_readSection_131.mp h)
  rcases ho with ⟨a0, rfl⟩
  · exact k_K _ hoc (fun K' => Iff.trans l_e_readSection_131 (hi K'))
theorem v_e_readSection_131 {S : ms} {K : ms → Prop} (h : e_readSection_131 S K) {G : Prop} (Inv : ms → Prop) (h0 : Inv S) (hs : ∀ (yS : ms) (R : ms → Prop), Inv yS → b_readSection_131 yS R K → (∃ (zS : ms), R zS ∧ Inv zS) ∨ G) : G := by
  obtain ⟨I, μ, i0, is⟩ := h
  have go : ∀ (n : Nat) (yS : ms), μ yS < n → I yS → Inv yS → G := by
    intro n
    induction n with
    | zero => intro yS hy; exact absurd hy (Nat.not_lt_zero _)
    | succ n ih =>
      intro yS hy hI hV
      rcases hs yS _ hV (is yS hI) with ⟨zS, ⟨hz, hm⟩, hv⟩ | g
      · exact ih zS (Nat.lt_of_lt_of_le hm (Nat.le_of_lt_succ hy)) hz hv
      · exact g
  exact go _ S (Nat.lt_succ_self _) i0 h0
theorem r_e_readSection_131 {S : ms} {K : ms → Prop} (h : e_readSection_131 S K) : b_readSection_131 S (fun zS => e_readSection_131 zS K) K := by
  obtain ⟨I, μ, i0, is⟩ := h
  exact d_b_readSection_131 (is S i0) (fun a0 ha ia => (ia _ _).mpr ⟨I, μ, ha.1, is⟩) (fun a0 ha ia => (ia _ _).mpr ha)
set_option maxHeartbeats 1000000 in
theorem d_b_readSection_100 {s1 : Int32} {S : ms} {K : ms → Prop} (h : b_readSection_100 s1 S K) {Q : Prop} (k_K : ∀ (a0 : ms), K a0 → (∀ (K' : ms → Prop), b_readSection_100 s1 S K' ↔ K' a0) → Q) : Q := by
  unfold b_readSection_100 at h
  exact d_b_readSection_157 h (fun a0 h_2 i_1 => k_K a0 h_2 (fun _ => i_1 _))
set_option maxHeartbeats 1000000 in
theorem d_b_readSection_84 {S : ms} {K : ms → Prop} (h : b_readSection_84 S K) {Q : Prop} (k_K : ∀ (a0 : ms), K a0 → (∀ (K' : ms → Prop), b_readSection_84 S K' ↔ K' a0) → Q) : Q := by
  unfold b_readSection_84 at h
  refine dt_n h (fun c_1 h_2 => ?_) (fun c_1 h_2 => ?_)
  ·
    exact d_b_readSection_100 h_2 (fun a0 h_4 i_3 => k_K a0 h_4 (fun _ => Iff.trans (dt_1 c_1 c_1) (i_3 _)))
  ·
    refine d_p_nextTwo h_2 (fun v93 S93 h_6 i_5 => ?_)
    exact d_b_readSection_100 h_6 (fun a0 h_8 i_7 => k_K a0 h_8 (fun _ => Iff.trans (dt_2 (fun n => n c_1) c_1) (Iff.trans (i_5 _) (i_7 _))))
set_option maxHeartbeats 1000000 in
theorem d_p_readSection {x1 : Int32} {S : ms} {K : ms → Prop} (h : p_readSection x1 S K) {Q : Prop} (k_K : ∀ (a0 : ms), K a0 → (∀ (K' : ms → Prop), p_readSection x1 S K' ↔ K' a0) → Q) : Q := by
  unfold p_readSection at h
  refine d_p_readLength h (fun S1 h_2 i_1 => ?_)
  refine dt_p h_2 (fun c_3 h_4 => ?_) (fun c_3 h_4 => ?_)
  ·
    refine dt_n h_4 (fun c_5 h_6 => ?_) (fun c_5 h_6 => ?_)
    ·
      refine dt_n h_6 (fun c_7 h_8 => ?_) (fun c_7 h_8 => ?_)
      ·
        refine dt_n h_8 (fun c_9 h_10 => ?_) (fun c_9 h_10 => ?_)
        ·
          refine dt_n h_10 (fun c_11 h_12 => ?_) (fun c_11 h_12 => ?_)
          ·
            refine dt_n h_12 (fun c_13 h_14 => ?_) (fun c_13 h_14 => ?_)
            ·
              exact d_e_readSection_131 h_14 (fun a0 h_16 i_15 => k_K a0 h_16 (fun _ => Iff.trans (i_1 _) (Iff.trans (dt_1 c_3 (fun n => n c_3)) (Iff.trans (dt_1 c_5 c_5) (Iff.trans (dt_1 c_7 c_7) (Iff.trans (dt_1 c_9 c_9) (Iff.trans (dt_1 c_11 c_11) (Iff.trans (dt_1 c_13 c_13) (i_15 _)))))))))
            ·
              refine d_p_readScanHead h_14 (fun S114 h_18 i_17 => ?_)
              refine dt_n h_18 (fun c_19 h_20 => ?_) (fun c_19 h_20 => ?_)
              ·
                exact d_b_readSection_157 h_20 (fun a0 h_22 i_21 => k_K a0 h_22 (fun _ => Iff.trans (i_1 _) (Iff.trans (dt_1 c_3 (fun n => n c_3)) (Iff.trans (dt_1 c_5 c_5) (Iff.trans (dt_1 c_7 c_7) (Iff.trans (dt_1 c_9 c_9) (Iff.trans (dt_1 c_11 c_11) (Iff.trans (dt_2 (fun n => n c_13) c_13) (Iff.trans (i_17 _) (Iff.trans (dt_1 c_19 c_19) (i_21 _)))))))))))
              ·
                refine d_p_readData h_20 (fun S125 h_24 i_23 => ?_)
                exact d_b_readSection_157 h_24 (fun a0 h_26 i_25 => k_K a0 h_26 (fun _ => Iff.trans (i_1 _) (Iff.trans (dt_1 c_3 (fun n => n c_3)) (Iff.trans (dt_1 c_5 c_5) (Iff.trans (dt_1 c_7 c_7) (Iff.trans (dt_1 c_9 c_9) (Iff.trans (dt_1 c_11 c_11) (Iff.trans (dt_2 (fun n => n c_13) c_13) (Iff.trans (i_17 _) (Iff.trans (dt_2 (fun n => n c_19) c_19) (Iff.trans (i_23 _) (i_25 _))))))))))))
          ·
            refine dt_p h_12 (fun c_27 h_28 => ?_) (fun c_27 h_28 => ?_)
            ·
              exact d_b_readSection_84 h_28 (fun a0 h_30 i_29 => k_K a0 h_30 (fun _ => Iff.trans (i_1 _) (Iff.trans (dt_1 c_3 (fun n => n c_3)) (Iff.trans (dt_1 c_5 c_5) (Iff.trans (dt_1 c_7 c_7) (Iff.trans (dt_1 c_9 c_9) (Iff.trans (dt_2 (fun n => n c_11) c_11) (Iff.trans (dt_1 c_27 (fun n => n c_27)) (i_29 _)))))))))
            ·
              refine d_p_fail h_28 (fun v80 S80 h_32 i_31 => ?_)
              exact d_b_readSection_84 h_32 (fun a0 h_34 i_33 => k_K a0 h_34 (fun _ => Iff.trans (i_1 _) (Iff.trans (dt_1 c_3 (fun n => n c_3)) (Iff.trans (dt_1 c_5 c_5) (Iff.trans (dt_1 c_7 c_7) (Iff.trans (dt_1 c_9 c_9) (Iff.trans (dt_2 (fun n => n c_11) c_11) (Iff.trans (dt_2 c_27 c_27) (Iff.trans (i_31 _) (i_33 _))))))))))
        ·
          refine d_p_readFrame h_10 (fun S48 h_36 i_35 => ?_)
          exact d_b_readSection_157 h_36 (fun a0 h_38 i_37 => k_K a0 h_38 (fun _ => Iff.trans (i_1 _) (Iff.trans (dt_1 c_3 (fun n => n c_3)) (Iff.trans (dt_1 c_5 c_5) (Iff.trans (dt_1 c_7 c_7) (Iff.trans (dt_2 (fun n => n c_9) c_9) (Iff.trans (i_35 _) (i_37 _))))))))
      ·
        refine d_p_readCodes h_8 (fun S34 h_40 i_39 => ?_)
        exact d_b_readSection_157 h_40 (fun a0 h_42 i_41 => k_K a0 h_42 (fun _ => Iff.trans (i_1 _) (Iff.trans (dt_1 c_3 (fun n => n c_3)) (Iff.trans (dt_1 c_5 c_5) (Iff.trans (dt_2 (fun n => n c_7) c_7) (Iff.trans (i_39 _) (i_41 _)))))))
    ·
      refine d_p_readTables h_6 (fun S20 h_44 i_43 => ?_)
      exact d_b_readSection_157 h_44 (fun a0 h_46 i_45 => k_K a0 h_46 (fun _ => Iff.trans (i_1 _) (Iff.trans (dt_1 c_3 (fun n => n c_3)) (Iff.trans (dt_2 (fun n => n c_5) c_5) (Iff.trans (i_43 _) (i_45 _))))))
  ·
    exact k_K _ h_4 (fun _ => Iff.trans (i_1 _) (dt_2 c_3 c_3))
set_option maxHeartbeats 1000000 in
theorem d_b_isDone_34 {x1 : Int32} {S : ms} {K : Int32 → ms → Prop} (h : b_isDone_34 x1 S K) {Q : Prop} (k_K : ∀ (a0 : Int32) (a1 : ms), K a0 a1 → (∀ (K' : Int32 → ms → Prop), b_isDone_34 x1 S K' ↔ K' a0 a1) → Q) : Q := by
  unfold b_isDone_34 at h
  exact k_K _ _ (And.right h) (fun _ => dt_a (And.left h))
set_option maxHeartbeats 1000000 in
theorem d_b_isDone_7 {x1 : Int32} {x2 : Int32} {S : ms} {R7 : Int32 → Int32 → ms → Prop} {K : Int32 → ms → Prop} (h : b_isDone_7 x1 x2 S R7 K) {Q : Prop} (k_R7 : ∀ (a0 : Int32) (a1 : Int32) (a2 : ms), R7 a0 a1 a2 → (∀ (R7' : Int32 → Int32 → ms → Prop) (K' : Int32 → ms → Prop), b_isDone_7 x1 x2 S R7' K' ↔ R7' a0 a1 a2) → Q) (k_K : ∀ (a0 : Int32) (a1 : ms), K a0 a1 → (∀ (R7' : Int32 → Int32 → ms → Prop) (K' : Int32 → ms → Prop), b_isDone_7 x1 x2 S R7' K' ↔ K' a0 a1) → Q) : Q := by
  unfold b_isDone_7 at h
  refine dt_p (And.right h) (fun c_1 h_2 => ?_) (fun c_1 h_2 => ?_)
  ·
    exact d_b_isDone_34 h_2 (fun a0 a1 h_4 i_3 => k_K a0 a1 h_4 (fun _ _ => Iff.trans (dt_a (And.left h)) (Iff.trans (dt_1 c_1 (fun n => n c_1)) (i_3 _))))
  ·
    refine dt_p h_2 (fun c_5 h_6 => ?_) (fun c_5 h_6 => ?_)
    ·
      exact d_b_isDone_34 h_6 (fun a0 a1 h_8 i_7 => k_K a0 a1 h_8 (fun _ _ => Iff.trans (dt_a (And.left h)) (Iff.trans (dt_2 c_1 c_1) (Iff.trans (dt_1 c_5 (fun n => n c_5)) (i_7 _)))))
    ·
      exact k_R7 _ _ _ (And.right h_6) (fun _ _ => Iff.trans (dt_a (And.left h)) (Iff.trans (dt_2 c_1 c_1) (Iff.trans (dt_2 c_5 c_5) (dt_a (And.left h_6)))))
theorem l_e_isDone_7  {x1 : Int32} {x2 : Int32} {S : ms} {K : Int32 → ms → Prop} : e_isDone_7 x1 x2 S K ↔ lpE (C := (Int32 → ms → Prop)) (fun (y : (Int32) × (Int32) × (ms)) (R : ((Int32) × (Int32) × (ms)) → Prop) (c : (Int32 → ms → Prop)) => b_isDone_7 y.1 y.2.1 y.2.2 (fun z0 z1 z2 => R (z0, z1, z2)) c) (x1, x2, S) K :=
  ⟨fun ⟨I, μ, h0, hs⟩ => ⟨fun t => I t.1 t.2.1 t.2.2, fun t => μ t.1 t.2.1 t.2.2, h0, fun t ht => hs _ _ _ ht⟩, fun ⟨I, μ, h0, hs⟩ => ⟨fun y0 y1 y2 => I (y0, y1, y2), fun y0 y1 y2 => μ (y0, y1, y2), h0, fun y0 y1 y2 hy => hs (y0, y1, y2) hy⟩⟩
set_option maxHeartbeats 1000000 in
theorem d_e_isDone_7 {x1 : Int32} {x2 : Int32} {S : ms} {K : Int32 → ms → Prop} (h : e_isDone_7 x1 x2 S K) {Q : Prop} (k_K : ∀ (a0 : Int32) (a1 : ms), K a0 a1 → (∀ (K' : Int32 → ms → Prop), e_isDone_7 x1 x2 S K' ↔ K' a0 a1) → Q) : Q := by
  obtain ⟨o, ho, hoc, hi⟩ := lp_det (C := (Int32 → ms → Prop)) (b := (fun (y : (Int32) × (Int32) × (ms)) (R : ((Int32) × (Int32) × (ms)) → Prop) (c : (Int32 → ms → Prop)) => b_isDone_7 y.1 y.2.1 y.2.2 (fun z0 z1 z2 => R (z0, z1, z2)) c)) (O := (fun (o : ((Int32 → ms → Prop)) → Prop) => (∃ (a0 : Int32) (a1 : ms), o = fun c => c a0 a1))) (fun y R c hy => d_b_isDone_7 hy (fun a0 a1 a2 ha ia => Or.inl ⟨(a0, a1, a2), ha, fun R' c' => ia (fun z0 z1 z2 => R' (z0, z1, z2)) c'⟩) (fun a0 a1 ha ia => Or.inr ⟨(fun c => c a0 a1), ⟨a0, a1, rfl⟩, ha, fun R' c' => ia (fun z0 z1 z2 => R' (z0, z1, z2)) c'⟩)) (l_e_isDone_7.mp h)
  rcases ho with ⟨a0, a1, rfl⟩
  · exact k_K _ _ hoc (fun K' => Iff.trans l_e_isDone_7 (hi K'))
theorem v_e_isDone_7 {x1 : Int32} {x2 : Int32} {S : ms} {K : Int32 → ms → Prop} (h : e_isDone_7 x1 x2 S K) {G : Prop} (Inv : Int32 → Int32 → ms → Prop) (h0 : Inv x1 x2 S) (hs : ∀ (yx1 : Int32) (yx2 : Int32) (yS : ms) (R : Int32 → Int32 → ms → Prop), Inv yx1 yx2 yS → b_isDone_7 yx1 yx2 yS R K → (∃ (zx1 : Int32) (zx2 : Int32) (zS : ms), R zx1 zx2 zS ∧ Inv zx1 zx2 zS) ∨ G) : G := by
  obtain ⟨I, μ, i0, is⟩ := h
  have go : ∀ (n : Nat) (yx1 : Int32) (yx2 : Int32) (yS : ms), μ yx1 yx2 yS < n → I yx1 yx2 yS → Inv yx1 yx2 yS → G := by
    intro n
    induction n with
    | zero => intro yx1 yx2 yS hy; exact absurd hy (Nat.not_lt_zero _)
    | succ n ih =>
      intro yx1 yx2 yS hy hI hV
      rcases hs yx1 yx2 yS _ hV (is yx1 yx2 yS hI) with ⟨zx1, zx2, zS, ⟨hz, hm⟩, hv⟩ | g
      · exact ih zx1 zx2 zS (Nat.lt_of_lt_of_le hm (Nat.le_of_lt_succ hy)) hz hv
      · exact g
  exact go _ x1 x2 S (Nat.lt_succ_self _) i0 h0
theorem r_e_isDone_7 {x1 : Int32} {x2 : Int32} {S : ms} {K : Int32 → ms → Prop} (h : e_isDone_7 x1 x2 S K) : b_isDone_7 x1 x2 S (fun zx1 zx2 zS => e_isDone_7 zx1 zx2 zS K) K := by
  obtain ⟨I, μ, i0, is⟩ := h
  exact d_b_isDone_7 (is x1 x2 S i0) (fun a0 a1 a2 ha ia => (ia _ _).mpr ⟨I, μ, ha.1, is⟩) (fun a0 a1 ha ia => (ia _ _).mpr ha)
set_option maxHeartbeats 1000000 in
theorem d_p_isDone {S : ms} {K : Int32 → ms → Prop} (h : p_isDone S K) {Q : Prop} (k_K : ∀ (a0 : Int32) (a1 : ms), K a0 a1 → (∀ (K' : Int32 → ms → Prop), p_isDone S K' ↔ K' a0 a1) → Q) : Q := by
  unfold p_isDone at h
  exact d_e_isDone_7 h (fun a0 a1 h_2 i_1 => k_K a0 a1 h_2 (fun _ => i_1 _))
set_option maxHeartbeats 1000000 in
theorem d_b_mayCome_99 {s0 : Int32} {S : ms} {K : Int32 → ms → Prop} (h : b_mayCome_99 s0 S K) {Q : Prop} (k_K : ∀ (a0 : Int32) (a1 : ms), K a0 a1 → (∀ (K' : Int32 → ms → Prop), b_mayCome_99 s0 S K' ↔ K' a0 a1) → Q) : Q := by
  unfold b_mayCome_99 at h
  exact k_K _ _ (And.right h) (fun _ => dt_a (And.left h))
set_option maxHeartbeats 1000000 in
theorem d_b_mayCome_98 {S : ms} {K : Int32 → ms → Prop} (h : b_mayCome_98 S K) {Q : Prop} (k_K : ∀ (a0 : Int32) (a1 : ms), K a0 a1 → (∀ (K' : Int32 → ms → Prop), b_mayCome_98 S K' ↔ K' a0 a1) → Q) : Q := by
  unfold b_mayCome_98 at h
  exact d_b_mayCome_99 h (fun a0 a1 h_2 i_1 => k_K a0 a1 h_2 (fun _ => i_1 _))
set_option maxHeartbeats 1000000 in
theorem d_b_mayCome_94 {S : ms} {K : Int32 → ms → Prop} (h : b_mayCome_94 S K) {Q : Prop} (k_K : ∀ (a0 : Int32) (a1 : ms), K a0 a1 → (∀ (K' : Int32 → ms → Prop), b_mayCome_94 S K' ↔ K' a0 a1) → Q) : Q := by
  unfold b_mayCome_94 at h
  exact d_b_mayCome_99 h (fun a0 a1 h_2 i_1 => k_K a0 a1 h_2 (fun _ => i_1 _))
set_option maxHeartbeats 1000000 in
theorem d_b_mayCome_80 {x1 : Int32} {S : ms} {K : Int32 → ms → Prop} (h : b_mayCome_80 x1 S K) {Q : Prop} (k_K : ∀ (a0 : Int32) (a1 : ms), K a0 a1 → (∀ (K' : Int32 → ms → Prop), b_mayCome_80 x1 S K' ↔ K' a0 a1) → Q) : Q := by
  unfold b_mayCome_80 at h
  refine dt_n h (fun c_1 h_2 => ?_) (fun c_1 h_2 => ?_)
  ·
    exact d_b_mayCome_98 h_2 (fun a0 a1 h_4 i_3 => k_K a0 a1 h_4 (fun _ => Iff.trans (dt_1 c_1 c_1) (i_3 _)))
  ·
    refine d_p_isDone h_2 (fun v88 S88 h_6 i_5 => ?_)
    refine dt_p h_6 (fun c_7 h_8 => ?_) (fun c_7 h_8 => ?_)
    ·
      exact d_b_mayCome_98 h_8 (fun a0 a1 h_10 i_9 => k_K a0 a1 h_10 (fun _ => Iff.trans (dt_2 (fun n => n c_1) c_1) (Iff.trans (i_5 _) (Iff.trans (dt_1 c_7 (fun n => n c_7)) (i_9 _)))))
    ·
      exact d_b_mayCome_94 h_8 (fun a0 a1 h_12 i_11 => k_K a0 a1 h_12 (fun _ => Iff.trans (dt_2 (fun n => n c_1) c_1) (Iff.trans (i_5 _) (Iff.trans (dt_2 c_7 c_7) (i_11 _)))))
set_option maxHeartbeats 1000000 in
theorem d_b_mayCome_66 {x1 : Int32} {S : ms} {K : Int32 → ms → Prop} (h : b_mayCome_66 x1 S K) {Q : Prop} (k_K : ∀ (a0 : Int32) (a1 : ms), K a0 a1 → (∀ (K' : Int32 → ms → Prop), b_mayCome_66 x1 S K' ↔ K' a0 a1) → Q) : Q := by
  unfold b_mayCome_66 at h
  refine dt_n h (fun c_1 h_2 => ?_) (fun c_1 h_2 => ?_)
  ·
    exact d_b_mayCome_80 h_2 (fun a0 a1 h_4 i_3 => k_K a0 a1 h_4 (fun _ => Iff.trans (dt_1 c_1 c_1) (i_3 _)))
  ·
    refine dt_n h_2 (fun c_5 h_6 => ?_) (fun c_5 h_6 => ?_)
    ·
      exact d_b_mayCome_94 h_6 (fun a0 a1 h_8 i_7 => k_K a0 a1 h_8 (fun _ => Iff.trans (dt_2 (fun n => n c_1) c_1) (Iff.trans (dt_1 c_5 c_5) (i_7 _))))
    ·
      exact d_b_mayCome_80 h_6 (fun a0 a1 h_10 i_9 => k_K a0 a1 h_10 (fun _ => Iff.trans (dt_2 (fun n => n c_1) c_1) (Iff.trans (dt_2 (fun n => n c_5) c_5) (i_9 _))))
set_option maxHeartbeats 1000000 in
theorem d_b_mayCome_47 {x1 : Int32} {s0 : Int32} {S : ms} {K : Int32 → ms → Prop} (h : b_mayCome_47 x1 s0 S K) {Q : Prop} (k_K : ∀ (a0 : Int32) (a1 : ms), K a0 a1 → (∀ (K' : Int32 → ms → Prop), b_mayCome_47 x1 s0 S K' ↔ K' a0 a1) → Q) : Q := by
  unfold b_mayCome_47 at h
  refine dt_n h (fun c_1 h_2 => ?_) (fun c_1 h_2 => ?_)
  ·
    exact d_b_mayCome_94 h_2 (fun a0 a1 h_4 i_3 => k_K a0 a1 h_4 (fun _ => Iff.trans (dt_1 c_1 c_1) (i_3 _)))
  ·
    refine dt_n h_2 (fun c_5 h_6 => ?_) (fun c_5 h_6 => ?_)
    ·
      exact d_b_mayCome_66 h_6 (fun a0 a1 h_8 i_7 => k_K a0 a1 h_8 (fun _ => Iff.trans (dt_2 (fun n => n c_1) c_1) (Iff.trans (dt_1 c_5 c_5) (i_7 _))))
    ·
      refine dt_p h_6 (fun c_9 h_10 => ?_) (fun c_9 h_10 => ?_)
      ·
        exact d_b_mayCome_94 h_10 (fun a0 a1 h_12 i_11 => k_K a0 a1 h_12 (fun _ => Iff.trans (dt_2 (fun n => n c_1) c_1) (Iff.trans (dt_2 (fun n => n c_5) c_5) (Iff.trans (dt_1 c_9 (fun n => n c_9)) (i_11 _)))))
      ·
        exact d_b_mayCome_66 h_10 (fun a0 a1 h_14 i_13 => k_K a0 a1 h_14 (fun _ => Iff.trans (dt_2 (fun n => n c_1) c_1) (Iff.trans (dt_2 (fun n => n c_5) c_5) (Iff.trans (dt_2 c_9 c_9) (i_13 _)))))
set_option maxHeartbeats 1000000 in
theorem d_b_mayCome_42 {x1 : Int32} {S : ms} {K : Int32 → ms → Prop} (h : b_mayCome_42 x1 S K) {Q : Prop} (k_K : ∀ (a0 : Int32) (a1 : ms), K a0 a1 → (∀ (K' : Int32 → ms → Prop), b_mayCome_42 x1 S K' ↔ K' a0 a1) → Q) : Q := by
  unfold b_mayCome_42 at h
  exact d_b_mayCome_47 h (fun a0 a1 h_2 i_1 => k_K a0 a1 h_2 (fun _ => i_1 _))
set_option maxHeartbeats 1000000 in
theorem d_b_mayCome_35 {x1 : Int32} {S : ms} {K : Int32 → ms → Prop} (h : b_mayCome_35 x1 S K) {Q : Prop} (k_K : ∀ (a0 : Int32) (a1 : ms), K a0 a1 → (∀ (K' : Int32 → ms → Prop), b_mayCome_35 x1 S K' ↔ K' a0 a1) → Q) : Q := by
  unfold b_mayCome_35 at h
  refine dt_n h (fun c_1 h_2 => ?_) (fun c_1 h_2 => ?_)
  ·
    exact d_b_mayCome_47 h_2 (fun a0 a1 h_4 i_3 => k_K a0 a1 h_4 (fun _ => Iff.trans (dt_1 c_1 c_1) (i_3 _)))
  ·
    exact d_b_mayCome_42 h_2 (fun a0 a1 h_6 i_5 => k_K a0 a1 h_6 (fun _ => Iff.trans (dt_2 (fun n => n c_1) c_1) (i_5 _)))
set_option maxHeartbeats 1000000 in
theorem d_p_mayCome {x1 : Int32} {S : ms} {K : Int32 → ms → Prop} (h : p_mayCome x1 S K) {Q : Prop} (k_K : ∀ (a0 : Int32) (a1 : ms), K a0 a1 → (∀ (K' : Int32 → ms → Prop), p_mayCome x1 S K' ↔ K' a0 a1) → Q) : Q := by
  unfold p_mayCome at h
  refine dt_p h (fun c_1 h_2 => ?_) (fun c_1 h_2 => ?_)
  ·
    exact d_b_mayCome_42 h_2 (fun a0 a1 h_4 i_3 => k_K a0 a1 h_4 (fun _ => Iff.trans (dt_1 c_1 (fun n => n c_1)) (i_3 _)))
  ·
    refine dt_p h_2 (fun c_5 h_6 => ?_) (fun c_5 h_6 => ?_)
    ·
      exact d_b_mayCome_42 h_6 (fun a0 a1 h_8 i_7 => k_K a0 a1 h_8 (fun _ => Iff.trans (dt_2 c_1 c_1) (Iff.trans (dt_1 c_5 (fun n => n c_5)) (i_7 _))))
    ·
      refine dt_p h_6 (fun c_9 h_10 => ?_) (fun c_9 h_10 => ?_)
      ·
        exact d_b_mayCome_42 h_10 (fun a0 a1 h_12 i_11 => k_K a0 a1 h_12 (fun _ => Iff.trans (dt_2 c_1 c_1) (Iff.trans (dt_2 c_5 c_5) (Iff.trans (dt_1 c_9 (fun n => n c_9)) (i_11 _)))))
      ·
        refine dt_p h_10 (fun c_13 h_14 => ?_) (fun c_13 h_14 => ?_)
        ·
          exact d_b_mayCome_35 h_14 (fun a0 a1 h_16 i_15 => k_K a0 a1 h_16 (fun _ => Iff.trans (dt_2 c_1 c_1) (Iff.trans (dt_2 c_5 c_5) (Iff.trans (dt_2 c_9 c_9) (Iff.trans (dt_1 c_13 (fun n => n c_13)) (i_15 _))))))
        ·
          refine dt_p h_14 (fun c_17 h_18 => ?_) (fun c_17 h_18 => ?_)
          ·
            exact d_b_mayCome_42 h_18 (fun a0 a1 h_20 i_19 => k_K a0 a1 h_20 (fun _ => Iff.trans (dt_2 c_1 c_1) (Iff.trans (dt_2 c_5 c_5) (Iff.trans (dt_2 c_9 c_9) (Iff.trans (dt_2 c_13 c_13) (Iff.trans (dt_1 c_17 (fun n => n c_17)) (i_19 _)))))))
          ·
            exact d_b_mayCome_35 h_18 (fun a0 a1 h_22 i_21 => k_K a0 a1 h_22 (fun _ => Iff.trans (dt_2 c_1 c_1) (Iff.trans (dt_2 c_5 c_5) (Iff.trans (dt_2 c_9 c_9) (Iff.trans (dt_2 c_13 c_13) (Iff.trans (dt_2 c_17 c_17) (i_21 _)))))))
set_option maxHeartbeats 1000000 in
theorem d_b_begin_61 {x1 : Int32} {S : ms} {R61 : Int32 → ms → Prop} {K : ms → Prop} (h : b_begin_61 x1 S R61 K) {Q : Prop} (k_R61 : ∀ (a0 : Int32) (a1 : ms), R61 a0 a1 → (∀ (R61' : Int32 → ms → Prop) (K' : ms → Prop), b_begin_61 x1 S R61' K' ↔ R61' a0 a1) → Q) (k_K : ∀ (a0 : ms), K a0 → (∀ (R61' : Int32 → ms → Prop) (K' : ms → Prop), b_begin_61 x1 S R61' K' ↔ K' a0) → Q) : Q := by
  unfold b_begin_61 at h
  refine dt_p h (fun c_1 h_2 => ?_) (fun c_1 h_2 => ?_)
  ·
    exact k_K _ h_2 (fun _ _ => dt_1 c_1 (fun n => n c_1))
  ·
    exact k_R61 _ _ (And.right h_2) (fun _ _ => Iff.trans (dt_2 c_1 c_1) (dt_a (And.left h_2)))
theorem l_e_begin_61  {x1 : Int32} {S : ms} {K : ms → Prop} : e_begin_61 x1 S K ↔ lpE (C := (ms → Prop)) (fun (y : (Int32) × (ms)) (R : ((Int32) × (ms)) → Prop) (c : (ms → Prop)) => b_begin_61 y.1 y.2 (fun z0 z1 => R (z0, z1)) c) (x1, S) K :=
  ⟨fun ⟨I, μ, h0, hs⟩ => ⟨fun t => I t.1 t.2, fun t => μ t.1 t.2, h0, fun t ht => hs _ _ ht⟩, fun ⟨I, μ, h0, hs⟩ => ⟨fun y0 y1 => I (y0, y1), fun y0 y1 => μ (y0, y1), h0, fun y0 y1 hy => hs (y0, y1) hy⟩⟩
set_option maxHeartbeats 1000000 in
theorem d_e_begin_61 {x1 : Int32} {S : ms} {K : ms → Prop} (h : e_begin_61 x1 S K) {Q : Prop} (k_K : ∀ (a0 : ms), K a0 → (∀ (K' : ms → Prop), e_begin_61 x1 S K' ↔ K' a0) → Q) : Q := by
  obtain ⟨o, ho, hoc, hi⟩ := lp_det (C := (ms → Prop)) (b := (fun (y : (Int32) × (ms)) (R : ((Int32) × (ms)) → Prop) (c : (ms → Prop)) => b_begin_61 y.1 y.2 (fun z0 z1 => R (z0, z1)) c)) (O := (fun (o : ((ms → Prop)) → Prop) => (∃ (a0 : ms), o = fun c => c a0))) (fun y R c hy => d_b_begin_61 hy (fun a0 a1 ha ia => Or.inl ⟨(a0, a1), ha, fun R' c' => ia (fun z0 z1 => R' (z0, z1)) c'⟩) (fun a0 ha ia => Or.inr ⟨(fun c => c a0), ⟨a0, rfl⟩, ha, fun R' c' => ia (fun z0 z1 => R' (z0, z1)) c'⟩)) (l_e_begin_61.mp h)
  rcases ho with ⟨a0, rfl⟩
  · exact k_K _ hoc (fun K' => Iff.trans l_e_begin_61 (hi K'))
theorem v_e_begin_61 {x1 : Int32} {S : ms} {K : ms → Prop} (h : e_begin_61 x1 S K) {G : Prop} (Inv : Int32 → ms → Prop) (h0 : Inv x1 S) (hs : ∀ (yx1 : Int32) (yS : ms) (R : Int32 → ms → Prop), Inv yx1 yS → b_begin_61 yx1 yS R K → (∃ (zx1 : Int32) (zS : ms), R zx1 zS ∧ Inv zx1 zS) ∨ G) : G := by
  obtain ⟨I, μ, i0, is⟩ := h
  have go : ∀ (n : Nat) (yx1 : Int32) (yS : ms), μ yx1 yS < n → I yx1 yS → Inv yx1 yS → G := by
    intro n
    induction n with
    | zero => intro yx1 yS hy; exact absurd hy (Nat.not_lt_zero _)
    | succ n ih =>
      intro yx1 yS hy hI hV
      rcases hs yx1 yS _ hV (is yx1 yS hI) with ⟨zx1, zS, ⟨hz, hm⟩, hv⟩ | g
      · exact ih zx1 zS (Nat.lt_of_lt_of_le hm (Nat.le_of_lt_succ hy)) hz hv
      · exact g
  exact go _ x1 S (Nat.lt_succ_self _) i0 h0
theorem r_e_begin_61 {x1 : Int32} {S : ms} {K : ms → Prop} (h : e_begin_61 x1 S K) : b_begin_61 x1 S (fun zx1 zS => e_begin_61 zx1 zS K) K := by
  obtain ⟨I, μ, i0, is⟩ := h
  exact d_b_begin_61 (is x1 S i0) (fun a0 a1 ha ia => (ia _ _).mpr ⟨I, μ, ha.1, is⟩) (fun a0 ha ia => (ia _ _).mpr ha)
set_option maxHeartbeats 1000000 in
theorem d_b_begin_34 {x1 : Int32} {S : ms} {R34 : Int32 → ms → Prop} {K : ms → Prop} (h : b_begin_34 x1 S R34 K) {Q : Prop} (k_R34 : ∀ (a0 : Int32) (a1 : ms), R34 a0 a1 → (∀ (R34' : Int32 → ms → Prop) (K' : ms → Prop), b_begin_34 x1 S R34' K' ↔ R34' a0 a1) → Q) (k_K : ∀ (a0 : ms), K a0 → (∀ (R34' : Int32 → ms → Prop) (K' : ms → Prop), b_begin_34 x1 S R34' K' ↔ K' a0) → Q) : Q := by
  unfold b_begin_34 at h
  refine dt_p h (fun c_1 h_2 => ?_) (fun c_1 h_2 => ?_)
  ·
    exact d_e_begin_61 h_2 (fun a0 h_4 i_3 => k_K a0 h_4 (fun _ _ => Iff.trans (dt_1 c_1 (fun n => n c_1)) (i_3 _)))
  ·
    exact k_R34 _ _ (And.right (And.right h_2)) (fun _ _ => Iff.trans (dt_2 c_1 c_1) (Iff.trans (dt_a (And.left h_2)) (dt_a (And.left (And.right h_2)))))
theorem l_e_begin_34  {x1 : Int32} {S : ms} {K : ms → Prop} : e_begin_34 x1 S K ↔ lpE (C := (ms → Prop)) (fun (y : (Int32) × (ms)) (R : ((Int32) × (ms)) → Prop) (c : (ms → Prop)) => b_begin_34 y.1 y.2 (fun z0 z1 => R (z0, z1)) c) (x1, S) K :=
  ⟨fun ⟨I, μ, h0, hs⟩ => ⟨fun t => I t.1 t.2, fun t => μ t.1 t.2, h0, fun t ht => hs _ _ ht⟩, fun ⟨I, μ, h0, hs⟩ => ⟨fun y0 y1 => I (y0, y1), fun y0 y1 => μ (y0, y1), h0, fun y0 y1 hy => hs (y0, y1) hy⟩⟩
set_option maxHeartbeats 1000000 in
theorem d_e_begin_34 {x1 : Int32} {S : ms} {K : ms → Prop} (h : e_begin_34 x1 S K) {Q : Prop} (k_K : ∀ (a0 : ms), K a0 → (∀ (K' : ms → Prop), e_begin_34 x1 S K' ↔ K' a0) → Q) : Q := by
  obtain ⟨o, ho, hoc, hi⟩ := lp_det (C := (ms → Prop)) (b := (fun (y : (Int32) × (ms)) (R : ((Int32) × (ms)) → Prop) (c : (ms → Prop)) => b_begin_34 y.1 y.2 (fun z0 z1 => R (z0, z1)) c)) (O := (fun (o : ((ms → Prop)) → Prop) => (∃ (a0 : ms), o = fun c => c a0))) (fun y R c hy => d_b_begin_34 hy (fun a0 a1 ha ia => Or.inl ⟨(a0, a1), ha, fun R' c' => ia (fun z0 z1 => R' (z0, z1)) c'⟩) (fun a0 ha ia => Or.inr ⟨(fun c => c a0), ⟨a0, rfl⟩, ha, fun R' c' => ia (fun z0 z1 => R' (z0, z1)) c'⟩)) (l_e_begin_34.mp h)
  rcases ho with ⟨a0, rfl⟩
  · exact k_K _ hoc (fun K' => Iff.trans l_e_begin_34 (hi K'))
theorem v_e_begin_34 {x1 : Int32} {S : ms} {K : ms → Prop} (h : e_begin_34 x1 S K) {G : Prop} (Inv : Int32 → ms → Prop) (h0 : Inv x1 S) (hs : ∀ (yx1 : Int32) (yS : ms) (R : Int32 → ms → Prop), Inv yx1 yS → b_begin_34 yx1 yS R K → (∃ (zx1 : Int32) (zS : ms), R zx1 zS ∧ Inv zx1 zS) ∨ G) : G := by
  obtain ⟨I, μ, i0, is⟩ := h
  have go : ∀ (n : Nat) (yx1 : Int32) (yS : ms), μ yx1 yS < n → I yx1 yS → Inv yx1 yS → G := by
    intro n
    induction n with
    | zero => intro yx1 yS hy; exact absurd hy (Nat.not_lt_zero _)
    | succ n ih =>
      intro yx1 yS hy hI hV
      rcases hs yx1 yS _ hV (is yx1 yS hI) with ⟨zx1, zS, ⟨hz, hm⟩, hv⟩ | g
      · exact ih zx1 zS (Nat.lt_of_lt_of_le hm (Nat.le_of_lt_succ hy)) hz hv
      · exact g
  exact go _ x1 S (Nat.lt_succ_self _) i0 h0
theorem r_e_begin_34 {x1 : Int32} {S : ms} {K : ms → Prop} (h : e_begin_34 x1 S K) : b_begin_34 x1 S (fun zx1 zS => e_begin_34 zx1 zS K) K := by
  obtain ⟨I, μ, i0, is⟩ := h
  exact d_b_begin_34 (is x1 S i0) (fun a0 a1 ha ia => (ia _ _).mpr ⟨I, μ, ha.1, is⟩) (fun a0 ha ia => (ia _ _).mpr ha)
set_option maxHeartbeats 1000000 in
theorem d_p_begin {S : ms} {K : ms → Prop} (h : p_begin S K) {Q : Prop} (k_K : ∀ (a0 : ms), K a0 → (∀ (K' : ms → Prop), p_begin S K' ↔ K' a0) → Q) : Q := by
  unfold p_begin at h
  exact d_e_begin_34 (And.right h) (fun a0 h_2 i_1 => k_K a0 h_2 (fun _ => Iff.trans (dt_a (And.left h)) (i_1 _)))
set_option maxHeartbeats 1000000 in
theorem d_b_become_243 {x1 : Int32} {x2 : Int32} {x3 : Int32} {x4 : Int32} {x5 : Int32} {S : ms} {R102 : Int32 → ms → Prop} {R114 : Int32 → Int32 → ms → Prop} {R243 : Int32 → Int32 → Int32 → Int32 → Int32 → ms → Prop} {K : ms → Prop} (h : b_become_243 x1 x2 x3 x4 x5 S R102 R114 R243 K) {Q : Prop} (k_R102 : ∀ (a0 : Int32) (a1 : ms), R102 a0 a1 → (∀ (R102' : Int32 → ms → Prop) (R114' : Int32 → Int32 → ms → Prop) (R243' : Int32 → Int32 → Int32 → Int32 → Int32 → ms → Prop) (K' : ms → Prop), b_become_243 x1 x2 x3 x4 x5 S R102' R114' R243' K' ↔ R102' a0 a1) → Q) (k_R114 : ∀ (a0 : Int32) (a1 : Int32) (a2 : ms), R114 a0 a1 a2 → (∀ (R102' : Int32 → ms → Prop) (R114' : Int32 → Int32 → ms → Prop) (R243' : Int32 → Int32 → Int32 → Int32 → Int32 → ms → Prop) (K' : ms → Prop), b_become_243 x1 x2 x3 x4 x5 S R102' R114' R243' K' ↔ R114' a0 a1 a2) → Q) (k_R243 : ∀ (a0 : Int32) (a1 : Int32) (a2 : Int32) (a3 : Int32) (a4 : Int32) (a5 : ms), R243 a0 a1 a2 a3 a4 a5 → (∀ (R102' : Int32 → ms → Prop) (R114' : Int32 → Int32 → ms → Prop) (R243' : Int32 → Int32 → Int32 → Int32 → Int32 → ms → Prop) (K' : ms → Prop), b_become_243 x1 x2 x3 x4 x5 S R102' R114' R243' K' ↔ R243' a0 a1 a2 a3 a4 a5) → Q) (k_K : ∀ (a0 : ms), K a0 → (∀ (R102' : Int32 → ms → Prop) (R114' : Int32 → Int32 → ms → Prop) (R243' : Int32 → Int32 → Int32 → Int32 → Int32 → ms → Prop) (K' : ms → Prop), b_become_243 x1 x2 x3 x4 x5 S R102' R114' R243' K' ↔ K' a0) → Q) : Q := by
  unfold b_become_243 at h
  refine dt_p h (fun c_1 h_2 => ?_) (fun c_1 h_2 => ?_)
  ·
    exact k_R114 _ _ _ h_2 (fun _ _ _ _ => dt_1 c_1 (fun n => n c_1))
  ·
    exact k_R243 _ _ _ _ _ _ (And.right (And.right h_2)) (fun _ _ _ _ => Iff.trans (dt_2 c_1 c_1) (Iff.trans (dt_a (And.left h_2)) (dt_a (And.left (And.right h_2)))))
