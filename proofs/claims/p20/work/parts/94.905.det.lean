set_option maxHeartbeats 1000000 in
theorem d_b_Ar_fillI_5 {U : ut} {x0 : Nat} {x1 : Int32} {x2 : Int32} {x3 : Int32} {S : cs} {R5 : Nat → Int32 → Int32 → Int32 → cs → Prop} {K : cs → Prop} (h : b_Ar_fillI_5 U x0 x1 x2 x3 S R5 K) {Q : Prop} (k_R5 : ∀ (a0 : Nat) (a1 : Int32) (a2 : Int32) (a3 : Int32) (a4 : cs), R5 a0 a1 a2 a3 a4 → (∀ (R5' : Nat → Int32 → Int32 → Int32 → cs → Prop) (K' : cs → Prop), b_Ar_fillI_5 U x0 x1 x2 x3 S R5' K' ↔ R5' a0 a1 a2 a3 a4) → Q) (k_K : ∀ (a0 : cs), K a0 → (∀ (R5' : Nat → Int32 → Int32 → Int32 → cs → Prop) (K' : cs → Prop), b_Ar_fillI_5 U x0 x1 x2 x3 S R5' K' ↔ K' a0) → Q) : Q := by
  unfold b_Ar_fillI_5 at h
  refine dt_p h (fun c_1 h_2 => ?_) (fun c_1 h_2 => ?_)
  ·
    exact k_K _ h_2 (fun _ _ => dt_1 c_1 (fun n => n c_1))
  ·
    exact k_R5 _ _ _ _ _ (And.right (And.right h_2)) (fun _ _ => Iff.trans (dt_2 c_1 c_1) (Iff.trans (dt_a (And.left h_2)) (dt_a (And.left (And.right h_2)))))
theorem l_e_Ar_fillI_5 {U : ut} {x0 : Nat} {x1 : Int32} {x2 : Int32} {x3 : Int32} {S : cs} {K : cs → Prop} : e_Ar_fillI_5 U x0 x1 x2 x3 S K ↔ lpE (C := (cs → Prop)) (fun (y : (Nat) × (Int32) × (Int32) × (Int32) × (cs)) (R : ((Nat) × (Int32) × (Int32) × (Int32) × (cs)) → Prop) (c : (cs → Prop)) => b_Ar_fillI_5 U y.1 y.2.1 y.2.2.1 y.2.2.2.1 y.2.2.2.2 (fun z0 z1 z2 z3 z4 => R (z0, z1, z2, z3, z4)) c) (x0, x1, x2, x3, S) K :=
  ⟨fun ⟨I, μ, h0, hs⟩ => ⟨fun t => I t.1 t.2.1 t.2.2.1 t.2.2.2.1 t.2.2.2.2, fun t => μ t.1 t.2.1 t.2.2.1 t.2.2.2.1 t.2.2.2.2, h0, fun t ht => hs _ _ _ _ _ ht⟩, fun ⟨I, μ, h0, hs⟩ => ⟨fun y0 y1 y2 y3 y4 => I (y0, y1, y2, y3, y4), fun y0 y1 y2 y3 y4 => μ (y0, y1, y2, y3, y4), h0, fun y0 y1 y2 y3 y4 hy => hs (y0, y1, y2, y3, y4) hy⟩⟩
set_option maxHeartbeats 1000000 in
theorem d_e_Ar_fillI_5 {U : ut} {x0 : Nat} {x1 : Int32} {x2 : Int32} {x3 : Int32} {S : cs} {K : cs → Prop} (h : e_Ar_fillI_5 U x0 x1 x2 x3 S K) {Q : Prop} (k_K : ∀ (a0 : cs), K a0 → (∀ (K' : cs → Prop), e_Ar_fillI_5 U x0 x1 x2 x3 S K' ↔ K' a0) → Q) : Q := by
  obtain ⟨o, ho, hoc, hi⟩ := lp_det (C := (cs → Prop)) (b := (fun (y : (Nat) × (Int32) × (Int32) × (Int32) × (cs)) (R : ((Nat) × (Int32) × (Int32) × (Int32) × (cs)) → Prop) (c : (cs → Prop)) => b_Ar_fillI_5 U y.1 y.2.1 y.2.2.1 y.2.2.2.1 y.2.2.2.2 (fun z0 z1 z2 z3 z4 => R (z0, z1, z2, z3, z4)) c)) (O := (fun (o : ((cs → Prop)) → Prop) => (∃ (a0 : cs), o = fun c => c a0))) (fun y R c hy => d_b_Ar_fillI_5 hy (fun a0 a1 a2 a3 a4 ha ia => Or.inl ⟨(a0, a1, a2, a3, a4), ha, fun R' c' => ia (fun z0 z1 z2 z3 z4 => R' (z0, z1, z2, z3, z4)) c'⟩) (fun a0 ha ia => Or.inr ⟨(fun c => c a0), ⟨a0, rfl⟩, ha, fun R' c' => ia (fun z0 z1 z2 z3 z4 => R' (z0, z1, z2, z3, z4)) c'⟩)) (l_e_Ar_fillI_5.mp h)
  rcases ho with ⟨a0, rfl⟩
  · exact k_K _ hoc (fun K' => Iff.trans l_e_Ar_fillI_5 (hi K'))
theorem v_e_Ar_fillI_5 {U : ut} {x0 : Nat} {x1 : Int32} {x2 : Int32} {x3 : Int32} {S : cs} {K : cs → Prop} (h : e_Ar_fillI_5 U x0 x1 x2 x3 S K) {G : Prop} (Inv : Int32 → cs → Prop) (h0 : Inv x2 S) (hs : ∀ (yx2 : Int32) (yS : cs) (R : Nat → Int32 → Int32 → Int32 → cs → Prop), Inv yx2 yS → b_Ar_fillI_5 U x0 x1 yx2 x3 yS R K → (∃ (zx2 : Int32) (zS : cs), R x0 x1 zx2 x3 zS ∧ Inv zx2 zS) ∨ G) : G := by
  obtain ⟨I, μ, i0, is⟩ := h
  have go : ∀ (n : Nat) (yx2 : Int32) (yS : cs), μ x0 x1 yx2 x3 yS < n → I x0 x1 yx2 x3 yS → Inv yx2 yS → G := by
    intro n
    induction n with
    | zero => intro yx2 yS hy; exact absurd hy (Nat.not_lt_zero _)
    | succ n ih =>
      intro yx2 yS hy hI hV
      rcases hs yx2 yS _ hV (is x0 x1 yx2 x3 yS hI) with ⟨zx2, zS, ⟨hz, hm⟩, hv⟩ | g
      · exact ih zx2 zS (Nat.lt_of_lt_of_le hm (Nat.le_of_lt_succ hy)) hz hv
      · exact g
  exact go _ x2 S (Nat.lt_succ_self _) i0 h0
theorem r_e_Ar_fillI_5 {U : ut} {x0 : Nat} {x1 : Int32} {x2 : Int32} {x3 : Int32} {S : cs} {K : cs → Prop} (h : e_Ar_fillI_5 U x0 x1 x2 x3 S K) : b_Ar_fillI_5 U x0 x1 x2 x3 S (fun zx0 zx1 zx2 zx3 zS => e_Ar_fillI_5 U zx0 zx1 zx2 zx3 zS K) K := by
  obtain ⟨I, μ, i0, is⟩ := h
  exact d_b_Ar_fillI_5 (is x0 x1 x2 x3 S i0) (fun a0 a1 a2 a3 a4 ha ia => (ia _ _).mpr ⟨I, μ, ha.1, is⟩) (fun a0 ha ia => (ia _ _).mpr ha)
set_option maxHeartbeats 1000000 in
theorem d_p_Ar_fillI {U : ut} {x0 : Nat} {x1 : Int32} {S : cs} {K : cs → Prop} (h : p_Ar_fillI U x0 x1 S K) {Q : Prop} (k_K : ∀ (a0 : cs), K a0 → (∀ (K' : cs → Prop), p_Ar_fillI U x0 x1 S K' ↔ K' a0) → Q) : Q := by
  unfold p_Ar_fillI at h
  exact d_e_Ar_fillI_5 (And.right h) (fun a0 h_2 i_1 => k_K a0 h_2 (fun _ => Iff.trans (dt_a (And.left h)) (i_1 _)))
set_option maxHeartbeats 1000000 in
theorem d_b_B_isWithin_15 {s0 : Int32} {K : Int32 → Prop} (h : b_B_isWithin_15 s0 K) {Q : Prop} (k_K : ∀ (a0 : Int32), K a0 → (∀ (K' : Int32 → Prop), b_B_isWithin_15 s0 K' ↔ K' a0) → Q) : Q := by
  unfold b_B_isWithin_15 at h
  exact k_K _ (And.right h) (fun _ => dt_a (And.left h))
set_option maxHeartbeats 1000000 in
theorem d_b_B_isWithin_14  {K : Int32 → Prop} (h : b_B_isWithin_14 K) {Q : Prop} (k_K : ∀ (a0 : Int32), K a0 → (∀ (K' : Int32 → Prop), b_B_isWithin_14 K' ↔ K' a0) → Q) : Q := by
  unfold b_B_isWithin_14 at h
  exact d_b_B_isWithin_15 h (fun a0 h_2 i_1 => k_K a0 h_2 (fun _ => i_1 _))
set_option maxHeartbeats 1000000 in
theorem d_p_B_isWithin {x0 : Int32} {x1 : Int32} {x2 : Int32} {K : Int32 → Prop} (h : p_B_isWithin x0 x1 x2 K) {Q : Prop} (k_K : ∀ (a0 : Int32), K a0 → (∀ (K' : Int32 → Prop), p_B_isWithin x0 x1 x2 K' ↔ K' a0) → Q) : Q := by
  unfold p_B_isWithin at h
  refine dt_p h (fun c_1 h_2 => ?_) (fun c_1 h_2 => ?_)
  ·
    exact d_b_B_isWithin_14 h_2 (fun a0 h_4 i_3 => k_K a0 h_4 (fun _ => Iff.trans (dt_1 c_1 (fun n => n c_1)) (i_3 _)))
  ·
    refine dt_p h_2 (fun c_5 h_6 => ?_) (fun c_5 h_6 => ?_)
    ·
      exact d_b_B_isWithin_14 h_6 (fun a0 h_8 i_7 => k_K a0 h_8 (fun _ => Iff.trans (dt_2 c_1 c_1) (Iff.trans (dt_1 c_5 (fun n => n c_5)) (i_7 _))))
    ·
      exact d_b_B_isWithin_15 h_6 (fun a0 h_10 i_9 => k_K a0 h_10 (fun _ => Iff.trans (dt_2 c_1 c_1) (Iff.trans (dt_2 c_5 c_5) (i_9 _))))
set_option maxHeartbeats 1000000 in
theorem d_p_Ca_begin {U : ut} {u : Nat} {x1 : Int32} {x2 : Int32} {x3 : Int32} {S : cs} {K : cs → Prop} (h : p_Ca_begin U u x1 x2 x3 S K) {Q : Prop} (k_K : ∀ (a0 : cs), K a0 → (∀ (K' : cs → Prop), p_Ca_begin U u x1 x2 x3 S K' ↔ K' a0) → Q) : Q := by
  unfold p_Ca_begin at h
  refine d_p_Ar_fillI (And.right h) (fun S20 h_2 i_1 => ?_)
  exact k_K _ h_2 (fun _ => Iff.trans (dt_a (And.left h)) (i_1 _))
set_option maxHeartbeats 1000000 in
theorem d_b_B_canvas_40 {U : ut} {u : Nat} {x1 : Int32} {x2 : Int32} {x3 : Int32} {S : cs} {K : cs → Prop} {T : Nat → cs → Prop} (h : b_B_canvas_40 U u x1 x2 x3 S K T) {Q : Prop} (k_K : ∀ (a0 : cs), K a0 → (∀ (K' : cs → Prop) (T' : Nat → cs → Prop), b_B_canvas_40 U u x1 x2 x3 S K' T' ↔ K' a0) → Q) (k_T : ∀ (a0 : Nat) (a1 : cs), T a0 a1 → (∀ (K' : cs → Prop) (T' : Nat → cs → Prop), b_B_canvas_40 U u x1 x2 x3 S K' T' ↔ T' a0 a1) → Q) : Q := by
  unfold b_B_canvas_40 at h
  refine d_p_Ca_begin (And.right (And.right h)) (fun S47 h_2 i_1 => ?_)
  exact k_K _ h_2 (fun _ _ => Iff.trans (dt_a (And.left h)) (Iff.trans (dt_a (And.left (And.right h))) (i_1 _)))
set_option maxHeartbeats 1000000 in
theorem d_b_B_canvas_30 {U : ut} {u : Nat} {S : cs} {K : cs → Prop} {T : Nat → cs → Prop} (h : b_B_canvas_30 U u S K T) {Q : Prop} (k_K : ∀ (a0 : cs), K a0 → (∀ (K' : cs → Prop) (T' : Nat → cs → Prop), b_B_canvas_30 U u S K' T' ↔ K' a0) → Q) (k_T : ∀ (a0 : Nat) (a1 : cs), T a0 a1 → (∀ (K' : cs → Prop) (T' : Nat → cs → Prop), b_B_canvas_30 U u S K' T' ↔ T' a0 a1) → Q) : Q := by
  unfold b_B_canvas_30 at h
  exact k_T _ _ h (fun _ _ => Iff.rfl)
set_option maxHeartbeats 1000000 in
theorem d_p_B_canvas {U : ut} {u : Nat} {x1 : Int32} {x2 : Int32} {x3 : Int32} {S : cs} {K : cs → Prop} {T : Nat → cs → Prop} (h : p_B_canvas U u x1 x2 x3 S K T) {Q : Prop} (k_K : ∀ (a0 : cs), K a0 → (∀ (K' : cs → Prop) (T' : Nat → cs → Prop), p_B_canvas U u x1 x2 x3 S K' T' ↔ K' a0) → Q) (k_T : ∀ (a0 : Nat) (a1 : cs), T a0 a1 → (∀ (K' : cs → Prop) (T' : Nat → cs → Prop), p_B_canvas U u x1 x2 x3 S K' T' ↔ T' a0 a1) → Q) : Q := by
  unfold p_B_canvas at h
  refine d_p_B_isWithin h (fun v4 h_2 i_1 => ?_)
  refine dt_p h_2 (fun c_3 h_4 => ?_) (fun c_3 h_4 => ?_)
  ·
    exact d_b_B_canvas_30 h_4 (fun a0 h_6 i_5 => k_K a0 h_6 (fun _ _ => Iff.trans (i_1 _) (Iff.trans (dt_1 c_3 (fun n => n c_3)) (i_5 _ _)))) (fun a0 a1 h_8 i_7 => k_T a0 a1 h_8 (fun _ _ => Iff.trans (i_1 _) (Iff.trans (dt_1 c_3 (fun n => n c_3)) (i_7 _ _))))
  ·
    refine d_p_B_isWithin h_4 (fun v14 h_10 i_9 => ?_)
    refine dt_p h_10 (fun c_11 h_12 => ?_) (fun c_11 h_12 => ?_)
    ·
      exact d_b_B_canvas_30 h_12 (fun a0 h_14 i_13 => k_K a0 h_14 (fun _ _ => Iff.trans (i_1 _) (Iff.trans (dt_2 c_3 c_3) (Iff.trans (i_9 _) (Iff.trans (dt_1 c_11 (fun n => n c_11)) (i_13 _ _)))))) (fun a0 a1 h_16 i_15 => k_T a0 a1 h_16 (fun _ _ => Iff.trans (i_1 _) (Iff.trans (dt_2 c_3 c_3) (Iff.trans (i_9 _) (Iff.trans (dt_1 c_11 (fun n => n c_11)) (i_15 _ _))))))
    ·
      refine dt_p h_12 (fun c_17 h_18 => ?_) (fun c_17 h_18 => ?_)
      ·
        exact d_b_B_canvas_40 h_18 (fun a0 h_20 i_19 => k_K a0 h_20 (fun _ _ => Iff.trans (i_1 _) (Iff.trans (dt_2 c_3 c_3) (Iff.trans (i_9 _) (Iff.trans (dt_2 c_11 c_11) (Iff.trans (dt_1 c_17 (fun n => n c_17)) (i_19 _ _))))))) (fun a0 a1 h_22 i_21 => k_T a0 a1 h_22 (fun _ _ => Iff.trans (i_1 _) (Iff.trans (dt_2 c_3 c_3) (Iff.trans (i_9 _) (Iff.trans (dt_2 c_11 c_11) (Iff.trans (dt_1 c_17 (fun n => n c_17)) (i_21 _ _)))))))
      ·
        refine dt_p h_18 (fun c_23 h_24 => ?_) (fun c_23 h_24 => ?_)
        ·
          exact d_b_B_canvas_40 h_24 (fun a0 h_26 i_25 => k_K a0 h_26 (fun _ _ => Iff.trans (i_1 _) (Iff.trans (dt_2 c_3 c_3) (Iff.trans (i_9 _) (Iff.trans (dt_2 c_11 c_11) (Iff.trans (dt_2 c_17 c_17) (Iff.trans (dt_1 c_23 (fun n => n c_23)) (i_25 _ _)))))))) (fun a0 a1 h_28 i_27 => k_T a0 a1 h_28 (fun _ _ => Iff.trans (i_1 _) (Iff.trans (dt_2 c_3 c_3) (Iff.trans (i_9 _) (Iff.trans (dt_2 c_11 c_11) (Iff.trans (dt_2 c_17 c_17) (Iff.trans (dt_1 c_23 (fun n => n c_23)) (i_27 _ _))))))))
        ·
          exact d_b_B_canvas_30 h_24 (fun a0 h_30 i_29 => k_K a0 h_30 (fun _ _ => Iff.trans (i_1 _) (Iff.trans (dt_2 c_3 c_3) (Iff.trans (i_9 _) (Iff.trans (dt_2 c_11 c_11) (Iff.trans (dt_2 c_17 c_17) (Iff.trans (dt_2 c_23 c_23) (i_29 _ _)))))))) (fun a0 a1 h_32 i_31 => k_T a0 a1 h_32 (fun _ _ => Iff.trans (i_1 _) (Iff.trans (dt_2 c_3 c_3) (Iff.trans (i_9 _) (Iff.trans (dt_2 c_11 c_11) (Iff.trans (dt_2 c_17 c_17) (Iff.trans (dt_2 c_23 c_23) (i_31 _ _))))))))
set_option maxHeartbeats 1000000 in
theorem d_b_Ca_holds_45 {U : ut} {u : Nat} {s0 : Int32} {S : cs} {K : Int32 → cs → Prop} (h : b_Ca_holds_45 U u s0 S K) {Q : Prop} (k_K : ∀ (a0 : Int32) (a1 : cs), K a0 a1 → (∀ (K' : Int32 → cs → Prop), b_Ca_holds_45 U u s0 S K' ↔ K' a0 a1) → Q) : Q := by
  unfold b_Ca_holds_45 at h
  exact k_K _ _ (And.right h) (fun _ => dt_a (And.left h))
set_option maxHeartbeats 1000000 in
theorem d_b_Ca_holds_44 {U : ut} {u : Nat} {S : cs} {K : Int32 → cs → Prop} (h : b_Ca_holds_44 U u S K) {Q : Prop} (k_K : ∀ (a0 : Int32) (a1 : cs), K a0 a1 → (∀ (K' : Int32 → cs → Prop), b_Ca_holds_44 U u S K' ↔ K' a0 a1) → Q) : Q := by
  unfold b_Ca_holds_44 at h
  exact d_b_Ca_holds_45 h (fun a0 a1 h_2 i_1 => k_K a0 a1 h_2 (fun _ => i_1 _))
set_option maxHeartbeats 1000000 in
theorem d_p_Ca_holds {U : ut} {u : Nat} {x1 : Int32} {x2 : Int32} {x3 : Int32} {x4 : Int32} {S : cs} {K : Int32 → cs → Prop} (h : p_Ca_holds U u x1 x2 x3 x4 S K) {Q : Prop} (k_K : ∀ (a0 : Int32) (a1 : cs), K a0 a1 → (∀ (K' : Int32 → cs → Prop), p_Ca_holds U u x1 x2 x3 x4 S K' ↔ K' a0 a1) → Q) : Q := by
  unfold p_Ca_holds at h
  refine dt_p h (fun c_1 h_2 => ?_) (fun c_1 h_2 => ?_)
  ·
    exact d_b_Ca_holds_44 h_2 (fun a0 a1 h_4 i_3 => k_K a0 a1 h_4 (fun _ => Iff.trans (dt_1 c_1 (fun n => n c_1)) (i_3 _)))
  ·
    refine dt_p h_2 (fun c_5 h_6 => ?_) (fun c_5 h_6 => ?_)
    ·
      exact d_b_Ca_holds_44 h_6 (fun a0 a1 h_8 i_7 => k_K a0 a1 h_8 (fun _ => Iff.trans (dt_2 c_1 c_1) (Iff.trans (dt_1 c_5 (fun n => n c_5)) (i_7 _))))
    ·
      refine dt_p h_6 (fun c_9 h_10 => ?_) (fun c_9 h_10 => ?_)
      ·
        exact d_b_Ca_holds_44 h_10 (fun a0 a1 h_12 i_11 => k_K a0 a1 h_12 (fun _ => Iff.trans (dt_2 c_1 c_1) (Iff.trans (dt_2 c_5 c_5) (Iff.trans (dt_1 c_9 (fun n => n c_9)) (i_11 _)))))
      ·
        refine dt_p h_10 (fun c_13 h_14 => ?_) (fun c_13 h_14 => ?_)
        ·
          exact d_b_Ca_holds_44 h_14 (fun a0 a1 h_16 i_15 => k_K a0 a1 h_16 (fun _ => Iff.trans (dt_2 c_1 c_1) (Iff.trans (dt_2 c_5 c_5) (Iff.trans (dt_2 c_9 c_9) (Iff.trans (dt_1 c_13 (fun n => n c_13)) (i_15 _))))))
        ·
          refine dt_p h_14 (fun c_17 h_18 => ?_) (fun c_17 h_18 => ?_)
          ·
            exact d_b_Ca_holds_44 h_18 (fun a0 a1 h_20 i_19 => k_K a0 a1 h_20 (fun _ => Iff.trans (dt_2 c_1 c_1) (Iff.trans (dt_2 c_5 c_5) (Iff.trans (dt_2 c_9 c_9) (Iff.trans (dt_2 c_13 c_13) (Iff.trans (dt_1 c_17 (fun n => n c_17)) (i_19 _)))))))
          ·
            refine dt_p h_18 (fun c_21 h_22 => ?_) (fun c_21 h_22 => ?_)
            ·
              exact d_b_Ca_holds_44 h_22 (fun a0 a1 h_24 i_23 => k_K a0 a1 h_24 (fun _ => Iff.trans (dt_2 c_1 c_1) (Iff.trans (dt_2 c_5 c_5) (Iff.trans (dt_2 c_9 c_9) (Iff.trans (dt_2 c_13 c_13) (Iff.trans (dt_2 c_17 c_17) (Iff.trans (dt_1 c_21 (fun n => n c_21)) (i_23 _))))))))
            ·
              exact d_b_Ca_holds_45 h_22 (fun a0 a1 h_26 i_25 => k_K a0 a1 h_26 (fun _ => Iff.trans (dt_2 c_1 c_1) (Iff.trans (dt_2 c_5 c_5) (Iff.trans (dt_2 c_9 c_9) (Iff.trans (dt_2 c_13 c_13) (Iff.trans (dt_2 c_17 c_17) (Iff.trans (dt_2 c_21 c_21) (i_25 _))))))))
set_option maxHeartbeats 1000000 in
theorem d_p_B_spot {x0 : Int32} {x1 : Int32} {x2 : Int32} {K : Int32 → Prop} (h : p_B_spot x0 x1 x2 K) {Q : Prop} (k_K : ∀ (a0 : Int32), K a0 → (∀ (K' : Int32 → Prop), p_B_spot x0 x1 x2 K' ↔ K' a0) → Q) : Q := by
  unfold p_B_spot at h
  exact k_K _ h (fun _ => Iff.rfl)
set_option maxHeartbeats 1000000 in
theorem d_b_Ca_paint_81 {U : ut} {u : Nat} {x1 : Int32} {x2 : Int32} {x3 : Int32} {x4 : Int32} {x5 : Int32} {x6 : Int32} {x7 : Int32} {x9 : Int32} {x10 : Int32} {x11 : Int32} {x12 : Int32} {x13 : Int32} {S : cs} {R9 : Int32 → Int32 → Int32 → Int32 → Int32 → Int32 → Int32 → cs → Prop} {R57 : Int32 → Int32 → Int32 → Int32 → Int32 → Int32 → Int32 → Int32 → Int32 → Int32 → cs → Prop} {R81 : Int32 → Int32 → Int32 → Int32 → Int32 → Int32 → Int32 → Int32 → Int32 → Int32 → Int32 → Int32 → cs → Prop} {K : cs → Prop} (h : b_Ca_paint_81 U u x1 x2 x3 x4 x5 x6 x7 x9 x10 x11 x12 x13 S R9 R57 R81 K) {Q : Prop} (k_R9 : ∀ (a0 : Int32) (a1 : Int32) (a2 : Int32) (a3 : Int32) (a4 : Int32) (a5 : Int32) (a6 : Int32) (a7 : cs), R9 a0 a1 a2 a3 a4 a5 a6 a7 → (∀ (R9' : Int32 → Int32 → Int32 → Int32 → Int32 → Int32 → Int32 → cs → Prop) (R57' : Int32 → Int32 → Int32 → Int32 → Int32 → Int32 → Int32 → Int32 → Int32 → Int32 → cs → Prop) (R81' : Int32 → Int32 → Int32 → Int32 → Int32 → Int32 → Int32 → Int32 → Int32 → Int32 → Int32 → Int32 → cs → Prop) (K' : cs → Prop), b_Ca_paint_81 U u x1 x2 x3 x4 x5 x6 x7 x9 x10 x11 x12 x13 S R9' R57' R81' K' ↔ R9' a0 a1 a2 a3 a4 a5 a6 a7) → Q) (k_R57 : ∀ (a0 : Int32) (a1 : Int32) (a2 : Int32) (a3 : Int32) (a4 : Int32) (a5 : Int32) (a6 : Int32) (a7 : Int32) (a8 : Int32) (a9 : Int32) (a10 : cs), R57 a0 a1 a2 a3 a4 a5 a6 a7 a8 a9 a10 → (∀ (R9' : Int32 → Int32 → Int32 → Int32 → Int32 → Int32 → Int32 → cs → Prop) (R57' : Int32 → Int32 → Int32 → Int32 → Int32 → Int32 → Int32 → Int32 → Int32 → Int32 → cs → Prop) (R81' : Int32 → Int32 → Int32 → Int32 → Int32 → Int32 → Int32 → Int32 → Int32 → Int32 → Int32 → Int32 → cs → Prop) (K' : cs → Prop), b_Ca_paint_81 U u x1 x2 x3 x4 x5 x6 x7 x9 x10 x11 x12 x13 S R9' R57' R81' K' ↔ R57' a0 a1 a2 a3 a4 a5 a6 a7 a8 a9 a10) → Q) (k_R81 : ∀ (a0 : Int32) (a1 : Int32) (a2 : Int32) (a3 : Int32) (a4 : Int32) (a5 : Int32) (a6 : Int32) (a7 : Int32) (a8 : Int32) (a9 : Int32) (a10 : Int32) (a11 : Int32) (a12 : cs), R81 a0 a1 a2 a3 a4 a5 a6 a7 a8 a9 a10 a11 a12 → (∀ (R9' : Int32 → Int32 → Int32 → Int32 → Int32 → Int32 → Int32 → cs → Prop) (R57' : Int32 → Int32 → Int32 → Int32 → Int32 → Int32 → Int32 → Int32 → Int32 → Int32 → cs → Prop) (R81' : Int32 → Int32 → Int32 → Int32 → Int32 → Int32 → Int32 → Int32 → Int32 → Int32 → Int32 → Int32 → cs → Prop) (K' : cs → Prop), b_Ca_paint_81 U u x1 x2 x3 x4 x5 x6 x7 x9 x10 x11 x12 x13 S R9' R57' R81' K' ↔ R81' a0 a1 a2 a3 a4 a5 a6 a7 a8 a9 a10 a11 a12) → Q) (k_K : ∀ (a0 : cs), K a0 → (∀ (R9' : Int32 → Int32 → Int32 → Int32 → Int32 → Int32 → Int32 → cs → Prop) (R57' : Int32 → Int32 → Int32 → Int32 → Int32 → Int32 → Int32 → Int32 → Int32 → Int32 → cs → Prop) (R81' : Int32 → Int32 → Int32 → Int32 → Int32 → Int32 → Int32 → Int32 → Int32 → Int32 → Int32 → Int32 → cs → Prop) (K' : cs → Prop), b_Ca_paint_81 U u x1 x2 x3 x4 x5 x6 x7 x9 x10 x11 x12 x13 S R9' R57' R81' K' ↔ K' a0) → Q) : Q := by
  unfold b_Ca_paint_81 at h
  refine dt_p h (fun c_1 h_2 => ?_) (fun c_1 h_2 => ?_)
  ·
    exact k_R57 _ _ _ _ _ _ _ _ _ _ _ h_2 (fun _ _ _ _ => dt_1 c_1 (fun n => n c_1))
  ·
    refine d_p_B_spot (And.right h_2) (fun v102 h_4 i_3 => ?_)
    exact k_R81 _ _ _ _ _ _ _ _ _ _ _ _ _ (And.right (And.right h_4)) (fun _ _ _ _ => Iff.trans (dt_2 c_1 c_1) (Iff.trans (dt_a (And.left h_2)) (Iff.trans (i_3 _) (Iff.trans (dt_a (And.left h_4)) (dt_a (And.left (And.right h_4)))))))
theorem l_e_Ca_paint_81 {U : ut} {u : Nat} {x1 : Int32} {x2 : Int32} {x3 : Int32} {x4 : Int32} {x5 : Int32} {x6 : Int32} {x7 : Int32} {x9 : Int32} {x10 : Int32} {x11 : Int32} {x12 : Int32} {x13 : Int32} {S : cs} {R9 : Int32 → Int32 → Int32 → Int32 → Int32 → Int32 → Int32 → cs → Prop} {R57 : Int32 → Int32 → Int32 → Int32 → Int32 → Int32 → Int32 → Int32 → Int32 → Int32 → cs → Prop} {K : cs → Prop} : e_Ca_paint_81 U u x1 x2 x3 x4 x5 x6 x7 x9 x10 x11 x12 x13 S R9 R57 K ↔ lpE (C := (Int32 → Int32 → Int32 → Int32 → Int32 → Int32 → Int32 → cs → Prop) × (Int32 → Int32 → Int32 → Int32 → Int32 → Int32 → Int32 → Int32 → Int32 → Int32 → cs → Prop) × (cs → Prop)) (fun (y : (Int32) × (Int32) × (Int32) × (Int32) × (Int32) × (Int32) × (Int32) × (Int32) × (Int32) × (Int32) × (Int32) × (Int32) × (cs)) (R : ((Int32) × (Int32) × (Int32) × (Int32) × (Int32) × (Int32) × (Int32) × (Int32) × (Int32) × (Int32) × (Int32) × (Int32) × (cs)) → Prop) (c : (Int32 → Int32 → Int32 → Int32 → Int32 → Int32 → Int32 → cs → Prop) × (Int32 → Int32 → Int32 → Int32 → Int32 → Int32 → Int32 → Int32 → Int32 → Int32 → cs → Prop) × (cs → Prop)) => b_Ca_paint_81 U u y.1 y.2.1 y.2.2.1 y.2.2.2.1 y.2.2.2.2.1 y.2.2.2.2.2.1 y.2.2.2.2.2.2.1 y.2.2.2.2.2.2.2.1 y.2.2.2.2.2.2.2.2.1 y.2.2.2.2.2.2.2.2.2.1 y.2.2.2.2.2.2.2.2.2.2.1 y.2.2.2.2.2.2.2.2.2.2.2.1 y.2.2.2.2.2.2.2.2.2.2.2.2 c.1 c.2.1 (fun z0 z1 z2 z3 z4 z5 z6 z7 z8 z9 z10 z11 z12 => R (z0, z1, z2, z3, z4, z5, z6, z7, z8, z9, z10, z11, z12)) c.2.2) (x1, x2, x3, x4, x5, x6, x7, x9, x10, x11, x12, x13, S) (R9, R57, K) :=
  ⟨fun ⟨I, μ, h0, hs⟩ => ⟨fun t => I t.1 t.2.1 t.2.2.1 t.2.2.2.1 t.2.2.2.2.1 t.2.2.2.2.2.1 t.2.2.2.2.2.2.1 t.2.2.2.2.2.2.2.1 t.2.2.2.2.2.2.2.2.1 t.2.2.2.2.2.2.2.2.2.1 t.2.2.2.2.2.2.2.2.2.2.1 t.2.2.2.2.2.2.2.2.2.2.2.1 t.2.2.2.2.2.2.2.2.2.2.2.2, fun t => μ t.1 t.2.1 t.2.2.1 t.2.2.2.1 t.2.2.2.2.1 t.2.2.2.2.2.1 t.2.2.2.2.2.2.1 t.2.2.2.2.2.2.2.1 t.2.2.2.2.2.2.2.2.1 t.2.2.2.2.2.2.2.2.2.1 t.2.2.2.2.2.2.2.2.2.2.1 t.2.2.2.2.2.2.2.2.2.2.2.1 t.2.2.2.2.2.2.2.2.2.2.2.2, h0, fun t ht => hs _ _ _ _ _ _ _ _ _ _ _ _ _ ht⟩, fun ⟨I, μ, h0, hs⟩ => ⟨fun y0 y1 y2 y3 y4 y5 y6 y7 y8 y9 y10 y11 y12 => I (y0, y1, y2, y3, y4, y5, y6, y7, y8, y9, y10, y11, y12), fun y0 y1 y2 y3 y4 y5 y6 y7 y8 y9 y10 y11 y12 => μ (y0, y1, y2, y3, y4, y5, y6, y7, y8, y9, y10, y11, y12), h0, fun y0 y1 y2 y3 y4 y5 y6 y7 y8 y9 y10 y11 y12 hy => hs (y0, y1, y2, y3, y4, y5, y6, y7, y8, y9, y10, y11, y12) hy⟩⟩
set_option maxHeartbeats 1000000 in
theorem d_e_Ca_paint_81 {U : ut} {u : Nat} {x1 : Int32} {x2 : Int32} {x3 : Int32} {x4 : Int32} {x5 : Int32} {x6 : Int32} {x7 : Int32} {x9 : Int32} {x10 : Int32} {x11 : Int32} {x12 : Int32} {x13 : Int32} {S : cs} {R9 : Int32 → Int32 → Int32 → Int32 → Int32 → Int32 → Int32 → cs → Prop} {R57 : Int32 → Int32 → Int32 → Int32 → Int32 → Int32 → Int32 → Int32 → Int32 → Int32 → cs → Prop} {K : cs → Prop} (h : e_Ca_paint_81 U u x1 x2 x3 x4 x5 x6 x7 x9 x10 x11 x12 x13 S R9 R57 K) {Q : Prop} (k_R9 : ∀ (a0 : Int32) (a1 : Int32) (a2 : Int32) (a3 : Int32) (a4 : Int32) (a5 : Int32) (a6 : Int32) (a7 : cs), R9 a0 a1 a2 a3 a4 a5 a6 a7 → (∀ (R9' : Int32 → Int32 → Int32 → Int32 → Int32 → Int32 → Int32 → cs → Prop) (R57' : Int32 → Int32 → Int32 → Int32 → Int32 → Int32 → Int32 → Int32 → Int32 → Int32 → cs → Prop) (K' : cs → Prop), e_Ca_paint_81 U u x1 x2 x3 x4 x5 x6 x7 x9 x10 x11 x12 x13 S R9' R57' K' ↔ R9' a0 a1 a2 a3 a4 a5 a6 a7) → Q) (k_R57 : ∀ (a0 : Int32) (a1 : Int32) (a2 : Int32) (a3 : Int32) (a4 : Int32) (a5 : Int32) (a6 : Int32) (a7 : Int32) (a8 : Int32) (a9 : Int32) (a10 : cs), R57 a0 a1 a2 a3 a4 a5 a6 a7 a8 a9 a10 → (∀ (R9' : Int32 → Int32 → Int32 → Int32 → Int32 → Int32 → Int32 → cs → Prop) (R57' : Int32 → Int32 → Int32 → Int32 → Int32 → Int32 → Int32 → Int32 → Int32 → Int32 → cs → Prop) (K' : cs → Prop), e_Ca_paint_81 U u x1 x2 x3 x4 x5 x6 x7 x9 x10 x11 x12 x13 S R9' R57' K' ↔ R57' a0 a1 a2 a3 a4 a5 a6 a7 a8 a9 a10) → Q) (k_K : ∀ (a0 : cs), K a0 → (∀ (R9' : Int32 → Int32 → Int32 → Int32 → Int32 → Int32 → Int32 → cs → Prop) (R57' : Int32 → Int32 → Int32 → Int32 → Int32 → Int32 → Int32 → Int32 → Int32 → Int32 → cs → Prop) (K' : cs → Prop), e_Ca_paint_81 U u x1 x2 x3 x4 x5 x6 x7 x9 x10 x11 x12 x13 S R9' R57' K' ↔ K' a0) → Q) : Q := by
  obtain ⟨o, ho, hoc, hi⟩ := lp_det (C := (Int32 → Int32 → Int32 → Int32 → Int32 → Int32 → Int32 → cs → Prop) × (Int32 → Int32 → Int32 → Int32 → Int32 → Int32 → Int32 → Int32 → Int32 → Int32 → cs → Prop) × (cs → Prop)) (b := (fun (y : (Int32) × (Int32) × (Int32) × (Int32) × (Int32) × (Int32) × (Int32) × (Int32) × (Int32) × (Int32) × (Int32) × (Int32) × (cs)) (R : ((Int32) × (Int32) × (Int32) × (Int32) × (Int32) × (Int32) × (Int32) × (Int32) × (Int32) × (Int32) × (Int32) × (Int32) × (cs)) → Prop) (c : (Int32 → Int32 → Int32 → Int32 → Int32 → Int32 → Int32 → cs → Prop) × (Int32 → Int32 → Int32 → Int32 → Int32 → Int32 → Int32 → Int32 → Int32 → Int32 → cs → Prop) × (cs → Prop)) => b_Ca_paint_81 U u y.1 y.2.1 y.2.2.1 y.2.2.2.1 y.2.2.2.2.1 y.2.2.2.2.2.1 y.2.2.2.2.2.2.1 y.2.2.2.2.2.2.2.1 y.2.2.2.2.2.2.2.2.1 y.2.2.2.2.2.2.2.2.2.1 y.2.2.2.2.2.2.2.2.2.2.1 y.2.2.2.2.2.2.2.2.2.2.2.1 y.2.2.2.2.2.2.2.2.2.2.2.2 c.1 c.2.1 (fun z0 z1 z2 z3 z4 z5 z6 z7 z8 z9 z10 z11 z12 => R (z0, z1, z2, z3, z4, z5, z6, z7, z8, z9, z10, z11, z12)) c.2.2)) (O := (fun (o : ((Int32 → Int32 → Int32 → Int32 → Int32 → Int32 → Int32 → cs → Prop) × (Int32 → Int32 → Int32 → Int32 → Int32 → Int32 → Int32 → Int32 → Int32 → Int32 → cs → Prop) × (cs → Prop)) → Prop) => (∃ (a0 : Int32) (a1 : Int32) (a2 : Int32) (a3 : Int32) (a4 : Int32) (a5 : Int32) (a6 : Int32) (a7 : cs), o = fun c => c.1 a0 a1 a2 a3 a4 a5 a6 a7) ∨ (∃ (a0 : Int32) (a1 : Int32) (a2 : Int32) (a3 : Int32) (a4 : Int32) (a5 : Int32) (a6 : Int32) (a7 : Int32) (a8 : Int32) (a9 : Int32) (a10 : cs), o = fun c => c.2.1 a0 a1 a2 a3 a4 a5 a6 a7 a8 a9 a10) ∨ (∃ (a0 : cs), o = fun c => c.2.2 a0))) (fun y R c hy => d_b_Ca_paint_81 hy (fun a0 a1 a2 a3 a4 a5 a6 a7 ha ia => Or.inr ⟨(fun c => c.1 a0 a1 a2 a3 a4 a5 a6 a7), Or.inl ⟨a0, a1, a2, a3, a4, a5, a6, a7, rfl⟩, ha, fun R' c' => ia c'.1 c'.2.1 (fun z0 z1 z2 z3 z4 z5 z6 z7 z8 z9 z10 z11 z12 => R' (z0, z1, z2, z3, z4, z5, z6, z7, z8, z9, z10, z11, z12)) c'.2.2⟩) (fun a0 a1 a2 a3 a4 a5 a6 a7 a8 a9 a10 ha ia => Or.inr ⟨(fun c => c.2.1 a0 a1 a2 a3 a4 a5 a6 a7 a8 a9 a10), Or.inr (Or.inl ⟨a0, a1, a2, a3, a4, a5, a6, a7, a8, a9, a10, rfl⟩), ha, fun R' c' => ia c'.1 c'.2.1 (fun z0 z1 z2 z3 z4 z5 z6 z7 z8 z9 z10 z11 z12 => R' (z0, z1, z2, z3, z4, z5, z6, z7, z8, z9, z10, z11, z12)) c'.2.2⟩) (fun a0 a1 a2 a3 a4 a5 a6 a7 a8 a9 a10 a11 a12 ha ia => Or.inl ⟨(a0, a1, a2, a3, a4, a5, a6, a7, a8, a9, a10, a11, a12), ha, fun R' c' => ia c'.1 c'.2.1 (fun z0 z1 z2 z3 z4 z5 z6 z7 z8 z9 z10 z11 z12 => R' (z0, z1, z2, z3, z4, z5, z6, z7, z8, z9, z10, z11, z12)) c'.2.2⟩) (fun a0 ha ia => Or.inr ⟨(fun c => c.2.2 a0), Or.inr (Or.inr (⟨a0, rfl⟩)), ha, fun R' c' => ia c'.1 c'.2.1 (fun z0 z1 z2 z3 z4 z5 z6 z7 z8 z9 z10 z11 z12 => R' (z0, z1, z2, z3, z4, z5, z6, z7, z8, z9, z10, z11, z12)) c'.2.2⟩)) (l_e_Ca_paint_81.mp h)
  rcases ho with ⟨a0, a1, a2, a3, a4, a5, a6, a7, rfl⟩ | ⟨a0, a1, a2, a3, a4, a5, a6, a7, a8, a9, a10, rfl⟩ | ⟨a0, rfl⟩
  · exact k_R9 _ _ _ _ _ _ _ _ hoc (fun R9' R57' K' => Iff.trans l_e_Ca_paint_81 (hi (R9', R57', K')))
  · exact k_R57 _ _ _ _ _ _ _ _ _ _ _ hoc (fun R9' R57' K' => Iff.trans l_e_Ca_paint_81 (hi (R9', R57', K')))
  · exact k_K _ hoc (fun R9' R57' K' => Iff.trans l_e_Ca_paint_81 (hi (R9', R57', K')))
theorem v_e_Ca_paint_81 {U : ut} {u : Nat} {x1 : Int32} {x2 : Int32} {x3 : Int32} {x4 : Int32} {x5 : Int32} {x6 : Int32} {x7 : Int32} {x9 : Int32} {x10 : Int32} {x11 : Int32} {x12 : Int32} {x13 : Int32} {S : cs} {R9 : Int32 → Int32 → Int32 → Int32 → Int32 → Int32 → Int32 → cs → Prop} {R57 : Int32 → Int32 → Int32 → Int32 → Int32 → Int32 → Int32 → Int32 → Int32 → Int32 → cs → Prop} {K : cs → Prop} (h : e_Ca_paint_81 U u x1 x2 x3 x4 x5 x6 x7 x9 x10 x11 x12 x13 S R9 R57 K) {G : Prop} (Inv : Int32 → cs → Prop) (h0 : Inv x13 S) (hs : ∀ (yx13 : Int32) (yS : cs) (R : Int32 → Int32 → Int32 → Int32 → Int32 → Int32 → Int32 → Int32 → Int32 → Int32 → Int32 → Int32 → cs → Prop), Inv yx13 yS → b_Ca_paint_81 U u x1 x2 x3 x4 x5 x6 x7 x9 x10 x11 x12 yx13 yS R9 R57 R K → (∃ (zx13 : Int32) (zS : cs), R x1 x2 x3 x4 x5 x6 x7 x9 x10 x11 x12 zx13 zS ∧ Inv zx13 zS) ∨ G) : G := by
  obtain ⟨I, μ, i0, is⟩ := h
  have go : ∀ (n : Nat) (yx13 : Int32) (yS : cs), μ x1 x2 x3 x4 x5 x6 x7 x9 x10 x11 x12 yx13 yS < n → I x1 x2 x3 x4 x5 x6 x7 x9 x10 x11 x12 yx13 yS → Inv yx13 yS → G := by
    intro n
    induction n with
    | zero => intro yx13 yS hy; exact absurd hy (Nat.not_lt_zero _)
    | succ n ih =>
      intro yx13 yS hy hI hV
      rcases hs yx13 yS _ hV (is x1 x2 x3 x4 x5 x6 x7 x9 x10 x11 x12 yx13 yS hI) with ⟨zx13, zS, ⟨hz, hm⟩, hv⟩ | g
      · exact ih zx13 zS (Nat.lt_of_lt_of_le hm (Nat.le_of_lt_succ hy)) hz hv
      · exact g
  exact go _ x13 S (Nat.lt_succ_self _) i0 h0
theorem r_e_Ca_paint_81 {U : ut} {u : Nat} {x1 : Int32} {x2 : Int32} {x3 : Int32} {x4 : Int32} {x5 : Int32} {x6 : Int32} {x7 : Int32} {x9 : Int32} {x10 : Int32} {x11 : Int32} {x12 : Int32} {x13 : Int32} {S : cs} {R9 : Int32 → Int32 → Int32 → Int32 → Int32 → Int32 → Int32 → cs → Prop} {R57 : Int32 → Int32 → Int32 → Int32 → Int32 → Int32 → Int32 → Int32 → Int32 → Int32 → cs → Prop} {K : cs → Prop} (h : e_Ca_paint_81 U u x1 x2 x3 x4 x5 x6 x7 x9 x10 x11 x12 x13 S R9 R57 K) : b_Ca_paint_81 U u x1 x2 x3 x4 x5 x6 x7 x9 x10 x11 x12 x13 S R9 R57 (fun zx1 zx2 zx3 zx4 zx5 zx6 zx7 zx9 zx10 zx11 zx12 zx13 zS => e_Ca_paint_81 U u zx1 zx2 zx3 zx4 zx5 zx6 zx7 zx9 zx10 zx11 zx12 zx13 zS R9 R57 K) K := by
  obtain ⟨I, μ, i0, is⟩ := h
  exact d_b_Ca_paint_81 (is x1 x2 x3 x4 x5 x6 x7 x9 x10 x11 x12 x13 S i0) (fun a0 a1 a2 a3 a4 a5 a6 a7 ha ia => (ia _ _ _ _).mpr ha) (fun a0 a1 a2 a3 a4 a5 a6 a7 a8 a9 a10 ha ia => (ia _ _ _ _).mpr ha) (fun a0 a1 a2 a3 a4 a5 a6 a7 a8 a9 a10 a11 a12 ha ia => (ia _ _ _ _).mpr ⟨I, μ, ha.1, is⟩) (fun a0 ha ia => (ia _ _ _ _).mpr ha)
set_option maxHeartbeats 1000000 in
theorem d_b_Ca_paint_57 {U : ut} {u : Nat} {x1 : Int32} {x2 : Int32} {x3 : Int32} {x4 : Int32} {x5 : Int32} {x6 : Int32} {x7 : Int32} {x9 : Int32} {x10 : Int32} {x11 : Int32} {S : cs} {R9 : Int32 → Int32 → Int32 → Int32 → Int32 → Int32 → Int32 → cs → Prop} {R57 : Int32 → Int32 → Int32 → Int32 → Int32 → Int32 → Int32 → Int32 → Int32 → Int32 → cs → Prop} {K : cs → Prop} (h : b_Ca_paint_57 U u x1 x2 x3 x4 x5 x6 x7 x9 x10 x11 S R9 R57 K) {Q : Prop} (k_R9 : ∀ (a0 : Int32) (a1 : Int32) (a2 : Int32) (a3 : Int32) (a4 : Int32) (a5 : Int32) (a6 : Int32) (a7 : cs), R9 a0 a1 a2 a3 a4 a5 a6 a7 → (∀ (R9' : Int32 → Int32 → Int32 → Int32 → Int32 → Int32 → Int32 → cs → Prop) (R57' : Int32 → Int32 → Int32 → Int32 → Int32 → Int32 → Int32 → Int32 → Int32 → Int32 → cs → Prop) (K' : cs → Prop), b_Ca_paint_57 U u x1 x2 x3 x4 x5 x6 x7 x9 x10 x11 S R9' R57' K' ↔ R9' a0 a1 a2 a3 a4 a5 a6 a7) → Q) (k_R57 : ∀ (a0 : Int32) (a1 : Int32) (a2 : Int32) (a3 : Int32) (a4 : Int32) (a5 : Int32) (a6 : Int32) (a7 : Int32) (a8 : Int32) (a9 : Int32) (a10 : cs), R57 a0 a1 a2 a3 a4 a5 a6 a7 a8 a9 a10 → (∀ (R9' : Int32 → Int32 → Int32 → Int32 → Int32 → Int32 → Int32 → cs → Prop) (R57' : Int32 → Int32 → Int32 → Int32 → Int32 → Int32 → Int32 → Int32 → Int32 → Int32 → cs → Prop) (K' : cs → Prop), b_Ca_paint_57 U u x1 x2 x3 x4 x5 x6 x7 x9 x10 x11 S R9' R57' K' ↔ R57' a0 a1 a2 a3 a4 a5 a6 a7 a8 a9 a10) → Q) (k_K : ∀ (a0 : cs), K a0 → (∀ (R9' : Int32 → Int32 → Int32 → Int32 → Int32 → Int32 → Int32 → cs → Prop) (R57' : Int32 → Int32 → Int32 → Int32 → Int32 → Int32 → Int32 → Int32 → Int32 → Int32 → cs → Prop) (K' : cs → Prop), b_Ca_paint_57 U u x1 x2 x3 x4 x5 x6 x7 x9 x10 x11 S R9' R57' K' ↔ K' a0) → Q) : Q := by
  unfold b_Ca_paint_57 at h
  refine dt_p h (fun c_1 h_2 => ?_) (fun c_1 h_2 => ?_)
  ·
    exact k_R9 _ _ _ _ _ _ _ _ h_2 (fun _ _ _ => dt_1 c_1 (fun n => n c_1))
  ·
    exact d_e_Ca_paint_81 (And.right h_2) (fun a0 a1 a2 a3 a4 a5 a6 a7 h_4 i_3 => k_R9 a0 a1 a2 a3 a4 a5 a6 a7 h_4 (fun _ _ _ => Iff.trans (dt_2 c_1 c_1) (Iff.trans (dt_a (And.left h_2)) (i_3 _ _ _)))) (fun a0 a1 a2 a3 a4 a5 a6 a7 a8 a9 a10 h_6 i_5 => k_R57 a0 a1 a2 a3 a4 a5 a6 a7 a8 a9 a10 h_6 (fun _ _ _ => Iff.trans (dt_2 c_1 c_1) (Iff.trans (dt_a (And.left h_2)) (i_5 _ _ _)))) (fun a0 h_8 i_7 => k_K a0 h_8 (fun _ _ _ => Iff.trans (dt_2 c_1 c_1) (Iff.trans (dt_a (And.left h_2)) (i_7 _ _ _))))
theorem l_e_Ca_paint_57 {U : ut} {u : Nat} {x1 : Int32} {x2 : Int32} {x3 : Int32} {x4 : Int32} {x5 : Int32} {x6 : Int32} {x7 : Int32} {x9 : Int32} {x10 : Int32} {x11 : Int32} {S : cs} {R9 : Int32 → Int32 → Int32 → Int32 → Int32 → Int32 → Int32 → cs → Prop} {K : cs → Prop} : e_Ca_paint_57 U u x1 x2 x3 x4 x5 x6 x7 x9 x10 x11 S R9 K ↔ lpE (C := (Int32 → Int32 → Int32 → Int32 → Int32 → Int32 → Int32 → cs → Prop) × (cs → Prop)) (fun (y : (Int32) × (Int32) × (Int32) × (Int32) × (Int32) × (Int32) × (Int32) × (Int32) × (Int32) × (Int32) × (cs)) (R : ((Int32) × (Int32) × (Int32) × (Int32) × (Int32) × (Int32) × (Int32) × (Int32) × (Int32) × (Int32) × (cs)) → Prop) (c : (Int32 → Int32 → Int32 → Int32 → Int32 → Int32 → Int32 → cs → Prop) × (cs → Prop)) => b_Ca_paint_57 U u y.1 y.2.1 y.2.2.1 y.2.2.2.1 y.2.2.2.2.1 y.2.2.2.2.2.1 y.2.2.2.2.2.2.1 y.2.2.2.2.2.2.2.1 y.2.2.2.2.2.2.2.2.1 y.2.2.2.2.2.2.2.2.2.1 y.2.2.2.2.2.2.2.2.2.2 c.1 (fun z0 z1 z2 z3 z4 z5 z6 z7 z8 z9 z10 => R (z0, z1, z2, z3, z4, z5, z6, z7, z8, z9, z10)) c.2) (x1, x2, x3, x4, x5, x6, x7, x9, x10, x11, S) (R9, K) :=
  ⟨fun ⟨I, μ, h0, hs⟩ => ⟨fun t => I t.1 t.2.1 t.2.2.1 t.2.2.2.1 t.2.2.2.2.1 t.2.2.2.2.2.1 t.2.2.2.2.2.2.1 t.2.2.2.2.2.2.2.1 t.2.2.2.2.2.2.2.2.1 t.2.2.2.2.2.2.2.2.2.1 t.2.2.2.2.2.2.2.2.2.2, fun t => μ t.1 t.2.1 t.2.2.1 t.2.2.2.1 t.2.2.2.2.1 t.2.2.2.2.2.1 t.2.2.2.2.2.2.1 t.2.2.2.2.2.2.2.1 t.2.2.2.2.2.2.2.2.1 t.2.2.2.2.2.2.2.2.2.1 t.2.2.2.2.2.2.2.2.2.2, h0, fun t ht => hs _ _ _ _ _ _ _ _ _ _ _ ht⟩, fun ⟨I, μ, h0, hs⟩ => ⟨fun y0 y1 y2 y3 y4 y5 y6 y7 y8 y9 y10 => I (y0, y1, y2, y3, y4, y5, y6, y7, y8, y9, y10), fun y0 y1 y2 y3 y4 y5 y6 y7 y8 y9 y10 => μ (y0, y1, y2, y3, y4, y5, y6, y7, y8, y9, y10), h0, fun y0 y1 y2 y3 y4 y5 y6 y7 y8 y9 y10 hy => hs (y0, y1, y2, y3, y4, y5, y6, y7, y8, y9, y10) hy⟩⟩
set_option maxHeartbeats 1000000 in
theorem d_e_Ca_paint_57 {U : ut} {u : Nat} {x1 : Int32} {x2 : Int32} {x3 : Int32} {x4 : Int32} {x5 : Int32} {x6 : Int32} {x7 : Int32} {x9 : Int32} {x10 : Int32} {x11 : Int32} {S : cs} {R9 : Int32 → Int32 → Int32 → Int32 → Int32 → Int32 → Int32 → cs → Prop} {K : cs → Prop} (h : e_Ca_paint_57 U u x1 x2 x3 x4 x5 x6 x7 x9 x10 x11 S R9 K) {Q : Prop} (k_R9 : ∀ (a0 : Int32) (a1 : Int32) (a2 : Int32) (a3 : Int32) (a4 : Int32) (a5 : Int32) (a6 : Int32) (a7 : cs), R9 a0 a1 a2 a3 a4 a5 a6 a7 → (∀ (R9' : Int32 → Int32 → Int32 → Int32 → Int32 → Int32 → Int32 → cs → Prop) (K' : cs → Prop), e_Ca_paint_57 U u x1 x2 x3 x4 x5 x6 x7 x9 x10 x11 S R9' K' ↔ R9' a0 a1 a2 a3 a4 a5 a6 a7) → Q) (k_K : ∀ (a0 : cs), K a0 → (∀ (R9' : Int32 → Int32 → Int32 → Int32 → Int32 → Int32 → Int32 → cs → Prop) (K' : cs → Prop), e_Ca_paint_57 U u x1 x2 x3 x4 x5 x6 x7 x9 x10 x11 S R9' K' ↔ K' a0) → Q) : Q := by
  obtain ⟨o, ho, hoc, hi⟩ := lp_det (C := (Int32 → Int32 → Int32 → Int32 → Int32 → Int32 → Int32 → cs → Prop) × (cs → Prop)) (b := (fun (y : (Int32) × (Int32) × (Int32) × (Int32) × (Int32) × (Int32) × (Int32) × (Int32) × (Int32) × (Int32) × (cs)) (R : ((Int32) × (Int32) × (Int32) × (Int32) × (Int32) × (Int32) × (Int32) × (Int32) × (Int32) × (Int32) × (cs)) → Prop) (c : (Int32 → Int32 → Int32 → Int32 → Int32 → Int32 → Int32 → cs → Prop) × (cs → Prop)) => b_Ca_paint_57 U u y.1 y.2.1 y.2.2.1 y.2.2.2.1 y.2.2.2.2.1 y.2.2.2.2.2.1 y.2.2.2.2.2.2.1 y.2.2.2.2.2.2.2.1 y.2.2.2.2.2.2.2.2.1 y.2.2.2.2.2.2.2.2.2.1 y.2.2.2.2.2.2.2.2.2.2 c.1 (fun z0 z1 z2 z3 z4 z5 z6 z7 z8 z9 z10 => R (z0, z1, z2, z3, z4, z5, z6, z7, z8, z9, z10)) c.2)) (O := (fun (o : ((Int32 → Int32 → Int32 → Int32 → Int32 → Int32 → Int32 → cs → Prop) × (cs → Prop)) → Prop) => (∃ (a0 : Int32) (a1 : Int32) (a2 : Int32) (a3 : Int32) (a4 : Int32) (a5 : Int32) (a6 : Int32) (a7 : cs), o = fun c => c.1 a0 a1 a2 a3 a4 a5 a6 a7) ∨ (∃ (a0 : cs), o = fun c => c.2 a0))) (fun y R c hy => d_b_Ca_paint_57 hy (fun a0 a1 a2 a3 a4 a5 a6 a7 ha ia => Or.inr ⟨(fun c => c.1 a0 a1 a2 a3 a4 a5 a6 a7), Or.inl ⟨a0, a1, a2, a3, a4, a5, a6, a7, rfl⟩, ha, fun R' c' => ia c'.1 (fun z0 z1 z2 z3 z4 z5 z6 z7 z8 z9 z10 => R' (z0, z1, z2, z3, z4, z5, z6, z7, z8, z9, z10)) c'.2⟩) (fun a0 a1 a2 a3 a4 a5 a6 a7 a8 a9 a10 ha ia => Or.inl ⟨(a0, a1, a2, a3, a4, a5, a6, a7, a8, a9, a10), ha, fun R' c' => ia c'.1 (fun z0 z1 z2 z3 z4 z5 z6 z7 z8 z9 z10 => R' (z0, z1, z2, z3, z4, z5, z6, z7, z8, z9, z10)) c'.2⟩) (fun a0 ha ia => Or.inr ⟨(fun c => c.2 a0), Or.inr (⟨a0, rfl⟩), ha, fun R' c' => ia c'.1 (fun z0 z1 z2 z3 z4 z5 z6 z7 z8 z9 z10 => R' (z0, z1, z2, z3, z4, z5, z6, z7, z8, z9, z10)) c'.2⟩)) (l_e_Ca_paint_57.mp h)
  rcases ho with ⟨a0, a1, a2, a3, a4, a5, a6, a7, rfl⟩ | ⟨a0, rfl⟩
  · exact k_R9 _ _ _ _ _ _ _ _ hoc (fun R9' K' => Iff.trans l_e_Ca_paint_57 (hi (R9', K')))
  · exact k_K _ hoc (fun R9' K' => Iff.trans l_e_Ca_paint_57 (hi (R9', K')))
theorem v_e_Ca_paint_57 {U : ut} {u : Nat} {x1 : Int32} {x2 : Int32} {x3 : Int32} {x4 : Int32} {x5 : Int32} {x6 : Int32} {x7 : Int32} {x9 : Int32} {x10 : Int32} {x11 : Int32} {S : cs} {R9 : Int32 → Int32 → Int32 → Int32 → Int32 → Int32 → Int32 → cs → Prop} {K : cs → Prop} (h : e_Ca_paint_57 U u x1 x2 x3 x4 x5 x6 x7 x9 x10 x11 S R9 K) {G : Prop} (Inv : Int32 → cs → Prop) (h0 : Inv x11 S) (hs : ∀ (yx11 : Int32) (yS : cs) (R : Int32 → Int32 → Int32 → Int32 → Int32 → Int32 → Int32 → Int32 → Int32 → Int32 → cs → Prop), Inv yx11 yS → b_Ca_paint_57 U u x1 x2 x3 x4 x5 x6 x7 x9 x10 yx11 yS R9 R K → (∃ (zx11 : Int32) (zS : cs), R x1 x2 x3 x4 x5 x6 x7 x9 x10 zx11 zS ∧ Inv zx11 zS) ∨ G) : G := by
  obtain ⟨I, μ, i0, is⟩ := h
  have go : ∀ (n : Nat) (yx11 : Int32) (yS : cs), μ x1 x2 x3 x4 x5 x6 x7 x9 x10 yx11 yS < n → I x1 x2 x3 x4 x5 x6 x7 x9 x10 yx11 yS → Inv yx11 yS → G := by
    intro n
    induction n with
    | zero => intro yx11 yS hy; exact absurd hy (Nat.not_lt_zero _)
    | succ n ih =>
      intro yx11 yS hy hI hV
      rcases hs yx11 yS _ hV (is x1 x2 x3 x4 x5 x6 x7 x9 x10 yx11 yS hI) with ⟨zx11, zS, ⟨hz, hm⟩, hv⟩ | g
      · exact ih zx11 zS (Nat.lt_of_lt_of_le hm (Nat.le_of_lt_succ hy)) hz hv
      · exact g
  exact go _ x11 S (Nat.lt_succ_self _) i0 h0
theorem r_e_Ca_paint_57 {U : ut} {u : Nat} {x1 : Int32} {x2 : Int32} {x3 : Int32} {x4 : Int32} {x5 : Int32} {x6 : Int32} {x7 : Int32} {x9 : Int32} {x10 : Int32} {x11 : Int32} {S : cs} {R9 : Int32 → Int32 → Int32 → Int32 → Int32 → Int32 → Int32 → cs → Prop} {K : cs → Prop} (h : e_Ca_paint_57 U u x1 x2 x3 x4 x5 x6 x7 x9 x10 x11 S R9 K) : b_Ca_paint_57 U u x1 x2 x3 x4 x5 x6 x7 x9 x10 x11 S R9 (fun zx1 zx2 zx3 zx4 zx5 zx6 zx7 zx9 zx10 zx11 zS => e_Ca_paint_57 U u zx1 zx2 zx3 zx4 zx5 zx6 zx7 zx9 zx10 zx11 zS R9 K) K := by
  obtain ⟨I, μ, i0, is⟩ := h
  exact d_b_Ca_paint_57 (is x1 x2 x3 x4 x5 x6 x7 x9 x10 x11 S i0) (fun a0 a1 a2 a3 a4 a5 a6 a7 ha ia => (ia _ _ _).mpr ha) (fun a0 a1 a2 a3 a4 a5 a6 a7 a8 a9 a10 ha ia => (ia _ _ _).mpr ⟨I, μ, ha.1, is⟩) (fun a0 ha ia => (ia _ _ _).mpr ha)
set_option maxHeartbeats 1000000 in
theorem d_b_Ca_paint_9 {U : ut} {u : Nat} {x1 : Int32} {x2 : Int32} {x3 : Int32} {x4 : Int32} {x5 : Int32} {x6 : Int32} {x7 : Int32} {S : cs} {R9 : Int32 → Int32 → Int32 → Int32 → Int32 → Int32 → Int32 → cs → Prop} {K : cs → Prop} (h : b_Ca_paint_9 U u x1 x2 x3 x4 x5 x6 x7 S R9 K) {Q : Prop} (k_R9 : ∀ (a0 : Int32) (a1 : Int32) (a2 : Int32) (a3 : Int32) (a4 : Int32) (a5 : Int32) (a6 : Int32) (a7 : cs), R9 a0 a1 a2 a3 a4 a5 a6 a7 → (∀ (R9' : Int32 → Int32 → Int32 → Int32 → Int32 → Int32 → Int32 → cs → Prop) (K' : cs → Prop), b_Ca_paint_9 U u x1 x2 x3 x4 x5 x6 x7 S R9' K' ↔ R9' a0 a1 a2 a3 a4 a5 a6 a7) → Q) (k_K : ∀ (a0 : cs), K a0 → (∀ (R9' : Int32 → Int32 → Int32 → Int32 → Int32 → Int32 → Int32 → cs → Prop) (K' : cs → Prop), b_Ca_paint_9 U u x1 x2 x3 x4 x5 x6 x7 S R9' K' ↔ K' a0) → Q) : Q := by
  unfold b_Ca_paint_9 at h
  refine dt_p h (fun c_1 h_2 => ?_) (fun c_1 h_2 => ?_)
  ·
    exact k_K _ h_2 (fun _ _ => dt_1 c_1 (fun n => n c_1))
  ·
    exact d_e_Ca_paint_57 h_2 (fun a0 a1 a2 a3 a4 a5 a6 a7 h_4 i_3 => k_R9 a0 a1 a2 a3 a4 a5 a6 a7 h_4 (fun _ _ => Iff.trans (dt_2 c_1 c_1) (i_3 _ _))) (fun a0 h_6 i_5 => k_K a0 h_6 (fun _ _ => Iff.trans (dt_2 c_1 c_1) (i_5 _ _)))
theorem l_e_Ca_paint_9 {U : ut} {u : Nat} {x1 : Int32} {x2 : Int32} {x3 : Int32} {x4 : Int32} {x5 : Int32} {x6 : Int32} {x7 : Int32} {S : cs} {K : cs → Prop} : e_Ca_paint_9 U u x1 x2 x3 x4 x5 x6 x7 S K ↔ lpE (C := (cs → Prop)) (fun (y : (Int32) × (Int32) × (Int32) × (Int32) × (Int32) × (Int32) × (Int32) × (cs)) (R : ((Int32) × (Int32) × (Int32) × (Int32) × (Int32) × (Int32) × (Int32) × (cs)) → Prop) (c : (cs → Prop)) => b_Ca_paint_9 U u y.1 y.2.1 y.2.2.1 y.2.2.2.1 y.2.2.2.2.1 y.2.2.2.2.2.1 y.2.2.2.2.2.2.1 y.2.2.2.2.2.2.2 (fun z0 z1 z2 z3 z4 z5 z6 z7 => R (z0, z1, z2, z3, z4, z5, z6, z7)) c) (x1, x2, x3, x4, x5, x6, x7, S) K :=
  ⟨fun ⟨I, μ, h0, hs⟩ => ⟨fun t => I t.1 t.2.1 t.2.2.1 t.2.2.2.1 t.2.2.2.2.1 t.2.2.2.2.2.1 t.2.2.2.2.2.2.1 t.2.2.2.2.2.2.2, fun t => μ t.1 t.2.1 t.2.2.1 t.2.2.2.1 t.2.2.2.2.1 t.2.2.2.2.2.1 t.2.2.2.2.2.2.1 t.2.2.2.2.2.2.2, h0, fun t ht => hs _ _ _ _ _ _ _ _ ht⟩, fun ⟨I, μ, h0, hs⟩ => ⟨fun y0 y1 y2 y3 y4 y5 y6 y7 => I (y0, y1, y2, y3, y4, y5, y6, y7), fun y0 y1 y2 y3 y4 y5 y6 y7 => μ (y0, y1, y2, y3, y4, y5, y6, y7), h0, fun y0 y1 y2 y3 y4 y5 y6 y7 hy => hs (y0, y1, y2, y3, y4, y5, y6, y7) hy⟩⟩
set_option maxHeartbeats 1000000 in
theorem d_e_Ca_paint_9 {U : ut} {u : Nat} {x1 : Int32} {x2 : Int32} {x3 : Int32} {x4 : Int32} {x5 : Int32} {x6 : Int32} {x7 : Int32} {S : cs} {K : cs → Prop} (h : e_Ca_paint_9 U u x1 x2 x3 x4 x5 x6 x7 S K) {Q : Prop} (k_K : ∀ (a0 : cs), K a0 → (∀ (K' : cs → Prop), e_Ca_paint_9 U u x1 x2 x3 x4 x5 x6 x7 S K' ↔ K' a0) → Q) : Q := by
  obtain ⟨o, ho, hoc, hi⟩ := lp_det (C := (cs → Prop)) (b := (fun (y : (Int32) × (Int32) × (Int32) × (Int32) × (Int32) × (Int32) × (Int32) × (cs)) (R : ((Int32) × (Int32) × (Int32) × (Int32) × (Int32) × (Int32) × (Int32) × (cs)) → Prop) (c : (cs → Prop)) => b_Ca_paint_9 U u y.1 y.2.1 y.2.2.1 y.2.2.2.1 y.2.2.2.2.1 y.2.2.2.2.2.1 y.2.2.2.2.2.2.1 y.2.2.2.2.2.2.2 (fun z0 z1 z2 z3 z4 z5 z6 z7 => R (z0, z1, z2, z3, z4, z5, z6, z7)) c)) (O := (fun (o : ((cs → Prop)) → Prop) => (∃ (a0 : cs), o = fun c => c a0))) (fun y R c hy => d_b_Ca_paint_9 hy (fun a0 a1 a2 a3 a4 a5 a6 a7 ha ia => Or.inl ⟨(a0, a1, a2, a3, a4, a5, a6, a7), ha, fun R' c' => ia (fun z0 z1 z2 z3 z4 z5 z6 z7 => R' (z0, z1, z2, z3, z4, z5, z6, z7)) c'⟩) (fun a0 ha ia => Or.inr ⟨(fun c => c a0), ⟨a0, rfl⟩, ha, fun R' c' => ia (fun z0 z1 z2 z3 z4 z5 z6 z7 => R' (z0, z1, z2, z3, z4, z5, z6, z7)) c'⟩)) (l_e_Ca_paint_9.mp h)
  rcases ho with ⟨a0, rfl⟩
  · exact k_K _ hoc (fun K' => Iff.trans l_e_Ca_paint_9 (hi K'))
theorem v_e_Ca_paint_9 {U : ut} {u : Nat} {x1 : Int32} {x2 : Int32} {x3 : Int32} {x4 : Int32} {x5 : Int32} {x6 : Int32} {x7 : Int32} {S : cs} {K : cs → Prop} (h : e_Ca_paint_9 U u x1 x2 x3 x4 x5 x6 x7 S K) {G : Prop} (Inv : Int32 → cs → Prop) (h0 : Inv x7 S) (hs : ∀ (yx7 : Int32) (yS : cs) (R : Int32 → Int32 → Int32 → Int32 → Int32 → Int32 → Int32 → cs → Prop), Inv yx7 yS → b_Ca_paint_9 U u x1 x2 x3 x4 x5 x6 yx7 yS R K → (∃ (zx7 : Int32) (zS : cs), R x1 x2 x3 x4 x5 x6 zx7 zS ∧ Inv zx7 zS) ∨ G) : G := by
  obtain ⟨I, μ, i0, is⟩ := h
  have go : ∀ (n : Nat) (yx7 : Int32) (yS : cs), μ x1 x2 x3 x4 x5 x6 yx7 yS < n → I x1 x2 x3 x4 x5 x6 yx7 yS → Inv yx7 yS → G := by
    intro n
    induction n with
    | zero => intro yx7 yS hy; exact absurd hy (Nat.not_lt_zero _)
    | succ n ih =>
      intro yx7 yS hy hI hV
      rcases hs yx7 yS _ hV (is x1 x2 x3 x4 x5 x6 yx7 yS hI) with ⟨zx7, zS, ⟨hz, hm⟩, hv⟩ | g
      · exact ih zx7 zS (Nat.lt_of_lt_of_le hm (Nat.le_of_lt_succ hy)) hz hv
      · exact g
  exact go _ x7 S (Nat.lt_succ_self _) i0 h0
theorem r_e_Ca_paint_9 {U : ut} {u : Nat} {x1 : Int32} {x2 : Int32} {x3 : Int32} {x4 : Int32} {x5 : Int32} {x6 : Int32} {x7 : Int32} {S : cs} {K : cs → Prop} (h : e_Ca_paint_9 U u x1 x2 x3 x4 x5 x6 x7 S K) : b_Ca_paint_9 U u x1 x2 x3 x4 x5 x6 x7 S (fun zx1 zx2 zx3 zx4 zx5 zx6 zx7 zS => e_Ca_paint_9 U u zx1 zx2 zx3 zx4 zx5 zx6 zx7 zS K) K := by
  obtain ⟨I, μ, i0, is⟩ := h
  exact d_b_Ca_paint_9 (is x1 x2 x3 x4 x5 x6 x7 S i0) (fun a0 a1 a2 a3 a4 a5 a6 a7 ha ia => (ia _ _).mpr ⟨I, μ, ha.1, is⟩) (fun a0 ha ia => (ia _ _).mpr ha)
set_option maxHeartbeats 1000000 in
theorem d_p_Ca_paint {U : ut} {u : Nat} {x1 : Int32} {x2 : Int32} {x3 : Int32} {x4 : Int32} {x5 : Int32} {x6 : Int32} {S : cs} {K : cs → Prop} (h : p_Ca_paint U u x1 x2 x3 x4 x5 x6 S K) {Q : Prop} (k_K : ∀ (a0 : cs), K a0 → (∀ (K' : cs → Prop), p_Ca_paint U u x1 x2 x3 x4 x5 x6 S K' ↔ K' a0) → Q) : Q := by
  unfold p_Ca_paint at h
  refine dt_p h (fun c_1 h_2 => ?_) (fun c_1 h_2 => ?_)
  ·
    exact d_e_Ca_paint_9 h_2 (fun a0 h_4 i_3 => k_K a0 h_4 (fun _ => Iff.trans (dt_1 c_1 (fun n => n c_1)) (i_3 _)))
  ·
    exact k_K _ h_2 (fun _ => dt_2 c_1 c_1)
set_option maxHeartbeats 1000000 in
theorem d_p_B_fill {U : ut} {u : Nat} {x1 : Int32} {x2 : Int32} {x3 : Int32} {x4 : Int32} {x5 : Int32} {S : cs} {K : cs → Prop} {T : Nat → cs → Prop} (h : p_B_fill U u x1 x2 x3 x4 x5 S K T) {Q : Prop} (k_K : ∀ (a0 : cs), K a0 → (∀ (K' : cs → Prop) (T' : Nat → cs → Prop), p_B_fill U u x1 x2 x3 x4 x5 S K' T' ↔ K' a0) → Q) (k_T : ∀ (a0 : Nat) (a1 : cs), T a0 a1 → (∀ (K' : cs → Prop) (T' : Nat → cs → Prop), p_B_fill U u x1 x2 x3 x4 x5 S K' T' ↔ T' a0 a1) → Q) : Q := by
  unfold p_B_fill at h
  refine d_p_Ca_holds (And.right (And.right h)) (fun v9 S9 h_2 i_1 => ?_)
  refine dt_n h_2 (fun c_3 h_4 => ?_) (fun c_3 h_4 => ?_)
  ·
    refine d_p_Ca_paint (And.right (And.right h_4)) (fun S38 h_6 i_5 => ?_)
    exact k_K _ h_6 (fun _ _ => Iff.trans (dt_a (And.left h)) (Iff.trans (dt_a (And.left (And.right h))) (Iff.trans (i_1 _) (Iff.trans (dt_1 c_3 c_3) (Iff.trans (dt_a (And.left h_4)) (Iff.trans (dt_a (And.left (And.right h_4))) (i_5 _)))))))
  ·
    exact k_T _ _ h_4 (fun _ _ => Iff.trans (dt_a (And.left h)) (Iff.trans (dt_a (And.left (And.right h))) (Iff.trans (i_1 _) (dt_2 (fun n => n c_3) c_3))))
set_option maxHeartbeats 1000000 in
theorem d_p_B_slope {U : ut} {u : Nat} {x1 : Int32} {x2 : Int32} {x3 : Int32} {x4 : Int32} {x5 : Int32} {x6 : Int32} {S : cs} {K : cs → Prop} {T : Nat → cs → Prop} (h : p_B_slope U u x1 x2 x3 x4 x5 x6 S K T) {Q : Prop} (k_K : ∀ (a0 : cs), K a0 → (∀ (K' : cs → Prop) (T' : Nat → cs → Prop), p_B_slope U u x1 x2 x3 x4 x5 x6 S K' T' ↔ K' a0) → Q) (k_T : ∀ (a0 : Nat) (a1 : cs), T a0 a1 → (∀ (K' : cs → Prop) (T' : Nat → cs → Prop), p_B_slope U u x1 x2 x3 x4 x5 x6 S K' T' ↔ T' a0 a1) → Q) : Q := by
  unfold p_B_slope at h
  refine d_p_Ca_holds (And.right (And.right h)) (fun v9 S9 h_2 i_1 => ?_)
  refine dt_n h_2 (fun c_3 h_4 => ?_) (fun c_3 h_4 => ?_)
  ·
    refine d_p_Ca_paint (And.right (And.right h_4)) (fun S38 h_6 i_5 => ?_)
    exact k_K _ h_6 (fun _ _ => Iff.trans (dt_a (And.left h)) (Iff.trans (dt_a (And.left (And.right h))) (Iff.trans (i_1 _) (Iff.trans (dt_1 c_3 c_3) (Iff.trans (dt_a (And.left h_4)) (Iff.trans (dt_a (And.left (And.right h_4))) (i_5 _)))))))
  ·
    exact k_T _ _ h_4 (fun _ _ => Iff.trans (dt_a (And.left h)) (Iff.trans (dt_a (And.left (And.right h))) (Iff.trans (i_1 _) (dt_2 (fun n => n c_3) c_3))))
set_option maxHeartbeats 1000000 in
theorem d_b_B_at_31 {U : ut} {u : Nat} {S : cs} {K : Int32 → cs → Prop} {T : Nat → cs → Prop} (h : b_B_at_31 U u S K T) {Q : Prop} (k_K : ∀ (a0 : Int32) (a1 : cs), K a0 a1 → (∀ (K' : Int32 → cs → Prop) (T' : Nat → cs → Prop), b_B_at_31 U u S K' T' ↔ K' a0 a1) → Q) (k_T : ∀ (a0 : Nat) (a1 : cs), T a0 a1 → (∀ (K' : Int32 → cs → Prop) (T' : Nat → cs → Prop), b_B_at_31 U u S K' T' ↔ T' a0 a1) → Q) : Q := by
  unfold b_B_at_31 at h
  exact k_T _ _ h (fun _ _ => Iff.rfl)
set_option maxHeartbeats 1000000 in
theorem d_p_B_at {U : ut} {u : Nat} {x1 : Int32} {x2 : Int32} {x3 : Int32} {S : cs} {K : Int32 → cs → Prop} {T : Nat → cs → Prop} (h : p_B_at U u x1 x2 x3 S K T) {Q : Prop} (k_K : ∀ (a0 : Int32) (a1 : cs), K a0 a1 → (∀ (K' : Int32 → cs → Prop) (T' : Nat → cs → Prop), p_B_at U u x1 x2 x3 S K' T' ↔ K' a0 a1) → Q) (k_T : ∀ (a0 : Nat) (a1 : cs), T a0 a1 → (∀ (K' : Int32 → cs → Prop) (T' : Nat → cs → Prop), p_B_at U u x1 x2 x3 S K' T' ↔ T' a0 a1) → Q) : Q := by
  unfold p_B_at at h
  refine d_p_Ca_holds (And.right (And.right h)) (fun v8 S8 h_2 i_1 => ?_)
  refine dt_p h_2 (fun c_3 h_4 => ?_) (fun c_3 h_4 => ?_)
  ·
    exact d_b_B_at_31 h_4 (fun a0 a1 h_6 i_5 => k_K a0 a1 h_6 (fun _ _ => Iff.trans (dt_a (And.left h)) (Iff.trans (dt_a (And.left (And.right h))) (Iff.trans (i_1 _) (Iff.trans (dt_1 c_3 (fun n => n c_3)) (i_5 _ _)))))) (fun a0 a1 h_8 i_7 => k_T a0 a1 h_8 (fun _ _ => Iff.trans (dt_a (And.left h)) (Iff.trans (dt_a (And.left (And.right h))) (Iff.trans (i_1 _) (Iff.trans (dt_1 c_3 (fun n => n c_3)) (i_7 _ _))))))
  ·
    refine d_p_B_isWithin (And.right (And.right h_4)) (fun v25 h_10 i_9 => ?_)
    refine dt_n h_10 (fun c_11 h_12 => ?_) (fun c_11 h_12 => ?_)
    ·
      refine d_p_B_spot (And.right (And.right h_12)) (fun v51 h_14 i_13 => ?_)
      exact k_K _ _ (And.right (And.right h_14)) (fun _ _ => Iff.trans (dt_a (And.left h)) (Iff.trans (dt_a (And.left (And.right h))) (Iff.trans (i_1 _) (Iff.trans (dt_2 c_3 c_3) (Iff.trans (dt_a (And.left h_4)) (Iff.trans (dt_a (And.left (And.right h_4))) (Iff.trans (i_9 _) (Iff.trans (dt_1 c_11 c_11) (Iff.trans (dt_a (And.left h_12)) (Iff.trans (dt_a (And.left (And.right h_12))) (Iff.trans (i_13 _) (Iff.trans (dt_a (And.left h_14)) (dt_a (And.left (And.right h_14)))))))))))))))
    ·
      exact d_b_B_at_31 h_12 (fun a0 a1 h_16 i_15 => k_K a0 a1 h_16 (fun _ _ => Iff.trans (dt_a (And.left h)) (Iff.trans (dt_a (And.left (And.right h))) (Iff.trans (i_1 _) (Iff.trans (dt_2 c_3 c_3) (Iff.trans (dt_a (And.left h_4)) (Iff.trans (dt_a (And.left (And.right h_4))) (Iff.trans (i_9 _) (Iff.trans (dt_2 (fun n => n c_11) c_11) (i_15 _ _)))))))))) (fun a0 a1 h_18 i_17 => k_T a0 a1 h_18 (fun _ _ => Iff.trans (dt_a (And.left h)) (Iff.trans (dt_a (And.left (And.right h))) (Iff.trans (i_1 _) (Iff.trans (dt_2 c_3 c_3) (Iff.trans (dt_a (And.left h_4)) (Iff.trans (dt_a (And.left (And.right h_4))) (Iff.trans (i_9 _) (Iff.trans (dt_2 (fun n => n c_11) c_11) (i_17 _ _))))))))))
set_option maxHeartbeats 1000000 in
theorem d_b_B_clamp_19 {s0 : Int32} {K : Int32 → Prop} (h : b_B_clamp_19 s0 K) {Q : Prop} (k_K : ∀ (a0 : Int32), K a0 → (∀ (K' : Int32 → Prop), b_B_clamp_19 s0 K' ↔ K' a0) → Q) : Q := by
  unfold b_B_clamp_19 at h
  exact k_K _ h (fun _ => Iff.rfl)
set_option maxHeartbeats 1000000 in
theorem d_p_B_clamp {x0 : Int32} {x1 : Int32} {x2 : Int32} {K : Int32 → Prop} (h : p_B_clamp x0 x1 x2 K) {Q : Prop} (k_K : ∀ (a0 : Int32), K a0 → (∀ (K' : Int32 → Prop), p_B_clamp x0 x1 x2 K' ↔ K' a0) → Q) : Q := by
  unfold p_B_clamp at h
  refine dt_p h (fun c_1 h_2 => ?_) (fun c_1 h_2 => ?_)
  ·
    refine dt_p h_2 (fun c_3 h_4 => ?_) (fun c_3 h_4 => ?_)
    ·
      exact d_b_B_clamp_19 h_4 (fun a0 h_6 i_5 => k_K a0 h_6 (fun _ => Iff.trans (dt_1 c_1 (fun n => n c_1)) (Iff.trans (dt_1 c_3 (fun n => n c_3)) (i_5 _))))
    ·
      exact d_b_B_clamp_19 h_4 (fun a0 h_8 i_7 => k_K a0 h_8 (fun _ => Iff.trans (dt_1 c_1 (fun n => n c_1)) (Iff.trans (dt_2 c_3 c_3) (i_7 _))))
  ·
    exact d_b_B_clamp_19 h_2 (fun a0 h_10 i_9 => k_K a0 h_10 (fun _ => Iff.trans (dt_2 c_1 c_1) (i_9 _)))
set_option maxHeartbeats 1000000 in
theorem d_b_B_scale_48 {U : ut} {u : Nat} {x1 : Int32} {x2 : Int32} {x3 : Int32} {x4 : Int32} {S : cs} {R48 : Int32 → Int32 → Int32 → Int32 → cs → Prop} {K : cs → Prop} {T : Nat → cs → Prop} (h : b_B_scale_48 U u x1 x2 x3 x4 S R48 K T) {Q : Prop} (k_R48 : ∀ (a0 : Int32) (a1 : Int32) (a2 : Int32) (a3 : Int32) (a4 : cs), R48 a0 a1 a2 a3 a4 → (∀ (R48' : Int32 → Int32 → Int32 → Int32 → cs → Prop) (K' : cs → Prop) (T' : Nat → cs → Prop), b_B_scale_48 U u x1 x2 x3 x4 S R48' K' T' ↔ R48' a0 a1 a2 a3 a4) → Q) (k_K : ∀ (a0 : cs), K a0 → (∀ (R48' : Int32 → Int32 → Int32 → Int32 → cs → Prop) (K' : cs → Prop) (T' : Nat → cs → Prop), b_B_scale_48 U u x1 x2 x3 x4 S R48' K' T' ↔ K' a0) → Q) (k_T : ∀ (a0 : Nat) (a1 : cs), T a0 a1 → (∀ (R48' : Int32 → Int32 → Int32 → Int32 → cs → Prop) (K' : cs → Prop) (T' : Nat → cs → Prop), b_B_scale_48 U u x1 x2 x3 x4 S R48' K' T' ↔ T' a0 a1) → Q) : Q := by
  unfold b_B_scale_48 at h
  refine dt_p h (fun c_1 h_2 => ?_) (fun c_1 h_2 => ?_)
  ·
    exact k_K _ h_2 (fun _ _ _ => dt_1 c_1 (fun n => n c_1))
  ·
    refine d_p_B_clamp (And.right h_2) (fun v85 h_4 i_3 => ?_)
    exact k_R48 _ _ _ _ _ (And.right (And.right h_4)) (fun _ _ _ => Iff.trans (dt_2 c_1 c_1) (Iff.trans (dt_a (And.left h_2)) (Iff.trans (i_3 _) (Iff.trans (dt_a (And.left h_4)) (dt_a (And.left (And.right h_4)))))))
theorem l_e_B_scale_48 {U : ut} {u : Nat} {x1 : Int32} {x2 : Int32} {x3 : Int32} {x4 : Int32} {S : cs} {K : cs → Prop} {T : Nat → cs → Prop} : e_B_scale_48 U u x1 x2 x3 x4 S K T ↔ lpE (C := (cs → Prop) × (Nat → cs → Prop)) (fun (y : (Int32) × (Int32) × (Int32) × (Int32) × (cs)) (R : ((Int32) × (Int32) × (Int32) × (Int32) × (cs)) → Prop) (c : (cs → Prop) × (Nat → cs → Prop)) => b_B_scale_48 U u y.1 y.2.1 y.2.2.1 y.2.2.2.1 y.2.2.2.2 (fun z0 z1 z2 z3 z4 => R (z0, z1, z2, z3, z4)) c.1 c.2) (x1, x2, x3, x4, S) (K, T) :=
  ⟨fun ⟨I, μ, h0, hs⟩ => ⟨fun t => I t.1 t.2.1 t.2.2.1 t.2.2.2.1 t.2.2.2.2, fun t => μ t.1 t.2.1 t.2.2.1 t.2.2.2.1 t.2.2.2.2, h0, fun t ht => hs _ _ _ _ _ ht⟩, fun ⟨I, μ, h0, hs⟩ => ⟨fun y0 y1 y2 y3 y4 => I (y0, y1, y2, y3, y4), fun y0 y1 y2 y3 y4 => μ (y0, y1, y2, y3, y4), h0, fun y0 y1 y2 y3 y4 hy => hs (y0, y1, y2, y3, y4) hy⟩⟩
set_option maxHeartbeats 1000000 in
theorem d_e_B_scale_48 {U : ut} {u : Nat} {x1 : Int32} {x2 : Int32} {x3 : Int32} {x4 : Int32} {S : cs} {K : cs → Prop} {T : Nat → cs → Prop} (h : e_B_scale_48 U u x1 x2 x3 x4 S K T) {Q : Prop} (k_K : ∀ (a0 : cs), K a0 → (∀ (K' : cs → Prop) (T' : Nat → cs → Prop), e_B_scale_48 U u x1 x2 x3 x4 S K' T' ↔ K' a0) → Q) (k_T : ∀ (a0 : Nat) (a1 : cs), T a0 a1 → (∀ (K' : cs → Prop) (T' : Nat → cs → Prop), e_B_scale_48 U u x1 x2 x3 x4 S K' T' ↔ T' a0 a1) → Q) : Q := by
  obtain ⟨o, ho, hoc, hi⟩ := lp_det (C := (cs → Prop) × (Nat → cs → Prop)) (b := (fun (y : (Int32) × (Int32) × (Int32) × (Int32) × (cs)) (R : ((Int32) × (Int32) × (Int32) × (Int32) × (cs)) → Prop) (c : (cs → Prop) × (Nat → cs → Prop)) => b_B_scale_48 U u y.1 y.2.1 y.2.2.1 y.2.2.2.1 y.2.2.2.2 (fun z0 z1 z2 z3 z4 => R (z0, z1, z2, z3, z4)) c.1 c.2)) (O := (fun (o : ((cs → Prop) × (Nat → cs → Prop)) → Prop) => (∃ (a0 : cs), o = fun c => c.1 a0) ∨ (∃ (a0 : Nat) (a1 : cs), o = fun c => c.2 a0 a1))) (fun y R c hy => d_b_B_scale_48 hy (fun a0 a1 a2 a3 a4 ha ia => Or.inl ⟨(a0, a1, a2, a3, a4), ha, fun R' c' => ia (fun z0 z1 z2 z3 z4 => R' (z0, z1, z2, z3, z4)) c'.1 c'.2⟩) (fun a0 ha ia => Or.inr ⟨(fun c => c.1 a0), Or.inl ⟨a0, rfl⟩, ha, fun R' c' => ia (fun z0 z1 z2 z3 z4 => R' (z0, z1, z2, z3, z4)) c'.1 c'.2⟩) (fun a0 a1 ha ia => Or.inr ⟨(fun c => c.2 a0 a1), Or.inr (⟨a0, a1, rfl⟩), ha, fun R' c' => ia (fun z0 z1 z2 z3 z4 => R' (z0, z1, z2, z3, z4)) c'.1 c'.2⟩)) (l_e_B_scale_48.mp h)
  rcases ho with ⟨a0, rfl⟩ | ⟨a0, a1, rfl⟩
  · exact k_K _ hoc (fun K' T' => Iff.trans l_e_B_scale_48 (hi (K', T')))
  · exact k_T _ _ hoc (fun K' T' => Iff.trans l_e_B_scale_48 (hi (K', T')))
theorem v_e_B_scale_48 {U : ut} {u : Nat} {x1 : Int32} {x2 : Int32} {x3 : Int32} {x4 : Int32} {S : cs} {K : cs → Prop} {T : Nat → cs → Prop} (h : e_B_scale_48 U u x1 x2 x3 x4 S K T) {G : Prop} (Inv : Int32 → cs → Prop) (h0 : Inv x4 S) (hs : ∀ (yx4 : Int32) (yS : cs) (R : Int32 → Int32 → Int32 → Int32 → cs → Prop), Inv yx4 yS → b_B_scale_48 U u x1 x2 x3 yx4 yS R K T → (∃ (zx4 : Int32) (zS : cs), R x1 x2 x3 zx4 zS ∧ Inv zx4 zS) ∨ G) : G := by
  obtain ⟨I, μ, i0, is⟩ := h
  have go : ∀ (n : Nat) (yx4 : Int32) (yS : cs), μ x1 x2 x3 yx4 yS < n → I x1 x2 x3 yx4 yS → Inv yx4 yS → G := by
    intro n
    induction n with
    | zero => intro yx4 yS hy; exact absurd hy (Nat.not_lt_zero _)
    | succ n ih =>
      intro yx4 yS hy hI hV
      rcases hs yx4 yS _ hV (is x1 x2 x3 yx4 yS hI) with ⟨zx4, zS, ⟨hz, hm⟩, hv⟩ | g
      · exact ih zx4 zS (Nat.lt_of_lt_of_le hm (Nat.le_of_lt_succ hy)) hz hv
      · exact g
  exact go _ x4 S (Nat.lt_succ_self _) i0 h0
theorem r_e_B_scale_48 {U : ut} {u : Nat} {x1 : Int32} {x2 : Int32} {x3 : Int32} {x4 : Int32} {S : cs} {K : cs → Prop} {T : Nat → cs → Prop} (h : e_B_scale_48 U u x1 x2 x3 x4 S K T) : b_B_scale_48 U u x1 x2 x3 x4 S (fun zx1 zx2 zx3 zx4 zS => e_B_scale_48 U u zx1 zx2 zx3 zx4 zS K T) K T := by
  obtain ⟨I, μ, i0, is⟩ := h
  exact d_b_B_scale_48 (is x1 x2 x3 x4 S i0) (fun a0 a1 a2 a3 a4 ha ia => (ia _ _ _).mpr ⟨I, μ, ha.1, is⟩) (fun a0 ha ia => (ia _ _ _).mpr ha) (fun a0 a1 ha ia => (ia _ _ _).mpr ha)
set_option maxHeartbeats 1000000 in
theorem d_b_B_scale_35 {U : ut} {u : Nat} {S : cs} {K : cs → Prop} {T : Nat → cs → Prop} (h : b_B_scale_35 U u S K T) {Q : Prop} (k_K : ∀ (a0 : cs), K a0 → (∀ (K' : cs → Prop) (T' : Nat → cs → Prop), b_B_scale_35 U u S K' T' ↔ K' a0) → Q) (k_T : ∀ (a0 : Nat) (a1 : cs), T a0 a1 → (∀ (K' : cs → Prop) (T' : Nat → cs → Prop), b_B_scale_35 U u S K' T' ↔ T' a0 a1) → Q) : Q := by
  unfold b_B_scale_35 at h
  exact k_T _ _ h (fun _ _ => Iff.rfl)
set_option maxHeartbeats 1000000 in
theorem d_p_B_scale {U : ut} {u : Nat} {x1 : Int32} {x2 : Int32} {x3 : Int32} {S : cs} {K : cs → Prop} {T : Nat → cs → Prop} (h : p_B_scale U u x1 x2 x3 S K T) {Q : Prop} (k_K : ∀ (a0 : cs), K a0 → (∀ (K' : cs → Prop) (T' : Nat → cs → Prop), p_B_scale U u x1 x2 x3 S K' T' ↔ K' a0) → Q) (k_T : ∀ (a0 : Nat) (a1 : cs), T a0 a1 → (∀ (K' : cs → Prop) (T' : Nat → cs → Prop), p_B_scale U u x1 x2 x3 S K' T' ↔ T' a0 a1) → Q) : Q := by
  unfold p_B_scale at h
  refine d_p_B_isWithin h (fun v3 h_2 i_1 => ?_)
  refine dt_p h_2 (fun c_3 h_4 => ?_) (fun c_3 h_4 => ?_)
  ·
    exact d_b_B_scale_35 h_4 (fun a0 h_6 i_5 => k_K a0 h_6 (fun _ _ => Iff.trans (i_1 _) (Iff.trans (dt_1 c_3 (fun n => n c_3)) (i_5 _ _)))) (fun a0 a1 h_8 i_7 => k_T a0 a1 h_8 (fun _ _ => Iff.trans (i_1 _) (Iff.trans (dt_1 c_3 (fun n => n c_3)) (i_7 _ _))))
  ·
    refine d_p_B_isWithin h_4 (fun v16 h_10 i_9 => ?_)
    refine dt_p h_10 (fun c_11 h_12 => ?_) (fun c_11 h_12 => ?_)
    ·
      exact d_b_B_scale_35 h_12 (fun a0 h_14 i_13 => k_K a0 h_14 (fun _ _ => Iff.trans (i_1 _) (Iff.trans (dt_2 c_3 c_3) (Iff.trans (i_9 _) (Iff.trans (dt_1 c_11 (fun n => n c_11)) (i_13 _ _)))))) (fun a0 a1 h_16 i_15 => k_T a0 a1 h_16 (fun _ _ => Iff.trans (i_1 _) (Iff.trans (dt_2 c_3 c_3) (Iff.trans (i_9 _) (Iff.trans (dt_1 c_11 (fun n => n c_11)) (i_15 _ _))))))
    ·
      refine d_p_B_isWithin h_12 (fun v29 h_18 i_17 => ?_)
      refine dt_n h_18 (fun c_19 h_20 => ?_) (fun c_19 h_20 => ?_)
      ·
        exact d_e_B_scale_48 h_20 (fun a0 h_22 i_21 => k_K a0 h_22 (fun _ _ => Iff.trans (i_1 _) (Iff.trans (dt_2 c_3 c_3) (Iff.trans (i_9 _) (Iff.trans (dt_2 c_11 c_11) (Iff.trans (i_17 _) (Iff.trans (dt_1 c_19 c_19) (i_21 _ _)))))))) (fun a0 a1 h_24 i_23 => k_T a0 a1 h_24 (fun _ _ => Iff.trans (i_1 _) (Iff.trans (dt_2 c_3 c_3) (Iff.trans (i_9 _) (Iff.trans (dt_2 c_11 c_11) (Iff.trans (i_17 _) (Iff.trans (dt_1 c_19 c_19) (i_23 _ _))))))))
      ·
        exact d_b_B_scale_35 h_20 (fun a0 h_26 i_25 => k_K a0 h_26 (fun _ _ => Iff.trans (i_1 _) (Iff.trans (dt_2 c_3 c_3) (Iff.trans (i_9 _) (Iff.trans (dt_2 c_11 c_11) (Iff.trans (i_17 _) (Iff.trans (dt_2 (fun n => n c_19) c_19) (i_25 _ _)))))))) (fun a0 a1 h_28 i_27 => k_T a0 a1 h_28 (fun _ _ => Iff.trans (i_1 _) (Iff.trans (dt_2 c_3 c_3) (Iff.trans (i_9 _) (Iff.trans (dt_2 c_11 c_11) (Iff.trans (i_17 _) (Iff.trans (dt_2 (fun n => n c_19) c_19) (i_27 _ _))))))))
set_option maxHeartbeats 1000000 in
theorem d_b_B_entry_51 {U : ut} {u : Nat} {S : cs} {K : cs → Prop} {T : Nat → cs → Prop} (h : b_B_entry_51 U u S K T) {Q : Prop} (k_K : ∀ (a0 : cs), K a0 → (∀ (K' : cs → Prop) (T' : Nat → cs → Prop), b_B_entry_51 U u S K' T' ↔ K' a0) → Q) (k_T : ∀ (a0 : Nat) (a1 : cs), T a0 a1 → (∀ (K' : cs → Prop) (T' : Nat → cs → Prop), b_B_entry_51 U u S K' T' ↔ T' a0 a1) → Q) : Q := by
  unfold b_B_entry_51 at h
  exact k_T _ _ h (fun _ _ => Iff.rfl)
set_option maxHeartbeats 1000000 in
theorem d_b_B_entry_20 {U : ut} {u : Nat} {S : cs} {K : cs → Prop} {T : Nat → cs → Prop} (h : b_B_entry_20 U u S K T) {Q : Prop} (k_K : ∀ (a0 : cs), K a0 → (∀ (K' : cs → Prop) (T' : Nat → cs → Prop), b_B_entry_20 U u S K' T' ↔ K' a0) → Q) (k_T : ∀ (a0 : Nat) (a1 : cs), T a0 a1 → (∀ (K' : cs → Prop) (T' : Nat → cs → Prop), b_B_entry_20 U u S K' T' ↔ T' a0 a1) → Q) : Q := by
  unfold b_B_entry_20 at h
  exact k_T _ _ h (fun _ _ => Iff.rfl)
set_option maxHeartbeats 1000000 in
theorem d_p_B_entry {U : ut} {u : Nat} {x1 : Int32} {x2 : Int32} {x3 : Int32} {x4 : Int32} {S : cs} {K : cs → Prop} {T : Nat → cs → Prop} (h : p_B_entry U u x1 x2 x3 x4 S K T) {Q : Prop} (k_K : ∀ (a0 : cs), K a0 → (∀ (K' : cs → Prop) (T' : Nat → cs → Prop), p_B_entry U u x1 x2 x3 x4 S K' T' ↔ K' a0) → Q) (k_T : ∀ (a0 : Nat) (a1 : cs), T a0 a1 → (∀ (K' : cs → Prop) (T' : Nat → cs → Prop), p_B_entry U u x1 x2 x3 x4 S K' T' ↔ T' a0 a1) → Q) : Q := by
  unfold p_B_entry at h
  refine d_p_B_isWithin h (fun v4 h_2 i_1 => ?_)
  refine dt_p h_2 (fun c_3 h_4 => ?_) (fun c_3 h_4 => ?_)
  ·
    exact d_b_B_entry_20 h_4 (fun a0 h_6 i_5 => k_K a0 h_6 (fun _ _ => Iff.trans (i_1 _) (Iff.trans (dt_1 c_3 (fun n => n c_3)) (i_5 _ _)))) (fun a0 a1 h_8 i_7 => k_T a0 a1 h_8 (fun _ _ => Iff.trans (i_1 _) (Iff.trans (dt_1 c_3 (fun n => n c_3)) (i_7 _ _))))
  ·
    refine d_p_B_isWithin h_4 (fun v14 h_10 i_9 => ?_)
    refine dt_n h_10 (fun c_11 h_12 => ?_) (fun c_11 h_12 => ?_)
    ·
      refine d_p_B_isWithin h_12 (fun v33 h_14 i_13 => ?_)
      refine dt_p h_14 (fun c_15 h_16 => ?_) (fun c_15 h_16 => ?_)
      ·
        exact d_b_B_entry_51 h_16 (fun a0 h_18 i_17 => k_K a0 h_18 (fun _ _ => Iff.trans (i_1 _) (Iff.trans (dt_2 c_3 c_3) (Iff.trans (i_9 _) (Iff.trans (dt_1 c_11 c_11) (Iff.trans (i_13 _) (Iff.trans (dt_1 c_15 (fun n => n c_15)) (i_17 _ _)))))))) (fun a0 a1 h_20 i_19 => k_T a0 a1 h_20 (fun _ _ => Iff.trans (i_1 _) (Iff.trans (dt_2 c_3 c_3) (Iff.trans (i_9 _) (Iff.trans (dt_1 c_11 c_11) (Iff.trans (i_13 _) (Iff.trans (dt_1 c_15 (fun n => n c_15)) (i_19 _ _))))))))
      ·
        refine d_p_B_isWithin h_16 (fun v45 h_22 i_21 => ?_)
        refine dt_n h_22 (fun c_23 h_24 => ?_) (fun c_23 h_24 => ?_)
        ·
          exact k_K _ (And.right (And.right (And.right h_24))) (fun _ _ => Iff.trans (i_1 _) (Iff.trans (dt_2 c_3 c_3) (Iff.trans (i_9 _) (Iff.trans (dt_1 c_11 c_11) (Iff.trans (i_13 _) (Iff.trans (dt_2 c_15 c_15) (Iff.trans (i_21 _) (Iff.trans (dt_1 c_23 c_23) (Iff.trans (dt_a (And.left h_24)) (Iff.trans (dt_a (And.left (And.right h_24))) (dt_a (And.left (And.right (And.right h_24))))))))))))))
        ·
          exact d_b_B_entry_51 h_24 (fun a0 h_26 i_25 => k_K a0 h_26 (fun _ _ => Iff.trans (i_1 _) (Iff.trans (dt_2 c_3 c_3) (Iff.trans (i_9 _) (Iff.trans (dt_1 c_11 c_11) (Iff.trans (i_13 _) (Iff.trans (dt_2 c_15 c_15) (Iff.trans (i_21 _) (Iff.trans (dt_2 (fun n => n c_23) c_23) (i_25 _ _)))))))))) (fun a0 a1 h_28 i_27 => k_T a0 a1 h_28 (fun _ _ => Iff.trans (i_1 _) (Iff.trans (dt_2 c_3 c_3) (Iff.trans (i_9 _) (Iff.trans (dt_1 c_11 c_11) (Iff.trans (i_13 _) (Iff.trans (dt_2 c_15 c_15) (Iff.trans (i_21 _) (Iff.trans (dt_2 (fun n => n c_23) c_23) (i_27 _ _))))))))))
    ·
      exact d_b_B_entry_20 h_12 (fun a0 h_30 i_29 => k_K a0 h_30 (fun _ _ => Iff.trans (i_1 _) (Iff.trans (dt_2 c_3 c_3) (Iff.trans (i_9 _) (Iff.trans (dt_2 (fun n => n c_11) c_11) (i_29 _ _)))))) (fun a0 a1 h_32 i_31 => k_T a0 a1 h_32 (fun _ _ => Iff.trans (i_1 _) (Iff.trans (dt_2 c_3 c_3) (Iff.trans (i_9 _) (Iff.trans (dt_2 (fun n => n c_11) c_11) (i_31 _ _))))))
set_option maxHeartbeats 1000000 in
theorem d_p_Pi_begin {U : ut} {u : Nat} {x1 : Int32} {x2 : Int32} {x3 : Int32} {S : cs} {K : cs → Prop} (h : p_Pi_begin U u x1 x2 x3 S K) {Q : Prop} (k_K : ∀ (a0 : cs), K a0 → (∀ (K' : cs → Prop), p_Pi_begin U u x1 x2 x3 S K' ↔ K' a0) → Q) : Q := by
  unfold p_Pi_begin at h
  refine d_p_Ar_fillI (And.right h) (fun S35 h_2 i_1 => ?_)
  exact k_K _ h_2 (fun _ => Iff.trans (dt_a (And.left h)) (i_1 _))
set_option maxHeartbeats 1000000 in
theorem d_p_Pi_setFactors {U : ut} {u : Nat} {x1 : Int32} {x2 : Int32} {x3 : Int32} {S : cs} {K : cs → Prop} (h : p_Pi_setFactors U u x1 x2 x3 S K) {Q : Prop} (k_K : ∀ (a0 : cs), K a0 → (∀ (K' : cs → Prop), p_Pi_setFactors U u x1 x2 x3 S K' ↔ K' a0) → Q) : Q := by
  unfold p_Pi_setFactors at h
  exact k_K _ (And.right (And.right (And.right (And.right (And.right (And.right h)))))) (fun _ => Iff.trans (dt_a (And.left h)) (Iff.trans (dt_a (And.left (And.right h))) (Iff.trans (dt_a (And.left (And.right (And.right h)))) (Iff.trans (dt_a (And.left (And.right (And.right (And.right h))))) (Iff.trans (dt_a (And.left (And.right (And.right (And.right (And.right h)))))) (dt_a (And.left (And.right (And.right (And.right (And.right (And.right h))))))))))))
set_option maxHeartbeats 1000000 in
theorem d_b_Pa_kindOf_9 {s0 : Int32} {K : Int32 → Prop} (h : b_Pa_kindOf_9 s0 K) {Q : Prop} (k_K : ∀ (a0 : Int32), K a0 → (∀ (K' : Int32 → Prop), b_Pa_kindOf_9 s0 K' ↔ K' a0) → Q) : Q := by
  unfold b_Pa_kindOf_9 at h
  exact k_K _ h (fun _ => Iff.rfl)
set_option maxHeartbeats 1000000 in
theorem d_p_Pa_kindOf {x0 : Int32} {K : Int32 → Prop} (h : p_Pa_kindOf x0 K) {Q : Prop} (k_K : ∀ (a0 : Int32), K a0 → (∀ (K' : Int32 → Prop), p_Pa_kindOf x0 K' ↔ K' a0) → Q) : Q := by
  unfold p_Pa_kindOf at h
  refine dt_n h (fun c_1 h_2 => ?_) (fun c_1 h_2 => ?_)
  ·
    exact d_b_Pa_kindOf_9 h_2 (fun a0 h_4 i_3 => k_K a0 h_4 (fun _ => Iff.trans (dt_1 c_1 c_1) (i_3 _)))
  ·
    exact d_b_Pa_kindOf_9 h_2 (fun a0 h_6 i_5 => k_K a0 h_6 (fun _ => Iff.trans (dt_2 (fun n => n c_1) c_1) (i_5 _)))
set_option maxHeartbeats 1000000 in
theorem d_b_Sc_addLayer_42 {U : ut} {u : Nat} {S : cs} {K : cs → Prop} (h : b_Sc_addLayer_42 U u S K) {Q : Prop} (k_K : ∀ (a0 : cs), K a0 → (∀ (K' : cs → Prop), b_Sc_addLayer_42 U u S K' ↔ K' a0) → Q) : Q := by
  unfold b_Sc_addLayer_42 at h
  exact k_K _ h (fun _ => Iff.rfl)
set_option maxHeartbeats 1000000 in
theorem d_p_Sc_addLayer {U : ut} {u : Nat} {x1 : Int32} {x2 : Int32} {x3 : Int32} {S : cs} {K : cs → Prop} (h : p_Sc_addLayer U u x1 x2 x3 S K) {Q : Prop} (k_K : ∀ (a0 : cs), K a0 → (∀ (K' : cs → Prop), p_Sc_addLayer U u x1 x2 x3 S K' ↔ K' a0) → Q) : Q := by
  unfold p_Sc_addLayer at h
  refine dt_p h (fun c_1 h_2 => ?_) (fun c_1 h_2 => ?_)
  ·
    exact d_b_Sc_addLayer_42 h_2 (fun a0 h_4 i_3 => k_K a0 h_4 (fun _ => Iff.trans (dt_1 c_1 (fun n => n c_1)) (i_3 _)))
  ·
    exact d_b_Sc_addLayer_42 (And.right (And.right (And.right (And.right (And.right (And.right (And.right (And.right (And.right h_2))))))))) (fun a0 h_6 i_5 => k_K a0 h_6 (fun _ => Iff.trans (dt_2 c_1 c_1) (Iff.trans (dt_a (And.left h_2)) (Iff.trans (dt_a (And.left (And.right h_2))) (Iff.trans (dt_a (And.left (And.right (And.right h_2)))) (Iff.trans (dt_a (And.left (And.right (And.right (And.right h_2))))) (Iff.trans (dt_a (And.left (And.right (And.right (And.right (And.right h_2)))))) (Iff.trans (dt_a (And.left (And.right (And.right (And.right (And.right (And.right h_2))))))) (Iff.trans (dt_a (And.left (And.right (And.right (And.right (And.right (And.right (And.right h_2)))))))) (Iff.trans (dt_a (And.left (And.right (And.right (And.right (And.right (And.right (And.right (And.right h_2))))))))) (Iff.trans (dt_a (And.left (And.right (And.right (And.right (And.right (And.right (And.right (And.right (And.right h_2)))))))))) (i_5 _))))))))))))
set_option maxHeartbeats 1000000 in
theorem d_b_Pi_upward_16 {s0 : Int32} {K : Int32 → Prop} (h : b_Pi_upward_16 s0 K) {Q : Prop} (k_K : ∀ (a0 : Int32), K a0 → (∀ (K' : Int32 → Prop), b_Pi_upward_16 s0 K' ↔ K' a0) → Q) : Q := by
  unfold b_Pi_upward_16 at h
  exact k_K _ h (fun _ => Iff.rfl)
set_option maxHeartbeats 1000000 in
theorem d_p_Pi_upward {x0 : Int32} {x1 : Int32} {K : Int32 → Prop} (h : p_Pi_upward x0 x1 K) {Q : Prop} (k_K : ∀ (a0 : Int32), K a0 → (∀ (K' : Int32 → Prop), p_Pi_upward x0 x1 K' ↔ K' a0) → Q) : Q := by
  unfold p_Pi_upward at h
  refine dt_p h (fun c_1 h_2 => ?_) (fun c_1 h_2 => ?_)
  ·
    exact d_b_Pi_upward_16 (And.right h_2) (fun a0 h_4 i_3 => k_K a0 h_4 (fun _ => Iff.trans (dt_1 c_1 (fun n => n c_1)) (Iff.trans (dt_a (And.left h_2)) (i_3 _))))
  ·
    exact d_b_Pi_upward_16 h_2 (fun a0 h_6 i_5 => k_K a0 h_6 (fun _ => Iff.trans (dt_2 c_1 c_1) (i_5 _)))
set_option maxHeartbeats 1000000 in
theorem d_b_Pi_measure_38 {U : ut} {u : Nat} {x1 : Int32} {S : cs} {R38 : Int32 → cs → Prop} {K : cs → Prop} (h : b_Pi_measure_38 U u x1 S R38 K) {Q : Prop} (k_R38 : ∀ (a0 : Int32) (a1 : cs), R38 a0 a1 → (∀ (R38' : Int32 → cs → Prop) (K' : cs → Prop), b_Pi_measure_38 U u x1 S R38' K' ↔ R38' a0 a1) → Q) (k_K : ∀ (a0 : cs), K a0 → (∀ (R38' : Int32 → cs → Prop) (K' : cs → Prop), b_Pi_measure_38 U u x1 S R38' K' ↔ K' a0) → Q) : Q := by
  unfold b_Pi_measure_38 at h
  refine dt_p h (fun c_1 h_2 => ?_) (fun c_1 h_2 => ?_)
  ·
    exact k_K _ h_2 (fun _ _ => dt_1 c_1 (fun n => n c_1))
  ·
    refine d_p_Pi_upward (And.right (And.right (And.right (And.right h_2)))) (fun v66 h_4 i_3 => ?_)
    refine d_p_Pi_upward (And.right (And.right (And.right (And.right (And.right (And.right h_4)))))) (fun v90 h_6 i_5 => ?_)
    exact k_R38 _ _ (And.right (And.right (And.right (And.right (And.right (And.right (And.right (And.right (And.right (And.right (And.right (And.right (And.right (And.right h_6)))))))))))))) (fun _ _ => Iff.trans (dt_2 c_1 c_1) (Iff.trans (dt_a (And.left h_2)) (Iff.trans (dt_a (And.left (And.right h_2))) (Iff.trans (dt_a (And.left (And.right (And.right h_2)))) (Iff.trans (dt_a (And.left (And.right (And.right (And.right h_2))))) (Iff.trans (i_3 _) (Iff.trans (dt_a (And.left h_4)) (Iff.trans (dt_a (And.left (And.right h_4))) (Iff.trans (dt_a (And.left (And.right (And.right h_4)))) (Iff.trans (dt_a (And.left (And.right (And.right (And.right h_4))))) (Iff.trans (dt_a (And.left (And.right (And.right (And.right (And.right h_4)))))) (Iff.trans (dt_a (And.left (And.right (And.right (And.right (And.right (And.right h_4))))))) (Iff.trans (i_5 _) (Iff.trans (dt_a (And.left h_6)) (Iff.trans (dt_a (And.left (And.right h_6))) (Iff.trans (dt_a (And.left (And.right (And.right h_6)))) (Iff.trans (dt_a (And.left (And.right (And.right (And.right h_6))))) (Iff.trans (dt_a (And.left (And.right (And.right (And.right (And.right h_6)))))) (Iff.trans (dt_a (And.left (And.right (And.right (And.right (And.right (And.right h_6))))))) (Iff.trans (dt_a (And.left (And.right (And.right (And.right (And.right (And.right (And.right h_6)))))))) (Iff.trans (dt_a (And.left (And.right (And.right (And.right (And.right (And.right (And.right (And.right h_6))))))))) (Iff.trans (dt_a (And.left (And.right (And.right (And.right (And.right (And.right (And.right (And.right (And.right h_6)))))))))) (Iff.trans (dt_a (And.left (And.right (And.right (And.right (And.right (And.right (And.right (And.right (And.right (And.right h_6))))))))))) (Iff.trans (dt_a (And.left (And.right (And.right (And.right (And.right (And.right (And.right (And.right (And.right (And.right (And.right h_6)))))))))))) (Iff.trans (dt_a (And.left (And.right (And.right (And.right (And.right (And.right (And.right (And.right (And.right (And.right (And.right (And.right h_6))))))))))))) (Iff.trans (dt_a (And.left (And.right (And.right (And.right (And.right (And.right (And.right (And.right (And.right (And.right (And.right (And.right (And.right h_6)))))))))))))) (dt_a (And.left (And.right (And.right (And.right (And.right (And.right (And.right (And.right (And.right (And.right (And.right (And.right (And.right (And.right h_6)))))))))))))))))))))))))))))))))))))))))
theorem l_e_Pi_measure_38 {U : ut} {u : Nat} {x1 : Int32} {S : cs} {K : cs → Prop} : e_Pi_measure_38 U u x1 S K ↔ lpE (C := (cs → Prop)) (fun (y : (Int32) × (cs)) (R : ((Int32) × (cs)) → Prop) (c : (cs → Prop)) => b_Pi_measure_38 U u y.1 y.2 (fun z0 z1 => R (z0, z1)) c) (x1, S) K :=
  ⟨fun ⟨I, μ, h0, hs⟩ => ⟨fun t => I t.1 t.2, fun t => μ t.1 t.2, h0, fun t ht => hs _ _ ht⟩, fun ⟨I, μ, h0, hs⟩ => ⟨fun y0 y1 => I (y0, y1), fun y0 y1 => μ (y0, y1), h0, fun y0 y1 hy => hs (y0, y1) hy⟩⟩
set_option maxHeartbeats 1000000 in
theorem d_e_Pi_measure_38 {U : ut} {u : Nat} {x1 : Int32} {S : cs} {K : cs → Prop} (h : e_Pi_measure_38 U u x1 S K) {Q : Prop} (k_K : ∀ (a0 : cs), K a0 → (∀ (K' : cs → Prop), e_Pi_measure_38 U u x1 S K' ↔ K' a0) → Q) : Q := by
  obtain ⟨o, ho, hoc, hi⟩ := lp_det (C := (cs → Prop)) (b := (fun (y : (Int32) × (cs)) (R : ((Int32) × (cs)) → Prop) (c : (cs → Prop)) => b_Pi_measure_38 U u y.1 y.2 (fun z0 z1 => R (z0, z1)) c)) (O := (fun (o : ((cs → Prop)) → Prop) => (∃ (a0 : cs), o = fun c => c a0))) (fun y R c hy => d_b_Pi_measure_38 hy (fun a0 a1 ha ia => Or.inl ⟨(a0, a1), ha, fun R' c' => ia (fun z0 z1 => R' (z0, z1)) c'⟩) (fun a0 ha ia => Or.inr ⟨(fun c => c a0), ⟨a0, rfl⟩, ha, fun R' c' => ia (fun z0 z1 => R' (z0, z1)) c'⟩)) (l_e_Pi_measure_38.mp h)
  rcases ho with ⟨a0, rfl⟩
  · exact k_K _ hoc (fun K' => Iff.trans l_e_Pi_measure_38 (hi K'))
theorem v_e_Pi_measure_38 {U : ut} {u : Nat} {x1 : Int32} {S : cs} {K : cs → Prop} (h : e_Pi_measure_38 U u x1 S K) {G : Prop} (Inv : Int32 → cs → Prop) (h0 : Inv x1 S) (hs : ∀ (yx1 : Int32) (yS : cs) (R : Int32 → cs → Prop), Inv yx1 yS → b_Pi_measure_38 U u yx1 yS R K → (∃ (zx1 : Int32) (zS : cs), R zx1 zS ∧ Inv zx1 zS) ∨ G) : G := by
  obtain ⟨I, μ, i0, is⟩ := h
  have go : ∀ (n : Nat) (yx1 : Int32) (yS : cs), μ yx1 yS < n → I yx1 yS → Inv yx1 yS → G := by
    intro n
    induction n with
    | zero => intro yx1 yS hy; exact absurd hy (Nat.not_lt_zero _)
    | succ n ih =>
      intro yx1 yS hy hI hV
      rcases hs yx1 yS _ hV (is yx1 yS hI) with ⟨zx1, zS, ⟨hz, hm⟩, hv⟩ | g
      · exact ih zx1 zS (Nat.lt_of_lt_of_le hm (Nat.le_of_lt_succ hy)) hz hv
      · exact g
  exact go _ x1 S (Nat.lt_succ_self _) i0 h0
theorem r_e_Pi_measure_38 {U : ut} {u : Nat} {x1 : Int32} {S : cs} {K : cs → Prop} (h : e_Pi_measure_38 U u x1 S K) : b_Pi_measure_38 U u x1 S (fun zx1 zS => e_Pi_measure_38 U u zx1 zS K) K := by
  obtain ⟨I, μ, i0, is⟩ := h
  exact d_b_Pi_measure_38 (is x1 S i0) (fun a0 a1 ha ia => (ia _ _).mpr ⟨I, μ, ha.1, is⟩) (fun a0 ha ia => (ia _ _).mpr ha)
set_option maxHeartbeats 1000000 in
theorem d_p_Pi_measure {U : ut} {u : Nat} {S : cs} {K : cs → Prop} (h : p_Pi_measure U u S K) {Q : Prop} (k_K : ∀ (a0 : cs), K a0 → (∀ (K' : cs → Prop), p_Pi_measure U u S K' ↔ K' a0) → Q) : Q := by
  unfold p_Pi_measure at h
  refine d_p_Pi_upward h (fun v12 h_2 i_1 => ?_)
  refine d_p_Pi_upward h_2 (fun v30 h_4 i_3 => ?_)
  exact d_e_Pi_measure_38 h_4 (fun a0 h_6 i_5 => k_K a0 h_6 (fun _ => Iff.trans (i_1 _) (Iff.trans (i_3 _) (i_5 _))))
set_option maxHeartbeats 1000000 in
theorem d_b_Sc_addBlock_37 {U : ut} {u : Nat} {S : cs} {K : cs → Prop} (h : b_Sc_addBlock_37 U u S K) {Q : Prop} (k_K : ∀ (a0 : cs), K a0 → (∀ (K' : cs → Prop), b_Sc_addBlock_37 U u S K' ↔ K' a0) → Q) : Q := by
  unfold b_Sc_addBlock_37 at h
  exact k_K _ h (fun _ => Iff.rfl)
set_option maxHeartbeats 1000000 in
theorem d_p_Sc_addBlock {U : ut} {u : Nat} {x1 : Int32} {x2 : Int32} {S : cs} {K : cs → Prop} (h : p_Sc_addBlock U u x1 x2 S K) {Q : Prop} (k_K : ∀ (a0 : cs), K a0 → (∀ (K' : cs → Prop), p_Sc_addBlock U u x1 x2 S K' ↔ K' a0) → Q) : Q := by
  unfold p_Sc_addBlock at h
  refine dt_p (And.right (And.right h)) (fun c_1 h_2 => ?_) (fun c_1 h_2 => ?_)
  ·
    exact d_b_Sc_addBlock_37 h_2 (fun a0 h_4 i_3 => k_K a0 h_4 (fun _ => Iff.trans (dt_a (And.left h)) (Iff.trans (dt_a (And.left (And.right h))) (Iff.trans (dt_1 c_1 (fun n => n c_1)) (i_3 _)))))
  ·
    exact d_b_Sc_addBlock_37 (And.right (And.right h_2)) (fun a0 h_6 i_5 => k_K a0 h_6 (fun _ => Iff.trans (dt_a (And.left h)) (Iff.trans (dt_a (And.left (And.right h))) (Iff.trans (dt_2 c_1 c_1) (Iff.trans (dt_a (And.left h_2)) (Iff.trans (dt_a (And.left (And.right h_2))) (i_5 _)))))))
set_option maxHeartbeats 1000000 in
theorem d_b_Sc_arrangeAlone_18 {U : ut} {u : Nat} {x1 : Nat} {x2 : Int32} {x3 : Int32} {x4 : Int32} {S : cs} {R2 : Nat → Int32 → Int32 → cs → Prop} {R18 : Nat → Int32 → Int32 → Int32 → cs → Prop} {K : cs → Prop} (h : b_Sc_arrangeAlone_18 U u x1 x2 x3 x4 S R2 R18 K) {Q : Prop} (k_R2 : ∀ (a0 : Nat) (a1 : Int32) (a2 : Int32) (a3 : cs), R2 a0 a1 a2 a3 → (∀ (R2' : Nat → Int32 → Int32 → cs → Prop) (R18' : Nat → Int32 → Int32 → Int32 → cs → Prop) (K' : cs → Prop), b_Sc_arrangeAlone_18 U u x1 x2 x3 x4 S R2' R18' K' ↔ R2' a0 a1 a2 a3) → Q) (k_R18 : ∀ (a0 : Nat) (a1 : Int32) (a2 : Int32) (a3 : Int32) (a4 : cs), R18 a0 a1 a2 a3 a4 → (∀ (R2' : Nat → Int32 → Int32 → cs → Prop) (R18' : Nat → Int32 → Int32 → Int32 → cs → Prop) (K' : cs → Prop), b_Sc_arrangeAlone_18 U u x1 x2 x3 x4 S R2' R18' K' ↔ R18' a0 a1 a2 a3 a4) → Q) (k_K : ∀ (a0 : cs), K a0 → (∀ (R2' : Nat → Int32 → Int32 → cs → Prop) (R18' : Nat → Int32 → Int32 → Int32 → cs → Prop) (K' : cs → Prop), b_Sc_arrangeAlone_18 U u x1 x2 x3 x4 S R2' R18' K' ↔ K' a0) → Q) : Q := by
  unfold b_Sc_arrangeAlone_18 at h
  refine dt_p (And.right (And.right (And.right (And.right h)))) (fun c_1 h_2 => ?_) (fun c_1 h_2 => ?_)
  ·
    exact k_R2 _ _ _ _ h_2 (fun _ _ _ => Iff.trans (dt_a (And.left h)) (Iff.trans (dt_a (And.left (And.right h))) (Iff.trans (dt_a (And.left (And.right (And.right h)))) (Iff.trans (dt_a (And.left (And.right (And.right (And.right h))))) (dt_1 c_1 (fun n => n c_1))))))
  ·
    refine d_p_Sc_addBlock (And.right (And.right (And.right h_2))) (fun S45 h_4 i_3 => ?_)
    exact k_R18 _ _ _ _ _ h_4 (fun _ _ _ => Iff.trans (dt_a (And.left h)) (Iff.trans (dt_a (And.left (And.right h))) (Iff.trans (dt_a (And.left (And.right (And.right h)))) (Iff.trans (dt_a (And.left (And.right (And.right (And.right h))))) (Iff.trans (dt_2 c_1 c_1) (Iff.trans (dt_a (And.left h_2)) (Iff.trans (dt_a (And.left (And.right h_2))) (Iff.trans (dt_a (And.left (And.right (And.right h_2)))) (i_3 _)))))))))
theorem l_e_Sc_arrangeAlone_18 {U : ut} {u : Nat} {x1 : Nat} {x2 : Int32} {x3 : Int32} {x4 : Int32} {S : cs} {R2 : Nat → Int32 → Int32 → cs → Prop} {K : cs → Prop} : e_Sc_arrangeAlone_18 U u x1 x2 x3 x4 S R2 K ↔ lpE (C := (Nat → Int32 → Int32 → cs → Prop) × (cs → Prop)) (fun (y : (Nat) × (Int32) × (Int32) × (Int32) × (cs)) (R : ((Nat) × (Int32) × (Int32) × (Int32) × (cs)) → Prop) (c : (Nat → Int32 → Int32 → cs → Prop) × (cs → Prop)) => b_Sc_arrangeAlone_18 U u y.1 y.2.1 y.2.2.1 y.2.2.2.1 y.2.2.2.2 c.1 (fun z0 z1 z2 z3 z4 => R (z0, z1, z2, z3, z4)) c.2) (x1, x2, x3, x4, S) (R2, K) :=
  ⟨fun ⟨I, μ, h0, hs⟩ => ⟨fun t => I t.1 t.2.1 t.2.2.1 t.2.2.2.1 t.2.2.2.2, fun t => μ t.1 t.2.1 t.2.2.1 t.2.2.2.1 t.2.2.2.2, h0, fun t ht => hs _ _ _ _ _ ht⟩, fun ⟨I, μ, h0, hs⟩ => ⟨fun y0 y1 y2 y3 y4 => I (y0, y1, y2, y3, y4), fun y0 y1 y2 y3 y4 => μ (y0, y1, y2, y3, y4), h0, fun y0 y1 y2 y3 y4 hy => hs (y0, y1, y2, y3, y4) hy⟩⟩
set_option maxHeartbeats 1000000 in
theorem d_e_Sc_arrangeAlone_18 {U : ut} {u : Nat} {x1 : Nat} {x2 : Int32} {x3 : Int32} {x4 : Int32} {S : cs} {R2 : Nat → Int32 → Int32 → cs → Prop} {K : cs → Prop} (h : e_Sc_arrangeAlone_18 U u x1 x2 x3 x4 S R2 K) {Q : Prop} (k_R2 : ∀ (a0 : Nat) (a1 : Int32) (a2 : Int32) (a3 : cs), R2 a0 a1 a2 a3 → (∀ (R2' : Nat → Int32 → Int32 → cs → Prop) (K' : cs → Prop), e_Sc_arrangeAlone_18 U u x1 x2 x3 x4 S R2' K' ↔ R2' a0 a1 a2 a3) → Q) (k_K : ∀ (a0 : cs), K a0 → (∀ (R2' : Nat → Int32 → Int32 → cs → Prop) (K' : cs → Prop), e_Sc_arrangeAlone_18 U u x1 x2 x3 x4 S R2' K' ↔ K' a0) → Q) : Q := by
  obtain ⟨o, ho, hoc, hi⟩ := lp_det (C := (Nat → Int32 → Int32 → cs → Prop) × (cs → Prop)) (b := (fun (y : (Nat) × (Int32) × (Int32) × (Int32) × (cs)) (R : ((Nat) × (Int32) × (Int32) × (Int32) × (cs)) → Prop) (c : (Nat → Int32 → Int32 → cs → Prop) × (cs → Prop)) => b_Sc_arrangeAlone_18 U u y.1 y.2.1 y.2.2.1 y.2.2.2.1 y.2.2.2.2 c.1 (fun z0 z1 z2 z3 z4 => R (z0, z1, z2, z3, z4)) c.2)) (O := (fun (o : ((Nat → Int32 → Int32 → cs → Prop) × (cs → Prop)) → Prop) => (∃ (a0 : Nat) (a1 : Int32) (a2 : Int32) (a3 : cs), o = fun c => c.1 a0 a1 a2 a3) ∨ (∃ (a0 : cs), o = fun c => c.2 a0))) (fun y R c hy => d_b_Sc_arrangeAlone_18 hy (fun a0 a1 a2 a3 ha ia => Or.inr ⟨(fun c => c.1 a0 a1 a2 a3), Or.inl ⟨a0, a1, a2, a3, rfl⟩, ha, fun R' c' => ia c'.1 (fun z0 z1 z2 z3 z4 => R' (z0, z1, z2, z3, z4)) c'.2⟩) (fun a0 a1 a2 a3 a4 ha ia => Or.inl ⟨(a0, a1, a2, a3, a4), ha, fun R' c' => ia c'.1 (fun z0 z1 z2 z3 z4 => R' (z0, z1, z2, z3, z4)) c'.2⟩) (fun a0 ha ia => Or.inr ⟨(fun c => c.2 a0), Or.inr (⟨a0, rfl⟩), ha, fun R' c' => ia c'.1 (fun z0 z1 z2 z3 z4 => R' (z0, z1, z2, z3, z4)) c'.2⟩)) (l_e_Sc_arrangeAlone_18.mp h)
  rcases ho with ⟨a0, a1, a2, a3, rfl⟩ | ⟨a0, rfl⟩
  · exact k_R2 _ _ _ _ hoc (fun R2' K' => Iff.trans l_e_Sc_arrangeAlone_18 (hi (R2', K')))
  · exact k_K _ hoc (fun R2' K' => Iff.trans l_e_Sc_arrangeAlone_18 (hi (R2', K')))
theorem v_e_Sc_arrangeAlone_18 {U : ut} {u : Nat} {x1 : Nat} {x2 : Int32} {x3 : Int32} {x4 : Int32} {S : cs} {R2 : Nat → Int32 → Int32 → cs → Prop} {K : cs → Prop} (h : e_Sc_arrangeAlone_18 U u x1 x2 x3 x4 S R2 K) {G : Prop} (Inv : Int32 → cs → Prop) (h0 : Inv x4 S) (hs : ∀ (yx4 : Int32) (yS : cs) (R : Nat → Int32 → Int32 → Int32 → cs → Prop), Inv yx4 yS → b_Sc_arrangeAlone_18 U u x1 x2 x3 yx4 yS R2 R K → (∃ (zx4 : Int32) (zS : cs), R x1 x2 x3 zx4 zS ∧ Inv zx4 zS) ∨ G) : G := by
  obtain ⟨I, μ, i0, is⟩ := h
  have go : ∀ (n : Nat) (yx4 : Int32) (yS : cs), μ x1 x2 x3 yx4 yS < n → I x1 x2 x3 yx4 yS → Inv yx4 yS → G := by
    intro n
    induction n with
    | zero => intro yx4 yS hy; exact absurd hy (Nat.not_lt_zero _)
    | succ n ih =>
      intro yx4 yS hy hI hV
      rcases hs yx4 yS _ hV (is x1 x2 x3 yx4 yS hI) with ⟨zx4, zS, ⟨hz, hm⟩, hv⟩ | g
      · exact ih zx4 zS (Nat.lt_of_lt_of_le hm (Nat.le_of_lt_succ hy)) hz hv
      · exact g
  exact go _ x4 S (Nat.lt_succ_self _) i0 h0
theorem r_e_Sc_arrangeAlone_18 {U : ut} {u : Nat} {x1 : Nat} {x2 : Int32} {x3 : Int32} {x4 : Int32} {S : cs} {R2 : Nat → Int32 → Int32 → cs → Prop} {K : cs → Prop} (h : e_Sc_arrangeAlone_18 U u x1 x2 x3 x4 S R2 K) : b_Sc_arrangeAlone_18 U u x1 x2 x3 x4 S R2 (fun zx1 zx2 zx3 zx4 zS => e_Sc_arrangeAlone_18 U u zx1 zx2 zx3 zx4 zS R2 K) K := by
  obtain ⟨I, μ, i0, is⟩ := h
  exact d_b_Sc_arrangeAlone_18 (is x1 x2 x3 x4 S i0) (fun a0 a1 a2 a3 ha ia => (ia _ _ _).mpr ha) (fun a0 a1 a2 a3 a4 ha ia => (ia _ _ _).mpr ⟨I, μ, ha.1, is⟩) (fun a0 ha ia => (ia _ _ _).mpr ha)
set_option maxHeartbeats 1000000 in
theorem d_b_Sc_arrangeAlone_2 {U : ut} {u : Nat} {x1 : Nat} {x2 : Int32} {x3 : Int32} {S : cs} {R2 : Nat → Int32 → Int32 → cs → Prop} {K : cs → Prop} (h : b_Sc_arrangeAlone_2 U u x1 x2 x3 S R2 K) {Q : Prop} (k_R2 : ∀ (a0 : Nat) (a1 : Int32) (a2 : Int32) (a3 : cs), R2 a0 a1 a2 a3 → (∀ (R2' : Nat → Int32 → Int32 → cs → Prop) (K' : cs → Prop), b_Sc_arrangeAlone_2 U u x1 x2 x3 S R2' K' ↔ R2' a0 a1 a2 a3) → Q) (k_K : ∀ (a0 : cs), K a0 → (∀ (R2' : Nat → Int32 → Int32 → cs → Prop) (K' : cs → Prop), b_Sc_arrangeAlone_2 U u x1 x2 x3 S R2' K' ↔ K' a0) → Q) : Q := by
  unfold b_Sc_arrangeAlone_2 at h
  refine dt_p (And.right (And.right (And.right (And.right h)))) (fun c_1 h_2 => ?_) (fun c_1 h_2 => ?_)
  ·
    exact k_K _ h_2 (fun _ _ => Iff.trans (dt_a (And.left h)) (Iff.trans (dt_a (And.left (And.right h))) (Iff.trans (dt_a (And.left (And.right (And.right h)))) (Iff.trans (dt_a (And.left (And.right (And.right (And.right h))))) (dt_1 c_1 (fun n => n c_1))))))
  ·
    exact d_e_Sc_arrangeAlone_18 h_2 (fun a0 a1 a2 a3 h_4 i_3 => k_R2 a0 a1 a2 a3 h_4 (fun _ _ => Iff.trans (dt_a (And.left h)) (Iff.trans (dt_a (And.left (And.right h))) (Iff.trans (dt_a (And.left (And.right (And.right h)))) (Iff.trans (dt_a (And.left (And.right (And.right (And.right h))))) (Iff.trans (dt_2 c_1 c_1) (i_3 _ _))))))) (fun a0 h_6 i_5 => k_K a0 h_6 (fun _ _ => Iff.trans (dt_a (And.left h)) (Iff.trans (dt_a (And.left (And.right h))) (Iff.trans (dt_a (And.left (And.right (And.right h)))) (Iff.trans (dt_a (And.left (And.right (And.right (And.right h))))) (Iff.trans (dt_2 c_1 c_1) (i_5 _ _)))))))
theorem l_e_Sc_arrangeAlone_2 {U : ut} {u : Nat} {x1 : Nat} {x2 : Int32} {x3 : Int32} {S : cs} {K : cs → Prop} : e_Sc_arrangeAlone_2 U u x1 x2 x3 S K ↔ lpE (C := (cs → Prop)) (fun (y : (Nat) × (Int32) × (Int32) × (cs)) (R : ((Nat) × (Int32) × (Int32) × (cs)) → Prop) (c : (cs → Prop)) => b_Sc_arrangeAlone_2 U u y.1 y.2.1 y.2.2.1 y.2.2.2 (fun z0 z1 z2 z3 => R (z0, z1, z2, z3)) c) (x1, x2, x3, S) K :=
  ⟨fun ⟨I, μ, h0, hs⟩ => ⟨fun t => I t.1 t.2.1 t.2.2.1 t.2.2.2, fun t => μ t.1 t.2.1 t.2.2.1 t.2.2.2, h0, fun t ht => hs _ _ _ _ ht⟩, fun ⟨I, μ, h0, hs⟩ => ⟨fun y0 y1 y2 y3 => I (y0, y1, y2, y3), fun y0 y1 y2 y3 => μ (y0, y1, y2, y3), h0, fun y0 y1 y2 y3 hy => hs (y0, y1, y2, y3) hy⟩⟩
set_option maxHeartbeats 1000000 in
theorem d_e_Sc_arrangeAlone_2 {U : ut} {u : Nat} {x1 : Nat} {x2 : Int32} {x3 : Int32} {S : cs} {K : cs → Prop} (h : e_Sc_arrangeAlone_2 U u x1 x2 x3 S K) {Q : Prop} (k_K : ∀ (a0 : cs), K a0 → (∀ (K' : cs → Prop), e_Sc_arrangeAlone_2 U u x1 x2 x3 S K' ↔ K' a0) → Q) : Q := by
  obtain ⟨o, ho, hoc, hi⟩ := lp_det (C := (cs → Prop)) (b := (fun (y : (Nat) × (Int32) × (Int32) × (cs)) (R : ((Nat) × (Int32) × (Int32) × (cs)) → Prop) (c : (cs → Prop)) => b_Sc_arrangeAlone_2 U u y.1 y.2.1 y.2.2.1 y.2.2.2 (fun z0 z1 z2 z3 => R (z0, z1, z2, z3)) c)) (O := (fun (o : ((cs → Prop)) → Prop) => (∃ (a0 : cs), o = fun c => c a0))) (fun y R c hy => d_b_Sc_arrangeAlone_2 hy (fun a0 a1 a2 a3 ha ia => Or.inl ⟨(a0, a1, a2, a3), ha, fun R' c' => ia (fun z0 z1 z2 z3 => R' (z0, z1, z2, z3)) c'⟩) (fun a0 ha ia => Or.inr ⟨(fun c => c a0), ⟨a0, rfl⟩, ha, fun R' c' => ia (fun z0 z1 z2 z3 => R' (z0, z1, z2, z3)) c'⟩)) (l_e_Sc_arrangeAlone_2.mp h)
  rcases ho with ⟨a0, rfl⟩
  · exact k_K _ hoc (fun K' => Iff.trans l_e_Sc_arrangeAlone_2 (hi K'))
theorem v_e_Sc_arrangeAlone_2 {U : ut} {u : Nat} {x1 : Nat} {x2 : Int32} {x3 : Int32} {S : cs} {K : cs → Prop} (h : e_Sc_arrangeAlone_2 U u x1 x2 x3 S K) {G : Prop} (Inv : Int32 → cs → Prop) (h0 : Inv x3 S) (hs : ∀ (yx3 : Int32) (yS : cs) (R : Nat → Int32 → Int32 → cs → Prop), Inv yx3 yS → b_Sc_arrangeAlone_2 U u x1 x2 yx3 yS R K → (∃ (zx3 : Int32) (zS : cs), R x1 x2 zx3 zS ∧ Inv zx3 zS) ∨ G) : G := by
  obtain ⟨I, μ, i0, is⟩ := h
  have go : ∀ (n : Nat) (yx3 : Int32) (yS : cs), μ x1 x2 yx3 yS < n → I x1 x2 yx3 yS → Inv yx3 yS → G := by
    intro n
    induction n with
    | zero => intro yx3 yS hy; exact absurd hy (Nat.not_lt_zero _)
    | succ n ih =>
      intro yx3 yS hy hI hV
      rcases hs yx3 yS _ hV (is x1 x2 yx3 yS hI) with ⟨zx3, zS, ⟨hz, hm⟩, hv⟩ | g
      · exact ih zx3 zS (Nat.lt_of_lt_of_le hm (Nat.le_of_lt_succ hy)) hz hv
      · exact g
  exact go _ x3 S (Nat.lt_succ_self _) i0 h0
theorem r_e_Sc_arrangeAlone_2 {U : ut} {u : Nat} {x1 : Nat} {x2 : Int32} {x3 : Int32} {S : cs} {K : cs → Prop} (h : e_Sc_arrangeAlone_2 U u x1 x2 x3 S K) : b_Sc_arrangeAlone_2 U u x1 x2 x3 S (fun zx1 zx2 zx3 zS => e_Sc_arrangeAlone_2 U u zx1 zx2 zx3 zS K) K := by
  obtain ⟨I, μ, i0, is⟩ := h
  exact d_b_Sc_arrangeAlone_2 (is x1 x2 x3 S i0) (fun a0 a1 a2 a3 ha ia => (ia _ _).mpr ⟨I, μ, ha.1, is⟩) (fun a0 ha ia => (ia _ _).mpr ha)
set_option maxHeartbeats 1000000 in
theorem d_p_Sc_arrangeAlone {U : ut} {u : Nat} {x1 : Nat} {x2 : Int32} {S : cs} {K : cs → Prop} (h : p_Sc_arrangeAlone U u x1 x2 S K) {Q : Prop} (k_K : ∀ (a0 : cs), K a0 → (∀ (K' : cs → Prop), p_Sc_arrangeAlone U u x1 x2 S K' ↔ K' a0) → Q) : Q := by
  unfold p_Sc_arrangeAlone at h
  exact d_e_Sc_arrangeAlone_2 h (fun a0 h_2 i_1 => k_K a0 h_2 (fun _ => i_1 _))
set_option maxHeartbeats 1000000 in
theorem d_b_Sc_blocksTogether_4 {U : ut} {u : Nat} {x1 : Nat} {x2 : Int32} {x3 : Int32} {S : cs} {R4 : Nat → Int32 → Int32 → cs → Prop} {K : Int32 → cs → Prop} (h : b_Sc_blocksTogether_4 U u x1 x2 x3 S R4 K) {Q : Prop} (k_R4 : ∀ (a0 : Nat) (a1 : Int32) (a2 : Int32) (a3 : cs), R4 a0 a1 a2 a3 → (∀ (R4' : Nat → Int32 → Int32 → cs → Prop) (K' : Int32 → cs → Prop), b_Sc_blocksTogether_4 U u x1 x2 x3 S R4' K' ↔ R4' a0 a1 a2 a3) → Q) (k_K : ∀ (a0 : Int32) (a1 : cs), K a0 a1 → (∀ (R4' : Nat → Int32 → Int32 → cs → Prop) (K' : Int32 → cs → Prop), b_Sc_blocksTogether_4 U u x1 x2 x3 S R4' K' ↔ K' a0 a1) → Q) : Q := by
  unfold b_Sc_blocksTogether_4 at h
  refine dt_p h (fun c_1 h_2 => ?_) (fun c_1 h_2 => ?_)
  ·
    exact k_K _ _ h_2 (fun _ _ => dt_1 c_1 (fun n => n c_1))
  ·
    exact k_R4 _ _ _ _ (And.right (And.right (And.right (And.right (And.right (And.right (And.right (And.right (And.right (And.right (And.right (And.right h_2)))))))))))) (fun _ _ => Iff.trans (dt_2 c_1 c_1) (Iff.trans (dt_a (And.left h_2)) (Iff.trans (dt_a (And.left (And.right h_2))) (Iff.trans (dt_a (And.left (And.right (And.right h_2)))) (Iff.trans (dt_a (And.left (And.right (And.right (And.right h_2))))) (Iff.trans (dt_a (And.left (And.right (And.right (And.right (And.right h_2)))))) (Iff.trans (dt_a (And.left (And.right (And.right (And.right (And.right (And.right h_2))))))) (Iff.trans (dt_a (And.left (And.right (And.right (And.right (And.right (And.right (And.right h_2)))))))) (Iff.trans (dt_a (And.left (And.right (And.right (And.right (And.right (And.right (And.right (And.right h_2))))))))) (Iff.trans (dt_a (And.left (And.right (And.right (And.right (And.right (And.right (And.right (And.right (And.right h_2)))))))))) (Iff.trans (dt_a (And.left (And.right (And.right (And.right (And.right (And.right (And.right (And.right (And.right (And.right h_2))))))))))) (Iff.trans (dt_a (And.left (And.right (And.right (And.right (And.right (And.right (And.right (And.right (And.right (And.right (And.right h_2)))))))))))) (dt_a (And.left (And.right (And.right (And.right (And.right (And.right (And.right (And.right (And.right (And.right (And.right (And.right h_2)))))))))))))))))))))))))
theorem l_e_Sc_blocksTogether_4 {U : ut} {u : Nat} {x1 : Nat} {x2 : Int32} {x3 : Int32} {S : cs} {K : Int32 → cs → Prop} : e_Sc_blocksTogether_4 U u x1 x2 x3 S K ↔ lpE (C := (Int32 → cs → Prop)) (fun (y : (Nat) × (Int32) × (Int32) × (cs)) (R : ((Nat) × (Int32) × (Int32) × (cs)) → Prop) (c : (Int32 → cs → Prop)) => b_Sc_blocksTogether_4 U u y.1 y.2.1 y.2.2.1 y.2.2.2 (fun z0 z1 z2 z3 => R (z0, z1, z2, z3)) c) (x1, x2, x3, S) K :=
  ⟨fun ⟨I, μ, h0, hs⟩ => ⟨fun t => I t.1 t.2.1 t.2.2.1 t.2.2.2, fun t => μ t.1 t.2.1 t.2.2.1 t.2.2.2, h0, fun t ht => hs _ _ _ _ ht⟩, fun ⟨I, μ, h0, hs⟩ => ⟨fun y0 y1 y2 y3 => I (y0, y1, y2, y3), fun y0 y1 y2 y3 => μ (y0, y1, y2, y3), h0, fun y0 y1 y2 y3 hy => hs (y0, y1, y2, y3) hy⟩⟩
set_option maxHeartbeats 1000000 in
theorem d_e_Sc_blocksTogether_4 {U : ut} {u : Nat} {x1 : Nat} {x2 : Int32} {x3 : Int32} {S : cs} {K : Int32 → cs → Prop} (h : e_Sc_blocksTogether_4 U u x1 x2 x3 S K) {Q : Prop} (k_K : ∀ (a0 : Int32) (a1 : cs), K a0 a1 → (∀ (K' : Int32 → cs → Prop), e_Sc_blocksTogether_4 U u x1 x2 x3 S K' ↔ K' a0 a1) → Q) : Q := by
  obtain ⟨o, ho, hoc, hi⟩ := lp_det (C := (Int32 → cs → Prop)) (b := (fun (y : (Nat) × (Int32) × (Int32) × (cs)) (R : ((Nat) × (Int32) × (Int32) × (cs)) → Prop) (c : (Int32 → cs → Prop)) => b_Sc_blocksTogether_4 U u y.1 y.2.1 y.2.2.1 y.2.2.2 (fun z0 z1 z2 z3 => R (z0, z1, z2, z3)) c)) (O := (fun (o : ((Int32 → cs → Prop)) → Prop) => (∃ (a0 : Int32) (a1 : cs), o = fun c => c a0 a1))) (fun y R c hy => d_b_Sc_blocksTogether_4 hy (fun a0 a1 a2 a3 ha ia => Or.inl ⟨(a0, a1, a2, a3), ha, fun R' c' => ia (fun z0 z1 z2 z3 => R' (z0, z1, z2, z3)) c'⟩) (fun a0 a1 ha ia => Or.inr ⟨(fun c => c a0 a1), ⟨a0, a1, rfl⟩, ha, fun R' c' => ia (fun z0 z1 z2 z3 => R' (z0, z1, z2, z3)) c'⟩)) (l_e_Sc_blocksTogether_4.mp h)
  rcases ho with ⟨a0, a1, rfl⟩
  · exact k_K _ _ hoc (fun K' => Iff.trans l_e_Sc_blocksTogether_4 (hi K'))
theorem v_e_Sc_blocksTogether_4 {U : ut} {u : Nat} {x1 : Nat} {x2 : Int32} {x3 : Int32} {S : cs} {K : Int32 → cs → Prop} (h : e_Sc_blocksTogether_4 U u x1 x2 x3 S K) {G : Prop} (Inv : Int32 → Int32 → cs → Prop) (h0 : Inv x2 x3 S) (hs : ∀ (yx2 : Int32) (yx3 : Int32) (yS : cs) (R : Nat → Int32 → Int32 → cs → Prop), Inv yx2 yx3 yS → b_Sc_blocksTogether_4 U u x1 yx2 yx3 yS R K → (∃ (zx2 : Int32) (zx3 : Int32) (zS : cs), R x1 zx2 zx3 zS ∧ Inv zx2 zx3 zS) ∨ G) : G := by
  obtain ⟨I, μ, i0, is⟩ := h
  have go : ∀ (n : Nat) (yx2 : Int32) (yx3 : Int32) (yS : cs), μ x1 yx2 yx3 yS < n → I x1 yx2 yx3 yS → Inv yx2 yx3 yS → G := by
    intro n
    induction n with
    | zero => intro yx2 yx3 yS hy; exact absurd hy (Nat.not_lt_zero _)
    | succ n ih =>
      intro yx2 yx3 yS hy hI hV
      rcases hs yx2 yx3 yS _ hV (is x1 yx2 yx3 yS hI) with ⟨zx2, zx3, zS, ⟨hz, hm⟩, hv⟩ | g
      · exact ih zx2 zx3 zS (Nat.lt_of_lt_of_le hm (Nat.le_of_lt_succ hy)) hz hv
      · exact g
  exact go _ x2 x3 S (Nat.lt_succ_self _) i0 h0
theorem r_e_Sc_blocksTogether_4 {U : ut} {u : Nat} {x1 : Nat} {x2 : Int32} {x3 : Int32} {S : cs} {K : Int32 → cs → Prop} (h : e_Sc_blocksTogether_4 U u x1 x2 x3 S K) : b_Sc_blocksTogether_4 U u x1 x2 x3 S (fun zx1 zx2 zx3 zS => e_Sc_blocksTogether_4 U u zx1 zx2 zx3 zS K) K := by
  obtain ⟨I, μ, i0, is⟩ := h
  exact d_b_Sc_blocksTogether_4 (is x1 x2 x3 S i0) (fun a0 a1 a2 a3 ha ia => (ia _ _).mpr ⟨I, μ, ha.1, is⟩) (fun a0 a1 ha ia => (ia _ _).mpr ha)
set_option maxHeartbeats 1000000 in
theorem d_p_Sc_blocksTogether {U : ut} {u : Nat} {x1 : Nat} {S : cs} {K : Int32 → cs → Prop} (h : p_Sc_blocksTogether U u x1 S K) {Q : Prop} (k_K : ∀ (a0 : Int32) (a1 : cs), K a0 a1 → (∀ (K' : Int32 → cs → Prop), p_Sc_blocksTogether U u x1 S K' ↔ K' a0 a1) → Q) : Q := by
  unfold p_Sc_blocksTogether at h
  exact d_e_Sc_blocksTogether_4 h (fun a0 a1 h_2 i_1 => k_K a0 a1 h_2 (fun _ => i_1 _))
set_option maxHeartbeats 1000000 in
theorem d_b_Sc_addStretch_38 {U : ut} {u : Nat} {x1 : Nat} {x2 : Int32} {x5 : Int32} {x6 : Int32} {x7 : Int32} {x8 : Int32} {S : cs} {R24 : Nat → Int32 → Int32 → Int32 → Int32 → cs → Prop} {R38 : Nat → Int32 → Int32 → Int32 → Int32 → Int32 → cs → Prop} {K : cs → Prop} (h : b_Sc_addStretch_38 U u x1 x2 x5 x6 x7 x8 S R24 R38 K) {Q : Prop} (k_R24 : ∀ (a0 : Nat) (a1 : Int32) (a2 : Int32) (a3 : Int32) (a4 : Int32) (a5 : cs), R24 a0 a1 a2 a3 a4 a5 → (∀ (R24' : Nat → Int32 → Int32 → Int32 → Int32 → cs → Prop) (R38' : Nat → Int32 → Int32 → Int32 → Int32 → Int32 → cs → Prop) (K' : cs → Prop), b_Sc_addStretch_38 U u x1 x2 x5 x6 x7 x8 S R24' R38' K' ↔ R24' a0 a1 a2 a3 a4 a5) → Q) (k_R38 : ∀ (a0 : Nat) (a1 : Int32) (a2 : Int32) (a3 : Int32) (a4 : Int32) (a5 : Int32) (a6 : cs), R38 a0 a1 a2 a3 a4 a5 a6 → (∀ (R24' : Nat → Int32 → Int32 → Int32 → Int32 → cs → Prop) (R38' : Nat → Int32 → Int32 → Int32 → Int32 → Int32 → cs → Prop) (K' : cs → Prop), b_Sc_addStretch_38 U u x1 x2 x5 x6 x7 x8 S R24' R38' K' ↔ R38' a0 a1 a2 a3 a4 a5 a6) → Q) (k_K : ∀ (a0 : cs), K a0 → (∀ (R24' : Nat → Int32 → Int32 → Int32 → Int32 → cs → Prop) (R38' : Nat → Int32 → Int32 → Int32 → Int32 → Int32 → cs → Prop) (K' : cs → Prop), b_Sc_addStretch_38 U u x1 x2 x5 x6 x7 x8 S R24' R38' K' ↔ K' a0) → Q) : Q := by
  unfold b_Sc_addStretch_38 at h
  refine dt_p (And.right (And.right (And.right (And.right h)))) (fun c_1 h_2 => ?_) (fun c_1 h_2 => ?_)
  ·
    exact k_R24 _ _ _ _ _ _ h_2 (fun _ _ _ => Iff.trans (dt_a (And.left h)) (Iff.trans (dt_a (And.left (And.right h))) (Iff.trans (dt_a (And.left (And.right (And.right h)))) (Iff.trans (dt_a (And.left (And.right (And.right (And.right h))))) (dt_1 c_1 (fun n => n c_1))))))
  ·
    refine d_p_Sc_addBlock (And.right (And.right (And.right h_2))) (fun S69 h_4 i_3 => ?_)
    exact k_R38 _ _ _ _ _ _ _ h_4 (fun _ _ _ => Iff.trans (dt_a (And.left h)) (Iff.trans (dt_a (And.left (And.right h))) (Iff.trans (dt_a (And.left (And.right (And.right h)))) (Iff.trans (dt_a (And.left (And.right (And.right (And.right h))))) (Iff.trans (dt_2 c_1 c_1) (Iff.trans (dt_a (And.left h_2)) (Iff.trans (dt_a (And.left (And.right h_2))) (Iff.trans (dt_a (And.left (And.right (And.right h_2)))) (i_3 _)))))))))
theorem l_e_Sc_addStretch_38 {U : ut} {u : Nat} {x1 : Nat} {x2 : Int32} {x5 : Int32} {x6 : Int32} {x7 : Int32} {x8 : Int32} {S : cs} {R24 : Nat → Int32 → Int32 → Int32 → Int32 → cs → Prop} {K : cs → Prop} : e_Sc_addStretch_38 U u x1 x2 x5 x6 x7 x8 S R24 K ↔ lpE (C := (Nat → Int32 → Int32 → Int32 → Int32 → cs → Prop) × (cs → Prop)) (fun (y : (Nat) × (Int32) × (Int32) × (Int32) × (Int32) × (Int32) × (cs)) (R : ((Nat) × (Int32) × (Int32) × (Int32) × (Int32) × (Int32) × (cs)) → Prop) (c : (Nat → Int32 → Int32 → Int32 → Int32 → cs → Prop) × (cs → Prop)) => b_Sc_addStretch_38 U u y.1 y.2.1 y.2.2.1 y.2.2.2.1 y.2.2.2.2.1 y.2.2.2.2.2.1 y.2.2.2.2.2.2 c.1 (fun z0 z1 z2 z3 z4 z5 z6 => R (z0, z1, z2, z3, z4, z5, z6)) c.2) (x1, x2, x5, x6, x7, x8, S) (R24, K) :=
  ⟨fun ⟨I, μ, h0, hs⟩ => ⟨fun t => I t.1 t.2.1 t.2.2.1 t.2.2.2.1 t.2.2.2.2.1 t.2.2.2.2.2.1 t.2.2.2.2.2.2, fun t => μ t.1 t.2.1 t.2.2.1 t.2.2.2.1 t.2.2.2.2.1 t.2.2.2.2.2.1 t.2.2.2.2.2.2, h0, fun t ht => hs _ _ _ _ _ _ _ ht⟩, fun ⟨I, μ, h0, hs⟩ => ⟨fun y0 y1 y2 y3 y4 y5 y6 => I (y0, y1, y2, y3, y4, y5, y6), fun y0 y1 y2 y3 y4 y5 y6 => μ (y0, y1, y2, y3, y4, y5, y6), h0, fun y0 y1 y2 y3 y4 y5 y6 hy => hs (y0, y1, y2, y3, y4, y5, y6) hy⟩⟩
set_option maxHeartbeats 1000000 in
theorem d_e_Sc_addStretch_38 {U : ut} {u : Nat} {x1 : Nat} {x2 : Int32} {x5 : Int32} {x6 : Int32} {x7 : Int32} {x8 : Int32} {S : cs} {R24 : Nat → Int32 → Int32 → Int32 → Int32 → cs → Prop} {K : cs → Prop} (h : e_Sc_addStretch_38 U u x1 x2 x5 x6 x7 x8 S R24 K) {Q : Prop} (k_R24 : ∀ (a0 : Nat) (a1 : Int32) (a2 : Int32) (a3 : Int32) (a4 : Int32) (a5 : cs), R24 a0 a1 a2 a3 a4 a5 → (∀ (R24' : Nat → Int32 → Int32 → Int32 → Int32 → cs → Prop) (K' : cs → Prop), e_Sc_addStretch_38 U u x1 x2 x5 x6 x7 x8 S R24' K' ↔ R24' a0 a1 a2 a3 a4 a5) → Q) (k_K : ∀ (a0 : cs), K a0 → (∀ (R24' : Nat → Int32 → Int32 → Int32 → Int32 → cs → Prop) (K' : cs → Prop), e_Sc_addStretch_38 U u x1 x2 x5 x6 x7 x8 S R24' K' ↔ K' a0) → Q) : Q := by
  obtain ⟨o, ho, hoc, hi⟩ := lp_det (C := (Nat → Int32 → Int32 → Int32 → Int32 → cs → Prop) × (cs → Prop)) (b := (fun (y : (Nat) × (Int32) × (Int32) × (Int32) × (Int32) × (Int32) × (cs)) (R : ((Nat) × (Int32) × (Int32) × (Int32) × (Int32) × (Int32) × (cs)) → Prop) (c : (Nat → Int32 → Int32 → Int32 → Int32 → cs → Prop) × (cs → Prop)) => b_Sc_addStretch_38 U u y.1 y.2.1 y.2.2.1 y.2.2.2.1 y.2.2.2.2.1 y.2.2.2.2.2.1 y.2.2.2.2.2.2 c.1 (fun z0 z1 z2 z3 z4 z5 z6 => R (z0, z1, z2, z3, z4, z5, z6)) c.2)) (O := (fun (o : ((Nat → Int32 → Int32 → Int32 → Int32 → cs → Prop) × (cs → Prop)) → Prop) => (∃ (a0 : Nat) (a1 : Int32) (a2 : Int32) (a3 : Int32) (a4 : Int32) (a5 : cs), o = fun c => c.1 a0 a1 a2 a3 a4 a5) ∨ (∃ (a0 : cs), o = fun c => c.2 a0))) (fun y R c hy => d_b_Sc_addStretch_38 hy (fun a0 a1 a2 a3 a4 a5 ha ia => Or.inr ⟨(fun c => c.1 a0 a1 a2 a3 a4 a5), Or.inl ⟨a0, a1, a2, a3, a4, a5, rfl⟩, ha, fun R' c' => ia c'.1 (fun z0 z1 z2 z3 z4 z5 z6 => R' (z0, z1, z2, z3, z4, z5, z6)) c'.2⟩) (fun a0 a1 a2 a3 a4 a5 a6 ha ia => Or.inl ⟨(a0, a1, a2, a3, a4, a5, a6), ha, fun R' c' => ia c'.1 (fun z0 z1 z2 z3 z4 z5 z6 => R' (z0, z1, z2, z3, z4, z5, z6)) c'.2⟩) (fun a0 ha ia => Or.inr ⟨(fun c => c.2 a0), Or.inr (⟨a0, rfl⟩), ha, fun R' c' => ia c'.1 (fun z0 z1 z2 z3 z4 z5 z6 => R' (z0, z1, z2, z3, z4, z5, z6)) c'.2⟩)) (l_e_Sc_addStretch_38.mp h)
  rcases ho with ⟨a0, a1, a2, a3, a4, a5, rfl⟩ | ⟨a0, rfl⟩
  · exact k_R24 _ _ _ _ _ _ hoc (fun R24' K' => Iff.trans l_e_Sc_addStretch_38 (hi (R24', K')))
  · exact k_K _ hoc (fun R24' K' => Iff.trans l_e_Sc_addStretch_38 (hi (R24', K')))
theorem v_e_Sc_addStretch_38 {U : ut} {u : Nat} {x1 : Nat} {x2 : Int32} {x5 : Int32} {x6 : Int32} {x7 : Int32} {x8 : Int32} {S : cs} {R24 : Nat → Int32 → Int32 → Int32 → Int32 → cs → Prop} {K : cs → Prop} (h : e_Sc_addStretch_38 U u x1 x2 x5 x6 x7 x8 S R24 K) {G : Prop} (Inv : Int32 → cs → Prop) (h0 : Inv x8 S) (hs : ∀ (yx8 : Int32) (yS : cs) (R : Nat → Int32 → Int32 → Int32 → Int32 → Int32 → cs → Prop), Inv yx8 yS → b_Sc_addStretch_38 U u x1 x2 x5 x6 x7 yx8 yS R24 R K → (∃ (zx8 : Int32) (zS : cs), R x1 x2 x5 x6 x7 zx8 zS ∧ Inv zx8 zS) ∨ G) : G := by
  obtain ⟨I, μ, i0, is⟩ := h
  have go : ∀ (n : Nat) (yx8 : Int32) (yS : cs), μ x1 x2 x5 x6 x7 yx8 yS < n → I x1 x2 x5 x6 x7 yx8 yS → Inv yx8 yS → G := by
    intro n
    induction n with
    | zero => intro yx8 yS hy; exact absurd hy (Nat.not_lt_zero _)
    | succ n ih =>
      intro yx8 yS hy hI hV
      rcases hs yx8 yS _ hV (is x1 x2 x5 x6 x7 yx8 yS hI) with ⟨zx8, zS, ⟨hz, hm⟩, hv⟩ | g
      · exact ih zx8 zS (Nat.lt_of_lt_of_le hm (Nat.le_of_lt_succ hy)) hz hv
      · exact g
  exact go _ x8 S (Nat.lt_succ_self _) i0 h0
theorem r_e_Sc_addStretch_38 {U : ut} {u : Nat} {x1 : Nat} {x2 : Int32} {x5 : Int32} {x6 : Int32} {x7 : Int32} {x8 : Int32} {S : cs} {R24 : Nat → Int32 → Int32 → Int32 → Int32 → cs → Prop} {K : cs → Prop} (h : e_Sc_addStretch_38 U u x1 x2 x5 x6 x7 x8 S R24 K) : b_Sc_addStretch_38 U u x1 x2 x5 x6 x7 x8 S R24 (fun zx1 zx2 zx5 zx6 zx7 zx8 zS => e_Sc_addStretch_38 U u zx1 zx2 zx5 zx6 zx7 zx8 zS R24 K) K := by
  obtain ⟨I, μ, i0, is⟩ := h
  exact d_b_Sc_addStretch_38 (is x1 x2 x5 x6 x7 x8 S i0) (fun a0 a1 a2 a3 a4 a5 ha ia => (ia _ _ _).mpr ha) (fun a0 a1 a2 a3 a4 a5 a6 ha ia => (ia _ _ _).mpr ⟨I, μ, ha.1, is⟩) (fun a0 ha ia => (ia _ _ _).mpr ha)
set_option maxHeartbeats 1000000 in
theorem d_b_Sc_addStretch_24 {U : ut} {u : Nat} {x1 : Nat} {x2 : Int32} {x5 : Int32} {x6 : Int32} {x7 : Int32} {S : cs} {R24 : Nat → Int32 → Int32 → Int32 → Int32 → cs → Prop} {K : cs → Prop} (h : b_Sc_addStretch_24 U u x1 x2 x5 x6 x7 S R24 K) {Q : Prop} (k_R24 : ∀ (a0 : Nat) (a1 : Int32) (a2 : Int32) (a3 : Int32) (a4 : Int32) (a5 : cs), R24 a0 a1 a2 a3 a4 a5 → (∀ (R24' : Nat → Int32 → Int32 → Int32 → Int32 → cs → Prop) (K' : cs → Prop), b_Sc_addStretch_24 U u x1 x2 x5 x6 x7 S R24' K' ↔ R24' a0 a1 a2 a3 a4 a5) → Q) (k_K : ∀ (a0 : cs), K a0 → (∀ (R24' : Nat → Int32 → Int32 → Int32 → Int32 → cs → Prop) (K' : cs → Prop), b_Sc_addStretch_24 U u x1 x2 x5 x6 x7 S R24' K' ↔ K' a0) → Q) : Q := by
  unfold b_Sc_addStretch_24 at h
  refine dt_p (And.right (And.right (And.right (And.right h)))) (fun c_1 h_2 => ?_) (fun c_1 h_2 => ?_)
  ·
    exact k_K _ h_2 (fun _ _ => Iff.trans (dt_a (And.left h)) (Iff.trans (dt_a (And.left (And.right h))) (Iff.trans (dt_a (And.left (And.right (And.right h)))) (Iff.trans (dt_a (And.left (And.right (And.right (And.right h))))) (dt_1 c_1 (fun n => n c_1))))))
  ·
    exact d_e_Sc_addStretch_38 h_2 (fun a0 a1 a2 a3 a4 a5 h_4 i_3 => k_R24 a0 a1 a2 a3 a4 a5 h_4 (fun _ _ => Iff.trans (dt_a (And.left h)) (Iff.trans (dt_a (And.left (And.right h))) (Iff.trans (dt_a (And.left (And.right (And.right h)))) (Iff.trans (dt_a (And.left (And.right (And.right (And.right h))))) (Iff.trans (dt_2 c_1 c_1) (i_3 _ _))))))) (fun a0 h_6 i_5 => k_K a0 h_6 (fun _ _ => Iff.trans (dt_a (And.left h)) (Iff.trans (dt_a (And.left (And.right h))) (Iff.trans (dt_a (And.left (And.right (And.right h)))) (Iff.trans (dt_a (And.left (And.right (And.right (And.right h))))) (Iff.trans (dt_2 c_1 c_1) (i_5 _ _)))))))
theorem l_e_Sc_addStretch_24 {U : ut} {u : Nat} {x1 : Nat} {x2 : Int32} {x5 : Int32} {x6 : Int32} {x7 : Int32} {S : cs} {K : cs → Prop} : e_Sc_addStretch_24 U u x1 x2 x5 x6 x7 S K ↔ lpE (C := (cs → Prop)) (fun (y : (Nat) × (Int32) × (Int32) × (Int32) × (Int32) × (cs)) (R : ((Nat) × (Int32) × (Int32) × (Int32) × (Int32) × (cs)) → Prop) (c : (cs → Prop)) => b_Sc_addStretch_24 U u y.1 y.2.1 y.2.2.1 y.2.2.2.1 y.2.2.2.2.1 y.2.2.2.2.2 (fun z0 z1 z2 z3 z4 z5 => R (z0, z1, z2, z3, z4, z5)) c) (x1, x2, x5, x6, x7, S) K :=
  ⟨fun ⟨I, μ, h0, hs⟩ => ⟨fun t => I t.1 t.2.1 t.2.2.1 t.2.2.2.1 t.2.2.2.2.1 t.2.2.2.2.2, fun t => μ t.1 t.2.1 t.2.2.1 t.2.2.2.1 t.2.2.2.2.1 t.2.2.2.2.2, h0, fun t ht => hs _ _ _ _ _ _ ht⟩, fun ⟨I, μ, h0, hs⟩ => ⟨fun y0 y1 y2 y3 y4 y5 => I (y0, y1, y2, y3, y4, y5), fun y0 y1 y2 y3 y4 y5 => μ (y0, y1, y2, y3, y4, y5), h0, fun y0 y1 y2 y3 y4 y5 hy => hs (y0, y1, y2, y3, y4, y5) hy⟩⟩
set_option maxHeartbeats 1000000 in
theorem d_e_Sc_addStretch_24 {U : ut} {u : Nat} {x1 : Nat} {x2 : Int32} {x5 : Int32} {x6 : Int32} {x7 : Int32} {S : cs} {K : cs → Prop} (h : e_Sc_addStretch_24 U u x1 x2 x5 x6 x7 S K) {Q : Prop} (k_K : ∀ (a0 : cs), K a0 → (∀ (K' : cs → Prop), e_Sc_addStretch_24 U u x1 x2 x5 x6 x7 S K' ↔ K' a0) → Q) : Q := by
  obtain ⟨o, ho, hoc, hi⟩ := lp_det (C := (cs → Prop)) (b := (fun (y : (Nat) × (Int32) × (Int32) × (Int32) × (Int32) × (cs)) (R : ((Nat) × (Int32) × (Int32) × (Int32) × (Int32) × (cs)) → Prop) (c : (cs → Prop)) => b_Sc_addStretch_24 U u y.1 y.2.1 y.2.2.1 y.2.2.2.1 y.2.2.2.2.1 y.2.2.2.2.2 (fun z0 z1 z2 z3 z4 z5 => R (z0, z1, z2, z3, z4, z5)) c)) (O := (fun (o : ((cs → Prop)) → Prop) => (∃ (a0 : cs), o = fun c => c a0))) (fun y R c hy => d_b_Sc_addStretch_24 hy (fun a0 a1 a2 a3 a4 a5 ha ia => Or.inl ⟨(a0, a1, a2, a3, a4, a5), ha, fun R' c' => ia (fun z0 z1 z2 z3 z4 z5 => R' (z0, z1, z2, z3, z4, z5)) c'⟩) (fun a0 ha ia => Or.inr ⟨(fun c => c a0), ⟨a0, rfl⟩, ha, fun R' c' => ia (fun z0 z1 z2 z3 z4 z5 => R' (z0, z1, z2, z3, z4, z5)) c'⟩)) (l_e_Sc_addStretch_24.mp h)
  rcases ho with ⟨a0, rfl⟩
  · exact k_K _ hoc (fun K' => Iff.trans l_e_Sc_addStretch_24 (hi K'))
theorem v_e_Sc_addStretch_24 {U : ut} {u : Nat} {x1 : Nat} {x2 : Int32} {x5 : Int32} {x6 : Int32} {x7 : Int32} {S : cs} {K : cs → Prop} (h : e_Sc_addStretch_24 U u x1 x2 x5 x6 x7 S K) {G : Prop} (Inv : Int32 → cs → Prop) (h0 : Inv x7 S) (hs : ∀ (yx7 : Int32) (yS : cs) (R : Nat → Int32 → Int32 → Int32 → Int32 → cs → Prop), Inv yx7 yS → b_Sc_addStretch_24 U u x1 x2 x5 x6 yx7 yS R K → (∃ (zx7 : Int32) (zS : cs), R x1 x2 x5 x6 zx7 zS ∧ Inv zx7 zS) ∨ G) : G := by
  obtain ⟨I, μ, i0, is⟩ := h
  have go : ∀ (n : Nat) (yx7 : Int32) (yS : cs), μ x1 x2 x5 x6 yx7 yS < n → I x1 x2 x5 x6 yx7 yS → Inv yx7 yS → G := by
    intro n
    induction n with
    | zero => intro yx7 yS hy; exact absurd hy (Nat.not_lt_zero _)
    | succ n ih =>
      intro yx7 yS hy hI hV
      rcases hs yx7 yS _ hV (is x1 x2 x5 x6 yx7 yS hI) with ⟨zx7, zS, ⟨hz, hm⟩, hv⟩ | g
      · exact ih zx7 zS (Nat.lt_of_lt_of_le hm (Nat.le_of_lt_succ hy)) hz hv
      · exact g
  exact go _ x7 S (Nat.lt_succ_self _) i0 h0
theorem r_e_Sc_addStretch_24 {U : ut} {u : Nat} {x1 : Nat} {x2 : Int32} {x5 : Int32} {x6 : Int32} {x7 : Int32} {S : cs} {K : cs → Prop} (h : e_Sc_addStretch_24 U u x1 x2 x5 x6 x7 S K) : b_Sc_addStretch_24 U u x1 x2 x5 x6 x7 S (fun zx1 zx2 zx5 zx6 zx7 zS => e_Sc_addStretch_24 U u zx1 zx2 zx5 zx6 zx7 zS K) K := by
  obtain ⟨I, μ, i0, is⟩ := h
  exact d_b_Sc_addStretch_24 (is x1 x2 x5 x6 x7 S i0) (fun a0 a1 a2 a3 a4 a5 ha ia => (ia _ _).mpr ⟨I, μ, ha.1, is⟩) (fun a0 ha ia => (ia _ _).mpr ha)
set_option maxHeartbeats 1000000 in
theorem d_p_Sc_addStretch {U : ut} {u : Nat} {x1 : Nat} {x2 : Int32} {x3 : Int32} {x4 : Int32} {S : cs} {K : cs → Prop} (h : p_Sc_addStretch U u x1 x2 x3 x4 S K) {Q : Prop} (k_K : ∀ (a0 : cs), K a0 → (∀ (K' : cs → Prop), p_Sc_addStretch U u x1 x2 x3 x4 S K' ↔ K' a0) → Q) : Q := by
  unfold p_Sc_addStretch at h
  exact d_e_Sc_addStretch_24 (And.right (And.right (And.right (And.right (And.right (And.right (And.right h))))))) (fun a0 h_2 i_1 => k_K a0 h_2 (fun _ => Iff.trans (dt_a (And.left h)) (Iff.trans (dt_a (And.left (And.right h))) (Iff.trans (dt_a (And.left (And.right (And.right h)))) (Iff.trans (dt_a (And.left (And.right (And.right (And.right h))))) (Iff.trans (dt_a (And.left (And.right (And.right (And.right (And.right h)))))) (Iff.trans (dt_a (And.left (And.right (And.right (And.right (And.right (And.right h))))))) (Iff.trans (dt_a (And.left (And.right (And.right (And.right (And.right (And.right (And.right h)))))))) (i_1 _)))))))))
set_option maxHeartbeats 1000000 in
theorem d_b_Sc_arrangeTogether_23 {U : ut} {u : Nat} {x1 : Nat} {x2 : Int32} {x3 : Int32} {x4 : Int32} {S : cs} {R2 : Nat → Int32 → cs → Prop} {R12 : Nat → Int32 → Int32 → cs → Prop} {R23 : Nat → Int32 → Int32 → Int32 → cs → Prop} {K : cs → Prop} (h : b_Sc_arrangeTogether_23 U u x1 x2 x3 x4 S R2 R12 R23 K) {Q : Prop} (k_R2 : ∀ (a0 : Nat) (a1 : Int32) (a2 : cs), R2 a0 a1 a2 → (∀ (R2' : Nat → Int32 → cs → Prop) (R12' : Nat → Int32 → Int32 → cs → Prop) (R23' : Nat → Int32 → Int32 → Int32 → cs → Prop) (K' : cs → Prop), b_Sc_arrangeTogether_23 U u x1 x2 x3 x4 S R2' R12' R23' K' ↔ R2' a0 a1 a2) → Q) (k_R12 : ∀ (a0 : Nat) (a1 : Int32) (a2 : Int32) (a3 : cs), R12 a0 a1 a2 a3 → (∀ (R2' : Nat → Int32 → cs → Prop) (R12' : Nat → Int32 → Int32 → cs → Prop) (R23' : Nat → Int32 → Int32 → Int32 → cs → Prop) (K' : cs → Prop), b_Sc_arrangeTogether_23 U u x1 x2 x3 x4 S R2' R12' R23' K' ↔ R12' a0 a1 a2 a3) → Q) (k_R23 : ∀ (a0 : Nat) (a1 : Int32) (a2 : Int32) (a3 : Int32) (a4 : cs), R23 a0 a1 a2 a3 a4 → (∀ (R2' : Nat → Int32 → cs → Prop) (R12' : Nat → Int32 → Int32 → cs → Prop) (R23' : Nat → Int32 → Int32 → Int32 → cs → Prop) (K' : cs → Prop), b_Sc_arrangeTogether_23 U u x1 x2 x3 x4 S R2' R12' R23' K' ↔ R23' a0 a1 a2 a3 a4) → Q) (k_K : ∀ (a0 : cs), K a0 → (∀ (R2' : Nat → Int32 → cs → Prop) (R12' : Nat → Int32 → Int32 → cs → Prop) (R23' : Nat → Int32 → Int32 → Int32 → cs → Prop) (K' : cs → Prop), b_Sc_arrangeTogether_23 U u x1 x2 x3 x4 S R2' R12' R23' K' ↔ K' a0) → Q) : Q := by
  unfold b_Sc_arrangeTogether_23 at h
  refine dt_p h (fun c_1 h_2 => ?_) (fun c_1 h_2 => ?_)
  ·
    exact k_R12 _ _ _ _ h_2 (fun _ _ _ _ => dt_1 c_1 (fun n => n c_1))
  ·
    refine d_p_Sc_addStretch (And.right (And.right (And.right h_2))) (fun S43 h_4 i_3 => ?_)
    exact k_R23 _ _ _ _ _ h_4 (fun _ _ _ _ => Iff.trans (dt_2 c_1 c_1) (Iff.trans (dt_a (And.left h_2)) (Iff.trans (dt_a (And.left (And.right h_2))) (Iff.trans (dt_a (And.left (And.right (And.right h_2)))) (i_3 _)))))
theorem l_e_Sc_arrangeTogether_23 {U : ut} {u : Nat} {x1 : Nat} {x2 : Int32} {x3 : Int32} {x4 : Int32} {S : cs} {R2 : Nat → Int32 → cs → Prop} {R12 : Nat → Int32 → Int32 → cs → Prop} {K : cs → Prop} : e_Sc_arrangeTogether_23 U u x1 x2 x3 x4 S R2 R12 K ↔ lpE (C := (Nat → Int32 → cs → Prop) × (Nat → Int32 → Int32 → cs → Prop) × (cs → Prop)) (fun (y : (Nat) × (Int32) × (Int32) × (Int32) × (cs)) (R : ((Nat) × (Int32) × (Int32) × (Int32) × (cs)) → Prop) (c : (Nat → Int32 → cs → Prop) × (Nat → Int32 → Int32 → cs → Prop) × (cs → Prop)) => b_Sc_arrangeTogether_23 U u y.1 y.2.1 y.2.2.1 y.2.2.2.1 y.2.2.2.2 c.1 c.2.1 (fun z0 z1 z2 z3 z4 => R (z0, z1, z2, z3, z4)) c.2.2) (x1, x2, x3, x4, S) (R2, R12, K) :=
  ⟨fun ⟨I, μ, h0, hs⟩ => ⟨fun t => I t.1 t.2.1 t.2.2.1 t.2.2.2.1 t.2.2.2.2, fun t => μ t.1 t.2.1 t.2.2.1 t.2.2.2.1 t.2.2.2.2, h0, fun t ht => hs _ _ _ _ _ ht⟩, fun ⟨I, μ, h0, hs⟩ => ⟨fun y0 y1 y2 y3 y4 => I (y0, y1, y2, y3, y4), fun y0 y1 y2 y3 y4 => μ (y0, y1, y2, y3, y4), h0, fun y0 y1 y2 y3 y4 hy => hs (y0, y1, y2, y3, y4) hy⟩⟩
set_option maxHeartbeats 1000000 in
theorem d_e_Sc_arrangeTogether_23 {U : ut} {u : Nat} {x1 : Nat} {x2 : Int32} {x3 : Int32} {x4 : Int32} {S : cs} {R2 : Nat → Int32 → cs → Prop} {R12 : Nat → Int32 → Int32 → cs → Prop} {K : cs → Prop} (h : e_Sc_arrangeTogether_23 U u x1 x2 x3 x4 S R2 R12 K) {Q : Prop} (k_R2 : ∀ (a0 : Nat) (a1 : Int32) (a2 : cs), R2 a0 a1 a2 → (∀ (R2' : Nat → Int32 → cs → Prop) (R12' : Nat → Int32 → Int32 → cs → Prop) (K' : cs → Prop), e_Sc_arrangeTogether_23 U u x1 x2 x3 x4 S R2' R12' K' ↔ R2' a0 a1 a2) → Q) (k_R12 : ∀ (a0 : Nat) (a1 : Int32) (a2 : Int32) (a3 : cs), R12 a0 a1 a2 a3 → (∀ (R2' : Nat → Int32 → cs → Prop) (R12' : Nat → Int32 → Int32 → cs → Prop) (K' : cs → Prop), e_Sc_arrangeTogether_23 U u x1 x2 x3 x4 S R2' R12' K' ↔ R12' a0 a1 a2 a3) → Q) (k_K : ∀ (a0 : cs), K a0 → (∀ (R2' : Nat → Int32 → cs → Prop) (R12' : Nat → Int32 → Int32 → cs → Prop) (K' : cs → Prop), e_Sc_arrangeTogether_23 U u x1 x2 x3 x4 S R2' R12' K' ↔ K' a0) → Q) : Q := by
  obtain ⟨o, ho, hoc, hi⟩ := lp_det (C := (Nat → Int32 → cs → Prop) × (Nat → Int32 → Int32 → cs → Prop) × (cs → Prop)) (b := (fun (y : (Nat) × (Int32) × (Int32) × (Int32) × (cs)) (R : ((Nat) × (Int32) × (Int32) × (Int32) × (cs)) → Prop) (c : (Nat → Int32 → cs → Prop) × (Nat → Int32 → Int32 → cs → Prop) × (cs → Prop)) => b_Sc_arrangeTogether_23 U u y.1 y.2.1 y.2.2.1 y.2.2.2.1 y.2.2.2.2 c.1 c.2.1 (fun z0 z1 z2 z3 z4 => R (z0, z1, z2, z3, z4)) c.2.2)) (O := (fun (o : ((Nat → Int32 → cs → Prop) × (Nat → Int32 → Int32 → cs → Prop) × (cs → Prop)) → Prop) => (∃ (a0 : Nat) (a1 : Int32) (a2 : cs), o = fun c => c.1 a0 a1 a2) ∨ (∃ (a0 : Nat) (a1 : Int32) (a2 : Int32) (a3 : cs), o = fun c => c.2.1 a0 a1 a2 a3) ∨ (∃ (a0 : cs), o = fun c => c.2.2 a0))) (fun y R c hy => d_b_Sc_arrangeTogether_23 hy (fun a0 a1 a2 ha ia => Or.inr ⟨(fun c => c.1 a0 a1 a2), Or.inl ⟨a0, a1, a2, rfl⟩, ha, fun R' c' => ia c'.1 c'.2.1 (fun z0 z1 z2 z3 z4 => R' (z0, z1, z2, z3, z4)) c'.2.2⟩) (fun a0 a1 a2 a3 ha ia => Or.inr ⟨(fun c => c.2.1 a0 a1 a2 a3), Or.inr (Or.inl ⟨a0, a1, a2, a3, rfl⟩), ha, fun R' c' => ia c'.1 c'.2.1 (fun z0 z1 z2 z3 z4 => R' (z0, z1, z2, z3, z4)) c'.2.2⟩) (fun a0 a1 a2 a3 a4 ha ia => Or.inl ⟨(a0, a1, a2, a3, a4), ha, fun R' c' => ia c'.1 c'.2.1 (fun z0 z1 z2 z3 z4 => R' (z0, z1, z2, z3, z4)) c'.2.2⟩) (fun a0 ha ia => Or.inr ⟨(fun c => c.2.2 a0), Or.inr (Or.inr (⟨a0, rfl⟩)), ha, fun R' c' => ia c'.1 c'.2.1 (fun z0 z1 z2 z3 z4 => R' (z0, z1, z2, z3, z4)) c'.2.2⟩)) (l_e_Sc_arrangeTogether_23.mp h)
  rcases ho with ⟨a0, a1, a2, rfl⟩ | ⟨a0, a1, a2, a3, rfl⟩ | ⟨a0, rfl⟩
  · exact k_R2 _ _ _ hoc (fun R2' R12' K' => Iff.trans l_e_Sc_arrangeTogether_23 (hi (R2', R12', K')))
  · exact k_R12 _ _ _ _ hoc (fun R2' R12' K' => Iff.trans l_e_Sc_arrangeTogether_23 (hi (R2', R12', K')))
  · exact k_K _ hoc (fun R2' R12' K' => Iff.trans l_e_Sc_arrangeTogether_23 (hi (R2', R12', K')))
theorem v_e_Sc_arrangeTogether_23 {U : ut} {u : Nat} {x1 : Nat} {x2 : Int32} {x3 : Int32} {x4 : Int32} {S : cs} {R2 : Nat → Int32 → cs → Prop} {R12 : Nat → Int32 → Int32 → cs → Prop} {K : cs → Prop} (h : e_Sc_arrangeTogether_23 U u x1 x2 x3 x4 S R2 R12 K) {G : Prop} (Inv : Int32 → cs → Prop) (h0 : Inv x4 S) (hs : ∀ (yx4 : Int32) (yS : cs) (R : Nat → Int32 → Int32 → Int32 → cs → Prop), Inv yx4 yS → b_Sc_arrangeTogether_23 U u x1 x2 x3 yx4 yS R2 R12 R K → (∃ (zx4 : Int32) (zS : cs), R x1 x2 x3 zx4 zS ∧ Inv zx4 zS) ∨ G) : G := by
  obtain ⟨I, μ, i0, is⟩ := h
  have go : ∀ (n : Nat) (yx4 : Int32) (yS : cs), μ x1 x2 x3 yx4 yS < n → I x1 x2 x3 yx4 yS → Inv yx4 yS → G := by
    intro n
    induction n with
    | zero => intro yx4 yS hy; exact absurd hy (Nat.not_lt_zero _)
    | succ n ih =>
      intro yx4 yS hy hI hV
      rcases hs yx4 yS _ hV (is x1 x2 x3 yx4 yS hI) with ⟨zx4, zS, ⟨hz, hm⟩, hv⟩ | g
      · exact ih zx4 zS (Nat.lt_of_lt_of_le hm (Nat.le_of_lt_succ hy)) hz hv
      · exact g
  exact go _ x4 S (Nat.lt_succ_self _) i0 h0
theorem r_e_Sc_arrangeTogether_23 {U : ut} {u : Nat} {x1 : Nat} {x2 : Int32} {x3 : Int32} {x4 : Int32} {S : cs} {R2 : Nat → Int32 → cs → Prop} {R12 : Nat → Int32 → Int32 → cs → Prop} {K : cs → Prop} (h : e_Sc_arrangeTogether_23 U u x1 x2 x3 x4 S R2 R12 K) : b_Sc_arrangeTogether_23 U u x1 x2 x3 x4 S R2 R12 (fun zx1 zx2 zx3 zx4 zS => e_Sc_arrangeTogether_23 U u zx1 zx2 zx3 zx4 zS R2 R12 K) K := by
  obtain ⟨I, μ, i0, is⟩ := h
  exact d_b_Sc_arrangeTogether_23 (is x1 x2 x3 x4 S i0) (fun a0 a1 a2 ha ia => (ia _ _ _ _).mpr ha) (fun a0 a1 a2 a3 ha ia => (ia _ _ _ _).mpr ha) (fun a0 a1 a2 a3 a4 ha ia => (ia _ _ _ _).mpr ⟨I, μ, ha.1, is⟩) (fun a0 ha ia => (ia _ _ _ _).mpr ha)
set_option maxHeartbeats 1000000 in
theorem d_b_Sc_arrangeTogether_12 {U : ut} {u : Nat} {x1 : Nat} {x2 : Int32} {x3 : Int32} {S : cs} {R2 : Nat → Int32 → cs → Prop} {R12 : Nat → Int32 → Int32 → cs → Prop} {K : cs → Prop} (h : b_Sc_arrangeTogether_12 U u x1 x2 x3 S R2 R12 K) {Q : Prop} (k_R2 : ∀ (a0 : Nat) (a1 : Int32) (a2 : cs), R2 a0 a1 a2 → (∀ (R2' : Nat → Int32 → cs → Prop) (R12' : Nat → Int32 → Int32 → cs → Prop) (K' : cs → Prop), b_Sc_arrangeTogether_12 U u x1 x2 x3 S R2' R12' K' ↔ R2' a0 a1 a2) → Q) (k_R12 : ∀ (a0 : Nat) (a1 : Int32) (a2 : Int32) (a3 : cs), R12 a0 a1 a2 a3 → (∀ (R2' : Nat → Int32 → cs → Prop) (R12' : Nat → Int32 → Int32 → cs → Prop) (K' : cs → Prop), b_Sc_arrangeTogether_12 U u x1 x2 x3 S R2' R12' K' ↔ R12' a0 a1 a2 a3) → Q) (k_K : ∀ (a0 : cs), K a0 → (∀ (R2' : Nat → Int32 → cs → Prop) (R12' : Nat → Int32 → Int32 → cs → Prop) (K' : cs → Prop), b_Sc_arrangeTogether_12 U u x1 x2 x3 S R2' R12' K' ↔ K' a0) → Q) : Q := by
  unfold b_Sc_arrangeTogether_12 at h
  refine dt_p (And.right h) (fun c_1 h_2 => ?_) (fun c_1 h_2 => ?_)
  ·
    exact k_R2 _ _ _ h_2 (fun _ _ _ => Iff.trans (dt_a (And.left h)) (dt_1 c_1 (fun n => n c_1)))
  ·
    exact d_e_Sc_arrangeTogether_23 h_2 (fun a0 a1 a2 h_4 i_3 => k_R2 a0 a1 a2 h_4 (fun _ _ _ => Iff.trans (dt_a (And.left h)) (Iff.trans (dt_2 c_1 c_1) (i_3 _ _ _)))) (fun a0 a1 a2 a3 h_6 i_5 => k_R12 a0 a1 a2 a3 h_6 (fun _ _ _ => Iff.trans (dt_a (And.left h)) (Iff.trans (dt_2 c_1 c_1) (i_5 _ _ _)))) (fun a0 h_8 i_7 => k_K a0 h_8 (fun _ _ _ => Iff.trans (dt_a (And.left h)) (Iff.trans (dt_2 c_1 c_1) (i_7 _ _ _))))
theorem l_e_Sc_arrangeTogether_12 {U : ut} {u : Nat} {x1 : Nat} {x2 : Int32} {x3 : Int32} {S : cs} {R2 : Nat → Int32 → cs → Prop} {K : cs → Prop} : e_Sc_arrangeTogether_12 U u x1 x2 x3 S R2 K ↔ lpE (C := (Nat → Int32 → cs → Prop) × (cs → Prop)) (fun (y : (Nat) × (Int32) × (Int32) × (cs)) (R : ((Nat) × (Int32) × (Int32) × (cs)) → Prop) (c : (Nat → Int32 → cs → Prop) × (cs → Prop)) => b_Sc_arrangeTogether_12 U u y.1 y.2.1 y.2.2.1 y.2.2.2 c.1 (fun z0 z1 z2 z3 => R (z0, z1, z2, z3)) c.2) (x1, x2, x3, S) (R2, K) :=
  ⟨fun ⟨I, μ, h0, hs⟩ => ⟨fun t => I t.1 t.2.1 t.2.2.1 t.2.2.2, fun t => μ t.1 t.2.1 t.2.2.1 t.2.2.2, h0, fun t ht => hs _ _ _ _ ht⟩, fun ⟨I, μ, h0, hs⟩ => ⟨fun y0 y1 y2 y3 => I (y0, y1, y2, y3), fun y0 y1 y2 y3 => μ (y0, y1, y2, y3), h0, fun y0 y1 y2 y3 hy => hs (y0, y1, y2, y3) hy⟩⟩
set_option maxHeartbeats 1000000 in
theorem d_e_Sc_arrangeTogether_12 {U : ut} {u : Nat} {x1 : Nat} {x2 : Int32} {x3 : Int32} {S : cs} {R2 : Nat → Int32 → cs → Prop} {K : cs → Prop} (h : e_Sc_arrangeTogether_12 U u x1 x2 x3 S R2 K) {Q : Prop} (k_R2 : ∀ (a0 : Nat) (a1 : Int32) (a2 : cs), R2 a0 a1 a2 → (∀ (R2' : Nat → Int32 → cs → Prop) (K' : cs → Prop), e_Sc_arrangeTogether_12 U u x1 x2 x3 S R2' K' ↔ R2' a0 a1 a2) → Q) (k_K : ∀ (a0 : cs), K a0 → (∀ (R2' : Nat → Int32 → cs → Prop) (K' : cs → Prop), e_Sc_arrangeTogether_12 U u x1 x2 x3 S R2' K' ↔ K' a0) → Q) : Q := by
  obtain ⟨o, ho, hoc, hi⟩ := lp_det (C := (Nat → Int32 → cs → Prop) × (cs → Prop)) (b := (fun (y : (Nat) × (Int32) × (Int32) × (cs)) (R : ((Nat) × (Int32) × (Int32) × (cs)) → Prop) (c : (Nat → Int32 → cs → Prop) × (cs → Prop)) => b_Sc_arrangeTogether_12 U u y.1 y.2.1 y.2.2.1 y.2.2.2 c.1 (fun z0 z1 z2 z3 => R (z0, z1, z2, z3)) c.2)) (O := (fun (o : ((Nat → Int32 → cs → Prop) × (cs → Prop)) → Prop) => (∃ (a0 : Nat) (a1 : Int32) (a2 : cs), o = fun c => c.1 a0 a1 a2) ∨ (∃ (a0 : cs), o = fun c => c.2 a0))) (fun y R c hy => d_b_Sc_arrangeTogether_12 hy (fun a0 a1 a2 ha ia => Or.inr ⟨(fun c => c.1 a0 a1 a2), Or.inl ⟨a0, a1, a2, rfl⟩, ha, fun R' c' => ia c'.1 (fun z0 z1 z2 z3 => R' (z0, z1, z2, z3)) c'.2⟩) (fun a0 a1 a2 a3 ha ia => Or.inl ⟨(a0, a1, a2, a3), ha, fun R' c' => ia c'.1 (fun z0 z1 z2 z3 => R' (z0, z1, z2, z3)) c'.2⟩) (fun a0 ha ia => Or.inr ⟨(fun c => c.2 a0), Or.inr (⟨a0, rfl⟩), ha, fun R' c' => ia c'.1 (fun z0 z1 z2 z3 => R' (z0, z1, z2, z3)) c'.2⟩)) (l_e_Sc_arrangeTogether_12.mp h)
  rcases ho with ⟨a0, a1, a2, rfl⟩ | ⟨a0, rfl⟩
  · exact k_R2 _ _ _ hoc (fun R2' K' => Iff.trans l_e_Sc_arrangeTogether_12 (hi (R2', K')))
  · exact k_K _ hoc (fun R2' K' => Iff.trans l_e_Sc_arrangeTogether_12 (hi (R2', K')))
theorem v_e_Sc_arrangeTogether_12 {U : ut} {u : Nat} {x1 : Nat} {x2 : Int32} {x3 : Int32} {S : cs} {R2 : Nat → Int32 → cs → Prop} {K : cs → Prop} (h : e_Sc_arrangeTogether_12 U u x1 x2 x3 S R2 K) {G : Prop} (Inv : Int32 → cs → Prop) (h0 : Inv x3 S) (hs : ∀ (yx3 : Int32) (yS : cs) (R : Nat → Int32 → Int32 → cs → Prop), Inv yx3 yS → b_Sc_arrangeTogether_12 U u x1 x2 yx3 yS R2 R K → (∃ (zx3 : Int32) (zS : cs), R x1 x2 zx3 zS ∧ Inv zx3 zS) ∨ G) : G := by
  obtain ⟨I, μ, i0, is⟩ := h
  have go : ∀ (n : Nat) (yx3 : Int32) (yS : cs), μ x1 x2 yx3 yS < n → I x1 x2 yx3 yS → Inv yx3 yS → G := by
    intro n
    induction n with
    | zero => intro yx3 yS hy; exact absurd hy (Nat.not_lt_zero _)
    | succ n ih =>
      intro yx3 yS hy hI hV
      rcases hs yx3 yS _ hV (is x1 x2 yx3 yS hI) with ⟨zx3, zS, ⟨hz, hm⟩, hv⟩ | g
      · exact ih zx3 zS (Nat.lt_of_lt_of_le hm (Nat.le_of_lt_succ hy)) hz hv
      · exact g
  exact go _ x3 S (Nat.lt_succ_self _) i0 h0
theorem r_e_Sc_arrangeTogether_12 {U : ut} {u : Nat} {x1 : Nat} {x2 : Int32} {x3 : Int32} {S : cs} {R2 : Nat → Int32 → cs → Prop} {K : cs → Prop} (h : e_Sc_arrangeTogether_12 U u x1 x2 x3 S R2 K) : b_Sc_arrangeTogether_12 U u x1 x2 x3 S R2 (fun zx1 zx2 zx3 zS => e_Sc_arrangeTogether_12 U u zx1 zx2 zx3 zS R2 K) K := by
  obtain ⟨I, μ, i0, is⟩ := h
  exact d_b_Sc_arrangeTogether_12 (is x1 x2 x3 S i0) (fun a0 a1 a2 ha ia => (ia _ _ _).mpr ha) (fun a0 a1 a2 a3 ha ia => (ia _ _ _).mpr ⟨I, μ, ha.1, is⟩) (fun a0 ha ia => (ia _ _ _).mpr ha)
set_option maxHeartbeats 1000000 in
theorem d_b_Sc_arrangeTogether_2 {U : ut} {u : Nat} {x1 : Nat} {x2 : Int32} {S : cs} {R2 : Nat → Int32 → cs → Prop} {K : cs → Prop} (h : b_Sc_arrangeTogether_2 U u x1 x2 S R2 K) {Q : Prop} (k_R2 : ∀ (a0 : Nat) (a1 : Int32) (a2 : cs), R2 a0 a1 a2 → (∀ (R2' : Nat → Int32 → cs → Prop) (K' : cs → Prop), b_Sc_arrangeTogether_2 U u x1 x2 S R2' K' ↔ R2' a0 a1 a2) → Q) (k_K : ∀ (a0 : cs), K a0 → (∀ (R2' : Nat → Int32 → cs → Prop) (K' : cs → Prop), b_Sc_arrangeTogether_2 U u x1 x2 S R2' K' ↔ K' a0) → Q) : Q := by
  unfold b_Sc_arrangeTogether_2 at h
  refine dt_p (And.right h) (fun c_1 h_2 => ?_) (fun c_1 h_2 => ?_)
  ·
    exact k_K _ h_2 (fun _ _ => Iff.trans (dt_a (And.left h)) (dt_1 c_1 (fun n => n c_1)))
  ·
    exact d_e_Sc_arrangeTogether_12 h_2 (fun a0 a1 a2 h_4 i_3 => k_R2 a0 a1 a2 h_4 (fun _ _ => Iff.trans (dt_a (And.left h)) (Iff.trans (dt_2 c_1 c_1) (i_3 _ _)))) (fun a0 h_6 i_5 => k_K a0 h_6 (fun _ _ => Iff.trans (dt_a (And.left h)) (Iff.trans (dt_2 c_1 c_1) (i_5 _ _))))
theorem l_e_Sc_arrangeTogether_2 {U : ut} {u : Nat} {x1 : Nat} {x2 : Int32} {S : cs} {K : cs → Prop} : e_Sc_arrangeTogether_2 U u x1 x2 S K ↔ lpE (C := (cs → Prop)) (fun (y : (Nat) × (Int32) × (cs)) (R : ((Nat) × (Int32) × (cs)) → Prop) (c : (cs → Prop)) => b_Sc_arrangeTogether_2 U u y.1 y.2.1 y.2.2 (fun z0 z1 z2 => R (z0, z1, z2)) c) (x1, x2, S) K :=
  ⟨fun ⟨I, μ, h0, hs⟩ => ⟨fun t => I t.1 t.2.1 t.2.2, fun t => μ t.1 t.2.1 t.2.2, h0, fun t ht => hs _ _ _ ht⟩, fun ⟨I, μ, h0, hs⟩ => ⟨fun y0 y1 y2 => I (y0, y1, y2), fun y0 y1 y2 => μ (y0, y1, y2), h0, fun y0 y1 y2 hy => hs (y0, y1, y2) hy⟩⟩
set_option maxHeartbeats 1000000 in
theorem d_e_Sc_arrangeTogether_2 {U : ut} {u : Nat} {x1 : Nat} {x2 : Int32} {S : cs} {K : cs → Prop} (h : e_Sc_arrangeTogether_2 U u x1 x2 S K) {Q : Prop} (k_K : ∀ (a0 : cs), K a0 → (∀ (K' : cs → Prop), e_Sc_arrangeTogether_2 U u x1 x2 S K' ↔ K' a0) → Q) : Q := by
  obtain ⟨o, ho, hoc, hi⟩ := lp_det (C := (cs → Prop)) (b := (fun (y : (Nat) × (Int32) × (cs)) (R : ((Nat) × (Int32) × (cs)) → Prop) (c : (cs → Prop)) => b_Sc_arrangeTogether_2 U u y.1 y.2.1 y.2.2 (fun z0 z1 z2 => R (z0, z1, z2)) c)) (O := (fun (o : ((cs → Prop)) → Prop) => (∃ (a0 : cs), o = fun c => c a0))) (fun y R c hy => d_b_Sc_arrangeTogether_2 hy (fun a0 a1 a2 ha ia => Or.inl ⟨(a0, a1, a2), ha, fun R' c' => ia (fun z0 z1 z2 => R' (z0, z1, z2)) c'⟩) (fun a0 ha ia => Or.inr ⟨(fun c => c a0), ⟨a0, rfl⟩, ha, fun R' c' => ia (fun z0 z1 z2 => R' (z0, z1, z2)) c'⟩)) (l_e_Sc_arrangeTogether_2.mp h)
  rcases ho with ⟨a0, rfl⟩
  · exact k_K _ hoc (fun K' => Iff.trans l_e_Sc_arrangeTogether_2 (hi K'))
theorem v_e_Sc_arrangeTogether_2 {U : ut} {u : Nat} {x1 : Nat} {x2 : Int32} {S : cs} {K : cs → Prop} (h : e_Sc_arrangeTogether_2 U u x1 x2 S K) {G : Prop} (Inv : Int32 → cs → Prop) (h0 : Inv x2 S) (hs : ∀ (yx2 : Int32) (yS : cs) (R : Nat → Int32 → cs → Prop), Inv yx2 yS → b_Sc_arrangeTogether_2 U u x1 yx2 yS R K → (∃ (zx2 : Int32) (zS : cs), R x1 zx2 zS ∧ Inv zx2 zS) ∨ G) : G := by
  obtain ⟨I, μ, i0, is⟩ := h
  have go : ∀ (n : Nat) (yx2 : Int32) (yS : cs), μ x1 yx2 yS < n → I x1 yx2 yS → Inv yx2 yS → G := by
    intro n
    induction n with
    | zero => intro yx2 yS hy; exact absurd hy (Nat.not_lt_zero _)
    | succ n ih =>
      intro yx2 yS hy hI hV
      rcases hs yx2 yS _ hV (is x1 yx2 yS hI) with ⟨zx2, zS, ⟨hz, hm⟩, hv⟩ | g
      · exact ih zx2 zS (Nat.lt_of_lt_of_le hm (Nat.le_of_lt_succ hy)) hz hv
      · exact g
  exact go _ x2 S (Nat.lt_succ_self _) i0 h0
theorem r_e_Sc_arrangeTogether_2 {U : ut} {u : Nat} {x1 : Nat} {x2 : Int32} {S : cs} {K : cs → Prop} (h : e_Sc_arrangeTogether_2 U u x1 x2 S K) : b_Sc_arrangeTogether_2 U u x1 x2 S (fun zx1 zx2 zS => e_Sc_arrangeTogether_2 U u zx1 zx2 zS K) K := by
  obtain ⟨I, μ, i0, is⟩ := h
  exact d_b_Sc_arrangeTogether_2 (is x1 x2 S i0) (fun a0 a1 a2 ha ia => (ia _ _).mpr ⟨I, μ, ha.1, is⟩) (fun a0 ha ia => (ia _ _).mpr ha)
set_option maxHeartbeats 1000000 in
theorem d_p_Sc_arrangeTogether {U : ut} {u : Nat} {x1 : Nat} {S : cs} {K : cs → Prop} (h : p_Sc_arrangeTogether U u x1 S K) {Q : Prop} (k_K : ∀ (a0 : cs), K a0 → (∀ (K' : cs → Prop), p_Sc_arrangeTogether U u x1 S K' ↔ K' a0) → Q) : Q := by
  unfold p_Sc_arrangeTogether at h
  exact d_e_Sc_arrangeTogether_2 h (fun a0 h_2 i_1 => k_K a0 h_2 (fun _ => i_1 _))
set_option maxHeartbeats 1000000 in
theorem d_b_Sc_arrange_68 {U : ut} {u : Nat} {s1 : Int32} {S : cs} {K : cs → Prop} (h : b_Sc_arrange_68 U u s1 S K) {Q : Prop} (k_K : ∀ (a0 : cs), K a0 → (∀ (K' : cs → Prop), b_Sc_arrange_68 U u s1 S K' ↔ K' a0) → Q) : Q := by
  unfold b_Sc_arrange_68 at h
  exact k_K _ h (fun _ => Iff.rfl)
set_option maxHeartbeats 1000000 in
theorem d_b_Sc_arrange_46 {U : ut} {u : Nat} {S : cs} {K : cs → Prop} (h : b_Sc_arrange_46 U u S K) {Q : Prop} (k_K : ∀ (a0 : cs), K a0 → (∀ (K' : cs → Prop), b_Sc_arrange_46 U u S K' ↔ K' a0) → Q) : Q := by
  unfold b_Sc_arrange_46 at h
  refine dt_p h (fun c_1 h_2 => ?_) (fun c_1 h_2 => ?_)
  ·
    exact d_b_Sc_arrange_68 (And.right h_2) (fun a0 h_4 i_3 => k_K a0 h_4 (fun _ => Iff.trans (dt_1 c_1 (fun n => n c_1)) (Iff.trans (dt_a (And.left h_2)) (i_3 _))))
  ·
    exact d_b_Sc_arrange_68 h_2 (fun a0 h_6 i_5 => k_K a0 h_6 (fun _ => Iff.trans (dt_2 c_1 c_1) (i_5 _)))
set_option maxHeartbeats 1000000 in
theorem d_p_Sc_arrange {U : ut} {u : Nat} {x1 : Nat} {S : cs} {K : cs → Prop} (h : p_Sc_arrange U u x1 S K) {Q : Prop} (k_K : ∀ (a0 : cs), K a0 → (∀ (K' : cs → Prop), p_Sc_arrange U u x1 S K' ↔ K' a0) → Q) : Q := by
  unfold p_Sc_arrange at h
  refine dt_n h (fun c_1 h_2 => ?_) (fun c_1 h_2 => ?_)
  ·
    refine d_p_Sc_blocksTogether h_2 (fun v35 S35 h_4 i_3 => ?_)
    refine d_p_Sc_arrangeTogether h_4 (fun S43 h_6 i_5 => ?_)
    exact d_b_Sc_arrange_46 h_6 (fun a0 h_8 i_7 => k_K a0 h_8 (fun _ => Iff.trans (dt_1 c_1 c_1) (Iff.trans (i_3 _) (Iff.trans (i_5 _) (i_7 _)))))
  ·
    refine d_p_Sc_arrangeAlone (And.right (And.right (And.right h_2))) (fun S26 h_10 i_9 => ?_)
    exact d_b_Sc_arrange_46 h_10 (fun a0 h_12 i_11 => k_K a0 h_12 (fun _ => Iff.trans (dt_2 (fun n => n c_1) c_1) (Iff.trans (dt_a (And.left h_2)) (Iff.trans (dt_a (And.left (And.right h_2))) (Iff.trans (dt_a (And.left (And.right (And.right h_2)))) (Iff.trans (i_9 _) (i_11 _)))))))
set_option maxHeartbeats 1000000 in
theorem d_b_Ca_kind_126 {U : ut} {u : Nat} {s0 : Int32} {S : cs} {K : Int32 → cs → Prop} (h : b_Ca_kind_126 U u s0 S K) {Q : Prop} (k_K : ∀ (a0 : Int32) (a1 : cs), K a0 a1 → (∀ (K' : Int32 → cs → Prop), b_Ca_kind_126 U u s0 S K' ↔ K' a0 a1) → Q) : Q := by
  unfold b_Ca_kind_126 at h
  exact k_K _ _ h (fun _ => Iff.rfl)
set_option maxHeartbeats 1000000 in
theorem d_p_Ca_kind {U : ut} {u : Nat} {x1 : Int32} {x2 : Int32} {x3 : Int32} {S : cs} {K : Int32 → cs → Prop} (h : p_Ca_kind U u x1 x2 x3 S K) {Q : Prop} (k_K : ∀ (a0 : Int32) (a1 : cs), K a0 a1 → (∀ (K' : Int32 → cs → Prop), p_Ca_kind U u x1 x2 x3 S K' ↔ K' a0 a1) → Q) : Q := by
  unfold p_Ca_kind at h
  refine d_p_B_spot (And.right h) (fun v7 h_2 i_1 => ?_)
  refine dt_n (And.right (And.right h_2)) (fun c_3 h_4 => ?_) (fun c_3 h_4 => ?_)
  ·
    refine d_p_B_spot (And.right h_4) (fun v31 h_6 i_5 => ?_)
    refine d_p_B_spot (And.right (And.right h_6)) (fun v44 h_8 i_7 => ?_)
    refine dt_n (And.right h_8) (fun c_9 h_10 => ?_) (fun c_9 h_10 => ?_)
    ·
      refine dt_n h_10 (fun c_11 h_12 => ?_) (fun c_11 h_12 => ?_)
      ·
        exact d_b_Ca_kind_126 h_12 (fun a0 a1 h_14 i_13 => k_K a0 a1 h_14 (fun _ => Iff.trans (dt_a (And.left h)) (Iff.trans (i_1 _) (Iff.trans (dt_a (And.left h_2)) (Iff.trans (dt_a (And.left (And.right h_2))) (Iff.trans (dt_1 c_3 c_3) (Iff.trans (dt_a (And.left h_4)) (Iff.trans (i_5 _) (Iff.trans (dt_a (And.left h_6)) (Iff.trans (dt_a (And.left (And.right h_6))) (Iff.trans (i_7 _) (Iff.trans (dt_a (And.left h_8)) (Iff.trans (dt_1 c_9 c_9) (Iff.trans (dt_1 c_11 c_11) (i_13 _)))))))))))))))
      ·
        exact d_b_Ca_kind_126 h_12 (fun a0 a1 h_16 i_15 => k_K a0 a1 h_16 (fun _ => Iff.trans (dt_a (And.left h)) (Iff.trans (i_1 _) (Iff.trans (dt_a (And.left h_2)) (Iff.trans (dt_a (And.left (And.right h_2))) (Iff.trans (dt_1 c_3 c_3) (Iff.trans (dt_a (And.left h_4)) (Iff.trans (i_5 _) (Iff.trans (dt_a (And.left h_6)) (Iff.trans (dt_a (And.left (And.right h_6))) (Iff.trans (i_7 _) (Iff.trans (dt_a (And.left h_8)) (Iff.trans (dt_1 c_9 c_9) (Iff.trans (dt_2 (fun n => n c_11) c_11) (i_15 _)))))))))))))))
    ·
      exact k_K _ _ h_10 (fun _ => Iff.trans (dt_a (And.left h)) (Iff.trans (i_1 _) (Iff.trans (dt_a (And.left h_2)) (Iff.trans (dt_a (And.left (And.right h_2))) (Iff.trans (dt_1 c_3 c_3) (Iff.trans (dt_a (And.left h_4)) (Iff.trans (i_5 _) (Iff.trans (dt_a (And.left h_6)) (Iff.trans (dt_a (And.left (And.right h_6))) (Iff.trans (i_7 _) (Iff.trans (dt_a (And.left h_8)) (dt_2 (fun n => n c_9) c_9))))))))))))
  ·
    exact k_K _ _ h_4 (fun _ => Iff.trans (dt_a (And.left h)) (Iff.trans (i_1 _) (Iff.trans (dt_a (And.left h_2)) (Iff.trans (dt_a (And.left (And.right h_2))) (dt_2 (fun n => n c_3) c_3)))))
set_option maxHeartbeats 1000000 in
theorem d_b_Pa_makeLayer_96 {U : ut} {u : Nat} {x1 : Nat} {x2 : Int32} {x3 : Int32} {x4 : Int32} {x5 : Int32} {x6 : Int32} {x7 : Int32} {x8 : Int32} {S : cs} {R54 : Nat → Int32 → Int32 → Int32 → Int32 → cs → Prop} {R71 : Nat → Int32 → Int32 → Int32 → Int32 → Int32 → cs → Prop} {R96 : Nat → Int32 → Int32 → Int32 → Int32 → Int32 → Int32 → Int32 → cs → Prop} {K : cs → Prop} (h : b_Pa_makeLayer_96 U u x1 x2 x3 x4 x5 x6 x7 x8 S R54 R71 R96 K) {Q : Prop} (k_R54 : ∀ (a0 : Nat) (a1 : Int32) (a2 : Int32) (a3 : Int32) (a4 : Int32) (a5 : cs), R54 a0 a1 a2 a3 a4 a5 → (∀ (R54' : Nat → Int32 → Int32 → Int32 → Int32 → cs → Prop) (R71' : Nat → Int32 → Int32 → Int32 → Int32 → Int32 → cs → Prop) (R96' : Nat → Int32 → Int32 → Int32 → Int32 → Int32 → Int32 → Int32 → cs → Prop) (K' : cs → Prop), b_Pa_makeLayer_96 U u x1 x2 x3 x4 x5 x6 x7 x8 S R54' R71' R96' K' ↔ R54' a0 a1 a2 a3 a4 a5) → Q) (k_R71 : ∀ (a0 : Nat) (a1 : Int32) (a2 : Int32) (a3 : Int32) (a4 : Int32) (a5 : Int32) (a6 : cs), R71 a0 a1 a2 a3 a4 a5 a6 → (∀ (R54' : Nat → Int32 → Int32 → Int32 → Int32 → cs → Prop) (R71' : Nat → Int32 → Int32 → Int32 → Int32 → Int32 → cs → Prop) (R96' : Nat → Int32 → Int32 → Int32 → Int32 → Int32 → Int32 → Int32 → cs → Prop) (K' : cs → Prop), b_Pa_makeLayer_96 U u x1 x2 x3 x4 x5 x6 x7 x8 S R54' R71' R96' K' ↔ R71' a0 a1 a2 a3 a4 a5 a6) → Q) (k_R96 : ∀ (a0 : Nat) (a1 : Int32) (a2 : Int32) (a3 : Int32) (a4 : Int32) (a5 : Int32) (a6 : Int32) (a7 : Int32) (a8 : cs), R96 a0 a1 a2 a3 a4 a5 a6 a7 a8 → (∀ (R54' : Nat → Int32 → Int32 → Int32 → Int32 → cs → Prop) (R71' : Nat → Int32 → Int32 → Int32 → Int32 → Int32 → cs → Prop) (R96' : Nat → Int32 → Int32 → Int32 → Int32 → Int32 → Int32 → Int32 → cs → Prop) (K' : cs → Prop), b_Pa_makeLayer_96 U u x1 x2 x3 x4 x5 x6 x7 x8 S R54' R71' R96' K' ↔ R96' a0 a1 a2 a3 a4 a5 a6 a7 a8) → Q) (k_K : ∀ (a0 : cs), K a0 → (∀ (R54' : Nat → Int32 → Int32 → Int32 → Int32 → cs → Prop) (R71' : Nat → Int32 → Int32 → Int32 → Int32 → Int32 → cs → Prop) (R96' : Nat → Int32 → Int32 → Int32 → Int32 → Int32 → Int32 → Int32 → cs → Prop) (K' : cs → Prop), b_Pa_makeLayer_96 U u x1 x2 x3 x4 x5 x6 x7 x8 S R54' R71' R96' K' ↔ K' a0) → Q) : Q := by
  unfold b_Pa_makeLayer_96 at h
  refine dt_p h (fun c_1 h_2 => ?_) (fun c_1 h_2 => ?_)
  ·
    refine d_p_B_spot (And.right (And.right (And.right h_2))) (fun v170 h_4 i_3 => ?_)
    exact k_R71 _ _ _ _ _ _ _ (And.right (And.right (And.right h_4))) (fun _ _ _ _ => Iff.trans (dt_1 c_1 (fun n => n c_1)) (Iff.trans (dt_a (And.left h_2)) (Iff.trans (dt_a (And.left (And.right h_2))) (Iff.trans (dt_a (And.left (And.right (And.right h_2)))) (Iff.trans (i_3 _) (Iff.trans (dt_a (And.left h_4)) (Iff.trans (dt_a (And.left (And.right h_4))) (dt_a (And.left (And.right (And.right h_4)))))))))))
  ·
    refine d_p_Ca_kind (And.right (And.right (And.right h_2))) (fun v146 S146 h_6 i_5 => ?_)
    exact k_R96 _ _ _ _ _ _ _ _ _ h_6 (fun _ _ _ _ => Iff.trans (dt_2 c_1 c_1) (Iff.trans (dt_a (And.left h_2)) (Iff.trans (dt_a (And.left (And.right h_2))) (Iff.trans (dt_a (And.left (And.right (And.right h_2)))) (i_5 _)))))
theorem l_e_Pa_makeLayer_96 {U : ut} {u : Nat} {x1 : Nat} {x2 : Int32} {x3 : Int32} {x4 : Int32} {x5 : Int32} {x6 : Int32} {x7 : Int32} {x8 : Int32} {S : cs} {R54 : Nat → Int32 → Int32 → Int32 → Int32 → cs → Prop} {R71 : Nat → Int32 → Int32 → Int32 → Int32 → Int32 → cs → Prop} {K : cs → Prop} : e_Pa_makeLayer_96 U u x1 x2 x3 x4 x5 x6 x7 x8 S R54 R71 K ↔ lpE (C := (Nat → Int32 → Int32 → Int32 → Int32 → cs → Prop) × (Nat → Int32 → Int32 → Int32 → Int32 → Int32 → cs → Prop) × (cs → Prop)) (fun (y : (Nat) × (Int32) × (Int32) × (Int32) × (Int32) × (Int32) × (Int32) × (Int32) × (cs)) (R : ((Nat) × (Int32) × (Int32) × (Int32) × (Int32) × (Int32) × (Int32) × (Int32) × (cs)) → Prop) (c : (Nat → Int32 → Int32 → Int32 → Int32 → cs → Prop) × (Nat → Int32 → Int32 → Int32 → Int32 → Int32 → cs → Prop) × (cs → Prop)) => b_Pa_makeLayer_96 U u y.1 y.2.1 y.2.2.1 y.2.2.2.1 y.2.2.2.2.1 y.2.2.2.2.2.1 y.2.2.2.2.2.2.1 y.2.2.2.2.2.2.2.1 y.2.2.2.2.2.2.2.2 c.1 c.2.1 (fun z0 z1 z2 z3 z4 z5 z6 z7 z8 => R (z0, z1, z2, z3, z4, z5, z6, z7, z8)) c.2.2) (x1, x2, x3, x4, x5, x6, x7, x8, S) (R54, R71, K) :=
  ⟨fun ⟨I, μ, h0, hs⟩ => ⟨fun t => I t.1 t.2.1 t.2.2.1 t.2.2.2.1 t.2.2.2.2.1 t.2.2.2.2.2.1 t.2.2.2.2.2.2.1 t.2.2.2.2.2.2.2.1 t.2.2.2.2.2.2.2.2, fun t => μ t.1 t.2.1 t.2.2.1 t.2.2.2.1 t.2.2.2.2.1 t.2.2.2.2.2.1 t.2.2.2.2.2.2.1 t.2.2.2.2.2.2.2.1 t.2.2.2.2.2.2.2.2, h0, fun t ht => hs _ _ _ _ _ _ _ _ _ ht⟩, fun ⟨I, μ, h0, hs⟩ => ⟨fun y0 y1 y2 y3 y4 y5 y6 y7 y8 => I (y0, y1, y2, y3, y4, y5, y6, y7, y8), fun y0 y1 y2 y3 y4 y5 y6 y7 y8 => μ (y0, y1, y2, y3, y4, y5, y6, y7, y8), h0, fun y0 y1 y2 y3 y4 y5 y6 y7 y8 hy => hs (y0, y1, y2, y3, y4, y5, y6, y7, y8) hy⟩⟩
set_option maxHeartbeats 1000000 in
theorem d_e_Pa_makeLayer_96 {U : ut} {u : Nat} {x1 : Nat} {x2 : Int32} {x3 : Int32} {x4 : Int32} {x5 : Int32} {x6 : Int32} {x7 : Int32} {x8 : Int32} {S : cs} {R54 : Nat → Int32 → Int32 → Int32 → Int32 → cs → Prop} {R71 : Nat → Int32 → Int32 → Int32 → Int32 → Int32 → cs → Prop} {K : cs → Prop} (h : e_Pa_makeLayer_96 U u x1 x2 x3 x4 x5 x6 x7 x8 S R54 R71 K) {Q : Prop} (k_R54 : ∀ (a0 : Nat) (a1 : Int32) (a2 : Int32) (a3 : Int32) (a4 : Int32) (a5 : cs), R54 a0 a1 a2 a3 a4 a5 → (∀ (R54' : Nat → Int32 → Int32 → Int32 → Int32 → cs → Prop) (R71' : Nat → Int32 → Int32 → Int32 → Int32 → Int32 → cs → Prop) (K' : cs → Prop), e_Pa_makeLayer_96 U u x1 x2 x3 x4 x5 x6 x7 x8 S R54' R71' K' ↔ R54' a0 a1 a2 a3 a4 a5) → Q) (k_R71 : ∀ (a0 : Nat) (a1 : Int32) (a2 : Int32) (a3 : Int32) (a4 : Int32) (a5 : Int32) (a6 : cs), R71 a0 a1 a2 a3 a4 a5 a6 → (∀ (R54' : Nat → Int32 → Int32 → Int32 → Int32 → cs → Prop) (R71' : Nat → Int32 → Int32 → Int32 → Int32 → Int32 → cs → Prop) (K' : cs → Prop), e_Pa_makeLayer_96 U u x1 x2 x3 x4 x5 x6 x7 x8 S R54' R71' K' ↔ R71' a0 a1 a2 a3 a4 a5 a6) → Q) (k_K : ∀ (a0 : cs), K a0 → (∀ (R54' : Nat → Int32 → Int32 → Int32 → Int32 → cs → Prop) (R71' : Nat → Int32 → Int32 → Int32 → Int32 → Int32 → cs → Prop) (K' : cs → Prop), e_Pa_makeLayer_96 U u x1 x2 x3 x4 x5 x6 x7 x8 S R54' R71' K' ↔ K' a0) → Q) : Q := by
  obtain ⟨o, ho, hoc, hi⟩ := lp_det (C := (Nat → Int32 → Int32 → Int32 → Int32 → cs → Prop) × (Nat → Int32 → Int32 → Int32 → Int32 → Int32 → cs → Prop) × (cs → Prop)) (b := (fun (y : (Nat) × (Int32) × (Int32) × (Int32) × (Int32) × (Int32) × (Int32) × (Int32) × (cs)) (R : ((Nat) × (Int32) × (Int32) × (Int32) × (Int32) × (Int32) × (Int32) × (Int32) × (cs)) → Prop) (c : (Nat → Int32 → Int32 → Int32 → Int32 → cs → Prop) × (Nat → Int32 → Int32 → Int32 → Int32 → Int32 → cs → Prop) × (cs → Prop)) => b_Pa_makeLayer_96 U u y.1 y.2.1 y.2.2.1 y.2.2.2.1 y.2.2.2.2.1 y.2.2.2.2.2.1 y.2.2.2.2.2.2.1 y.2.2.2.2.2.2.2.1 y.2.2.2.2.2.2.2.2 c.1 c.2.1 (fun z0 z1 z2 z3 z4 z5 z6 z7 z8 => R (z0, z1, z2, z3, z4, z5, z6, z7, z8)) c.2.2)) (O := (fun (o : ((Nat → Int32 → Int32 → Int32 → Int32 → cs → Prop) × (Nat → Int32 → Int32 → Int32 → Int32 → Int32 → cs → Prop) × (cs → Prop)) → Prop) => (∃ (a0 : Nat) (a1 : Int32) (a2 : Int32) (a3 : Int32) (a4 : Int32) (a5 : cs), o = fun c => c.1 a0 a1 a2 a3 a4 a5) ∨ (∃ (a0 : Nat) (a1 : Int32) (a2 : Int32) (a3 : Int32) (a4 : Int32) (a5 : Int32) (a6 : cs), o = fun c => c.2.1 a0 a1 a2 a3 a4 a5 a6) ∨ (∃ (a0 : cs), o = fun c => c.2.2 a0))) (fun y R c hy => d_b_Pa_makeLayer_96 hy (fun a0 a1 a2 a3 a4 a5 ha ia => Or.inr ⟨(fun c => c.1 a0 a1 a2 a3 a4 a5), Or.inl ⟨a0, a1, a2, a3, a4, a5, rfl⟩, ha, fun R' c' => ia c'.1 c'.2.1 (fun z0 z1 z2 z3 z4 z5 z6 z7 z8 => R' (z0, z1, z2, z3, z4, z5, z6, z7, z8)) c'.2.2⟩) (fun a0 a1 a2 a3 a4 a5 a6 ha ia => Or.inr ⟨(fun c => c.2.1 a0 a1 a2 a3 a4 a5 a6), Or.inr (Or.inl ⟨a0, a1, a2, a3, a4, a5, a6, rfl⟩), ha, fun R' c' => ia c'.1 c'.2.1 (fun z0 z1 z2 z3 z4 z5 z6 z7 z8 => R' (z0, z1, z2, z3, z4, z5, z6, z7, z8)) c'.2.2⟩) (fun a0 a1 a2 a3 a4 a5 a6 a7 a8 ha ia => Or.inl ⟨(a0, a1, a2, a3, a4, a5, a6, a7, a8), ha, fun R' c' => ia c'.1 c'.2.1 (fun z0 z1 z2 z3 z4 z5 z6 z7 z8 => R' (z0, z1, z2, z3, z4, z5, z6, z7, z8)) c'.2.2⟩) (fun a0 ha ia => Or.inr ⟨(fun c => c.2.2 a0), Or.inr (Or.inr (⟨a0, rfl⟩)), ha, fun R' c' => ia c'.1 c'.2.1 (fun z0 z1 z2 z3 z4 z5 z6 z7 z8 => R' (z0, z1, z2, z3, z4, z5, z6, z7, z8)) c'.2.2⟩)) (l_e_Pa_makeLayer_96.mp h)
  rcases ho with ⟨a0, a1, a2, a3, a4, a5, rfl⟩ | ⟨a0, a1, a2, a3, a4, a5, a6, rfl⟩ | ⟨a0, rfl⟩
  · exact k_R54 _ _ _ _ _ _ hoc (fun R54' R71' K' => Iff.trans l_e_Pa_makeLayer_96 (hi (R54', R71', K')))
  · exact k_R71 _ _ _ _ _ _ _ hoc (fun R54' R71' K' => Iff.trans l_e_Pa_makeLayer_96 (hi (R54', R71', K')))
  · exact k_K _ hoc (fun R54' R71' K' => Iff.trans l_e_Pa_makeLayer_96 (hi (R54', R71', K')))
theorem v_e_Pa_makeLayer_96 {U : ut} {u : Nat} {x1 : Nat} {x2 : Int32} {x3 : Int32} {x4 : Int32} {x5 : Int32} {x6 : Int32} {x7 : Int32} {x8 : Int32} {S : cs} {R54 : Nat → Int32 → Int32 → Int32 → Int32 → cs → Prop} {R71 : Nat → Int32 → Int32 → Int32 → Int32 → Int32 → cs → Prop} {K : cs → Prop} (h : e_Pa_makeLayer_96 U u x1 x2 x3 x4 x5 x6 x7 x8 S R54 R71 K) {G : Prop} (Inv : Int32 → Int32 → cs → Prop) (h0 : Inv x7 x8 S) (hs : ∀ (yx7 : Int32) (yx8 : Int32) (yS : cs) (R : Nat → Int32 → Int32 → Int32 → Int32 → Int32 → Int32 → Int32 → cs → Prop), Inv yx7 yx8 yS → b_Pa_makeLayer_96 U u x1 x2 x3 x4 x5 x6 yx7 yx8 yS R54 R71 R K → (∃ (zx7 : Int32) (zx8 : Int32) (zS : cs), R x1 x2 x3 x4 x5 x6 zx7 zx8 zS ∧ Inv zx7 zx8 zS) ∨ G) : G := by
  obtain ⟨I, μ, i0, is⟩ := h
  have go : ∀ (n : Nat) (yx7 : Int32) (yx8 : Int32) (yS : cs), μ x1 x2 x3 x4 x5 x6 yx7 yx8 yS < n → I x1 x2 x3 x4 x5 x6 yx7 yx8 yS → Inv yx7 yx8 yS → G := by
    intro n
    induction n with
    | zero => intro yx7 yx8 yS hy; exact absurd hy (Nat.not_lt_zero _)
    | succ n ih =>
      intro yx7 yx8 yS hy hI hV
      rcases hs yx7 yx8 yS _ hV (is x1 x2 x3 x4 x5 x6 yx7 yx8 yS hI) with ⟨zx7, zx8, zS, ⟨hz, hm⟩, hv⟩ | g
      · exact ih zx7 zx8 zS (Nat.lt_of_lt_of_le hm (Nat.le_of_lt_succ hy)) hz hv
      · exact g
  exact go _ x7 x8 S (Nat.lt_succ_self _) i0 h0
theorem r_e_Pa_makeLayer_96 {U : ut} {u : Nat} {x1 : Nat} {x2 : Int32} {x3 : Int32} {x4 : Int32} {x5 : Int32} {x6 : Int32} {x7 : Int32} {x8 : Int32} {S : cs} {R54 : Nat → Int32 → Int32 → Int32 → Int32 → cs → Prop} {R71 : Nat → Int32 → Int32 → Int32 → Int32 → Int32 → cs → Prop} {K : cs → Prop} (h : e_Pa_makeLayer_96 U u x1 x2 x3 x4 x5 x6 x7 x8 S R54 R71 K) : b_Pa_makeLayer_96 U u x1 x2 x3 x4 x5 x6 x7 x8 S R54 R71 (fun zx1 zx2 zx3 zx4 zx5 zx6 zx7 zx8 zS => e_Pa_makeLayer_96 U u zx1 zx2 zx3 zx4 zx5 zx6 zx7 zx8 zS R54 R71 K) K := by
  obtain ⟨I, μ, i0, is⟩ := h
  exact d_b_Pa_makeLayer_96 (is x1 x2 x3 x4 x5 x6 x7 x8 S i0) (fun a0 a1 a2 a3 a4 a5 ha ia => (ia _ _ _ _).mpr ha) (fun a0 a1 a2 a3 a4 a5 a6 ha ia => (ia _ _ _ _).mpr ha) (fun a0 a1 a2 a3 a4 a5 a6 a7 a8 ha ia => (ia _ _ _ _).mpr ⟨I, μ, ha.1, is⟩) (fun a0 ha ia => (ia _ _ _ _).mpr ha)
set_option maxHeartbeats 1000000 in
theorem d_b_Pa_makeLayer_71 {U : ut} {u : Nat} {x1 : Nat} {x2 : Int32} {x3 : Int32} {x4 : Int32} {x5 : Int32} {x6 : Int32} {S : cs} {R54 : Nat → Int32 → Int32 → Int32 → Int32 → cs → Prop} {R71 : Nat → Int32 → Int32 → Int32 → Int32 → Int32 → cs → Prop} {K : cs → Prop} (h : b_Pa_makeLayer_71 U u x1 x2 x3 x4 x5 x6 S R54 R71 K) {Q : Prop} (k_R54 : ∀ (a0 : Nat) (a1 : Int32) (a2 : Int32) (a3 : Int32) (a4 : Int32) (a5 : cs), R54 a0 a1 a2 a3 a4 a5 → (∀ (R54' : Nat → Int32 → Int32 → Int32 → Int32 → cs → Prop) (R71' : Nat → Int32 → Int32 → Int32 → Int32 → Int32 → cs → Prop) (K' : cs → Prop), b_Pa_makeLayer_71 U u x1 x2 x3 x4 x5 x6 S R54' R71' K' ↔ R54' a0 a1 a2 a3 a4 a5) → Q) (k_R71 : ∀ (a0 : Nat) (a1 : Int32) (a2 : Int32) (a3 : Int32) (a4 : Int32) (a5 : Int32) (a6 : cs), R71 a0 a1 a2 a3 a4 a5 a6 → (∀ (R54' : Nat → Int32 → Int32 → Int32 → Int32 → cs → Prop) (R71' : Nat → Int32 → Int32 → Int32 → Int32 → Int32 → cs → Prop) (K' : cs → Prop), b_Pa_makeLayer_71 U u x1 x2 x3 x4 x5 x6 S R54' R71' K' ↔ R71' a0 a1 a2 a3 a4 a5 a6) → Q) (k_K : ∀ (a0 : cs), K a0 → (∀ (R54' : Nat → Int32 → Int32 → Int32 → Int32 → cs → Prop) (R71' : Nat → Int32 → Int32 → Int32 → Int32 → Int32 → cs → Prop) (K' : cs → Prop), b_Pa_makeLayer_71 U u x1 x2 x3 x4 x5 x6 S R54' R71' K' ↔ K' a0) → Q) : Q := by
  unfold b_Pa_makeLayer_71 at h
  refine dt_p (And.right (And.right (And.right (And.right (And.right h))))) (fun c_1 h_2 => ?_) (fun c_1 h_2 => ?_)
  ·
    exact k_R54 _ _ _ _ _ _ h_2 (fun _ _ _ => Iff.trans (dt_a (And.left h)) (Iff.trans (dt_a (And.left (And.right h))) (Iff.trans (dt_a (And.left (And.right (And.right h)))) (Iff.trans (dt_a (And.left (And.right (And.right (And.right h))))) (Iff.trans (dt_a (And.left (And.right (And.right (And.right (And.right h)))))) (dt_1 c_1 (fun n => n c_1)))))))
  ·
    exact d_e_Pa_makeLayer_96 h_2 (fun a0 a1 a2 a3 a4 a5 h_4 i_3 => k_R54 a0 a1 a2 a3 a4 a5 h_4 (fun _ _ _ => Iff.trans (dt_a (And.left h)) (Iff.trans (dt_a (And.left (And.right h))) (Iff.trans (dt_a (And.left (And.right (And.right h)))) (Iff.trans (dt_a (And.left (And.right (And.right (And.right h))))) (Iff.trans (dt_a (And.left (And.right (And.right (And.right (And.right h)))))) (Iff.trans (dt_2 c_1 c_1) (i_3 _ _ _)))))))) (fun a0 a1 a2 a3 a4 a5 a6 h_6 i_5 => k_R71 a0 a1 a2 a3 a4 a5 a6 h_6 (fun _ _ _ => Iff.trans (dt_a (And.left h)) (Iff.trans (dt_a (And.left (And.right h))) (Iff.trans (dt_a (And.left (And.right (And.right h)))) (Iff.trans (dt_a (And.left (And.right (And.right (And.right h))))) (Iff.trans (dt_a (And.left (And.right (And.right (And.right (And.right h)))))) (Iff.trans (dt_2 c_1 c_1) (i_5 _ _ _)))))))) (fun a0 h_8 i_7 => k_K a0 h_8 (fun _ _ _ => Iff.trans (dt_a (And.left h)) (Iff.trans (dt_a (And.left (And.right h))) (Iff.trans (dt_a (And.left (And.right (And.right h)))) (Iff.trans (dt_a (And.left (And.right (And.right (And.right h))))) (Iff.trans (dt_a (And.left (And.right (And.right (And.right (And.right h)))))) (Iff.trans (dt_2 c_1 c_1) (i_7 _ _ _))))))))
theorem l_e_Pa_makeLayer_71 {U : ut} {u : Nat} {x1 : Nat} {x2 : Int32} {x3 : Int32} {x4 : Int32} {x5 : Int32} {x6 : Int32} {S : cs} {R54 : Nat → Int32 → Int32 → Int32 → Int32 → cs → Prop} {K : cs → Prop} : e_Pa_makeLayer_71 U u x1 x2 x3 x4 x5 x6 S R54 K ↔ lpE (C := (Nat → Int32 → Int32 → Int32 → Int32 → cs → Prop) × (cs → Prop)) (fun (y : (Nat) × (Int32) × (Int32) × (Int32) × (Int32) × (Int32) × (cs)) (R : ((Nat) × (Int32) × (Int32) × (Int32) × (Int32) × (Int32) × (cs)) → Prop) (c : (Nat → Int32 → Int32 → Int32 → Int32 → cs → Prop) × (cs → Prop)) => b_Pa_makeLayer_71 U u y.1 y.2.1 y.2.2.1 y.2.2.2.1 y.2.2.2.2.1 y.2.2.2.2.2.1 y.2.2.2.2.2.2 c.1 (fun z0 z1 z2 z3 z4 z5 z6 => R (z0, z1, z2, z3, z4, z5, z6)) c.2) (x1, x2, x3, x4, x5, x6, S) (R54, K) :=
  ⟨fun ⟨I, μ, h0, hs⟩ => ⟨fun t => I t.1 t.2.1 t.2.2.1 t.2.2.2.1 t.2.2.2.2.1 t.2.2.2.2.2.1 t.2.2.2.2.2.2, fun t => μ t.1 t.2.1 t.2.2.1 t.2.2.2.1 t.2.2.2.2.1 t.2.2.2.2.2.1 t.2.2.2.2.2.2, h0, fun t ht => hs _ _ _ _ _ _ _ ht⟩, fun ⟨I, μ, h0, hs⟩ => ⟨fun y0 y1 y2 y3 y4 y5 y6 => I (y0, y1, y2, y3, y4, y5, y6), fun y0 y1 y2 y3 y4 y5 y6 => μ (y0, y1, y2, y3, y4, y5, y6), h0, fun y0 y1 y2 y3 y4 y5 y6 hy => hs (y0, y1, y2, y3, y4, y5, y6) hy⟩⟩
set_option maxHeartbeats 1000000 in
theorem d_e_Pa_makeLayer_71 {U : ut} {u : Nat} {x1 : Nat} {x2 : Int32} {x3 : Int32} {x4 : Int32} {x5 : Int32} {x6 : Int32} {S : cs} {R54 : Nat → Int32 → Int32 → Int32 → Int32 → cs → Prop} {K : cs → Prop} (h : e_Pa_makeLayer_71 U u x1 x2 x3 x4 x5 x6 S R54 K) {Q : Prop} (k_R54 : ∀ (a0 : Nat) (a1 : Int32) (a2 : Int32) (a3 : Int32) (a4 : Int32) (a5 : cs), R54 a0 a1 a2 a3 a4 a5 → (∀ (R54' : Nat → Int32 → Int32 → Int32 → Int32 → cs → Prop) (K' : cs → Prop), e_Pa_makeLayer_71 U u x1 x2 x3 x4 x5 x6 S R54' K' ↔ R54' a0 a1 a2 a3 a4 a5) → Q) (k_K : ∀ (a0 : cs), K a0 → (∀ (R54' : Nat → Int32 → Int32 → Int32 → Int32 → cs → Prop) (K' : cs → Prop), e_Pa_makeLayer_71 U u x1 x2 x3 x4 x5 x6 S R54' K' ↔ K' a0) → Q) : Q := by
  obtain ⟨o, ho, hoc, hi⟩ := lp_det (C := (Nat → Int32 → Int32 → Int32 → Int32 → cs → Prop) × (cs → Prop)) (b := (fun (y : (Nat) × (Int32) × (Int32) × (Int32) × (Int32) × (Int32) × (cs)) (R : ((Nat) × (Int32) × (Int32) × (Int32) × (Int32) × (Int32) × (cs)) → Prop) (c : (Nat → Int32 → Int32 → Int32 → Int32 → cs → Prop) × (cs → Prop)) => b_Pa_makeLayer_71 U u y.1 y.2.1 y.2.2.1 y.2.2.2.1 y.2.2.2.2.1 y.2.2.2.2.2.1 y.2.2.2.2.2.2 c.1 (fun z0 z1 z2 z3 z4 z5 z6 => R (z0, z1, z2, z3, z4, z5, z6)) c.2)) (O := (fun (o : ((Nat → Int32 → Int32 → Int32 → Int32 → cs → Prop) × (cs → Prop)) → Prop) => (∃ (a0 : Nat) (a1 : Int32) (a2 : Int32) (a3 : Int32) (a4 : Int32) (a5 : cs), o = fun c => c.1 a0 a1 a2 a3 a4 a5) ∨ (∃ (a0 : cs), o = fun c => c.2 a0))) (fun y R c hy => d_b_Pa_makeLayer_71 hy (fun a0 a1 a2 a3 a4 a5 ha ia => Or.inr ⟨(fun c => c.1 a0 a1 a2 a3 a4 a5), Or.inl ⟨a0, a1, a2, a3, a4, a5, rfl⟩, ha, fun R' c' => ia c'.1 (fun z0 z1 z2 z3 z4 z5 z6 => R' (z0, z1, z2, z3, z4, z5, z6)) c'.2⟩) (fun a0 a1 a2 a3 a4 a5 a6 ha ia => Or.inl ⟨(a0, a1, a2, a3, a4, a5, a6), ha, fun R' c' => ia c'.1 (fun z0 z1 z2 z3 z4 z5 z6 => R' (z0, z1, z2, z3, z4, z5, z6)) c'.2⟩) (fun a0 ha ia => Or.inr ⟨(fun c => c.2 a0), Or.inr (⟨a0, rfl⟩), ha, fun R' c' => ia c'.1 (fun z0 z1 z2 z3 z4 z5 z6 => R' (z0, z1, z2, z3, z4, z5, z6)) c'.2⟩)) (l_e_Pa_makeLayer_71.mp h)
  rcases ho with ⟨a0, a1, a2, a3, a4, a5, rfl⟩ | ⟨a0, rfl⟩
  · exact k_R54 _ _ _ _ _ _ hoc (fun R54' K' => Iff.trans l_e_Pa_makeLayer_71 (hi (R54', K')))
  · exact k_K _ hoc (fun R54' K' => Iff.trans l_e_Pa_makeLayer_71 (hi (R54', K')))
theorem v_e_Pa_makeLayer_71 {U : ut} {u : Nat} {x1 : Nat} {x2 : Int32} {x3 : Int32} {x4 : Int32} {x5 : Int32} {x6 : Int32} {S : cs} {R54 : Nat → Int32 → Int32 → Int32 → Int32 → cs → Prop} {K : cs → Prop} (h : e_Pa_makeLayer_71 U u x1 x2 x3 x4 x5 x6 S R54 K) {G : Prop} (Inv : Int32 → cs → Prop) (h0 : Inv x6 S) (hs : ∀ (yx6 : Int32) (yS : cs) (R : Nat → Int32 → Int32 → Int32 → Int32 → Int32 → cs → Prop), Inv yx6 yS → b_Pa_makeLayer_71 U u x1 x2 x3 x4 x5 yx6 yS R54 R K → (∃ (zx6 : Int32) (zS : cs), R x1 x2 x3 x4 x5 zx6 zS ∧ Inv zx6 zS) ∨ G) : G := by
  obtain ⟨I, μ, i0, is⟩ := h
  have go : ∀ (n : Nat) (yx6 : Int32) (yS : cs), μ x1 x2 x3 x4 x5 yx6 yS < n → I x1 x2 x3 x4 x5 yx6 yS → Inv yx6 yS → G := by
    intro n
    induction n with
    | zero => intro yx6 yS hy; exact absurd hy (Nat.not_lt_zero _)
    | succ n ih =>
      intro yx6 yS hy hI hV
      rcases hs yx6 yS _ hV (is x1 x2 x3 x4 x5 yx6 yS hI) with ⟨zx6, zS, ⟨hz, hm⟩, hv⟩ | g
      · exact ih zx6 zS (Nat.lt_of_lt_of_le hm (Nat.le_of_lt_succ hy)) hz hv
      · exact g
  exact go _ x6 S (Nat.lt_succ_self _) i0 h0
theorem r_e_Pa_makeLayer_71 {U : ut} {u : Nat} {x1 : Nat} {x2 : Int32} {x3 : Int32} {x4 : Int32} {x5 : Int32} {x6 : Int32} {S : cs} {R54 : Nat → Int32 → Int32 → Int32 → Int32 → cs → Prop} {K : cs → Prop} (h : e_Pa_makeLayer_71 U u x1 x2 x3 x4 x5 x6 S R54 K) : b_Pa_makeLayer_71 U u x1 x2 x3 x4 x5 x6 S R54 (fun zx1 zx2 zx3 zx4 zx5 zx6 zS => e_Pa_makeLayer_71 U u zx1 zx2 zx3 zx4 zx5 zx6 zS R54 K) K := by
  obtain ⟨I, μ, i0, is⟩ := h
  exact d_b_Pa_makeLayer_71 (is x1 x2 x3 x4 x5 x6 S i0) (fun a0 a1 a2 a3 a4 a5 ha ia => (ia _ _ _).mpr ha) (fun a0 a1 a2 a3 a4 a5 a6 ha ia => (ia _ _ _).mpr ⟨I, μ, ha.1, is⟩) (fun a0 ha ia => (ia _ _ _).mpr ha)
set_option maxHeartbeats 1000000 in
theorem d_b_Pa_makeLayer_54 {U : ut} {u : Nat} {x1 : Nat} {x2 : Int32} {x3 : Int32} {x4 : Int32} {x5 : Int32} {S : cs} {R54 : Nat → Int32 → Int32 → Int32 → Int32 → cs → Prop} {K : cs → Prop} (h : b_Pa_makeLayer_54 U u x1 x2 x3 x4 x5 S R54 K) {Q : Prop} (k_R54 : ∀ (a0 : Nat) (a1 : Int32) (a2 : Int32) (a3 : Int32) (a4 : Int32) (a5 : cs), R54 a0 a1 a2 a3 a4 a5 → (∀ (R54' : Nat → Int32 → Int32 → Int32 → Int32 → cs → Prop) (K' : cs → Prop), b_Pa_makeLayer_54 U u x1 x2 x3 x4 x5 S R54' K' ↔ R54' a0 a1 a2 a3 a4 a5) → Q) (k_K : ∀ (a0 : cs), K a0 → (∀ (R54' : Nat → Int32 → Int32 → Int32 → Int32 → cs → Prop) (K' : cs → Prop), b_Pa_makeLayer_54 U u x1 x2 x3 x4 x5 S R54' K' ↔ K' a0) → Q) : Q := by
  unfold b_Pa_makeLayer_54 at h
  refine dt_p (And.right (And.right (And.right (And.right (And.right h))))) (fun c_1 h_2 => ?_) (fun c_1 h_2 => ?_)
  ·
    exact k_K _ h_2 (fun _ _ => Iff.trans (dt_a (And.left h)) (Iff.trans (dt_a (And.left (And.right h))) (Iff.trans (dt_a (And.left (And.right (And.right h)))) (Iff.trans (dt_a (And.left (And.right (And.right (And.right h))))) (Iff.trans (dt_a (And.left (And.right (And.right (And.right (And.right h)))))) (dt_1 c_1 (fun n => n c_1)))))))
  ·
    exact d_e_Pa_makeLayer_71 h_2 (fun a0 a1 a2 a3 a4 a5 h_4 i_3 => k_R54 a0 a1 a2 a3 a4 a5 h_4 (fun _ _ => Iff.trans (dt_a (And.left h)) (Iff.trans (dt_a (And.left (And.right h))) (Iff.trans (dt_a (And.left (And.right (And.right h)))) (Iff.trans (dt_a (And.left (And.right (And.right (And.right h))))) (Iff.trans (dt_a (And.left (And.right (And.right (And.right (And.right h)))))) (Iff.trans (dt_2 c_1 c_1) (i_3 _ _)))))))) (fun a0 h_6 i_5 => k_K a0 h_6 (fun _ _ => Iff.trans (dt_a (And.left h)) (Iff.trans (dt_a (And.left (And.right h))) (Iff.trans (dt_a (And.left (And.right (And.right h)))) (Iff.trans (dt_a (And.left (And.right (And.right (And.right h))))) (Iff.trans (dt_a (And.left (And.right (And.right (And.right (And.right h)))))) (Iff.trans (dt_2 c_1 c_1) (i_5 _ _))))))))
theorem l_e_Pa_makeLayer_54 {U : ut} {u : Nat} {x1 : Nat} {x2 : Int32} {x3 : Int32} {x4 : Int32} {x5 : Int32} {S : cs} {K : cs → Prop} : e_Pa_makeLayer_54 U u x1 x2 x3 x4 x5 S K ↔ lpE (C := (cs → Prop)) (fun (y : (Nat) × (Int32) × (Int32) × (Int32) × (Int32) × (cs)) (R : ((Nat) × (Int32) × (Int32) × (Int32) × (Int32) × (cs)) → Prop) (c : (cs → Prop)) => b_Pa_makeLayer_54 U u y.1 y.2.1 y.2.2.1 y.2.2.2.1 y.2.2.2.2.1 y.2.2.2.2.2 (fun z0 z1 z2 z3 z4 z5 => R (z0, z1, z2, z3, z4, z5)) c) (x1, x2, x3, x4, x5, S) K :=
  ⟨fun ⟨I, μ, h0, hs⟩ => ⟨fun t => I t.1 t.2.1 t.2.2.1 t.2.2.2.1 t.2.2.2.2.1 t.2.2.2.2.2, fun t => μ t.1 t.2.1 t.2.2.1 t.2.2.2.1 t.2.2.2.2.1 t.2.2.2.2.2, h0, fun t ht => hs _ _ _ _ _ _ ht⟩, fun ⟨I, μ, h0, hs⟩ => ⟨fun y0 y1 y2 y3 y4 y5 => I (y0, y1, y2, y3, y4, y5), fun y0 y1 y2 y3 y4 y5 => μ (y0, y1, y2, y3, y4, y5), h0, fun y0 y1 y2 y3 y4 y5 hy => hs (y0, y1, y2, y3, y4, y5) hy⟩⟩
set_option maxHeartbeats 1000000 in
theorem d_e_Pa_makeLayer_54 {U : ut} {u : Nat} {x1 : Nat} {x2 : Int32} {x3 : Int32} {x4 : Int32} {x5 : Int32} {S : cs} {K : cs → Prop} (h : e_Pa_makeLayer_54 U u x1 x2 x3 x4 x5 S K) {Q : Prop} (k_K : ∀ (a0 : cs), K a0 → (∀ (K' : cs → Prop), e_Pa_makeLayer_54 U u x1 x2 x3 x4 x5 S K' ↔ K' a0) → Q) : Q := by
  obtain ⟨o, ho, hoc, hi⟩ := lp_det (C := (cs → Prop)) (b := (fun (y : (Nat) × (Int32) × (Int32) × (Int32) × (Int32) × (cs)) (R : ((Nat) × (Int32) × (Int32) × (Int32) × (Int32) × (cs)) → Prop) (c : (cs → Prop)) => b_Pa_makeLayer_54 U u y.1 y.2.1 y.2.2.1 y.2.2.2.1 y.2.2.2.2.1 y.2.2.2.2.2 (fun z0 z1 z2 z3 z4 z5 => R (z0, z1, z2, z3, z4, z5)) c)) (O := (fun (o : ((cs → Prop)) → Prop) => (∃ (a0 : cs), o = fun c => c a0))) (fun y R c hy => d_b_Pa_makeLayer_54 hy (fun a0 a1 a2 a3 a4 a5 ha ia => Or.inl ⟨(a0, a1, a2, a3, a4, a5), ha, fun R' c' => ia (fun z0 z1 z2 z3 z4 z5 => R' (z0, z1, z2, z3, z4, z5)) c'⟩) (fun a0 ha ia => Or.inr ⟨(fun c => c a0), ⟨a0, rfl⟩, ha, fun R' c' => ia (fun z0 z1 z2 z3 z4 z5 => R' (z0, z1, z2, z3, z4, z5)) c'⟩)) (l_e_Pa_makeLayer_54.mp h)
  rcases ho with ⟨a0, rfl⟩
  · exact k_K _ hoc (fun K' => Iff.trans l_e_Pa_makeLayer_54 (hi K'))
theorem v_e_Pa_makeLayer_54 {U : ut} {u : Nat} {x1 : Nat} {x2 : Int32} {x3 : Int32} {x4 : Int32} {x5 : Int32} {S : cs} {K : cs → Prop} (h : e_Pa_makeLayer_54 U u x1 x2 x3 x4 x5 S K) {G : Prop} (Inv : Int32 → cs → Prop) (h0 : Inv x5 S) (hs : ∀ (yx5 : Int32) (yS : cs) (R : Nat → Int32 → Int32 → Int32 → Int32 → cs → Prop), Inv yx5 yS → b_Pa_makeLayer_54 U u x1 x2 x3 x4 yx5 yS R K → (∃ (zx5 : Int32) (zS : cs), R x1 x2 x3 x4 zx5 zS ∧ Inv zx5 zS) ∨ G) : G := by
  obtain ⟨I, μ, i0, is⟩ := h
  have go : ∀ (n : Nat) (yx5 : Int32) (yS : cs), μ x1 x2 x3 x4 yx5 yS < n → I x1 x2 x3 x4 yx5 yS → Inv yx5 yS → G := by
    intro n
    induction n with
    | zero => intro yx5 yS hy; exact absurd hy (Nat.not_lt_zero _)
    | succ n ih =>
      intro yx5 yS hy hI hV
      rcases hs yx5 yS _ hV (is x1 x2 x3 x4 yx5 yS hI) with ⟨zx5, zS, ⟨hz, hm⟩, hv⟩ | g
      · exact ih zx5 zS (Nat.lt_of_lt_of_le hm (Nat.le_of_lt_succ hy)) hz hv
      · exact g
  exact go _ x5 S (Nat.lt_succ_self _) i0 h0
theorem r_e_Pa_makeLayer_54 {U : ut} {u : Nat} {x1 : Nat} {x2 : Int32} {x3 : Int32} {x4 : Int32} {x5 : Int32} {S : cs} {K : cs → Prop} (h : e_Pa_makeLayer_54 U u x1 x2 x3 x4 x5 S K) : b_Pa_makeLayer_54 U u x1 x2 x3 x4 x5 S (fun zx1 zx2 zx3 zx4 zx5 zS => e_Pa_makeLayer_54 U u zx1 zx2 zx3 zx4 zx5 zS K) K := by
  obtain ⟨I, μ, i0, is⟩ := h
  exact d_b_Pa_makeLayer_54 (is x1 x2 x3 x4 x5 S i0) (fun a0 a1 a2 a3 a4 a5 ha ia => (ia _ _).mpr ⟨I, μ, ha.1, is⟩) (fun a0 ha ia => (ia _ _).mpr ha)
set_option maxHeartbeats 1000000 in
theorem d_b_Pa_makeLayer_49 {U : ut} {u : Nat} {x1 : Nat} {x2 : Int32} {x3 : Int32} {s0 : Int32} {S : cs} {K : cs → Prop} (h : b_Pa_makeLayer_49 U u x1 x2 x3 s0 S K) {Q : Prop} (k_K : ∀ (a0 : cs), K a0 → (∀ (K' : cs → Prop), b_Pa_makeLayer_49 U u x1 x2 x3 s0 S K' ↔ K' a0) → Q) : Q := by
  unfold b_Pa_makeLayer_49 at h
  exact d_e_Pa_makeLayer_54 h (fun a0 h_2 i_1 => k_K a0 h_2 (fun _ => i_1 _))
set_option maxHeartbeats 1000000 in
theorem d_b_Pa_makeLayer_24 {U : ut} {u : Nat} {x1 : Nat} {x2 : Int32} {s0 : Int32} {S : cs} {K : cs → Prop} (h : b_Pa_makeLayer_24 U u x1 x2 s0 S K) {Q : Prop} (k_K : ∀ (a0 : cs), K a0 → (∀ (K' : cs → Prop), b_Pa_makeLayer_24 U u x1 x2 s0 S K' ↔ K' a0) → Q) : Q := by
  unfold b_Pa_makeLayer_24 at h
  refine dt_p (And.right (And.right (And.right (And.right (And.right (And.right h)))))) (fun c_1 h_2 => ?_) (fun c_1 h_2 => ?_)
  ·
    exact d_b_Pa_makeLayer_49 h_2 (fun a0 h_4 i_3 => k_K a0 h_4 (fun _ => Iff.trans (dt_a (And.left h)) (Iff.trans (dt_a (And.left (And.right h))) (Iff.trans (dt_a (And.left (And.right (And.right h)))) (Iff.trans (dt_a (And.left (And.right (And.right (And.right h))))) (Iff.trans (dt_a (And.left (And.right (And.right (And.right (And.right h)))))) (Iff.trans (dt_a (And.left (And.right (And.right (And.right (And.right (And.right h))))))) (Iff.trans (dt_1 c_1 (fun n => n c_1)) (i_3 _)))))))))
  ·
    exact d_b_Pa_makeLayer_49 h_2 (fun a0 h_6 i_5 => k_K a0 h_6 (fun _ => Iff.trans (dt_a (And.left h)) (Iff.trans (dt_a (And.left (And.right h))) (Iff.trans (dt_a (And.left (And.right (And.right h)))) (Iff.trans (dt_a (And.left (And.right (And.right (And.right h))))) (Iff.trans (dt_a (And.left (And.right (And.right (And.right (And.right h)))))) (Iff.trans (dt_a (And.left (And.right (And.right (And.right (And.right (And.right h))))))) (Iff.trans (dt_2 c_1 c_1) (i_5 _)))))))))
set_option maxHeartbeats 1000000 in
theorem d_p_Pa_makeLayer {U : ut} {u : Nat} {x1 : Nat} {x2 : Int32} {S : cs} {K : cs → Prop} (h : p_Pa_makeLayer U u x1 x2 S K) {Q : Prop} (k_K : ∀ (a0 : cs), K a0 → (∀ (K' : cs → Prop), p_Pa_makeLayer U u x1 x2 S K' ↔ K' a0) → Q) : Q := by
  unfold p_Pa_makeLayer at h
  refine dt_p (And.right (And.right (And.right (And.right (And.right (And.right h)))))) (fun c_1 h_2 => ?_) (fun c_1 h_2 => ?_)
  ·
    exact d_b_Pa_makeLayer_24 h_2 (fun a0 h_4 i_3 => k_K a0 h_4 (fun _ => Iff.trans (dt_a (And.left h)) (Iff.trans (dt_a (And.left (And.right h))) (Iff.trans (dt_a (And.left (And.right (And.right h)))) (Iff.trans (dt_a (And.left (And.right (And.right (And.right h))))) (Iff.trans (dt_a (And.left (And.right (And.right (And.right (And.right h)))))) (Iff.trans (dt_a (And.left (And.right (And.right (And.right (And.right (And.right h))))))) (Iff.trans (dt_1 c_1 (fun n => n c_1)) (i_3 _)))))))))
  ·
    exact d_b_Pa_makeLayer_24 h_2 (fun a0 h_6 i_5 => k_K a0 h_6 (fun _ => Iff.trans (dt_a (And.left h)) (Iff.trans (dt_a (And.left (And.right h))) (Iff.trans (dt_a (And.left (And.right (And.right h)))) (Iff.trans (dt_a (And.left (And.right (And.right (And.right h))))) (Iff.trans (dt_a (And.left (And.right (And.right (And.right (And.right h)))))) (Iff.trans (dt_a (And.left (And.right (And.right (And.right (And.right (And.right h))))))) (Iff.trans (dt_2 c_1 c_1) (i_5 _)))))))))
set_option maxHeartbeats 1000000 in
theorem d_b_Wa_makeWeights_119 {U : ut} {u : Nat} {x1 : Int32} {x2 : Int32} {x3 : Int64} {x5 : Int32} {S : cs} {R98 : Int32 → cs → Prop} {R106 : Int32 → Int32 → cs → Prop} {R119 : Int32 → Int32 → Int64 → Int32 → cs → Prop} {K : cs → Prop} (h : b_Wa_makeWeights_119 U u x1 x2 x3 x5 S R98 R106 R119 K) {Q : Prop} (k_R98 : ∀ (a0 : Int32) (a1 : cs), R98 a0 a1 → (∀ (R98' : Int32 → cs → Prop) (R106' : Int32 → Int32 → cs → Prop) (R119' : Int32 → Int32 → Int64 → Int32 → cs → Prop) (K' : cs → Prop), b_Wa_makeWeights_119 U u x1 x2 x3 x5 S R98' R106' R119' K' ↔ R98' a0 a1) → Q) (k_R106 : ∀ (a0 : Int32) (a1 : Int32) (a2 : cs), R106 a0 a1 a2 → (∀ (R98' : Int32 → cs → Prop) (R106' : Int32 → Int32 → cs → Prop) (R119' : Int32 → Int32 → Int64 → Int32 → cs → Prop) (K' : cs → Prop), b_Wa_makeWeights_119 U u x1 x2 x3 x5 S R98' R106' R119' K' ↔ R106' a0 a1 a2) → Q) (k_R119 : ∀ (a0 : Int32) (a1 : Int32) (a2 : Int64) (a3 : Int32) (a4 : cs), R119 a0 a1 a2 a3 a4 → (∀ (R98' : Int32 → cs → Prop) (R106' : Int32 → Int32 → cs → Prop) (R119' : Int32 → Int32 → Int64 → Int32 → cs → Prop) (K' : cs → Prop), b_Wa_makeWeights_119 U u x1 x2 x3 x5 S R98' R106' R119' K' ↔ R119' a0 a1 a2 a3 a4) → Q) (k_K : ∀ (a0 : cs), K a0 → (∀ (R98' : Int32 → cs → Prop) (R106' : Int32 → Int32 → cs → Prop) (R119' : Int32 → Int32 → Int64 → Int32 → cs → Prop) (K' : cs → Prop), b_Wa_makeWeights_119 U u x1 x2 x3 x5 S R98' R106' R119' K' ↔ K' a0) → Q) : Q := by
  unfold b_Wa_makeWeights_119 at h
  refine dt_p h (fun c_1 h_2 => ?_) (fun c_1 h_2 => ?_)
  ·
    exact k_R106 _ _ _ (And.right (And.right (And.right h_2))) (fun _ _ _ _ => Iff.trans (dt_1 c_1 (fun n => n c_1)) (Iff.trans (dt_a (And.left h_2)) (Iff.trans (dt_a (And.left (And.right h_2))) (dt_a (And.left (And.right (And.right h_2)))))))
  ·
    exact k_R119 _ _ _ _ _ (And.right (And.right (And.right (And.right (And.right (And.right h_2)))))) (fun _ _ _ _ => Iff.trans (dt_2 c_1 c_1) (Iff.trans (dt_a (And.left h_2)) (Iff.trans (dt_a (And.left (And.right h_2))) (Iff.trans (dt_a (And.left (And.right (And.right h_2)))) (Iff.trans (dt_a (And.left (And.right (And.right (And.right h_2))))) (Iff.trans (dt_a (And.left (And.right (And.right (And.right (And.right h_2)))))) (dt_a (And.left (And.right (And.right (And.right (And.right (And.right h_2)))))))))))))
theorem l_e_Wa_makeWeights_119 {U : ut} {u : Nat} {x1 : Int32} {x2 : Int32} {x3 : Int64} {x5 : Int32} {S : cs} {R98 : Int32 → cs → Prop} {R106 : Int32 → Int32 → cs → Prop} {K : cs → Prop} : e_Wa_makeWeights_119 U u x1 x2 x3 x5 S R98 R106 K ↔ lpE (C := (Int32 → cs → Prop) × (Int32 → Int32 → cs → Prop) × (cs → Prop)) (fun (y : (Int32) × (Int32) × (Int64) × (Int32) × (cs)) (R : ((Int32) × (Int32) × (Int64) × (Int32) × (cs)) → Prop) (c : (Int32 → cs → Prop) × (Int32 → Int32 → cs → Prop) × (cs → Prop)) => b_Wa_makeWeights_119 U u y.1 y.2.1 y.2.2.1 y.2.2.2.1 y.2.2.2.2 c.1 c.2.1 (fun z0 z1 z2 z3 z4 => R (z0, z1, z2, z3, z4)) c.2.2) (x1, x2, x3, x5, S) (R98, R106, K) :=
  ⟨fun ⟨I, μ, h0, hs⟩ => ⟨fun t => I t.1 t.2.1 t.2.2.1 t.2.2.2.1 t.2.2.2.2, fun t => μ t.1 t.2.1 t.2.2.1 t.2.2.2.1 t.2.2.2.2, h0, fun t ht => hs _ _ _ _ _ ht⟩, fun ⟨I, μ, h0, hs⟩ => ⟨fun y0 y1 y2 y3 y4 => I (y0, y1, y2, y3, y4), fun y0 y1 y2 y3 y4 => μ (y0, y1, y2, y3, y4), h0, fun y0 y1 y2 y3 y4 hy => hs (y0, y1, y2, y3, y4) hy⟩⟩
set_option maxHeartbeats 1000000 in
theorem d_e_Wa_makeWeights_119 {U : ut} {u : Nat} {x1 : Int32} {x2 : Int32} {x3 : Int64} {x5 : Int32} {S : cs} {R98 : Int32 → cs → Prop} {R106 : Int32 → Int32 → cs → Prop} {K : cs → Prop} (h : e_Wa_makeWeights_119 U u x1 x2 x3 x5 S R98 R106 K) {Q : Prop} (k_R98 : ∀ (a0 : Int32) (a1 : cs), R98 a0 a1 → (∀ (R98' : Int32 → cs → Prop) (R106' : Int32 → Int32 → cs → Prop) (K' : cs → Prop), e_Wa_makeWeights_119 U u x1 x2 x3 x5 S R98' R106' K' ↔ R98' a0 a1) → Q) (k_R106 : ∀ (a0 : Int32) (a1 : Int32) (a2 : cs), R106 a0 a1 a2 → (∀ (R98' : Int32 → cs → Prop) (R106' : Int32 → Int32 → cs → Prop) (K' : cs → Prop), e_Wa_makeWeights_119 U u x1 x2 x3 x5 S R98' R106' K' ↔ R106' a0 a1 a2) → Q) (k_K : ∀ (a0 : cs), K a0 → (∀ (R98' : Int32 → cs → Prop) (R106' : Int32 → Int32 → cs → Prop) (K' : cs → Prop), e_Wa_makeWeights_119 U u x1 x2 x3 x5 S R98' R106' K' ↔ K' a0) → Q) : Q := by
  obtain ⟨o, ho, hoc, hi⟩ := lp_det (C := (Int32 → cs → Prop) × (Int32 → Int32 → cs → Prop) × (cs → Prop)) (b := (fun (y : (Int32) × (Int32) × (Int64) × (Int32) × (cs)) (R : ((Int32) × (Int32) × (Int64) × (Int32) × (cs)) → Prop) (c : (Int32 → cs → Prop) × (Int32 → Int32 → cs → Prop) × (cs → Prop)) => b_Wa_makeWeights_119 U u y.1 y.2.1 y.2.2.1 y.2.2.2.1 y.2.2.2.2 c.1 c.2.1 (fun z0 z1 z2 z3 z4 => R (z0, z1, z2, z3, z4)) c.2.2)) (O := (fun (o : ((Int32 → cs → Prop) × (Int32 → Int32 → cs → Prop) × (cs → Prop)) → Prop) => (∃ (a0 : Int32) (a1 : cs), o = fun c => c.1 a0 a1) ∨ (∃ (a0 : Int32) (a1 : Int32) (a2 : cs), o = fun c => c.2.1 a0 a1 a2) ∨ (∃ (a0 : cs), o = fun c => c.2.2 a0))) (fun y R c hy => d_b_Wa_makeWeights_119 hy (fun a0 a1 ha ia => Or.inr ⟨(fun c => c.1 a0 a1), Or.inl ⟨a0, a1, rfl⟩, ha, fun R' c' => ia c'.1 c'.2.1 (fun z0 z1 z2 z3 z4 => R' (z0, z1, z2, z3, z4)) c'.2.2⟩) (fun a0 a1 a2 ha ia => Or.inr ⟨(fun c => c.2.1 a0 a1 a2), Or.inr (Or.inl ⟨a0, a1, a2, rfl⟩), ha, fun R' c' => ia c'.1 c'.2.1 (fun z0 z1 z2 z3 z4 => R' (z0, z1, z2, z3, z4)) c'.2.2⟩) (fun a0 a1 a2 a3 a4 ha ia => Or.inl ⟨(a0, a1, a2, a3, a4), ha, fun R' c' => ia c'.1 c'.2.1 (fun z0 z1 z2 z3 z4 => R' (z0, z1, z2, z3, z4)) c'.2.2⟩) (fun a0 ha ia => Or.inr ⟨(fun c => c.2.2 a0), Or.inr (Or.inr (⟨a0, rfl⟩)), ha, fun R' c' => ia c'.1 c'.2.1 (fun z0 z1 z2 z3 z4 => R' (z0, z1, z2, z3, z4)) c'.2.2⟩)) (l_e_Wa_makeWeights_119.mp h)
  rcases ho with ⟨a0, a1, rfl⟩ | ⟨a0, a1, a2, rfl⟩ | ⟨a0, rfl⟩
  · exact k_R98 _ _ hoc (fun R98' R106' K' => Iff.trans l_e_Wa_makeWeights_119 (hi (R98', R106', K')))
  · exact k_R106 _ _ _ hoc (fun R98' R106' K' => Iff.trans l_e_Wa_makeWeights_119 (hi (R98', R106', K')))
  · exact k_K _ hoc (fun R98' R106' K' => Iff.trans l_e_Wa_makeWeights_119 (hi (R98', R106', K')))
theorem v_e_Wa_makeWeights_119 {U : ut} {u : Nat} {x1 : Int32} {x2 : Int32} {x3 : Int64} {x5 : Int32} {S : cs} {R98 : Int32 → cs → Prop} {R106 : Int32 → Int32 → cs → Prop} {K : cs → Prop} (h : e_Wa_makeWeights_119 U u x1 x2 x3 x5 S R98 R106 K) {G : Prop} (Inv : Int64 → Int32 → cs → Prop) (h0 : Inv x3 x5 S) (hs : ∀ (yx3 : Int64) (yx5 : Int32) (yS : cs) (R : Int32 → Int32 → Int64 → Int32 → cs → Prop), Inv yx3 yx5 yS → b_Wa_makeWeights_119 U u x1 x2 yx3 yx5 yS R98 R106 R K → (∃ (zx3 : Int64) (zx5 : Int32) (zS : cs), R x1 x2 zx3 zx5 zS ∧ Inv zx3 zx5 zS) ∨ G) : G := by
  obtain ⟨I, μ, i0, is⟩ := h
  have go : ∀ (n : Nat) (yx3 : Int64) (yx5 : Int32) (yS : cs), μ x1 x2 yx3 yx5 yS < n → I x1 x2 yx3 yx5 yS → Inv yx3 yx5 yS → G := by
    intro n
    induction n with
    | zero => intro yx3 yx5 yS hy; exact absurd hy (Nat.not_lt_zero _)
    | succ n ih =>
      intro yx3 yx5 yS hy hI hV
      rcases hs yx3 yx5 yS _ hV (is x1 x2 yx3 yx5 yS hI) with ⟨zx3, zx5, zS, ⟨hz, hm⟩, hv⟩ | g
      · exact ih zx3 zx5 zS (Nat.lt_of_lt_of_le hm (Nat.le_of_lt_succ hy)) hz hv
      · exact g
  exact go _ x3 x5 S (Nat.lt_succ_self _) i0 h0
theorem r_e_Wa_makeWeights_119 {U : ut} {u : Nat} {x1 : Int32} {x2 : Int32} {x3 : Int64} {x5 : Int32} {S : cs} {R98 : Int32 → cs → Prop} {R106 : Int32 → Int32 → cs → Prop} {K : cs → Prop} (h : e_Wa_makeWeights_119 U u x1 x2 x3 x5 S R98 R106 K) : b_Wa_makeWeights_119 U u x1 x2 x3 x5 S R98 R106 (fun zx1 zx2 zx3 zx5 zS => e_Wa_makeWeights_119 U u zx1 zx2 zx3 zx5 zS R98 R106 K) K := by
  obtain ⟨I, μ, i0, is⟩ := h
  exact d_b_Wa_makeWeights_119 (is x1 x2 x3 x5 S i0) (fun a0 a1 ha ia => (ia _ _ _ _).mpr ha) (fun a0 a1 a2 ha ia => (ia _ _ _ _).mpr ha) (fun a0 a1 a2 a3 a4 ha ia => (ia _ _ _ _).mpr ⟨I, μ, ha.1, is⟩) (fun a0 ha ia => (ia _ _ _ _).mpr ha)
set_option maxHeartbeats 1000000 in
theorem d_b_Wa_makeWeights_106 {U : ut} {u : Nat} {x1 : Int32} {x2 : Int32} {S : cs} {R98 : Int32 → cs → Prop} {R106 : Int32 → Int32 → cs → Prop} {K : cs → Prop} (h : b_Wa_makeWeights_106 U u x1 x2 S R98 R106 K) {Q : Prop} (k_R98 : ∀ (a0 : Int32) (a1 : cs), R98 a0 a1 → (∀ (R98' : Int32 → cs → Prop) (R106' : Int32 → Int32 → cs → Prop) (K' : cs → Prop), b_Wa_makeWeights_106 U u x1 x2 S R98' R106' K' ↔ R98' a0 a1) → Q) (k_R106 : ∀ (a0 : Int32) (a1 : Int32) (a2 : cs), R106 a0 a1 a2 → (∀ (R98' : Int32 → cs → Prop) (R106' : Int32 → Int32 → cs → Prop) (K' : cs → Prop), b_Wa_makeWeights_106 U u x1 x2 S R98' R106' K' ↔ R106' a0 a1 a2) → Q) (k_K : ∀ (a0 : cs), K a0 → (∀ (R98' : Int32 → cs → Prop) (R106' : Int32 → Int32 → cs → Prop) (K' : cs → Prop), b_Wa_makeWeights_106 U u x1 x2 S R98' R106' K' ↔ K' a0) → Q) : Q := by
  unfold b_Wa_makeWeights_106 at h
  refine dt_p h (fun c_1 h_2 => ?_) (fun c_1 h_2 => ?_)
  ·
    exact k_R98 _ _ h_2 (fun _ _ _ => dt_1 c_1 (fun n => n c_1))
  ·
    exact d_e_Wa_makeWeights_119 h_2 (fun a0 a1 h_4 i_3 => k_R98 a0 a1 h_4 (fun _ _ _ => Iff.trans (dt_2 c_1 c_1) (i_3 _ _ _))) (fun a0 a1 a2 h_6 i_5 => k_R106 a0 a1 a2 h_6 (fun _ _ _ => Iff.trans (dt_2 c_1 c_1) (i_5 _ _ _))) (fun a0 h_8 i_7 => k_K a0 h_8 (fun _ _ _ => Iff.trans (dt_2 c_1 c_1) (i_7 _ _ _)))
theorem l_e_Wa_makeWeights_106 {U : ut} {u : Nat} {x1 : Int32} {x2 : Int32} {S : cs} {R98 : Int32 → cs → Prop} {K : cs → Prop} : e_Wa_makeWeights_106 U u x1 x2 S R98 K ↔ lpE (C := (Int32 → cs → Prop) × (cs → Prop)) (fun (y : (Int32) × (Int32) × (cs)) (R : ((Int32) × (Int32) × (cs)) → Prop) (c : (Int32 → cs → Prop) × (cs → Prop)) => b_Wa_makeWeights_106 U u y.1 y.2.1 y.2.2 c.1 (fun z0 z1 z2 => R (z0, z1, z2)) c.2) (x1, x2, S) (R98, K) :=
  ⟨fun ⟨I, μ, h0, hs⟩ => ⟨fun t => I t.1 t.2.1 t.2.2, fun t => μ t.1 t.2.1 t.2.2, h0, fun t ht => hs _ _ _ ht⟩, fun ⟨I, μ, h0, hs⟩ => ⟨fun y0 y1 y2 => I (y0, y1, y2), fun y0 y1 y2 => μ (y0, y1, y2), h0, fun y0 y1 y2 hy => hs (y0, y1, y2) hy⟩⟩
set_option maxHeartbeats 1000000 in
theorem d_e_Wa_makeWeights_106 {U : ut} {u : Nat} {x1 : Int32} {x2 : Int32} {S : cs} {R98 : Int32 → cs → Prop} {K : cs → Prop} (h : e_Wa_makeWeights_106 U u x1 x2 S R98 K) {Q : Prop} (k_R98 : ∀ (a0 : Int32) (a1 : cs), R98 a0 a1 → (∀ (R98' : Int32 → cs → Prop) (K' : cs → Prop), e_Wa_makeWeights_106 U u x1 x2 S R98' K' ↔ R98' a0 a1) → Q) (k_K : ∀ (a0 : cs), K a0 → (∀ (R98' : Int32 → cs → Prop) (K' : cs → Prop), e_Wa_makeWeights_106 U u x1 x2 S R98' K' ↔ K' a0) → Q) : Q := by
  obtain ⟨o, ho, hoc, hi⟩ := lp_det (C := (Int32 → cs → Prop) × (cs → Prop)) (b := (fun (y : (Int32) × (Int32) × (cs)) (R : ((Int32) × (Int32) × (cs)) → Prop) (c : (Int32 → cs → Prop) × (cs → Prop)) => b_Wa_makeWeights_106 U u y.1 y.2.1 y.2.2 c.1 (fun z0 z1 z2 => R (z0, z1, z2)) c.2)) (O := (fun (o : ((Int32 → cs → Prop) × (cs → Prop)) → Prop) => (∃ (a0 : Int32) (a1 : cs), o = fun c => c.1 a0 a1) ∨ (∃ (a0 : cs), o = fun c => c.2 a0))) (fun y R c hy => d_b_Wa_makeWeights_106 hy (fun a0 a1 ha ia => Or.inr ⟨(fun c => c.1 a0 a1), Or.inl ⟨a0, a1, rfl⟩, ha, fun R' c' => ia c'.1 (fun z0 z1 z2 => R' (z0, z1, z2)) c'.2⟩) (fun a0 a1 a2 ha ia => Or.inl ⟨(a0, a1, a2), ha, fun R' c' => ia c'.1 (fun z0 z1 z2 => R' (z0, z1, z2)) c'.2⟩) (fun a0 ha ia => Or.inr ⟨(fun c => c.2 a0), Or.inr (⟨a0, rfl⟩), ha, fun R' c' => ia c'.1 (fun z0 z1 z2 => R' (z0, z1, z2)) c'.2⟩)) (l_e_Wa_makeWeights_106.mp h)
  rcases ho with ⟨a0, a1, rfl⟩ | ⟨a0, rfl⟩
  · exact k_R98 _ _ hoc (fun R98' K' => Iff.trans l_e_Wa_makeWeights_106 (hi (R98', K')))
  · exact k_K _ hoc (fun R98' K' => Iff.trans l_e_Wa_makeWeights_106 (hi (R98', K')))
theorem v_e_Wa_makeWeights_106 {U : ut} {u : Nat} {x1 : Int32} {x2 : Int32} {S : cs} {R98 : Int32 → cs → Prop} {K : cs → Prop} (h : e_Wa_makeWeights_106 U u x1 x2 S R98 K) {G : Prop} (Inv : Int32 → cs → Prop) (h0 : Inv x2 S) (hs : ∀ (yx2 : Int32) (yS : cs) (R : Int32 → Int32 → cs → Prop), Inv yx2 yS → b_Wa_makeWeights_106 U u x1 yx2 yS R98 R K → (∃ (zx2 : Int32) (zS : cs), R x1 zx2 zS ∧ Inv zx2 zS) ∨ G) : G := by
  obtain ⟨I, μ, i0, is⟩ := h
  have go : ∀ (n : Nat) (yx2 : Int32) (yS : cs), μ x1 yx2 yS < n → I x1 yx2 yS → Inv yx2 yS → G := by
    intro n
    induction n with
    | zero => intro yx2 yS hy; exact absurd hy (Nat.not_lt_zero _)
    | succ n ih =>
      intro yx2 yS hy hI hV
      rcases hs yx2 yS _ hV (is x1 yx2 yS hI) with ⟨zx2, zS, ⟨hz, hm⟩, hv⟩ | g
      · exact ih zx2 zS (Nat.lt_of_lt_of_le hm (Nat.le_of_lt_succ hy)) hz hv
      · exact g
  exact go _ x2 S (Nat.lt_succ_self _) i0 h0
theorem r_e_Wa_makeWeights_106 {U : ut} {u : Nat} {x1 : Int32} {x2 : Int32} {S : cs} {R98 : Int32 → cs → Prop} {K : cs → Prop} (h : e_Wa_makeWeights_106 U u x1 x2 S R98 K) : b_Wa_makeWeights_106 U u x1 x2 S R98 (fun zx1 zx2 zS => e_Wa_makeWeights_106 U u zx1 zx2 zS R98 K) K := by
  obtain ⟨I, μ, i0, is⟩ := h
  exact d_b_Wa_makeWeights_106 (is x1 x2 S i0) (fun a0 a1 ha ia => (ia _ _ _).mpr ha) (fun a0 a1 a2 ha ia => (ia _ _ _).mpr ⟨I, μ, ha.1, is⟩) (fun a0 ha ia => (ia _ _ _).mpr ha)
set_option maxHeartbeats 1000000 in
theorem d_b_Wa_makeWeights_98 {U : ut} {u : Nat} {x1 : Int32} {S : cs} {R98 : Int32 → cs → Prop} {K : cs → Prop} (h : b_Wa_makeWeights_98 U u x1 S R98 K) {Q : Prop} (k_R98 : ∀ (a0 : Int32) (a1 : cs), R98 a0 a1 → (∀ (R98' : Int32 → cs → Prop) (K' : cs → Prop), b_Wa_makeWeights_98 U u x1 S R98' K' ↔ R98' a0 a1) → Q) (k_K : ∀ (a0 : cs), K a0 → (∀ (R98' : Int32 → cs → Prop) (K' : cs → Prop), b_Wa_makeWeights_98 U u x1 S R98' K' ↔ K' a0) → Q) : Q := by
  unfold b_Wa_makeWeights_98 at h
  refine dt_p h (fun c_1 h_2 => ?_) (fun c_1 h_2 => ?_)
  ·
    exact k_K _ h_2 (fun _ _ => dt_1 c_1 (fun n => n c_1))
  ·
    exact d_e_Wa_makeWeights_106 h_2 (fun a0 a1 h_4 i_3 => k_R98 a0 a1 h_4 (fun _ _ => Iff.trans (dt_2 c_1 c_1) (i_3 _ _))) (fun a0 h_6 i_5 => k_K a0 h_6 (fun _ _ => Iff.trans (dt_2 c_1 c_1) (i_5 _ _)))
theorem l_e_Wa_makeWeights_98 {U : ut} {u : Nat} {x1 : Int32} {S : cs} {K : cs → Prop} : e_Wa_makeWeights_98 U u x1 S K ↔ lpE (C := (cs → Prop)) (fun (y : (Int32) × (cs)) (R : ((Int32) × (cs)) → Prop) (c : (cs → Prop)) => b_Wa_makeWeights_98 U u y.1 y.2 (fun z0 z1 => R (z0, z1)) c) (x1, S) K :=
  ⟨fun ⟨I, μ, h0, hs⟩ => ⟨fun t => I t.1 t.2, fun t => μ t.1 t.2, h0, fun t ht => hs _ _ ht⟩, fun ⟨I, μ, h0, hs⟩ => ⟨fun y0 y1 => I (y0, y1), fun y0 y1 => μ (y0, y1), h0, fun y0 y1 hy => hs (y0, y1) hy⟩⟩
set_option maxHeartbeats 1000000 in
theorem d_e_Wa_makeWeights_98 {U : ut} {u : Nat} {x1 : Int32} {S : cs} {K : cs → Prop} (h : e_Wa_makeWeights_98 U u x1 S K) {Q : Prop} (k_K : ∀ (a0 : cs), K a0 → (∀ (K' : cs → Prop), e_Wa_makeWeights_98 U u x1 S K' ↔ K' a0) → Q) : Q := by
  obtain ⟨o, ho, hoc, hi⟩ := lp_det (C := (cs → Prop)) (b := (fun (y : (Int32) × (cs)) (R : ((Int32) × (cs)) → Prop) (c : (cs → Prop)) => b_Wa_makeWeights_98 U u y.1 y.2 (fun z0 z1 => R (z0, z1)) c)) (O := (fun (o : ((cs → Prop)) → Prop) => (∃ (a0 : cs), o = fun c => c a0))) (fun y R c hy => d_b_Wa_makeWeights_98 hy (fun a0 a1 ha ia => Or.inl ⟨(a0, a1), ha, fun R' c' => ia (fun z0 z1 => R' (z0, z1)) c'⟩) (fun a0 ha ia => Or.inr ⟨(fun c => c a0), ⟨a0, rfl⟩, ha, fun R' c' => ia (fun z0 z1 => R' (z0, z1)) c'⟩)) (l_e_Wa_makeWeights_98.mp h)
  rcases ho with ⟨a0, rfl⟩
  · exact k_K _ hoc (fun K' => Iff.trans l_e_Wa_makeWeights_98 (hi K'))
theorem v_e_Wa_makeWeights_98 {U : ut} {u : Nat} {x1 : Int32} {S : cs} {K : cs → Prop} (h : e_Wa_makeWeights_98 U u x1 S K) {G : Prop} (Inv : Int32 → cs → Prop) (h0 : Inv x1 S) (hs : ∀ (yx1 : Int32) (yS : cs) (R : Int32 → cs → Prop), Inv yx1 yS → b_Wa_makeWeights_98 U u yx1 yS R K → (∃ (zx1 : Int32) (zS : cs), R zx1 zS ∧ Inv zx1 zS) ∨ G) : G := by
  obtain ⟨I, μ, i0, is⟩ := h
  have go : ∀ (n : Nat) (yx1 : Int32) (yS : cs), μ yx1 yS < n → I yx1 yS → Inv yx1 yS → G := by
    intro n
    induction n with
    | zero => intro yx1 yS hy; exact absurd hy (Nat.not_lt_zero _)
    | succ n ih =>
      intro yx1 yS hy hI hV
      rcases hs yx1 yS _ hV (is yx1 yS hI) with ⟨zx1, zS, ⟨hz, hm⟩, hv⟩ | g
      · exact ih zx1 zS (Nat.lt_of_lt_of_le hm (Nat.le_of_lt_succ hy)) hz hv
      · exact g
  exact go _ x1 S (Nat.lt_succ_self _) i0 h0
theorem r_e_Wa_makeWeights_98 {U : ut} {u : Nat} {x1 : Int32} {S : cs} {K : cs → Prop} (h : e_Wa_makeWeights_98 U u x1 S K) : b_Wa_makeWeights_98 U u x1 S (fun zx1 zS => e_Wa_makeWeights_98 U u zx1 zS K) K := by
  obtain ⟨I, μ, i0, is⟩ := h
  exact d_b_Wa_makeWeights_98 (is x1 S i0) (fun a0 a1 ha ia => (ia _ _).mpr ⟨I, μ, ha.1, is⟩) (fun a0 ha ia => (ia _ _).mpr ha)
set_option maxHeartbeats 1000000 in
theorem d_b_Wa_makeWeights_23 {U : ut} {u : Nat} {x1 : Int32} {x2 : Int32} {x3 : Int32} {x4 : Int32} {S : cs} {R2 : Int32 → cs → Prop} {R10 : Int32 → Int32 → cs → Prop} {R23 : Int32 → Int32 → Int32 → Int32 → cs → Prop} {K : cs → Prop} (h : b_Wa_makeWeights_23 U u x1 x2 x3 x4 S R2 R10 R23 K) {Q : Prop} (k_R2 : ∀ (a0 : Int32) (a1 : cs), R2 a0 a1 → (∀ (R2' : Int32 → cs → Prop) (R10' : Int32 → Int32 → cs → Prop) (R23' : Int32 → Int32 → Int32 → Int32 → cs → Prop) (K' : cs → Prop), b_Wa_makeWeights_23 U u x1 x2 x3 x4 S R2' R10' R23' K' ↔ R2' a0 a1) → Q) (k_R10 : ∀ (a0 : Int32) (a1 : Int32) (a2 : cs), R10 a0 a1 a2 → (∀ (R2' : Int32 → cs → Prop) (R10' : Int32 → Int32 → cs → Prop) (R23' : Int32 → Int32 → Int32 → Int32 → cs → Prop) (K' : cs → Prop), b_Wa_makeWeights_23 U u x1 x2 x3 x4 S R2' R10' R23' K' ↔ R10' a0 a1 a2) → Q) (k_R23 : ∀ (a0 : Int32) (a1 : Int32) (a2 : Int32) (a3 : Int32) (a4 : cs), R23 a0 a1 a2 a3 a4 → (∀ (R2' : Int32 → cs → Prop) (R10' : Int32 → Int32 → cs → Prop) (R23' : Int32 → Int32 → Int32 → Int32 → cs → Prop) (K' : cs → Prop), b_Wa_makeWeights_23 U u x1 x2 x3 x4 S R2' R10' R23' K' ↔ R23' a0 a1 a2 a3 a4) → Q) (k_K : ∀ (a0 : cs), K a0 → (∀ (R2' : Int32 → cs → Prop) (R10' : Int32 → Int32 → cs → Prop) (R23' : Int32 → Int32 → Int32 → Int32 → cs → Prop) (K' : cs → Prop), b_Wa_makeWeights_23 U u x1 x2 x3 x4 S R2' R10' R23' K' ↔ K' a0) → Q) : Q := by
  unfold b_Wa_makeWeights_23 at h
  refine dt_p h (fun c_1 h_2 => ?_) (fun c_1 h_2 => ?_)
  ·
    exact k_R10 _ _ _ (And.right (And.right (And.right h_2))) (fun _ _ _ _ => Iff.trans (dt_1 c_1 (fun n => n c_1)) (Iff.trans (dt_a (And.left h_2)) (Iff.trans (dt_a (And.left (And.right h_2))) (dt_a (And.left (And.right (And.right h_2)))))))
  ·
    exact k_R23 _ _ _ _ _ (And.right (And.right (And.right (And.right (And.right (And.right h_2)))))) (fun _ _ _ _ => Iff.trans (dt_2 c_1 c_1) (Iff.trans (dt_a (And.left h_2)) (Iff.trans (dt_a (And.left (And.right h_2))) (Iff.trans (dt_a (And.left (And.right (And.right h_2)))) (Iff.trans (dt_a (And.left (And.right (And.right (And.right h_2))))) (Iff.trans (dt_a (And.left (And.right (And.right (And.right (And.right h_2)))))) (dt_a (And.left (And.right (And.right (And.right (And.right (And.right h_2)))))))))))))
theorem l_e_Wa_makeWeights_23 {U : ut} {u : Nat} {x1 : Int32} {x2 : Int32} {x3 : Int32} {x4 : Int32} {S : cs} {R2 : Int32 → cs → Prop} {R10 : Int32 → Int32 → cs → Prop} {K : cs → Prop} : e_Wa_makeWeights_23 U u x1 x2 x3 x4 S R2 R10 K ↔ lpE (C := (Int32 → cs → Prop) × (Int32 → Int32 → cs → Prop) × (cs → Prop)) (fun (y : (Int32) × (Int32) × (Int32) × (Int32) × (cs)) (R : ((Int32) × (Int32) × (Int32) × (Int32) × (cs)) → Prop) (c : (Int32 → cs → Prop) × (Int32 → Int32 → cs → Prop) × (cs → Prop)) => b_Wa_makeWeights_23 U u y.1 y.2.1 y.2.2.1 y.2.2.2.1 y.2.2.2.2 c.1 c.2.1 (fun z0 z1 z2 z3 z4 => R (z0, z1, z2, z3, z4)) c.2.2) (x1, x2, x3, x4, S) (R2, R10, K) :=
  ⟨fun ⟨I, μ, h0, hs⟩ => ⟨fun t => I t.1 t.2.1 t.2.2.1 t.2.2.2.1 t.2.2.2.2, fun t => μ t.1 t.2.1 t.2.2.1 t.2.2.2.1 t.2.2.2.2, h0, fun t ht => hs _ _ _ _ _ ht⟩, fun ⟨I, μ, h0, hs⟩ => ⟨fun y0 y1 y2 y3 y4 => I (y0, y1, y2, y3, y4), fun y0 y1 y2 y3 y4 => μ (y0, y1, y2, y3, y4), h0, fun y0 y1 y2 y3 y4 hy => hs (y0, y1, y2, y3, y4) hy⟩⟩
set_option maxHeartbeats 1000000 in
theorem d_e_Wa_makeWeights_23 {U : ut} {u : Nat} {x1 : Int32} {x2 : Int32} {x3 : Int32} {x4 : Int32} {S : cs} {R2 : Int32 → cs → Prop} {R10 : Int32 → Int32 → cs → Prop} {K : cs → Prop} (h : e_Wa_makeWeights_23 U u x1 x2 x3 x4 S R2 R10 K) {Q : Prop} (k_R2 : ∀ (a0 : Int32) (a1 : cs), R2 a0 a1 → (∀ (R2' : Int32 → cs → Prop) (R10' : Int32 → Int32 → cs → Prop) (K' : cs → Prop), e_Wa_makeWeights_23 U u x1 x2 x3 x4 S R2' R10' K' ↔ R2' a0 a1) → Q) (k_R10 : ∀ (a0 : Int32) (a1 : Int32) (a2 : cs), R10 a0 a1 a2 → (∀ (R2' : Int32 → cs → Prop) (R10' : Int32 → Int32 → cs → Prop) (K' : cs → Prop), e_Wa_makeWeights_23 U u x1 x2 x3 x4 S R2' R10' K' ↔ R10' a0 a1 a2) → Q) (k_K : ∀ (a0 : cs), K a0 → (∀ (R2' : Int32 → cs → Prop) (R10' : Int32 → Int32 → cs → Prop) (K' : cs → Prop), e_Wa_makeWeights_23 U u x1 x2 x3 x4 S R2' R10' K' ↔ K' a0) → Q) : Q := by
  obtain ⟨o, ho, hoc, hi⟩ := lp_det (C := (Int32 → cs → Prop) × (Int32 → Int32 → cs → Prop) × (cs → Prop)) (b := (fun (y : (Int32) × (Int32) × (Int32) × (Int32) × (cs)) (R : ((Int32) × (Int32) × (Int32) × (Int32) × (cs)) → Prop) (c : (Int32 → cs → Prop) × (Int32 → Int32 → cs → Prop) × (cs → Prop)) => b_Wa_makeWeights_23 U u y.1 y.2.1 y.2.2.1 y.2.2.2.1 y.2.2.2.2 c.1 c.2.1 (fun z0 z1 z2 z3 z4 => R (z0, z1, z2, z3, z4)) c.2.2)) (O := (fun (o : ((Int32 → cs → Prop) × (Int32 → Int32 → cs → Prop) × (cs → Prop)) → Prop) => (∃ (a0 : Int32) (a1 : cs), o = fun c => c.1 a0 a1) ∨ (∃ (a0 : Int32) (a1 : Int32) (a2 : cs), o = fun c => c.2.1 a0 a1 a2) ∨ (∃ (a0 : cs), o = fun c => c.2.2 a0))) (fun y R c hy => d_b_Wa_makeWeights_23 hy (fun a0 a1 ha ia => Or.inr ⟨(fun c => c.1 a0 a1), Or.inl ⟨a0, a1, rfl⟩, ha, fun R' c' => ia c'.1 c'.2.1 (fun z0 z1 z2 z3 z4 => R' (z0, z1, z2, z3, z4)) c'.2.2⟩) (fun a0 a1 a2 ha ia => Or.inr ⟨(fun c => c.2.1 a0 a1 a2), Or.inr (Or.inl ⟨a0, a1, a2, rfl⟩), ha, fun R' c' => ia c'.1 c'.2.1 (fun z0 z1 z2 z3 z4 => R' (z0, z1, z2, z3, z4)) c'.2.2⟩) (fun a0 a1 a2 a3 a4 ha ia => Or.inl ⟨(a0, a1, a2, a3, a4), ha, fun R' c' => ia c'.1 c'.2.1 (fun z0 z1 z2 z3 z4 => R' (z0, z1, z2, z3, z4)) c'.2.2⟩) (fun a0 ha ia => Or.inr ⟨(fun c => c.2.2 a0), Or.inr (Or.inr (⟨a0, rfl⟩)), ha, fun R' c' => ia c'.1 c'.2.1 (fun z0 z1 z2 z3 z4 => R' (z0, z1, z2, z3, z4)) c'.2.2⟩)) (l_e_Wa_makeWeights_23.mp h)
  rcases ho with ⟨a0, a1, rfl⟩ | ⟨a0, a1, a2, rfl⟩ | ⟨a0, rfl⟩
  · exact k_R2 _ _ hoc (fun R2' R10' K' => Iff.trans l_e_Wa_makeWeights_23 (hi (R2', R10', K')))
  · exact k_R10 _ _ _ hoc (fun R2' R10' K' => Iff.trans l_e_Wa_makeWeights_23 (hi (R2', R10', K')))
  · exact k_K _ hoc (fun R2' R10' K' => Iff.trans l_e_Wa_makeWeights_23 (hi (R2', R10', K')))
theorem v_e_Wa_makeWeights_23 {U : ut} {u : Nat} {x1 : Int32} {x2 : Int32} {x3 : Int32} {x4 : Int32} {S : cs} {R2 : Int32 → cs → Prop} {R10 : Int32 → Int32 → cs → Prop} {K : cs → Prop} (h : e_Wa_makeWeights_23 U u x1 x2 x3 x4 S R2 R10 K) {G : Prop} (Inv : Int32 → Int32 → cs → Prop) (h0 : Inv x3 x4 S) (hs : ∀ (yx3 : Int32) (yx4 : Int32) (yS : cs) (R : Int32 → Int32 → Int32 → Int32 → cs → Prop), Inv yx3 yx4 yS → b_Wa_makeWeights_23 U u x1 x2 yx3 yx4 yS R2 R10 R K → (∃ (zx3 : Int32) (zx4 : Int32) (zS : cs), R x1 x2 zx3 zx4 zS ∧ Inv zx3 zx4 zS) ∨ G) : G := by
  obtain ⟨I, μ, i0, is⟩ := h
  have go : ∀ (n : Nat) (yx3 : Int32) (yx4 : Int32) (yS : cs), μ x1 x2 yx3 yx4 yS < n → I x1 x2 yx3 yx4 yS → Inv yx3 yx4 yS → G := by
    intro n
    induction n with
    | zero => intro yx3 yx4 yS hy; exact absurd hy (Nat.not_lt_zero _)
    | succ n ih =>
      intro yx3 yx4 yS hy hI hV
      rcases hs yx3 yx4 yS _ hV (is x1 x2 yx3 yx4 yS hI) with ⟨zx3, zx4, zS, ⟨hz, hm⟩, hv⟩ | g
      · exact ih zx3 zx4 zS (Nat.lt_of_lt_of_le hm (Nat.le_of_lt_succ hy)) hz hv
      · exact g
  exact go _ x3 x4 S (Nat.lt_succ_self _) i0 h0
theorem r_e_Wa_makeWeights_23 {U : ut} {u : Nat} {x1 : Int32} {x2 : Int32} {x3 : Int32} {x4 : Int32} {S : cs} {R2 : Int32 → cs → Prop} {R10 : Int32 → Int32 → cs → Prop} {K : cs → Prop} (h : e_Wa_makeWeights_23 U u x1 x2 x3 x4 S R2 R10 K) : b_Wa_makeWeights_23 U u x1 x2 x3 x4 S R2 R10 (fun zx1 zx2 zx3 zx4 zS => e_Wa_makeWeights_23 U u zx1 zx2 zx3 zx4 zS R2 R10 K) K := by
  obtain ⟨I, μ, i0, is⟩ := h
  exact d_b_Wa_makeWeights_23 (is x1 x2 x3 x4 S i0) (fun a0 a1 ha ia => (ia _ _ _ _).mpr ha) (fun a0 a1 a2 ha ia => (ia _ _ _ _).mpr ha) (fun a0 a1 a2 a3 a4 ha ia => (ia _ _ _ _).mpr ⟨I, μ, ha.1, is⟩) (fun a0 ha ia => (ia _ _ _ _).mpr ha)
set_option maxHeartbeats 1000000 in
theorem d_b_Wa_makeWeights_10 {U : ut} {u : Nat} {x1 : Int32} {x2 : Int32} {S : cs} {R2 : Int32 → cs → Prop} {R10 : Int32 → Int32 → cs → Prop} {K : cs → Prop} (h : b_Wa_makeWeights_10 U u x1 x2 S R2 R10 K) {Q : Prop} (k_R2 : ∀ (a0 : Int32) (a1 : cs), R2 a0 a1 → (∀ (R2' : Int32 → cs → Prop) (R10' : Int32 → Int32 → cs → Prop) (K' : cs → Prop), b_Wa_makeWeights_10 U u x1 x2 S R2' R10' K' ↔ R2' a0 a1) → Q) (k_R10 : ∀ (a0 : Int32) (a1 : Int32) (a2 : cs), R10 a0 a1 a2 → (∀ (R2' : Int32 → cs → Prop) (R10' : Int32 → Int32 → cs → Prop) (K' : cs → Prop), b_Wa_makeWeights_10 U u x1 x2 S R2' R10' K' ↔ R10' a0 a1 a2) → Q) (k_K : ∀ (a0 : cs), K a0 → (∀ (R2' : Int32 → cs → Prop) (R10' : Int32 → Int32 → cs → Prop) (K' : cs → Prop), b_Wa_makeWeights_10 U u x1 x2 S R2' R10' K' ↔ K' a0) → Q) : Q := by
  unfold b_Wa_makeWeights_10 at h
  refine dt_p h (fun c_1 h_2 => ?_) (fun c_1 h_2 => ?_)
  ·
    exact k_R2 _ _ h_2 (fun _ _ _ => dt_1 c_1 (fun n => n c_1))
  ·
    exact d_e_Wa_makeWeights_23 h_2 (fun a0 a1 h_4 i_3 => k_R2 a0 a1 h_4 (fun _ _ _ => Iff.trans (dt_2 c_1 c_1) (i_3 _ _ _))) (fun a0 a1 a2 h_6 i_5 => k_R10 a0 a1 a2 h_6 (fun _ _ _ => Iff.trans (dt_2 c_1 c_1) (i_5 _ _ _))) (fun a0 h_8 i_7 => k_K a0 h_8 (fun _ _ _ => Iff.trans (dt_2 c_1 c_1) (i_7 _ _ _)))
theorem l_e_Wa_makeWeights_10 {U : ut} {u : Nat} {x1 : Int32} {x2 : Int32} {S : cs} {R2 : Int32 → cs → Prop} {K : cs → Prop} : e_Wa_makeWeights_10 U u x1 x2 S R2 K ↔ lpE (C := (Int32 → cs → Prop) × (cs → Prop)) (fun (y : (Int32) × (Int32) × (cs)) (R : ((Int32) × (Int32) × (cs)) → Prop) (c : (Int32 → cs → Prop) × (cs → Prop)) => b_Wa_makeWeights_10 U u y.1 y.2.1 y.2.2 c.1 (fun z0 z1 z2 => R (z0, z1, z2)) c.2) (x1, x2, S) (R2, K) :=
  ⟨fun ⟨I, μ, h0, hs⟩ => ⟨fun t => I t.1 t.2.1 t.2.2, fun t => μ t.1 t.2.1 t.2.2, h0, fun t ht => hs _ _ _ ht⟩, fun ⟨I, μ, h0, hs⟩ => ⟨fun y0 y1 y2 => I (y0, y1, y2), fun y0 y1 y2 => μ (y0, y1, y2), h0, fun y0 y1 y2 hy => hs (y0, y1, y2) hy⟩⟩
set_option maxHeartbeats 1000000 in
theorem d_e_Wa_makeWeights_10 {U : ut} {u : Nat} {x1 : Int32} {x2 : Int32} {S : cs} {R2 : Int32 → cs → Prop} {K : cs → Prop} (h : e_Wa_makeWeights_10 U u x1 x2 S R2 K) {Q : Prop} (k_R2 : ∀ (a0 : Int32) (a1 : cs), R2 a0 a1 → (∀ (R2' : Int32 → cs → Prop) (K' : cs → Prop), e_Wa_makeWeights_10 U u x1 x2 S R2' K' ↔ R2' a0 a1) → Q) (k_K : ∀ (a0 : cs), K a0 → (∀ (R2' : Int32 → cs → Prop) (K' : cs → Prop), e_Wa_makeWeights_10 U u x1 x2 S R2' K' ↔ K' a0) → Q) : Q := by
  obtain ⟨o, ho, hoc, hi⟩ := lp_det (C := (Int32 → cs → Prop) × (cs → Prop)) (b := (fun (y : (Int32) × (Int32) × (cs)) (R : ((Int32) × (Int32) × (cs)) → Prop) (c : (Int32 → cs → Prop) × (cs → Prop)) => b_Wa_makeWeights_10 U u y.1 y.2.1 y.2.2 c.1 (fun z0 z1 z2 => R (z0, z1, z2)) c.2)) (O := (fun (o : ((Int32 → cs → Prop) × (cs → Prop)) → Prop) => (∃ (a0 : Int32) (a1 : cs), o = fun c => c.1 a0 a1) ∨ (∃ (a0 : cs), o = fun c => c.2 a0))) (fun y R c hy => d_b_Wa_makeWeights_10 hy (fun a0 a1 ha ia => Or.inr ⟨(fun c => c.1 a0 a1), Or.inl ⟨a0, a1, rfl⟩, ha, fun R' c' => ia c'.1 (fun z0 z1 z2 => R' (z0, z1, z2)) c'.2⟩) (fun a0 a1 a2 ha ia => Or.inl ⟨(a0, a1, a2), ha, fun R' c' => ia c'.1 (fun z0 z1 z2 => R' (z0, z1, z2)) c'.2⟩) (fun a0 ha ia => Or.inr ⟨(fun c => c.2 a0), Or.inr (⟨a0, rfl⟩), ha, fun R' c' => ia c'.1 (fun z0 z1 z2 => R' (z0, z1, z2)) c'.2⟩)) (l_e_Wa_makeWeights_10.mp h)
  rcases ho with ⟨a0, a1, rfl⟩ | ⟨a0, rfl⟩
  · exact k_R2 _ _ hoc (fun R2' K' => Iff.trans l_e_Wa_makeWeights_10 (hi (R2', K')))
  · exact k_K _ hoc (fun R2' K' => Iff.trans l_e_Wa_makeWeights_10 (hi (R2', K')))
theorem v_e_Wa_makeWeights_10 {U : ut} {u : Nat} {x1 : Int32} {x2 : Int32} {S : cs} {R2 : Int32 → cs → Prop} {K : cs → Prop} (h : e_Wa_makeWeights_10 U u x1 x2 S R2 K) {G : Prop} (Inv : Int32 → cs → Prop) (h0 : Inv x2 S) (hs : ∀ (yx2 : Int32) (yS : cs) (R : Int32 → Int32 → cs → Prop), Inv yx2 yS → b_Wa_makeWeights_10 U u x1 yx2 yS R2 R K → (∃ (zx2 : Int32) (zS : cs), R x1 zx2 zS ∧ Inv zx2 zS) ∨ G) : G := by
  obtain ⟨I, μ, i0, is⟩ := h
  have go : ∀ (n : Nat) (yx2 : Int32) (yS : cs), μ x1 yx2 yS < n → I x1 yx2 yS → Inv yx2 yS → G := by
    intro n
    induction n with
    | zero => intro yx2 yS hy; exact absurd hy (Nat.not_lt_zero _)
    | succ n ih =>
      intro yx2 yS hy hI hV
      rcases hs yx2 yS _ hV (is x1 yx2 yS hI) with ⟨zx2, zS, ⟨hz, hm⟩, hv⟩ | g
      · exact ih zx2 zS (Nat.lt_of_lt_of_le hm (Nat.le_of_lt_succ hy)) hz hv
      · exact g
  exact go _ x2 S (Nat.lt_succ_self _) i0 h0
theorem r_e_Wa_makeWeights_10 {U : ut} {u : Nat} {x1 : Int32} {x2 : Int32} {S : cs} {R2 : Int32 → cs → Prop} {K : cs → Prop} (h : e_Wa_makeWeights_10 U u x1 x2 S R2 K) : b_Wa_makeWeights_10 U u x1 x2 S R2 (fun zx1 zx2 zS => e_Wa_makeWeights_10 U u zx1 zx2 zS R2 K) K := by
  obtain ⟨I, μ, i0, is⟩ := h
  exact d_b_Wa_makeWeights_10 (is x1 x2 S i0) (fun a0 a1 ha ia => (ia _ _ _).mpr ha) (fun a0 a1 a2 ha ia => (ia _ _ _).mpr ⟨I, μ, ha.1, is⟩) (fun a0 ha ia => (ia _ _ _).mpr ha)
set_option maxHeartbeats 1000000 in
theorem d_b_Wa_makeWeights_2 {U : ut} {u : Nat} {x1 : Int32} {S : cs} {R2 : Int32 → cs → Prop} {K : cs → Prop} (h : b_Wa_makeWeights_2 U u x1 S R2 K) {Q : Prop} (k_R2 : ∀ (a0 : Int32) (a1 : cs), R2 a0 a1 → (∀ (R2' : Int32 → cs → Prop) (K' : cs → Prop), b_Wa_makeWeights_2 U u x1 S R2' K' ↔ R2' a0 a1) → Q) (k_K : ∀ (a0 : cs), K a0 → (∀ (R2' : Int32 → cs → Prop) (K' : cs → Prop), b_Wa_makeWeights_2 U u x1 S R2' K' ↔ K' a0) → Q) : Q := by
  unfold b_Wa_makeWeights_2 at h
  refine dt_p h (fun c_1 h_2 => ?_) (fun c_1 h_2 => ?_)
  ·
    exact d_e_Wa_makeWeights_98 h_2 (fun a0 h_4 i_3 => k_K a0 h_4 (fun _ _ => Iff.trans (dt_1 c_1 (fun n => n c_1)) (i_3 _)))
  ·
    exact d_e_Wa_makeWeights_10 h_2 (fun a0 a1 h_6 i_5 => k_R2 a0 a1 h_6 (fun _ _ => Iff.trans (dt_2 c_1 c_1) (i_5 _ _))) (fun a0 h_8 i_7 => k_K a0 h_8 (fun _ _ => Iff.trans (dt_2 c_1 c_1) (i_7 _ _)))
theorem l_e_Wa_makeWeights_2 {U : ut} {u : Nat} {x1 : Int32} {S : cs} {K : cs → Prop} : e_Wa_makeWeights_2 U u x1 S K ↔ lpE (C := (cs → Prop)) (fun (y : (Int32) × (cs)) (R : ((Int32) × (cs)) → Prop) (c : (cs → Prop)) => b_Wa_makeWeights_2 U u y.1 y.2 (fun z0 z1 => R (z0, z1)) c) (x1, S) K :=
  ⟨fun ⟨I, μ, h0, hs⟩ => ⟨fun t => I t.1 t.2, fun t => μ t.1 t.2, h0, fun t ht => hs _ _ ht⟩, fun ⟨I, μ, h0, hs⟩ => ⟨fun y0 y1 => I (y0, y1), fun y0 y1 => μ (y0, y1), h0, fun y0 y1 hy => hs (y0, y1) hy⟩⟩
set_option maxHeartbeats 1000000 in
theorem d_e_Wa_makeWeights_2 {U : ut} {u : Nat} {x1 : Int32} {S : cs} {K : cs → Prop} (h : e_Wa_makeWeights_2 U u x1 S K) {Q : Prop} (k_K : ∀ (a0 : cs), K a0 → (∀ (K' : cs → Prop), e_Wa_makeWeights_2 U u x1 S K' ↔ K' a0) → Q) : Q := by
  obtain ⟨o, ho, hoc, hi⟩ := lp_det (C := (cs → Prop)) (b := (fun (y : (Int32) × (cs)) (R : ((Int32) × (cs)) → Prop) (c : (cs → Prop)) => b_Wa_makeWeights_2 U u y.1 y.2 (fun z0 z1 => R (z0, z1)) c)) (O := (fun (o : ((cs → Prop)) → Prop) => (∃ (a0 : cs), o = fun c => c a0))) (fun y R c hy => d_b_Wa_makeWeights_2 hy (fun a0 a1 ha ia => Or.inl ⟨(a0, a1), ha, fun R' c' => ia (fun z0 z1 => R' (z0, z1)) c'⟩) (fun a0 ha ia => Or.inr ⟨(fun c => c a0), ⟨a0, rfl⟩, ha, fun R' c' => ia (fun z0 z1 => R' (z0, z1)) c'⟩)) (l_e_Wa_makeWeights_2.mp h)
  rcases ho with ⟨a0, rfl⟩
  · exact k_K _ hoc (fun K' => Iff.trans l_e_Wa_makeWeights_2 (hi K'))
theorem v_e_Wa_makeWeights_2 {U : ut} {u : Nat} {x1 : Int32} {S : cs} {K : cs → Prop} (h : e_Wa_makeWeights_2 U u x1 S K) {G : Prop} (Inv : Int32 → cs → Prop) (h0 : Inv x1 S) (hs : ∀ (yx1 : Int32) (yS : cs) (R : Int32 → cs → Prop), Inv yx1 yS → b_Wa_makeWeights_2 U u yx1 yS R K → (∃ (zx1 : Int32) (zS : cs), R zx1 zS ∧ Inv zx1 zS) ∨ G) : G := by
  obtain ⟨I, μ, i0, is⟩ := h
  have go : ∀ (n : Nat) (yx1 : Int32) (yS : cs), μ yx1 yS < n → I yx1 yS → Inv yx1 yS → G := by
    intro n
    induction n with
    | zero => intro yx1 yS hy; exact absurd hy (Nat.not_lt_zero _)
    | succ n ih =>
      intro yx1 yS hy hI hV
      rcases hs yx1 yS _ hV (is yx1 yS hI) with ⟨zx1, zS, ⟨hz, hm⟩, hv⟩ | g
      · exact ih zx1 zS (Nat.lt_of_lt_of_le hm (Nat.le_of_lt_succ hy)) hz hv
      · exact g
  exact go _ x1 S (Nat.lt_succ_self _) i0 h0
theorem r_e_Wa_makeWeights_2 {U : ut} {u : Nat} {x1 : Int32} {S : cs} {K : cs → Prop} (h : e_Wa_makeWeights_2 U u x1 S K) : b_Wa_makeWeights_2 U u x1 S (fun zx1 zS => e_Wa_makeWeights_2 U u zx1 zS K) K := by
  obtain ⟨I, μ, i0, is⟩ := h
  exact d_b_Wa_makeWeights_2 (is x1 S i0) (fun a0 a1 ha ia => (ia _ _).mpr ⟨I, μ, ha.1, is⟩) (fun a0 ha ia => (ia _ _).mpr ha)
set_option maxHeartbeats 1000000 in
theorem d_p_Wa_makeWeights {U : ut} {u : Nat} {S : cs} {K : cs → Prop} (h : p_Wa_makeWeights U u S K) {Q : Prop} (k_K : ∀ (a0 : cs), K a0 → (∀ (K' : cs → Prop), p_Wa_makeWeights U u S K' ↔ K' a0) → Q) : Q := by
  unfold p_Wa_makeWeights at h
  exact d_e_Wa_makeWeights_2 h (fun a0 h_2 i_1 => k_K a0 h_2 (fun _ => i_1 _))
set_option maxHeartbeats 1000000 in
theorem d_b_Pa_makeBlock_239 {U : ut} {u : Nat} {x1 : Int32} {x2 : Nat} {x3 : Int32} {x9 : Int32} {s0 : Nat} {s1 : Int32} {s2 : Int32} {S : cs} {R152 : Int32 → Nat → Int32 → Int32 → cs → Prop} {K : cs → Prop} (h : b_Pa_makeBlock_239 U u x1 x2 x3 x9 s0 s1 s2 S R152 K) {Q : Prop} (k_R152 : ∀ (a0 : Int32) (a1 : Nat) (a2 : Int32) (a3 : Int32) (a4 : cs), R152 a0 a1 a2 a3 a4 → (∀ (R152' : Int32 → Nat → Int32 → Int32 → cs → Prop) (K' : cs → Prop), b_Pa_makeBlock_239 U u x1 x2 x3 x9 s0 s1 s2 S R152' K' ↔ R152' a0 a1 a2 a3 a4) → Q) (k_K : ∀ (a0 : cs), K a0 → (∀ (R152' : Int32 → Nat → Int32 → Int32 → cs → Prop) (K' : cs → Prop), b_Pa_makeBlock_239 U u x1 x2 x3 x9 s0 s1 s2 S R152' K' ↔ K' a0) → Q) : Q := by
  unfold b_Pa_makeBlock_239 at h
  exact k_R152 _ _ _ _ _ (And.right (And.right h)) (fun _ _ => Iff.trans (dt_a (And.left h)) (dt_a (And.left (And.right h))))
set_option maxHeartbeats 1000000 in
theorem d_b_Pa_makeBlock_152 {U : ut} {u : Nat} {x1 : Int32} {x2 : Nat} {x3 : Int32} {x9 : Int32} {S : cs} {R152 : Int32 → Nat → Int32 → Int32 → cs → Prop} {K : cs → Prop} (h : b_Pa_makeBlock_152 U u x1 x2 x3 x9 S R152 K) {Q : Prop} (k_R152 : ∀ (a0 : Int32) (a1 : Nat) (a2 : Int32) (a3 : Int32) (a4 : cs), R152 a0 a1 a2 a3 a4 → (∀ (R152' : Int32 → Nat → Int32 → Int32 → cs → Prop) (K' : cs → Prop), b_Pa_makeBlock_152 U u x1 x2 x3 x9 S R152' K' ↔ R152' a0 a1 a2 a3 a4) → Q) (k_K : ∀ (a0 : cs), K a0 → (∀ (R152' : Int32 → Nat → Int32 → Int32 → cs → Prop) (K' : cs → Prop), b_Pa_makeBlock_152 U u x1 x2 x3 x9 S R152' K' ↔ K' a0) → Q) : Q := by
  unfold b_Pa_makeBlock_152 at h
  refine dt_p h (fun c_1 h_2 => ?_) (fun c_1 h_2 => ?_)
  ·
    exact k_K _ h_2 (fun _ _ => dt_1 c_1 (fun n => n c_1))
  ·
    refine d_p_Pa_kindOf (And.right (And.right (And.right (And.right (And.right (And.right h_2)))))) (fun v180 h_4 i_3 => ?_)
    refine dt_p (And.right (And.right (And.right (And.right (And.right (And.right (And.right h_4))))))) (fun c_5 h_6 => ?_) (fun c_5 h_6 => ?_)
    ·
      exact d_b_Pa_makeBlock_239 h_6 (fun a0 a1 a2 a3 a4 h_8 i_7 => k_R152 a0 a1 a2 a3 a4 h_8 (fun _ _ => Iff.trans (dt_2 c_1 c_1) (Iff.trans (dt_a (And.left h_2)) (Iff.trans (dt_a (And.left (And.right h_2))) (Iff.trans (dt_a (And.left (And.right (And.right h_2)))) (Iff.trans (dt_a (And.left (And.right (And.right (And.right h_2))))) (Iff.trans (dt_a (And.left (And.right (And.right (And.right (And.right h_2)))))) (Iff.trans (dt_a (And.left (And.right (And.right (And.right (And.right (And.right h_2))))))) (Iff.trans (i_3 _) (Iff.trans (dt_a (And.left h_4)) (Iff.trans (dt_a (And.left (And.right h_4))) (Iff.trans (dt_a (And.left (And.right (And.right h_4)))) (Iff.trans (dt_a (And.left (And.right (And.right (And.right h_4))))) (Iff.trans (dt_a (And.left (And.right (And.right (And.right (And.right h_4)))))) (Iff.trans (dt_a (And.left (And.right (And.right (And.right (And.right (And.right h_4))))))) (Iff.trans (dt_a (And.left (And.right (And.right (And.right (And.right (And.right (And.right h_4)))))))) (Iff.trans (dt_1 c_5 (fun n => n c_5)) (i_7 _ _)))))))))))))))))) (fun a0 h_10 i_9 => k_K a0 h_10 (fun _ _ => Iff.trans (dt_2 c_1 c_1) (Iff.trans (dt_a (And.left h_2)) (Iff.trans (dt_a (And.left (And.right h_2))) (Iff.trans (dt_a (And.left (And.right (And.right h_2)))) (Iff.trans (dt_a (And.left (And.right (And.right (And.right h_2))))) (Iff.trans (dt_a (And.left (And.right (And.right (And.right (And.right h_2)))))) (Iff.trans (dt_a (And.left (And.right (And.right (And.right (And.right (And.right h_2))))))) (Iff.trans (i_3 _) (Iff.trans (dt_a (And.left h_4)) (Iff.trans (dt_a (And.left (And.right h_4))) (Iff.trans (dt_a (And.left (And.right (And.right h_4)))) (Iff.trans (dt_a (And.left (And.right (And.right (And.right h_4))))) (Iff.trans (dt_a (And.left (And.right (And.right (And.right (And.right h_4)))))) (Iff.trans (dt_a (And.left (And.right (And.right (And.right (And.right (And.right h_4))))))) (Iff.trans (dt_a (And.left (And.right (And.right (And.right (And.right (And.right (And.right h_4)))))))) (Iff.trans (dt_1 c_5 (fun n => n c_5)) (i_9 _ _))))))))))))))))))
    ·
      exact d_b_Pa_makeBlock_239 h_6 (fun a0 a1 a2 a3 a4 h_12 i_11 => k_R152 a0 a1 a2 a3 a4 h_12 (fun _ _ => Iff.trans (dt_2 c_1 c_1) (Iff.trans (dt_a (And.left h_2)) (Iff.trans (dt_a (And.left (And.right h_2))) (Iff.trans (dt_a (And.left (And.right (And.right h_2)))) (Iff.trans (dt_a (And.left (And.right (And.right (And.right h_2))))) (Iff.trans (dt_a (And.left (And.right (And.right (And.right (And.right h_2)))))) (Iff.trans (dt_a (And.left (And.right (And.right (And.right (And.right (And.right h_2))))))) (Iff.trans (i_3 _) (Iff.trans (dt_a (And.left h_4)) (Iff.trans (dt_a (And.left (And.right h_4))) (Iff.trans (dt_a (And.left (And.right (And.right h_4)))) (Iff.trans (dt_a (And.left (And.right (And.right (And.right h_4))))) (Iff.trans (dt_a (And.left (And.right (And.right (And.right (And.right h_4)))))) (Iff.trans (dt_a (And.left (And.right (And.right (And.right (And.right (And.right h_4))))))) (Iff.trans (dt_a (And.left (And.right (And.right (And.right (And.right (And.right (And.right h_4)))))))) (Iff.trans (dt_2 c_5 c_5) (i_11 _ _)))))))))))))))))) (fun a0 h_14 i_13 => k_K a0 h_14 (fun _ _ => Iff.trans (dt_2 c_1 c_1) (Iff.trans (dt_a (And.left h_2)) (Iff.trans (dt_a (And.left (And.right h_2))) (Iff.trans (dt_a (And.left (And.right (And.right h_2)))) (Iff.trans (dt_a (And.left (And.right (And.right (And.right h_2))))) (Iff.trans (dt_a (And.left (And.right (And.right (And.right (And.right h_2)))))) (Iff.trans (dt_a (And.left (And.right (And.right (And.right (And.right (And.right h_2))))))) (Iff.trans (i_3 _) (Iff.trans (dt_a (And.left h_4)) (Iff.trans (dt_a (And.left (And.right h_4))) (Iff.trans (dt_a (And.left (And.right (And.right h_4)))) (Iff.trans (dt_a (And.left (And.right (And.right (And.right h_4))))) (Iff.trans (dt_a (And.left (And.right (And.right (And.right (And.right h_4)))))) (Iff.trans (dt_a (And.left (And.right (And.right (And.right (And.right (And.right h_4))))))) (Iff.trans (dt_a (And.left (And.right (And.right (And.right (And.right (And.right (And.right h_4)))))))) (Iff.trans (dt_2 c_5 c_5) (i_13 _ _))))))))))))))))))
theorem l_e_Pa_makeBlock_152 {U : ut} {u : Nat} {x1 : Int32} {x2 : Nat} {x3 : Int32} {x9 : Int32} {S : cs} {K : cs → Prop} : e_Pa_makeBlock_152 U u x1 x2 x3 x9 S K ↔ lpE (C := (cs → Prop)) (fun (y : (Int32) × (Nat) × (Int32) × (Int32) × (cs)) (R : ((Int32) × (Nat) × (Int32) × (Int32) × (cs)) → Prop) (c : (cs → Prop)) => b_Pa_makeBlock_152 U u y.1 y.2.1 y.2.2.1 y.2.2.2.1 y.2.2.2.2 (fun z0 z1 z2 z3 z4 => R (z0, z1, z2, z3, z4)) c) (x1, x2, x3, x9, S) K :=
  ⟨fun ⟨I, μ, h0, hs⟩ => ⟨fun t => I t.1 t.2.1 t.2.2.1 t.2.2.2.1 t.2.2.2.2, fun t => μ t.1 t.2.1 t.2.2.1 t.2.2.2.1 t.2.2.2.2, h0, fun t ht => hs _ _ _ _ _ ht⟩, fun ⟨I, μ, h0, hs⟩ => ⟨fun y0 y1 y2 y3 y4 => I (y0, y1, y2, y3, y4), fun y0 y1 y2 y3 y4 => μ (y0, y1, y2, y3, y4), h0, fun y0 y1 y2 y3 y4 hy => hs (y0, y1, y2, y3, y4) hy⟩⟩
set_option maxHeartbeats 1000000 in
theorem d_e_Pa_makeBlock_152 {U : ut} {u : Nat} {x1 : Int32} {x2 : Nat} {x3 : Int32} {x9 : Int32} {S : cs} {K : cs → Prop} (h : e_Pa_makeBlock_152 U u x1 x2 x3 x9 S K) {Q : Prop} (k_K : ∀ (a0 : cs), K a0 → (∀ (K' : cs → Prop), e_Pa_makeBlock_152 U u x1 x2 x3 x9 S K' ↔ K' a0) → Q) : Q := by
  obtain ⟨o, ho, hoc, hi⟩ := lp_det (C := (cs → Prop)) (b := (fun (y : (Int32) × (Nat) × (Int32) × (Int32) × (cs)) (R : ((Int32) × (Nat) × (Int32) × (Int32) × (cs)) → Prop) (c : (cs → Prop)) => b_Pa_makeBlock_152 U u y.1 y.2.1 y.2.2.1 y.2.2.2.1 y.2.2.2.2 (fun z0 z1 z2 z3 z4 => R (z0, z1, z2, z3, z4)) c)) (O := (fun (o : ((cs → Prop)) → Prop) => (∃ (a0 : cs), o = fun c => c a0))) (fun y R c hy => d_b_Pa_makeBlock_152 hy (fun a0 a1 a2 a3 a4 ha ia => Or.inl ⟨(a0, a1, a2, a3, a4), ha, fun R' c' => ia (fun z0 z1 z2 z3 z4 => R' (z0, z1, z2, z3, z4)) c'⟩) (fun a0 ha ia => Or.inr ⟨(fun c => c a0), ⟨a0, rfl⟩, ha, fun R' c' => ia (fun z0 z1 z2 z3 z4 => R' (z0, z1, z2, z3, z4)) c'⟩)) (l_e_Pa_makeBlock_152.mp h)
  rcases ho with ⟨a0, rfl⟩
  · exact k_K _ hoc (fun K' => Iff.trans l_e_Pa_makeBlock_152 (hi K'))
theorem v_e_Pa_makeBlock_152 {U : ut} {u : Nat} {x1 : Int32} {x2 : Nat} {x3 : Int32} {x9 : Int32} {S : cs} {K : cs → Prop} (h : e_Pa_makeBlock_152 U u x1 x2 x3 x9 S K) {G : Prop} (Inv : Int32 → cs → Prop) (h0 : Inv x9 S) (hs : ∀ (yx9 : Int32) (yS : cs) (R : Int32 → Nat → Int32 → Int32 → cs → Prop), Inv yx9 yS → b_Pa_makeBlock_152 U u x1 x2 x3 yx9 yS R K → (∃ (zx9 : Int32) (zS : cs), R x1 x2 x3 zx9 zS ∧ Inv zx9 zS) ∨ G) : G := by
  obtain ⟨I, μ, i0, is⟩ := h
  have go : ∀ (n : Nat) (yx9 : Int32) (yS : cs), μ x1 x2 x3 yx9 yS < n → I x1 x2 x3 yx9 yS → Inv yx9 yS → G := by
    intro n
    induction n with
    | zero => intro yx9 yS hy; exact absurd hy (Nat.not_lt_zero _)
    | succ n ih =>
      intro yx9 yS hy hI hV
      rcases hs yx9 yS _ hV (is x1 x2 x3 yx9 yS hI) with ⟨zx9, zS, ⟨hz, hm⟩, hv⟩ | g
      · exact ih zx9 zS (Nat.lt_of_lt_of_le hm (Nat.le_of_lt_succ hy)) hz hv
      · exact g
  exact go _ x9 S (Nat.lt_succ_self _) i0 h0
theorem r_e_Pa_makeBlock_152 {U : ut} {u : Nat} {x1 : Int32} {x2 : Nat} {x3 : Int32} {x9 : Int32} {S : cs} {K : cs → Prop} (h : e_Pa_makeBlock_152 U u x1 x2 x3 x9 S K) : b_Pa_makeBlock_152 U u x1 x2 x3 x9 S (fun zx1 zx2 zx3 zx9 zS => e_Pa_makeBlock_152 U u zx1 zx2 zx3 zx9 zS K) K := by
  obtain ⟨I, μ, i0, is⟩ := h
  exact d_b_Pa_makeBlock_152 (is x1 x2 x3 x9 S i0) (fun a0 a1 a2 a3 a4 ha ia => (ia _ _).mpr ⟨I, μ, ha.1, is⟩) (fun a0 ha ia => (ia _ _).mpr ha)
set_option maxHeartbeats 1000000 in
theorem d_b_Pa_makeBlock_73 {U : ut} {u : Nat} {x1 : Int32} {x2 : Nat} {x3 : Int32} {x5 : Int32} {x6 : Int32} {x7 : Int32} {x8 : Int32} {x9 : Int32} {S : cs} {R73 : Int32 → Nat → Int32 → Int32 → Int32 → Int32 → Int32 → Int32 → cs → Prop} {K : cs → Prop} (h : b_Pa_makeBlock_73 U u x1 x2 x3 x5 x6 x7 x8 x9 S R73 K) {Q : Prop} (k_R73 : ∀ (a0 : Int32) (a1 : Nat) (a2 : Int32) (a3 : Int32) (a4 : Int32) (a5 : Int32) (a6 : Int32) (a7 : Int32) (a8 : cs), R73 a0 a1 a2 a3 a4 a5 a6 a7 a8 → (∀ (R73' : Int32 → Nat → Int32 → Int32 → Int32 → Int32 → Int32 → Int32 → cs → Prop) (K' : cs → Prop), b_Pa_makeBlock_73 U u x1 x2 x3 x5 x6 x7 x8 x9 S R73' K' ↔ R73' a0 a1 a2 a3 a4 a5 a6 a7 a8) → Q) (k_K : ∀ (a0 : cs), K a0 → (∀ (R73' : Int32 → Nat → Int32 → Int32 → Int32 → Int32 → Int32 → Int32 → cs → Prop) (K' : cs → Prop), b_Pa_makeBlock_73 U u x1 x2 x3 x5 x6 x7 x8 x9 S R73' K' ↔ K' a0) → Q) : Q := by
  unfold b_Pa_makeBlock_73 at h
  refine dt_p h (fun c_1 h_2 => ?_) (fun c_1 h_2 => ?_)
  ·
    refine d_p_Wa_makeWeights (And.right (And.right h_2)) (fun S146 h_4 i_3 => ?_)
    exact d_e_Pa_makeBlock_152 h_4 (fun a0 h_6 i_5 => k_K a0 h_6 (fun _ _ => Iff.trans (dt_1 c_1 (fun n => n c_1)) (Iff.trans (dt_a (And.left h_2)) (Iff.trans (dt_a (And.left (And.right h_2))) (Iff.trans (i_3 _) (i_5 _))))))
  ·
    refine d_p_B_spot (And.right (And.right (And.right (And.right (And.right (And.right h_2)))))) (fun v131 h_8 i_7 => ?_)
    exact k_R73 _ _ _ _ _ _ _ _ _ (And.right (And.right (And.right (And.right h_8)))) (fun _ _ => Iff.trans (dt_2 c_1 c_1) (Iff.trans (dt_a (And.left h_2)) (Iff.trans (dt_a (And.left (And.right h_2))) (Iff.trans (dt_a (And.left (And.right (And.right h_2)))) (Iff.trans (dt_a (And.left (And.right (And.right (And.right h_2))))) (Iff.trans (dt_a (And.left (And.right (And.right (And.right (And.right h_2)))))) (Iff.trans (dt_a (And.left (And.right (And.right (And.right (And.right (And.right h_2))))))) (Iff.trans (i_7 _) (Iff.trans (dt_a (And.left h_8)) (Iff.trans (dt_a (And.left (And.right h_8))) (Iff.trans (dt_a (And.left (And.right (And.right h_8)))) (dt_a (And.left (And.right (And.right (And.right h_8))))))))))))))))
theorem l_e_Pa_makeBlock_73 {U : ut} {u : Nat} {x1 : Int32} {x2 : Nat} {x3 : Int32} {x5 : Int32} {x6 : Int32} {x7 : Int32} {x8 : Int32} {x9 : Int32} {S : cs} {K : cs → Prop} : e_Pa_makeBlock_73 U u x1 x2 x3 x5 x6 x7 x8 x9 S K ↔ lpE (C := (cs → Prop)) (fun (y : (Int32) × (Nat) × (Int32) × (Int32) × (Int32) × (Int32) × (Int32) × (Int32) × (cs)) (R : ((Int32) × (Nat) × (Int32) × (Int32) × (Int32) × (Int32) × (Int32) × (Int32) × (cs)) → Prop) (c : (cs → Prop)) => b_Pa_makeBlock_73 U u y.1 y.2.1 y.2.2.1 y.2.2.2.1 y.2.2.2.2.1 y.2.2.2.2.2.1 y.2.2.2.2.2.2.1 y.2.2.2.2.2.2.2.1 y.2.2.2.2.2.2.2.2 (fun z0 z1 z2 z3 z4 z5 z6 z7 z8 => R (z0, z1, z2, z3, z4, z5, z6, z7, z8)) c) (x1, x2, x3, x5, x6, x7, x8, x9, S) K :=
  ⟨fun ⟨I, μ, h0, hs⟩ => ⟨fun t => I t.1 t.2.1 t.2.2.1 t.2.2.2.1 t.2.2.2.2.1 t.2.2.2.2.2.1 t.2.2.2.2.2.2.1 t.2.2.2.2.2.2.2.1 t.2.2.2.2.2.2.2.2, fun t => μ t.1 t.2.1 t.2.2.1 t.2.2.2.1 t.2.2.2.2.1 t.2.2.2.2.2.1 t.2.2.2.2.2.2.1 t.2.2.2.2.2.2.2.1 t.2.2.2.2.2.2.2.2, h0, fun t ht => hs _ _ _ _ _ _ _ _ _ ht⟩, fun ⟨I, μ, h0, hs⟩ => ⟨fun y0 y1 y2 y3 y4 y5 y6 y7 y8 => I (y0, y1, y2, y3, y4, y5, y6, y7, y8), fun y0 y1 y2 y3 y4 y5 y6 y7 y8 => μ (y0, y1, y2, y3, y4, y5, y6, y7, y8), h0, fun y0 y1 y2 y3 y4 y5 y6 y7 y8 hy => hs (y0, y1, y2, y3, y4, y5, y6, y7, y8) hy⟩⟩
set_option maxHeartbeats 1000000 in
theorem d_e_Pa_makeBlock_73 {U : ut} {u : Nat} {x1 : Int32} {x2 : Nat} {x3 : Int32} {x5 : Int32} {x6 : Int32} {x7 : Int32} {x8 : Int32} {x9 : Int32} {S : cs} {K : cs → Prop} (h : e_Pa_makeBlock_73 U u x1 x2 x3 x5 x6 x7 x8 x9 S K) {Q : Prop} (k_K : ∀ (a0 : cs), K a0 → (∀ (K' : cs → Prop), e_Pa_makeBlock_73 U u x1 x2 x3 x5 x6 x7 x8 x9 S K' ↔ K' a0) → Q) : Q := by
  obtain ⟨o, ho, hoc, hi⟩ := lp_det (C := (cs → Prop)) (b := (fun (y : (Int32) × (Nat) × (Int32) × (Int32) × (Int32) × (Int32) × (Int32) × (Int32) × (cs)) (R : ((Int32) × (Nat) × (Int32) × (Int32) × (Int32) × (Int32) × (Int32) × (Int32) × (cs)) → Prop) (c : (cs → Prop)) => b_Pa_makeBlock_73 U u y.1 y.2.1 y.2.2.1 y.2.2.2.1 y.2.2.2.2.1 y.2.2.2.2.2.1 y.2.2.2.2.2.2.1 y.2.2.2.2.2.2.2.1 y.2.2.2.2.2.2.2.2 (fun z0 z1 z2 z3 z4 z5 z6 z7 z8 => R (z0, z1, z2, z3, z4, z5, z6, z7, z8)) c)) (O := (fun (o : ((cs → Prop)) → Prop) => (∃ (a0 : cs), o = fun c => c a0))) (fun y R c hy => d_b_Pa_makeBlock_73 hy (fun a0 a1 a2 a3 a4 a5 a6 a7 a8 ha ia => Or.inl ⟨(a0, a1, a2, a3, a4, a5, a6, a7, a8), ha, fun R' c' => ia (fun z0 z1 z2 z3 z4 z5 z6 z7 z8 => R' (z0, z1, z2, z3, z4, z5, z6, z7, z8)) c'⟩) (fun a0 ha ia => Or.inr ⟨(fun c => c a0), ⟨a0, rfl⟩, ha, fun R' c' => ia (fun z0 z1 z2 z3 z4 z5 z6 z7 z8 => R' (z0, z1, z2, z3, z4, z5, z6, z7, z8)) c'⟩)) (l_e_Pa_makeBlock_73.mp h)
  rcases ho with ⟨a0, rfl⟩
  · exact k_K _ hoc (fun K' => Iff.trans l_e_Pa_makeBlock_73 (hi K'))
theorem v_e_Pa_makeBlock_73 {U : ut} {u : Nat} {x1 : Int32} {x2 : Nat} {x3 : Int32} {x5 : Int32} {x6 : Int32} {x7 : Int32} {x8 : Int32} {x9 : Int32} {S : cs} {K : cs → Prop} (h : e_Pa_makeBlock_73 U u x1 x2 x3 x5 x6 x7 x8 x9 S K) {G : Prop} (Inv : Int32 → cs → Prop) (h0 : Inv x9 S) (hs : ∀ (yx9 : Int32) (yS : cs) (R : Int32 → Nat → Int32 → Int32 → Int32 → Int32 → Int32 → Int32 → cs → Prop), Inv yx9 yS → b_Pa_makeBlock_73 U u x1 x2 x3 x5 x6 x7 x8 yx9 yS R K → (∃ (zx9 : Int32) (zS : cs), R x1 x2 x3 x5 x6 x7 x8 zx9 zS ∧ Inv zx9 zS) ∨ G) : G := by
  obtain ⟨I, μ, i0, is⟩ := h
  have go : ∀ (n : Nat) (yx9 : Int32) (yS : cs), μ x1 x2 x3 x5 x6 x7 x8 yx9 yS < n → I x1 x2 x3 x5 x6 x7 x8 yx9 yS → Inv yx9 yS → G := by
    intro n
    induction n with
    | zero => intro yx9 yS hy; exact absurd hy (Nat.not_lt_zero _)
    | succ n ih =>
      intro yx9 yS hy hI hV
      rcases hs yx9 yS _ hV (is x1 x2 x3 x5 x6 x7 x8 yx9 yS hI) with ⟨zx9, zS, ⟨hz, hm⟩, hv⟩ | g
      · exact ih zx9 zS (Nat.lt_of_lt_of_le hm (Nat.le_of_lt_succ hy)) hz hv
      · exact g
  exact go _ x9 S (Nat.lt_succ_self _) i0 h0
theorem r_e_Pa_makeBlock_73 {U : ut} {u : Nat} {x1 : Int32} {x2 : Nat} {x3 : Int32} {x5 : Int32} {x6 : Int32} {x7 : Int32} {x8 : Int32} {x9 : Int32} {S : cs} {K : cs → Prop} (h : e_Pa_makeBlock_73 U u x1 x2 x3 x5 x6 x7 x8 x9 S K) : b_Pa_makeBlock_73 U u x1 x2 x3 x5 x6 x7 x8 x9 S (fun zx1 zx2 zx3 zx5 zx6 zx7 zx8 zx9 zS => e_Pa_makeBlock_73 U u zx1 zx2 zx3 zx5 zx6 zx7 zx8 zx9 zS K) K := by
  obtain ⟨I, μ, i0, is⟩ := h
  exact d_b_Pa_makeBlock_73 (is x1 x2 x3 x5 x6 x7 x8 x9 S i0) (fun a0 a1 a2 a3 a4 a5 a6 a7 a8 ha ia => (ia _ _).mpr ⟨I, μ, ha.1, is⟩) (fun a0 ha ia => (ia _ _).mpr ha)
set_option maxHeartbeats 1000000 in
theorem d_p_Pa_makeBlock {U : ut} {u : Nat} {x1 : Int32} {x2 : Nat} {S : cs} {K : cs → Prop} (h : p_Pa_makeBlock U u x1 x2 S K) {Q : Prop} (k_K : ∀ (a0 : cs), K a0 → (∀ (K' : cs → Prop), p_Pa_makeBlock U u x1 x2 S K' ↔ K' a0) → Q) : Q := by
  unfold p_Pa_makeBlock at h
  exact d_e_Pa_makeBlock_73 (And.right (And.right (And.right (And.right (And.right (And.right (And.right (And.right (And.right (And.right (And.right (And.right (And.right (And.right (And.right h))))))))))))))) (fun a0 h_2 i_1 => k_K a0 h_2 (fun _ => Iff.trans (dt_a (And.left h)) (Iff.trans (dt_a (And.left (And.right h))) (Iff.trans (dt_a (And.left (And.right (And.right h)))) (Iff.trans (dt_a (And.left (And.right (And.right (And.right h))))) (Iff.trans (dt_a (And.left (And.right (And.right (And.right (And.right h)))))) (Iff.trans (dt_a (And.left (And.right (And.right (And.right (And.right (And.right h))))))) (Iff.trans (dt_a (And.left (And.right (And.right (And.right (And.right (And.right (And.right h)))))))) (Iff.trans (dt_a (And.left (And.right (And.right (And.right (And.right (And.right (And.right (And.right h))))))))) (Iff.trans (dt_a (And.left (And.right (And.right (And.right (And.right (And.right (And.right (And.right (And.right h)))))))))) (Iff.trans (dt_a (And.left (And.right (And.right (And.right (And.right (And.right (And.right (And.right (And.right (And.right h))))))))))) (Iff.trans (dt_a (And.left (And.right (And.right (And.right (And.right (And.right (And.right (And.right (And.right (And.right (And.right h)))))))))))) (Iff.trans (dt_a (And.left (And.right (And.right (And.right (And.right (And.right (And.right (And.right (And.right (And.right (And.right (And.right h))))))))))))) (Iff.trans (dt_a (And.left (And.right (And.right (And.right (And.right (And.right (And.right (And.right (And.right (And.right (And.right (And.right (And.right h)))))))))))))) (Iff.trans (dt_a (And.left (And.right (And.right (And.right (And.right (And.right (And.right (And.right (And.right (And.right (And.right (And.right (And.right (And.right h))))))))))))))) (Iff.trans (dt_a (And.left (And.right (And.right (And.right (And.right (And.right (And.right (And.right (And.right (And.right (And.right (And.right (And.right (And.right (And.right h)))))))))))))))) (i_1 _)))))))))))))))))
set_option maxHeartbeats 1000000 in
theorem d_b_Pa_makeLevels_172 {U : ut} {u : Nat} {x2 : Nat} {x5 : Int32} {S : cs} {R172 : Nat → Int32 → cs → Prop} {K : cs → Prop} (h : b_Pa_makeLevels_172 U u x2 x5 S R172 K) {Q : Prop} (k_R172 : ∀ (a0 : Nat) (a1 : Int32) (a2 : cs), R172 a0 a1 a2 → (∀ (R172' : Nat → Int32 → cs → Prop) (K' : cs → Prop), b_Pa_makeLevels_172 U u x2 x5 S R172' K' ↔ R172' a0 a1 a2) → Q) (k_K : ∀ (a0 : cs), K a0 → (∀ (R172' : Nat → Int32 → cs → Prop) (K' : cs → Prop), b_Pa_makeLevels_172 U u x2 x5 S R172' K' ↔ K' a0) → Q) : Q := by
  unfold b_Pa_makeLevels_172 at h
  refine dt_p (And.right (And.right h)) (fun c_1 h_2 => ?_) (fun c_1 h_2 => ?_)
  ·
    exact k_K _ h_2 (fun _ _ => Iff.trans (dt_a (And.left h)) (Iff.trans (dt_a (And.left (And.right h))) (dt_1 c_1 (fun n => n c_1))))
  ·
    refine d_p_Pa_makeBlock (And.right (And.right (And.right (And.right h_2)))) (fun S196 h_4 i_3 => ?_)
    exact k_R172 _ _ _ h_4 (fun _ _ => Iff.trans (dt_a (And.left h)) (Iff.trans (dt_a (And.left (And.right h))) (Iff.trans (dt_2 c_1 c_1) (Iff.trans (dt_a (And.left h_2)) (Iff.trans (dt_a (And.left (And.right h_2))) (Iff.trans (dt_a (And.left (And.right (And.right h_2)))) (Iff.trans (dt_a (And.left (And.right (And.right (And.right h_2))))) (i_3 _))))))))
theorem l_e_Pa_makeLevels_172 {U : ut} {u : Nat} {x2 : Nat} {x5 : Int32} {S : cs} {K : cs → Prop} : e_Pa_makeLevels_172 U u x2 x5 S K ↔ lpE (C := (cs → Prop)) (fun (y : (Nat) × (Int32) × (cs)) (R : ((Nat) × (Int32) × (cs)) → Prop) (c : (cs → Prop)) => b_Pa_makeLevels_172 U u y.1 y.2.1 y.2.2 (fun z0 z1 z2 => R (z0, z1, z2)) c) (x2, x5, S) K :=
  ⟨fun ⟨I, μ, h0, hs⟩ => ⟨fun t => I t.1 t.2.1 t.2.2, fun t => μ t.1 t.2.1 t.2.2, h0, fun t ht => hs _ _ _ ht⟩, fun ⟨I, μ, h0, hs⟩ => ⟨fun y0 y1 y2 => I (y0, y1, y2), fun y0 y1 y2 => μ (y0, y1, y2), h0, fun y0 y1 y2 hy => hs (y0, y1, y2) hy⟩⟩
set_option maxHeartbeats 1000000 in
theorem d_e_Pa_makeLevels_172 {U : ut} {u : Nat} {x2 : Nat} {x5 : Int32} {S : cs} {K : cs → Prop} (h : e_Pa_makeLevels_172 U u x2 x5 S K) {Q : Prop} (k_K : ∀ (a0 : cs), K a0 → (∀ (K' : cs → Prop), e_Pa_makeLevels_172 U u x2 x5 S K' ↔ K' a0) → Q) : Q := by
  obtain ⟨o, ho, hoc, hi⟩ := lp_det (C := (cs → Prop)) (b := (fun (y : (Nat) × (Int32) × (cs)) (R : ((Nat) × (Int32) × (cs)) → Prop) (c : (cs → Prop)) => b_Pa_makeLevels_172 U u y.1 y.2.1 y.2.2 (fun z0 z1 z2 => R (z0, z1, z2)) c)) (O := (fun (o : ((cs → Prop)) → Prop) => (∃ (a0 : cs), o = fun c => c a0))) (fun y R c hy => d_b_Pa_makeLevels_172 hy (fun a0 a1 a2 ha ia => Or.inl ⟨(a0, a1, a2), ha, fun R' c' => ia (fun z0 z1 z2 => R' (z0, z1, z2)) c'⟩) (fun a0 ha ia => Or.inr ⟨(fun c => c a0), ⟨a0, rfl⟩, ha, fun R' c' => ia (fun z0 z1 z2 => R' (z0, z1, z2)) c'⟩)) (l_e_Pa_makeLevels_172.mp h)
  rcases ho with ⟨a0, rfl⟩
  · exact k_K _ hoc (fun K' => Iff.trans l_e_Pa_makeLevels_172 (hi K'))
theorem v_e_Pa_makeLevels_172 {U : ut} {u : Nat} {x2 : Nat} {x5 : Int32} {S : cs} {K : cs → Prop} (h : e_Pa_makeLevels_172 U u x2 x5 S K) {G : Prop} (Inv : Int32 → cs → Prop) (h0 : Inv x5 S) (hs : ∀ (yx5 : Int32) (yS : cs) (R : Nat → Int32 → cs → Prop), Inv yx5 yS → b_Pa_makeLevels_172 U u x2 yx5 yS R K → (∃ (zx5 : Int32) (zS : cs), R x2 zx5 zS ∧ Inv zx5 zS) ∨ G) : G := by
  obtain ⟨I, μ, i0, is⟩ := h
  have go : ∀ (n : Nat) (yx5 : Int32) (yS : cs), μ x2 yx5 yS < n → I x2 yx5 yS → Inv yx5 yS → G := by
    intro n
    induction n with
    | zero => intro yx5 yS hy; exact absurd hy (Nat.not_lt_zero _)
    | succ n ih =>
      intro yx5 yS hy hI hV
      rcases hs yx5 yS _ hV (is x2 yx5 yS hI) with ⟨zx5, zS, ⟨hz, hm⟩, hv⟩ | g
      · exact ih zx5 zS (Nat.lt_of_lt_of_le hm (Nat.le_of_lt_succ hy)) hz hv
      · exact g
  exact go _ x5 S (Nat.lt_succ_self _) i0 h0
theorem r_e_Pa_makeLevels_172 {U : ut} {u : Nat} {x2 : Nat} {x5 : Int32} {S : cs} {K : cs → Prop} (h : e_Pa_makeLevels_172 U u x2 x5 S K) : b_Pa_makeLevels_172 U u x2 x5 S (fun zx2 zx5 zS => e_Pa_makeLevels_172 U u zx2 zx5 zS K) K := by
  obtain ⟨I, μ, i0, is⟩ := h
  exact d_b_Pa_makeLevels_172 (is x2 x5 S i0) (fun a0 a1 a2 ha ia => (ia _ _).mpr ⟨I, μ, ha.1, is⟩) (fun a0 ha ia => (ia _ _).mpr ha)
set_option maxHeartbeats 1000000 in
theorem d_b_Pa_makeLevels_144 {U : ut} {u : Nat} {x1 : Nat} {x2 : Nat} {x5 : Int32} {S : cs} {R144 : Nat → Nat → Int32 → cs → Prop} {K : cs → Prop} (h : b_Pa_makeLevels_144 U u x1 x2 x5 S R144 K) {Q : Prop} (k_R144 : ∀ (a0 : Nat) (a1 : Nat) (a2 : Int32) (a3 : cs), R144 a0 a1 a2 a3 → (∀ (R144' : Nat → Nat → Int32 → cs → Prop) (K' : cs → Prop), b_Pa_makeLevels_144 U u x1 x2 x5 S R144' K' ↔ R144' a0 a1 a2 a3) → Q) (k_K : ∀ (a0 : cs), K a0 → (∀ (R144' : Nat → Nat → Int32 → cs → Prop) (K' : cs → Prop), b_Pa_makeLevels_144 U u x1 x2 x5 S R144' K' ↔ K' a0) → Q) : Q := by
  unfold b_Pa_makeLevels_144 at h
  refine dt_p (And.right (And.right h)) (fun c_1 h_2 => ?_) (fun c_1 h_2 => ?_)
  ·
    exact d_e_Pa_makeLevels_172 h_2 (fun a0 h_4 i_3 => k_K a0 h_4 (fun _ _ => Iff.trans (dt_a (And.left h)) (Iff.trans (dt_a (And.left (And.right h))) (Iff.trans (dt_1 c_1 (fun n => n c_1)) (i_3 _)))))
  ·
    refine d_p_Pa_makeLayer h_2 (fun S160 h_6 i_5 => ?_)
    exact k_R144 _ _ _ _ h_6 (fun _ _ => Iff.trans (dt_a (And.left h)) (Iff.trans (dt_a (And.left (And.right h))) (Iff.trans (dt_2 c_1 c_1) (i_5 _))))
theorem l_e_Pa_makeLevels_144 {U : ut} {u : Nat} {x1 : Nat} {x2 : Nat} {x5 : Int32} {S : cs} {K : cs → Prop} : e_Pa_makeLevels_144 U u x1 x2 x5 S K ↔ lpE (C := (cs → Prop)) (fun (y : (Nat) × (Nat) × (Int32) × (cs)) (R : ((Nat) × (Nat) × (Int32) × (cs)) → Prop) (c : (cs → Prop)) => b_Pa_makeLevels_144 U u y.1 y.2.1 y.2.2.1 y.2.2.2 (fun z0 z1 z2 z3 => R (z0, z1, z2, z3)) c) (x1, x2, x5, S) K :=
  ⟨fun ⟨I, μ, h0, hs⟩ => ⟨fun t => I t.1 t.2.1 t.2.2.1 t.2.2.2, fun t => μ t.1 t.2.1 t.2.2.1 t.2.2.2, h0, fun t ht => hs _ _ _ _ ht⟩, fun ⟨I, μ, h0, hs⟩ => ⟨fun y0 y1 y2 y3 => I (y0, y1, y2, y3), fun y0 y1 y2 y3 => μ (y0, y1, y2, y3), h0, fun y0 y1 y2 y3 hy => hs (y0, y1, y2, y3) hy⟩⟩
set_option maxHeartbeats 1000000 in
theorem d_e_Pa_makeLevels_144 {U : ut} {u : Nat} {x1 : Nat} {x2 : Nat} {x5 : Int32} {S : cs} {K : cs → Prop} (h : e_Pa_makeLevels_144 U u x1 x2 x5 S K) {Q : Prop} (k_K : ∀ (a0 : cs), K a0 → (∀ (K' : cs → Prop), e_Pa_makeLevels_144 U u x1 x2 x5 S K' ↔ K' a0) → Q) : Q := by
  obtain ⟨o, ho, hoc, hi⟩ := lp_det (C := (cs → Prop)) (b := (fun (y : (Nat) × (Nat) × (Int32) × (cs)) (R : ((Nat) × (Nat) × (Int32) × (cs)) → Prop) (c : (cs → Prop)) => b_Pa_makeLevels_144 U u y.1 y.2.1 y.2.2.1 y.2.2.2 (fun z0 z1 z2 z3 => R (z0, z1, z2, z3)) c)) (O := (fun (o : ((cs → Prop)) → Prop) => (∃ (a0 : cs), o = fun c => c a0))) (fun y R c hy => d_b_Pa_makeLevels_144 hy (fun a0 a1 a2 a3 ha ia => Or.inl ⟨(a0, a1, a2, a3), ha, fun R' c' => ia (fun z0 z1 z2 z3 => R' (z0, z1, z2, z3)) c'⟩) (fun a0 ha ia => Or.inr ⟨(fun c => c a0), ⟨a0, rfl⟩, ha, fun R' c' => ia (fun z0 z1 z2 z3 => R' (z0, z1, z2, z3)) c'⟩)) (l_e_Pa_makeLevels_144.mp h)
  rcases ho with ⟨a0, rfl⟩
  · exact k_K _ hoc (fun K' => Iff.trans l_e_Pa_makeLevels_144 (hi K'))
theorem v_e_Pa_makeLevels_144 {U : ut} {u : Nat} {x1 : Nat} {x2 : Nat} {x5 : Int32} {S : cs} {K : cs → Prop} (h : e_Pa_makeLevels_144 U u x1 x2 x5 S K) {G : Prop} (Inv : Int32 → cs → Prop) (h0 : Inv x5 S) (hs : ∀ (yx5 : Int32) (yS : cs) (R : Nat → Nat → Int32 → cs → Prop), Inv yx5 yS → b_Pa_makeLevels_144 U u x1 x2 yx5 yS R K → (∃ (zx5 : Int32) (zS : cs), R x1 x2 zx5 zS ∧ Inv zx5 zS) ∨ G) : G := by
  obtain ⟨I, μ, i0, is⟩ := h
  have go : ∀ (n : Nat) (yx5 : Int32) (yS : cs), μ x1 x2 yx5 yS < n → I x1 x2 yx5 yS → Inv yx5 yS → G := by
    intro n
    induction n with
    | zero => intro yx5 yS hy; exact absurd hy (Nat.not_lt_zero _)
    | succ n ih =>
      intro yx5 yS hy hI hV
      rcases hs yx5 yS _ hV (is x1 x2 yx5 yS hI) with ⟨zx5, zS, ⟨hz, hm⟩, hv⟩ | g
      · exact ih zx5 zS (Nat.lt_of_lt_of_le hm (Nat.le_of_lt_succ hy)) hz hv
      · exact g
  exact go _ x5 S (Nat.lt_succ_self _) i0 h0
theorem r_e_Pa_makeLevels_144 {U : ut} {u : Nat} {x1 : Nat} {x2 : Nat} {x5 : Int32} {S : cs} {K : cs → Prop} (h : e_Pa_makeLevels_144 U u x1 x2 x5 S K) : b_Pa_makeLevels_144 U u x1 x2 x5 S (fun zx1 zx2 zx5 zS => e_Pa_makeLevels_144 U u zx1 zx2 zx5 zS K) K := by
  obtain ⟨I, μ, i0, is⟩ := h
  exact d_b_Pa_makeLevels_144 (is x1 x2 x5 S i0) (fun a0 a1 a2 a3 ha ia => (ia _ _).mpr ⟨I, μ, ha.1, is⟩) (fun a0 ha ia => (ia _ _).mpr ha)
set_option maxHeartbeats 1000000 in
theorem d_b_Pa_makeLevels_86 {U : ut} {u : Nat} {x1 : Nat} {x2 : Nat} {x3 : Int32} {x4 : Int32} {x5 : Int32} {s0 : Nat} {s1 : Int32} {s2 : Int32} {s3 : Int32} {S : cs} {R47 : Nat → Nat → Int32 → Int32 → Int32 → cs → Prop} {K : cs → Prop} (h : b_Pa_makeLevels_86 U u x1 x2 x3 x4 x5 s0 s1 s2 s3 S R47 K) {Q : Prop} (k_R47 : ∀ (a0 : Nat) (a1 : Nat) (a2 : Int32) (a3 : Int32) (a4 : Int32) (a5 : cs), R47 a0 a1 a2 a3 a4 a5 → (∀ (R47' : Nat → Nat → Int32 → Int32 → Int32 → cs → Prop) (K' : cs → Prop), b_Pa_makeLevels_86 U u x1 x2 x3 x4 x5 s0 s1 s2 s3 S R47' K' ↔ R47' a0 a1 a2 a3 a4 a5) → Q) (k_K : ∀ (a0 : cs), K a0 → (∀ (R47' : Nat → Nat → Int32 → Int32 → Int32 → cs → Prop) (K' : cs → Prop), b_Pa_makeLevels_86 U u x1 x2 x3 x4 x5 s0 s1 s2 s3 S R47' K' ↔ K' a0) → Q) : Q := by
  unfold b_Pa_makeLevels_86 at h
  refine d_p_Pi_setFactors (And.right h) (fun S86 h_2 i_1 => ?_)
  refine d_p_Pa_kindOf h_2 (fun v91 h_4 i_3 => ?_)
  refine d_p_Sc_addLayer (And.right (And.right h_4)) (fun S106 h_6 i_5 => ?_)
  exact k_R47 _ _ _ _ _ _ h_6 (fun _ _ => Iff.trans (dt_a (And.left h)) (Iff.trans (i_1 _) (Iff.trans (i_3 _) (Iff.trans (dt_a (And.left h_4)) (Iff.trans (dt_a (And.left (And.right h_4))) (i_5 _))))))
set_option maxHeartbeats 1000000 in
theorem d_b_Pa_makeLevels_75 {U : ut} {u : Nat} {x1 : Nat} {x2 : Nat} {x3 : Int32} {x4 : Int32} {x5 : Int32} {s0 : Nat} {s1 : Int32} {s2 : Int32} {S : cs} {R47 : Nat → Nat → Int32 → Int32 → Int32 → cs → Prop} {K : cs → Prop} (h : b_Pa_makeLevels_75 U u x1 x2 x3 x4 x5 s0 s1 s2 S R47 K) {Q : Prop} (k_R47 : ∀ (a0 : Nat) (a1 : Nat) (a2 : Int32) (a3 : Int32) (a4 : Int32) (a5 : cs), R47 a0 a1 a2 a3 a4 a5 → (∀ (R47' : Nat → Nat → Int32 → Int32 → Int32 → cs → Prop) (K' : cs → Prop), b_Pa_makeLevels_75 U u x1 x2 x3 x4 x5 s0 s1 s2 S R47' K' ↔ R47' a0 a1 a2 a3 a4 a5) → Q) (k_K : ∀ (a0 : cs), K a0 → (∀ (R47' : Nat → Nat → Int32 → Int32 → Int32 → cs → Prop) (K' : cs → Prop), b_Pa_makeLevels_75 U u x1 x2 x3 x4 x5 s0 s1 s2 S R47' K' ↔ K' a0) → Q) : Q := by
  unfold b_Pa_makeLevels_75 at h
  refine dt_n h (fun c_1 h_2 => ?_) (fun c_1 h_2 => ?_)
  ·
    exact d_b_Pa_makeLevels_86 h_2 (fun a0 a1 a2 a3 a4 a5 h_4 i_3 => k_R47 a0 a1 a2 a3 a4 a5 h_4 (fun _ _ => Iff.trans (dt_1 c_1 c_1) (i_3 _ _))) (fun a0 h_6 i_5 => k_K a0 h_6 (fun _ _ => Iff.trans (dt_1 c_1 c_1) (i_5 _ _)))
  ·
    exact d_b_Pa_makeLevels_86 h_2 (fun a0 a1 a2 a3 a4 a5 h_8 i_7 => k_R47 a0 a1 a2 a3 a4 a5 h_8 (fun _ _ => Iff.trans (dt_2 (fun n => n c_1) c_1) (i_7 _ _))) (fun a0 h_10 i_9 => k_K a0 h_10 (fun _ _ => Iff.trans (dt_2 (fun n => n c_1) c_1) (i_9 _ _)))
set_option maxHeartbeats 1000000 in
theorem d_b_Pa_makeLevels_47 {U : ut} {u : Nat} {x1 : Nat} {x2 : Nat} {x3 : Int32} {x4 : Int32} {x5 : Int32} {S : cs} {R47 : Nat → Nat → Int32 → Int32 → Int32 → cs → Prop} {K : cs → Prop} (h : b_Pa_makeLevels_47 U u x1 x2 x3 x4 x5 S R47 K) {Q : Prop} (k_R47 : ∀ (a0 : Nat) (a1 : Nat) (a2 : Int32) (a3 : Int32) (a4 : Int32) (a5 : cs), R47 a0 a1 a2 a3 a4 a5 → (∀ (R47' : Nat → Nat → Int32 → Int32 → Int32 → cs → Prop) (K' : cs → Prop), b_Pa_makeLevels_47 U u x1 x2 x3 x4 x5 S R47' K' ↔ R47' a0 a1 a2 a3 a4 a5) → Q) (k_K : ∀ (a0 : cs), K a0 → (∀ (R47' : Nat → Nat → Int32 → Int32 → Int32 → cs → Prop) (K' : cs → Prop), b_Pa_makeLevels_47 U u x1 x2 x3 x4 x5 S R47' K' ↔ K' a0) → Q) : Q := by
  unfold b_Pa_makeLevels_47 at h
  refine dt_p (And.right (And.right h)) (fun c_1 h_2 => ?_) (fun c_1 h_2 => ?_)
  ·
    refine d_p_Pi_measure (And.right h_2) (fun S119 h_4 i_3 => ?_)
    refine d_p_Sc_arrange (And.right (And.right (And.right (And.right (And.right h_4))))) (fun S138 h_6 i_5 => ?_)
    exact d_e_Pa_makeLevels_144 h_6 (fun a0 h_8 i_7 => k_K a0 h_8 (fun _ _ => Iff.trans (dt_a (And.left h)) (Iff.trans (dt_a (And.left (And.right h))) (Iff.trans (dt_1 c_1 (fun n => n c_1)) (Iff.trans (dt_a (And.left h_2)) (Iff.trans (i_3 _) (Iff.trans (dt_a (And.left h_4)) (Iff.trans (dt_a (And.left (And.right h_4))) (Iff.trans (dt_a (And.left (And.right (And.right h_4)))) (Iff.trans (dt_a (And.left (And.right (And.right (And.right h_4))))) (Iff.trans (dt_a (And.left (And.right (And.right (And.right (And.right h_4)))))) (Iff.trans (i_5 _) (i_7 _)))))))))))))
  ·
    refine dt_n (And.right h_2) (fun c_9 h_10 => ?_) (fun c_9 h_10 => ?_)
    ·
      exact d_b_Pa_makeLevels_75 h_10 (fun a0 a1 a2 a3 a4 a5 h_12 i_11 => k_R47 a0 a1 a2 a3 a4 a5 h_12 (fun _ _ => Iff.trans (dt_a (And.left h)) (Iff.trans (dt_a (And.left (And.right h))) (Iff.trans (dt_2 c_1 c_1) (Iff.trans (dt_a (And.left h_2)) (Iff.trans (dt_1 c_9 c_9) (i_11 _ _))))))) (fun a0 h_14 i_13 => k_K a0 h_14 (fun _ _ => Iff.trans (dt_a (And.left h)) (Iff.trans (dt_a (And.left (And.right h))) (Iff.trans (dt_2 c_1 c_1) (Iff.trans (dt_a (And.left h_2)) (Iff.trans (dt_1 c_9 c_9) (i_13 _ _)))))))
    ·
      exact d_b_Pa_makeLevels_75 h_10 (fun a0 a1 a2 a3 a4 a5 h_16 i_15 => k_R47 a0 a1 a2 a3 a4 a5 h_16 (fun _ _ => Iff.trans (dt_a (And.left h)) (Iff.trans (dt_a (And.left (And.right h))) (Iff.trans (dt_2 c_1 c_1) (Iff.trans (dt_a (And.left h_2)) (Iff.trans (dt_2 (fun n => n c_9) c_9) (i_15 _ _))))))) (fun a0 h_18 i_17 => k_K a0 h_18 (fun _ _ => Iff.trans (dt_a (And.left h)) (Iff.trans (dt_a (And.left (And.right h))) (Iff.trans (dt_2 c_1 c_1) (Iff.trans (dt_a (And.left h_2)) (Iff.trans (dt_2 (fun n => n c_9) c_9) (i_17 _ _)))))))
theorem l_e_Pa_makeLevels_47 {U : ut} {u : Nat} {x1 : Nat} {x2 : Nat} {x3 : Int32} {x4 : Int32} {x5 : Int32} {S : cs} {K : cs → Prop} : e_Pa_makeLevels_47 U u x1 x2 x3 x4 x5 S K ↔ lpE (C := (cs → Prop)) (fun (y : (Nat) × (Nat) × (Int32) × (Int32) × (Int32) × (cs)) (R : ((Nat) × (Nat) × (Int32) × (Int32) × (Int32) × (cs)) → Prop) (c : (cs → Prop)) => b_Pa_makeLevels_47 U u y.1 y.2.1 y.2.2.1 y.2.2.2.1 y.2.2.2.2.1 y.2.2.2.2.2 (fun z0 z1 z2 z3 z4 z5 => R (z0, z1, z2, z3, z4, z5)) c) (x1, x2, x3, x4, x5, S) K :=
  ⟨fun ⟨I, μ, h0, hs⟩ => ⟨fun t => I t.1 t.2.1 t.2.2.1 t.2.2.2.1 t.2.2.2.2.1 t.2.2.2.2.2, fun t => μ t.1 t.2.1 t.2.2.1 t.2.2.2.1 t.2.2.2.2.1 t.2.2.2.2.2, h0, fun t ht => hs _ _ _ _ _ _ ht⟩, fun ⟨I, μ, h0, hs⟩ => ⟨fun y0 y1 y2 y3 y4 y5 => I (y0, y1, y2, y3, y4, y5), fun y0 y1 y2 y3 y4 y5 => μ (y0, y1, y2, y3, y4, y5), h0, fun y0 y1 y2 y3 y4 y5 hy => hs (y0, y1, y2, y3, y4, y5) hy⟩⟩
set_option maxHeartbeats 1000000 in
theorem d_e_Pa_makeLevels_47 {U : ut} {u : Nat} {x1 : Nat} {x2 : Nat} {x3 : Int32} {x4 : Int32} {x5 : Int32} {S : cs} {K : cs → Prop} (h : e_Pa_makeLevels_47 U u x1 x2 x3 x4 x5 S K) {Q : Prop} (k_K : ∀ (a0 : cs), K a0 → (∀ (K' : cs → Prop), e_Pa_makeLevels_47 U u x1 x2 x3 x4 x5 S K' ↔ K' a0) → Q) : Q := by
  obtain ⟨o, ho, hoc, hi⟩ := lp_det (C := (cs → Prop)) (b := (fun (y : (Nat) × (Nat) × (Int32) × (Int32) × (Int32) × (cs)) (R : ((Nat) × (Nat) × (Int32) × (Int32) × (Int32) × (cs)) → Prop) (c : (cs → Prop)) => b_Pa_makeLevels_47 U u y.1 y.2.1 y.2.2.1 y.2.2.2.1 y.2.2.2.2.1 y.2.2.2.2.2 (fun z0 z1 z2 z3 z4 z5 => R (z0, z1, z2, z3, z4, z5)) c)) (O := (fun (o : ((cs → Prop)) → Prop) => (∃ (a0 : cs), o = fun c => c a0))) (fun y R c hy => d_b_Pa_makeLevels_47 hy (fun a0 a1 a2 a3 a4 a5 ha ia => Or.inl ⟨(a0, a1, a2, a3, a4, a5), ha, fun R' c' => ia (fun z0 z1 z2 z3 z4 z5 => R' (z0, z1, z2, z3, z4, z5)) c'⟩) (fun a0 ha ia => Or.inr ⟨(fun c => c a0), ⟨a0, rfl⟩, ha, fun R' c' => ia (fun z0 z1 z2 z3 z4 z5 => R' (z0, z1, z2, z3, z4, z5)) c'⟩)) (l_e_Pa_makeLevels_47.mp h)
  rcases ho with ⟨a0, rfl⟩
  · exact k_K _ hoc (fun K' => Iff.trans l_e_Pa_makeLevels_47 (hi K'))
theorem v_e_Pa_makeLevels_47 {U : ut} {u : Nat} {x1 : Nat} {x2 : Nat} {x3 : Int32} {x4 : Int32} {x5 : Int32} {S : cs} {K : cs → Prop} (h : e_Pa_makeLevels_47 U u x1 x2 x3 x4 x5 S K) {G : Prop} (Inv : Int32 → cs → Prop) (h0 : Inv x5 S) (hs : ∀ (yx5 : Int32) (yS : cs) (R : Nat → Nat → Int32 → Int32 → Int32 → cs → Prop), Inv yx5 yS → b_Pa_makeLevels_47 U u x1 x2 x3 x4 yx5 yS R K → (∃ (zx5 : Int32) (zS : cs), R x1 x2 x3 x4 zx5 zS ∧ Inv zx5 zS) ∨ G) : G := by
  obtain ⟨I, μ, i0, is⟩ := h
  have go : ∀ (n : Nat) (yx5 : Int32) (yS : cs), μ x1 x2 x3 x4 yx5 yS < n → I x1 x2 x3 x4 yx5 yS → Inv yx5 yS → G := by
    intro n
    induction n with
    | zero => intro yx5 yS hy; exact absurd hy (Nat.not_lt_zero _)
    | succ n ih =>
      intro yx5 yS hy hI hV
      rcases hs yx5 yS _ hV (is x1 x2 x3 x4 yx5 yS hI) with ⟨zx5, zS, ⟨hz, hm⟩, hv⟩ | g
      · exact ih zx5 zS (Nat.lt_of_lt_of_le hm (Nat.le_of_lt_succ hy)) hz hv
      · exact g
  exact go _ x5 S (Nat.lt_succ_self _) i0 h0
theorem r_e_Pa_makeLevels_47 {U : ut} {u : Nat} {x1 : Nat} {x2 : Nat} {x3 : Int32} {x4 : Int32} {x5 : Int32} {S : cs} {K : cs → Prop} (h : e_Pa_makeLevels_47 U u x1 x2 x3 x4 x5 S K) : b_Pa_makeLevels_47 U u x1 x2 x3 x4 x5 S (fun zx1 zx2 zx3 zx4 zx5 zS => e_Pa_makeLevels_47 U u zx1 zx2 zx3 zx4 zx5 zS K) K := by
  obtain ⟨I, μ, i0, is⟩ := h
  exact d_b_Pa_makeLevels_47 (is x1 x2 x3 x4 x5 S i0) (fun a0 a1 a2 a3 a4 a5 ha ia => (ia _ _).mpr ⟨I, μ, ha.1, is⟩) (fun a0 ha ia => (ia _ _).mpr ha)
set_option maxHeartbeats 1000000 in
theorem d_b_Pa_makeLevels_14 {U : ut} {u : Nat} {x1 : Nat} {x2 : Nat} {x3 : Int32} {x4 : Int32} {s1 : Int32} {S : cs} {K : cs → Prop} (h : b_Pa_makeLevels_14 U u x1 x2 x3 x4 s1 S K) {Q : Prop} (k_K : ∀ (a0 : cs), K a0 → (∀ (K' : cs → Prop), b_Pa_makeLevels_14 U u x1 x2 x3 x4 s1 S K' ↔ K' a0) → Q) : Q := by
  unfold b_Pa_makeLevels_14 at h
  refine d_p_Pi_begin (And.right (And.right (And.right h))) (fun S33 h_2 i_1 => ?_)
  exact d_e_Pa_makeLevels_47 (And.right (And.right h_2)) (fun a0 h_4 i_3 => k_K a0 h_4 (fun _ => Iff.trans (dt_a (And.left h)) (Iff.trans (dt_a (And.left (And.right h))) (Iff.trans (dt_a (And.left (And.right (And.right h)))) (Iff.trans (i_1 _) (Iff.trans (dt_a (And.left h_2)) (Iff.trans (dt_a (And.left (And.right h_2))) (i_3 _))))))))
set_option maxHeartbeats 1000000 in
theorem d_p_Pa_makeLevels {U : ut} {u : Nat} {x1 : Nat} {x2 : Nat} {x3 : Int32} {x4 : Int32} {S : cs} {K : cs → Prop} (h : p_Pa_makeLevels U u x1 x2 x3 x4 S K) {Q : Prop} (k_K : ∀ (a0 : cs), K a0 → (∀ (K' : cs → Prop), p_Pa_makeLevels U u x1 x2 x3 x4 S K' ↔ K' a0) → Q) : Q := by
  unfold p_Pa_makeLevels at h
  refine dt_n (And.right h) (fun c_1 h_2 => ?_) (fun c_1 h_2 => ?_)
  ·
    exact d_b_Pa_makeLevels_14 h_2 (fun a0 h_4 i_3 => k_K a0 h_4 (fun _ => Iff.trans (dt_a (And.left h)) (Iff.trans (dt_1 c_1 c_1) (i_3 _))))
  ·
    exact d_b_Pa_makeLevels_14 h_2 (fun a0 h_6 i_5 => k_K a0 h_6 (fun _ => Iff.trans (dt_a (And.left h)) (Iff.trans (dt_2 (fun n => n c_1) c_1) (i_5 _))))
set_option maxHeartbeats 1000000 in
theorem d_p_Oc_begin {U : ut} {u : Nat} {S : cs} {K : cs → Prop} (h : p_Oc_begin U u S K) {Q : Prop} (k_K : ∀ (a0 : cs), K a0 → (∀ (K' : cs → Prop), p_Oc_begin U u S K' ↔ K' a0) → Q) : Q := by
  unfold p_Oc_begin at h
  refine d_p_Ar_fillI (And.right h) (fun S5 h_2 i_1 => ?_)
  refine d_p_Ar_fillI (And.right h_2) (fun S13 h_4 i_3 => ?_)
  exact k_K _ h_4 (fun _ => Iff.trans (dt_a (And.left h)) (Iff.trans (i_1 _) (Iff.trans (dt_a (And.left h_2)) (i_3 _))))
set_option maxHeartbeats 1000000 in
theorem d_b_Ro_add_36 {U : ut} {u : Nat} {S : cs} {K : cs → Prop} (h : b_Ro_add_36 U u S K) {Q : Prop} (k_K : ∀ (a0 : cs), K a0 → (∀ (K' : cs → Prop), b_Ro_add_36 U u S K' ↔ K' a0) → Q) : Q := by
  unfold b_Ro_add_36 at h
  exact k_K _ h (fun _ => Iff.rfl)
set_option maxHeartbeats 1000000 in
theorem d_p_Ro_add {U : ut} {u : Nat} {x1 : Int32} {S : cs} {K : cs → Prop} (h : p_Ro_add U u x1 S K) {Q : Prop} (k_K : ∀ (a0 : cs), K a0 → (∀ (K' : cs → Prop), p_Ro_add U u x1 S K' ↔ K' a0) → Q) : Q := by
  unfold p_Ro_add at h
  refine dt_p (And.right (And.right h)) (fun c_1 h_2 => ?_) (fun c_1 h_2 => ?_)
  ·
    exact d_b_Ro_add_36 h_2 (fun a0 h_4 i_3 => k_K a0 h_4 (fun _ => Iff.trans (dt_a (And.left h)) (Iff.trans (dt_a (And.left (And.right h))) (Iff.trans (dt_1 c_1 (fun n => n c_1)) (i_3 _)))))
  ·
    exact d_b_Ro_add_36 (And.right (And.right h_2)) (fun a0 h_6 i_5 => k_K a0 h_6 (fun _ => Iff.trans (dt_a (And.left h)) (Iff.trans (dt_a (And.left (And.right h))) (Iff.trans (dt_2 c_1 c_1) (Iff.trans (dt_a (And.left h_2)) (Iff.trans (dt_a (And.left (And.right h_2))) (i_5 _)))))))
set_option maxHeartbeats 1000000 in
theorem d_b_Pa_writeBits_79 {U : ut} {u : Nat} {S : cs} {R22 : cs → Prop} {K : cs → Prop} (h : b_Pa_writeBits_79 U u S R22 K) {Q : Prop} (k_R22 : ∀ (a0 : cs), R22 a0 → (∀ (R22' : cs → Prop) (K' : cs → Prop), b_Pa_writeBits_79 U u S R22' K' ↔ R22' a0) → Q) (k_K : ∀ (a0 : cs), K a0 → (∀ (R22' : cs → Prop) (K' : cs → Prop), b_Pa_writeBits_79 U u S R22' K' ↔ K' a0) → Q) : Q := by
  unfold b_Pa_writeBits_79 at h
  exact k_R22 _ h (fun _ _ => Iff.rfl)
set_option maxHeartbeats 1000000 in
theorem d_b_Pa_writeBits_22 {U : ut} {u : Nat} {S : cs} {R22 : cs → Prop} {K : cs → Prop} (h : b_Pa_writeBits_22 U u S R22 K) {Q : Prop} (k_R22 : ∀ (a0 : cs), R22 a0 → (∀ (R22' : cs → Prop) (K' : cs → Prop), b_Pa_writeBits_22 U u S R22' K' ↔ R22' a0) → Q) (k_K : ∀ (a0 : cs), K a0 → (∀ (R22' : cs → Prop) (K' : cs → Prop), b_Pa_writeBits_22 U u S R22' K' ↔ K' a0) → Q) : Q := by
  unfold b_Pa_writeBits_22 at h
  refine dt_p h (fun c_1 h_2 => ?_) (fun c_1 h_2 => ?_)
  ·
    exact k_K _ h_2 (fun _ _ => dt_1 c_1 (fun n => n c_1))
  ·
    refine d_p_Ro_add (And.right (And.right h_2)) (fun S61 h_4 i_3 => ?_)
    refine dt_n h_4 (fun c_5 h_6 => ?_) (fun c_5 h_6 => ?_)
    ·
      exact d_b_Pa_writeBits_79 h_6 (fun a0 h_8 i_7 => k_R22 a0 h_8 (fun _ _ => Iff.trans (dt_2 c_1 c_1) (Iff.trans (dt_a (And.left h_2)) (Iff.trans (dt_a (And.left (And.right h_2))) (Iff.trans (i_3 _) (Iff.trans (dt_1 c_5 c_5) (i_7 _ _))))))) (fun a0 h_10 i_9 => k_K a0 h_10 (fun _ _ => Iff.trans (dt_2 c_1 c_1) (Iff.trans (dt_a (And.left h_2)) (Iff.trans (dt_a (And.left (And.right h_2))) (Iff.trans (i_3 _) (Iff.trans (dt_1 c_5 c_5) (i_9 _ _)))))))
    ·
      refine d_p_Ro_add (And.right (And.right h_6)) (fun S76 h_12 i_11 => ?_)
      exact d_b_Pa_writeBits_79 h_12 (fun a0 h_14 i_13 => k_R22 a0 h_14 (fun _ _ => Iff.trans (dt_2 c_1 c_1) (Iff.trans (dt_a (And.left h_2)) (Iff.trans (dt_a (And.left (And.right h_2))) (Iff.trans (i_3 _) (Iff.trans (dt_2 (fun n => n c_5) c_5) (Iff.trans (dt_a (And.left h_6)) (Iff.trans (dt_a (And.left (And.right h_6))) (Iff.trans (i_11 _) (i_13 _ _)))))))))) (fun a0 h_16 i_15 => k_K a0 h_16 (fun _ _ => Iff.trans (dt_2 c_1 c_1) (Iff.trans (dt_a (And.left h_2)) (Iff.trans (dt_a (And.left (And.right h_2))) (Iff.trans (i_3 _) (Iff.trans (dt_2 (fun n => n c_5) c_5) (Iff.trans (dt_a (And.left h_6)) (Iff.trans (dt_a (And.left (And.right h_6))) (Iff.trans (i_11 _) (i_15 _ _))))))))))
theorem l_e_Pa_writeBits_22 {U : ut} {u : Nat} {S : cs} {K : cs → Prop} : e_Pa_writeBits_22 U u S K ↔ lpE (C := (cs → Prop)) (fun (y : (cs)) (R : ((cs)) → Prop) (c : (cs → Prop)) => b_Pa_writeBits_22 U u y (fun z0 => R z0) c) S K :=
  ⟨fun ⟨I, μ, h0, hs⟩ => ⟨fun t => I t, fun t => μ t, h0, fun t ht => hs _ ht⟩, fun ⟨I, μ, h0, hs⟩ => ⟨fun y0 => I y0, fun y0 => μ y0, h0, fun y0 hy => hs y0 hy⟩⟩
set_option maxHeartbeats 1000000 in
theorem d_e_Pa_writeBits_22 {U : ut} {u : Nat} {S : cs} {K : cs → Prop} (h : e_Pa_writeBits_22 U u S K) {Q : Prop} (k_K : ∀ (a0 : cs), K a0 → (∀ (K' : cs → Prop), e_Pa_writeBits_22 U u S K' ↔ K' a0) → Q) : Q := by
  obtain ⟨o, ho, hoc, hi⟩ := lp_det (C := (cs → Prop)) (b := (fun (y : (cs)) (R : ((cs)) → Prop) (c : (cs → Prop)) => b_Pa_writeBits_22 U u y (fun z0 => R z0) c)) (O := (fun (o : ((cs → Prop)) → Prop) => (∃ (a0 : cs), o = fun c => c a0))) (fun y R c hy => d_b_Pa_writeBits_22 hy (fun a0 ha ia => Or.inl ⟨a0, ha, fun R' c' => ia (fun z0 => R' z0) c'⟩) (fun a0 ha ia => Or.inr ⟨(fun c => c a0), ⟨a0, rfl⟩, ha, fun R' c' => ia (fun z0 => R' z0) c'⟩)) (l_e_Pa_writeBits_22.mp h)
  rcases ho with ⟨a0, rfl⟩
  · exact k_K _ hoc (fun K' => Iff.trans l_e_Pa_writeBits_22 (hi K'))
theorem v_e_Pa_writeBits_22 {U : ut} {u : Nat} {S : cs} {K : cs → Prop} (h : e_Pa_writeBits_22 U u S K) {G : Prop} (Inv : cs → Prop) (h0 : Inv S) (hs : ∀ (yS : cs) (R : cs → Prop), Inv yS → b_Pa_writeBits_22 U u yS R K → (∃ (zS : cs), R zS ∧ Inv zS) ∨ G) : G := by
  obtain ⟨I, μ, i0, is⟩ := h
  have go : ∀ (n : Nat) (yS : cs), μ yS < n → I yS → Inv yS → G := by
    intro n
    induction n with
    | zero => intro yS hy; exact absurd hy (Nat.not_lt_zero _)
    | succ n ih =>
      intro yS hy hI hV
      rcases hs yS _ hV (is yS hI) with ⟨zS, ⟨hz, hm⟩, hv⟩ | g
      · exact ih zS (Nat.lt_of_lt_of_le hm (Nat.le_of_lt_succ hy)) hz hv
      · exact g
  exact go _ S (Nat.lt_succ_self _) i0 h0
theorem r_e_Pa_writeBits_22 {U : ut} {u : Nat} {S : cs} {K : cs → Prop} (h : e_Pa_writeBits_22 U u S K) : b_Pa_writeBits_22 U u S (fun zS => e_Pa_writeBits_22 U u zS K) K := by
  obtain ⟨I, μ, i0, is⟩ := h
  exact d_b_Pa_writeBits_22 (is S i0) (fun a0 ha ia => (ia _ _).mpr ⟨I, μ, ha.1, is⟩) (fun a0 ha ia => (ia _ _).mpr ha)
set_option maxHeartbeats 1000000 in
theorem d_p_Pa_writeBits {U : ut} {u : Nat} {x1 : Int32} {x2 : Int32} {S : cs} {K : cs → Prop} (h : p_Pa_writeBits U u x1 x2 S K) {Q : Prop} (k_K : ∀ (a0 : cs), K a0 → (∀ (K' : cs → Prop), p_Pa_writeBits U u x1 x2 S K' ↔ K' a0) → Q) : Q := by
  unfold p_Pa_writeBits at h
  exact d_e_Pa_writeBits_22 h (fun a0 h_2 i_1 => k_K a0 h_2 (fun _ => i_1 _))
set_option maxHeartbeats 1000000 in
theorem d_b_Pa_fillByte_29 {U : ut} {u : Nat} {S : cs} {K : cs → Prop} (h : b_Pa_fillByte_29 U u S K) {Q : Prop} (k_K : ∀ (a0 : cs), K a0 → (∀ (K' : cs → Prop), b_Pa_fillByte_29 U u S K' ↔ K' a0) → Q) : Q := by
  unfold b_Pa_fillByte_29 at h
  exact k_K _ h (fun _ => Iff.rfl)
set_option maxHeartbeats 1000000 in
theorem d_p_Pa_fillByte {U : ut} {u : Nat} {S : cs} {K : cs → Prop} (h : p_Pa_fillByte U u S K) {Q : Prop} (k_K : ∀ (a0 : cs), K a0 → (∀ (K' : cs → Prop), p_Pa_fillByte U u S K' ↔ K' a0) → Q) : Q := by
  unfold p_Pa_fillByte at h
  refine dt_p h (fun c_1 h_2 => ?_) (fun c_1 h_2 => ?_)
  ·
    exact d_b_Pa_fillByte_29 h_2 (fun a0 h_4 i_3 => k_K a0 h_4 (fun _ => Iff.trans (dt_1 c_1 (fun n => n c_1)) (i_3 _)))
  ·
    refine d_p_Pa_writeBits h_2 (fun S26 h_6 i_5 => ?_)
    exact d_b_Pa_fillByte_29 h_6 (fun a0 h_8 i_7 => k_K a0 h_8 (fun _ => Iff.trans (dt_2 c_1 c_1) (Iff.trans (i_5 _) (i_7 _))))
set_option maxHeartbeats 1000000 in
theorem d_p_Pa_addMark {U : ut} {u : Nat} {x1 : Int32} {S : cs} {K : cs → Prop} (h : p_Pa_addMark U u x1 S K) {Q : Prop} (k_K : ∀ (a0 : cs), K a0 → (∀ (K' : cs → Prop), p_Pa_addMark U u x1 S K' ↔ K' a0) → Q) : Q := by
  unfold p_Pa_addMark at h
  refine d_p_Ro_add (And.right (And.right h)) (fun S7 h_2 i_1 => ?_)
  refine d_p_Ro_add (And.right (And.right h_2)) (fun S15 h_4 i_3 => ?_)
  exact k_K _ h_4 (fun _ => Iff.trans (dt_a (And.left h)) (Iff.trans (dt_a (And.left (And.right h))) (Iff.trans (i_1 _) (Iff.trans (dt_a (And.left h_2)) (Iff.trans (dt_a (And.left (And.right h_2))) (i_3 _))))))
set_option maxHeartbeats 1000000 in
theorem d_b_Pa_writeAgain_16 {U : ut} {u : Nat} {S : cs} {K : cs → Prop} (h : b_Pa_writeAgain_16 U u S K) {Q : Prop} (k_K : ∀ (a0 : cs), K a0 → (∀ (K' : cs → Prop), b_Pa_writeAgain_16 U u S K' ↔ K' a0) → Q) : Q := by
  unfold b_Pa_writeAgain_16 at h
  refine d_p_Ar_fillI (And.right h) (fun S21 h_2 i_1 => ?_)
  exact k_K _ h_2 (fun _ => Iff.trans (dt_a (And.left h)) (i_1 _))
set_option maxHeartbeats 1000000 in
theorem d_p_Pa_writeAgain {U : ut} {u : Nat} {x1 : Int32} {S : cs} {K : cs → Prop} (h : p_Pa_writeAgain U u x1 S K) {Q : Prop} (k_K : ∀ (a0 : cs), K a0 → (∀ (K' : cs → Prop), p_Pa_writeAgain U u x1 S K' ↔ K' a0) → Q) : Q := by
  unfold p_Pa_writeAgain at h
  refine d_p_Pa_fillByte h (fun S1 h_2 i_1 => ?_)
  refine dt_n h_2 (fun c_3 h_4 => ?_) (fun c_3 h_4 => ?_)
  ·
    exact d_b_Pa_writeAgain_16 h_4 (fun a0 h_6 i_5 => k_K a0 h_6 (fun _ => Iff.trans (i_1 _) (Iff.trans (dt_1 c_3 c_3) (i_5 _))))
  ·
    refine d_p_Pa_addMark h_4 (fun S13 h_8 i_7 => ?_)
    exact d_b_Pa_writeAgain_16 h_8 (fun a0 h_10 i_9 => k_K a0 h_10 (fun _ => Iff.trans (i_1 _) (Iff.trans (dt_2 (fun n => n c_3) c_3) (Iff.trans (i_7 _) (i_9 _)))))
set_option maxHeartbeats 1000000 in
theorem d_b_Pa_bitsOf_7 {x1 : Int32} {x2 : Int32} {R7 : Int32 → Int32 → Prop} {K : Int32 → Prop} (h : b_Pa_bitsOf_7 x1 x2 R7 K) {Q : Prop} (k_R7 : ∀ (a0 : Int32) (a1 : Int32), R7 a0 a1 → (∀ (R7' : Int32 → Int32 → Prop) (K' : Int32 → Prop), b_Pa_bitsOf_7 x1 x2 R7' K' ↔ R7' a0 a1) → Q) (k_K : ∀ (a0 : Int32), K a0 → (∀ (R7' : Int32 → Int32 → Prop) (K' : Int32 → Prop), b_Pa_bitsOf_7 x1 x2 R7' K' ↔ K' a0) → Q) : Q := by
  unfold b_Pa_bitsOf_7 at h
  refine dt_p h (fun c_1 h_2 => ?_) (fun c_1 h_2 => ?_)
  ·
    exact k_K _ h_2 (fun _ _ => dt_1 c_1 (fun n => n c_1))
  ·
    exact k_R7 _ _ h_2 (fun _ _ => dt_2 c_1 c_1)
theorem l_e_Pa_bitsOf_7  {x1 : Int32} {x2 : Int32} {K : Int32 → Prop} : e_Pa_bitsOf_7 x1 x2 K ↔ lpE (C := (Int32 → Prop)) (fun (y : (Int32) × (Int32)) (R : ((Int32) × (Int32)) → Prop) (c : (Int32 → Prop)) => b_Pa_bitsOf_7 y.1 y.2 (fun z0 z1 => R (z0, z1)) c) (x1, x2) K :=
  ⟨fun ⟨I, μ, h0, hs⟩ => ⟨fun t => I t.1 t.2, fun t => μ t.1 t.2, h0, fun t ht => hs _ _ ht⟩, fun ⟨I, μ, h0, hs⟩ => ⟨fun y0 y1 => I (y0, y1), fun y0 y1 => μ (y0, y1), h0, fun y0 y1 hy => hs (y0, y1) hy⟩⟩
set_option maxHeartbeats 1000000 in
theorem d_e_Pa_bitsOf_7 {x1 : Int32} {x2 : Int32} {K : Int32 → Prop} (h : e_Pa_bitsOf_7 x1 x2 K) {Q : Prop} (k_K : ∀ (a0 : Int32), K a0 → (∀ (K' : Int32 → Prop), e_Pa_bitsOf_7 x1 x2 K' ↔ K' a0) → Q) : Q := by
  obtain ⟨o, ho, hoc, hi⟩ := lp_det (C := (Int32 → Prop)) (b := (fun (y : (Int32) × (Int32)) (R : ((Int32) × (Int32)) → Prop) (c : (Int32 → Prop)) => b_Pa_bitsOf_7 y.1 y.2 (fun z0 z1 => R (z0, z1)) c)) (O := (fun (o : ((Int32 → Prop)) → Prop) => (∃ (a0 : Int32), o = fun c => c a0))) (fun y R c hy => d_b_Pa_bitsOf_7 hy (fun a0 a1 ha ia => Or.inl ⟨(a0, a1), ha, fun R' c' => ia (fun z0 z1 => R' (z0, z1)) c'⟩) (fun a0 ha ia => Or.inr ⟨(fun c => c a0), ⟨a0, rfl⟩, ha, fun R' c' => ia (fun z0 z1 => R' (z0, z1)) c'⟩)) (l_e_Pa_bitsOf_7.mp h)
  rcases ho with ⟨a0, rfl⟩
  · exact k_K _ hoc (fun K' => Iff.trans l_e_Pa_bitsOf_7 (hi K'))
theorem v_e_Pa_bitsOf_7 {x1 : Int32} {x2 : Int32} {K : Int32 → Prop} (h : e_Pa_bitsOf_7 x1 x2 K) {G : Prop} (Inv : Int32 → Int32 → Prop) (h0 : Inv x1 x2) (hs : ∀ (yx1 : Int32) (yx2 : Int32) (R : Int32 → Int32 → Prop), Inv yx1 yx2 → b_Pa_bitsOf_7 yx1 yx2 R K → (∃ (zx1 : Int32) (zx2 : Int32), R zx1 zx2 ∧ Inv zx1 zx2) ∨ G) : G := by
  obtain ⟨I, μ, i0, is⟩ := h
  have go : ∀ (n : Nat) (yx1 : Int32) (yx2 : Int32), μ yx1 yx2 < n → I yx1 yx2 → Inv yx1 yx2 → G := by
    intro n
    induction n with
    | zero => intro yx1 yx2 hy; exact absurd hy (Nat.not_lt_zero _)
    | succ n ih =>
      intro yx1 yx2 hy hI hV
      rcases hs yx1 yx2 _ hV (is yx1 yx2 hI) with ⟨zx1, zx2, ⟨hz, hm⟩, hv⟩ | g
      · exact ih zx1 zx2 (Nat.lt_of_lt_of_le hm (Nat.le_of_lt_succ hy)) hz hv
      · exact g
  exact go _ x1 x2 (Nat.lt_succ_self _) i0 h0
theorem r_e_Pa_bitsOf_7 {x1 : Int32} {x2 : Int32} {K : Int32 → Prop} (h : e_Pa_bitsOf_7 x1 x2 K) : b_Pa_bitsOf_7 x1 x2 (fun zx1 zx2 => e_Pa_bitsOf_7 zx1 zx2 K) K := by
  obtain ⟨I, μ, i0, is⟩ := h
  exact d_b_Pa_bitsOf_7 (is x1 x2 i0) (fun a0 a1 ha ia => (ia _ _).mpr ⟨I, μ, ha.1, is⟩) (fun a0 ha ia => (ia _ _).mpr ha)
set_option maxHeartbeats 1000000 in
theorem d_p_Pa_bitsOf {x0 : Int32} {K : Int32 → Prop} (h : p_Pa_bitsOf x0 K) {Q : Prop} (k_K : ∀ (a0 : Int32), K a0 → (∀ (K' : Int32 → Prop), p_Pa_bitsOf x0 K' ↔ K' a0) → Q) : Q := by
  unfold p_Pa_bitsOf at h
  exact d_e_Pa_bitsOf_7 h (fun a0 h_2 i_1 => k_K a0 h_2 (fun _ => i_1 _))
set_option maxHeartbeats 1000000 in
theorem d_b_Pa_writeSymbol_69 {U : ut} {u : Nat} {x4 : Int32} {s1 : Int32} {S : cs} {K : cs → Prop} (h : b_Pa_writeSymbol_69 U u x4 s1 S K) {Q : Prop} (k_K : ∀ (a0 : cs), K a0 → (∀ (K' : cs → Prop), b_Pa_writeSymbol_69 U u x4 s1 S K' ↔ K' a0) → Q) : Q := by
  unfold b_Pa_writeSymbol_69 at h
  refine d_p_Pa_writeBits h (fun S71 h_2 i_1 => ?_)
  exact k_K _ h_2 (fun _ => i_1 _)
set_option maxHeartbeats 1000000 in
theorem d_p_Pa_writeSymbol {U : ut} {u : Nat} {x1 : Nat} {x2 : Int32} {x3 : Int32} {S : cs} {K : cs → Prop} (h : p_Pa_writeSymbol U u x1 x2 x3 S K) {Q : Prop} (k_K : ∀ (a0 : cs), K a0 → (∀ (K' : cs → Prop), p_Pa_writeSymbol U u x1 x2 x3 S K' ↔ K' a0) → Q) : Q := by
  unfold p_Pa_writeSymbol at h
  refine d_p_B_isWithin h (fun v5 h_2 i_1 => ?_)
  refine dt_n h_2 (fun c_3 h_4 => ?_) (fun c_3 h_4 => ?_)
  ·
    refine dt_p h_4 (fun c_5 h_6 => ?_) (fun c_5 h_6 => ?_)
    ·
      refine d_p_Pa_writeBits (And.right (And.right (And.right (And.right (And.right (And.right (And.right h_6))))))) (fun S49 h_8 i_7 => ?_)
      refine dt_p h_8 (fun c_9 h_10 => ?_) (fun c_9 h_10 => ?_)
      ·
        exact d_b_Pa_writeSymbol_69 h_10 (fun a0 h_12 i_11 => k_K a0 h_12 (fun _ => Iff.trans (i_1 _) (Iff.trans (dt_1 c_3 c_3) (Iff.trans (dt_1 c_5 (fun n => n c_5)) (Iff.trans (dt_a (And.left h_6)) (Iff.trans (dt_a (And.left (And.right h_6))) (Iff.trans (dt_a (And.left (And.right (And.right h_6)))) (Iff.trans (dt_a (And.left (And.right (And.right (And.right h_6))))) (Iff.trans (dt_a (And.left (And.right (And.right (And.right (And.right h_6)))))) (Iff.trans (dt_a (And.left (And.right (And.right (And.right (And.right (And.right h_6))))))) (Iff.trans (dt_a (And.left (And.right (And.right (And.right (And.right (And.right (And.right h_6)))))))) (Iff.trans (i_7 _) (Iff.trans (dt_1 c_9 (fun n => n c_9)) (i_11 _))))))))))))))
      ·
        exact d_b_Pa_writeSymbol_69 h_10 (fun a0 h_14 i_13 => k_K a0 h_14 (fun _ => Iff.trans (i_1 _) (Iff.trans (dt_1 c_3 c_3) (Iff.trans (dt_1 c_5 (fun n => n c_5)) (Iff.trans (dt_a (And.left h_6)) (Iff.trans (dt_a (And.left (And.right h_6))) (Iff.trans (dt_a (And.left (And.right (And.right h_6)))) (Iff.trans (dt_a (And.left (And.right (And.right (And.right h_6))))) (Iff.trans (dt_a (And.left (And.right (And.right (And.right (And.right h_6)))))) (Iff.trans (dt_a (And.left (And.right (And.right (And.right (And.right (And.right h_6))))))) (Iff.trans (dt_a (And.left (And.right (And.right (And.right (And.right (And.right (And.right h_6)))))))) (Iff.trans (i_7 _) (Iff.trans (dt_2 c_9 c_9) (i_13 _))))))))))))))
    ·
      exact k_K _ (And.right (And.right (And.right (And.right (And.right h_6))))) (fun _ => Iff.trans (i_1 _) (Iff.trans (dt_1 c_3 c_3) (Iff.trans (dt_2 c_5 c_5) (Iff.trans (dt_a (And.left h_6)) (Iff.trans (dt_a (And.left (And.right h_6))) (Iff.trans (dt_a (And.left (And.right (And.right h_6)))) (Iff.trans (dt_a (And.left (And.right (And.right (And.right h_6))))) (dt_a (And.left (And.right (And.right (And.right (And.right h_6)))))))))))))
  ·
    exact k_K _ h_4 (fun _ => Iff.trans (i_1 _) (dt_2 (fun n => n c_3) c_3))
set_option maxHeartbeats 1000000 in
theorem d_b_Pa_writeBlock_176 {U : ut} {u : Nat} {S : cs} {K : cs → Prop} (h : b_Pa_writeBlock_176 U u S K) {Q : Prop} (k_K : ∀ (a0 : cs), K a0 → (∀ (K' : cs → Prop), b_Pa_writeBlock_176 U u S K' ↔ K' a0) → Q) : Q := by
  unfold b_Pa_writeBlock_176 at h
  exact k_K _ h (fun _ => Iff.rfl)
set_option maxHeartbeats 1000000 in
theorem d_b_Pa_writeBlock_157 {U : ut} {u : Nat} {x3 : Int32} {x5 : Nat} {x6 : Int32} {x7 : Int32} {S : cs} {R80 : Int32 → Nat → Int32 → Int32 → cs → Prop} {K : cs → Prop} (h : b_Pa_writeBlock_157 U u x3 x5 x6 x7 S R80 K) {Q : Prop} (k_R80 : ∀ (a0 : Int32) (a1 : Nat) (a2 : Int32) (a3 : Int32) (a4 : cs), R80 a0 a1 a2 a3 a4 → (∀ (R80' : Int32 → Nat → Int32 → Int32 → cs → Prop) (K' : cs → Prop), b_Pa_writeBlock_157 U u x3 x5 x6 x7 S R80' K' ↔ R80' a0 a1 a2 a3 a4) → Q) (k_K : ∀ (a0 : cs), K a0 → (∀ (R80' : Int32 → Nat → Int32 → Int32 → cs → Prop) (K' : cs → Prop), b_Pa_writeBlock_157 U u x3 x5 x6 x7 S R80' K' ↔ K' a0) → Q) : Q := by
  unfold b_Pa_writeBlock_157 at h
  exact k_R80 _ _ _ _ _ h (fun _ _ => Iff.rfl)
set_option maxHeartbeats 1000000 in
theorem d_b_Pa_writeBlock_112 {U : ut} {u : Nat} {x3 : Int32} {x5 : Nat} {x6 : Int32} {x7 : Int32} {x8 : Int32} {S : cs} {R80 : Int32 → Nat → Int32 → Int32 → cs → Prop} {R112 : Int32 → Nat → Int32 → Int32 → Int32 → cs → Prop} {K : cs → Prop} (h : b_Pa_writeBlock_112 U u x3 x5 x6 x7 x8 S R80 R112 K) {Q : Prop} (k_R80 : ∀ (a0 : Int32) (a1 : Nat) (a2 : Int32) (a3 : Int32) (a4 : cs), R80 a0 a1 a2 a3 a4 → (∀ (R80' : Int32 → Nat → Int32 → Int32 → cs → Prop) (R112' : Int32 → Nat → Int32 → Int32 → Int32 → cs → Prop) (K' : cs → Prop), b_Pa_writeBlock_112 U u x3 x5 x6 x7 x8 S R80' R112' K' ↔ R80' a0 a1 a2 a3 a4) → Q) (k_R112 : ∀ (a0 : Int32) (a1 : Nat) (a2 : Int32) (a3 : Int32) (a4 : Int32) (a5 : cs), R112 a0 a1 a2 a3 a4 a5 → (∀ (R80' : Int32 → Nat → Int32 → Int32 → cs → Prop) (R112' : Int32 → Nat → Int32 → Int32 → Int32 → cs → Prop) (K' : cs → Prop), b_Pa_writeBlock_112 U u x3 x5 x6 x7 x8 S R80' R112' K' ↔ R112' a0 a1 a2 a3 a4 a5) → Q) (k_K : ∀ (a0 : cs), K a0 → (∀ (R80' : Int32 → Nat → Int32 → Int32 → cs → Prop) (R112' : Int32 → Nat → Int32 → Int32 → Int32 → cs → Prop) (K' : cs → Prop), b_Pa_writeBlock_112 U u x3 x5 x6 x7 x8 S R80' R112' K' ↔ K' a0) → Q) : Q := by
  unfold b_Pa_writeBlock_112 at h
  refine dt_p h (fun c_1 h_2 => ?_) (fun c_1 h_2 => ?_)
  ·
    refine d_p_Pa_bitsOf h_2 (fun v145 h_4 i_3 => ?_)
    refine d_p_Pa_writeSymbol h_4 (fun S151 h_6 i_5 => ?_)
    exact d_b_Pa_writeBlock_157 h_6 (fun a0 a1 a2 a3 a4 h_8 i_7 => k_R80 a0 a1 a2 a3 a4 h_8 (fun _ _ _ => Iff.trans (dt_1 c_1 (fun n => n c_1)) (Iff.trans (i_3 _) (Iff.trans (i_5 _) (i_7 _ _))))) (fun a0 h_10 i_9 => k_K a0 h_10 (fun _ _ _ => Iff.trans (dt_1 c_1 (fun n => n c_1)) (Iff.trans (i_3 _) (Iff.trans (i_5 _) (i_9 _ _)))))
  ·
    refine d_p_Pa_writeSymbol h_2 (fun S126 h_12 i_11 => ?_)
    exact k_R112 _ _ _ _ _ _ h_12 (fun _ _ _ => Iff.trans (dt_2 c_1 c_1) (i_11 _))
theorem l_e_Pa_writeBlock_112 {U : ut} {u : Nat} {x3 : Int32} {x5 : Nat} {x6 : Int32} {x7 : Int32} {x8 : Int32} {S : cs} {R80 : Int32 → Nat → Int32 → Int32 → cs → Prop} {K : cs → Prop} : e_Pa_writeBlock_112 U u x3 x5 x6 x7 x8 S R80 K ↔ lpE (C := (Int32 → Nat → Int32 → Int32 → cs → Prop) × (cs → Prop)) (fun (y : (Int32) × (Nat) × (Int32) × (Int32) × (Int32) × (cs)) (R : ((Int32) × (Nat) × (Int32) × (Int32) × (Int32) × (cs)) → Prop) (c : (Int32 → Nat → Int32 → Int32 → cs → Prop) × (cs → Prop)) => b_Pa_writeBlock_112 U u y.1 y.2.1 y.2.2.1 y.2.2.2.1 y.2.2.2.2.1 y.2.2.2.2.2 c.1 (fun z0 z1 z2 z3 z4 z5 => R (z0, z1, z2, z3, z4, z5)) c.2) (x3, x5, x6, x7, x8, S) (R80, K) :=
  ⟨fun ⟨I, μ, h0, hs⟩ => ⟨fun t => I t.1 t.2.1 t.2.2.1 t.2.2.2.1 t.2.2.2.2.1 t.2.2.2.2.2, fun t => μ t.1 t.2.1 t.2.2.1 t.2.2.2.1 t.2.2.2.2.1 t.2.2.2.2.2, h0, fun t ht => hs _ _ _ _ _ _ ht⟩, fun ⟨I, μ, h0, hs⟩ => ⟨fun y0 y1 y2 y3 y4 y5 => I (y0, y1, y2, y3, y4, y5), fun y0 y1 y2 y3 y4 y5 => μ (y0, y1, y2, y3, y4, y5), h0, fun y0 y1 y2 y3 y4 y5 hy => hs (y0, y1, y2, y3, y4, y5) hy⟩⟩
set_option maxHeartbeats 1000000 in
theorem d_e_Pa_writeBlock_112 {U : ut} {u : Nat} {x3 : Int32} {x5 : Nat} {x6 : Int32} {x7 : Int32} {x8 : Int32} {S : cs} {R80 : Int32 → Nat → Int32 → Int32 → cs → Prop} {K : cs → Prop} (h : e_Pa_writeBlock_112 U u x3 x5 x6 x7 x8 S R80 K) {Q : Prop} (k_R80 : ∀ (a0 : Int32) (a1 : Nat) (a2 : Int32) (a3 : Int32) (a4 : cs), R80 a0 a1 a2 a3 a4 → (∀ (R80' : Int32 → Nat → Int32 → Int32 → cs → Prop) (K' : cs → Prop), e_Pa_writeBlock_112 U u x3 x5 x6 x7 x8 S R80' K' ↔ R80' a0 a1 a2 a3 a4) → Q) (k_K : ∀ (a0 : cs), K a0 → (∀ (R80' : Int32 → Nat → Int32 → Int32 → cs → Prop) (K' : cs → Prop), e_Pa_writeBlock_112 U u x3 x5 x6 x7 x8 S R80' K' ↔ K' a0) → Q) : Q := by
  obtain ⟨o, ho, hoc, hi⟩ := lp_det (C := (Int32 → Nat → Int32 → Int32 → cs → Prop) × (cs → Prop)) (b := (fun (y : (Int32) × (Nat) × (Int32) × (Int32) × (Int32) × (cs)) (R : ((Int32) × (Nat) × (Int32) × (Int32) × (Int32) × (cs)) → Prop) (c : (Int32 → Nat → Int32 → Int32 → cs → Prop) × (cs → Prop)) => b_Pa_writeBlock_112 U u y.1 y.2.1 y.2.2.1 y.2.2.2.1 y.2.2.2.2.1 y.2.2.2.2.2 c.1 (fun z0 z1 z2 z3 z4 z5 => R (z0, z1, z2, z3, z4, z5)) c.2)) (O := (fun (o : ((Int32 → Nat → Int32 → Int32 → cs → Prop) × (cs → Prop)) → Prop) => (∃ (a0 : Int32) (a1 : Nat) (a2 : Int32) (a3 : Int32) (a4 : cs), o = fun c => c.1 a0 a1 a2 a3 a4) ∨ (∃ (a0 : cs), o = fun c => c.2 a0))) (fun y R c hy => d_b_Pa_writeBlock_112 hy (fun a0 a1 a2 a3 a4 ha ia => Or.inr ⟨(fun c => c.1 a0 a1 a2 a3 a4), Or.inl ⟨a0, a1, a2, a3, a4, rfl⟩, ha, fun R' c' => ia c'.1 (fun z0 z1 z2 z3 z4 z5 => R' (z0, z1, z2, z3, z4, z5)) c'.2⟩) (fun a0 a1 a2 a3 a4 a5 ha ia => Or.inl ⟨(a0, a1, a2, a3, a4, a5), ha, fun R' c' => ia c'.1 (fun z0 z1 z2 z3 z4 z5 => R' (z0, z1, z2, z3, z4, z5)) c'.2⟩) (fun a0 ha ia => Or.inr ⟨(fun c => c.2 a0), Or.inr (⟨a0, rfl⟩), ha, fun R' c' => ia c'.1 (fun z0 z1 z2 z3 z4 z5 => R' (z0, z1, z2, z3, z4, z5)) c'.2⟩)) (l_e_Pa_writeBlock_112.mp h)
  rcases ho with ⟨a0, a1, a2, a3, a4, rfl⟩ | ⟨a0, rfl⟩
  · exact k_R80 _ _ _ _ _ hoc (fun R80' K' => Iff.trans l_e_Pa_writeBlock_112 (hi (R80', K')))
  · exact k_K _ hoc (fun R80' K' => Iff.trans l_e_Pa_writeBlock_112 (hi (R80', K')))
theorem v_e_Pa_writeBlock_112 {U : ut} {u : Nat} {x3 : Int32} {x5 : Nat} {x6 : Int32} {x7 : Int32} {x8 : Int32} {S : cs} {R80 : Int32 → Nat → Int32 → Int32 → cs → Prop} {K : cs → Prop} (h : e_Pa_writeBlock_112 U u x3 x5 x6 x7 x8 S R80 K) {G : Prop} (Inv : Int32 → cs → Prop) (h0 : Inv x6 S) (hs : ∀ (yx6 : Int32) (yS : cs) (R : Int32 → Nat → Int32 → Int32 → Int32 → cs → Prop), Inv yx6 yS → b_Pa_writeBlock_112 U u x3 x5 yx6 x7 x8 yS R80 R K → (∃ (zx6 : Int32) (zS : cs), R x3 x5 zx6 x7 x8 zS ∧ Inv zx6 zS) ∨ G) : G := by
  obtain ⟨I, μ, i0, is⟩ := h
  have go : ∀ (n : Nat) (yx6 : Int32) (yS : cs), μ x3 x5 yx6 x7 x8 yS < n → I x3 x5 yx6 x7 x8 yS → Inv yx6 yS → G := by
    intro n
    induction n with
    | zero => intro yx6 yS hy; exact absurd hy (Nat.not_lt_zero _)
    | succ n ih =>
      intro yx6 yS hy hI hV
      rcases hs yx6 yS _ hV (is x3 x5 yx6 x7 x8 yS hI) with ⟨zx6, zS, ⟨hz, hm⟩, hv⟩ | g
      · exact ih zx6 zS (Nat.lt_of_lt_of_le hm (Nat.le_of_lt_succ hy)) hz hv
      · exact g
  exact go _ x6 S (Nat.lt_succ_self _) i0 h0
theorem r_e_Pa_writeBlock_112 {U : ut} {u : Nat} {x3 : Int32} {x5 : Nat} {x6 : Int32} {x7 : Int32} {x8 : Int32} {S : cs} {R80 : Int32 → Nat → Int32 → Int32 → cs → Prop} {K : cs → Prop} (h : e_Pa_writeBlock_112 U u x3 x5 x6 x7 x8 S R80 K) : b_Pa_writeBlock_112 U u x3 x5 x6 x7 x8 S R80 (fun zx3 zx5 zx6 zx7 zx8 zS => e_Pa_writeBlock_112 U u zx3 zx5 zx6 zx7 zx8 zS R80 K) K := by
  obtain ⟨I, μ, i0, is⟩ := h
  exact d_b_Pa_writeBlock_112 (is x3 x5 x6 x7 x8 S i0) (fun a0 a1 a2 a3 a4 ha ia => (ia _ _ _).mpr ha) (fun a0 a1 a2 a3 a4 a5 ha ia => (ia _ _ _).mpr ⟨I, μ, ha.1, is⟩) (fun a0 ha ia => (ia _ _ _).mpr ha)
set_option maxHeartbeats 1000000 in
theorem d_b_Pa_writeBlock_80 {U : ut} {u : Nat} {x3 : Int32} {x5 : Nat} {x6 : Int32} {x7 : Int32} {S : cs} {R80 : Int32 → Nat → Int32 → Int32 → cs → Prop} {K : cs → Prop} (h : b_Pa_writeBlock_80 U u x3 x5 x6 x7 S R80 K) {Q : Prop} (k_R80 : ∀ (a0 : Int32) (a1 : Nat) (a2 : Int32) (a3 : Int32) (a4 : cs), R80 a0 a1 a2 a3 a4 → (∀ (R80' : Int32 → Nat → Int32 → Int32 → cs → Prop) (K' : cs → Prop), b_Pa_writeBlock_80 U u x3 x5 x6 x7 S R80' K' ↔ R80' a0 a1 a2 a3 a4) → Q) (k_K : ∀ (a0 : cs), K a0 → (∀ (R80' : Int32 → Nat → Int32 → Int32 → cs → Prop) (K' : cs → Prop), b_Pa_writeBlock_80 U u x3 x5 x6 x7 S R80' K' ↔ K' a0) → Q) : Q := by
  unfold b_Pa_writeBlock_80 at h
  refine dt_p h (fun c_1 h_2 => ?_) (fun c_1 h_2 => ?_)
  ·
    refine dt_p h_2 (fun c_3 h_4 => ?_) (fun c_3 h_4 => ?_)
    ·
      exact d_b_Pa_writeBlock_176 h_4 (fun a0 h_6 i_5 => k_K a0 h_6 (fun _ _ => Iff.trans (dt_1 c_1 (fun n => n c_1)) (Iff.trans (dt_1 c_3 (fun n => n c_3)) (i_5 _))))
    ·
      refine d_p_Pa_writeSymbol h_4 (fun S173 h_8 i_7 => ?_)
      exact d_b_Pa_writeBlock_176 h_8 (fun a0 h_10 i_9 => k_K a0 h_10 (fun _ _ => Iff.trans (dt_1 c_1 (fun n => n c_1)) (Iff.trans (dt_2 c_3 c_3) (Iff.trans (i_7 _) (i_9 _)))))
  ·
    refine dt_n (And.right (And.right (And.right (And.right (And.right h_2))))) (fun c_11 h_12 => ?_) (fun c_11 h_12 => ?_)
    ·
      exact d_e_Pa_writeBlock_112 h_12 (fun a0 a1 a2 a3 a4 h_14 i_13 => k_R80 a0 a1 a2 a3 a4 h_14 (fun _ _ => Iff.trans (dt_2 c_1 c_1) (Iff.trans (dt_a (And.left h_2)) (Iff.trans (dt_a (And.left (And.right h_2))) (Iff.trans (dt_a (And.left (And.right (And.right h_2)))) (Iff.trans (dt_a (And.left (And.right (And.right (And.right h_2))))) (Iff.trans (dt_a (And.left (And.right (And.right (And.right (And.right h_2)))))) (Iff.trans (dt_1 c_11 c_11) (i_13 _ _))))))))) (fun a0 h_16 i_15 => k_K a0 h_16 (fun _ _ => Iff.trans (dt_2 c_1 c_1) (Iff.trans (dt_a (And.left h_2)) (Iff.trans (dt_a (And.left (And.right h_2))) (Iff.trans (dt_a (And.left (And.right (And.right h_2)))) (Iff.trans (dt_a (And.left (And.right (And.right (And.right h_2))))) (Iff.trans (dt_a (And.left (And.right (And.right (And.right (And.right h_2)))))) (Iff.trans (dt_1 c_11 c_11) (i_15 _ _)))))))))
    ·
      exact d_b_Pa_writeBlock_157 h_12 (fun a0 a1 a2 a3 a4 h_18 i_17 => k_R80 a0 a1 a2 a3 a4 h_18 (fun _ _ => Iff.trans (dt_2 c_1 c_1) (Iff.trans (dt_a (And.left h_2)) (Iff.trans (dt_a (And.left (And.right h_2))) (Iff.trans (dt_a (And.left (And.right (And.right h_2)))) (Iff.trans (dt_a (And.left (And.right (And.right (And.right h_2))))) (Iff.trans (dt_a (And.left (And.right (And.right (And.right (And.right h_2)))))) (Iff.trans (dt_2 (fun n => n c_11) c_11) (i_17 _ _))))))))) (fun a0 h_20 i_19 => k_K a0 h_20 (fun _ _ => Iff.trans (dt_2 c_1 c_1) (Iff.trans (dt_a (And.left h_2)) (Iff.trans (dt_a (And.left (And.right h_2))) (Iff.trans (dt_a (And.left (And.right (And.right h_2)))) (Iff.trans (dt_a (And.left (And.right (And.right (And.right h_2))))) (Iff.trans (dt_a (And.left (And.right (And.right (And.right (And.right h_2)))))) (Iff.trans (dt_2 (fun n => n c_11) c_11) (i_19 _ _)))))))))
