/-! ONE END: a printed predicate asks its continuation of one place alone -/
theorem dt_a {p q : Prop} (h : p) : (p ∧ q) ↔ q := ⟨fun x => x.2, fun x => ⟨h, x⟩⟩
theorem dt_1 {p q A B : Prop} (hp : p) (hq : ¬ q) : ((p → A) ∧ (q → B)) ↔ A := ⟨fun x => x.1 hp, fun x => ⟨fun _ => x, fun y => absurd y hq⟩⟩
theorem dt_2 {p q A B : Prop} (hp : ¬ p) (hq : q) : ((p → A) ∧ (q → B)) ↔ B := ⟨fun x => x.2 hq, fun x => ⟨fun y => absurd y hp, fun _ => x⟩⟩
theorem dt_p {p A B Q : Prop} (h : (p → A) ∧ (¬ p → B)) (k1 : p → A → Q) (k2 : ¬ p → B → Q) : Q := (Classical.em p).elim (fun x => k1 x (h.1 x)) (fun x => k2 x (h.2 x))
theorem dt_n {p A B Q : Prop} (h : (¬ p → A) ∧ (p → B)) (k1 : ¬ p → A → Q) (k2 : p → B → Q) : Q := (Classical.em p).elim (fun x => k2 x (h.2 x)) (fun x => k1 x (h.1 x))
def lpE {α C : Type} (b : α → (α → Prop) → C → Prop) (x : α) (c : C) : Prop := ∃ (I : α → Prop) (μ : α → Nat), I x ∧ ∀ y, I y → b y (fun z => I z ∧ μ z < μ y) c
theorem lp_det {α C : Type} {b : α → (α → Prop) → C → Prop} {O : (C → Prop) → Prop}
    (hb : ∀ y R c, b y R c → (∃ z, R z ∧ ∀ R' c', b y R' c' ↔ R' z) ∨ (∃ o, O o ∧ o c ∧ ∀ R' c', b y R' c' ↔ o c')) {x : α} {c : C} (h : lpE b x c) : ∃ o, O o ∧ o c ∧ ∀ c', lpE b x c' ↔ o c' := by
  obtain ⟨I, μ, h0, hs⟩ := h
  have mono : ∀ y (R R' : α → Prop) c, b y R c → (∀ z, R z → R' z) → b y R' c := by
    intro y R R' c hy hR
    rcases hb y R c hy with ⟨z, hz, hi⟩ | ⟨o, -, ho, hi⟩
    · exact (hi R' c).mpr (hR z hz)
    · exact (hi R' c).mpr ho
  have go : ∀ n y, μ y < n → I y → ∃ o, O o ∧ o c ∧ ∀ c', lpE b y c' ↔ o c' := by
    intro n
    induction n with
    | zero => intro y hy; exact absurd hy (Nat.not_lt_zero _)
    | succ n ih =>
      intro y hy hI
      rcases hb y _ c (hs y hI) with ⟨z, hz, hi⟩ | ⟨o, hO, ho, hi⟩
      · obtain ⟨o, hO, ho, hz2⟩ := ih z (Nat.lt_of_lt_of_le hz.2 (Nat.le_of_lt_succ hy)) hz.1
        refine ⟨o, hO, ho, fun c' => Iff.trans ⟨?_, ?_⟩ (hz2 c')⟩
        · rintro ⟨J, ν, j0, js⟩
          exact ⟨J, ν, ((hi _ c').mp (js y j0)).1, js⟩
        · rintro ⟨J, ν, j0, js⟩
          rcases Classical.em (J y) with hy2 | hy2
          · exact ⟨J, ν, hy2, js⟩
          · have dv : ∀ w, Decidable (J w) := fun w => Classical.propDecidable _
            refine ⟨fun w => J w ∨ w = y, fun w => @ite _ (J w) (dv w) (ν w) (ν z + 1), Or.inr rfl, ?_⟩
            intro w hw
            rcases Classical.em (J w) with hj | hj
            · refine mono w _ _ c' (js w hj) ?_
              intro v hv
              refine ⟨Or.inl hv.1, ?_⟩
              show @ite _ (J v) (dv v) (ν v) (ν z + 1) < @ite _ (J w) (dv w) (ν w) (ν z + 1)
              rw [if_pos hv.1, if_pos hj]
              exact hv.2
            · have e : w = y := hw.resolve_left hj
              subst e
              refine (hi _ c').mpr ⟨Or.inl j0, ?_⟩
              show @ite _ (J z) (dv z) (ν z) (ν z + 1) < @ite _ (J w) (dv w) (ν w) (ν z + 1)
              rw [if_pos j0, if_neg hj]
              exact Nat.lt_succ_self _
      · refine ⟨o, hO, ho, fun c' => ⟨?_, ?_⟩⟩
        · rintro ⟨J, ν, j0, js⟩
          exact (hi _ c').mp (js y j0)
        · intro hc
          exact ⟨fun w => w = y, fun _ => 0, rfl, fun w hw => by subst hw; exact (hi _ c').mpr hc⟩
  exact go _ x (Nat.lt_succ_self _) h0

set_option maxHeartbeats 1000000 in
theorem d_b_turn1_133 {s0 : Int32} {K : Int32 → Prop} (h : b_turn1_133 s0 K) {Q : Prop} (k_K : ∀ (a0 : Int32), K a0 → (∀ (K' : Int32 → Prop), b_turn1_133 s0 K' ↔ K' a0) → Q) : Q := by
  unfold b_turn1_133 at h
  exact k_K _ h (fun _ => Iff.rfl)
set_option maxHeartbeats 1000000 in
theorem d_b_turn1_120 {x1 : Int32} {s0 : Int32} {K : Int32 → Prop} (h : b_turn1_120 x1 s0 K) {Q : Prop} (k_K : ∀ (a0 : Int32), K a0 → (∀ (K' : Int32 → Prop), b_turn1_120 x1 s0 K' ↔ K' a0) → Q) : Q := by
  unfold b_turn1_120 at h
  refine dt_p h (fun c_1 h_2 => ?_) (fun c_1 h_2 => ?_)
  ·
    exact d_b_turn1_133 h_2 (fun a0 h_4 i_3 => k_K a0 h_4 (fun _ => Iff.trans (dt_1 c_1 (fun n => n c_1)) (i_3 _)))
  ·
    exact d_b_turn1_133 h_2 (fun a0 h_6 i_5 => k_K a0 h_6 (fun _ => Iff.trans (dt_2 c_1 c_1) (i_5 _)))
set_option maxHeartbeats 1000000 in
theorem d_b_turn1_29 {x1 : Int32} {s0 : Int32} {K : Int32 → Prop} (h : b_turn1_29 x1 s0 K) {Q : Prop} (k_K : ∀ (a0 : Int32), K a0 → (∀ (K' : Int32 → Prop), b_turn1_29 x1 s0 K' ↔ K' a0) → Q) : Q := by
  unfold b_turn1_29 at h
  refine dt_n h (fun c_1 h_2 => ?_) (fun c_1 h_2 => ?_)
  ·
    refine dt_n h_2 (fun c_3 h_4 => ?_) (fun c_3 h_4 => ?_)
    ·
      refine dt_n h_4 (fun c_5 h_6 => ?_) (fun c_5 h_6 => ?_)
      ·
        refine dt_n h_6 (fun c_7 h_8 => ?_) (fun c_7 h_8 => ?_)
        ·
          refine dt_n h_8 (fun c_9 h_10 => ?_) (fun c_9 h_10 => ?_)
          ·
            refine dt_n h_10 (fun c_11 h_12 => ?_) (fun c_11 h_12 => ?_)
            ·
              refine dt_n h_12 (fun c_13 h_14 => ?_) (fun c_13 h_14 => ?_)
              ·
                refine dt_n h_14 (fun c_15 h_16 => ?_) (fun c_15 h_16 => ?_)
                ·
                  exact d_b_turn1_120 h_16 (fun a0 h_18 i_17 => k_K a0 h_18 (fun _ => Iff.trans (dt_1 c_1 c_1) (Iff.trans (dt_1 c_3 c_3) (Iff.trans (dt_1 c_5 c_5) (Iff.trans (dt_1 c_7 c_7) (Iff.trans (dt_1 c_9 c_9) (Iff.trans (dt_1 c_11 c_11) (Iff.trans (dt_1 c_13 c_13) (Iff.trans (dt_1 c_15 c_15) (i_17 _))))))))))
                ·
                  exact d_b_turn1_120 h_16 (fun a0 h_20 i_19 => k_K a0 h_20 (fun _ => Iff.trans (dt_1 c_1 c_1) (Iff.trans (dt_1 c_3 c_3) (Iff.trans (dt_1 c_5 c_5) (Iff.trans (dt_1 c_7 c_7) (Iff.trans (dt_1 c_9 c_9) (Iff.trans (dt_1 c_11 c_11) (Iff.trans (dt_1 c_13 c_13) (Iff.trans (dt_2 (fun n => n c_15) c_15) (i_19 _))))))))))
              ·
                exact d_b_turn1_120 h_14 (fun a0 h_22 i_21 => k_K a0 h_22 (fun _ => Iff.trans (dt_1 c_1 c_1) (Iff.trans (dt_1 c_3 c_3) (Iff.trans (dt_1 c_5 c_5) (Iff.trans (dt_1 c_7 c_7) (Iff.trans (dt_1 c_9 c_9) (Iff.trans (dt_1 c_11 c_11) (Iff.trans (dt_2 (fun n => n c_13) c_13) (i_21 _)))))))))
            ·
              exact d_b_turn1_120 h_12 (fun a0 h_24 i_23 => k_K a0 h_24 (fun _ => Iff.trans (dt_1 c_1 c_1) (Iff.trans (dt_1 c_3 c_3) (Iff.trans (dt_1 c_5 c_5) (Iff.trans (dt_1 c_7 c_7) (Iff.trans (dt_1 c_9 c_9) (Iff.trans (dt_2 (fun n => n c_11) c_11) (i_23 _))))))))
          ·
            exact d_b_turn1_120 h_10 (fun a0 h_26 i_25 => k_K a0 h_26 (fun _ => Iff.trans (dt_1 c_1 c_1) (Iff.trans (dt_1 c_3 c_3) (Iff.trans (dt_1 c_5 c_5) (Iff.trans (dt_1 c_7 c_7) (Iff.trans (dt_2 (fun n => n c_9) c_9) (i_25 _)))))))
        ·
          exact d_b_turn1_120 h_8 (fun a0 h_28 i_27 => k_K a0 h_28 (fun _ => Iff.trans (dt_1 c_1 c_1) (Iff.trans (dt_1 c_3 c_3) (Iff.trans (dt_1 c_5 c_5) (Iff.trans (dt_2 (fun n => n c_7) c_7) (i_27 _))))))
      ·
        exact d_b_turn1_120 h_6 (fun a0 h_30 i_29 => k_K a0 h_30 (fun _ => Iff.trans (dt_1 c_1 c_1) (Iff.trans (dt_1 c_3 c_3) (Iff.trans (dt_2 (fun n => n c_5) c_5) (i_29 _)))))
    ·
      exact d_b_turn1_120 h_4 (fun a0 h_32 i_31 => k_K a0 h_32 (fun _ => Iff.trans (dt_1 c_1 c_1) (Iff.trans (dt_2 (fun n => n c_3) c_3) (i_31 _))))
  ·
    exact d_b_turn1_120 h_2 (fun a0 h_34 i_33 => k_K a0 h_34 (fun _ => Iff.trans (dt_2 (fun n => n c_1) c_1) (i_33 _)))
set_option maxHeartbeats 1000000 in
theorem d_b_turn1_14 {s0 : Int32} {K : Int32 → Prop} (h : b_turn1_14 s0 K) {Q : Prop} (k_K : ∀ (a0 : Int32), K a0 → (∀ (K' : Int32 → Prop), b_turn1_14 s0 K' ↔ K' a0) → Q) : Q := by
  unfold b_turn1_14 at h
  refine dt_p h (fun c_1 h_2 => ?_) (fun c_1 h_2 => ?_)
  ·
    exact d_b_turn1_29 h_2 (fun a0 h_4 i_3 => k_K a0 h_4 (fun _ => Iff.trans (dt_1 c_1 (fun n => n c_1)) (i_3 _)))
  ·
    exact d_b_turn1_29 h_2 (fun a0 h_6 i_5 => k_K a0 h_6 (fun _ => Iff.trans (dt_2 c_1 c_1) (i_5 _)))
set_option maxHeartbeats 1000000 in
theorem d_p_turn1 {x0 : Int32} {K : Int32 → Prop} (h : p_turn1 x0 K) {Q : Prop} (k_K : ∀ (a0 : Int32), K a0 → (∀ (K' : Int32 → Prop), p_turn1 x0 K' ↔ K' a0) → Q) : Q := by
  unfold p_turn1 at h
  refine dt_p h (fun c_1 h_2 => ?_) (fun c_1 h_2 => ?_)
  ·
    exact d_b_turn1_14 h_2 (fun a0 h_4 i_3 => k_K a0 h_4 (fun _ => Iff.trans (dt_1 c_1 (fun n => n c_1)) (i_3 _)))
  ·
    exact d_b_turn1_14 h_2 (fun a0 h_6 i_5 => k_K a0 h_6 (fun _ => Iff.trans (dt_2 c_1 c_1) (i_5 _)))
set_option maxHeartbeats 1000000 in
theorem d_p_thrown {S : ms} {K : Int32 → ms → Prop} (h : p_thrown S K) {Q : Prop} (k_K : ∀ (a0 : Int32) (a1 : ms), K a0 a1 → (∀ (K' : Int32 → ms → Prop), p_thrown S K' ↔ K' a0 a1) → Q) : Q := by
  unfold p_thrown at h
  exact k_K _ _ h (fun _ => Iff.rfl)
set_option maxHeartbeats 1000000 in
theorem d_p_cell {x0 : Int32} {x1 : Int32} {x2 : Int32} {K : Int32 → Prop} (h : p_cell x0 x1 x2 K) {Q : Prop} (k_K : ∀ (a0 : Int32), K a0 → (∀ (K' : Int32 → Prop), p_cell x0 x1 x2 K' ↔ K' a0) → Q) : Q := by
  unfold p_cell at h
  exact k_K _ h (fun _ => Iff.rfl)
set_option maxHeartbeats 1000000 in
theorem d_b_canvas_67 {x4 : Int32} {S : ms} {R67 : Int32 → ms → Prop} {K : ms → Prop} (h : b_canvas_67 x4 S R67 K) {Q : Prop} (k_R67 : ∀ (a0 : Int32) (a1 : ms), R67 a0 a1 → (∀ (R67' : Int32 → ms → Prop) (K' : ms → Prop), b_canvas_67 x4 S R67' K' ↔ R67' a0 a1) → Q) (k_K : ∀ (a0 : ms), K a0 → (∀ (R67' : Int32 → ms → Prop) (K' : ms → Prop), b_canvas_67 x4 S R67' K' ↔ K' a0) → Q) : Q := by
  unfold b_canvas_67 at h
  refine dt_p h (fun c_1 h_2 => ?_) (fun c_1 h_2 => ?_)
  ·
    exact k_K _ h_2 (fun _ _ => dt_1 c_1 (fun n => n c_1))
  ·
    exact k_R67 _ _ (And.right h_2) (fun _ _ => Iff.trans (dt_2 c_1 c_1) (dt_a (And.left h_2)))
theorem l_e_canvas_67  {x4 : Int32} {S : ms} {K : ms → Prop} : e_canvas_67 x4 S K ↔ lpE (C := (ms → Prop)) (fun (y : (Int32) × (ms)) (R : ((Int32) × (ms)) → Prop) (c : (ms → Prop)) => b_canvas_67 y.1 y.2 (fun z0 z1 => R (z0, z1)) c) (x4, S) K :=
  ⟨fun ⟨I, μ, h0, hs⟩ => ⟨fun t => I t.1 t.2, fun t => μ t.1 t.2, h0, fun t ht => hs _ _ ht⟩, fun ⟨I, μ, h0, hs⟩ => ⟨fun y0 y1 => I (y0, y1), fun y0 y1 => μ (y0, y1), h0, fun y0 y1 hy => hs (y0, y1) hy⟩⟩
set_option maxHeartbeats 1000000 in
theorem d_e_canvas_67 {x4 : Int32} {S : ms} {K : ms → Prop} (h : e_canvas_67 x4 S K) {Q : Prop} (k_K : ∀ (a0 : ms), K a0 → (∀ (K' : ms → Prop), e_canvas_67 x4 S K' ↔ K' a0) → Q) : Q := by
  obtain ⟨o, ho, hoc, hi⟩ := lp_det (C := (ms → Prop)) (b := (fun (y : (Int32) × (ms)) (R : ((Int32) × (ms)) → Prop) (c : (ms → Prop)) => b_canvas_67 y.1 y.2 (fun z0 z1 => R (z0, z1)) c)) (O := (fun (o : ((ms → Prop)) → Prop) => (∃ (a0 : ms), o = fun c => c a0))) (fun y R c hy => d_b_canvas_67 hy (fun a0 a1 ha ia => Or.inl ⟨(a0, a1), ha, fun R' c' => ia (fun z0 z1 => R' (z0, z1)) c'⟩) (fun a0 ha ia => Or.inr ⟨(fun c => c a0), ⟨a0, rfl⟩, ha, fun R' c' => ia (fun z0 z1 => R' (z0, z1)) c'⟩)) (l_e_canvas_67.mp h)
  rcases ho with ⟨a0, rfl⟩
  · exact k_K _ hoc (fun K' => Iff.trans l_e_canvas_67 (hi K'))
theorem v_e_canvas_67 {x4 : Int32} {S : ms} {K : ms → Prop} (h : e_canvas_67 x4 S K) {G : Prop} (Inv : Int32 → ms → Prop) (h0 : Inv x4 S) (hs : ∀ (yx4 : Int32) (yS : ms) (R : Int32 → ms → Prop), Inv yx4 yS → b_canvas_67 yx4 yS R K → (∃ (zx4 : Int32) (zS : ms), R zx4 zS ∧ Inv zx4 zS) ∨ G) : G := by
  obtain ⟨I, μ, i0, is⟩ := h
  have go : ∀ (n : Nat) (yx4 : Int32) (yS : ms), μ yx4 yS < n → I yx4 yS → Inv yx4 yS → G := by
    intro n
    induction n with
    | zero => intro yx4 yS hy; exact absurd hy (Nat.not_lt_zero _)
    | succ n ih =>
      intro yx4 yS hy hI hV
      rcases hs yx4 yS _ hV (is yx4 yS hI) with ⟨zx4, zS, ⟨hz, hm⟩, hv⟩ | g
      · exact ih zx4 zS (Nat.lt_of_lt_of_le hm (Nat.le_of_lt_succ hy)) hz hv
      · exact g
  exact go _ x4 S (Nat.lt_succ_self _) i0 h0
theorem r_e_canvas_67 {x4 : Int32} {S : ms} {K : ms → Prop} (h : e_canvas_67 x4 S K) : b_canvas_67 x4 S (fun zx4 zS => e_canvas_67 zx4 zS K) K := by
  obtain ⟨I, μ, i0, is⟩ := h
  exact d_b_canvas_67 (is x4 S i0) (fun a0 a1 ha ia => (ia _ _).mpr ⟨I, μ, ha.1, is⟩) (fun a0 ha ia => (ia _ _).mpr ha)
set_option maxHeartbeats 1000000 in
theorem d_b_canvas_38 {x1 : Int32} {x2 : Int32} {x3 : Int32} {s1 : Int32} {S : ms} {K : ms → Prop} (h : b_canvas_38 x1 x2 x3 s1 S K) {Q : Prop} (k_K : ∀ (a0 : ms), K a0 → (∀ (K' : ms → Prop), b_canvas_38 x1 x2 x3 s1 S K' ↔ K' a0) → Q) : Q := by
  unfold b_canvas_38 at h
  refine dt_p h (fun c_1 h_2 => ?_) (fun c_1 h_2 => ?_)
  ·
    exact d_e_canvas_67 h_2 (fun a0 h_4 i_3 => k_K a0 h_4 (fun _ => Iff.trans (dt_1 c_1 (fun n => n c_1)) (i_3 _)))
  ·
    exact k_K _ h_2 (fun _ => dt_2 c_1 c_1)
set_option maxHeartbeats 1000000 in
theorem d_b_canvas_37 {x1 : Int32} {x2 : Int32} {x3 : Int32} {S : ms} {K : ms → Prop} (h : b_canvas_37 x1 x2 x3 S K) {Q : Prop} (k_K : ∀ (a0 : ms), K a0 → (∀ (K' : ms → Prop), b_canvas_37 x1 x2 x3 S K' ↔ K' a0) → Q) : Q := by
  unfold b_canvas_37 at h
  exact d_b_canvas_38 h (fun a0 h_2 i_1 => k_K a0 h_2 (fun _ => i_1 _))
set_option maxHeartbeats 1000000 in
theorem d_b_canvas_33 {x1 : Int32} {x2 : Int32} {x3 : Int32} {S : ms} {K : ms → Prop} (h : b_canvas_33 x1 x2 x3 S K) {Q : Prop} (k_K : ∀ (a0 : ms), K a0 → (∀ (K' : ms → Prop), b_canvas_33 x1 x2 x3 S K' ↔ K' a0) → Q) : Q := by
  unfold b_canvas_33 at h
  exact d_b_canvas_38 h (fun a0 h_2 i_1 => k_K a0 h_2 (fun _ => i_1 _))
set_option maxHeartbeats 1000000 in
theorem d_p_canvas {x1 : Int32} {x2 : Int32} {x3 : Int32} {S : ms} {K : ms → Prop} (h : p_canvas x1 x2 x3 S K) {Q : Prop} (k_K : ∀ (a0 : ms), K a0 → (∀ (K' : ms → Prop), p_canvas x1 x2 x3 S K' ↔ K' a0) → Q) : Q := by
  unfold p_canvas at h
  refine dt_p h (fun c_1 h_2 => ?_) (fun c_1 h_2 => ?_)
  ·
    exact d_b_canvas_33 h_2 (fun a0 h_4 i_3 => k_K a0 h_4 (fun _ => Iff.trans (dt_1 c_1 (fun n => n c_1)) (i_3 _)))
  ·
    refine dt_p h_2 (fun c_5 h_6 => ?_) (fun c_5 h_6 => ?_)
    ·
      exact d_b_canvas_33 h_6 (fun a0 h_8 i_7 => k_K a0 h_8 (fun _ => Iff.trans (dt_2 c_1 c_1) (Iff.trans (dt_1 c_5 (fun n => n c_5)) (i_7 _))))
    ·
      refine dt_p h_6 (fun c_9 h_10 => ?_) (fun c_9 h_10 => ?_)
      ·
        exact d_b_canvas_33 h_10 (fun a0 h_12 i_11 => k_K a0 h_12 (fun _ => Iff.trans (dt_2 c_1 c_1) (Iff.trans (dt_2 c_5 c_5) (Iff.trans (dt_1 c_9 (fun n => n c_9)) (i_11 _)))))
      ·
        refine dt_p h_10 (fun c_13 h_14 => ?_) (fun c_13 h_14 => ?_)
        ·
          exact d_b_canvas_33 h_14 (fun a0 h_16 i_15 => k_K a0 h_16 (fun _ => Iff.trans (dt_2 c_1 c_1) (Iff.trans (dt_2 c_5 c_5) (Iff.trans (dt_2 c_9 c_9) (Iff.trans (dt_1 c_13 (fun n => n c_13)) (i_15 _))))))
        ·
          refine dt_p h_14 (fun c_17 h_18 => ?_) (fun c_17 h_18 => ?_)
          ·
            exact d_b_canvas_37 h_18 (fun a0 h_20 i_19 => k_K a0 h_20 (fun _ => Iff.trans (dt_2 c_1 c_1) (Iff.trans (dt_2 c_5 c_5) (Iff.trans (dt_2 c_9 c_9) (Iff.trans (dt_2 c_13 c_13) (Iff.trans (dt_1 c_17 (fun n => n c_17)) (i_19 _)))))))
          ·
            refine dt_p h_18 (fun c_21 h_22 => ?_) (fun c_21 h_22 => ?_)
            ·
              exact d_b_canvas_37 h_22 (fun a0 h_24 i_23 => k_K a0 h_24 (fun _ => Iff.trans (dt_2 c_1 c_1) (Iff.trans (dt_2 c_5 c_5) (Iff.trans (dt_2 c_9 c_9) (Iff.trans (dt_2 c_13 c_13) (Iff.trans (dt_2 c_17 c_17) (Iff.trans (dt_1 c_21 (fun n => n c_21)) (i_23 _))))))))
            ·
              exact d_b_canvas_33 h_22 (fun a0 h_26 i_25 => k_K a0 h_26 (fun _ => Iff.trans (dt_2 c_1 c_1) (Iff.trans (dt_2 c_5 c_5) (Iff.trans (dt_2 c_9 c_9) (Iff.trans (dt_2 c_13 c_13) (Iff.trans (dt_2 c_17 c_17) (Iff.trans (dt_2 c_21 c_21) (i_25 _))))))))
set_option maxHeartbeats 1000000 in
theorem d_b_isOut_77 {s0 : Int32} {S : ms} {K : Int32 → ms → Prop} (h : b_isOut_77 s0 S K) {Q : Prop} (k_K : ∀ (a0 : Int32) (a1 : ms), K a0 a1 → (∀ (K' : Int32 → ms → Prop), b_isOut_77 s0 S K' ↔ K' a0 a1) → Q) : Q := by
  unfold b_isOut_77 at h
  exact k_K _ _ (And.right h) (fun _ => dt_a (And.left h))
set_option maxHeartbeats 1000000 in
theorem d_b_isOut_62 {s1 : Int32} {S : ms} {K : Int32 → ms → Prop} (h : b_isOut_62 s1 S K) {Q : Prop} (k_K : ∀ (a0 : Int32) (a1 : ms), K a0 a1 → (∀ (K' : Int32 → ms → Prop), b_isOut_62 s1 S K' ↔ K' a0 a1) → Q) : Q := by
  unfold b_isOut_62 at h
  refine dt_p h (fun c_1 h_2 => ?_) (fun c_1 h_2 => ?_)
  ·
    exact d_b_isOut_77 h_2 (fun a0 a1 h_4 i_3 => k_K a0 a1 h_4 (fun _ => Iff.trans (dt_1 c_1 (fun n => n c_1)) (i_3 _)))
  ·
    exact d_b_isOut_77 h_2 (fun a0 a1 h_6 i_5 => k_K a0 a1 h_6 (fun _ => Iff.trans (dt_2 c_1 c_1) (i_5 _)))
set_option maxHeartbeats 1000000 in
theorem d_b_isOut_57 {S : ms} {K : Int32 → ms → Prop} (h : b_isOut_57 S K) {Q : Prop} (k_K : ∀ (a0 : Int32) (a1 : ms), K a0 a1 → (∀ (K' : Int32 → ms → Prop), b_isOut_57 S K' ↔ K' a0 a1) → Q) : Q := by
  unfold b_isOut_57 at h
  exact d_b_isOut_62 h (fun a0 a1 h_2 i_1 => k_K a0 a1 h_2 (fun _ => i_1 _))
set_option maxHeartbeats 1000000 in
theorem d_p_isOut {x1 : Int32} {x2 : Int32} {x3 : Int32} {x4 : Int32} {S : ms} {K : Int32 → ms → Prop} (h : p_isOut x1 x2 x3 x4 S K) {Q : Prop} (k_K : ∀ (a0 : Int32) (a1 : ms), K a0 a1 → (∀ (K' : Int32 → ms → Prop), p_isOut x1 x2 x3 x4 S K' ↔ K' a0 a1) → Q) : Q := by
  unfold p_isOut at h
  refine dt_p h (fun c_1 h_2 => ?_) (fun c_1 h_2 => ?_)
  ·
    exact d_b_isOut_57 h_2 (fun a0 a1 h_4 i_3 => k_K a0 a1 h_4 (fun _ => Iff.trans (dt_1 c_1 (fun n => n c_1)) (i_3 _)))
  ·
    refine dt_p h_2 (fun c_5 h_6 => ?_) (fun c_5 h_6 => ?_)
    ·
      exact d_b_isOut_57 h_6 (fun a0 a1 h_8 i_7 => k_K a0 a1 h_8 (fun _ => Iff.trans (dt_2 c_1 c_1) (Iff.trans (dt_1 c_5 (fun n => n c_5)) (i_7 _))))
    ·
      refine dt_p h_6 (fun c_9 h_10 => ?_) (fun c_9 h_10 => ?_)
      ·
        exact d_b_isOut_57 h_10 (fun a0 a1 h_12 i_11 => k_K a0 a1 h_12 (fun _ => Iff.trans (dt_2 c_1 c_1) (Iff.trans (dt_2 c_5 c_5) (Iff.trans (dt_1 c_9 (fun n => n c_9)) (i_11 _)))))
      ·
        refine dt_p h_10 (fun c_13 h_14 => ?_) (fun c_13 h_14 => ?_)
        ·
          exact d_b_isOut_57 h_14 (fun a0 a1 h_16 i_15 => k_K a0 a1 h_16 (fun _ => Iff.trans (dt_2 c_1 c_1) (Iff.trans (dt_2 c_5 c_5) (Iff.trans (dt_2 c_9 c_9) (Iff.trans (dt_1 c_13 (fun n => n c_13)) (i_15 _))))))
        ·
          refine dt_p h_14 (fun c_17 h_18 => ?_) (fun c_17 h_18 => ?_)
          ·
            exact d_b_isOut_57 h_18 (fun a0 a1 h_20 i_19 => k_K a0 a1 h_20 (fun _ => Iff.trans (dt_2 c_1 c_1) (Iff.trans (dt_2 c_5 c_5) (Iff.trans (dt_2 c_9 c_9) (Iff.trans (dt_2 c_13 c_13) (Iff.trans (dt_1 c_17 (fun n => n c_17)) (i_19 _)))))))
          ·
            refine dt_p h_18 (fun c_21 h_22 => ?_) (fun c_21 h_22 => ?_)
            ·
              exact d_b_isOut_57 h_22 (fun a0 a1 h_24 i_23 => k_K a0 a1 h_24 (fun _ => Iff.trans (dt_2 c_1 c_1) (Iff.trans (dt_2 c_5 c_5) (Iff.trans (dt_2 c_9 c_9) (Iff.trans (dt_2 c_13 c_13) (Iff.trans (dt_2 c_17 c_17) (Iff.trans (dt_1 c_21 (fun n => n c_21)) (i_23 _))))))))
            ·
              refine dt_p h_22 (fun c_25 h_26 => ?_) (fun c_25 h_26 => ?_)
              ·
                exact d_b_isOut_57 h_26 (fun a0 a1 h_28 i_27 => k_K a0 a1 h_28 (fun _ => Iff.trans (dt_2 c_1 c_1) (Iff.trans (dt_2 c_5 c_5) (Iff.trans (dt_2 c_9 c_9) (Iff.trans (dt_2 c_13 c_13) (Iff.trans (dt_2 c_17 c_17) (Iff.trans (dt_2 c_21 c_21) (Iff.trans (dt_1 c_25 (fun n => n c_25)) (i_27 _)))))))))
              ·
                refine dt_p h_26 (fun c_29 h_30 => ?_) (fun c_29 h_30 => ?_)
                ·
                  exact d_b_isOut_62 h_30 (fun a0 a1 h_32 i_31 => k_K a0 a1 h_32 (fun _ => Iff.trans (dt_2 c_1 c_1) (Iff.trans (dt_2 c_5 c_5) (Iff.trans (dt_2 c_9 c_9) (Iff.trans (dt_2 c_13 c_13) (Iff.trans (dt_2 c_17 c_17) (Iff.trans (dt_2 c_21 c_21) (Iff.trans (dt_2 c_25 c_25) (Iff.trans (dt_1 c_29 (fun n => n c_29)) (i_31 _))))))))))
                ·
                  exact d_b_isOut_57 h_30 (fun a0 a1 h_34 i_33 => k_K a0 a1 h_34 (fun _ => Iff.trans (dt_2 c_1 c_1) (Iff.trans (dt_2 c_5 c_5) (Iff.trans (dt_2 c_9 c_9) (Iff.trans (dt_2 c_13 c_13) (Iff.trans (dt_2 c_17 c_17) (Iff.trans (dt_2 c_21 c_21) (Iff.trans (dt_2 c_25 c_25) (Iff.trans (dt_2 c_29 c_29) (i_33 _))))))))))
set_option maxHeartbeats 1000000 in
theorem d_b_byteOf_29 {s0 : Int32} {S : ms} {K : Int32 → ms → Prop} (h : b_byteOf_29 s0 S K) {Q : Prop} (k_K : ∀ (a0 : Int32) (a1 : ms), K a0 a1 → (∀ (K' : Int32 → ms → Prop), b_byteOf_29 s0 S K' ↔ K' a0 a1) → Q) : Q := by
  unfold b_byteOf_29 at h
  exact k_K _ _ h (fun _ => Iff.rfl)
set_option maxHeartbeats 1000000 in
theorem d_p_byteOf {x1 : Int32} {x2 : Int32} {S : ms} {K : Int32 → ms → Prop} (h : p_byteOf x1 x2 S K) {Q : Prop} (k_K : ∀ (a0 : Int32) (a1 : ms), K a0 a1 → (∀ (K' : Int32 → ms → Prop), p_byteOf x1 x2 S K' ↔ K' a0 a1) → Q) : Q := by
  unfold p_byteOf at h
  refine dt_n h (fun c_1 h_2 => ?_) (fun c_1 h_2 => ?_)
  ·
    exact d_b_byteOf_29 h_2 (fun a0 a1 h_4 i_3 => k_K a0 a1 h_4 (fun _ => Iff.trans (dt_1 c_1 c_1) (i_3 _)))
  ·
    exact d_b_byteOf_29 h_2 (fun a0 a1 h_6 i_5 => k_K a0 a1 h_6 (fun _ => Iff.trans (dt_2 (fun n => n c_1) c_1) (i_5 _)))
set_option maxHeartbeats 1000000 in
theorem d_b_slope_35 {x1 : Int32} {x2 : Int32} {x3 : Int32} {x4 : Int32} {x5 : Int32} {x6 : Int32} {x7 : Int32} {x8 : Int32} {x9 : Int32} {S : ms} {R16 : Int32 → Int32 → Int32 → Int32 → Int32 → Int32 → Int32 → ms → Prop} {R26 : Int32 → Int32 → Int32 → Int32 → Int32 → Int32 → Int32 → Int32 → ms → Prop} {R35 : Int32 → Int32 → Int32 → Int32 → Int32 → Int32 → Int32 → Int32 → Int32 → ms → Prop} {K : ms → Prop} (h : b_slope_35 x1 x2 x3 x4 x5 x6 x7 x8 x9 S R16 R26 R35 K) {Q : Prop} (k_R16 : ∀ (a0 : Int32) (a1 : Int32) (a2 : Int32) (a3 : Int32) (a4 : Int32) (a5 : Int32) (a6 : Int32) (a7 : ms), R16 a0 a1 a2 a3 a4 a5 a6 a7 → (∀ (R16' : Int32 → Int32 → Int32 → Int32 → Int32 → Int32 → Int32 → ms → Prop) (R26' : Int32 → Int32 → Int32 → Int32 → Int32 → Int32 → Int32 → Int32 → ms → Prop) (R35' : Int32 → Int32 → Int32 → Int32 → Int32 → Int32 → Int32 → Int32 → Int32 → ms → Prop) (K' : ms → Prop), b_slope_35 x1 x2 x3 x4 x5 x6 x7 x8 x9 S R16' R26' R35' K' ↔ R16' a0 a1 a2 a3 a4 a5 a6 a7) → Q) (k_R26 : ∀ (a0 : Int32) (a1 : Int32) (a2 : Int32) (a3 : Int32) (a4 : Int32) (a5 : Int32) (a6 : Int32) (a7 : Int32) (a8 : ms), R26 a0 a1 a2 a3 a4 a5 a6 a7 a8 → (∀ (R16' : Int32 → Int32 → Int32 → Int32 → Int32 → Int32 → Int32 → ms → Prop) (R26' : Int32 → Int32 → Int32 → Int32 → Int32 → Int32 → Int32 → Int32 → ms → Prop) (R35' : Int32 → Int32 → Int32 → Int32 → Int32 → Int32 → Int32 → Int32 → Int32 → ms → Prop) (K' : ms → Prop), b_slope_35 x1 x2 x3 x4 x5 x6 x7 x8 x9 S R16' R26' R35' K' ↔ R26' a0 a1 a2 a3 a4 a5 a6 a7 a8) → Q) (k_R35 : ∀ (a0 : Int32) (a1 : Int32) (a2 : Int32) (a3 : Int32) (a4 : Int32) (a5 : Int32) (a6 : Int32) (a7 : Int32) (a8 : Int32) (a9 : ms), R35 a0 a1 a2 a3 a4 a5 a6 a7 a8 a9 → (∀ (R16' : Int32 → Int32 → Int32 → Int32 → Int32 → Int32 → Int32 → ms → Prop) (R26' : Int32 → Int32 → Int32 → Int32 → Int32 → Int32 → Int32 → Int32 → ms → Prop) (R35' : Int32 → Int32 → Int32 → Int32 → Int32 → Int32 → Int32 → Int32 → Int32 → ms → Prop) (K' : ms → Prop), b_slope_35 x1 x2 x3 x4 x5 x6 x7 x8 x9 S R16' R26' R35' K' ↔ R35' a0 a1 a2 a3 a4 a5 a6 a7 a8 a9) → Q) (k_K : ∀ (a0 : ms), K a0 → (∀ (R16' : Int32 → Int32 → Int32 → Int32 → Int32 → Int32 → Int32 → ms → Prop) (R26' : Int32 → Int32 → Int32 → Int32 → Int32 → Int32 → Int32 → Int32 → ms → Prop) (R35' : Int32 → Int32 → Int32 → Int32 → Int32 → Int32 → Int32 → Int32 → Int32 → ms → Prop) (K' : ms → Prop), b_slope_35 x1 x2 x3 x4 x5 x6 x7 x8 x9 S R16' R26' R35' K' ↔ K' a0) → Q) : Q := by
  unfold b_slope_35 at h
  refine dt_p h (fun c_1 h_2 => ?_) (fun c_1 h_2 => ?_)
  ·
    exact k_R26 _ _ _ _ _ _ _ _ _ h_2 (fun _ _ _ _ => dt_1 c_1 (fun n => n c_1))
  ·
    refine d_p_byteOf h_2 (fun v49 S49 h_4 i_3 => ?_)
    refine d_p_cell h_4 (fun v68 h_6 i_5 => ?_)
    refine d_p_byteOf h_6 (fun v78 S78 h_8 i_7 => ?_)
    exact k_R35 _ _ _ _ _ _ _ _ _ _ (And.right (And.right h_8)) (fun _ _ _ _ => Iff.trans (dt_2 c_1 c_1) (Iff.trans (i_3 _) (Iff.trans (i_5 _) (Iff.trans (i_7 _) (Iff.trans (dt_a (And.left h_8)) (dt_a (And.left (And.right h_8))))))))
theorem l_e_slope_35  {x1 : Int32} {x2 : Int32} {x3 : Int32} {x4 : Int32} {x5 : Int32} {x6 : Int32} {x7 : Int32} {x8 : Int32} {x9 : Int32} {S : ms} {R16 : Int32 → Int32 → Int32 → Int32 → Int32 → Int32 → Int32 → ms → Prop} {R26 : Int32 → Int32 → Int32 → Int32 → Int32 → Int32 → Int32 → Int32 → ms → Prop} {K : ms → Prop} : e_slope_35 x1 x2 x3 x4 x5 x6 x7 x8 x9 S R16 R26 K ↔ lpE (C := (Int32 → Int32 → Int32 → Int32 → Int32 → Int32 → Int32 → ms → Prop) × (Int32 → Int32 → Int32 → Int32 → Int32 → Int32 → Int32 → Int32 → ms → Prop) × (ms → Prop)) (fun (y : (Int32) × (Int32) × (Int32) × (Int32) × (Int32) × (Int32) × (Int32) × (Int32) × (Int32) × (ms)) (R : ((Int32) × (Int32) × (Int32) × (Int32) × (Int32) × (Int32) × (Int32) × (Int32) × (Int32) × (ms)) → Prop) (c : (Int32 → Int32 → Int32 → Int32 → Int32 → Int32 → Int32 → ms → Prop) × (Int32 → Int32 → Int32 → Int32 → Int32 → Int32 → Int32 → Int32 → ms → Prop) × (ms → Prop)) => b_slope_35 y.1 y.2.1 y.2.2.1 y.2.2.2.1 y.2.2.2.2.1 y.2.2.2.2.2.1 y.2.2.2.2.2.2.1 y.2.2.2.2.2.2.2.1 y.2.2.2.2.2.2.2.2.1 y.2.2.2.2.2.2.2.2.2 c.1 c.2.1 (fun z0 z1 z2 z3 z4 z5 z6 z7 z8 z9 => R (z0, z1, z2, z3, z4, z5, z6, z7, z8, z9)) c.2.2) (x1, x2, x3, x4, x5, x6, x7, x8, x9, S) (R16, R26, K) :=
  ⟨fun ⟨I, μ, h0, hs⟩ => ⟨fun t => I t.1 t.2.1 t.2.2.1 t.2.2.2.1 t.2.2.2.2.1 t.2.2.2.2.2.1 t.2.2.2.2.2.2.1 t.2.2.2.2.2.2.2.1 t.2.2.2.2.2.2.2.2.1 t.2.2.2.2.2.2.2.2.2, fun t => μ t.1 t.2.1 t.2.2.1 t.2.2.2.1 t.2.2.2.2.1 t.2.2.2.2.2.1 t.2.2.2.2.2.2.1 t.2.2.2.2.2.2.2.1 t.2.2.2.2.2.2.2.2.1 t.2.2.2.2.2.2.2.2.2, h0, fun t ht => hs _ _ _ _ _ _ _ _ _ _ ht⟩, fun ⟨I, μ, h0, hs⟩ => ⟨fun y0 y1 y2 y3 y4 y5 y6 y7 y8 y9 => I (y0, y1, y2, y3, y4, y5, y6, y7, y8, y9), fun y0 y1 y2 y3 y4 y5 y6 y7 y8 y9 => μ (y0, y1, y2, y3, y4, y5, y6, y7, y8, y9), h0, fun y0 y1 y2 y3 y4 y5 y6 y7 y8 y9 hy => hs (y0, y1, y2, y3, y4, y5, y6, y7, y8, y9) hy⟩⟩
set_option maxHeartbeats 1000000 in
theorem d_e_slope_35 {x1 : Int32} {x2 : Int32} {x3 : Int32} {x4 : Int32} {x5 : Int32} {x6 : Int32} {x7 : Int32} {x8 : Int32} {x9 : Int32} {S : ms} {R16 : Int32 → Int32 → Int32 → Int32 → Int32 → Int32 → Int32 → ms → Prop} {R26 : Int32 → Int32 → Int32 → Int32 → Int32 → Int32 → Int32 → Int32 → ms → Prop} {K : ms → Prop} (h : e_slope_35 x1 x2 x3 x4 x5 x6 x7 x8 x9 S R16 R26 K) {Q : Prop} (k_R16 : ∀ (a0 : Int32) (a1 : Int32) (a2 : Int32) (a3 : Int32) (a4 : Int32) (a5 : Int32) (a6 : Int32) (a7 : ms), R16 a0 a1 a2 a3 a4 a5 a6 a7 → (∀ (R16' : Int32 → Int32 → Int32 → Int32 → Int32 → Int32 → Int32 → ms → Prop) (R26' : Int32 → Int32 → Int32 → Int32 → Int32 → Int32 → Int32 → Int32 → ms → Prop) (K' : ms → Prop), e_slope_35 x1 x2 x3 x4 x5 x6 x7 x8 x9 S R16' R26' K' ↔ R16' a0 a1 a2 a3 a4 a5 a6 a7) → Q) (k_R26 : ∀ (a0 : Int32) (a1 : Int32) (a2 : Int32) (a3 : Int32) (a4 : Int32) (a5 : Int32) (a6 : Int32) (a7 : Int32) (a8 : ms), R26 a0 a1 a2 a3 a4 a5 a6 a7 a8 → (∀ (R16' : Int32 → Int32 → Int32 → Int32 → Int32 → Int32 → Int32 → ms → Prop) (R26' : Int32 → Int32 → Int32 → Int32 → Int32 → Int32 → Int32 → Int32 → ms → Prop) (K' : ms → Prop), e_slope_35 x1 x2 x3 x4 x5 x6 x7 x8 x9 S R16' R26' K' ↔ R26' a0 a1 a2 a3 a4 a5 a6 a7 a8) → Q) (k_K : ∀ (a0 : ms), K a0 → (∀ (R16' : Int32 → Int32 → Int32 → Int32 → Int32 → Int32 → Int32 → ms → Prop) (R26' : Int32 → Int32 → Int32 → Int32 → Int32 → Int32 → Int32 → Int32 → ms → Prop) (K' : ms → Prop), e_slope_35 x1 x2 x3 x4 x5 x6 x7 x8 x9 S R16' R26' K' ↔ K' a0) → Q) : Q := by
  obtain ⟨o, ho, hoc, hi⟩ := lp_det (C := (Int32 → Int32 → Int32 → Int32 → Int32 → Int32 → Int32 → ms → Prop) × (Int32 → Int32 → Int32 → Int32 → Int32 → Int32 → Int32 → Int32 → ms → Prop) × (ms → Prop)) (b := (fun (y : (Int32) × (Int32) × (Int32) × (Int32) × (Int32) × (Int32) × (Int32) × (Int32) × (Int32) × (ms)) (R : ((Int32) × (Int32) × (Int32) × (Int32) × (Int32) × (Int32) × (Int32) × (Int32) × (Int32) × (ms)) → Prop) (c : (Int32 → Int32 → Int32 → Int32 → Int32 → Int32 → Int32 → ms → Prop) × (Int32 → Int32 → Int32 → Int32 → Int32 → Int32 → Int32 → Int32 → ms → Prop) × (ms → Prop)) => b_slope_35 y.1 y.2.1 y.2.2.1 y.2.2.2.1 y.2.2.2.2.1 y.2.2.2.2.2.1 y.2.2.2.2.2.2.1 y.2.2.2.2.2.2.2.1 y.2.2.2.2.2.2.2.2.1 y.2.2.2.2.2.2.2.2.2 c.1 c.2.1 (fun z0 z1 z2 z3 z4 z5 z6 z7 z8 z9 => R (z0, z1, z2, z3, z4, z5, z6, z7, z8, z9)) c.2.2)) (O := (fun (o : ((Int32 → Int32 → Int32 → Int32 → Int32 → Int32 → Int32 → ms → Prop) × (Int32 → Int32 → Int32 → Int32 → Int32 → Int32 → Int32 → Int32 → ms → Prop) × (ms → Prop)) → Prop) => (∃ (a0 : Int32) (a1 : Int32) (a2 : Int32) (a3 : Int32) (a4 : Int32) (a5 : Int32) (a6 : Int32) (a7 : ms), o = fun c => c.1 a0 a1 a2 a3 a4 a5 a6 a7) ∨ (∃ (a0 : Int32) (a1 : Int32) (a2 : Int32) (a3 : Int32) (a4 : Int32) (a5 : Int32) (a6 : Int32) (a7 : Int32) (a8 : ms), o = fun c => c.2.1 a0 a1 a2 a3 a4 a5 a6 a7 a8) ∨ (∃ (a0 : ms), o = fun c => c.2.2 a0))) (fun y R c hy => d_b_slope_35 hy (fun a0 a1 a2 a3 a4 a5 a6 a7 ha ia => Or.inr ⟨(fun c => c.1 a0 a1 a2 a3 a4 a5 a6 a7), Or.inl ⟨a0, a1, a2, a3, a4, a5, a6, a7, rfl⟩, ha, fun R' c' => ia c'.1 c'.2.1 (fun z0 z1 z2 z3 z4 z5 z6 z7 z8 z9 => R' (z0, z1, z2, z3, z4, z5, z6, z7, z8, z9)) c'.2.2⟩) (fun a0 a1 a2 a3 a4 a5 a6 a7 a8 ha ia => Or.inr ⟨(fun c => c.2.1 a0 a1 a2 a3 a4 a5 a6 a7 a8), Or.inr (Or.inl ⟨a0, a1, a2, a3, a4, a5, a6, a7, a8, rfl⟩), ha, fun R' c' => ia c'.1 c'.2.1 (fun z0 z1 z2 z3 z4 z5 z6 z7 z8 z9 => R' (z0, z1, z2, z3, z4, z5, z6, z7, z8, z9)) c'.2.2⟩) (fun a0 a1 a2 a3 a4 a5 a6 a7 a8 a9 ha ia => Or.inl ⟨(a0, a1, a2, a3, a4, a5, a6, a7, a8, a9), ha, fun R' c' => ia c'.1 c'.2.1 (fun z0 z1 z2 z3 z4 z5 z6 z7 z8 z9 => R' (z0, z1, z2, z3, z4, z5, z6, z7, z8, z9)) c'.2.2⟩) (fun a0 ha ia => Or.inr ⟨(fun c => c.2.2 a0), Or.inr (Or.inr (⟨a0, rfl⟩)), ha, fun R' c' => ia c'.1 c'.2.1 (fun z0 z1 z2 z3 z4 z5 z6 z7 z8 z9 => R' (z0, z1, z2, z3, z4, z5, z6, z7, z8, z9)) c'.2.2⟩)) (l_e_slope_35.mp h)
  rcases ho with ⟨a0, a1, a2, a3, a4, a5, a6, a7, rfl⟩ | ⟨a0, a1, a2, a3, a4, a5, a6, a7, a8, rfl⟩ | ⟨a0, rfl⟩
  · exact k_R16 _ _ _ _ _ _ _ _ hoc (fun R16' R26' K' => Iff.trans l_e_slope_35 (hi (R16', R26', K')))
  · exact k_R26 _ _ _ _ _ _ _ _ _ hoc (fun R16' R26' K' => Iff.trans l_e_slope_35 (hi (R16', R26', K')))
  · exact k_K _ hoc (fun R16' R26' K' => Iff.trans l_e_slope_35 (hi (R16', R26', K')))
theorem v_e_slope_35 {x1 : Int32} {x2 : Int32} {x3 : Int32} {x4 : Int32} {x5 : Int32} {x6 : Int32} {x7 : Int32} {x8 : Int32} {x9 : Int32} {S : ms} {R16 : Int32 → Int32 → Int32 → Int32 → Int32 → Int32 → Int32 → ms → Prop} {R26 : Int32 → Int32 → Int32 → Int32 → Int32 → Int32 → Int32 → Int32 → ms → Prop} {K : ms → Prop} (h : e_slope_35 x1 x2 x3 x4 x5 x6 x7 x8 x9 S R16 R26 K) {G : Prop} (Inv : Int32 → ms → Prop) (h0 : Inv x9 S) (hs : ∀ (yx9 : Int32) (yS : ms) (R : Int32 → Int32 → Int32 → Int32 → Int32 → Int32 → Int32 → Int32 → Int32 → ms → Prop), Inv yx9 yS → b_slope_35 x1 x2 x3 x4 x5 x6 x7 x8 yx9 yS R16 R26 R K → (∃ (zx9 : Int32) (zS : ms), R x1 x2 x3 x4 x5 x6 x7 x8 zx9 zS ∧ Inv zx9 zS) ∨ G) : G := by
  obtain ⟨I, μ, i0, is⟩ := h
  have go : ∀ (n : Nat) (yx9 : Int32) (yS : ms), μ x1 x2 x3 x4 x5 x6 x7 x8 yx9 yS < n → I x1 x2 x3 x4 x5 x6 x7 x8 yx9 yS → Inv yx9 yS → G := by
    intro n
    induction n with
    | zero => intro yx9 yS hy; exact absurd hy (Nat.not_lt_zero _)
    | succ n ih =>
      intro yx9 yS hy hI hV
      rcases hs yx9 yS _ hV (is x1 x2 x3 x4 x5 x6 x7 x8 yx9 yS hI) with ⟨zx9, zS, ⟨hz, hm⟩, hv⟩ | g
      · exact ih zx9 zS (Nat.lt_of_lt_of_le hm (Nat.le_of_lt_succ hy)) hz hv
      · exact g
  exact go _ x9 S (Nat.lt_succ_self _) i0 h0
theorem r_e_slope_35 {x1 : Int32} {x2 : Int32} {x3 : Int32} {x4 : Int32} {x5 : Int32} {x6 : Int32} {x7 : Int32} {x8 : Int32} {x9 : Int32} {S : ms} {R16 : Int32 → Int32 → Int32 → Int32 → Int32 → Int32 → Int32 → ms → Prop} {R26 : Int32 → Int32 → Int32 → Int32 → Int32 → Int32 → Int32 → Int32 → ms → Prop} {K : ms → Prop} (h : e_slope_35 x1 x2 x3 x4 x5 x6 x7 x8 x9 S R16 R26 K) : b_slope_35 x1 x2 x3 x4 x5 x6 x7 x8 x9 S R16 R26 (fun zx1 zx2 zx3 zx4 zx5 zx6 zx7 zx8 zx9 zS => e_slope_35 zx1 zx2 zx3 zx4 zx5 zx6 zx7 zx8 zx9 zS R16 R26 K) K := by
  obtain ⟨I, μ, i0, is⟩ := h
  exact d_b_slope_35 (is x1 x2 x3 x4 x5 x6 x7 x8 x9 S i0) (fun a0 a1 a2 a3 a4 a5 a6 a7 ha ia => (ia _ _ _ _).mpr ha) (fun a0 a1 a2 a3 a4 a5 a6 a7 a8 ha ia => (ia _ _ _ _).mpr ha) (fun a0 a1 a2 a3 a4 a5 a6 a7 a8 a9 ha ia => (ia _ _ _ _).mpr ⟨I, μ, ha.1, is⟩) (fun a0 ha ia => (ia _ _ _ _).mpr ha)
set_option maxHeartbeats 1000000 in
theorem d_b_slope_26 {x1 : Int32} {x2 : Int32} {x3 : Int32} {x4 : Int32} {x5 : Int32} {x6 : Int32} {x7 : Int32} {x8 : Int32} {S : ms} {R16 : Int32 → Int32 → Int32 → Int32 → Int32 → Int32 → Int32 → ms → Prop} {R26 : Int32 → Int32 → Int32 → Int32 → Int32 → Int32 → Int32 → Int32 → ms → Prop} {K : ms → Prop} (h : b_slope_26 x1 x2 x3 x4 x5 x6 x7 x8 S R16 R26 K) {Q : Prop} (k_R16 : ∀ (a0 : Int32) (a1 : Int32) (a2 : Int32) (a3 : Int32) (a4 : Int32) (a5 : Int32) (a6 : Int32) (a7 : ms), R16 a0 a1 a2 a3 a4 a5 a6 a7 → (∀ (R16' : Int32 → Int32 → Int32 → Int32 → Int32 → Int32 → Int32 → ms → Prop) (R26' : Int32 → Int32 → Int32 → Int32 → Int32 → Int32 → Int32 → Int32 → ms → Prop) (K' : ms → Prop), b_slope_26 x1 x2 x3 x4 x5 x6 x7 x8 S R16' R26' K' ↔ R16' a0 a1 a2 a3 a4 a5 a6 a7) → Q) (k_R26 : ∀ (a0 : Int32) (a1 : Int32) (a2 : Int32) (a3 : Int32) (a4 : Int32) (a5 : Int32) (a6 : Int32) (a7 : Int32) (a8 : ms), R26 a0 a1 a2 a3 a4 a5 a6 a7 a8 → (∀ (R16' : Int32 → Int32 → Int32 → Int32 → Int32 → Int32 → Int32 → ms → Prop) (R26' : Int32 → Int32 → Int32 → Int32 → Int32 → Int32 → Int32 → Int32 → ms → Prop) (K' : ms → Prop), b_slope_26 x1 x2 x3 x4 x5 x6 x7 x8 S R16' R26' K' ↔ R26' a0 a1 a2 a3 a4 a5 a6 a7 a8) → Q) (k_K : ∀ (a0 : ms), K a0 → (∀ (R16' : Int32 → Int32 → Int32 → Int32 → Int32 → Int32 → Int32 → ms → Prop) (R26' : Int32 → Int32 → Int32 → Int32 → Int32 → Int32 → Int32 → Int32 → ms → Prop) (K' : ms → Prop), b_slope_26 x1 x2 x3 x4 x5 x6 x7 x8 S R16' R26' K' ↔ K' a0) → Q) : Q := by
  unfold b_slope_26 at h
  refine dt_p h (fun c_1 h_2 => ?_) (fun c_1 h_2 => ?_)
  ·
    exact k_R16 _ _ _ _ _ _ _ _ h_2 (fun _ _ _ => dt_1 c_1 (fun n => n c_1))
  ·
    exact d_e_slope_35 h_2 (fun a0 a1 a2 a3 a4 a5 a6 a7 h_4 i_3 => k_R16 a0 a1 a2 a3 a4 a5 a6 a7 h_4 (fun _ _ _ => Iff.trans (dt_2 c_1 c_1) (i_3 _ _ _))) (fun a0 a1 a2 a3 a4 a5 a6 a7 a8 h_6 i_5 => k_R26 a0 a1 a2 a3 a4 a5 a6 a7 a8 h_6 (fun _ _ _ => Iff.trans (dt_2 c_1 c_1) (i_5 _ _ _))) (fun a0 h_8 i_7 => k_K a0 h_8 (fun _ _ _ => Iff.trans (dt_2 c_1 c_1) (i_7 _ _ _)))
theorem l_e_slope_26  {x1 : Int32} {x2 : Int32} {x3 : Int32} {x4 : Int32} {x5 : Int32} {x6 : Int32} {x7 : Int32} {x8 : Int32} {S : ms} {R16 : Int32 → Int32 → Int32 → Int32 → Int32 → Int32 → Int32 → ms → Prop} {K : ms → Prop} : e_slope_26 x1 x2 x3 x4 x5 x6 x7 x8 S R16 K ↔ lpE (C := (Int32 → Int32 → Int32 → Int32 → Int32 → Int32 → Int32 → ms → Prop) × (ms → Prop)) (fun (y : (Int32) × (Int32) × (Int32) × (Int32) × (Int32) × (Int32) × (Int32) × (Int32) × (ms)) (R : ((Int32) × (Int32) × (Int32) × (Int32) × (Int32) × (Int32) × (Int32) × (Int32) × (ms)) → Prop) (c : (Int32 → Int32 → Int32 → Int32 → Int32 → Int32 → Int32 → ms → Prop) × (ms → Prop)) => b_slope_26 y.1 y.2.1 y.2.2.1 y.2.2.2.1 y.2.2.2.2.1 y.2.2.2.2.2.1 y.2.2.2.2.2.2.1 y.2.2.2.2.2.2.2.1 y.2.2.2.2.2.2.2.2 c.1 (fun z0 z1 z2 z3 z4 z5 z6 z7 z8 => R (z0, z1, z2, z3, z4, z5, z6, z7, z8)) c.2) (x1, x2, x3, x4, x5, x6, x7, x8, S) (R16, K) :=
  ⟨fun ⟨I, μ, h0, hs⟩ => ⟨fun t => I t.1 t.2.1 t.2.2.1 t.2.2.2.1 t.2.2.2.2.1 t.2.2.2.2.2.1 t.2.2.2.2.2.2.1 t.2.2.2.2.2.2.2.1 t.2.2.2.2.2.2.2.2, fun t => μ t.1 t.2.1 t.2.2.1 t.2.2.2.1 t.2.2.2.2.1 t.2.2.2.2.2.1 t.2.2.2.2.2.2.1 t.2.2.2.2.2.2.2.1 t.2.2.2.2.2.2.2.2, h0, fun t ht => hs _ _ _ _ _ _ _ _ _ ht⟩, fun ⟨I, μ, h0, hs⟩ => ⟨fun y0 y1 y2 y3 y4 y5 y6 y7 y8 => I (y0, y1, y2, y3, y4, y5, y6, y7, y8), fun y0 y1 y2 y3 y4 y5 y6 y7 y8 => μ (y0, y1, y2, y3, y4, y5, y6, y7, y8), h0, fun y0 y1 y2 y3 y4 y5 y6 y7 y8 hy => hs (y0, y1, y2, y3, y4, y5, y6, y7, y8) hy⟩⟩
set_option maxHeartbeats 1000000 in
theorem d_e_slope_26 {x1 : Int32} {x2 : Int32} {x3 : Int32} {x4 : Int32} {x5 : Int32} {x6 : Int32} {x7 : Int32} {x8 : Int32} {S : ms} {R16 : Int32 → Int32 → Int32 → Int32 → Int32 → Int32 → Int32 → ms → Prop} {K : ms → Prop} (h : e_slope_26 x1 x2 x3 x4 x5 x6 x7 x8 S R16 K) {Q : Prop} (k_R16 : ∀ (a0 : Int32) (a1 : Int32) (a2 : Int32) (a3 : Int32) (a4 : Int32) (a5 : Int32) (a6 : Int32) (a7 : ms), R16 a0 a1 a2 a3 a4 a5 a6 a7 → (∀ (R16' : Int32 → Int32 → Int32 → Int32 → Int32 → Int32 → Int32 → ms → Prop) (K' : ms → Prop), e_slope_26 x1 x2 x3 x4 x5 x6 x7 x8 S R16' K' ↔ R16' a0 a1 a2 a3 a4 a5 a6 a7) → Q) (k_K : ∀ (a0 : ms), K a0 → (∀ (R16' : Int32 → Int32 → Int32 → Int32 → Int32 → Int32 → Int32 → ms → Prop) (K' : ms → Prop), e_slope_26 x1 x2 x3 x4 x5 x6 x7 x8 S R16' K' ↔ K' a0) → Q) : Q := by
  obtain ⟨o, ho, hoc, hi⟩ := lp_det (C := (Int32 → Int32 → Int32 → Int32 → Int32 → Int32 → Int32 → ms → Prop) × (ms → Prop)) (b := (fun (y : (Int32) × (Int32) × (Int32) × (Int32) × (Int32) × (Int32) × (Int32) × (Int32) × (ms)) (R : ((Int32) × (Int32) × (Int32) × (Int32) × (Int32) × (Int32) × (Int32) × (Int32) × (ms)) → Prop) (c : (Int32 → Int32 → Int32 → Int32 → Int32 → Int32 → Int32 → ms → Prop) × (ms → Prop)) => b_slope_26 y.1 y.2.1 y.2.2.1 y.2.2.2.1 y.2.2.2.2.1 y.2.2.2.2.2.1 y.2.2.2.2.2.2.1 y.2.2.2.2.2.2.2.1 y.2.2.2.2.2.2.2.2 c.1 (fun z0 z1 z2 z3 z4 z5 z6 z7 z8 => R (z0, z1, z2, z3, z4, z5, z6, z7, z8)) c.2)) (O := (fun (o : ((Int32 → Int32 → Int32 → Int32 → Int32 → Int32 → Int32 → ms → Prop) × (ms → Prop)) → Prop) => (∃ (a0 : Int32) (a1 : Int32) (a2 : Int32) (a3 : Int32) (a4 : Int32) (a5 : Int32) (a6 : Int32) (a7 : ms), o = fun c => c.1 a0 a1 a2 a3 a4 a5 a6 a7) ∨ (∃ (a0 : ms), o = fun c => c.2 a0))) (fun y R c hy => d_b_slope_26 hy (fun a0 a1 a2 a3 a4 a5 a6 a7 ha ia => Or.inr ⟨(fun c => c.1 a0 a1 a2 a3 a4 a5 a6 a7), Or.inl ⟨a0, a1, a2, a3, a4, a5, a6, a7, rfl⟩, ha, fun R' c' => ia c'.1 (fun z0 z1 z2 z3 z4 z5 z6 z7 z8 => R' (z0, z1, z2, z3, z4, z5, z6, z7, z8)) c'.2⟩) (fun a0 a1 a2 a3 a4 a5 a6 a7 a8 ha ia => Or.inl ⟨(a0, a1, a2, a3, a4, a5, a6, a7, a8), ha, fun R' c' => ia c'.1 (fun z0 z1 z2 z3 z4 z5 z6 z7 z8 => R' (z0, z1, z2, z3, z4, z5, z6, z7, z8)) c'.2⟩) (fun a0 ha ia => Or.inr ⟨(fun c => c.2 a0), Or.inr (⟨a0, rfl⟩), ha, fun R' c' => ia c'.1 (fun z0 z1 z2 z3 z4 z5 z6 z7 z8 => R' (z0, z1, z2, z3, z4, z5, z6, z7, z8)) c'.2⟩)) (l_e_slope_26.mp h)
  rcases ho with ⟨a0, a1, a2, a3, a4, a5, a6, a7, rfl⟩ | ⟨a0, rfl⟩
  · exact k_R16 _ _ _ _ _ _ _ _ hoc (fun R16' K' => Iff.trans l_e_slope_26 (hi (R16', K')))
  · exact k_K _ hoc (fun R16' K' => Iff.trans l_e_slope_26 (hi (R16', K')))
theorem v_e_slope_26 {x1 : Int32} {x2 : Int32} {x3 : Int32} {x4 : Int32} {x5 : Int32} {x6 : Int32} {x7 : Int32} {x8 : Int32} {S : ms} {R16 : Int32 → Int32 → Int32 → Int32 → Int32 → Int32 → Int32 → ms → Prop} {K : ms → Prop} (h : e_slope_26 x1 x2 x3 x4 x5 x6 x7 x8 S R16 K) {G : Prop} (Inv : Int32 → ms → Prop) (h0 : Inv x8 S) (hs : ∀ (yx8 : Int32) (yS : ms) (R : Int32 → Int32 → Int32 → Int32 → Int32 → Int32 → Int32 → Int32 → ms → Prop), Inv yx8 yS → b_slope_26 x1 x2 x3 x4 x5 x6 x7 yx8 yS R16 R K → (∃ (zx8 : Int32) (zS : ms), R x1 x2 x3 x4 x5 x6 x7 zx8 zS ∧ Inv zx8 zS) ∨ G) : G := by
  obtain ⟨I, μ, i0, is⟩ := h
  have go : ∀ (n : Nat) (yx8 : Int32) (yS : ms), μ x1 x2 x3 x4 x5 x6 x7 yx8 yS < n → I x1 x2 x3 x4 x5 x6 x7 yx8 yS → Inv yx8 yS → G := by
    intro n
    induction n with
    | zero => intro yx8 yS hy; exact absurd hy (Nat.not_lt_zero _)
    | succ n ih =>
      intro yx8 yS hy hI hV
      rcases hs yx8 yS _ hV (is x1 x2 x3 x4 x5 x6 x7 yx8 yS hI) with ⟨zx8, zS, ⟨hz, hm⟩, hv⟩ | g
      · exact ih zx8 zS (Nat.lt_of_lt_of_le hm (Nat.le_of_lt_succ hy)) hz hv
      · exact g
  exact go _ x8 S (Nat.lt_succ_self _) i0 h0
theorem r_e_slope_26 {x1 : Int32} {x2 : Int32} {x3 : Int32} {x4 : Int32} {x5 : Int32} {x6 : Int32} {x7 : Int32} {x8 : Int32} {S : ms} {R16 : Int32 → Int32 → Int32 → Int32 → Int32 → Int32 → Int32 → ms → Prop} {K : ms → Prop} (h : e_slope_26 x1 x2 x3 x4 x5 x6 x7 x8 S R16 K) : b_slope_26 x1 x2 x3 x4 x5 x6 x7 x8 S R16 (fun zx1 zx2 zx3 zx4 zx5 zx6 zx7 zx8 zS => e_slope_26 zx1 zx2 zx3 zx4 zx5 zx6 zx7 zx8 zS R16 K) K := by
  obtain ⟨I, μ, i0, is⟩ := h
  exact d_b_slope_26 (is x1 x2 x3 x4 x5 x6 x7 x8 S i0) (fun a0 a1 a2 a3 a4 a5 a6 a7 ha ia => (ia _ _ _).mpr ha) (fun a0 a1 a2 a3 a4 a5 a6 a7 a8 ha ia => (ia _ _ _).mpr ⟨I, μ, ha.1, is⟩) (fun a0 ha ia => (ia _ _ _).mpr ha)
set_option maxHeartbeats 1000000 in
theorem d_b_slope_16 {x1 : Int32} {x2 : Int32} {x3 : Int32} {x4 : Int32} {x5 : Int32} {x6 : Int32} {x7 : Int32} {S : ms} {R16 : Int32 → Int32 → Int32 → Int32 → Int32 → Int32 → Int32 → ms → Prop} {K : ms → Prop} (h : b_slope_16 x1 x2 x3 x4 x5 x6 x7 S R16 K) {Q : Prop} (k_R16 : ∀ (a0 : Int32) (a1 : Int32) (a2 : Int32) (a3 : Int32) (a4 : Int32) (a5 : Int32) (a6 : Int32) (a7 : ms), R16 a0 a1 a2 a3 a4 a5 a6 a7 → (∀ (R16' : Int32 → Int32 → Int32 → Int32 → Int32 → Int32 → Int32 → ms → Prop) (K' : ms → Prop), b_slope_16 x1 x2 x3 x4 x5 x6 x7 S R16' K' ↔ R16' a0 a1 a2 a3 a4 a5 a6 a7) → Q) (k_K : ∀ (a0 : ms), K a0 → (∀ (R16' : Int32 → Int32 → Int32 → Int32 → Int32 → Int32 → Int32 → ms → Prop) (K' : ms → Prop), b_slope_16 x1 x2 x3 x4 x5 x6 x7 S R16' K' ↔ K' a0) → Q) : Q := by
  unfold b_slope_16 at h
  refine dt_p h (fun c_1 h_2 => ?_) (fun c_1 h_2 => ?_)
  ·
    exact k_K _ h_2 (fun _ _ => dt_1 c_1 (fun n => n c_1))
  ·
    exact d_e_slope_26 h_2 (fun a0 a1 a2 a3 a4 a5 a6 a7 h_4 i_3 => k_R16 a0 a1 a2 a3 a4 a5 a6 a7 h_4 (fun _ _ => Iff.trans (dt_2 c_1 c_1) (i_3 _ _))) (fun a0 h_6 i_5 => k_K a0 h_6 (fun _ _ => Iff.trans (dt_2 c_1 c_1) (i_5 _ _)))
theorem l_e_slope_16  {x1 : Int32} {x2 : Int32} {x3 : Int32} {x4 : Int32} {x5 : Int32} {x6 : Int32} {x7 : Int32} {S : ms} {K : ms → Prop} : e_slope_16 x1 x2 x3 x4 x5 x6 x7 S K ↔ lpE (C := (ms → Prop)) (fun (y : (Int32) × (Int32) × (Int32) × (Int32) × (Int32) × (Int32) × (Int32) × (ms)) (R : ((Int32) × (Int32) × (Int32) × (Int32) × (Int32) × (Int32) × (Int32) × (ms)) → Prop) (c : (ms → Prop)) => b_slope_16 y.1 y.2.1 y.2.2.1 y.2.2.2.1 y.2.2.2.2.1 y.2.2.2.2.2.1 y.2.2.2.2.2.2.1 y.2.2.2.2.2.2.2 (fun z0 z1 z2 z3 z4 z5 z6 z7 => R (z0, z1, z2, z3, z4, z5, z6, z7)) c) (x1, x2, x3, x4, x5, x6, x7, S) K :=
  ⟨fun ⟨I, μ, h0, hs⟩ => ⟨fun t => I t.1 t.2.1 t.2.2.1 t.2.2.2.1 t.2.2.2.2.1 t.2.2.2.2.2.1 t.2.2.2.2.2.2.1 t.2.2.2.2.2.2.2, fun t => μ t.1 t.2.1 t.2.2.1 t.2.2.2.1 t.2.2.2.2.1 t.2.2.2.2.2.1 t.2.2.2.2.2.2.1 t.2.2.2.2.2.2.2, h0, fun t ht => hs _ _ _ _ _ _ _ _ ht⟩, fun ⟨I, μ, h0, hs⟩ => ⟨fun y0 y1 y2 y3 y4 y5 y6 y7 => I (y0, y1, y2, y3, y4, y5, y6, y7), fun y0 y1 y2 y3 y4 y5 y6 y7 => μ (y0, y1, y2, y3, y4, y5, y6, y7), h0, fun y0 y1 y2 y3 y4 y5 y6 y7 hy => hs (y0, y1, y2, y3, y4, y5, y6, y7) hy⟩⟩
set_option maxHeartbeats 1000000 in
theorem d_e_slope_16 {x1 : Int32} {x2 : Int32} {x3 : Int32} {x4 : Int32} {x5 : Int32} {x6 : Int32} {x7 : Int32} {S : ms} {K : ms → Prop} (h : e_slope_16 x1 x2 x3 x4 x5 x6 x7 S K) {Q : Prop} (k_K : ∀ (a0 : ms), K a0 → (∀ (K' : ms → Prop), e_slope_16 x1 x2 x3 x4 x5 x6 x7 S K' ↔ K' a0) → Q) : Q := by
  obtain ⟨o, ho, hoc, hi⟩ := lp_det (C := (ms → Prop)) (b := (fun (y : (Int32) × (Int32) × (Int32) × (Int32) × (Int32) × (Int32) × (Int32) × (ms)) (R : ((Int32) × (Int32) × (Int32) × (Int32) × (Int32) × (Int32) × (Int32) × (ms)) → Prop) (c : (ms → Prop)) => b_slope_16 y.1 y.2.1 y.2.2.1 y.2.2.2.1 y.2.2.2.2.1 y.2.2.2.2.2.1 y.2.2.2.2.2.2.1 y.2.2.2.2.2.2.2 (fun z0 z1 z2 z3 z4 z5 z6 z7 => R (z0, z1, z2, z3, z4, z5, z6, z7)) c)) (O := (fun (o : ((ms → Prop)) → Prop) => (∃ (a0 : ms), o = fun c => c a0))) (fun y R c hy => d_b_slope_16 hy (fun a0 a1 a2 a3 a4 a5 a6 a7 ha ia => Or.inl ⟨(a0, a1, a2, a3, a4, a5, a6, a7), ha, fun R' c' => ia (fun z0 z1 z2 z3 z4 z5 z6 z7 => R' (z0, z1, z2, z3, z4, z5, z6, z7)) c'⟩) (fun a0 ha ia => Or.inr ⟨(fun c => c a0), ⟨a0, rfl⟩, ha, fun R' c' => ia (fun z0 z1 z2 z3 z4 z5 z6 z7 => R' (z0, z1, z2, z3, z4, z5, z6, z7)) c'⟩)) (l_e_slope_16.mp h)
  rcases ho with ⟨a0, rfl⟩
  · exact k_K _ hoc (fun K' => Iff.trans l_e_slope_16 (hi K'))
theorem v_e_slope_16 {x1 : Int32} {x2 : Int32} {x3 : Int32} {x4 : Int32} {x5 : Int32} {x6 : Int32} {x7 : Int32} {S : ms} {K : ms → Prop} (h : e_slope_16 x1 x2 x3 x4 x5 x6 x7 S K) {G : Prop} (Inv : Int32 → ms → Prop) (h0 : Inv x7 S) (hs : ∀ (yx7 : Int32) (yS : ms) (R : Int32 → Int32 → Int32 → Int32 → Int32 → Int32 → Int32 → ms → Prop), Inv yx7 yS → b_slope_16 x1 x2 x3 x4 x5 x6 yx7 yS R K → (∃ (zx7 : Int32) (zS : ms), R x1 x2 x3 x4 x5 x6 zx7 zS ∧ Inv zx7 zS) ∨ G) : G := by
  obtain ⟨I, μ, i0, is⟩ := h
  have go : ∀ (n : Nat) (yx7 : Int32) (yS : ms), μ x1 x2 x3 x4 x5 x6 yx7 yS < n → I x1 x2 x3 x4 x5 x6 yx7 yS → Inv yx7 yS → G := by
    intro n
    induction n with
    | zero => intro yx7 yS hy; exact absurd hy (Nat.not_lt_zero _)
    | succ n ih =>
      intro yx7 yS hy hI hV
      rcases hs yx7 yS _ hV (is x1 x2 x3 x4 x5 x6 yx7 yS hI) with ⟨zx7, zS, ⟨hz, hm⟩, hv⟩ | g
      · exact ih zx7 zS (Nat.lt_of_lt_of_le hm (Nat.le_of_lt_succ hy)) hz hv
      · exact g
  exact go _ x7 S (Nat.lt_succ_self _) i0 h0
theorem r_e_slope_16 {x1 : Int32} {x2 : Int32} {x3 : Int32} {x4 : Int32} {x5 : Int32} {x6 : Int32} {x7 : Int32} {S : ms} {K : ms → Prop} (h : e_slope_16 x1 x2 x3 x4 x5 x6 x7 S K) : b_slope_16 x1 x2 x3 x4 x5 x6 x7 S (fun zx1 zx2 zx3 zx4 zx5 zx6 zx7 zS => e_slope_16 zx1 zx2 zx3 zx4 zx5 zx6 zx7 zS K) K := by
  obtain ⟨I, μ, i0, is⟩ := h
  exact d_b_slope_16 (is x1 x2 x3 x4 x5 x6 x7 S i0) (fun a0 a1 a2 a3 a4 a5 a6 a7 ha ia => (ia _ _).mpr ⟨I, μ, ha.1, is⟩) (fun a0 ha ia => (ia _ _).mpr ha)
set_option maxHeartbeats 1000000 in
theorem d_p_slope {x1 : Int32} {x2 : Int32} {x3 : Int32} {x4 : Int32} {x5 : Int32} {x6 : Int32} {S : ms} {K : ms → Prop} (h : p_slope x1 x2 x3 x4 x5 x6 S K) {Q : Prop} (k_K : ∀ (a0 : ms), K a0 → (∀ (K' : ms → Prop), p_slope x1 x2 x3 x4 x5 x6 S K' ↔ K' a0) → Q) : Q := by
  unfold p_slope at h
  refine d_p_isOut h (fun v6 S6 h_2 i_1 => ?_)
  refine dt_p h_2 (fun c_3 h_4 => ?_) (fun c_3 h_4 => ?_)
  ·
    exact d_e_slope_16 h_4 (fun a0 h_6 i_5 => k_K a0 h_6 (fun _ => Iff.trans (i_1 _) (Iff.trans (dt_1 c_3 (fun n => n c_3)) (i_5 _))))
  ·
    exact k_K _ h_4 (fun _ => Iff.trans (i_1 _) (dt_2 c_3 c_3))
set_option maxHeartbeats 1000000 in
theorem d_p_fill {x1 : Int32} {x2 : Int32} {x3 : Int32} {x4 : Int32} {x5 : Int32} {S : ms} {K : ms → Prop} (h : p_fill x1 x2 x3 x4 x5 S K) {Q : Prop} (k_K : ∀ (a0 : ms), K a0 → (∀ (K' : ms → Prop), p_fill x1 x2 x3 x4 x5 S K' ↔ K' a0) → Q) : Q := by
  unfold p_fill at h
  refine d_p_slope h (fun S10 h_2 i_1 => ?_)
  exact k_K _ h_2 (fun _ => i_1 _)
set_option maxHeartbeats 1000000 in
theorem d_b_at_67 {s0 : Int32} {S : ms} {K : Int32 → ms → Prop} (h : b_at_67 s0 S K) {Q : Prop} (k_K : ∀ (a0 : Int32) (a1 : ms), K a0 a1 → (∀ (K' : Int32 → ms → Prop), b_at_67 s0 S K' ↔ K' a0 a1) → Q) : Q := by
  unfold b_at_67 at h
  exact k_K _ _ h (fun _ => Iff.rfl)
set_option maxHeartbeats 1000000 in
theorem d_b_at_42 {x1 : Int32} {x2 : Int32} {x3 : Int32} {s1 : Int32} {S : ms} {K : Int32 → ms → Prop} (h : b_at_42 x1 x2 x3 s1 S K) {Q : Prop} (k_K : ∀ (a0 : Int32) (a1 : ms), K a0 a1 → (∀ (K' : Int32 → ms → Prop), b_at_42 x1 x2 x3 s1 S K' ↔ K' a0 a1) → Q) : Q := by
  unfold b_at_42 at h
  refine dt_p h (fun c_1 h_2 => ?_) (fun c_1 h_2 => ?_)
  ·
    refine d_p_cell h_2 (fun v63 h_4 i_3 => ?_)
    exact d_b_at_67 (And.right h_4) (fun a0 a1 h_6 i_5 => k_K a0 a1 h_6 (fun _ => Iff.trans (dt_1 c_1 (fun n => n c_1)) (Iff.trans (i_3 _) (Iff.trans (dt_a (And.left h_4)) (i_5 _)))))
  ·
    exact d_b_at_67 h_2 (fun a0 a1 h_8 i_7 => k_K a0 a1 h_8 (fun _ => Iff.trans (dt_2 c_1 c_1) (i_7 _)))
set_option maxHeartbeats 1000000 in
theorem d_b_at_37 {x1 : Int32} {x2 : Int32} {x3 : Int32} {S : ms} {K : Int32 → ms → Prop} (h : b_at_37 x1 x2 x3 S K) {Q : Prop} (k_K : ∀ (a0 : Int32) (a1 : ms), K a0 a1 → (∀ (K' : Int32 → ms → Prop), b_at_37 x1 x2 x3 S K' ↔ K' a0 a1) → Q) : Q := by
  unfold b_at_37 at h
  exact d_b_at_42 h (fun a0 a1 h_2 i_1 => k_K a0 a1 h_2 (fun _ => i_1 _))
set_option maxHeartbeats 1000000 in
theorem d_p_at {x1 : Int32} {x2 : Int32} {x3 : Int32} {S : ms} {K : Int32 → ms → Prop} (h : p_at x1 x2 x3 S K) {Q : Prop} (k_K : ∀ (a0 : Int32) (a1 : ms), K a0 a1 → (∀ (K' : Int32 → ms → Prop), p_at x1 x2 x3 S K' ↔ K' a0 a1) → Q) : Q := by
  unfold p_at at h
  refine dt_p h (fun c_1 h_2 => ?_) (fun c_1 h_2 => ?_)
  ·
    exact d_b_at_37 h_2 (fun a0 a1 h_4 i_3 => k_K a0 a1 h_4 (fun _ => Iff.trans (dt_1 c_1 (fun n => n c_1)) (i_3 _)))
  ·
    refine dt_p h_2 (fun c_5 h_6 => ?_) (fun c_5 h_6 => ?_)
    ·
      exact d_b_at_37 h_6 (fun a0 a1 h_8 i_7 => k_K a0 a1 h_8 (fun _ => Iff.trans (dt_2 c_1 c_1) (Iff.trans (dt_1 c_5 (fun n => n c_5)) (i_7 _))))
    ·
      refine dt_p h_6 (fun c_9 h_10 => ?_) (fun c_9 h_10 => ?_)
      ·
        exact d_b_at_37 h_10 (fun a0 a1 h_12 i_11 => k_K a0 a1 h_12 (fun _ => Iff.trans (dt_2 c_1 c_1) (Iff.trans (dt_2 c_5 c_5) (Iff.trans (dt_1 c_9 (fun n => n c_9)) (i_11 _)))))
      ·
        refine dt_p h_10 (fun c_13 h_14 => ?_) (fun c_13 h_14 => ?_)
        ·
          exact d_b_at_37 h_14 (fun a0 a1 h_16 i_15 => k_K a0 a1 h_16 (fun _ => Iff.trans (dt_2 c_1 c_1) (Iff.trans (dt_2 c_5 c_5) (Iff.trans (dt_2 c_9 c_9) (Iff.trans (dt_1 c_13 (fun n => n c_13)) (i_15 _))))))
        ·
          refine dt_p h_14 (fun c_17 h_18 => ?_) (fun c_17 h_18 => ?_)
          ·
            exact d_b_at_37 h_18 (fun a0 a1 h_20 i_19 => k_K a0 a1 h_20 (fun _ => Iff.trans (dt_2 c_1 c_1) (Iff.trans (dt_2 c_5 c_5) (Iff.trans (dt_2 c_9 c_9) (Iff.trans (dt_2 c_13 c_13) (Iff.trans (dt_1 c_17 (fun n => n c_17)) (i_19 _)))))))
          ·
            refine dt_p h_18 (fun c_21 h_22 => ?_) (fun c_21 h_22 => ?_)
            ·
              exact d_b_at_42 h_22 (fun a0 a1 h_24 i_23 => k_K a0 a1 h_24 (fun _ => Iff.trans (dt_2 c_1 c_1) (Iff.trans (dt_2 c_5 c_5) (Iff.trans (dt_2 c_9 c_9) (Iff.trans (dt_2 c_13 c_13) (Iff.trans (dt_2 c_17 c_17) (Iff.trans (dt_1 c_21 (fun n => n c_21)) (i_23 _))))))))
            ·
              exact d_b_at_37 h_22 (fun a0 a1 h_26 i_25 => k_K a0 a1 h_26 (fun _ => Iff.trans (dt_2 c_1 c_1) (Iff.trans (dt_2 c_5 c_5) (Iff.trans (dt_2 c_9 c_9) (Iff.trans (dt_2 c_13 c_13) (Iff.trans (dt_2 c_17 c_17) (Iff.trans (dt_2 c_21 c_21) (i_25 _))))))))
set_option maxHeartbeats 1000000 in
theorem d_b_scale_124 {S : ms} {K : ms → Prop} (h : b_scale_124 S K) {Q : Prop} (k_K : ∀ (a0 : ms), K a0 → (∀ (K' : ms → Prop), b_scale_124 S K' ↔ K' a0) → Q) : Q := by
  unfold b_scale_124 at h
  exact k_K _ h (fun _ => Iff.rfl)
set_option maxHeartbeats 1000000 in
theorem d_b_scale_117 {x1 : Int32} {x2 : Int32} {x3 : Int32} {x4 : Int32} {s1 : Int32} {s2 : Int32} {S : ms} {R49 : Int32 → Int32 → Int32 → Int32 → ms → Prop} {K : ms → Prop} (h : b_scale_117 x1 x2 x3 x4 s1 s2 S R49 K) {Q : Prop} (k_R49 : ∀ (a0 : Int32) (a1 : Int32) (a2 : Int32) (a3 : Int32) (a4 : ms), R49 a0 a1 a2 a3 a4 → (∀ (R49' : Int32 → Int32 → Int32 → Int32 → ms → Prop) (K' : ms → Prop), b_scale_117 x1 x2 x3 x4 s1 s2 S R49' K' ↔ R49' a0 a1 a2 a3 a4) → Q) (k_K : ∀ (a0 : ms), K a0 → (∀ (R49' : Int32 → Int32 → Int32 → Int32 → ms → Prop) (K' : ms → Prop), b_scale_117 x1 x2 x3 x4 s1 s2 S R49' K' ↔ K' a0) → Q) : Q := by
  unfold b_scale_117 at h
  exact k_R49 _ _ _ _ _ (And.right h) (fun _ _ => dt_a (And.left h))
set_option maxHeartbeats 1000000 in
theorem d_b_scale_49 {x1 : Int32} {x2 : Int32} {x3 : Int32} {x4 : Int32} {S : ms} {R49 : Int32 → Int32 → Int32 → Int32 → ms → Prop} {K : ms → Prop} (h : b_scale_49 x1 x2 x3 x4 S R49 K) {Q : Prop} (k_R49 : ∀ (a0 : Int32) (a1 : Int32) (a2 : Int32) (a3 : Int32) (a4 : ms), R49 a0 a1 a2 a3 a4 → (∀ (R49' : Int32 → Int32 → Int32 → Int32 → ms → Prop) (K' : ms → Prop), b_scale_49 x1 x2 x3 x4 S R49' K' ↔ R49' a0 a1 a2 a3 a4) → Q) (k_K : ∀ (a0 : ms), K a0 → (∀ (R49' : Int32 → Int32 → Int32 → Int32 → ms → Prop) (K' : ms → Prop), b_scale_49 x1 x2 x3 x4 S R49' K' ↔ K' a0) → Q) : Q := by
  unfold b_scale_49 at h
  refine dt_p h (fun c_1 h_2 => ?_) (fun c_1 h_2 => ?_)
  ·
    exact d_b_scale_124 h_2 (fun a0 h_4 i_3 => k_K a0 h_4 (fun _ _ => Iff.trans (dt_1 c_1 (fun n => n c_1)) (i_3 _)))
  ·
    refine dt_n h_2 (fun c_5 h_6 => ?_) (fun c_5 h_6 => ?_)
    ·
      exact d_b_scale_124 h_6 (fun a0 h_8 i_7 => k_K a0 h_8 (fun _ _ => Iff.trans (dt_2 c_1 c_1) (Iff.trans (dt_1 c_5 c_5) (i_7 _))))
    ·
      refine dt_p h_6 (fun c_9 h_10 => ?_) (fun c_9 h_10 => ?_)
      ·
        refine dt_p h_10 (fun c_11 h_12 => ?_) (fun c_11 h_12 => ?_)
        ·
          exact d_b_scale_117 h_12 (fun a0 a1 a2 a3 a4 h_14 i_13 => k_R49 a0 a1 a2 a3 a4 h_14 (fun _ _ => Iff.trans (dt_2 c_1 c_1) (Iff.trans (dt_2 (fun n => n c_5) c_5) (Iff.trans (dt_1 c_9 (fun n => n c_9)) (Iff.trans (dt_1 c_11 (fun n => n c_11)) (i_13 _ _)))))) (fun a0 h_16 i_15 => k_K a0 h_16 (fun _ _ => Iff.trans (dt_2 c_1 c_1) (Iff.trans (dt_2 (fun n => n c_5) c_5) (Iff.trans (dt_1 c_9 (fun n => n c_9)) (Iff.trans (dt_1 c_11 (fun n => n c_11)) (i_15 _ _))))))
        ·
          exact d_b_scale_117 h_12 (fun a0 a1 a2 a3 a4 h_18 i_17 => k_R49 a0 a1 a2 a3 a4 h_18 (fun _ _ => Iff.trans (dt_2 c_1 c_1) (Iff.trans (dt_2 (fun n => n c_5) c_5) (Iff.trans (dt_1 c_9 (fun n => n c_9)) (Iff.trans (dt_2 c_11 c_11) (i_17 _ _)))))) (fun a0 h_20 i_19 => k_K a0 h_20 (fun _ _ => Iff.trans (dt_2 c_1 c_1) (Iff.trans (dt_2 (fun n => n c_5) c_5) (Iff.trans (dt_1 c_9 (fun n => n c_9)) (Iff.trans (dt_2 c_11 c_11) (i_19 _ _))))))
      ·
        exact d_b_scale_117 h_10 (fun a0 a1 a2 a3 a4 h_22 i_21 => k_R49 a0 a1 a2 a3 a4 h_22 (fun _ _ => Iff.trans (dt_2 c_1 c_1) (Iff.trans (dt_2 (fun n => n c_5) c_5) (Iff.trans (dt_2 c_9 c_9) (i_21 _ _))))) (fun a0 h_24 i_23 => k_K a0 h_24 (fun _ _ => Iff.trans (dt_2 c_1 c_1) (Iff.trans (dt_2 (fun n => n c_5) c_5) (Iff.trans (dt_2 c_9 c_9) (i_23 _ _)))))
theorem l_e_scale_49  {x1 : Int32} {x2 : Int32} {x3 : Int32} {x4 : Int32} {S : ms} {K : ms → Prop} : e_scale_49 x1 x2 x3 x4 S K ↔ lpE (C := (ms → Prop)) (fun (y : (Int32) × (Int32) × (Int32) × (Int32) × (ms)) (R : ((Int32) × (Int32) × (Int32) × (Int32) × (ms)) → Prop) (c : (ms → Prop)) => b_scale_49 y.1 y.2.1 y.2.2.1 y.2.2.2.1 y.2.2.2.2 (fun z0 z1 z2 z3 z4 => R (z0, z1, z2, z3, z4)) c) (x1, x2, x3, x4, S) K :=
  ⟨fun ⟨I, μ, h0, hs⟩ => ⟨fun t => I t.1 t.2.1 t.2.2.1 t.2.2.2.1 t.2.2.2.2, fun t => μ t.1 t.2.1 t.2.2.1 t.2.2.2.1 t.2.2.2.2, h0, fun t ht => hs _ _ _ _ _ ht⟩, fun ⟨I, μ, h0, hs⟩ => ⟨fun y0 y1 y2 y3 y4 => I (y0, y1, y2, y3, y4), fun y0 y1 y2 y3 y4 => μ (y0, y1, y2, y3, y4), h0, fun y0 y1 y2 y3 y4 hy => hs (y0, y1, y2, y3, y4) hy⟩⟩
set_option maxHeartbeats 1000000 in
theorem d_e_scale_49 {x1 : Int32} {x2 : Int32} {x3 : Int32} {x4 : Int32} {S : ms} {K : ms → Prop} (h : e_scale_49 x1 x2 x3 x4 S K) {Q : Prop} (k_K : ∀ (a0 : ms), K a0 → (∀ (K' : ms → Prop), e_scale_49 x1 x2 x3 x4 S K' ↔ K' a0) → Q) : Q := by
  obtain ⟨o, ho, hoc, hi⟩ := lp_det (C := (ms → Prop)) (b := (fun (y : (Int32) × (Int32) × (Int32) × (Int32) × (ms)) (R : ((Int32) × (Int32) × (Int32) × (Int32) × (ms)) → Prop) (c : (ms → Prop)) => b_scale_49 y.1 y.2.1 y.2.2.1 y.2.2.2.1 y.2.2.2.2 (fun z0 z1 z2 z3 z4 => R (z0, z1, z2, z3, z4)) c)) (O := (fun (o : ((ms → Prop)) → Prop) => (∃ (a0 : ms), o = fun c => c a0))) (fun y R c hy => d_b_scale_49 hy (fun a0 a1 a2 a3 a4 ha ia => Or.inl ⟨(a0, a1, a2, a3, a4), ha, fun R' c' => ia (fun z0 z1 z2 z3 z4 => R' (z0, z1, z2, z3, z4)) c'⟩) (fun a0 ha ia => Or.inr ⟨(fun c => c a0), ⟨a0, rfl⟩, ha, fun R' c' => ia (fun z0 z1 z2 z3 z4 => R' (z0, z1, z2, z3, z4)) c'⟩)) (l_e_scale_49.mp h)
  rcases ho with ⟨a0, rfl⟩
  · exact k_K _ hoc (fun K' => Iff.trans l_e_scale_49 (hi K'))
theorem v_e_scale_49 {x1 : Int32} {x2 : Int32} {x3 : Int32} {x4 : Int32} {S : ms} {K : ms → Prop} (h : e_scale_49 x1 x2 x3 x4 S K) {G : Prop} (Inv : Int32 → ms → Prop) (h0 : Inv x4 S) (hs : ∀ (yx4 : Int32) (yS : ms) (R : Int32 → Int32 → Int32 → Int32 → ms → Prop), Inv yx4 yS → b_scale_49 x1 x2 x3 yx4 yS R K → (∃ (zx4 : Int32) (zS : ms), R x1 x2 x3 zx4 zS ∧ Inv zx4 zS) ∨ G) : G := by
  obtain ⟨I, μ, i0, is⟩ := h
  have go : ∀ (n : Nat) (yx4 : Int32) (yS : ms), μ x1 x2 x3 yx4 yS < n → I x1 x2 x3 yx4 yS → Inv yx4 yS → G := by
    intro n
    induction n with
    | zero => intro yx4 yS hy; exact absurd hy (Nat.not_lt_zero _)
    | succ n ih =>
      intro yx4 yS hy hI hV
      rcases hs yx4 yS _ hV (is x1 x2 x3 yx4 yS hI) with ⟨zx4, zS, ⟨hz, hm⟩, hv⟩ | g
      · exact ih zx4 zS (Nat.lt_of_lt_of_le hm (Nat.le_of_lt_succ hy)) hz hv
      · exact g
  exact go _ x4 S (Nat.lt_succ_self _) i0 h0
theorem r_e_scale_49 {x1 : Int32} {x2 : Int32} {x3 : Int32} {x4 : Int32} {S : ms} {K : ms → Prop} (h : e_scale_49 x1 x2 x3 x4 S K) : b_scale_49 x1 x2 x3 x4 S (fun zx1 zx2 zx3 zx4 zS => e_scale_49 zx1 zx2 zx3 zx4 zS K) K := by
  obtain ⟨I, μ, i0, is⟩ := h
  exact d_b_scale_49 (is x1 x2 x3 x4 S i0) (fun a0 a1 a2 a3 a4 ha ia => (ia _ _).mpr ⟨I, μ, ha.1, is⟩) (fun a0 ha ia => (ia _ _).mpr ha)
set_option maxHeartbeats 1000000 in
theorem d_b_scale_43 {x1 : Int32} {x2 : Int32} {x3 : Int32} {s1 : Int32} {S : ms} {K : ms → Prop} (h : b_scale_43 x1 x2 x3 s1 S K) {Q : Prop} (k_K : ∀ (a0 : ms), K a0 → (∀ (K' : ms → Prop), b_scale_43 x1 x2 x3 s1 S K' ↔ K' a0) → Q) : Q := by
  unfold b_scale_43 at h
  exact d_e_scale_49 h (fun a0 h_2 i_1 => k_K a0 h_2 (fun _ => i_1 _))
set_option maxHeartbeats 1000000 in
theorem d_b_scale_38 {x1 : Int32} {x2 : Int32} {x3 : Int32} {S : ms} {K : ms → Prop} (h : b_scale_38 x1 x2 x3 S K) {Q : Prop} (k_K : ∀ (a0 : ms), K a0 → (∀ (K' : ms → Prop), b_scale_38 x1 x2 x3 S K' ↔ K' a0) → Q) : Q := by
  unfold b_scale_38 at h
  exact d_b_scale_43 h (fun a0 h_2 i_1 => k_K a0 h_2 (fun _ => i_1 _))
set_option maxHeartbeats 1000000 in
theorem d_b_scale_10 {x1 : Int32} {x2 : Int32} {x3 : Int32} {S : ms} {K : ms → Prop} (h : b_scale_10 x1 x2 x3 S K) {Q : Prop} (k_K : ∀ (a0 : ms), K a0 → (∀ (K' : ms → Prop), b_scale_10 x1 x2 x3 S K' ↔ K' a0) → Q) : Q := by
  unfold b_scale_10 at h
  refine dt_p h (fun c_1 h_2 => ?_) (fun c_1 h_2 => ?_)
  ·
    exact d_b_scale_38 h_2 (fun a0 h_4 i_3 => k_K a0 h_4 (fun _ => Iff.trans (dt_1 c_1 (fun n => n c_1)) (i_3 _)))
  ·
    refine dt_p h_2 (fun c_5 h_6 => ?_) (fun c_5 h_6 => ?_)
    ·
      exact d_b_scale_38 h_6 (fun a0 h_8 i_7 => k_K a0 h_8 (fun _ => Iff.trans (dt_2 c_1 c_1) (Iff.trans (dt_1 c_5 (fun n => n c_5)) (i_7 _))))
    ·
      refine dt_p h_6 (fun c_9 h_10 => ?_) (fun c_9 h_10 => ?_)
      ·
        exact d_b_scale_38 h_10 (fun a0 h_12 i_11 => k_K a0 h_12 (fun _ => Iff.trans (dt_2 c_1 c_1) (Iff.trans (dt_2 c_5 c_5) (Iff.trans (dt_1 c_9 (fun n => n c_9)) (i_11 _)))))
      ·
        refine dt_p h_10 (fun c_13 h_14 => ?_) (fun c_13 h_14 => ?_)
        ·
          exact d_b_scale_43 h_14 (fun a0 h_16 i_15 => k_K a0 h_16 (fun _ => Iff.trans (dt_2 c_1 c_1) (Iff.trans (dt_2 c_5 c_5) (Iff.trans (dt_2 c_9 c_9) (Iff.trans (dt_1 c_13 (fun n => n c_13)) (i_15 _))))))
        ·
          exact d_b_scale_38 h_14 (fun a0 h_18 i_17 => k_K a0 h_18 (fun _ => Iff.trans (dt_2 c_1 c_1) (Iff.trans (dt_2 c_5 c_5) (Iff.trans (dt_2 c_9 c_9) (Iff.trans (dt_2 c_13 c_13) (i_17 _))))))
set_option maxHeartbeats 1000000 in
theorem d_p_scale {x1 : Int32} {x2 : Int32} {x3 : Int32} {S : ms} {K : ms → Prop} (h : p_scale x1 x2 x3 S K) {Q : Prop} (k_K : ∀ (a0 : ms), K a0 → (∀ (K' : ms → Prop), p_scale x1 x2 x3 S K' ↔ K' a0) → Q) : Q := by
  unfold p_scale at h
  refine dt_p h (fun c_1 h_2 => ?_) (fun c_1 h_2 => ?_)
  ·
    exact d_b_scale_10 h_2 (fun a0 h_4 i_3 => k_K a0 h_4 (fun _ => Iff.trans (dt_1 c_1 (fun n => n c_1)) (i_3 _)))
  ·
    refine dt_n h_2 (fun c_5 h_6 => ?_) (fun c_5 h_6 => ?_)
    ·
      exact d_b_scale_38 h_6 (fun a0 h_8 i_7 => k_K a0 h_8 (fun _ => Iff.trans (dt_2 c_1 c_1) (Iff.trans (dt_1 c_5 c_5) (i_7 _))))
    ·
      exact d_b_scale_10 h_6 (fun a0 h_10 i_9 => k_K a0 h_10 (fun _ => Iff.trans (dt_2 c_1 c_1) (Iff.trans (dt_2 (fun n => n c_5) c_5) (i_9 _))))
set_option maxHeartbeats 1000000 in
theorem d_b_entry_81 {S : ms} {K : ms → Prop} (h : b_entry_81 S K) {Q : Prop} (k_K : ∀ (a0 : ms), K a0 → (∀ (K' : ms → Prop), b_entry_81 S K' ↔ K' a0) → Q) : Q := by
  unfold b_entry_81 at h
  exact k_K _ h (fun _ => Iff.rfl)
set_option maxHeartbeats 1000000 in
theorem d_b_entry_53 {x1 : Int32} {x2 : Int32} {x3 : Int32} {x4 : Int32} {s1 : Int32} {S : ms} {K : ms → Prop} (h : b_entry_53 x1 x2 x3 x4 s1 S K) {Q : Prop} (k_K : ∀ (a0 : ms), K a0 → (∀ (K' : ms → Prop), b_entry_53 x1 x2 x3 x4 s1 S K' ↔ K' a0) → Q) : Q := by
  unfold b_entry_53 at h
  refine dt_n h (fun c_1 h_2 => ?_) (fun c_1 h_2 => ?_)
  ·
    exact d_b_entry_81 h_2 (fun a0 h_4 i_3 => k_K a0 h_4 (fun _ => Iff.trans (dt_1 c_1 c_1) (i_3 _)))
  ·
    exact d_b_entry_81 (And.right h_2) (fun a0 h_6 i_5 => k_K a0 h_6 (fun _ => Iff.trans (dt_2 (fun n => n c_1) c_1) (Iff.trans (dt_a (And.left h_2)) (i_5 _))))
set_option maxHeartbeats 1000000 in
theorem d_b_entry_48 {x1 : Int32} {x2 : Int32} {x3 : Int32} {x4 : Int32} {S : ms} {K : ms → Prop} (h : b_entry_48 x1 x2 x3 x4 S K) {Q : Prop} (k_K : ∀ (a0 : ms), K a0 → (∀ (K' : ms → Prop), b_entry_48 x1 x2 x3 x4 S K' ↔ K' a0) → Q) : Q := by
  unfold b_entry_48 at h
  exact d_b_entry_53 h (fun a0 h_2 i_1 => k_K a0 h_2 (fun _ => i_1 _))
set_option maxHeartbeats 1000000 in
theorem d_b_entry_34 {x1 : Int32} {x2 : Int32} {x3 : Int32} {x4 : Int32} {S : ms} {K : ms → Prop} (h : b_entry_34 x1 x2 x3 x4 S K) {Q : Prop} (k_K : ∀ (a0 : ms), K a0 → (∀ (K' : ms → Prop), b_entry_34 x1 x2 x3 x4 S K' ↔ K' a0) → Q) : Q := by
  unfold b_entry_34 at h
  refine dt_p h (fun c_1 h_2 => ?_) (fun c_1 h_2 => ?_)
  ·
    exact d_b_entry_48 h_2 (fun a0 h_4 i_3 => k_K a0 h_4 (fun _ => Iff.trans (dt_1 c_1 (fun n => n c_1)) (i_3 _)))
  ·
    refine dt_p h_2 (fun c_5 h_6 => ?_) (fun c_5 h_6 => ?_)
    ·
      exact d_b_entry_53 h_6 (fun a0 h_8 i_7 => k_K a0 h_8 (fun _ => Iff.trans (dt_2 c_1 c_1) (Iff.trans (dt_1 c_5 (fun n => n c_5)) (i_7 _))))
    ·
      exact d_b_entry_48 h_6 (fun a0 h_10 i_9 => k_K a0 h_10 (fun _ => Iff.trans (dt_2 c_1 c_1) (Iff.trans (dt_2 c_5 c_5) (i_9 _))))
set_option maxHeartbeats 1000000 in
theorem d_b_entry_21 {x1 : Int32} {x2 : Int32} {x3 : Int32} {x4 : Int32} {S : ms} {K : ms → Prop} (h : b_entry_21 x1 x2 x3 x4 S K) {Q : Prop} (k_K : ∀ (a0 : ms), K a0 → (∀ (K' : ms → Prop), b_entry_21 x1 x2 x3 x4 S K' ↔ K' a0) → Q) : Q := by
  unfold b_entry_21 at h
  exact d_b_entry_53 h (fun a0 h_2 i_1 => k_K a0 h_2 (fun _ => i_1 _))
set_option maxHeartbeats 1000000 in
theorem d_p_entry {x1 : Int32} {x2 : Int32} {x3 : Int32} {x4 : Int32} {S : ms} {K : ms → Prop} (h : p_entry x1 x2 x3 x4 S K) {Q : Prop} (k_K : ∀ (a0 : ms), K a0 → (∀ (K' : ms → Prop), p_entry x1 x2 x3 x4 S K' ↔ K' a0) → Q) : Q := by
  unfold p_entry at h
  refine dt_p h (fun c_1 h_2 => ?_) (fun c_1 h_2 => ?_)
  ·
    exact d_b_entry_21 h_2 (fun a0 h_4 i_3 => k_K a0 h_4 (fun _ => Iff.trans (dt_1 c_1 (fun n => n c_1)) (i_3 _)))
  ·
    refine dt_p h_2 (fun c_5 h_6 => ?_) (fun c_5 h_6 => ?_)
    ·
      exact d_b_entry_21 h_6 (fun a0 h_8 i_7 => k_K a0 h_8 (fun _ => Iff.trans (dt_2 c_1 c_1) (Iff.trans (dt_1 c_5 (fun n => n c_5)) (i_7 _))))
    ·
      refine dt_p h_6 (fun c_9 h_10 => ?_) (fun c_9 h_10 => ?_)
      ·
        exact d_b_entry_21 h_10 (fun a0 h_12 i_11 => k_K a0 h_12 (fun _ => Iff.trans (dt_2 c_1 c_1) (Iff.trans (dt_2 c_5 c_5) (Iff.trans (dt_1 c_9 (fun n => n c_9)) (i_11 _)))))
      ·
        refine dt_p h_10 (fun c_13 h_14 => ?_) (fun c_13 h_14 => ?_)
        ·
          refine dt_p h_14 (fun c_15 h_16 => ?_) (fun c_15 h_16 => ?_)
          ·
            exact d_b_entry_34 h_16 (fun a0 h_18 i_17 => k_K a0 h_18 (fun _ => Iff.trans (dt_2 c_1 c_1) (Iff.trans (dt_2 c_5 c_5) (Iff.trans (dt_2 c_9 c_9) (Iff.trans (dt_1 c_13 (fun n => n c_13)) (Iff.trans (dt_1 c_15 (fun n => n c_15)) (i_17 _)))))))
          ·
            refine dt_n h_16 (fun c_19 h_20 => ?_) (fun c_19 h_20 => ?_)
            ·
              exact d_b_entry_48 h_20 (fun a0 h_22 i_21 => k_K a0 h_22 (fun _ => Iff.trans (dt_2 c_1 c_1) (Iff.trans (dt_2 c_5 c_5) (Iff.trans (dt_2 c_9 c_9) (Iff.trans (dt_1 c_13 (fun n => n c_13)) (Iff.trans (dt_2 c_15 c_15) (Iff.trans (dt_1 c_19 c_19) (i_21 _))))))))
            ·
              exact d_b_entry_34 h_20 (fun a0 h_24 i_23 => k_K a0 h_24 (fun _ => Iff.trans (dt_2 c_1 c_1) (Iff.trans (dt_2 c_5 c_5) (Iff.trans (dt_2 c_9 c_9) (Iff.trans (dt_1 c_13 (fun n => n c_13)) (Iff.trans (dt_2 c_15 c_15) (Iff.trans (dt_2 (fun n => n c_19) c_19) (i_23 _))))))))
        ·
          exact d_b_entry_21 h_14 (fun a0 h_26 i_25 => k_K a0 h_26 (fun _ => Iff.trans (dt_2 c_1 c_1) (Iff.trans (dt_2 c_5 c_5) (Iff.trans (dt_2 c_9 c_9) (Iff.trans (dt_2 c_13 c_13) (i_25 _))))))
set_option maxHeartbeats 1000000 in
theorem d_b_toWeights_120 {x1 : Int32} {x2 : Int32} {x3 : Int64} {x5 : Int32} {S : ms} {R99 : Int32 → ms → Prop} {R107 : Int32 → Int32 → ms → Prop} {R120 : Int32 → Int32 → Int64 → Int32 → ms → Prop} {K : ms → Prop} (h : b_toWeights_120 x1 x2 x3 x5 S R99 R107 R120 K) {Q : Prop} (k_R99 : ∀ (a0 : Int32) (a1 : ms), R99 a0 a1 → (∀ (R99' : Int32 → ms → Prop) (R107' : Int32 → Int32 → ms → Prop) (R120' : Int32 → Int32 → Int64 → Int32 → ms → Prop) (K' : ms → Prop), b_toWeights_120 x1 x2 x3 x5 S R99' R107' R120' K' ↔ R99' a0 a1) → Q) (k_R107 : ∀ (a0 : Int32) (a1 : Int32) (a2 : ms), R107 a0 a1 a2 → (∀ (R99' : Int32 → ms → Prop) (R107' : Int32 → Int32 → ms → Prop) (R120' : Int32 → Int32 → Int64 → Int32 → ms → Prop) (K' : ms → Prop), b_toWeights_120 x1 x2 x3 x5 S R99' R107' R120' K' ↔ R107' a0 a1 a2) → Q) (k_R120 : ∀ (a0 : Int32) (a1 : Int32) (a2 : Int64) (a3 : Int32) (a4 : ms), R120 a0 a1 a2 a3 a4 → (∀ (R99' : Int32 → ms → Prop) (R107' : Int32 → Int32 → ms → Prop) (R120' : Int32 → Int32 → Int64 → Int32 → ms → Prop) (K' : ms → Prop), b_toWeights_120 x1 x2 x3 x5 S R99' R107' R120' K' ↔ R120' a0 a1 a2 a3 a4) → Q) (k_K : ∀ (a0 : ms), K a0 → (∀ (R99' : Int32 → ms → Prop) (R107' : Int32 → Int32 → ms → Prop) (R120' : Int32 → Int32 → Int64 → Int32 → ms → Prop) (K' : ms → Prop), b_toWeights_120 x1 x2 x3 x5 S R99' R107' R120' K' ↔ K' a0) → Q) : Q := by
  unfold b_toWeights_120 at h
  refine dt_p h (fun c_1 h_2 => ?_) (fun c_1 h_2 => ?_)
  ·
    exact k_R107 _ _ _ (And.right h_2) (fun _ _ _ _ => Iff.trans (dt_1 c_1 (fun n => n c_1)) (dt_a (And.left h_2)))
  ·
    exact k_R120 _ _ _ _ _ (And.right (And.right h_2)) (fun _ _ _ _ => Iff.trans (dt_2 c_1 c_1) (Iff.trans (dt_a (And.left h_2)) (dt_a (And.left (And.right h_2)))))
theorem l_e_toWeights_120  {x1 : Int32} {x2 : Int32} {x3 : Int64} {x5 : Int32} {S : ms} {R99 : Int32 → ms → Prop} {R107 : Int32 → Int32 → ms → Prop} {K : ms → Prop} : e_toWeights_120 x1 x2 x3 x5 S R99 R107 K ↔ lpE (C := (Int32 → ms → Prop) × (Int32 → Int32 → ms → Prop) × (ms → Prop)) (fun (y : (Int32) × (Int32) × (Int64) × (Int32) × (ms)) (R : ((Int32) × (Int32) × (Int64) × (Int32) × (ms)) → Prop) (c : (Int32 → ms → Prop) × (Int32 → Int32 → ms → Prop) × (ms → Prop)) => b_toWeights_120 y.1 y.2.1 y.2.2.1 y.2.2.2.1 y.2.2.2.2 c.1 c.2.1 (fun z0 z1 z2 z3 z4 => R (z0, z1, z2, z3, z4)) c.2.2) (x1, x2, x3, x5, S) (R99, R107, K) :=
  ⟨fun ⟨I, μ, h0, hs⟩ => ⟨fun t => I t.1 t.2.1 t.2.2.1 t.2.2.2.1 t.2.2.2.2, fun t => μ t.1 t.2.1 t.2.2.1 t.2.2.2.1 t.2.2.2.2, h0, fun t ht => hs _ _ _ _ _ ht⟩, fun ⟨I, μ, h0, hs⟩ => ⟨fun y0 y1 y2 y3 y4 => I (y0, y1, y2, y3, y4), fun y0 y1 y2 y3 y4 => μ (y0, y1, y2, y3, y4), h0, fun y0 y1 y2 y3 y4 hy => hs (y0, y1, y2, y3, y4) hy⟩⟩
set_option maxHeartbeats 1000000 in
theorem d_e_toWeights_120 {x1 : Int32} {x2 : Int32} {x3 : Int64} {x5 : Int32} {S : ms} {R99 : Int32 → ms → Prop} {R107 : Int32 → Int32 → ms → Prop} {K : ms → Prop} (h : e_toWeights_120 x1 x2 x3 x5 S R99 R107 K) {Q : Prop} (k_R99 : ∀ (a0 : Int32) (a1 : ms), R99 a0 a1 → (∀ (R99' : Int32 → ms → Prop) (R107' : Int32 → Int32 → ms → Prop) (K' : ms → Prop), e_toWeights_120 x1 x2 x3 x5 S R99' R107' K' ↔ R99' a0 a1) → Q) (k_R107 : ∀ (a0 : Int32) (a1 : Int32) (a2 : ms), R107 a0 a1 a2 → (∀ (R99' : Int32 → ms → Prop) (R107' : Int32 → Int32 → ms → Prop) (K' : ms → Prop), e_toWeights_120 x1 x2 x3 x5 S R99' R107' K' ↔ R107' a0 a1 a2) → Q) (k_K : ∀ (a0 : ms), K a0 → (∀ (R99' : Int32 → ms → Prop) (R107' : Int32 → Int32 → ms → Prop) (K' : ms → Prop), e_toWeights_120 x1 x2 x3 x5 S R99' R107' K' ↔ K' a0) → Q) : Q := by
  obtain ⟨o, ho, hoc, hi⟩ := lp_det (C := (Int32 → ms → Prop) × (Int32 → Int32 → ms → Prop) × (ms → Prop)) (b := (fun (y : (Int32) × (Int32) × (Int64) × (Int32) × (ms)) (R : ((Int32) × (Int32) × (Int64) × (Int32) × (ms)) → Prop) (c : (Int32 → ms → Prop) × (Int32 → Int32 → ms → Prop) × (ms → Prop)) => b_toWeights_120 y.1 y.2.1 y.2.2.1 y.2.2.2.1 y.2.2.2.2 c.1 c.2.1 (fun z0 z1 z2 z3 z4 => R (z0, z1, z2, z3, z4)) c.2.2)) (O := (fun (o : ((Int32 → ms → Prop) × (Int32 → Int32 → ms → Prop) × (ms → Prop)) → Prop) => (∃ (a0 : Int32) (a1 : ms), o = fun c => c.1 a0 a1) ∨ (∃ (a0 : Int32) (a1 : Int32) (a2 : ms), o = fun c => c.2.1 a0 a1 a2) ∨ (∃ (a0 : ms), o = fun c => c.2.2 a0))) (fun y R c hy => d_b_toWeights_120 hy (fun a0 a1 ha ia => Or.inr ⟨(fun c => c.1 a0 a1), Or.inl ⟨a0, a1, rfl⟩, ha, fun R' c' => ia c'.1 c'.2.1 (fun z0 z1 z2 z3 z4 => R' (z0, z1, z2, z3, z4)) c'.2.2⟩) (fun a0 a1 a2 ha ia => Or.inr ⟨(fun c => c.2.1 a0 a1 a2), Or.inr (Or.inl ⟨a0, a1, a2, rfl⟩), ha, fun R' c' => ia c'.1 c'.2.1 (fun z0 z1 z2 z3 z4 => R' (z0, z1, z2, z3, z4)) c'.2.2⟩) (fun a0 a1 a2 a3 a4 ha ia => Or.inl ⟨(a0, a1, a2, a3, a4), ha, fun R' c' => ia c'.1 c'.2.1 (fun z0 z1 z2 z3 z4 => R' (z0, z1, z2, z3, z4)) c'.2.2⟩) (fun a0 ha ia => Or.inr ⟨(fun c => c.2.2 a0), Or.inr (Or.inr (⟨a0, rfl⟩)), ha, fun R' c' => ia c'.1 c'.2.1 (fun z0 z1 z2 z3 z4 => R' (z0, z1, z2, z3, z4)) c'.2.2⟩)) (l_e_toWeights_120.mp h)
  rcases ho with ⟨a0, a1, rfl⟩ | ⟨a0, a1, a2, rfl⟩ | ⟨a0, rfl⟩
  · exact k_R99 _ _ hoc (fun R99' R107' K' => Iff.trans l_e_toWeights_120 (hi (R99', R107', K')))
  · exact k_R107 _ _ _ hoc (fun R99' R107' K' => Iff.trans l_e_toWeights_120 (hi (R99', R107', K')))
  · exact k_K _ hoc (fun R99' R107' K' => Iff.trans l_e_toWeights_120 (hi (R99', R107', K')))
theorem v_e_toWeights_120 {x1 : Int32} {x2 : Int32} {x3 : Int64} {x5 : Int32} {S : ms} {R99 : Int32 → ms → Prop} {R107 : Int32 → Int32 → ms → Prop} {K : ms → Prop} (h : e_toWeights_120 x1 x2 x3 x5 S R99 R107 K) {G : Prop} (Inv : Int64 → Int32 → ms → Prop) (h0 : Inv x3 x5 S) (hs : ∀ (yx3 : Int64) (yx5 : Int32) (yS : ms) (R : Int32 → Int32 → Int64 → Int32 → ms → Prop), Inv yx3 yx5 yS → b_toWeights_120 x1 x2 yx3 yx5 yS R99 R107 R K → (∃ (zx3 : Int64) (zx5 : Int32) (zS : ms), R x1 x2 zx3 zx5 zS ∧ Inv zx3 zx5 zS) ∨ G) : G := by
  obtain ⟨I, μ, i0, is⟩ := h
  have go : ∀ (n : Nat) (yx3 : Int64) (yx5 : Int32) (yS : ms), μ x1 x2 yx3 yx5 yS < n → I x1 x2 yx3 yx5 yS → Inv yx3 yx5 yS → G := by
    intro n
    induction n with
    | zero => intro yx3 yx5 yS hy; exact absurd hy (Nat.not_lt_zero _)
    | succ n ih =>
      intro yx3 yx5 yS hy hI hV
      rcases hs yx3 yx5 yS _ hV (is x1 x2 yx3 yx5 yS hI) with ⟨zx3, zx5, zS, ⟨hz, hm⟩, hv⟩ | g
      · exact ih zx3 zx5 zS (Nat.lt_of_lt_of_le hm (Nat.le_of_lt_succ hy)) hz hv
      · exact g
  exact go _ x3 x5 S (Nat.lt_succ_self _) i0 h0
theorem r_e_toWeights_120 {x1 : Int32} {x2 : Int32} {x3 : Int64} {x5 : Int32} {S : ms} {R99 : Int32 → ms → Prop} {R107 : Int32 → Int32 → ms → Prop} {K : ms → Prop} (h : e_toWeights_120 x1 x2 x3 x5 S R99 R107 K) : b_toWeights_120 x1 x2 x3 x5 S R99 R107 (fun zx1 zx2 zx3 zx5 zS => e_toWeights_120 zx1 zx2 zx3 zx5 zS R99 R107 K) K := by
  obtain ⟨I, μ, i0, is⟩ := h
  exact d_b_toWeights_120 (is x1 x2 x3 x5 S i0) (fun a0 a1 ha ia => (ia _ _ _ _).mpr ha) (fun a0 a1 a2 ha ia => (ia _ _ _ _).mpr ha) (fun a0 a1 a2 a3 a4 ha ia => (ia _ _ _ _).mpr ⟨I, μ, ha.1, is⟩) (fun a0 ha ia => (ia _ _ _ _).mpr ha)
set_option maxHeartbeats 1000000 in
theorem d_b_toWeights_107 {x1 : Int32} {x2 : Int32} {S : ms} {R99 : Int32 → ms → Prop} {R107 : Int32 → Int32 → ms → Prop} {K : ms → Prop} (h : b_toWeights_107 x1 x2 S R99 R107 K) {Q : Prop} (k_R99 : ∀ (a0 : Int32) (a1 : ms), R99 a0 a1 → (∀ (R99' : Int32 → ms → Prop) (R107' : Int32 → Int32 → ms → Prop) (K' : ms → Prop), b_toWeights_107 x1 x2 S R99' R107' K' ↔ R99' a0 a1) → Q) (k_R107 : ∀ (a0 : Int32) (a1 : Int32) (a2 : ms), R107 a0 a1 a2 → (∀ (R99' : Int32 → ms → Prop) (R107' : Int32 → Int32 → ms → Prop) (K' : ms → Prop), b_toWeights_107 x1 x2 S R99' R107' K' ↔ R107' a0 a1 a2) → Q) (k_K : ∀ (a0 : ms), K a0 → (∀ (R99' : Int32 → ms → Prop) (R107' : Int32 → Int32 → ms → Prop) (K' : ms → Prop), b_toWeights_107 x1 x2 S R99' R107' K' ↔ K' a0) → Q) : Q := by
  unfold b_toWeights_107 at h
  refine dt_p h (fun c_1 h_2 => ?_) (fun c_1 h_2 => ?_)
  ·
    exact k_R99 _ _ h_2 (fun _ _ _ => dt_1 c_1 (fun n => n c_1))
  ·
    exact d_e_toWeights_120 h_2 (fun a0 a1 h_4 i_3 => k_R99 a0 a1 h_4 (fun _ _ _ => Iff.trans (dt_2 c_1 c_1) (i_3 _ _ _))) (fun a0 a1 a2 h_6 i_5 => k_R107 a0 a1 a2 h_6 (fun _ _ _ => Iff.trans (dt_2 c_1 c_1) (i_5 _ _ _))) (fun a0 h_8 i_7 => k_K a0 h_8 (fun _ _ _ => Iff.trans (dt_2 c_1 c_1) (i_7 _ _ _)))
theorem l_e_toWeights_107  {x1 : Int32} {x2 : Int32} {S : ms} {R99 : Int32 → ms → Prop} {K : ms → Prop} : e_toWeights_107 x1 x2 S R99 K ↔ lpE (C := (Int32 → ms → Prop) × (ms → Prop)) (fun (y : (Int32) × (Int32) × (ms)) (R : ((Int32) × (Int32) × (ms)) → Prop) (c : (Int32 → ms → Prop) × (ms → Prop)) => b_toWeights_107 y.1 y.2.1 y.2.2 c.1 (fun z0 z1 z2 => R (z0, z1, z2)) c.2) (x1, x2, S) (R99, K) :=
  ⟨fun ⟨I, μ, h0, hs⟩ => ⟨fun t => I t.1 t.2.1 t.2.2, fun t => μ t.1 t.2.1 t.2.2, h0, fun t ht => hs _ _ _ ht⟩, fun ⟨I, μ, h0, hs⟩ => ⟨fun y0 y1 y2 => I (y0, y1, y2), fun y0 y1 y2 => μ (y0, y1, y2), h0, fun y0 y1 y2 hy => hs (y0, y1, y2) hy⟩⟩
set_option maxHeartbeats 1000000 in
theorem d_e_toWeights_107 {x1 : Int32} {x2 : Int32} {S : ms} {R99 : Int32 → ms → Prop} {K : ms → Prop} (h : e_toWeights_107 x1 x2 S R99 K) {Q : Prop} (k_R99 : ∀ (a0 : Int32) (a1 : ms), R99 a0 a1 → (∀ (R99' : Int32 → ms → Prop) (K' : ms → Prop), e_toWeights_107 x1 x2 S R99' K' ↔ R99' a0 a1) → Q) (k_K : ∀ (a0 : ms), K a0 → (∀ (R99' : Int32 → ms → Prop) (K' : ms → Prop), e_toWeights_107 x1 x2 S R99' K' ↔ K' a0) → Q) : Q := by
  obtain ⟨o, ho, hoc, hi⟩ := lp_det (C := (Int32 → ms → Prop) × (ms → Prop)) (b := (fun (y : (Int32) × (Int32) × (ms)) (R : ((Int32) × (Int32) × (ms)) → Prop) (c : (Int32 → ms → Prop) × (ms → Prop)) => b_toWeights_107 y.1 y.2.1 y.2.2 c.1 (fun z0 z1 z2 => R (z0, z1, z2)) c.2)) (O := (fun (o : ((Int32 → ms → Prop) × (ms → Prop)) → Prop) => (∃ (a0 : Int32) (a1 : ms), o = fun c => c.1 a0 a1) ∨ (∃ (a0 : ms), o = fun c => c.2 a0))) (fun y R c hy => d_b_toWeights_107 hy (fun a0 a1 ha ia => Or.inr ⟨(fun c => c.1 a0 a1), Or.inl ⟨a0, a1, rfl⟩, ha, fun R' c' => ia c'.1 (fun z0 z1 z2 => R' (z0, z1, z2)) c'.2⟩) (fun a0 a1 a2 ha ia => Or.inl ⟨(a0, a1, a2), ha, fun R' c' => ia c'.1 (fun z0 z1 z2 => R' (z0, z1, z2)) c'.2⟩) (fun a0 ha ia => Or.inr ⟨(fun c => c.2 a0), Or.inr (⟨a0, rfl⟩), ha, fun R' c' => ia c'.1 (fun z0 z1 z2 => R' (z0, z1, z2)) c'.2⟩)) (l_e_toWeights_107.mp h)
  rcases ho with ⟨a0, a1, rfl⟩ | ⟨a0, rfl⟩
  · exact k_R99 _ _ hoc (fun R99' K' => Iff.trans l_e_toWeights_107 (hi (R99', K')))
  · exact k_K _ hoc (fun R99' K' => Iff.trans l_e_toWeights_107 (hi (R99', K')))
theorem v_e_toWeights_107 {x1 : Int32} {x2 : Int32} {S : ms} {R99 : Int32 → ms → Prop} {K : ms → Prop} (h : e_toWeights_107 x1 x2 S R99 K) {G : Prop} (Inv : Int32 → ms → Prop) (h0 : Inv x2 S) (hs : ∀ (yx2 : Int32) (yS : ms) (R : Int32 → Int32 → ms → Prop), Inv yx2 yS → b_toWeights_107 x1 yx2 yS R99 R K → (∃ (zx2 : Int32) (zS : ms), R x1 zx2 zS ∧ Inv zx2 zS) ∨ G) : G := by
  obtain ⟨I, μ, i0, is⟩ := h
  have go : ∀ (n : Nat) (yx2 : Int32) (yS : ms), μ x1 yx2 yS < n → I x1 yx2 yS → Inv yx2 yS → G := by
    intro n
    induction n with
    | zero => intro yx2 yS hy; exact absurd hy (Nat.not_lt_zero _)
    | succ n ih =>
      intro yx2 yS hy hI hV
      rcases hs yx2 yS _ hV (is x1 yx2 yS hI) with ⟨zx2, zS, ⟨hz, hm⟩, hv⟩ | g
      · exact ih zx2 zS (Nat.lt_of_lt_of_le hm (Nat.le_of_lt_succ hy)) hz hv
      · exact g
  exact go _ x2 S (Nat.lt_succ_self _) i0 h0
theorem r_e_toWeights_107 {x1 : Int32} {x2 : Int32} {S : ms} {R99 : Int32 → ms → Prop} {K : ms → Prop} (h : e_toWeights_107 x1 x2 S R99 K) : b_toWeights_107 x1 x2 S R99 (fun zx1 zx2 zS => e_toWeights_107 zx1 zx2 zS R99 K) K := by
  obtain ⟨I, μ, i0, is⟩ := h
  exact d_b_toWeights_107 (is x1 x2 S i0) (fun a0 a1 ha ia => (ia _ _ _).mpr ha) (fun a0 a1 a2 ha ia => (ia _ _ _).mpr ⟨I, μ, ha.1, is⟩) (fun a0 ha ia => (ia _ _ _).mpr ha)
set_option maxHeartbeats 1000000 in
theorem d_b_toWeights_99 {x1 : Int32} {S : ms} {R99 : Int32 → ms → Prop} {K : ms → Prop} (h : b_toWeights_99 x1 S R99 K) {Q : Prop} (k_R99 : ∀ (a0 : Int32) (a1 : ms), R99 a0 a1 → (∀ (R99' : Int32 → ms → Prop) (K' : ms → Prop), b_toWeights_99 x1 S R99' K' ↔ R99' a0 a1) → Q) (k_K : ∀ (a0 : ms), K a0 → (∀ (R99' : Int32 → ms → Prop) (K' : ms → Prop), b_toWeights_99 x1 S R99' K' ↔ K' a0) → Q) : Q := by
  unfold b_toWeights_99 at h
  refine dt_p h (fun c_1 h_2 => ?_) (fun c_1 h_2 => ?_)
  ·
    exact k_K _ h_2 (fun _ _ => dt_1 c_1 (fun n => n c_1))
  ·
    exact d_e_toWeights_107 h_2 (fun a0 a1 h_4 i_3 => k_R99 a0 a1 h_4 (fun _ _ => Iff.trans (dt_2 c_1 c_1) (i_3 _ _))) (fun a0 h_6 i_5 => k_K a0 h_6 (fun _ _ => Iff.trans (dt_2 c_1 c_1) (i_5 _ _)))
theorem l_e_toWeights_99  {x1 : Int32} {S : ms} {K : ms → Prop} : e_toWeights_99 x1 S K ↔ lpE (C := (ms → Prop)) (fun (y : (Int32) × (ms)) (R : ((Int32) × (ms)) → Prop) (c : (ms → Prop)) => b_toWeights_99 y.1 y.2 (fun z0 z1 => R (z0, z1)) c) (x1, S) K :=
  ⟨fun ⟨I, μ, h0, hs⟩ => ⟨fun t => I t.1 t.2, fun t => μ t.1 t.2, h0, fun t ht => hs _ _ ht⟩, fun ⟨I, μ, h0, hs⟩ => ⟨fun y0 y1 => I (y0, y1), fun y0 y1 => μ (y0, y1), h0, fun y0 y1 hy => hs (y0, y1) hy⟩⟩
set_option maxHeartbeats 1000000 in
theorem d_e_toWeights_99 {x1 : Int32} {S : ms} {K : ms → Prop} (h : e_toWeights_99 x1 S K) {Q : Prop} (k_K : ∀ (a0 : ms), K a0 → (∀ (K' : ms → Prop), e_toWeights_99 x1 S K' ↔ K' a0) → Q) : Q := by
  obtain ⟨o, ho, hoc, hi⟩ := lp_det (C := (ms → Prop)) (b := (fun (y : (Int32) × (ms)) (R : ((Int32) × (ms)) → Prop) (c : (ms → Prop)) => b_toWeights_99 y.1 y.2 (fun z0 z1 => R (z0, z1)) c)) (O := (fun (o : ((ms → Prop)) → Prop) => (∃ (a0 : ms), o = fun c => c a0))) (fun y R c hy => d_b_toWeights_99 hy (fun a0 a1 ha ia => Or.inl ⟨(a0, a1), ha, fun R' c' => ia (fun z0 z1 => R' (z0, z1)) c'⟩) (fun a0 ha ia => Or.inr ⟨(fun c => c a0), ⟨a0, rfl⟩, ha, fun R' c' => ia (fun z0 z1 => R' (z0, z1)) c'⟩)) (l_e_toWeights_99.mp h)
  rcases ho with ⟨a0, rfl⟩
  · exact k_K _ hoc (fun K' => Iff.trans l_e_toWeights_99 (hi K'))
theorem v_e_toWeights_99 {x1 : Int32} {S : ms} {K : ms → Prop} (h : e_toWeights_99 x1 S K) {G : Prop} (Inv : Int32 → ms → Prop) (h0 : Inv x1 S) (hs : ∀ (yx1 : Int32) (yS : ms) (R : Int32 → ms → Prop), Inv yx1 yS → b_toWeights_99 yx1 yS R K → (∃ (zx1 : Int32) (zS : ms), R zx1 zS ∧ Inv zx1 zS) ∨ G) : G := by
  obtain ⟨I, μ, i0, is⟩ := h
  have go : ∀ (n : Nat) (yx1 : Int32) (yS : ms), μ yx1 yS < n → I yx1 yS → Inv yx1 yS → G := by
    intro n
    induction n with
    | zero => intro yx1 yS hy; exact absurd hy (Nat.not_lt_zero _)
    | succ n ih =>
      intro yx1 yS hy hI hV
      rcases hs yx1 yS _ hV (is yx1 yS hI) with ⟨zx1, zS, ⟨hz, hm⟩, hv⟩ | g
      · exact ih zx1 zS (Nat.lt_of_lt_of_le hm (Nat.le_of_lt_succ hy)) hz hv
      · exact g
  exact go _ x1 S (Nat.lt_succ_self _) i0 h0
theorem r_e_toWeights_99 {x1 : Int32} {S : ms} {K : ms → Prop} (h : e_toWeights_99 x1 S K) : b_toWeights_99 x1 S (fun zx1 zS => e_toWeights_99 zx1 zS K) K := by
  obtain ⟨I, μ, i0, is⟩ := h
  exact d_b_toWeights_99 (is x1 S i0) (fun a0 a1 ha ia => (ia _ _).mpr ⟨I, μ, ha.1, is⟩) (fun a0 ha ia => (ia _ _).mpr ha)
set_option maxHeartbeats 1000000 in
theorem d_b_toWeights_23 {x1 : Int32} {x2 : Int32} {x3 : Int64} {x5 : Int32} {S : ms} {R2 : Int32 → ms → Prop} {R10 : Int32 → Int32 → ms → Prop} {R23 : Int32 → Int32 → Int64 → Int32 → ms → Prop} {K : ms → Prop} (h : b_toWeights_23 x1 x2 x3 x5 S R2 R10 R23 K) {Q : Prop} (k_R2 : ∀ (a0 : Int32) (a1 : ms), R2 a0 a1 → (∀ (R2' : Int32 → ms → Prop) (R10' : Int32 → Int32 → ms → Prop) (R23' : Int32 → Int32 → Int64 → Int32 → ms → Prop) (K' : ms → Prop), b_toWeights_23 x1 x2 x3 x5 S R2' R10' R23' K' ↔ R2' a0 a1) → Q) (k_R10 : ∀ (a0 : Int32) (a1 : Int32) (a2 : ms), R10 a0 a1 a2 → (∀ (R2' : Int32 → ms → Prop) (R10' : Int32 → Int32 → ms → Prop) (R23' : Int32 → Int32 → Int64 → Int32 → ms → Prop) (K' : ms → Prop), b_toWeights_23 x1 x2 x3 x5 S R2' R10' R23' K' ↔ R10' a0 a1 a2) → Q) (k_R23 : ∀ (a0 : Int32) (a1 : Int32) (a2 : Int64) (a3 : Int32) (a4 : ms), R23 a0 a1 a2 a3 a4 → (∀ (R2' : Int32 → ms → Prop) (R10' : Int32 → Int32 → ms → Prop) (R23' : Int32 → Int32 → Int64 → Int32 → ms → Prop) (K' : ms → Prop), b_toWeights_23 x1 x2 x3 x5 S R2' R10' R23' K' ↔ R23' a0 a1 a2 a3 a4) → Q) (k_K : ∀ (a0 : ms), K a0 → (∀ (R2' : Int32 → ms → Prop) (R10' : Int32 → Int32 → ms → Prop) (R23' : Int32 → Int32 → Int64 → Int32 → ms → Prop) (K' : ms → Prop), b_toWeights_23 x1 x2 x3 x5 S R2' R10' R23' K' ↔ K' a0) → Q) : Q := by
  unfold b_toWeights_23 at h
  refine dt_p h (fun c_1 h_2 => ?_) (fun c_1 h_2 => ?_)
  ·
    exact k_R10 _ _ _ (And.right h_2) (fun _ _ _ _ => Iff.trans (dt_1 c_1 (fun n => n c_1)) (dt_a (And.left h_2)))
  ·
    exact k_R23 _ _ _ _ _ (And.right (And.right h_2)) (fun _ _ _ _ => Iff.trans (dt_2 c_1 c_1) (Iff.trans (dt_a (And.left h_2)) (dt_a (And.left (And.right h_2)))))
theorem l_e_toWeights_23  {x1 : Int32} {x2 : Int32} {x3 : Int64} {x5 : Int32} {S : ms} {R2 : Int32 → ms → Prop} {R10 : Int32 → Int32 → ms → Prop} {K : ms → Prop} : e_toWeights_23 x1 x2 x3 x5 S R2 R10 K ↔ lpE (C := (Int32 → ms → Prop) × (Int32 → Int32 → ms → Prop) × (ms → Prop)) (fun (y : (Int32) × (Int32) × (Int64) × (Int32) × (ms)) (R : ((Int32) × (Int32) × (Int64) × (Int32) × (ms)) → Prop) (c : (Int32 → ms → Prop) × (Int32 → Int32 → ms → Prop) × (ms → Prop)) => b_toWeights_23 y.1 y.2.1 y.2.2.1 y.2.2.2.1 y.2.2.2.2 c.1 c.2.1 (fun z0 z1 z2 z3 z4 => R (z0, z1, z2, z3, z4)) c.2.2) (x1, x2, x3, x5, S) (R2, R10, K) :=
  ⟨fun ⟨I, μ, h0, hs⟩ => ⟨fun t => I t.1 t.2.1 t.2.2.1 t.2.2.2.1 t.2.2.2.2, fun t => μ t.1 t.2.1 t.2.2.1 t.2.2.2.1 t.2.2.2.2, h0, fun t ht => hs _ _ _ _ _ ht⟩, fun ⟨I, μ, h0, hs⟩ => ⟨fun y0 y1 y2 y3 y4 => I (y0, y1, y2, y3, y4), fun y0 y1 y2 y3 y4 => μ (y0, y1, y2, y3, y4), h0, fun y0 y1 y2 y3 y4 hy => hs (y0, y1, y2, y3, y4) hy⟩⟩
set_option maxHeartbeats 1000000 in
theorem d_e_toWeights_23 {x1 : Int32} {x2 : Int32} {x3 : Int64} {x5 : Int32} {S : ms} {R2 : Int32 → ms → Prop} {R10 : Int32 → Int32 → ms → Prop} {K : ms → Prop} (h : e_toWeights_23 x1 x2 x3 x5 S R2 R10 K) {Q : Prop} (k_R2 : ∀ (a0 : Int32) (a1 : ms), R2 a0 a1 → (∀ (R2' : Int32 → ms → Prop) (R10' : Int32 → Int32 → ms → Prop) (K' : ms → Prop), e_toWeights_23 x1 x2 x3 x5 S R2' R10' K' ↔ R2' a0 a1) → Q) (k_R10 : ∀ (a0 : Int32) (a1 : Int32) (a2 : ms), R10 a0 a1 a2 → (∀ (R2' : Int32 → ms → Prop) (R10' : Int32 → Int32 → ms → Prop) (K' : ms → Prop), e_toWeights_23 x1 x2 x3 x5 S R2' R10' K' ↔ R10' a0 a1 a2) → Q) (k_K : ∀ (a0 : ms), K a0 → (∀ (R2' : Int32 → ms → Prop) (R10' : Int32 → Int32 → ms → Prop) (K' : ms → Prop), e_toWeights_23 x1 x2 x3 x5 S R2' R10' K' ↔ K' a0) → Q) : Q := by
  obtain ⟨o, ho, hoc, hi⟩ := lp_det (C := (Int32 → ms → Prop) × (Int32 → Int32 → ms → Prop) × (ms → Prop)) (b := (fun (y : (Int32) × (Int32) × (Int64) × (Int32) × (ms)) (R : ((Int32) × (Int32) × (Int64) × (Int32) × (ms)) → Prop) (c : (Int32 → ms → Prop) × (Int32 → Int32 → ms → Prop) × (ms → Prop)) => b_toWeights_23 y.1 y.2.1 y.2.2.1 y.2.2.2.1 y.2.2.2.2 c.1 c.2.1 (fun z0 z1 z2 z3 z4 => R (z0, z1, z2, z3, z4)) c.2.2)) (O := (fun (o : ((Int32 → ms → Prop) × (Int32 → Int32 → ms → Prop) × (ms → Prop)) → Prop) => (∃ (a0 : Int32) (a1 : ms), o = fun c => c.1 a0 a1) ∨ (∃ (a0 : Int32) (a1 : Int32) (a2 : ms), o = fun c => c.2.1 a0 a1 a2) ∨ (∃ (a0 : ms), o = fun c => c.2.2 a0))) (fun y R c hy => d_b_toWeights_23 hy (fun a0 a1 ha ia => Or.inr ⟨(fun c => c.1 a0 a1), Or.inl ⟨a0, a1, rfl⟩, ha, fun R' c' => ia c'.1 c'.2.1 (fun z0 z1 z2 z3 z4 => R' (z0, z1, z2, z3, z4)) c'.2.2⟩) (fun a0 a1 a2 ha ia => Or.inr ⟨(fun c => c.2.1 a0 a1 a2), Or.inr (Or.inl ⟨a0, a1, a2, rfl⟩), ha, fun R' c' => ia c'.1 c'.2.1 (fun z0 z1 z2 z3 z4 => R' (z0, z1, z2, z3, z4)) c'.2.2⟩) (fun a0 a1 a2 a3 a4 ha ia => Or.inl ⟨(a0, a1, a2, a3, a4), ha, fun R' c' => ia c'.1 c'.2.1 (fun z0 z1 z2 z3 z4 => R' (z0, z1, z2, z3, z4)) c'.2.2⟩) (fun a0 ha ia => Or.inr ⟨(fun c => c.2.2 a0), Or.inr (Or.inr (⟨a0, rfl⟩)), ha, fun R' c' => ia c'.1 c'.2.1 (fun z0 z1 z2 z3 z4 => R' (z0, z1, z2, z3, z4)) c'.2.2⟩)) (l_e_toWeights_23.mp h)
  rcases ho with ⟨a0, a1, rfl⟩ | ⟨a0, a1, a2, rfl⟩ | ⟨a0, rfl⟩
  · exact k_R2 _ _ hoc (fun R2' R10' K' => Iff.trans l_e_toWeights_23 (hi (R2', R10', K')))
  · exact k_R10 _ _ _ hoc (fun R2' R10' K' => Iff.trans l_e_toWeights_23 (hi (R2', R10', K')))
  · exact k_K _ hoc (fun R2' R10' K' => Iff.trans l_e_toWeights_23 (hi (R2', R10', K')))
theorem v_e_toWeights_23 {x1 : Int32} {x2 : Int32} {x3 : Int64} {x5 : Int32} {S : ms} {R2 : Int32 → ms → Prop} {R10 : Int32 → Int32 → ms → Prop} {K : ms → Prop} (h : e_toWeights_23 x1 x2 x3 x5 S R2 R10 K) {G : Prop} (Inv : Int64 → Int32 → ms → Prop) (h0 : Inv x3 x5 S) (hs : ∀ (yx3 : Int64) (yx5 : Int32) (yS : ms) (R : Int32 → Int32 → Int64 → Int32 → ms → Prop), Inv yx3 yx5 yS → b_toWeights_23 x1 x2 yx3 yx5 yS R2 R10 R K → (∃ (zx3 : Int64) (zx5 : Int32) (zS : ms), R x1 x2 zx3 zx5 zS ∧ Inv zx3 zx5 zS) ∨ G) : G := by
  obtain ⟨I, μ, i0, is⟩ := h
  have go : ∀ (n : Nat) (yx3 : Int64) (yx5 : Int32) (yS : ms), μ x1 x2 yx3 yx5 yS < n → I x1 x2 yx3 yx5 yS → Inv yx3 yx5 yS → G := by
    intro n
    induction n with
    | zero => intro yx3 yx5 yS hy; exact absurd hy (Nat.not_lt_zero _)
    | succ n ih =>
      intro yx3 yx5 yS hy hI hV
      rcases hs yx3 yx5 yS _ hV (is x1 x2 yx3 yx5 yS hI) with ⟨zx3, zx5, zS, ⟨hz, hm⟩, hv⟩ | g
      · exact ih zx3 zx5 zS (Nat.lt_of_lt_of_le hm (Nat.le_of_lt_succ hy)) hz hv
      · exact g
  exact go _ x3 x5 S (Nat.lt_succ_self _) i0 h0
theorem r_e_toWeights_23 {x1 : Int32} {x2 : Int32} {x3 : Int64} {x5 : Int32} {S : ms} {R2 : Int32 → ms → Prop} {R10 : Int32 → Int32 → ms → Prop} {K : ms → Prop} (h : e_toWeights_23 x1 x2 x3 x5 S R2 R10 K) : b_toWeights_23 x1 x2 x3 x5 S R2 R10 (fun zx1 zx2 zx3 zx5 zS => e_toWeights_23 zx1 zx2 zx3 zx5 zS R2 R10 K) K := by
  obtain ⟨I, μ, i0, is⟩ := h
  exact d_b_toWeights_23 (is x1 x2 x3 x5 S i0) (fun a0 a1 ha ia => (ia _ _ _ _).mpr ha) (fun a0 a1 a2 ha ia => (ia _ _ _ _).mpr ha) (fun a0 a1 a2 a3 a4 ha ia => (ia _ _ _ _).mpr ⟨I, μ, ha.1, is⟩) (fun a0 ha ia => (ia _ _ _ _).mpr ha)
set_option maxHeartbeats 1000000 in
theorem d_b_toWeights_10 {x1 : Int32} {x2 : Int32} {S : ms} {R2 : Int32 → ms → Prop} {R10 : Int32 → Int32 → ms → Prop} {K : ms → Prop} (h : b_toWeights_10 x1 x2 S R2 R10 K) {Q : Prop} (k_R2 : ∀ (a0 : Int32) (a1 : ms), R2 a0 a1 → (∀ (R2' : Int32 → ms → Prop) (R10' : Int32 → Int32 → ms → Prop) (K' : ms → Prop), b_toWeights_10 x1 x2 S R2' R10' K' ↔ R2' a0 a1) → Q) (k_R10 : ∀ (a0 : Int32) (a1 : Int32) (a2 : ms), R10 a0 a1 a2 → (∀ (R2' : Int32 → ms → Prop) (R10' : Int32 → Int32 → ms → Prop) (K' : ms → Prop), b_toWeights_10 x1 x2 S R2' R10' K' ↔ R10' a0 a1 a2) → Q) (k_K : ∀ (a0 : ms), K a0 → (∀ (R2' : Int32 → ms → Prop) (R10' : Int32 → Int32 → ms → Prop) (K' : ms → Prop), b_toWeights_10 x1 x2 S R2' R10' K' ↔ K' a0) → Q) : Q := by
  unfold b_toWeights_10 at h
  refine dt_p h (fun c_1 h_2 => ?_) (fun c_1 h_2 => ?_)
  ·
    exact k_R2 _ _ h_2 (fun _ _ _ => dt_1 c_1 (fun n => n c_1))
  ·
    exact d_e_toWeights_23 h_2 (fun a0 a1 h_4 i_3 => k_R2 a0 a1 h_4 (fun _ _ _ => Iff.trans (dt_2 c_1 c_1) (i_3 _ _ _))) (fun a0 a1 a2 h_6 i_5 => k_R10 a0 a1 a2 h_6 (fun _ _ _ => Iff.trans (dt_2 c_1 c_1) (i_5 _ _ _))) (fun a0 h_8 i_7 => k_K a0 h_8 (fun _ _ _ => Iff.trans (dt_2 c_1 c_1) (i_7 _ _ _)))
theorem l_e_toWeights_10  {x1 : Int32} {x2 : Int32} {S : ms} {R2 : Int32 → ms → Prop} {K : ms → Prop} : e_toWeights_10 x1 x2 S R2 K ↔ lpE (C := (Int32 → ms → Prop) × (ms → Prop)) (fun (y : (Int32) × (Int32) × (ms)) (R : ((Int32) × (Int32) × (ms)) → Prop) (c : (Int32 → ms → Prop) × (ms → Prop)) => b_toWeights_10 y.1 y.2.1 y.2.2 c.1 (fun z0 z1 z2 => R (z0, z1, z2)) c.2) (x1, x2, S) (R2, K) :=
  ⟨fun ⟨I, μ, h0, hs⟩ => ⟨fun t => I t.1 t.2.1 t.2.2, fun t => μ t.1 t.2.1 t.2.2, h0, fun t ht => hs _ _ _ ht⟩, fun ⟨I, μ, h0, hs⟩ => ⟨fun y0 y1 y2 => I (y0, y1, y2), fun y0 y1 y2 => μ (y0, y1, y2), h0, fun y0 y1 y2 hy => hs (y0, y1, y2) hy⟩⟩
set_option maxHeartbeats 1000000 in
theorem d_e_toWeights_10 {x1 : Int32} {x2 : Int32} {S : ms} {R2 : Int32 → ms → Prop} {K : ms → Prop} (h : e_toWeights_10 x1 x2 S R2 K) {Q : Prop} (k_R2 : ∀ (a0 : Int32) (a1 : ms), R2 a0 a1 → (∀ (R2' : Int32 → ms → Prop) (K' : ms → Prop), e_toWeights_10 x1 x2 S R2' K' ↔ R2' a0 a1) → Q) (k_K : ∀ (a0 : ms), K a0 → (∀ (R2' : Int32 → ms → Prop) (K' : ms → Prop), e_toWeights_10 x1 x2 S R2' K' ↔ K' a0) → Q) : Q := by
  obtain ⟨o, ho, hoc, hi⟩ := lp_det (C := (Int32 → ms → Prop) × (ms → Prop)) (b := (fun (y : (Int32) × (Int32) × (ms)) (R : ((Int32) × (Int32) × (ms)) → Prop) (c : (Int32 → ms → Prop) × (ms → Prop)) => b_toWeights_10 y.1 y.2.1 y.2.2 c.1 (fun z0 z1 z2 => R (z0, z1, z2)) c.2)) (O := (fun (o : ((Int32 → ms → Prop) × (ms → Prop)) → Prop) => (∃ (a0 : Int32) (a1 : ms), o = fun c => c.1 a0 a1) ∨ (∃ (a0 : ms), o = fun c => c.2 a0))) (fun y R c hy => d_b_toWeights_10 hy (fun a0 a1 ha ia => Or.inr ⟨(fun c => c.1 a0 a1), Or.inl ⟨a0, a1, rfl⟩, ha, fun R' c' => ia c'.1 (fun z0 z1 z2 => R' (z0, z1, z2)) c'.2⟩) (fun a0 a1 a2 ha ia => Or.inl ⟨(a0, a1, a2), ha, fun R' c' => ia c'.1 (fun z0 z1 z2 => R' (z0, z1, z2)) c'.2⟩) (fun a0 ha ia => Or.inr ⟨(fun c => c.2 a0), Or.inr (⟨a0, rfl⟩), ha, fun R' c' => ia c'.1 (fun z0 z1 z2 => R' (z0, z1, z2)) c'.2⟩)) (l_e_toWeights_10.mp h)
  rcases ho with ⟨a0, a1, rfl⟩ | ⟨a0, rfl⟩
  · exact k_R2 _ _ hoc (fun R2' K' => Iff.trans l_e_toWeights_10 (hi (R2', K')))
  · exact k_K _ hoc (fun R2' K' => Iff.trans l_e_toWeights_10 (hi (R2', K')))
theorem v_e_toWeights_10 {x1 : Int32} {x2 : Int32} {S : ms} {R2 : Int32 → ms → Prop} {K : ms → Prop} (h : e_toWeights_10 x1 x2 S R2 K) {G : Prop} (Inv : Int32 → ms → Prop) (h0 : Inv x2 S) (hs : ∀ (yx2 : Int32) (yS : ms) (R : Int32 → Int32 → ms → Prop), Inv yx2 yS → b_toWeights_10 x1 yx2 yS R2 R K → (∃ (zx2 : Int32) (zS : ms), R x1 zx2 zS ∧ Inv zx2 zS) ∨ G) : G := by
  obtain ⟨I, μ, i0, is⟩ := h
  have go : ∀ (n : Nat) (yx2 : Int32) (yS : ms), μ x1 yx2 yS < n → I x1 yx2 yS → Inv yx2 yS → G := by
    intro n
    induction n with
    | zero => intro yx2 yS hy; exact absurd hy (Nat.not_lt_zero _)
    | succ n ih =>
      intro yx2 yS hy hI hV
      rcases hs yx2 yS _ hV (is x1 yx2 yS hI) with ⟨zx2, zS, ⟨hz, hm⟩, hv⟩ | g
      · exact ih zx2 zS (Nat.lt_of_lt_of_le hm (Nat.le_of_lt_succ hy)) hz hv
      · exact g
  exact go _ x2 S (Nat.lt_succ_self _) i0 h0
theorem r_e_toWeights_10 {x1 : Int32} {x2 : Int32} {S : ms} {R2 : Int32 → ms → Prop} {K : ms → Prop} (h : e_toWeights_10 x1 x2 S R2 K) : b_toWeights_10 x1 x2 S R2 (fun zx1 zx2 zS => e_toWeights_10 zx1 zx2 zS R2 K) K := by
  obtain ⟨I, μ, i0, is⟩ := h
  exact d_b_toWeights_10 (is x1 x2 S i0) (fun a0 a1 ha ia => (ia _ _ _).mpr ha) (fun a0 a1 a2 ha ia => (ia _ _ _).mpr ⟨I, μ, ha.1, is⟩) (fun a0 ha ia => (ia _ _ _).mpr ha)
set_option maxHeartbeats 1000000 in
theorem d_b_toWeights_2 {x1 : Int32} {S : ms} {R2 : Int32 → ms → Prop} {K : ms → Prop} (h : b_toWeights_2 x1 S R2 K) {Q : Prop} (k_R2 : ∀ (a0 : Int32) (a1 : ms), R2 a0 a1 → (∀ (R2' : Int32 → ms → Prop) (K' : ms → Prop), b_toWeights_2 x1 S R2' K' ↔ R2' a0 a1) → Q) (k_K : ∀ (a0 : ms), K a0 → (∀ (R2' : Int32 → ms → Prop) (K' : ms → Prop), b_toWeights_2 x1 S R2' K' ↔ K' a0) → Q) : Q := by
  unfold b_toWeights_2 at h
  refine dt_p h (fun c_1 h_2 => ?_) (fun c_1 h_2 => ?_)
  ·
    exact d_e_toWeights_99 h_2 (fun a0 h_4 i_3 => k_K a0 h_4 (fun _ _ => Iff.trans (dt_1 c_1 (fun n => n c_1)) (i_3 _)))
  ·
    exact d_e_toWeights_10 h_2 (fun a0 a1 h_6 i_5 => k_R2 a0 a1 h_6 (fun _ _ => Iff.trans (dt_2 c_1 c_1) (i_5 _ _))) (fun a0 h_8 i_7 => k_K a0 h_8 (fun _ _ => Iff.trans (dt_2 c_1 c_1) (i_7 _ _)))
theorem l_e_toWeights_2  {x1 : Int32} {S : ms} {K : ms → Prop} : e_toWeights_2 x1 S K ↔ lpE (C := (ms → Prop)) (fun (y : (Int32) × (ms)) (R : ((Int32) × (ms)) → Prop) (c : (ms → Prop)) => b_toWeights_2 y.1 y.2 (fun z0 z1 => R (z0, z1)) c) (x1, S) K :=
  ⟨fun ⟨I, μ, h0, hs⟩ => ⟨fun t => I t.1 t.2, fun t => μ t.1 t.2, h0, fun t ht => hs _ _ ht⟩, fun ⟨I, μ, h0, hs⟩ => ⟨fun y0 y1 => I (y0, y1), fun y0 y1 => μ (y0, y1), h0, fun y0 y1 hy => hs (y0, y1) hy⟩⟩
set_option maxHeartbeats 1000000 in
theorem d_e_toWeights_2 {x1 : Int32} {S : ms} {K : ms → Prop} (h : e_toWeights_2 x1 S K) {Q : Prop} (k_K : ∀ (a0 : ms), K a0 → (∀ (K' : ms → Prop), e_toWeights_2 x1 S K' ↔ K' a0) → Q) : Q := by
  obtain ⟨o, ho, hoc, hi⟩ := lp_det (C := (ms → Prop)) (b := (fun (y : (Int32) × (ms)) (R : ((Int32) × (ms)) → Prop) (c : (ms → Prop)) => b_toWeights_2 y.1 y.2 (fun z0 z1 => R (z0, z1)) c)) (O := (fun (o : ((ms → Prop)) → Prop) => (∃ (a0 : ms), o = fun c => c a0))) (fun y R c hy => d_b_toWeights_2 hy (fun a0 a1 ha ia => Or.inl ⟨(a0, a1), ha, fun R' c' => ia (fun z0 z1 => R' (z0, z1)) c'⟩) (fun a0 ha ia => Or.inr ⟨(fun c => c a0), ⟨a0, rfl⟩, ha, fun R' c' => ia (fun z0 z1 => R' (z0, z1)) c'⟩)) (l_e_toWeights_2.mp h)
  rcases ho with ⟨a0, rfl⟩
  · exact k_K _ hoc (fun K' => Iff.trans l_e_toWeights_2 (hi K'))
theorem v_e_toWeights_2 {x1 : Int32} {S : ms} {K : ms → Prop} (h : e_toWeights_2 x1 S K) {G : Prop} (Inv : Int32 → ms → Prop) (h0 : Inv x1 S) (hs : ∀ (yx1 : Int32) (yS : ms) (R : Int32 → ms → Prop), Inv yx1 yS → b_toWeights_2 yx1 yS R K → (∃ (zx1 : Int32) (zS : ms), R zx1 zS ∧ Inv zx1 zS) ∨ G) : G := by
  obtain ⟨I, μ, i0, is⟩ := h
  have go : ∀ (n : Nat) (yx1 : Int32) (yS : ms), μ yx1 yS < n → I yx1 yS → Inv yx1 yS → G := by
    intro n
    induction n with
    | zero => intro yx1 yS hy; exact absurd hy (Nat.not_lt_zero _)
    | succ n ih =>
      intro yx1 yS hy hI hV
      rcases hs yx1 yS _ hV (is yx1 yS hI) with ⟨zx1, zS, ⟨hz, hm⟩, hv⟩ | g
      · exact ih zx1 zS (Nat.lt_of_lt_of_le hm (Nat.le_of_lt_succ hy)) hz hv
      · exact g
  exact go _ x1 S (Nat.lt_succ_self _) i0 h0
theorem r_e_toWeights_2 {x1 : Int32} {S : ms} {K : ms → Prop} (h : e_toWeights_2 x1 S K) : b_toWeights_2 x1 S (fun zx1 zS => e_toWeights_2 zx1 zS K) K := by
  obtain ⟨I, μ, i0, is⟩ := h
  exact d_b_toWeights_2 (is x1 S i0) (fun a0 a1 ha ia => (ia _ _).mpr ⟨I, μ, ha.1, is⟩) (fun a0 ha ia => (ia _ _).mpr ha)
set_option maxHeartbeats 1000000 in
theorem d_p_toWeights {S : ms} {K : ms → Prop} (h : p_toWeights S K) {Q : Prop} (k_K : ∀ (a0 : ms), K a0 → (∀ (K' : ms → Prop), p_toWeights S K' ↔ K' a0) → Q) : Q := by
  unfold p_toWeights at h
  exact d_e_toWeights_2 h (fun a0 h_2 i_1 => k_K a0 h_2 (fun _ => i_1 _))
set_option maxHeartbeats 1000000 in
theorem d_b_toSamples_203 {x1 : Int32} {x2 : Int32} {s1 : Int32} {s2 : Int32} {S : ms} {R95 : Int32 → ms → Prop} {R103 : Int32 → Int32 → ms → Prop} {K : ms → Prop} (h : b_toSamples_203 x1 x2 s1 s2 S R95 R103 K) {Q : Prop} (k_R95 : ∀ (a0 : Int32) (a1 : ms), R95 a0 a1 → (∀ (R95' : Int32 → ms → Prop) (R103' : Int32 → Int32 → ms → Prop) (K' : ms → Prop), b_toSamples_203 x1 x2 s1 s2 S R95' R103' K' ↔ R95' a0 a1) → Q) (k_R103 : ∀ (a0 : Int32) (a1 : Int32) (a2 : ms), R103 a0 a1 a2 → (∀ (R95' : Int32 → ms → Prop) (R103' : Int32 → Int32 → ms → Prop) (K' : ms → Prop), b_toSamples_203 x1 x2 s1 s2 S R95' R103' K' ↔ R103' a0 a1 a2) → Q) (k_K : ∀ (a0 : ms), K a0 → (∀ (R95' : Int32 → ms → Prop) (R103' : Int32 → Int32 → ms → Prop) (K' : ms → Prop), b_toSamples_203 x1 x2 s1 s2 S R95' R103' K' ↔ K' a0) → Q) : Q := by
  unfold b_toSamples_203 at h
  exact k_R103 _ _ _ (And.right h) (fun _ _ _ => dt_a (And.left h))
set_option maxHeartbeats 1000000 in
theorem d_b_toSamples_116 {x1 : Int32} {x2 : Int32} {x3 : Int64} {x5 : Int32} {S : ms} {R95 : Int32 → ms → Prop} {R103 : Int32 → Int32 → ms → Prop} {R116 : Int32 → Int32 → Int64 → Int32 → ms → Prop} {K : ms → Prop} (h : b_toSamples_116 x1 x2 x3 x5 S R95 R103 R116 K) {Q : Prop} (k_R95 : ∀ (a0 : Int32) (a1 : ms), R95 a0 a1 → (∀ (R95' : Int32 → ms → Prop) (R103' : Int32 → Int32 → ms → Prop) (R116' : Int32 → Int32 → Int64 → Int32 → ms → Prop) (K' : ms → Prop), b_toSamples_116 x1 x2 x3 x5 S R95' R103' R116' K' ↔ R95' a0 a1) → Q) (k_R103 : ∀ (a0 : Int32) (a1 : Int32) (a2 : ms), R103 a0 a1 a2 → (∀ (R95' : Int32 → ms → Prop) (R103' : Int32 → Int32 → ms → Prop) (R116' : Int32 → Int32 → Int64 → Int32 → ms → Prop) (K' : ms → Prop), b_toSamples_116 x1 x2 x3 x5 S R95' R103' R116' K' ↔ R103' a0 a1 a2) → Q) (k_R116 : ∀ (a0 : Int32) (a1 : Int32) (a2 : Int64) (a3 : Int32) (a4 : ms), R116 a0 a1 a2 a3 a4 → (∀ (R95' : Int32 → ms → Prop) (R103' : Int32 → Int32 → ms → Prop) (R116' : Int32 → Int32 → Int64 → Int32 → ms → Prop) (K' : ms → Prop), b_toSamples_116 x1 x2 x3 x5 S R95' R103' R116' K' ↔ R116' a0 a1 a2 a3 a4) → Q) (k_K : ∀ (a0 : ms), K a0 → (∀ (R95' : Int32 → ms → Prop) (R103' : Int32 → Int32 → ms → Prop) (R116' : Int32 → Int32 → Int64 → Int32 → ms → Prop) (K' : ms → Prop), b_toSamples_116 x1 x2 x3 x5 S R95' R103' R116' K' ↔ K' a0) → Q) : Q := by
  unfold b_toSamples_116 at h
  refine dt_p h (fun c_1 h_2 => ?_) (fun c_1 h_2 => ?_)
  ·
    refine dt_p h_2 (fun c_3 h_4 => ?_) (fun c_3 h_4 => ?_)
    ·
      refine dt_p h_4 (fun c_5 h_6 => ?_) (fun c_5 h_6 => ?_)
      ·
        exact d_b_toSamples_203 h_6 (fun a0 a1 h_8 i_7 => k_R95 a0 a1 h_8 (fun _ _ _ _ => Iff.trans (dt_1 c_1 (fun n => n c_1)) (Iff.trans (dt_1 c_3 (fun n => n c_3)) (Iff.trans (dt_1 c_5 (fun n => n c_5)) (i_7 _ _ _))))) (fun a0 a1 a2 h_10 i_9 => k_R103 a0 a1 a2 h_10 (fun _ _ _ _ => Iff.trans (dt_1 c_1 (fun n => n c_1)) (Iff.trans (dt_1 c_3 (fun n => n c_3)) (Iff.trans (dt_1 c_5 (fun n => n c_5)) (i_9 _ _ _))))) (fun a0 h_12 i_11 => k_K a0 h_12 (fun _ _ _ _ => Iff.trans (dt_1 c_1 (fun n => n c_1)) (Iff.trans (dt_1 c_3 (fun n => n c_3)) (Iff.trans (dt_1 c_5 (fun n => n c_5)) (i_11 _ _ _)))))
      ·
        exact d_b_toSamples_203 h_6 (fun a0 a1 h_14 i_13 => k_R95 a0 a1 h_14 (fun _ _ _ _ => Iff.trans (dt_1 c_1 (fun n => n c_1)) (Iff.trans (dt_1 c_3 (fun n => n c_3)) (Iff.trans (dt_2 c_5 c_5) (i_13 _ _ _))))) (fun a0 a1 a2 h_16 i_15 => k_R103 a0 a1 a2 h_16 (fun _ _ _ _ => Iff.trans (dt_1 c_1 (fun n => n c_1)) (Iff.trans (dt_1 c_3 (fun n => n c_3)) (Iff.trans (dt_2 c_5 c_5) (i_15 _ _ _))))) (fun a0 h_18 i_17 => k_K a0 h_18 (fun _ _ _ _ => Iff.trans (dt_1 c_1 (fun n => n c_1)) (Iff.trans (dt_1 c_3 (fun n => n c_3)) (Iff.trans (dt_2 c_5 c_5) (i_17 _ _ _)))))
    ·
      exact d_b_toSamples_203 h_4 (fun a0 a1 h_20 i_19 => k_R95 a0 a1 h_20 (fun _ _ _ _ => Iff.trans (dt_1 c_1 (fun n => n c_1)) (Iff.trans (dt_2 c_3 c_3) (i_19 _ _ _)))) (fun a0 a1 a2 h_22 i_21 => k_R103 a0 a1 a2 h_22 (fun _ _ _ _ => Iff.trans (dt_1 c_1 (fun n => n c_1)) (Iff.trans (dt_2 c_3 c_3) (i_21 _ _ _)))) (fun a0 h_24 i_23 => k_K a0 h_24 (fun _ _ _ _ => Iff.trans (dt_1 c_1 (fun n => n c_1)) (Iff.trans (dt_2 c_3 c_3) (i_23 _ _ _))))
  ·
    exact k_R116 _ _ _ _ _ (And.right (And.right h_2)) (fun _ _ _ _ => Iff.trans (dt_2 c_1 c_1) (Iff.trans (dt_a (And.left h_2)) (dt_a (And.left (And.right h_2)))))
theorem l_e_toSamples_116  {x1 : Int32} {x2 : Int32} {x3 : Int64} {x5 : Int32} {S : ms} {R95 : Int32 → ms → Prop} {R103 : Int32 → Int32 → ms → Prop} {K : ms → Prop} : e_toSamples_116 x1 x2 x3 x5 S R95 R103 K ↔ lpE (C := (Int32 → ms → Prop) × (Int32 → Int32 → ms → Prop) × (ms → Prop)) (fun (y : (Int32) × (Int32) × (Int64) × (Int32) × (ms)) (R : ((Int32) × (Int32) × (Int64) × (Int32) × (ms)) → Prop) (c : (Int32 → ms → Prop) × (Int32 → Int32 → ms → Prop) × (ms → Prop)) => b_toSamples_116 y.1 y.2.1 y.2.2.1 y.2.2.2.1 y.2.2.2.2 c.1 c.2.1 (fun z0 z1 z2 z3 z4 => R (z0, z1, z2, z3, z4)) c.2.2) (x1, x2, x3, x5, S) (R95, R103, K) :=
  ⟨fun ⟨I, μ, h0, hs⟩ => ⟨fun t => I t.1 t.2.1 t.2.2.1 t.2.2.2.1 t.2.2.2.2, fun t => μ t.1 t.2.1 t.2.2.1 t.2.2.2.1 t.2.2.2.2, h0, fun t ht => hs _ _ _ _ _ ht⟩, fun ⟨I, μ, h0, hs⟩ => ⟨fun y0 y1 y2 y3 y4 => I (y0, y1, y2, y3, y4), fun y0 y1 y2 y3 y4 => μ (y0, y1, y2, y3, y4), h0, fun y0 y1 y2 y3 y4 hy => hs (y0, y1, y2, y3, y4) hy⟩⟩
set_option maxHeartbeats 1000000 in
theorem d_e_toSamples_116 {x1 : Int32} {x2 : Int32} {x3 : Int64} {x5 : Int32} {S : ms} {R95 : Int32 → ms → Prop} {R103 : Int32 → Int32 → ms → Prop} {K : ms → Prop} (h : e_toSamples_116 x1 x2 x3 x5 S R95 R103 K) {Q : Prop} (k_R95 : ∀ (a0 : Int32) (a1 : ms), R95 a0 a1 → (∀ (R95' : Int32 → ms → Prop) (R103' : Int32 → Int32 → ms → Prop) (K' : ms → Prop), e_toSamples_116 x1 x2 x3 x5 S R95' R103' K' ↔ R95' a0 a1) → Q) (k_R103 : ∀ (a0 : Int32) (a1 : Int32) (a2 : ms), R103 a0 a1 a2 → (∀ (R95' : Int32 → ms → Prop) (R103' : Int32 → Int32 → ms → Prop) (K' : ms → Prop), e_toSamples_116 x1 x2 x3 x5 S R95' R103' K' ↔ R103' a0 a1 a2) → Q) (k_K : ∀ (a0 : ms), K a0 → (∀ (R95' : Int32 → ms → Prop) (R103' : Int32 → Int32 → ms → Prop) (K' : ms → Prop), e_toSamples_116 x1 x2 x3 x5 S R95' R103' K' ↔ K' a0) → Q) : Q := by
  obtain ⟨o, ho, hoc, hi⟩ := lp_det (C := (Int32 → ms → Prop) × (Int32 → Int32 → ms → Prop) × (ms → Prop)) (b := (fun (y : (Int32) × (Int32) × (Int64) × (Int32) × (ms)) (R : ((Int32) × (Int32) × (Int64) × (Int32) × (ms)) → Prop) (c : (Int32 → ms → Prop) × (Int32 → Int32 → ms → Prop) × (ms → Prop)) => b_toSamples_116 y.1 y.2.1 y.2.2.1 y.2.2.2.1 y.2.2.2.2 c.1 c.2.1 (fun z0 z1 z2 z3 z4 => R (z0, z1, z2, z3, z4)) c.2.2)) (O := (fun (o : ((Int32 → ms → Prop) × (Int32 → Int32 → ms → Prop) × (ms → Prop)) → Prop) => (∃ (a0 : Int32) (a1 : ms), o = fun c => c.1 a0 a1) ∨ (∃ (a0 : Int32) (a1 : Int32) (a2 : ms), o = fun c => c.2.1 a0 a1 a2) ∨ (∃ (a0 : ms), o = fun c => c.2.2 a0))) (fun y R c hy => d_b_toSamples_116 hy (fun a0 a1 ha ia => Or.inr ⟨(fun c => c.1 a0 a1), Or.inl ⟨a0, a1, rfl⟩, ha, fun R' c' => ia c'.1 c'.2.1 (fun z0 z1 z2 z3 z4 => R' (z0, z1, z2, z3, z4)) c'.2.2⟩) (fun a0 a1 a2 ha ia => Or.inr ⟨(fun c => c.2.1 a0 a1 a2), Or.inr (Or.inl ⟨a0, a1, a2, rfl⟩), ha, fun R' c' => ia c'.1 c'.2.1 (fun z0 z1 z2 z3 z4 => R' (z0, z1, z2, z3, z4)) c'.2.2⟩) (fun a0 a1 a2 a3 a4 ha ia => Or.inl ⟨(a0, a1, a2, a3, a4), ha, fun R' c' => ia c'.1 c'.2.1 (fun z0 z1 z2 z3 z4 => R' (z0, z1, z2, z3, z4)) c'.2.2⟩) (fun a0 ha ia => Or.inr ⟨(fun c => c.2.2 a0), Or.inr (Or.inr (⟨a0, rfl⟩)), ha, fun R' c' => ia c'.1 c'.2.1 (fun z0 z1 z2 z3 z4 => R' (z0, z1, z2, z3, z4)) c'.2.2⟩)) (l_e_toSamples_116.mp h)
  rcases ho with ⟨a0, a1, rfl⟩ | ⟨a0, a1, a2, rfl⟩ | ⟨a0, rfl⟩
  · exact k_R95 _ _ hoc (fun R95' R103' K' => Iff.trans l_e_toSamples_116 (hi (R95', R103', K')))
  · exact k_R103 _ _ _ hoc (fun R95' R103' K' => Iff.trans l_e_toSamples_116 (hi (R95', R103', K')))
  · exact k_K _ hoc (fun R95' R103' K' => Iff.trans l_e_toSamples_116 (hi (R95', R103', K')))
theorem v_e_toSamples_116 {x1 : Int32} {x2 : Int32} {x3 : Int64} {x5 : Int32} {S : ms} {R95 : Int32 → ms → Prop} {R103 : Int32 → Int32 → ms → Prop} {K : ms → Prop} (h : e_toSamples_116 x1 x2 x3 x5 S R95 R103 K) {G : Prop} (Inv : Int64 → Int32 → ms → Prop) (h0 : Inv x3 x5 S) (hs : ∀ (yx3 : Int64) (yx5 : Int32) (yS : ms) (R : Int32 → Int32 → Int64 → Int32 → ms → Prop), Inv yx3 yx5 yS → b_toSamples_116 x1 x2 yx3 yx5 yS R95 R103 R K → (∃ (zx3 : Int64) (zx5 : Int32) (zS : ms), R x1 x2 zx3 zx5 zS ∧ Inv zx3 zx5 zS) ∨ G) : G := by
  obtain ⟨I, μ, i0, is⟩ := h
  have go : ∀ (n : Nat) (yx3 : Int64) (yx5 : Int32) (yS : ms), μ x1 x2 yx3 yx5 yS < n → I x1 x2 yx3 yx5 yS → Inv yx3 yx5 yS → G := by
    intro n
    induction n with
    | zero => intro yx3 yx5 yS hy; exact absurd hy (Nat.not_lt_zero _)
    | succ n ih =>
      intro yx3 yx5 yS hy hI hV
      rcases hs yx3 yx5 yS _ hV (is x1 x2 yx3 yx5 yS hI) with ⟨zx3, zx5, zS, ⟨hz, hm⟩, hv⟩ | g
      · exact ih zx3 zx5 zS (Nat.lt_of_lt_of_le hm (Nat.le_of_lt_succ hy)) hz hv
      · exact g
  exact go _ x3 x5 S (Nat.lt_succ_self _) i0 h0
theorem r_e_toSamples_116 {x1 : Int32} {x2 : Int32} {x3 : Int64} {x5 : Int32} {S : ms} {R95 : Int32 → ms → Prop} {R103 : Int32 → Int32 → ms → Prop} {K : ms → Prop} (h : e_toSamples_116 x1 x2 x3 x5 S R95 R103 K) : b_toSamples_116 x1 x2 x3 x5 S R95 R103 (fun zx1 zx2 zx3 zx5 zS => e_toSamples_116 zx1 zx2 zx3 zx5 zS R95 R103 K) K := by
  obtain ⟨I, μ, i0, is⟩ := h
  exact d_b_toSamples_116 (is x1 x2 x3 x5 S i0) (fun a0 a1 ha ia => (ia _ _ _ _).mpr ha) (fun a0 a1 a2 ha ia => (ia _ _ _ _).mpr ha) (fun a0 a1 a2 a3 a4 ha ia => (ia _ _ _ _).mpr ⟨I, μ, ha.1, is⟩) (fun a0 ha ia => (ia _ _ _ _).mpr ha)
set_option maxHeartbeats 1000000 in
theorem d_b_toSamples_103 {x1 : Int32} {x2 : Int32} {S : ms} {R95 : Int32 → ms → Prop} {R103 : Int32 → Int32 → ms → Prop} {K : ms → Prop} (h : b_toSamples_103 x1 x2 S R95 R103 K) {Q : Prop} (k_R95 : ∀ (a0 : Int32) (a1 : ms), R95 a0 a1 → (∀ (R95' : Int32 → ms → Prop) (R103' : Int32 → Int32 → ms → Prop) (K' : ms → Prop), b_toSamples_103 x1 x2 S R95' R103' K' ↔ R95' a0 a1) → Q) (k_R103 : ∀ (a0 : Int32) (a1 : Int32) (a2 : ms), R103 a0 a1 a2 → (∀ (R95' : Int32 → ms → Prop) (R103' : Int32 → Int32 → ms → Prop) (K' : ms → Prop), b_toSamples_103 x1 x2 S R95' R103' K' ↔ R103' a0 a1 a2) → Q) (k_K : ∀ (a0 : ms), K a0 → (∀ (R95' : Int32 → ms → Prop) (R103' : Int32 → Int32 → ms → Prop) (K' : ms → Prop), b_toSamples_103 x1 x2 S R95' R103' K' ↔ K' a0) → Q) : Q := by
  unfold b_toSamples_103 at h
  refine dt_p h (fun c_1 h_2 => ?_) (fun c_1 h_2 => ?_)
  ·
    exact k_R95 _ _ h_2 (fun _ _ _ => dt_1 c_1 (fun n => n c_1))
  ·
    exact d_e_toSamples_116 h_2 (fun a0 a1 h_4 i_3 => k_R95 a0 a1 h_4 (fun _ _ _ => Iff.trans (dt_2 c_1 c_1) (i_3 _ _ _))) (fun a0 a1 a2 h_6 i_5 => k_R103 a0 a1 a2 h_6 (fun _ _ _ => Iff.trans (dt_2 c_1 c_1) (i_5 _ _ _))) (fun a0 h_8 i_7 => k_K a0 h_8 (fun _ _ _ => Iff.trans (dt_2 c_1 c_1) (i_7 _ _ _)))
theorem l_e_toSamples_103  {x1 : Int32} {x2 : Int32} {S : ms} {R95 : Int32 → ms → Prop} {K : ms → Prop} : e_toSamples_103 x1 x2 S R95 K ↔ lpE (C := (Int32 → ms → Prop) × (ms → Prop)) (fun (y : (Int32) × (Int32) × (ms)) (R : ((Int32) × (Int32) × (ms)) → Prop) (c : (Int32 → ms → Prop) × (ms → Prop)) => b_toSamples_103 y.1 y.2.1 y.2.2 c.1 (fun z0 z1 z2 => R (z0, z1, z2)) c.2) (x1, x2, S) (R95, K) :=
  ⟨fun ⟨I, μ, h0, hs⟩ => ⟨fun t => I t.1 t.2.1 t.2.2, fun t => μ t.1 t.2.1 t.2.2, h0, fun t ht => hs _ _ _ ht⟩, fun ⟨I, μ, h0, hs⟩ => ⟨fun y0 y1 y2 => I (y0, y1, y2), fun y0 y1 y2 => μ (y0, y1, y2), h0, fun y0 y1 y2 hy => hs (y0, y1, y2) hy⟩⟩
set_option maxHeartbeats 1000000 in
theorem d_e_toSamples_103 {x1 : Int32} {x2 : Int32} {S : ms} {R95 : Int32 → ms → Prop} {K : ms → Prop} (h : e_toSamples_103 x1 x2 S R95 K) {Q : Prop} (k_R95 : ∀ (a0 : Int32) (a1 : ms), R95 a0 a1 → (∀ (R95' : Int32 → ms → Prop) (K' : ms → Prop), e_toSamples_103 x1 x2 S R95' K' ↔ R95' a0 a1) → Q) (k_K : ∀ (a0 : ms), K a0 → (∀ (R95' : Int32 → ms → Prop) (K' : ms → Prop), e_toSamples_103 x1 x2 S R95' K' ↔ K' a0) → Q) : Q := by
  obtain ⟨o, ho, hoc, hi⟩ := lp_det (C := (Int32 → ms → Prop) × (ms → Prop)) (b := (fun (y : (Int32) × (Int32) × (ms)) (R : ((Int32) × (Int32) × (ms)) → Prop) (c : (Int32 → ms → Prop) × (ms → Prop)) => b_toSamples_103 y.1 y.2.1 y.2.2 c.1 (fun z0 z1 z2 => R (z0, z1, z2)) c.2)) (O := (fun (o : ((Int32 → ms → Prop) × (ms → Prop)) → Prop) => (∃ (a0 : Int32) (a1 : ms), o = fun c => c.1 a0 a1) ∨ (∃ (a0 : ms), o = fun c => c.2 a0))) (fun y R c hy => d_b_toSamples_103 hy (fun a0 a1 ha ia => Or.inr ⟨(fun c => c.1 a0 a1), Or.inl ⟨a0, a1, rfl⟩, ha, fun R' c' => ia c'.1 (fun z0 z1 z2 => R' (z0, z1, z2)) c'.2⟩) (fun a0 a1 a2 ha ia => Or.inl ⟨(a0, a1, a2), ha, fun R' c' => ia c'.1 (fun z0 z1 z2 => R' (z0, z1, z2)) c'.2⟩) (fun a0 ha ia => Or.inr ⟨(fun c => c.2 a0), Or.inr (⟨a0, rfl⟩), ha, fun R' c' => ia c'.1 (fun z0 z1 z2 => R' (z0, z1, z2)) c'.2⟩)) (l_e_toSamples_103.mp h)
  rcases ho with ⟨a0, a1, rfl⟩ | ⟨a0, rfl⟩
  · exact k_R95 _ _ hoc (fun R95' K' => Iff.trans l_e_toSamples_103 (hi (R95', K')))
  · exact k_K _ hoc (fun R95' K' => Iff.trans l_e_toSamples_103 (hi (R95', K')))
theorem v_e_toSamples_103 {x1 : Int32} {x2 : Int32} {S : ms} {R95 : Int32 → ms → Prop} {K : ms → Prop} (h : e_toSamples_103 x1 x2 S R95 K) {G : Prop} (Inv : Int32 → ms → Prop) (h0 : Inv x2 S) (hs : ∀ (yx2 : Int32) (yS : ms) (R : Int32 → Int32 → ms → Prop), Inv yx2 yS → b_toSamples_103 x1 yx2 yS R95 R K → (∃ (zx2 : Int32) (zS : ms), R x1 zx2 zS ∧ Inv zx2 zS) ∨ G) : G := by
  obtain ⟨I, μ, i0, is⟩ := h
  have go : ∀ (n : Nat) (yx2 : Int32) (yS : ms), μ x1 yx2 yS < n → I x1 yx2 yS → Inv yx2 yS → G := by
    intro n
    induction n with
    | zero => intro yx2 yS hy; exact absurd hy (Nat.not_lt_zero _)
    | succ n ih =>
      intro yx2 yS hy hI hV
      rcases hs yx2 yS _ hV (is x1 yx2 yS hI) with ⟨zx2, zS, ⟨hz, hm⟩, hv⟩ | g
      · exact ih zx2 zS (Nat.lt_of_lt_of_le hm (Nat.le_of_lt_succ hy)) hz hv
      · exact g
  exact go _ x2 S (Nat.lt_succ_self _) i0 h0
theorem r_e_toSamples_103 {x1 : Int32} {x2 : Int32} {S : ms} {R95 : Int32 → ms → Prop} {K : ms → Prop} (h : e_toSamples_103 x1 x2 S R95 K) : b_toSamples_103 x1 x2 S R95 (fun zx1 zx2 zS => e_toSamples_103 zx1 zx2 zS R95 K) K := by
  obtain ⟨I, μ, i0, is⟩ := h
  exact d_b_toSamples_103 (is x1 x2 S i0) (fun a0 a1 ha ia => (ia _ _ _).mpr ha) (fun a0 a1 a2 ha ia => (ia _ _ _).mpr ⟨I, μ, ha.1, is⟩) (fun a0 ha ia => (ia _ _ _).mpr ha)
set_option maxHeartbeats 1000000 in
theorem d_b_toSamples_95 {x1 : Int32} {S : ms} {R95 : Int32 → ms → Prop} {K : ms → Prop} (h : b_toSamples_95 x1 S R95 K) {Q : Prop} (k_R95 : ∀ (a0 : Int32) (a1 : ms), R95 a0 a1 → (∀ (R95' : Int32 → ms → Prop) (K' : ms → Prop), b_toSamples_95 x1 S R95' K' ↔ R95' a0 a1) → Q) (k_K : ∀ (a0 : ms), K a0 → (∀ (R95' : Int32 → ms → Prop) (K' : ms → Prop), b_toSamples_95 x1 S R95' K' ↔ K' a0) → Q) : Q := by
  unfold b_toSamples_95 at h
  refine dt_p h (fun c_1 h_2 => ?_) (fun c_1 h_2 => ?_)
  ·
    exact k_K _ h_2 (fun _ _ => dt_1 c_1 (fun n => n c_1))
  ·
    exact d_e_toSamples_103 h_2 (fun a0 a1 h_4 i_3 => k_R95 a0 a1 h_4 (fun _ _ => Iff.trans (dt_2 c_1 c_1) (i_3 _ _))) (fun a0 h_6 i_5 => k_K a0 h_6 (fun _ _ => Iff.trans (dt_2 c_1 c_1) (i_5 _ _)))
theorem l_e_toSamples_95  {x1 : Int32} {S : ms} {K : ms → Prop} : e_toSamples_95 x1 S K ↔ lpE (C := (ms → Prop)) (fun (y : (Int32) × (ms)) (R : ((Int32) × (ms)) → Prop) (c : (ms → Prop)) => b_toSamples_95 y.1 y.2 (fun z0 z1 => R (z0, z1)) c) (x1, S) K :=
  ⟨fun ⟨I, μ, h0, hs⟩ => ⟨fun t => I t.1 t.2, fun t => μ t.1 t.2, h0, fun t ht => hs _ _ ht⟩, fun ⟨I, μ, h0, hs⟩ => ⟨fun y0 y1 => I (y0, y1), fun y0 y1 => μ (y0, y1), h0, fun y0 y1 hy => hs (y0, y1) hy⟩⟩
set_option maxHeartbeats 1000000 in
theorem d_e_toSamples_95 {x1 : Int32} {S : ms} {K : ms → Prop} (h : e_toSamples_95 x1 S K) {Q : Prop} (k_K : ∀ (a0 : ms), K a0 → (∀ (K' : ms → Prop), e_toSamples_95 x1 S K' ↔ K' a0) → Q) : Q := by
  obtain ⟨o, ho, hoc, hi⟩ := lp_det (C := (ms → Prop)) (b := (fun (y : (Int32) × (ms)) (R : ((Int32) × (ms)) → Prop) (c : (ms → Prop)) => b_toSamples_95 y.1 y.2 (fun z0 z1 => R (z0, z1)) c)) (O := (fun (o : ((ms → Prop)) → Prop) => (∃ (a0 : ms), o = fun c => c a0))) (fun y R c hy => d_b_toSamples_95 hy (fun a0 a1 ha ia => Or.inl ⟨(a0, a1), ha, fun R' c' => ia (fun z0 z1 => R' (z0, z1)) c'⟩) (fun a0 ha ia => Or.inr ⟨(fun c => c a0), ⟨a0, rfl⟩, ha, fun R' c' => ia (fun z0 z1 => R' (z0, z1)) c'⟩)) (l_e_toSamples_95.mp h)
  rcases ho with ⟨a0, rfl⟩
  · exact k_K _ hoc (fun K' => Iff.trans l_e_toSamples_95 (hi K'))
theorem v_e_toSamples_95 {x1 : Int32} {S : ms} {K : ms → Prop} (h : e_toSamples_95 x1 S K) {G : Prop} (Inv : Int32 → ms → Prop) (h0 : Inv x1 S) (hs : ∀ (yx1 : Int32) (yS : ms) (R : Int32 → ms → Prop), Inv yx1 yS → b_toSamples_95 yx1 yS R K → (∃ (zx1 : Int32) (zS : ms), R zx1 zS ∧ Inv zx1 zS) ∨ G) : G := by
  obtain ⟨I, μ, i0, is⟩ := h
  have go : ∀ (n : Nat) (yx1 : Int32) (yS : ms), μ yx1 yS < n → I yx1 yS → Inv yx1 yS → G := by
    intro n
    induction n with
    | zero => intro yx1 yS hy; exact absurd hy (Nat.not_lt_zero _)
    | succ n ih =>
      intro yx1 yS hy hI hV
      rcases hs yx1 yS _ hV (is yx1 yS hI) with ⟨zx1, zS, ⟨hz, hm⟩, hv⟩ | g
      · exact ih zx1 zS (Nat.lt_of_lt_of_le hm (Nat.le_of_lt_succ hy)) hz hv
      · exact g
  exact go _ x1 S (Nat.lt_succ_self _) i0 h0
theorem r_e_toSamples_95 {x1 : Int32} {S : ms} {K : ms → Prop} (h : e_toSamples_95 x1 S K) : b_toSamples_95 x1 S (fun zx1 zS => e_toSamples_95 zx1 zS K) K := by
  obtain ⟨I, μ, i0, is⟩ := h
  exact d_b_toSamples_95 (is x1 S i0) (fun a0 a1 ha ia => (ia _ _).mpr ⟨I, μ, ha.1, is⟩) (fun a0 ha ia => (ia _ _).mpr ha)
set_option maxHeartbeats 1000000 in
theorem d_b_toSamples_23 {x1 : Int32} {x2 : Int32} {x3 : Int64} {x5 : Int32} {S : ms} {R2 : Int32 → ms → Prop} {R10 : Int32 → Int32 → ms → Prop} {R23 : Int32 → Int32 → Int64 → Int32 → ms → Prop} {K : ms → Prop} (h : b_toSamples_23 x1 x2 x3 x5 S R2 R10 R23 K) {Q : Prop} (k_R2 : ∀ (a0 : Int32) (a1 : ms), R2 a0 a1 → (∀ (R2' : Int32 → ms → Prop) (R10' : Int32 → Int32 → ms → Prop) (R23' : Int32 → Int32 → Int64 → Int32 → ms → Prop) (K' : ms → Prop), b_toSamples_23 x1 x2 x3 x5 S R2' R10' R23' K' ↔ R2' a0 a1) → Q) (k_R10 : ∀ (a0 : Int32) (a1 : Int32) (a2 : ms), R10 a0 a1 a2 → (∀ (R2' : Int32 → ms → Prop) (R10' : Int32 → Int32 → ms → Prop) (R23' : Int32 → Int32 → Int64 → Int32 → ms → Prop) (K' : ms → Prop), b_toSamples_23 x1 x2 x3 x5 S R2' R10' R23' K' ↔ R10' a0 a1 a2) → Q) (k_R23 : ∀ (a0 : Int32) (a1 : Int32) (a2 : Int64) (a3 : Int32) (a4 : ms), R23 a0 a1 a2 a3 a4 → (∀ (R2' : Int32 → ms → Prop) (R10' : Int32 → Int32 → ms → Prop) (R23' : Int32 → Int32 → Int64 → Int32 → ms → Prop) (K' : ms → Prop), b_toSamples_23 x1 x2 x3 x5 S R2' R10' R23' K' ↔ R23' a0 a1 a2 a3 a4) → Q) (k_K : ∀ (a0 : ms), K a0 → (∀ (R2' : Int32 → ms → Prop) (R10' : Int32 → Int32 → ms → Prop) (R23' : Int32 → Int32 → Int64 → Int32 → ms → Prop) (K' : ms → Prop), b_toSamples_23 x1 x2 x3 x5 S R2' R10' R23' K' ↔ K' a0) → Q) : Q := by
  unfold b_toSamples_23 at h
  refine dt_p h (fun c_1 h_2 => ?_) (fun c_1 h_2 => ?_)
  ·
    exact k_R10 _ _ _ (And.right h_2) (fun _ _ _ _ => Iff.trans (dt_1 c_1 (fun n => n c_1)) (dt_a (And.left h_2)))
  ·
    exact k_R23 _ _ _ _ _ (And.right (And.right h_2)) (fun _ _ _ _ => Iff.trans (dt_2 c_1 c_1) (Iff.trans (dt_a (And.left h_2)) (dt_a (And.left (And.right h_2)))))
theorem l_e_toSamples_23  {x1 : Int32} {x2 : Int32} {x3 : Int64} {x5 : Int32} {S : ms} {R2 : Int32 → ms → Prop} {R10 : Int32 → Int32 → ms → Prop} {K : ms → Prop} : e_toSamples_23 x1 x2 x3 x5 S R2 R10 K ↔ lpE (C := (Int32 → ms → Prop) × (Int32 → Int32 → ms → Prop) × (ms → Prop)) (fun (y : (Int32) × (Int32) × (Int64) × (Int32) × (ms)) (R : ((Int32) × (Int32) × (Int64) × (Int32) × (ms)) → Prop) (c : (Int32 → ms → Prop) × (Int32 → Int32 → ms → Prop) × (ms → Prop)) => b_toSamples_23 y.1 y.2.1 y.2.2.1 y.2.2.2.1 y.2.2.2.2 c.1 c.2.1 (fun z0 z1 z2 z3 z4 => R (z0, z1, z2, z3, z4)) c.2.2) (x1, x2, x3, x5, S) (R2, R10, K) :=
  ⟨fun ⟨I, μ, h0, hs⟩ => ⟨fun t => I t.1 t.2.1 t.2.2.1 t.2.2.2.1 t.2.2.2.2, fun t => μ t.1 t.2.1 t.2.2.1 t.2.2.2.1 t.2.2.2.2, h0, fun t ht => hs _ _ _ _ _ ht⟩, fun ⟨I, μ, h0, hs⟩ => ⟨fun y0 y1 y2 y3 y4 => I (y0, y1, y2, y3, y4), fun y0 y1 y2 y3 y4 => μ (y0, y1, y2, y3, y4), h0, fun y0 y1 y2 y3 y4 hy => hs (y0, y1, y2, y3, y4) hy⟩⟩
set_option maxHeartbeats 1000000 in
theorem d_e_toSamples_23 {x1 : Int32} {x2 : Int32} {x3 : Int64} {x5 : Int32} {S : ms} {R2 : Int32 → ms → Prop} {R10 : Int32 → Int32 → ms → Prop} {K : ms → Prop} (h : e_toSamples_23 x1 x2 x3 x5 S R2 R10 K) {Q : Prop} (k_R2 : ∀ (a0 : Int32) (a1 : ms), R2 a0 a1 → (∀ (R2' : Int32 → ms → Prop) (R10' : Int32 → Int32 → ms → Prop) (K' : ms → Prop), e_toSamples_23 x1 x2 x3 x5 S R2' R10' K' ↔ R2' a0 a1) → Q) (k_R10 : ∀ (a0 : Int32) (a1 : Int32) (a2 : ms), R10 a0 a1 a2 → (∀ (R2' : Int32 → ms → Prop) (R10' : Int32 → Int32 → ms → Prop) (K' : ms → Prop), e_toSamples_23 x1 x2 x3 x5 S R2' R10' K' ↔ R10' a0 a1 a2) → Q) (k_K : ∀ (a0 : ms), K a0 → (∀ (R2' : Int32 → ms → Prop) (R10' : Int32 → Int32 → ms → Prop) (K' : ms → Prop), e_toSamples_23 x1 x2 x3 x5 S R2' R10' K' ↔ K' a0) → Q) : Q := by
  obtain ⟨o, ho, hoc, hi⟩ := lp_det (C := (Int32 → ms → Prop) × (Int32 → Int32 → ms → Prop) × (ms → Prop)) (b := (fun (y : (Int32) × (Int32) × (Int64) × (Int32) × (ms)) (R : ((Int32) × (Int32) × (Int64) × (Int32) × (ms)) → Prop) (c : (Int32 → ms → Prop) × (Int32 → Int32 → ms → Prop) × (ms → Prop)) => b_toSamples_23 y.1 y.2.1 y.2.2.1 y.2.2.2.1 y.2.2.2.2 c.1 c.2.1 (fun z0 z1 z2 z3 z4 => R (z0, z1, z2, z3, z4)) c.2.2)) (O := (fun (o : ((Int32 → ms → Prop) × (Int32 → Int32 → ms → Prop) × (ms → Prop)) → Prop) => (∃ (a0 : Int32) (a1 : ms), o = fun c => c.1 a0 a1) ∨ (∃ (a0 : Int32) (a1 : Int32) (a2 : ms), o = fun c => c.2.1 a0 a1 a2) ∨ (∃ (a0 : ms), o = fun c => c.2.2 a0))) (fun y R c hy => d_b_toSamples_23 hy (fun a0 a1 ha ia => Or.inr ⟨(fun c => c.1 a0 a1), Or.inl ⟨a0, a1, rfl⟩, ha, fun R' c' => ia c'.1 c'.2.1 (fun z0 z1 z2 z3 z4 => R' (z0, z1, z2, z3, z4)) c'.2.2⟩) (fun a0 a1 a2 ha ia => Or.inr ⟨(fun c => c.2.1 a0 a1 a2), Or.inr (Or.inl ⟨a0, a1, a2, rfl⟩), ha, fun R' c' => ia c'.1 c'.2.1 (fun z0 z1 z2 z3 z4 => R' (z0, z1, z2, z3, z4)) c'.2.2⟩) (fun a0 a1 a2 a3 a4 ha ia => Or.inl ⟨(a0, a1, a2, a3, a4), ha, fun R' c' => ia c'.1 c'.2.1 (fun z0 z1 z2 z3 z4 => R' (z0, z1, z2, z3, z4)) c'.2.2⟩) (fun a0 ha ia => Or.inr ⟨(fun c => c.2.2 a0), Or.inr (Or.inr (⟨a0, rfl⟩)), ha, fun R' c' => ia c'.1 c'.2.1 (fun z0 z1 z2 z3 z4 => R' (z0, z1, z2, z3, z4)) c'.2.2⟩)) (l_e_toSamples_23.mp h)
  rcases ho with ⟨a0, a1, rfl⟩ | ⟨a0, a1, a2, rfl⟩ | ⟨a0, rfl⟩
  · exact k_R2 _ _ hoc (fun R2' R10' K' => Iff.trans l_e_toSamples_23 (hi (R2', R10', K')))
  · exact k_R10 _ _ _ hoc (fun R2' R10' K' => Iff.trans l_e_toSamples_23 (hi (R2', R10', K')))
  · exact k_K _ hoc (fun R2' R10' K' => Iff.trans l_e_toSamples_23 (hi (R2', R10', K')))
theorem v_e_toSamples_23 {x1 : Int32} {x2 : Int32} {x3 : Int64} {x5 : Int32} {S : ms} {R2 : Int32 → ms → Prop} {R10 : Int32 → Int32 → ms → Prop} {K : ms → Prop} (h : e_toSamples_23 x1 x2 x3 x5 S R2 R10 K) {G : Prop} (Inv : Int64 → Int32 → ms → Prop) (h0 : Inv x3 x5 S) (hs : ∀ (yx3 : Int64) (yx5 : Int32) (yS : ms) (R : Int32 → Int32 → Int64 → Int32 → ms → Prop), Inv yx3 yx5 yS → b_toSamples_23 x1 x2 yx3 yx5 yS R2 R10 R K → (∃ (zx3 : Int64) (zx5 : Int32) (zS : ms), R x1 x2 zx3 zx5 zS ∧ Inv zx3 zx5 zS) ∨ G) : G := by
  obtain ⟨I, μ, i0, is⟩ := h
  have go : ∀ (n : Nat) (yx3 : Int64) (yx5 : Int32) (yS : ms), μ x1 x2 yx3 yx5 yS < n → I x1 x2 yx3 yx5 yS → Inv yx3 yx5 yS → G := by
    intro n
    induction n with
    | zero => intro yx3 yx5 yS hy; exact absurd hy (Nat.not_lt_zero _)
    | succ n ih =>
      intro yx3 yx5 yS hy hI hV
      rcases hs yx3 yx5 yS _ hV (is x1 x2 yx3 yx5 yS hI) with ⟨zx3, zx5, zS, ⟨hz, hm⟩, hv⟩ | g
      · exact ih zx3 zx5 zS (Nat.lt_of_lt_of_le hm (Nat.le_of_lt_succ hy)) hz hv
      · exact g
  exact go _ x3 x5 S (Nat.lt_succ_self _) i0 h0
theorem r_e_toSamples_23 {x1 : Int32} {x2 : Int32} {x3 : Int64} {x5 : Int32} {S : ms} {R2 : Int32 → ms → Prop} {R10 : Int32 → Int32 → ms → Prop} {K : ms → Prop} (h : e_toSamples_23 x1 x2 x3 x5 S R2 R10 K) : b_toSamples_23 x1 x2 x3 x5 S R2 R10 (fun zx1 zx2 zx3 zx5 zS => e_toSamples_23 zx1 zx2 zx3 zx5 zS R2 R10 K) K := by
  obtain ⟨I, μ, i0, is⟩ := h
  exact d_b_toSamples_23 (is x1 x2 x3 x5 S i0) (fun a0 a1 ha ia => (ia _ _ _ _).mpr ha) (fun a0 a1 a2 ha ia => (ia _ _ _ _).mpr ha) (fun a0 a1 a2 a3 a4 ha ia => (ia _ _ _ _).mpr ⟨I, μ, ha.1, is⟩) (fun a0 ha ia => (ia _ _ _ _).mpr ha)
set_option maxHeartbeats 1000000 in
theorem d_b_toSamples_10 {x1 : Int32} {x2 : Int32} {S : ms} {R2 : Int32 → ms → Prop} {R10 : Int32 → Int32 → ms → Prop} {K : ms → Prop} (h : b_toSamples_10 x1 x2 S R2 R10 K) {Q : Prop} (k_R2 : ∀ (a0 : Int32) (a1 : ms), R2 a0 a1 → (∀ (R2' : Int32 → ms → Prop) (R10' : Int32 → Int32 → ms → Prop) (K' : ms → Prop), b_toSamples_10 x1 x2 S R2' R10' K' ↔ R2' a0 a1) → Q) (k_R10 : ∀ (a0 : Int32) (a1 : Int32) (a2 : ms), R10 a0 a1 a2 → (∀ (R2' : Int32 → ms → Prop) (R10' : Int32 → Int32 → ms → Prop) (K' : ms → Prop), b_toSamples_10 x1 x2 S R2' R10' K' ↔ R10' a0 a1 a2) → Q) (k_K : ∀ (a0 : ms), K a0 → (∀ (R2' : Int32 → ms → Prop) (R10' : Int32 → Int32 → ms → Prop) (K' : ms → Prop), b_toSamples_10 x1 x2 S R2' R10' K' ↔ K' a0) → Q) : Q := by
  unfold b_toSamples_10 at h
  refine dt_p h (fun c_1 h_2 => ?_) (fun c_1 h_2 => ?_)
  ·
    exact k_R2 _ _ h_2 (fun _ _ _ => dt_1 c_1 (fun n => n c_1))
  ·
    exact d_e_toSamples_23 h_2 (fun a0 a1 h_4 i_3 => k_R2 a0 a1 h_4 (fun _ _ _ => Iff.trans (dt_2 c_1 c_1) (i_3 _ _ _))) (fun a0 a1 a2 h_6 i_5 => k_R10 a0 a1 a2 h_6 (fun _ _ _ => Iff.trans (dt_2 c_1 c_1) (i_5 _ _ _))) (fun a0 h_8 i_7 => k_K a0 h_8 (fun _ _ _ => Iff.trans (dt_2 c_1 c_1) (i_7 _ _ _)))
theorem l_e_toSamples_10  {x1 : Int32} {x2 : Int32} {S : ms} {R2 : Int32 → ms → Prop} {K : ms → Prop} : e_toSamples_10 x1 x2 S R2 K ↔ lpE (C := (Int32 → ms → Prop) × (ms → Prop)) (fun (y : (Int32) × (Int32) × (ms)) (R : ((Int32) × (Int32) × (ms)) → Prop) (c : (Int32 → ms → Prop) × (ms → Prop)) => b_toSamples_10 y.1 y.2.1 y.2.2 c.1 (fun z0 z1 z2 => R (z0, z1, z2)) c.2) (x1, x2, S) (R2, K) :=
  ⟨fun ⟨I, μ, h0, hs⟩ => ⟨fun t => I t.1 t.2.1 t.2.2, fun t => μ t.1 t.2.1 t.2.2, h0, fun t ht => hs _ _ _ ht⟩, fun ⟨I, μ, h0, hs⟩ => ⟨fun y0 y1 y2 => I (y0, y1, y2), fun y0 y1 y2 => μ (y0, y1, y2), h0, fun y0 y1 y2 hy => hs (y0, y1, y2) hy⟩⟩
set_option maxHeartbeats 1000000 in
theorem d_e_toSamples_10 {x1 : Int32} {x2 : Int32} {S : ms} {R2 : Int32 → ms → Prop} {K : ms → Prop} (h : e_toSamples_10 x1 x2 S R2 K) {Q : Prop} (k_R2 : ∀ (a0 : Int32) (a1 : ms), R2 a0 a1 → (∀ (R2' : Int32 → ms → Prop) (K' : ms → Prop), e_toSamples_10 x1 x2 S R2' K' ↔ R2' a0 a1) → Q) (k_K : ∀ (a0 : ms), K a0 → (∀ (R2' : Int32 → ms → Prop) (K' : ms → Prop), e_toSamples_10 x1 x2 S R2' K' ↔ K' a0) → Q) : Q := by
  obtain ⟨o, ho, hoc, hi⟩ := lp_det (C := (Int32 → ms → Prop) × (ms → Prop)) (b := (fun (y : (Int32) × (Int32) × (ms)) (R : ((Int32) × (Int32) × (ms)) → Prop) (c : (Int32 → ms → Prop) × (ms → Prop)) => b_toSamples_10 y.1 y.2.1 y.2.2 c.1 (fun z0 z1 z2 => R (z0, z1, z2)) c.2)) (O := (fun (o : ((Int32 → ms → Prop) × (ms → Prop)) → Prop) => (∃ (a0 : Int32) (a1 : ms), o = fun c => c.1 a0 a1) ∨ (∃ (a0 : ms), o = fun c => c.2 a0))) (fun y R c hy => d_b_toSamples_10 hy (fun a0 a1 ha ia => Or.inr ⟨(fun c => c.1 a0 a1), Or.inl ⟨a0, a1, rfl⟩, ha, fun R' c' => ia c'.1 (fun z0 z1 z2 => R' (z0, z1, z2)) c'.2⟩) (fun a0 a1 a2 ha ia => Or.inl ⟨(a0, a1, a2), ha, fun R' c' => ia c'.1 (fun z0 z1 z2 => R' (z0, z1, z2)) c'.2⟩) (fun a0 ha ia => Or.inr ⟨(fun c => c.2 a0), Or.inr (⟨a0, rfl⟩), ha, fun R' c' => ia c'.1 (fun z0 z1 z2 => R' (z0, z1, z2)) c'.2⟩)) (l_e_toSamples_10.mp h)
  rcases ho with ⟨a0, a1, rfl⟩ | ⟨a0, rfl⟩
  · exact k_R2 _ _ hoc (fun R2' K' => Iff.trans l_e_toSamples_10 (hi (R2', K')))
  · exact k_K _ hoc (fun R2' K' => Iff.trans l_e_toSamples_10 (hi (R2', K')))
theorem v_e_toSamples_10 {x1 : Int32} {x2 : Int32} {S : ms} {R2 : Int32 → ms → Prop} {K : ms → Prop} (h : e_toSamples_10 x1 x2 S R2 K) {G : Prop} (Inv : Int32 → ms → Prop) (h0 : Inv x2 S) (hs : ∀ (yx2 : Int32) (yS : ms) (R : Int32 → Int32 → ms → Prop), Inv yx2 yS → b_toSamples_10 x1 yx2 yS R2 R K → (∃ (zx2 : Int32) (zS : ms), R x1 zx2 zS ∧ Inv zx2 zS) ∨ G) : G := by
  obtain ⟨I, μ, i0, is⟩ := h
  have go : ∀ (n : Nat) (yx2 : Int32) (yS : ms), μ x1 yx2 yS < n → I x1 yx2 yS → Inv yx2 yS → G := by
    intro n
    induction n with
    | zero => intro yx2 yS hy; exact absurd hy (Nat.not_lt_zero _)
    | succ n ih =>
      intro yx2 yS hy hI hV
      rcases hs yx2 yS _ hV (is x1 yx2 yS hI) with ⟨zx2, zS, ⟨hz, hm⟩, hv⟩ | g
      · exact ih zx2 zS (Nat.lt_of_lt_of_le hm (Nat.le_of_lt_succ hy)) hz hv
      · exact g
  exact go _ x2 S (Nat.lt_succ_self _) i0 h0
theorem r_e_toSamples_10 {x1 : Int32} {x2 : Int32} {S : ms} {R2 : Int32 → ms → Prop} {K : ms → Prop} (h : e_toSamples_10 x1 x2 S R2 K) : b_toSamples_10 x1 x2 S R2 (fun zx1 zx2 zS => e_toSamples_10 zx1 zx2 zS R2 K) K := by
  obtain ⟨I, μ, i0, is⟩ := h
  exact d_b_toSamples_10 (is x1 x2 S i0) (fun a0 a1 ha ia => (ia _ _ _).mpr ha) (fun a0 a1 a2 ha ia => (ia _ _ _).mpr ⟨I, μ, ha.1, is⟩) (fun a0 ha ia => (ia _ _ _).mpr ha)
set_option maxHeartbeats 1000000 in
theorem d_b_toSamples_2 {x1 : Int32} {S : ms} {R2 : Int32 → ms → Prop} {K : ms → Prop} (h : b_toSamples_2 x1 S R2 K) {Q : Prop} (k_R2 : ∀ (a0 : Int32) (a1 : ms), R2 a0 a1 → (∀ (R2' : Int32 → ms → Prop) (K' : ms → Prop), b_toSamples_2 x1 S R2' K' ↔ R2' a0 a1) → Q) (k_K : ∀ (a0 : ms), K a0 → (∀ (R2' : Int32 → ms → Prop) (K' : ms → Prop), b_toSamples_2 x1 S R2' K' ↔ K' a0) → Q) : Q := by
  unfold b_toSamples_2 at h
  refine dt_p h (fun c_1 h_2 => ?_) (fun c_1 h_2 => ?_)
  ·
    exact d_e_toSamples_95 h_2 (fun a0 h_4 i_3 => k_K a0 h_4 (fun _ _ => Iff.trans (dt_1 c_1 (fun n => n c_1)) (i_3 _)))
  ·
    exact d_e_toSamples_10 h_2 (fun a0 a1 h_6 i_5 => k_R2 a0 a1 h_6 (fun _ _ => Iff.trans (dt_2 c_1 c_1) (i_5 _ _))) (fun a0 h_8 i_7 => k_K a0 h_8 (fun _ _ => Iff.trans (dt_2 c_1 c_1) (i_7 _ _)))
theorem l_e_toSamples_2  {x1 : Int32} {S : ms} {K : ms → Prop} : e_toSamples_2 x1 S K ↔ lpE (C := (ms → Prop)) (fun (y : (Int32) × (ms)) (R : ((Int32) × (ms)) → Prop) (c : (ms → Prop)) => b_toSamples_2 y.1 y.2 (fun z0 z1 => R (z0, z1)) c) (x1, S) K :=
  ⟨fun ⟨I, μ, h0, hs⟩ => ⟨fun t => I t.1 t.2, fun t => μ t.1 t.2, h0, fun t ht => hs _ _ ht⟩, fun ⟨I, μ, h0, hs⟩ => ⟨fun y0 y1 => I (y0, y1), fun y0 y1 => μ (y0, y1), h0, fun y0 y1 hy => hs (y0, y1) hy⟩⟩
set_option maxHeartbeats 1000000 in
theorem d_e_toSamples_2 {x1 : Int32} {S : ms} {K : ms → Prop} (h : e_toSamples_2 x1 S K) {Q : Prop} (k_K : ∀ (a0 : ms), K a0 → (∀ (K' : ms → Prop), e_toSamples_2 x1 S K' ↔ K' a0) → Q) : Q := by
  obtain ⟨o, ho, hoc, hi⟩ := lp_det (C := (ms → Prop)) (b := (fun (y : (Int32) × (ms)) (R : ((Int32) × (ms)) → Prop) (c : (ms → Prop)) => b_toSamples_2 y.1 y.2 (fun z0 z1 => R (z0, z1)) c)) (O := (fun (o : ((ms → Prop)) → Prop) => (∃ (a0 : ms), o = fun c => c a0))) (fun y R c hy => d_b_toSamples_2 hy (fun a0 a1 ha ia => Or.inl ⟨(a0, a1), ha, fun R' c' => ia (fun z0 z1 => R' (z0, z1)) c'⟩) (fun a0 ha ia => Or.inr ⟨(fun c => c a0), ⟨a0, rfl⟩, ha, fun R' c' => ia (fun z0 z1 => R' (z0, z1)) c'⟩)) (l_e_toSamples_2.mp h)
  rcases ho with ⟨a0, rfl⟩
  · exact k_K _ hoc (fun K' => Iff.trans l_e_toSamples_2 (hi K'))
theorem v_e_toSamples_2 {x1 : Int32} {S : ms} {K : ms → Prop} (h : e_toSamples_2 x1 S K) {G : Prop} (Inv : Int32 → ms → Prop) (h0 : Inv x1 S) (hs : ∀ (yx1 : Int32) (yS : ms) (R : Int32 → ms → Prop), Inv yx1 yS → b_toSamples_2 yx1 yS R K → (∃ (zx1 : Int32) (zS : ms), R zx1 zS ∧ Inv zx1 zS) ∨ G) : G := by
  obtain ⟨I, μ, i0, is⟩ := h
  have go : ∀ (n : Nat) (yx1 : Int32) (yS : ms), μ yx1 yS < n → I yx1 yS → Inv yx1 yS → G := by
    intro n
    induction n with
    | zero => intro yx1 yS hy; exact absurd hy (Nat.not_lt_zero _)
    | succ n ih =>
      intro yx1 yS hy hI hV
      rcases hs yx1 yS _ hV (is yx1 yS hI) with ⟨zx1, zS, ⟨hz, hm⟩, hv⟩ | g
      · exact ih zx1 zS (Nat.lt_of_lt_of_le hm (Nat.le_of_lt_succ hy)) hz hv
      · exact g
  exact go _ x1 S (Nat.lt_succ_self _) i0 h0
theorem r_e_toSamples_2 {x1 : Int32} {S : ms} {K : ms → Prop} (h : e_toSamples_2 x1 S K) : b_toSamples_2 x1 S (fun zx1 zS => e_toSamples_2 zx1 zS K) K := by
  obtain ⟨I, μ, i0, is⟩ := h
  exact d_b_toSamples_2 (is x1 S i0) (fun a0 a1 ha ia => (ia _ _).mpr ⟨I, μ, ha.1, is⟩) (fun a0 ha ia => (ia _ _).mpr ha)
set_option maxHeartbeats 1000000 in
theorem d_p_toSamples {S : ms} {K : ms → Prop} (h : p_toSamples S K) {Q : Prop} (k_K : ∀ (a0 : ms), K a0 → (∀ (K' : ms → Prop), p_toSamples S K' ↔ K' a0) → Q) : Q := by
  unfold p_toSamples at h
  exact d_e_toSamples_2 h (fun a0 h_2 i_1 => k_K a0 h_2 (fun _ => i_1 _))
set_option maxHeartbeats 1000000 in
theorem d_p_upward {x0 : Int32} {x1 : Int32} {K : Int32 → Prop} (h : p_upward x0 x1 K) {Q : Prop} (k_K : ∀ (a0 : Int32), K a0 → (∀ (K' : Int32 → Prop), p_upward x0 x1 K' ↔ K' a0) → Q) : Q := by
  unfold p_upward at h
  exact k_K _ (And.right h) (fun _ => dt_a (And.left h))
set_option maxHeartbeats 1000000 in
theorem d_b_greatest_59 {x1 : Int32} {x2 : Int32} {x4 : Int32} {s0 : Int32} {S : ms} {R5 : Int32 → Int32 → Int32 → Int32 → ms → Prop} {K : Int32 → ms → Prop} (h : b_greatest_59 x1 x2 x4 s0 S R5 K) {Q : Prop} (k_R5 : ∀ (a0 : Int32) (a1 : Int32) (a2 : Int32) (a3 : Int32) (a4 : ms), R5 a0 a1 a2 a3 a4 → (∀ (R5' : Int32 → Int32 → Int32 → Int32 → ms → Prop) (K' : Int32 → ms → Prop), b_greatest_59 x1 x2 x4 s0 S R5' K' ↔ R5' a0 a1 a2 a3 a4) → Q) (k_K : ∀ (a0 : Int32) (a1 : ms), K a0 a1 → (∀ (R5' : Int32 → Int32 → Int32 → Int32 → ms → Prop) (K' : Int32 → ms → Prop), b_greatest_59 x1 x2 x4 s0 S R5' K' ↔ K' a0 a1) → Q) : Q := by
  unfold b_greatest_59 at h
  exact k_R5 _ _ _ _ _ h (fun _ _ => Iff.rfl)
set_option maxHeartbeats 1000000 in
theorem d_b_greatest_45 {x1 : Int32} {x2 : Int32} {x3 : Int32} {x4 : Int32} {s0 : Int32} {S : ms} {R5 : Int32 → Int32 → Int32 → Int32 → ms → Prop} {K : Int32 → ms → Prop} (h : b_greatest_45 x1 x2 x3 x4 s0 S R5 K) {Q : Prop} (k_R5 : ∀ (a0 : Int32) (a1 : Int32) (a2 : Int32) (a3 : Int32) (a4 : ms), R5 a0 a1 a2 a3 a4 → (∀ (R5' : Int32 → Int32 → Int32 → Int32 → ms → Prop) (K' : Int32 → ms → Prop), b_greatest_45 x1 x2 x3 x4 s0 S R5' K' ↔ R5' a0 a1 a2 a3 a4) → Q) (k_K : ∀ (a0 : Int32) (a1 : ms), K a0 a1 → (∀ (R5' : Int32 → Int32 → Int32 → Int32 → ms → Prop) (K' : Int32 → ms → Prop), b_greatest_45 x1 x2 x3 x4 s0 S R5' K' ↔ K' a0 a1) → Q) : Q := by
  unfold b_greatest_45 at h
  refine dt_p h (fun c_1 h_2 => ?_) (fun c_1 h_2 => ?_)
  ·
    exact d_b_greatest_59 h_2 (fun a0 a1 a2 a3 a4 h_4 i_3 => k_R5 a0 a1 a2 a3 a4 h_4 (fun _ _ => Iff.trans (dt_1 c_1 (fun n => n c_1)) (i_3 _ _))) (fun a0 a1 h_6 i_5 => k_K a0 a1 h_6 (fun _ _ => Iff.trans (dt_1 c_1 (fun n => n c_1)) (i_5 _ _)))
  ·
    exact d_b_greatest_59 h_2 (fun a0 a1 a2 a3 a4 h_8 i_7 => k_R5 a0 a1 a2 a3 a4 h_8 (fun _ _ => Iff.trans (dt_2 c_1 c_1) (i_7 _ _))) (fun a0 a1 h_10 i_9 => k_K a0 a1 h_10 (fun _ _ => Iff.trans (dt_2 c_1 c_1) (i_9 _ _)))
set_option maxHeartbeats 1000000 in
theorem d_b_greatest_5 {x1 : Int32} {x2 : Int32} {x3 : Int32} {x4 : Int32} {S : ms} {R5 : Int32 → Int32 → Int32 → Int32 → ms → Prop} {K : Int32 → ms → Prop} (h : b_greatest_5 x1 x2 x3 x4 S R5 K) {Q : Prop} (k_R5 : ∀ (a0 : Int32) (a1 : Int32) (a2 : Int32) (a3 : Int32) (a4 : ms), R5 a0 a1 a2 a3 a4 → (∀ (R5' : Int32 → Int32 → Int32 → Int32 → ms → Prop) (K' : Int32 → ms → Prop), b_greatest_5 x1 x2 x3 x4 S R5' K' ↔ R5' a0 a1 a2 a3 a4) → Q) (k_K : ∀ (a0 : Int32) (a1 : ms), K a0 a1 → (∀ (R5' : Int32 → Int32 → Int32 → Int32 → ms → Prop) (K' : Int32 → ms → Prop), b_greatest_5 x1 x2 x3 x4 S R5' K' ↔ K' a0 a1) → Q) : Q := by
  unfold b_greatest_5 at h
  refine dt_p (And.right h) (fun c_1 h_2 => ?_) (fun c_1 h_2 => ?_)
  ·
    exact k_K _ _ h_2 (fun _ _ => Iff.trans (dt_a (And.left h)) (dt_1 c_1 (fun n => n c_1)))
  ·
    refine dt_p h_2 (fun c_3 h_4 => ?_) (fun c_3 h_4 => ?_)
    ·
      exact d_b_greatest_45 (And.right h_4) (fun a0 a1 a2 a3 a4 h_6 i_5 => k_R5 a0 a1 a2 a3 a4 h_6 (fun _ _ => Iff.trans (dt_a (And.left h)) (Iff.trans (dt_2 c_1 c_1) (Iff.trans (dt_1 c_3 (fun n => n c_3)) (Iff.trans (dt_a (And.left h_4)) (i_5 _ _)))))) (fun a0 a1 h_8 i_7 => k_K a0 a1 h_8 (fun _ _ => Iff.trans (dt_a (And.left h)) (Iff.trans (dt_2 c_1 c_1) (Iff.trans (dt_1 c_3 (fun n => n c_3)) (Iff.trans (dt_a (And.left h_4)) (i_7 _ _))))))
    ·
      exact d_b_greatest_45 (And.right h_4) (fun a0 a1 a2 a3 a4 h_10 i_9 => k_R5 a0 a1 a2 a3 a4 h_10 (fun _ _ => Iff.trans (dt_a (And.left h)) (Iff.trans (dt_2 c_1 c_1) (Iff.trans (dt_2 c_3 c_3) (Iff.trans (dt_a (And.left h_4)) (i_9 _ _)))))) (fun a0 a1 h_12 i_11 => k_K a0 a1 h_12 (fun _ _ => Iff.trans (dt_a (And.left h)) (Iff.trans (dt_2 c_1 c_1) (Iff.trans (dt_2 c_3 c_3) (Iff.trans (dt_a (And.left h_4)) (i_11 _ _))))))
theorem l_e_greatest_5  {x1 : Int32} {x2 : Int32} {x3 : Int32} {x4 : Int32} {S : ms} {K : Int32 → ms → Prop} : e_greatest_5 x1 x2 x3 x4 S K ↔ lpE (C := (Int32 → ms → Prop)) (fun (y : (Int32) × (Int32) × (Int32) × (Int32) × (ms)) (R : ((Int32) × (Int32) × (Int32) × (Int32) × (ms)) → Prop) (c : (Int32 → ms → Prop)) => b_greatest_5 y.1 y.2.1 y.2.2.1 y.2.2.2.1 y.2.2.2.2 (fun z0 z1 z2 z3 z4 => R (z0, z1, z2, z3, z4)) c) (x1, x2, x3, x4, S) K :=
  ⟨fun ⟨I, μ, h0, hs⟩ => ⟨fun t => I t.1 t.2.1 t.2.2.1 t.2.2.2.1 t.2.2.2.2, fun t => μ t.1 t.2.1 t.2.2.1 t.2.2.2.1 t.2.2.2.2, h0, fun t ht => hs _ _ _ _ _ ht⟩, fun ⟨I, μ, h0, hs⟩ => ⟨fun y0 y1 y2 y3 y4 => I (y0, y1, y2, y3, y4), fun y0 y1 y2 y3 y4 => μ (y0, y1, y2, y3, y4), h0, fun y0 y1 y2 y3 y4 hy => hs (y0, y1, y2, y3, y4) hy⟩⟩
set_option maxHeartbeats 1000000 in
theorem d_e_greatest_5 {x1 : Int32} {x2 : Int32} {x3 : Int32} {x4 : Int32} {S : ms} {K : Int32 → ms → Prop} (h : e_greatest_5 x1 x2 x3 x4 S K) {Q : Prop} (k_K : ∀ (a0 : Int32) (a1 : ms), K a0 a1 → (∀ (K' : Int32 → ms → Prop), e_greatest_5 x1 x2 x3 x4 S K' ↔ K' a0 a1) → Q) : Q := by
  obtain ⟨o, ho, hoc, hi⟩ := lp_det (C := (Int32 → ms → Prop)) (b := (fun (y : (Int32) × (Int32) × (Int32) × (Int32) × (ms)) (R : ((Int32) × (Int32) × (Int32) × (Int32) × (ms)) → Prop) (c : (Int32 → ms → Prop)) => b_greatest_5 y.1 y.2.1 y.2.2.1 y.2.2.2.1 y.2.2.2.2 (fun z0 z1 z2 z3 z4 => R (z0, z1, z2, z3, z4)) c)) (O := (fun (o : ((Int32 → ms → Prop)) → Prop) => (∃ (a0 : Int32) (a1 : ms), o = fun c => c a0 a1))) (fun y R c hy => d_b_greatest_5 hy (fun a0 a1 a2 a3 a4 ha ia => Or.inl ⟨(a0, a1, a2, a3, a4), ha, fun R' c' => ia (fun z0 z1 z2 z3 z4 => R' (z0, z1, z2, z3, z4)) c'⟩) (fun a0 a1 ha ia => Or.inr ⟨(fun c => c a0 a1), ⟨a0, a1, rfl⟩, ha, fun R' c' => ia (fun z0 z1 z2 z3 z4 => R' (z0, z1, z2, z3, z4)) c'⟩)) (l_e_greatest_5.mp h)
  rcases ho with ⟨a0, a1, rfl⟩
  · exact k_K _ _ hoc (fun K' => Iff.trans l_e_greatest_5 (hi K'))
theorem v_e_greatest_5 {x1 : Int32} {x2 : Int32} {x3 : Int32} {x4 : Int32} {S : ms} {K : Int32 → ms → Prop} (h : e_greatest_5 x1 x2 x3 x4 S K) {G : Prop} (Inv : Int32 → Int32 → ms → Prop) (h0 : Inv x3 x4 S) (hs : ∀ (yx3 : Int32) (yx4 : Int32) (yS : ms) (R : Int32 → Int32 → Int32 → Int32 → ms → Prop), Inv yx3 yx4 yS → b_greatest_5 x1 x2 yx3 yx4 yS R K → (∃ (zx3 : Int32) (zx4 : Int32) (zS : ms), R x1 x2 zx3 zx4 zS ∧ Inv zx3 zx4 zS) ∨ G) : G := by
  obtain ⟨I, μ, i0, is⟩ := h
  have go : ∀ (n : Nat) (yx3 : Int32) (yx4 : Int32) (yS : ms), μ x1 x2 yx3 yx4 yS < n → I x1 x2 yx3 yx4 yS → Inv yx3 yx4 yS → G := by
    intro n
    induction n with
    | zero => intro yx3 yx4 yS hy; exact absurd hy (Nat.not_lt_zero _)
    | succ n ih =>
      intro yx3 yx4 yS hy hI hV
      rcases hs yx3 yx4 yS _ hV (is x1 x2 yx3 yx4 yS hI) with ⟨zx3, zx4, zS, ⟨hz, hm⟩, hv⟩ | g
      · exact ih zx3 zx4 zS (Nat.lt_of_lt_of_le hm (Nat.le_of_lt_succ hy)) hz hv
      · exact g
  exact go _ x3 x4 S (Nat.lt_succ_self _) i0 h0
theorem r_e_greatest_5 {x1 : Int32} {x2 : Int32} {x3 : Int32} {x4 : Int32} {S : ms} {K : Int32 → ms → Prop} (h : e_greatest_5 x1 x2 x3 x4 S K) : b_greatest_5 x1 x2 x3 x4 S (fun zx1 zx2 zx3 zx4 zS => e_greatest_5 zx1 zx2 zx3 zx4 zS K) K := by
  obtain ⟨I, μ, i0, is⟩ := h
  exact d_b_greatest_5 (is x1 x2 x3 x4 S i0) (fun a0 a1 a2 a3 a4 ha ia => (ia _ _).mpr ⟨I, μ, ha.1, is⟩) (fun a0 a1 ha ia => (ia _ _).mpr ha)
set_option maxHeartbeats 1000000 in
theorem d_p_greatest {x1 : Int32} {x2 : Int32} {S : ms} {K : Int32 → ms → Prop} (h : p_greatest x1 x2 S K) {Q : Prop} (k_K : ∀ (a0 : Int32) (a1 : ms), K a0 a1 → (∀ (K' : Int32 → ms → Prop), p_greatest x1 x2 S K' ↔ K' a0 a1) → Q) : Q := by
  unfold p_greatest at h
  exact d_e_greatest_5 h (fun a0 a1 h_2 i_1 => k_K a0 a1 h_2 (fun _ => i_1 _))
set_option maxHeartbeats 1000000 in
theorem d_b_makeGrids_109 {x1 : Int32} {x4 : Int32} {S : ms} {R109 : Int32 → Int32 → ms → Prop} {K : ms → Prop} (h : b_makeGrids_109 x1 x4 S R109 K) {Q : Prop} (k_R109 : ∀ (a0 : Int32) (a1 : Int32) (a2 : ms), R109 a0 a1 a2 → (∀ (R109' : Int32 → Int32 → ms → Prop) (K' : ms → Prop), b_makeGrids_109 x1 x4 S R109' K' ↔ R109' a0 a1 a2) → Q) (k_K : ∀ (a0 : ms), K a0 → (∀ (R109' : Int32 → Int32 → ms → Prop) (K' : ms → Prop), b_makeGrids_109 x1 x4 S R109' K' ↔ K' a0) → Q) : Q := by
  unfold b_makeGrids_109 at h
  refine dt_p h (fun c_1 h_2 => ?_) (fun c_1 h_2 => ?_)
  ·
    exact k_K _ h_2 (fun _ _ => dt_1 c_1 (fun n => n c_1))
  ·
    exact k_R109 _ _ _ (And.right h_2) (fun _ _ => Iff.trans (dt_2 c_1 c_1) (dt_a (And.left h_2)))
theorem l_e_makeGrids_109  {x1 : Int32} {x4 : Int32} {S : ms} {K : ms → Prop} : e_makeGrids_109 x1 x4 S K ↔ lpE (C := (ms → Prop)) (fun (y : (Int32) × (Int32) × (ms)) (R : ((Int32) × (Int32) × (ms)) → Prop) (c : (ms → Prop)) => b_makeGrids_109 y.1 y.2.1 y.2.2 (fun z0 z1 z2 => R (z0, z1, z2)) c) (x1, x4, S) K :=
  ⟨fun ⟨I, μ, h0, hs⟩ => ⟨fun t => I t.1 t.2.1 t.2.2, fun t => μ t.1 t.2.1 t.2.2, h0, fun t ht => hs _ _ _ ht⟩, fun ⟨I, μ, h0, hs⟩ => ⟨fun y0 y1 y2 => I (y0, y1, y2), fun y0 y1 y2 => μ (y0, y1, y2), h0, fun y0 y1 y2 hy => hs (y0, y1, y2) hy⟩⟩
set_option maxHeartbeats 1000000 in
theorem d_e_makeGrids_109 {x1 : Int32} {x4 : Int32} {S : ms} {K : ms → Prop} (h : e_makeGrids_109 x1 x4 S K) {Q : Prop} (k_K : ∀ (a0 : ms), K a0 → (∀ (K' : ms → Prop), e_makeGrids_109 x1 x4 S K' ↔ K' a0) → Q) : Q := by
  obtain ⟨o, ho, hoc, hi⟩ := lp_det (C := (ms → Prop)) (b := (fun (y : (Int32) × (Int32) × (ms)) (R : ((Int32) × (Int32) × (ms)) → Prop) (c : (ms → Prop)) => b_makeGrids_109 y.1 y.2.1 y.2.2 (fun z0 z1 z2 => R (z0, z1, z2)) c)) (O := (fun (o : ((ms → Prop)) → Prop) => (∃ (a0 : ms), o = fun c => c a0))) (fun y R c hy => d_b_makeGrids_109 hy (fun a0 a1 a2 ha ia => Or.inl ⟨(a0, a1, a2), ha, fun R' c' => ia (fun z0 z1 z2 => R' (z0, z1, z2)) c'⟩) (fun a0 ha ia => Or.inr ⟨(fun c => c a0), ⟨a0, rfl⟩, ha, fun R' c' => ia (fun z0 z1 z2 => R' (z0, z1, z2)) c'⟩)) (l_e_makeGrids_109.mp h)
  rcases ho with ⟨a0, rfl⟩
  · exact k_K _ hoc (fun K' => Iff.trans l_e_makeGrids_109 (hi K'))
theorem v_e_makeGrids_109 {x1 : Int32} {x4 : Int32} {S : ms} {K : ms → Prop} (h : e_makeGrids_109 x1 x4 S K) {G : Prop} (Inv : Int32 → ms → Prop) (h0 : Inv x4 S) (hs : ∀ (yx4 : Int32) (yS : ms) (R : Int32 → Int32 → ms → Prop), Inv yx4 yS → b_makeGrids_109 x1 yx4 yS R K → (∃ (zx4 : Int32) (zS : ms), R x1 zx4 zS ∧ Inv zx4 zS) ∨ G) : G := by
  obtain ⟨I, μ, i0, is⟩ := h
  have go : ∀ (n : Nat) (yx4 : Int32) (yS : ms), μ x1 yx4 yS < n → I x1 yx4 yS → Inv yx4 yS → G := by
    intro n
    induction n with
    | zero => intro yx4 yS hy; exact absurd hy (Nat.not_lt_zero _)
    | succ n ih =>
      intro yx4 yS hy hI hV
      rcases hs yx4 yS _ hV (is x1 yx4 yS hI) with ⟨zx4, zS, ⟨hz, hm⟩, hv⟩ | g
      · exact ih zx4 zS (Nat.lt_of_lt_of_le hm (Nat.le_of_lt_succ hy)) hz hv
      · exact g
  exact go _ x4 S (Nat.lt_succ_self _) i0 h0
theorem r_e_makeGrids_109 {x1 : Int32} {x4 : Int32} {S : ms} {K : ms → Prop} (h : e_makeGrids_109 x1 x4 S K) : b_makeGrids_109 x1 x4 S (fun zx1 zx4 zS => e_makeGrids_109 zx1 zx4 zS K) K := by
  obtain ⟨I, μ, i0, is⟩ := h
  exact d_b_makeGrids_109 (is x1 x4 S i0) (fun a0 a1 a2 ha ia => (ia _ _).mpr ⟨I, μ, ha.1, is⟩) (fun a0 ha ia => (ia _ _).mpr ha)
set_option maxHeartbeats 1000000 in
theorem d_b_makeGrids_17 {x1 : Int32} {x2 : Int32} {x3 : Int32} {x4 : Int32} {S : ms} {R17 : Int32 → Int32 → Int32 → Int32 → ms → Prop} {K : ms → Prop} (h : b_makeGrids_17 x1 x2 x3 x4 S R17 K) {Q : Prop} (k_R17 : ∀ (a0 : Int32) (a1 : Int32) (a2 : Int32) (a3 : Int32) (a4 : ms), R17 a0 a1 a2 a3 a4 → (∀ (R17' : Int32 → Int32 → Int32 → Int32 → ms → Prop) (K' : ms → Prop), b_makeGrids_17 x1 x2 x3 x4 S R17' K' ↔ R17' a0 a1 a2 a3 a4) → Q) (k_K : ∀ (a0 : ms), K a0 → (∀ (R17' : Int32 → Int32 → Int32 → Int32 → ms → Prop) (K' : ms → Prop), b_makeGrids_17 x1 x2 x3 x4 S R17' K' ↔ K' a0) → Q) : Q := by
  unfold b_makeGrids_17 at h
  refine dt_p (And.right h) (fun c_1 h_2 => ?_) (fun c_1 h_2 => ?_)
  ·
    exact d_e_makeGrids_109 h_2 (fun a0 h_4 i_3 => k_K a0 h_4 (fun _ _ => Iff.trans (dt_a (And.left h)) (Iff.trans (dt_1 c_1 (fun n => n c_1)) (i_3 _))))
  ·
    refine d_p_upward (And.right (And.right h_2)) (fun v59 h_6 i_5 => ?_)
    refine d_p_upward (And.right (And.right (And.right h_6))) (fun v95 h_8 i_7 => ?_)
    exact k_R17 _ _ _ _ _ (And.right h_8) (fun _ _ => Iff.trans (dt_a (And.left h)) (Iff.trans (dt_2 c_1 c_1) (Iff.trans (dt_a (And.left h_2)) (Iff.trans (dt_a (And.left (And.right h_2))) (Iff.trans (i_5 _) (Iff.trans (dt_a (And.left h_6)) (Iff.trans (dt_a (And.left (And.right h_6))) (Iff.trans (dt_a (And.left (And.right (And.right h_6)))) (Iff.trans (i_7 _) (dt_a (And.left h_8)))))))))))
theorem l_e_makeGrids_17  {x1 : Int32} {x2 : Int32} {x3 : Int32} {x4 : Int32} {S : ms} {K : ms → Prop} : e_makeGrids_17 x1 x2 x3 x4 S K ↔ lpE (C := (ms → Prop)) (fun (y : (Int32) × (Int32) × (Int32) × (Int32) × (ms)) (R : ((Int32) × (Int32) × (Int32) × (Int32) × (ms)) → Prop) (c : (ms → Prop)) => b_makeGrids_17 y.1 y.2.1 y.2.2.1 y.2.2.2.1 y.2.2.2.2 (fun z0 z1 z2 z3 z4 => R (z0, z1, z2, z3, z4)) c) (x1, x2, x3, x4, S) K :=
  ⟨fun ⟨I, μ, h0, hs⟩ => ⟨fun t => I t.1 t.2.1 t.2.2.1 t.2.2.2.1 t.2.2.2.2, fun t => μ t.1 t.2.1 t.2.2.1 t.2.2.2.1 t.2.2.2.2, h0, fun t ht => hs _ _ _ _ _ ht⟩, fun ⟨I, μ, h0, hs⟩ => ⟨fun y0 y1 y2 y3 y4 => I (y0, y1, y2, y3, y4), fun y0 y1 y2 y3 y4 => μ (y0, y1, y2, y3, y4), h0, fun y0 y1 y2 y3 y4 hy => hs (y0, y1, y2, y3, y4) hy⟩⟩
set_option maxHeartbeats 1000000 in
theorem d_e_makeGrids_17 {x1 : Int32} {x2 : Int32} {x3 : Int32} {x4 : Int32} {S : ms} {K : ms → Prop} (h : e_makeGrids_17 x1 x2 x3 x4 S K) {Q : Prop} (k_K : ∀ (a0 : ms), K a0 → (∀ (K' : ms → Prop), e_makeGrids_17 x1 x2 x3 x4 S K' ↔ K' a0) → Q) : Q := by
  obtain ⟨o, ho, hoc, hi⟩ := lp_det (C := (ms → Prop)) (b := (fun (y : (Int32) × (Int32) × (Int32) × (Int32) × (ms)) (R : ((Int32) × (Int32) × (Int32) × (Int32) × (ms)) → Prop) (c : (ms → Prop)) => b_makeGrids_17 y.1 y.2.1 y.2.2.1 y.2.2.2.1 y.2.2.2.2 (fun z0 z1 z2 z3 z4 => R (z0, z1, z2, z3, z4)) c)) (O := (fun (o : ((ms → Prop)) → Prop) => (∃ (a0 : ms), o = fun c => c a0))) (fun y R c hy => d_b_makeGrids_17 hy (fun a0 a1 a2 a3 a4 ha ia => Or.inl ⟨(a0, a1, a2, a3, a4), ha, fun R' c' => ia (fun z0 z1 z2 z3 z4 => R' (z0, z1, z2, z3, z4)) c'⟩) (fun a0 ha ia => Or.inr ⟨(fun c => c a0), ⟨a0, rfl⟩, ha, fun R' c' => ia (fun z0 z1 z2 z3 z4 => R' (z0, z1, z2, z3, z4)) c'⟩)) (l_e_makeGrids_17.mp h)
  rcases ho with ⟨a0, rfl⟩
  · exact k_K _ hoc (fun K' => Iff.trans l_e_makeGrids_17 (hi K'))
theorem v_e_makeGrids_17 {x1 : Int32} {x2 : Int32} {x3 : Int32} {x4 : Int32} {S : ms} {K : ms → Prop} (h : e_makeGrids_17 x1 x2 x3 x4 S K) {G : Prop} (Inv : Int32 → ms → Prop) (h0 : Inv x4 S) (hs : ∀ (yx4 : Int32) (yS : ms) (R : Int32 → Int32 → Int32 → Int32 → ms → Prop), Inv yx4 yS → b_makeGrids_17 x1 x2 x3 yx4 yS R K → (∃ (zx4 : Int32) (zS : ms), R x1 x2 x3 zx4 zS ∧ Inv zx4 zS) ∨ G) : G := by
  obtain ⟨I, μ, i0, is⟩ := h
  have go : ∀ (n : Nat) (yx4 : Int32) (yS : ms), μ x1 x2 x3 yx4 yS < n → I x1 x2 x3 yx4 yS → Inv yx4 yS → G := by
    intro n
    induction n with
    | zero => intro yx4 yS hy; exact absurd hy (Nat.not_lt_zero _)
    | succ n ih =>
      intro yx4 yS hy hI hV
      rcases hs yx4 yS _ hV (is x1 x2 x3 yx4 yS hI) with ⟨zx4, zS, ⟨hz, hm⟩, hv⟩ | g
      · exact ih zx4 zS (Nat.lt_of_lt_of_le hm (Nat.le_of_lt_succ hy)) hz hv
      · exact g
  exact go _ x4 S (Nat.lt_succ_self _) i0 h0
theorem r_e_makeGrids_17 {x1 : Int32} {x2 : Int32} {x3 : Int32} {x4 : Int32} {S : ms} {K : ms → Prop} (h : e_makeGrids_17 x1 x2 x3 x4 S K) : b_makeGrids_17 x1 x2 x3 x4 S (fun zx1 zx2 zx3 zx4 zS => e_makeGrids_17 zx1 zx2 zx3 zx4 zS K) K := by
  obtain ⟨I, μ, i0, is⟩ := h
  exact d_b_makeGrids_17 (is x1 x2 x3 x4 S i0) (fun a0 a1 a2 a3 a4 ha ia => (ia _ _).mpr ⟨I, μ, ha.1, is⟩) (fun a0 ha ia => (ia _ _).mpr ha)
set_option maxHeartbeats 1000000 in
theorem d_p_makeGrids {x1 : Int32} {S : ms} {K : ms → Prop} (h : p_makeGrids x1 S K) {Q : Prop} (k_K : ∀ (a0 : ms), K a0 → (∀ (K' : ms → Prop), p_makeGrids x1 S K' ↔ K' a0) → Q) : Q := by
  unfold p_makeGrids at h
  refine d_p_greatest h (fun v3 S3 h_2 i_1 => ?_)
  refine d_p_greatest h_2 (fun v10 S10 h_4 i_3 => ?_)
  exact d_e_makeGrids_17 h_4 (fun a0 h_6 i_5 => k_K a0 h_6 (fun _ => Iff.trans (i_1 _) (Iff.trans (i_3 _) (i_5 _))))
set_option maxHeartbeats 1000000 in
theorem d_p_layerWide {x1 : Int32} {x2 : Int32} {S : ms} {K : Int32 → ms → Prop} (h : p_layerWide x1 x2 S K) {Q : Prop} (k_K : ∀ (a0 : Int32) (a1 : ms), K a0 a1 → (∀ (K' : Int32 → ms → Prop), p_layerWide x1 x2 S K' ↔ K' a0 a1) → Q) : Q := by
  unfold p_layerWide at h
  refine d_p_greatest (And.right (And.right h)) (fun v20 S20 h_2 i_1 => ?_)
  refine d_p_upward h_2 (fun v23 h_4 i_3 => ?_)
  exact k_K _ _ h_4 (fun _ => Iff.trans (dt_a (And.left h)) (Iff.trans (dt_a (And.left (And.right h))) (Iff.trans (i_1 _) (i_3 _))))
set_option maxHeartbeats 1000000 in
theorem d_p_layerHigh {x1 : Int32} {x2 : Int32} {S : ms} {K : Int32 → ms → Prop} (h : p_layerHigh x1 x2 S K) {Q : Prop} (k_K : ∀ (a0 : Int32) (a1 : ms), K a0 a1 → (∀ (K' : Int32 → ms → Prop), p_layerHigh x1 x2 S K' ↔ K' a0 a1) → Q) : Q := by
  unfold p_layerHigh at h
  refine d_p_greatest (And.right (And.right h)) (fun v20 S20 h_2 i_1 => ?_)
  refine d_p_upward h_2 (fun v23 h_4 i_3 => ?_)
  exact k_K _ _ h_4 (fun _ => Iff.trans (dt_a (And.left h)) (Iff.trans (dt_a (And.left (And.right h))) (Iff.trans (i_1 _) (i_3 _))))
set_option maxHeartbeats 1000000 in
theorem d_p_levelCell {x0 : Int32} {x1 : Int32} {x2 : Int32} {x3 : Int32} {K : Int32 → Prop} (h : p_levelCell x0 x1 x2 x3 K) {Q : Prop} (k_K : ∀ (a0 : Int32), K a0 → (∀ (K' : Int32 → Prop), p_levelCell x0 x1 x2 x3 K' ↔ K' a0) → Q) : Q := by
  unfold p_levelCell at h
  exact k_K _ h (fun _ => Iff.rfl)
set_option maxHeartbeats 1000000 in
theorem d_b_sampleOf_166 {s0 : Int32} {S : ms} {K : Int32 → ms → Prop} (h : b_sampleOf_166 s0 S K) {Q : Prop} (k_K : ∀ (a0 : Int32) (a1 : ms), K a0 a1 → (∀ (K' : Int32 → ms → Prop), b_sampleOf_166 s0 S K' ↔ K' a0 a1) → Q) : Q := by
  unfold b_sampleOf_166 at h
  exact k_K _ _ h (fun _ => Iff.rfl)
set_option maxHeartbeats 1000000 in
theorem d_b_sampleOf_148 {s0 : Int32} {S : ms} {K : Int32 → ms → Prop} (h : b_sampleOf_148 s0 S K) {Q : Prop} (k_K : ∀ (a0 : Int32) (a1 : ms), K a0 a1 → (∀ (K' : Int32 → ms → Prop), b_sampleOf_148 s0 S K' ↔ K' a0 a1) → Q) : Q := by
  unfold b_sampleOf_148 at h
  refine dt_p h (fun c_1 h_2 => ?_) (fun c_1 h_2 => ?_)
  ·
    exact d_b_sampleOf_166 h_2 (fun a0 a1 h_4 i_3 => k_K a0 a1 h_4 (fun _ => Iff.trans (dt_1 c_1 (fun n => n c_1)) (i_3 _)))
  ·
    exact d_b_sampleOf_166 h_2 (fun a0 a1 h_6 i_5 => k_K a0 a1 h_6 (fun _ => Iff.trans (dt_2 c_1 c_1) (i_5 _)))
set_option maxHeartbeats 1000000 in
theorem d_p_sampleOf {x1 : Int32} {x2 : Int32} {x3 : Int32} {S : ms} {K : Int32 → ms → Prop} (h : p_sampleOf x1 x2 x3 S K) {Q : Prop} (k_K : ∀ (a0 : Int32) (a1 : ms), K a0 a1 → (∀ (K' : Int32 → ms → Prop), p_sampleOf x1 x2 x3 S K' ↔ K' a0 a1) → Q) : Q := by
  unfold p_sampleOf at h
  refine d_p_cell h (fun v7 h_2 i_1 => ?_)
  refine dt_n (And.right h_2) (fun c_3 h_4 => ?_) (fun c_3 h_4 => ?_)
  ·
    refine d_p_cell h_4 (fun v31 h_6 i_5 => ?_)
    refine d_p_cell (And.right h_6) (fun v44 h_8 i_7 => ?_)
    refine dt_n (And.right h_8) (fun c_9 h_10 => ?_) (fun c_9 h_10 => ?_)
    ·
      refine dt_n h_10 (fun c_11 h_12 => ?_) (fun c_11 h_12 => ?_)
      ·
        exact d_b_sampleOf_148 h_12 (fun a0 a1 h_14 i_13 => k_K a0 a1 h_14 (fun _ => Iff.trans (i_1 _) (Iff.trans (dt_a (And.left h_2)) (Iff.trans (dt_1 c_3 c_3) (Iff.trans (i_5 _) (Iff.trans (dt_a (And.left h_6)) (Iff.trans (i_7 _) (Iff.trans (dt_a (And.left h_8)) (Iff.trans (dt_1 c_9 c_9) (Iff.trans (dt_1 c_11 c_11) (i_13 _)))))))))))
      ·
        exact d_b_sampleOf_148 h_12 (fun a0 a1 h_16 i_15 => k_K a0 a1 h_16 (fun _ => Iff.trans (i_1 _) (Iff.trans (dt_a (And.left h_2)) (Iff.trans (dt_1 c_3 c_3) (Iff.trans (i_5 _) (Iff.trans (dt_a (And.left h_6)) (Iff.trans (i_7 _) (Iff.trans (dt_a (And.left h_8)) (Iff.trans (dt_1 c_9 c_9) (Iff.trans (dt_2 (fun n => n c_11) c_11) (i_15 _)))))))))))
    ·
      exact d_b_sampleOf_148 h_10 (fun a0 a1 h_18 i_17 => k_K a0 a1 h_18 (fun _ => Iff.trans (i_1 _) (Iff.trans (dt_a (And.left h_2)) (Iff.trans (dt_1 c_3 c_3) (Iff.trans (i_5 _) (Iff.trans (dt_a (And.left h_6)) (Iff.trans (i_7 _) (Iff.trans (dt_a (And.left h_8)) (Iff.trans (dt_2 (fun n => n c_9) c_9) (i_17 _))))))))))
  ·
    exact k_K _ _ h_4 (fun _ => Iff.trans (i_1 _) (Iff.trans (dt_a (And.left h_2)) (dt_2 (fun n => n c_3) c_3)))
set_option maxHeartbeats 1000000 in
theorem d_b_makeRaster_146 {x1 : Int32} {x2 : Int32} {x3 : Int32} {x4 : Int32} {x5 : Int32} {x6 : Int32} {x8 : Int32} {x9 : Int32} {s0 : Int32} {s2 : Int32} {s3 : Int32} {S : ms} {R36 : Int32 → Int32 → Int32 → Int32 → Int32 → ms → Prop} {R50 : Int32 → Int32 → Int32 → Int32 → Int32 → Int32 → ms → Prop} {R70 : Int32 → Int32 → Int32 → Int32 → Int32 → Int32 → Int32 → Int32 → ms → Prop} {R79 : Int32 → Int32 → Int32 → Int32 → Int32 → Int32 → Int32 → Int32 → Int32 → ms → Prop} {K : ms → Prop} (h : b_makeRaster_146 x1 x2 x3 x4 x5 x6 x8 x9 s0 s2 s3 S R36 R50 R70 R79 K) {Q : Prop} (k_R36 : ∀ (a0 : Int32) (a1 : Int32) (a2 : Int32) (a3 : Int32) (a4 : Int32) (a5 : ms), R36 a0 a1 a2 a3 a4 a5 → (∀ (R36' : Int32 → Int32 → Int32 → Int32 → Int32 → ms → Prop) (R50' : Int32 → Int32 → Int32 → Int32 → Int32 → Int32 → ms → Prop) (R70' : Int32 → Int32 → Int32 → Int32 → Int32 → Int32 → Int32 → Int32 → ms → Prop) (R79' : Int32 → Int32 → Int32 → Int32 → Int32 → Int32 → Int32 → Int32 → Int32 → ms → Prop) (K' : ms → Prop), b_makeRaster_146 x1 x2 x3 x4 x5 x6 x8 x9 s0 s2 s3 S R36' R50' R70' R79' K' ↔ R36' a0 a1 a2 a3 a4 a5) → Q) (k_R50 : ∀ (a0 : Int32) (a1 : Int32) (a2 : Int32) (a3 : Int32) (a4 : Int32) (a5 : Int32) (a6 : ms), R50 a0 a1 a2 a3 a4 a5 a6 → (∀ (R36' : Int32 → Int32 → Int32 → Int32 → Int32 → ms → Prop) (R50' : Int32 → Int32 → Int32 → Int32 → Int32 → Int32 → ms → Prop) (R70' : Int32 → Int32 → Int32 → Int32 → Int32 → Int32 → Int32 → Int32 → ms → Prop) (R79' : Int32 → Int32 → Int32 → Int32 → Int32 → Int32 → Int32 → Int32 → Int32 → ms → Prop) (K' : ms → Prop), b_makeRaster_146 x1 x2 x3 x4 x5 x6 x8 x9 s0 s2 s3 S R36' R50' R70' R79' K' ↔ R50' a0 a1 a2 a3 a4 a5 a6) → Q) (k_R70 : ∀ (a0 : Int32) (a1 : Int32) (a2 : Int32) (a3 : Int32) (a4 : Int32) (a5 : Int32) (a6 : Int32) (a7 : Int32) (a8 : ms), R70 a0 a1 a2 a3 a4 a5 a6 a7 a8 → (∀ (R36' : Int32 → Int32 → Int32 → Int32 → Int32 → ms → Prop) (R50' : Int32 → Int32 → Int32 → Int32 → Int32 → Int32 → ms → Prop) (R70' : Int32 → Int32 → Int32 → Int32 → Int32 → Int32 → Int32 → Int32 → ms → Prop) (R79' : Int32 → Int32 → Int32 → Int32 → Int32 → Int32 → Int32 → Int32 → Int32 → ms → Prop) (K' : ms → Prop), b_makeRaster_146 x1 x2 x3 x4 x5 x6 x8 x9 s0 s2 s3 S R36' R50' R70' R79' K' ↔ R70' a0 a1 a2 a3 a4 a5 a6 a7 a8) → Q) (k_R79 : ∀ (a0 : Int32) (a1 : Int32) (a2 : Int32) (a3 : Int32) (a4 : Int32) (a5 : Int32) (a6 : Int32) (a7 : Int32) (a8 : Int32) (a9 : ms), R79 a0 a1 a2 a3 a4 a5 a6 a7 a8 a9 → (∀ (R36' : Int32 → Int32 → Int32 → Int32 → Int32 → ms → Prop) (R50' : Int32 → Int32 → Int32 → Int32 → Int32 → Int32 → ms → Prop) (R70' : Int32 → Int32 → Int32 → Int32 → Int32 → Int32 → Int32 → Int32 → ms → Prop) (R79' : Int32 → Int32 → Int32 → Int32 → Int32 → Int32 → Int32 → Int32 → Int32 → ms → Prop) (K' : ms → Prop), b_makeRaster_146 x1 x2 x3 x4 x5 x6 x8 x9 s0 s2 s3 S R36' R50' R70' R79' K' ↔ R79' a0 a1 a2 a3 a4 a5 a6 a7 a8 a9) → Q) (k_K : ∀ (a0 : ms), K a0 → (∀ (R36' : Int32 → Int32 → Int32 → Int32 → Int32 → ms → Prop) (R50' : Int32 → Int32 → Int32 → Int32 → Int32 → Int32 → ms → Prop) (R70' : Int32 → Int32 → Int32 → Int32 → Int32 → Int32 → Int32 → Int32 → ms → Prop) (R79' : Int32 → Int32 → Int32 → Int32 → Int32 → Int32 → Int32 → Int32 → Int32 → ms → Prop) (K' : ms → Prop), b_makeRaster_146 x1 x2 x3 x4 x5 x6 x8 x9 s0 s2 s3 S R36' R50' R70' R79' K' ↔ K' a0) → Q) : Q := by
  unfold b_makeRaster_146 at h
  refine d_p_sampleOf h (fun v147 S147 h_2 i_1 => ?_)
  exact k_R79 _ _ _ _ _ _ _ _ _ _ h_2 (fun _ _ _ _ _ => i_1 _)
set_option maxHeartbeats 1000000 in
theorem d_b_makeRaster_126 {x1 : Int32} {x2 : Int32} {x3 : Int32} {x4 : Int32} {x5 : Int32} {x6 : Int32} {x8 : Int32} {x9 : Int32} {x11 : Int32} {s0 : Int32} {s2 : Int32} {S : ms} {R36 : Int32 → Int32 → Int32 → Int32 → Int32 → ms → Prop} {R50 : Int32 → Int32 → Int32 → Int32 → Int32 → Int32 → ms → Prop} {R70 : Int32 → Int32 → Int32 → Int32 → Int32 → Int32 → Int32 → Int32 → ms → Prop} {R79 : Int32 → Int32 → Int32 → Int32 → Int32 → Int32 → Int32 → Int32 → Int32 → ms → Prop} {K : ms → Prop} (h : b_makeRaster_126 x1 x2 x3 x4 x5 x6 x8 x9 x11 s0 s2 S R36 R50 R70 R79 K) {Q : Prop} (k_R36 : ∀ (a0 : Int32) (a1 : Int32) (a2 : Int32) (a3 : Int32) (a4 : Int32) (a5 : ms), R36 a0 a1 a2 a3 a4 a5 → (∀ (R36' : Int32 → Int32 → Int32 → Int32 → Int32 → ms → Prop) (R50' : Int32 → Int32 → Int32 → Int32 → Int32 → Int32 → ms → Prop) (R70' : Int32 → Int32 → Int32 → Int32 → Int32 → Int32 → Int32 → Int32 → ms → Prop) (R79' : Int32 → Int32 → Int32 → Int32 → Int32 → Int32 → Int32 → Int32 → Int32 → ms → Prop) (K' : ms → Prop), b_makeRaster_126 x1 x2 x3 x4 x5 x6 x8 x9 x11 s0 s2 S R36' R50' R70' R79' K' ↔ R36' a0 a1 a2 a3 a4 a5) → Q) (k_R50 : ∀ (a0 : Int32) (a1 : Int32) (a2 : Int32) (a3 : Int32) (a4 : Int32) (a5 : Int32) (a6 : ms), R50 a0 a1 a2 a3 a4 a5 a6 → (∀ (R36' : Int32 → Int32 → Int32 → Int32 → Int32 → ms → Prop) (R50' : Int32 → Int32 → Int32 → Int32 → Int32 → Int32 → ms → Prop) (R70' : Int32 → Int32 → Int32 → Int32 → Int32 → Int32 → Int32 → Int32 → ms → Prop) (R79' : Int32 → Int32 → Int32 → Int32 → Int32 → Int32 → Int32 → Int32 → Int32 → ms → Prop) (K' : ms → Prop), b_makeRaster_126 x1 x2 x3 x4 x5 x6 x8 x9 x11 s0 s2 S R36' R50' R70' R79' K' ↔ R50' a0 a1 a2 a3 a4 a5 a6) → Q) (k_R70 : ∀ (a0 : Int32) (a1 : Int32) (a2 : Int32) (a3 : Int32) (a4 : Int32) (a5 : Int32) (a6 : Int32) (a7 : Int32) (a8 : ms), R70 a0 a1 a2 a3 a4 a5 a6 a7 a8 → (∀ (R36' : Int32 → Int32 → Int32 → Int32 → Int32 → ms → Prop) (R50' : Int32 → Int32 → Int32 → Int32 → Int32 → Int32 → ms → Prop) (R70' : Int32 → Int32 → Int32 → Int32 → Int32 → Int32 → Int32 → Int32 → ms → Prop) (R79' : Int32 → Int32 → Int32 → Int32 → Int32 → Int32 → Int32 → Int32 → Int32 → ms → Prop) (K' : ms → Prop), b_makeRaster_126 x1 x2 x3 x4 x5 x6 x8 x9 x11 s0 s2 S R36' R50' R70' R79' K' ↔ R70' a0 a1 a2 a3 a4 a5 a6 a7 a8) → Q) (k_R79 : ∀ (a0 : Int32) (a1 : Int32) (a2 : Int32) (a3 : Int32) (a4 : Int32) (a5 : Int32) (a6 : Int32) (a7 : Int32) (a8 : Int32) (a9 : ms), R79 a0 a1 a2 a3 a4 a5 a6 a7 a8 a9 → (∀ (R36' : Int32 → Int32 → Int32 → Int32 → Int32 → ms → Prop) (R50' : Int32 → Int32 → Int32 → Int32 → Int32 → Int32 → ms → Prop) (R70' : Int32 → Int32 → Int32 → Int32 → Int32 → Int32 → Int32 → Int32 → ms → Prop) (R79' : Int32 → Int32 → Int32 → Int32 → Int32 → Int32 → Int32 → Int32 → Int32 → ms → Prop) (K' : ms → Prop), b_makeRaster_126 x1 x2 x3 x4 x5 x6 x8 x9 x11 s0 s2 S R36' R50' R70' R79' K' ↔ R79' a0 a1 a2 a3 a4 a5 a6 a7 a8 a9) → Q) (k_K : ∀ (a0 : ms), K a0 → (∀ (R36' : Int32 → Int32 → Int32 → Int32 → Int32 → ms → Prop) (R50' : Int32 → Int32 → Int32 → Int32 → Int32 → Int32 → ms → Prop) (R70' : Int32 → Int32 → Int32 → Int32 → Int32 → Int32 → Int32 → Int32 → ms → Prop) (R79' : Int32 → Int32 → Int32 → Int32 → Int32 → Int32 → Int32 → Int32 → Int32 → ms → Prop) (K' : ms → Prop), b_makeRaster_126 x1 x2 x3 x4 x5 x6 x8 x9 x11 s0 s2 S R36' R50' R70' R79' K' ↔ K' a0) → Q) : Q := by
  unfold b_makeRaster_126 at h
  refine dt_p h (fun c_1 h_2 => ?_) (fun c_1 h_2 => ?_)
  ·
    exact d_b_makeRaster_146 h_2 (fun a0 a1 a2 a3 a4 a5 h_4 i_3 => k_R36 a0 a1 a2 a3 a4 a5 h_4 (fun _ _ _ _ _ => Iff.trans (dt_1 c_1 (fun n => n c_1)) (i_3 _ _ _ _ _))) (fun a0 a1 a2 a3 a4 a5 a6 h_6 i_5 => k_R50 a0 a1 a2 a3 a4 a5 a6 h_6 (fun _ _ _ _ _ => Iff.trans (dt_1 c_1 (fun n => n c_1)) (i_5 _ _ _ _ _))) (fun a0 a1 a2 a3 a4 a5 a6 a7 a8 h_8 i_7 => k_R70 a0 a1 a2 a3 a4 a5 a6 a7 a8 h_8 (fun _ _ _ _ _ => Iff.trans (dt_1 c_1 (fun n => n c_1)) (i_7 _ _ _ _ _))) (fun a0 a1 a2 a3 a4 a5 a6 a7 a8 a9 h_10 i_9 => k_R79 a0 a1 a2 a3 a4 a5 a6 a7 a8 a9 h_10 (fun _ _ _ _ _ => Iff.trans (dt_1 c_1 (fun n => n c_1)) (i_9 _ _ _ _ _))) (fun a0 h_12 i_11 => k_K a0 h_12 (fun _ _ _ _ _ => Iff.trans (dt_1 c_1 (fun n => n c_1)) (i_11 _ _ _ _ _)))
  ·
    exact d_b_makeRaster_146 h_2 (fun a0 a1 a2 a3 a4 a5 h_14 i_13 => k_R36 a0 a1 a2 a3 a4 a5 h_14 (fun _ _ _ _ _ => Iff.trans (dt_2 c_1 c_1) (i_13 _ _ _ _ _))) (fun a0 a1 a2 a3 a4 a5 a6 h_16 i_15 => k_R50 a0 a1 a2 a3 a4 a5 a6 h_16 (fun _ _ _ _ _ => Iff.trans (dt_2 c_1 c_1) (i_15 _ _ _ _ _))) (fun a0 a1 a2 a3 a4 a5 a6 a7 a8 h_18 i_17 => k_R70 a0 a1 a2 a3 a4 a5 a6 a7 a8 h_18 (fun _ _ _ _ _ => Iff.trans (dt_2 c_1 c_1) (i_17 _ _ _ _ _))) (fun a0 a1 a2 a3 a4 a5 a6 a7 a8 a9 h_20 i_19 => k_R79 a0 a1 a2 a3 a4 a5 a6 a7 a8 a9 h_20 (fun _ _ _ _ _ => Iff.trans (dt_2 c_1 c_1) (i_19 _ _ _ _ _))) (fun a0 h_22 i_21 => k_K a0 h_22 (fun _ _ _ _ _ => Iff.trans (dt_2 c_1 c_1) (i_21 _ _ _ _ _)))
set_option maxHeartbeats 1000000 in
theorem d_b_makeRaster_79 {x1 : Int32} {x2 : Int32} {x3 : Int32} {x4 : Int32} {x5 : Int32} {x6 : Int32} {x7 : Int32} {x8 : Int32} {x9 : Int32} {S : ms} {R36 : Int32 → Int32 → Int32 → Int32 → Int32 → ms → Prop} {R50 : Int32 → Int32 → Int32 → Int32 → Int32 → Int32 → ms → Prop} {R70 : Int32 → Int32 → Int32 → Int32 → Int32 → Int32 → Int32 → Int32 → ms → Prop} {R79 : Int32 → Int32 → Int32 → Int32 → Int32 → Int32 → Int32 → Int32 → Int32 → ms → Prop} {K : ms → Prop} (h : b_makeRaster_79 x1 x2 x3 x4 x5 x6 x7 x8 x9 S R36 R50 R70 R79 K) {Q : Prop} (k_R36 : ∀ (a0 : Int32) (a1 : Int32) (a2 : Int32) (a3 : Int32) (a4 : Int32) (a5 : ms), R36 a0 a1 a2 a3 a4 a5 → (∀ (R36' : Int32 → Int32 → Int32 → Int32 → Int32 → ms → Prop) (R50' : Int32 → Int32 → Int32 → Int32 → Int32 → Int32 → ms → Prop) (R70' : Int32 → Int32 → Int32 → Int32 → Int32 → Int32 → Int32 → Int32 → ms → Prop) (R79' : Int32 → Int32 → Int32 → Int32 → Int32 → Int32 → Int32 → Int32 → Int32 → ms → Prop) (K' : ms → Prop), b_makeRaster_79 x1 x2 x3 x4 x5 x6 x7 x8 x9 S R36' R50' R70' R79' K' ↔ R36' a0 a1 a2 a3 a4 a5) → Q) (k_R50 : ∀ (a0 : Int32) (a1 : Int32) (a2 : Int32) (a3 : Int32) (a4 : Int32) (a5 : Int32) (a6 : ms), R50 a0 a1 a2 a3 a4 a5 a6 → (∀ (R36' : Int32 → Int32 → Int32 → Int32 → Int32 → ms → Prop) (R50' : Int32 → Int32 → Int32 → Int32 → Int32 → Int32 → ms → Prop) (R70' : Int32 → Int32 → Int32 → Int32 → Int32 → Int32 → Int32 → Int32 → ms → Prop) (R79' : Int32 → Int32 → Int32 → Int32 → Int32 → Int32 → Int32 → Int32 → Int32 → ms → Prop) (K' : ms → Prop), b_makeRaster_79 x1 x2 x3 x4 x5 x6 x7 x8 x9 S R36' R50' R70' R79' K' ↔ R50' a0 a1 a2 a3 a4 a5 a6) → Q) (k_R70 : ∀ (a0 : Int32) (a1 : Int32) (a2 : Int32) (a3 : Int32) (a4 : Int32) (a5 : Int32) (a6 : Int32) (a7 : Int32) (a8 : ms), R70 a0 a1 a2 a3 a4 a5 a6 a7 a8 → (∀ (R36' : Int32 → Int32 → Int32 → Int32 → Int32 → ms → Prop) (R50' : Int32 → Int32 → Int32 → Int32 → Int32 → Int32 → ms → Prop) (R70' : Int32 → Int32 → Int32 → Int32 → Int32 → Int32 → Int32 → Int32 → ms → Prop) (R79' : Int32 → Int32 → Int32 → Int32 → Int32 → Int32 → Int32 → Int32 → Int32 → ms → Prop) (K' : ms → Prop), b_makeRaster_79 x1 x2 x3 x4 x5 x6 x7 x8 x9 S R36' R50' R70' R79' K' ↔ R70' a0 a1 a2 a3 a4 a5 a6 a7 a8) → Q) (k_R79 : ∀ (a0 : Int32) (a1 : Int32) (a2 : Int32) (a3 : Int32) (a4 : Int32) (a5 : Int32) (a6 : Int32) (a7 : Int32) (a8 : Int32) (a9 : ms), R79 a0 a1 a2 a3 a4 a5 a6 a7 a8 a9 → (∀ (R36' : Int32 → Int32 → Int32 → Int32 → Int32 → ms → Prop) (R50' : Int32 → Int32 → Int32 → Int32 → Int32 → Int32 → ms → Prop) (R70' : Int32 → Int32 → Int32 → Int32 → Int32 → Int32 → Int32 → Int32 → ms → Prop) (R79' : Int32 → Int32 → Int32 → Int32 → Int32 → Int32 → Int32 → Int32 → Int32 → ms → Prop) (K' : ms → Prop), b_makeRaster_79 x1 x2 x3 x4 x5 x6 x7 x8 x9 S R36' R50' R70' R79' K' ↔ R79' a0 a1 a2 a3 a4 a5 a6 a7 a8 a9) → Q) (k_K : ∀ (a0 : ms), K a0 → (∀ (R36' : Int32 → Int32 → Int32 → Int32 → Int32 → ms → Prop) (R50' : Int32 → Int32 → Int32 → Int32 → Int32 → Int32 → ms → Prop) (R70' : Int32 → Int32 → Int32 → Int32 → Int32 → Int32 → Int32 → Int32 → ms → Prop) (R79' : Int32 → Int32 → Int32 → Int32 → Int32 → Int32 → Int32 → Int32 → Int32 → ms → Prop) (K' : ms → Prop), b_makeRaster_79 x1 x2 x3 x4 x5 x6 x7 x8 x9 S R36' R50' R70' R79' K' ↔ K' a0) → Q) : Q := by
  unfold b_makeRaster_79 at h
  refine dt_p h (fun c_1 h_2 => ?_) (fun c_1 h_2 => ?_)
  ·
    exact k_R70 _ _ _ _ _ _ _ _ _ h_2 (fun _ _ _ _ _ => dt_1 c_1 (fun n => n c_1))
  ·
    refine dt_p h_2 (fun c_3 h_4 => ?_) (fun c_3 h_4 => ?_)
    ·
      exact d_b_makeRaster_126 h_4 (fun a0 a1 a2 a3 a4 a5 h_6 i_5 => k_R36 a0 a1 a2 a3 a4 a5 h_6 (fun _ _ _ _ _ => Iff.trans (dt_2 c_1 c_1) (Iff.trans (dt_1 c_3 (fun n => n c_3)) (i_5 _ _ _ _ _)))) (fun a0 a1 a2 a3 a4 a5 a6 h_8 i_7 => k_R50 a0 a1 a2 a3 a4 a5 a6 h_8 (fun _ _ _ _ _ => Iff.trans (dt_2 c_1 c_1) (Iff.trans (dt_1 c_3 (fun n => n c_3)) (i_7 _ _ _ _ _)))) (fun a0 a1 a2 a3 a4 a5 a6 a7 a8 h_10 i_9 => k_R70 a0 a1 a2 a3 a4 a5 a6 a7 a8 h_10 (fun _ _ _ _ _ => Iff.trans (dt_2 c_1 c_1) (Iff.trans (dt_1 c_3 (fun n => n c_3)) (i_9 _ _ _ _ _)))) (fun a0 a1 a2 a3 a4 a5 a6 a7 a8 a9 h_12 i_11 => k_R79 a0 a1 a2 a3 a4 a5 a6 a7 a8 a9 h_12 (fun _ _ _ _ _ => Iff.trans (dt_2 c_1 c_1) (Iff.trans (dt_1 c_3 (fun n => n c_3)) (i_11 _ _ _ _ _)))) (fun a0 h_14 i_13 => k_K a0 h_14 (fun _ _ _ _ _ => Iff.trans (dt_2 c_1 c_1) (Iff.trans (dt_1 c_3 (fun n => n c_3)) (i_13 _ _ _ _ _))))
    ·
      exact d_b_makeRaster_126 h_4 (fun a0 a1 a2 a3 a4 a5 h_16 i_15 => k_R36 a0 a1 a2 a3 a4 a5 h_16 (fun _ _ _ _ _ => Iff.trans (dt_2 c_1 c_1) (Iff.trans (dt_2 c_3 c_3) (i_15 _ _ _ _ _)))) (fun a0 a1 a2 a3 a4 a5 a6 h_18 i_17 => k_R50 a0 a1 a2 a3 a4 a5 a6 h_18 (fun _ _ _ _ _ => Iff.trans (dt_2 c_1 c_1) (Iff.trans (dt_2 c_3 c_3) (i_17 _ _ _ _ _)))) (fun a0 a1 a2 a3 a4 a5 a6 a7 a8 h_20 i_19 => k_R70 a0 a1 a2 a3 a4 a5 a6 a7 a8 h_20 (fun _ _ _ _ _ => Iff.trans (dt_2 c_1 c_1) (Iff.trans (dt_2 c_3 c_3) (i_19 _ _ _ _ _)))) (fun a0 a1 a2 a3 a4 a5 a6 a7 a8 a9 h_22 i_21 => k_R79 a0 a1 a2 a3 a4 a5 a6 a7 a8 a9 h_22 (fun _ _ _ _ _ => Iff.trans (dt_2 c_1 c_1) (Iff.trans (dt_2 c_3 c_3) (i_21 _ _ _ _ _)))) (fun a0 h_24 i_23 => k_K a0 h_24 (fun _ _ _ _ _ => Iff.trans (dt_2 c_1 c_1) (Iff.trans (dt_2 c_3 c_3) (i_23 _ _ _ _ _))))
theorem l_e_makeRaster_79  {x1 : Int32} {x2 : Int32} {x3 : Int32} {x4 : Int32} {x5 : Int32} {x6 : Int32} {x7 : Int32} {x8 : Int32} {x9 : Int32} {S : ms} {R36 : Int32 → Int32 → Int32 → Int32 → Int32 → ms → Prop} {R50 : Int32 → Int32 → Int32 → Int32 → Int32 → Int32 → ms → Prop} {R70 : Int32 → Int32 → Int32 → Int32 → Int32 → Int32 → Int32 → Int32 → ms → Prop} {K : ms → Prop} : e_makeRaster_79 x1 x2 x3 x4 x5 x6 x7 x8 x9 S R36 R50 R70 K ↔ lpE (C := (Int32 → Int32 → Int32 → Int32 → Int32 → ms → Prop) × (Int32 → Int32 → Int32 → Int32 → Int32 → Int32 → ms → Prop) × (Int32 → Int32 → Int32 → Int32 → Int32 → Int32 → Int32 → Int32 → ms → Prop) × (ms → Prop)) (fun (y : (Int32) × (Int32) × (Int32) × (Int32) × (Int32) × (Int32) × (Int32) × (Int32) × (Int32) × (ms)) (R : ((Int32) × (Int32) × (Int32) × (Int32) × (Int32) × (Int32) × (Int32) × (Int32) × (Int32) × (ms)) → Prop) (c : (Int32 → Int32 → Int32 → Int32 → Int32 → ms → Prop) × (Int32 → Int32 → Int32 → Int32 → Int32 → Int32 → ms → Prop) × (Int32 → Int32 → Int32 → Int32 → Int32 → Int32 → Int32 → Int32 → ms → Prop) × (ms → Prop)) => b_makeRaster_79 y.1 y.2.1 y.2.2.1 y.2.2.2.1 y.2.2.2.2.1 y.2.2.2.2.2.1 y.2.2.2.2.2.2.1 y.2.2.2.2.2.2.2.1 y.2.2.2.2.2.2.2.2.1 y.2.2.2.2.2.2.2.2.2 c.1 c.2.1 c.2.2.1 (fun z0 z1 z2 z3 z4 z5 z6 z7 z8 z9 => R (z0, z1, z2, z3, z4, z5, z6, z7, z8, z9)) c.2.2.2) (x1, x2, x3, x4, x5, x6, x7, x8, x9, S) (R36, R50, R70, K) :=
  ⟨fun ⟨I, μ, h0, hs⟩ => ⟨fun t => I t.1 t.2.1 t.2.2.1 t.2.2.2.1 t.2.2.2.2.1 t.2.2.2.2.2.1 t.2.2.2.2.2.2.1 t.2.2.2.2.2.2.2.1 t.2.2.2.2.2.2.2.2.1 t.2.2.2.2.2.2.2.2.2, fun t => μ t.1 t.2.1 t.2.2.1 t.2.2.2.1 t.2.2.2.2.1 t.2.2.2.2.2.1 t.2.2.2.2.2.2.1 t.2.2.2.2.2.2.2.1 t.2.2.2.2.2.2.2.2.1 t.2.2.2.2.2.2.2.2.2, h0, fun t ht => hs _ _ _ _ _ _ _ _ _ _ ht⟩, fun ⟨I, μ, h0, hs⟩ => ⟨fun y0 y1 y2 y3 y4 y5 y6 y7 y8 y9 => I (y0, y1, y2, y3, y4, y5, y6, y7, y8, y9), fun y0 y1 y2 y3 y4 y5 y6 y7 y8 y9 => μ (y0, y1, y2, y3, y4, y5, y6, y7, y8, y9), h0, fun y0 y1 y2 y3 y4 y5 y6 y7 y8 y9 hy => hs (y0, y1, y2, y3, y4, y5, y6, y7, y8, y9) hy⟩⟩
set_option maxHeartbeats 1000000 in
theorem d_e_makeRaster_79 {x1 : Int32} {x2 : Int32} {x3 : Int32} {x4 : Int32} {x5 : Int32} {x6 : Int32} {x7 : Int32} {x8 : Int32} {x9 : Int32} {S : ms} {R36 : Int32 → Int32 → Int32 → Int32 → Int32 → ms → Prop} {R50 : Int32 → Int32 → Int32 → Int32 → Int32 → Int32 → ms → Prop} {R70 : Int32 → Int32 → Int32 → Int32 → Int32 → Int32 → Int32 → Int32 → ms → Prop} {K : ms → Prop} (h : e_makeRaster_79 x1 x2 x3 x4 x5 x6 x7 x8 x9 S R36 R50 R70 K) {Q : Prop} (k_R36 : ∀ (a0 : Int32) (a1 : Int32) (a2 : Int32) (a3 : Int32) (a4 : Int32) (a5 : ms), R36 a0 a1 a2 a3 a4 a5 → (∀ (R36' : Int32 → Int32 → Int32 → Int32 → Int32 → ms → Prop) (R50' : Int32 → Int32 → Int32 → Int32 → Int32 → Int32 → ms → Prop) (R70' : Int32 → Int32 → Int32 → Int32 → Int32 → Int32 → Int32 → Int32 → ms → Prop) (K' : ms → Prop), e_makeRaster_79 x1 x2 x3 x4 x5 x6 x7 x8 x9 S R36' R50' R70' K' ↔ R36' a0 a1 a2 a3 a4 a5) → Q) (k_R50 : ∀ (a0 : Int32) (a1 : Int32) (a2 : Int32) (a3 : Int32) (a4 : Int32) (a5 : Int32) (a6 : ms), R50 a0 a1 a2 a3 a4 a5 a6 → (∀ (R36' : Int32 → Int32 → Int32 → Int32 → Int32 → ms → Prop) (R50' : Int32 → Int32 → Int32 → Int32 → Int32 → Int32 → ms → Prop) (R70' : Int32 → Int32 → Int32 → Int32 → Int32 → Int32 → Int32 → Int32 → ms → Prop) (K' : ms → Prop), e_makeRaster_79 x1 x2 x3 x4 x5 x6 x7 x8 x9 S R36' R50' R70' K' ↔ R50' a0 a1 a2 a3 a4 a5 a6) → Q) (k_R70 : ∀ (a0 : Int32) (a1 : Int32) (a2 : Int32) (a3 : Int32) (a4 : Int32) (a5 : Int32) (a6 : Int32) (a7 : Int32) (a8 : ms), R70 a0 a1 a2 a3 a4 a5 a6 a7 a8 → (∀ (R36' : Int32 → Int32 → Int32 → Int32 → Int32 → ms → Prop) (R50' : Int32 → Int32 → Int32 → Int32 → Int32 → Int32 → ms → Prop) (R70' : Int32 → Int32 → Int32 → Int32 → Int32 → Int32 → Int32 → Int32 → ms → Prop) (K' : ms → Prop), e_makeRaster_79 x1 x2 x3 x4 x5 x6 x7 x8 x9 S R36' R50' R70' K' ↔ R70' a0 a1 a2 a3 a4 a5 a6 a7 a8) → Q) (k_K : ∀ (a0 : ms), K a0 → (∀ (R36' : Int32 → Int32 → Int32 → Int32 → Int32 → ms → Prop) (R50' : Int32 → Int32 → Int32 → Int32 → Int32 → Int32 → ms → Prop) (R70' : Int32 → Int32 → Int32 → Int32 → Int32 → Int32 → Int32 → Int32 → ms → Prop) (K' : ms → Prop), e_makeRaster_79 x1 x2 x3 x4 x5 x6 x7 x8 x9 S R36' R50' R70' K' ↔ K' a0) → Q) : Q := by
  obtain ⟨o, ho, hoc, hi⟩ := lp_det (C := (Int32 → Int32 → Int32 → Int32 → Int32 → ms → Prop) × (Int32 → Int32 → Int32 → Int32 → Int32 → Int32 → ms → Prop) × (Int32 → Int32 → Int32 → Int32 → Int32 → Int32 → Int32 → Int32 → ms → Prop) × (ms → Prop)) (b := (fun (y : (Int32) × (Int32) × (Int32) × (Int32) × (Int32) × (Int32) × (Int32) × (Int32) × (Int32) × (ms)) (R : ((Int32) × (Int32) × (Int32) × (Int32) × (Int32) × (Int32) × (Int32) × (Int32) × (Int32) × (ms)) → Prop) (c : (Int32 → Int32 → Int32 → Int32 → Int32 → ms → Prop) × (Int32 → Int32 → Int32 → Int32 → Int32 → Int32 → ms → Prop) × (Int32 → Int32 → Int32 → Int32 → Int32 → Int32 → Int32 → Int32 → ms → Prop) × (ms → Prop)) => b_makeRaster_79 y.1 y.2.1 y.2.2.1 y.2.2.2.1 y.2.2.2.2.1 y.2.2.2.2.2.1 y.2.2.2.2.2.2.1 y.2.2.2.2.2.2.2.1 y.2.2.2.2.2.2.2.2.1 y.2.2.2.2.2.2.2.2.2 c.1 c.2.1 c.2.2.1 (fun z0 z1 z2 z3 z4 z5 z6 z7 z8 z9 => R (z0, z1, z2, z3, z4, z5, z6, z7, z8, z9)) c.2.2.2)) (O := (fun (o : ((Int32 → Int32 → Int32 → Int32 → Int32 → ms → Prop) × (Int32 → Int32 → Int32 → Int32 → Int32 → Int32 → ms → Prop) × (Int32 → Int32 → Int32 → Int32 → Int32 → Int32 → Int32 → Int32 → ms → Prop) × (ms → Prop)) → Prop) => (∃ (a0 : Int32) (a1 : Int32) (a2 : Int32) (a3 : Int32) (a4 : Int32) (a5 : ms), o = fun c => c.1 a0 a1 a2 a3 a4 a5) ∨ (∃ (a0 : Int32) (a1 : Int32) (a2 : Int32) (a3 : Int32) (a4 : Int32) (a5 : Int32) (a6 : ms), o = fun c => c.2.1 a0 a1 a2 a3 a4 a5 a6) ∨ (∃ (a0 : Int32) (a1 : Int32) (a2 : Int32) (a3 : Int32) (a4 : Int32) (a5 : Int32) (a6 : Int32) (a7 : Int32) (a8 : ms), o = fun c => c.2.2.1 a0 a1 a2 a3 a4 a5 a6 a7 a8) ∨ (∃ (a0 : ms), o = fun c => c.2.2.2 a0))) (fun y R c hy => d_b_makeRaster_79 hy (fun a0 a1 a2 a3 a4 a5 ha ia => Or.inr ⟨(fun c => c.1 a0 a1 a2 a3 a4 a5), Or.inl ⟨a0, a1, a2, a3, a4, a5, rfl⟩, ha, fun R' c' => ia c'.1 c'.2.1 c'.2.2.1 (fun z0 z1 z2 z3 z4 z5 z6 z7 z8 z9 => R' (z0, z1, z2, z3, z4, z5, z6, z7, z8, z9)) c'.2.2.2⟩) (fun a0 a1 a2 a3 a4 a5 a6 ha ia => Or.inr ⟨(fun c => c.2.1 a0 a1 a2 a3 a4 a5 a6), Or.inr (Or.inl ⟨a0, a1, a2, a3, a4, a5, a6, rfl⟩), ha, fun R' c' => ia c'.1 c'.2.1 c'.2.2.1 (fun z0 z1 z2 z3 z4 z5 z6 z7 z8 z9 => R' (z0, z1, z2, z3, z4, z5, z6, z7, z8, z9)) c'.2.2.2⟩) (fun a0 a1 a2 a3 a4 a5 a6 a7 a8 ha ia => Or.inr ⟨(fun c => c.2.2.1 a0 a1 a2 a3 a4 a5 a6 a7 a8), Or.inr (Or.inr (Or.inl ⟨a0, a1, a2, a3, a4, a5, a6, a7, a8, rfl⟩)), ha, fun R' c' => ia c'.1 c'.2.1 c'.2.2.1 (fun z0 z1 z2 z3 z4 z5 z6 z7 z8 z9 => R' (z0, z1, z2, z3, z4, z5, z6, z7, z8, z9)) c'.2.2.2⟩) (fun a0 a1 a2 a3 a4 a5 a6 a7 a8 a9 ha ia => Or.inl ⟨(a0, a1, a2, a3, a4, a5, a6, a7, a8, a9), ha, fun R' c' => ia c'.1 c'.2.1 c'.2.2.1 (fun z0 z1 z2 z3 z4 z5 z6 z7 z8 z9 => R' (z0, z1, z2, z3, z4, z5, z6, z7, z8, z9)) c'.2.2.2⟩) (fun a0 ha ia => Or.inr ⟨(fun c => c.2.2.2 a0), Or.inr (Or.inr (Or.inr (⟨a0, rfl⟩))), ha, fun R' c' => ia c'.1 c'.2.1 c'.2.2.1 (fun z0 z1 z2 z3 z4 z5 z6 z7 z8 z9 => R' (z0, z1, z2, z3, z4, z5, z6, z7, z8, z9)) c'.2.2.2⟩)) (l_e_makeRaster_79.mp h)
  rcases ho with ⟨a0, a1, a2, a3, a4, a5, rfl⟩ | ⟨a0, a1, a2, a3, a4, a5, a6, rfl⟩ | ⟨a0, a1, a2, a3, a4, a5, a6, a7, a8, rfl⟩ | ⟨a0, rfl⟩
  · exact k_R36 _ _ _ _ _ _ hoc (fun R36' R50' R70' K' => Iff.trans l_e_makeRaster_79 (hi (R36', R50', R70', K')))
  · exact k_R50 _ _ _ _ _ _ _ hoc (fun R36' R50' R70' K' => Iff.trans l_e_makeRaster_79 (hi (R36', R50', R70', K')))
  · exact k_R70 _ _ _ _ _ _ _ _ _ hoc (fun R36' R50' R70' K' => Iff.trans l_e_makeRaster_79 (hi (R36', R50', R70', K')))
  · exact k_K _ hoc (fun R36' R50' R70' K' => Iff.trans l_e_makeRaster_79 (hi (R36', R50', R70', K')))
theorem v_e_makeRaster_79 {x1 : Int32} {x2 : Int32} {x3 : Int32} {x4 : Int32} {x5 : Int32} {x6 : Int32} {x7 : Int32} {x8 : Int32} {x9 : Int32} {S : ms} {R36 : Int32 → Int32 → Int32 → Int32 → Int32 → ms → Prop} {R50 : Int32 → Int32 → Int32 → Int32 → Int32 → Int32 → ms → Prop} {R70 : Int32 → Int32 → Int32 → Int32 → Int32 → Int32 → Int32 → Int32 → ms → Prop} {K : ms → Prop} (h : e_makeRaster_79 x1 x2 x3 x4 x5 x6 x7 x8 x9 S R36 R50 R70 K) {G : Prop} (Inv : Int32 → Int32 → ms → Prop) (h0 : Inv x7 x9 S) (hs : ∀ (yx7 : Int32) (yx9 : Int32) (yS : ms) (R : Int32 → Int32 → Int32 → Int32 → Int32 → Int32 → Int32 → Int32 → Int32 → ms → Prop), Inv yx7 yx9 yS → b_makeRaster_79 x1 x2 x3 x4 x5 x6 yx7 x8 yx9 yS R36 R50 R70 R K → (∃ (zx7 : Int32) (zx9 : Int32) (zS : ms), R x1 x2 x3 x4 x5 x6 zx7 x8 zx9 zS ∧ Inv zx7 zx9 zS) ∨ G) : G := by
  obtain ⟨I, μ, i0, is⟩ := h
  have go : ∀ (n : Nat) (yx7 : Int32) (yx9 : Int32) (yS : ms), μ x1 x2 x3 x4 x5 x6 yx7 x8 yx9 yS < n → I x1 x2 x3 x4 x5 x6 yx7 x8 yx9 yS → Inv yx7 yx9 yS → G := by
    intro n
    induction n with
    | zero => intro yx7 yx9 yS hy; exact absurd hy (Nat.not_lt_zero _)
    | succ n ih =>
      intro yx7 yx9 yS hy hI hV
      rcases hs yx7 yx9 yS _ hV (is x1 x2 x3 x4 x5 x6 yx7 x8 yx9 yS hI) with ⟨zx7, zx9, zS, ⟨hz, hm⟩, hv⟩ | g
      · exact ih zx7 zx9 zS (Nat.lt_of_lt_of_le hm (Nat.le_of_lt_succ hy)) hz hv
      · exact g
  exact go _ x7 x9 S (Nat.lt_succ_self _) i0 h0
theorem r_e_makeRaster_79 {x1 : Int32} {x2 : Int32} {x3 : Int32} {x4 : Int32} {x5 : Int32} {x6 : Int32} {x7 : Int32} {x8 : Int32} {x9 : Int32} {S : ms} {R36 : Int32 → Int32 → Int32 → Int32 → Int32 → ms → Prop} {R50 : Int32 → Int32 → Int32 → Int32 → Int32 → Int32 → ms → Prop} {R70 : Int32 → Int32 → Int32 → Int32 → Int32 → Int32 → Int32 → Int32 → ms → Prop} {K : ms → Prop} (h : e_makeRaster_79 x1 x2 x3 x4 x5 x6 x7 x8 x9 S R36 R50 R70 K) : b_makeRaster_79 x1 x2 x3 x4 x5 x6 x7 x8 x9 S R36 R50 R70 (fun zx1 zx2 zx3 zx4 zx5 zx6 zx7 zx8 zx9 zS => e_makeRaster_79 zx1 zx2 zx3 zx4 zx5 zx6 zx7 zx8 zx9 zS R36 R50 R70 K) K := by
  obtain ⟨I, μ, i0, is⟩ := h
  exact d_b_makeRaster_79 (is x1 x2 x3 x4 x5 x6 x7 x8 x9 S i0) (fun a0 a1 a2 a3 a4 a5 ha ia => (ia _ _ _ _ _).mpr ha) (fun a0 a1 a2 a3 a4 a5 a6 ha ia => (ia _ _ _ _ _).mpr ha) (fun a0 a1 a2 a3 a4 a5 a6 a7 a8 ha ia => (ia _ _ _ _ _).mpr ha) (fun a0 a1 a2 a3 a4 a5 a6 a7 a8 a9 ha ia => (ia _ _ _ _ _).mpr ⟨I, μ, ha.1, is⟩) (fun a0 ha ia => (ia _ _ _ _ _).mpr ha)
set_option maxHeartbeats 1000000 in
theorem d_b_makeRaster_70 {x1 : Int32} {x2 : Int32} {x3 : Int32} {x4 : Int32} {x5 : Int32} {x6 : Int32} {x7 : Int32} {x8 : Int32} {S : ms} {R36 : Int32 → Int32 → Int32 → Int32 → Int32 → ms → Prop} {R50 : Int32 → Int32 → Int32 → Int32 → Int32 → Int32 → ms → Prop} {R70 : Int32 → Int32 → Int32 → Int32 → Int32 → Int32 → Int32 → Int32 → ms → Prop} {K : ms → Prop} (h : b_makeRaster_70 x1 x2 x3 x4 x5 x6 x7 x8 S R36 R50 R70 K) {Q : Prop} (k_R36 : ∀ (a0 : Int32) (a1 : Int32) (a2 : Int32) (a3 : Int32) (a4 : Int32) (a5 : ms), R36 a0 a1 a2 a3 a4 a5 → (∀ (R36' : Int32 → Int32 → Int32 → Int32 → Int32 → ms → Prop) (R50' : Int32 → Int32 → Int32 → Int32 → Int32 → Int32 → ms → Prop) (R70' : Int32 → Int32 → Int32 → Int32 → Int32 → Int32 → Int32 → Int32 → ms → Prop) (K' : ms → Prop), b_makeRaster_70 x1 x2 x3 x4 x5 x6 x7 x8 S R36' R50' R70' K' ↔ R36' a0 a1 a2 a3 a4 a5) → Q) (k_R50 : ∀ (a0 : Int32) (a1 : Int32) (a2 : Int32) (a3 : Int32) (a4 : Int32) (a5 : Int32) (a6 : ms), R50 a0 a1 a2 a3 a4 a5 a6 → (∀ (R36' : Int32 → Int32 → Int32 → Int32 → Int32 → ms → Prop) (R50' : Int32 → Int32 → Int32 → Int32 → Int32 → Int32 → ms → Prop) (R70' : Int32 → Int32 → Int32 → Int32 → Int32 → Int32 → Int32 → Int32 → ms → Prop) (K' : ms → Prop), b_makeRaster_70 x1 x2 x3 x4 x5 x6 x7 x8 S R36' R50' R70' K' ↔ R50' a0 a1 a2 a3 a4 a5 a6) → Q) (k_R70 : ∀ (a0 : Int32) (a1 : Int32) (a2 : Int32) (a3 : Int32) (a4 : Int32) (a5 : Int32) (a6 : Int32) (a7 : Int32) (a8 : ms), R70 a0 a1 a2 a3 a4 a5 a6 a7 a8 → (∀ (R36' : Int32 → Int32 → Int32 → Int32 → Int32 → ms → Prop) (R50' : Int32 → Int32 → Int32 → Int32 → Int32 → Int32 → ms → Prop) (R70' : Int32 → Int32 → Int32 → Int32 → Int32 → Int32 → Int32 → Int32 → ms → Prop) (K' : ms → Prop), b_makeRaster_70 x1 x2 x3 x4 x5 x6 x7 x8 S R36' R50' R70' K' ↔ R70' a0 a1 a2 a3 a4 a5 a6 a7 a8) → Q) (k_K : ∀ (a0 : ms), K a0 → (∀ (R36' : Int32 → Int32 → Int32 → Int32 → Int32 → ms → Prop) (R50' : Int32 → Int32 → Int32 → Int32 → Int32 → Int32 → ms → Prop) (R70' : Int32 → Int32 → Int32 → Int32 → Int32 → Int32 → Int32 → Int32 → ms → Prop) (K' : ms → Prop), b_makeRaster_70 x1 x2 x3 x4 x5 x6 x7 x8 S R36' R50' R70' K' ↔ K' a0) → Q) : Q := by
  unfold b_makeRaster_70 at h
  refine dt_p h (fun c_1 h_2 => ?_) (fun c_1 h_2 => ?_)
  ·
    exact k_R50 _ _ _ _ _ _ _ (And.right (And.right h_2)) (fun _ _ _ _ => Iff.trans (dt_1 c_1 (fun n => n c_1)) (Iff.trans (dt_a (And.left h_2)) (dt_a (And.left (And.right h_2)))))
  ·
    exact d_e_makeRaster_79 h_2 (fun a0 a1 a2 a3 a4 a5 h_4 i_3 => k_R36 a0 a1 a2 a3 a4 a5 h_4 (fun _ _ _ _ => Iff.trans (dt_2 c_1 c_1) (i_3 _ _ _ _))) (fun a0 a1 a2 a3 a4 a5 a6 h_6 i_5 => k_R50 a0 a1 a2 a3 a4 a5 a6 h_6 (fun _ _ _ _ => Iff.trans (dt_2 c_1 c_1) (i_5 _ _ _ _))) (fun a0 a1 a2 a3 a4 a5 a6 a7 a8 h_8 i_7 => k_R70 a0 a1 a2 a3 a4 a5 a6 a7 a8 h_8 (fun _ _ _ _ => Iff.trans (dt_2 c_1 c_1) (i_7 _ _ _ _))) (fun a0 h_10 i_9 => k_K a0 h_10 (fun _ _ _ _ => Iff.trans (dt_2 c_1 c_1) (i_9 _ _ _ _)))
theorem l_e_makeRaster_70  {x1 : Int32} {x2 : Int32} {x3 : Int32} {x4 : Int32} {x5 : Int32} {x6 : Int32} {x7 : Int32} {x8 : Int32} {S : ms} {R36 : Int32 → Int32 → Int32 → Int32 → Int32 → ms → Prop} {R50 : Int32 → Int32 → Int32 → Int32 → Int32 → Int32 → ms → Prop} {K : ms → Prop} : e_makeRaster_70 x1 x2 x3 x4 x5 x6 x7 x8 S R36 R50 K ↔ lpE (C := (Int32 → Int32 → Int32 → Int32 → Int32 → ms → Prop) × (Int32 → Int32 → Int32 → Int32 → Int32 → Int32 → ms → Prop) × (ms → Prop)) (fun (y : (Int32) × (Int32) × (Int32) × (Int32) × (Int32) × (Int32) × (Int32) × (Int32) × (ms)) (R : ((Int32) × (Int32) × (Int32) × (Int32) × (Int32) × (Int32) × (Int32) × (Int32) × (ms)) → Prop) (c : (Int32 → Int32 → Int32 → Int32 → Int32 → ms → Prop) × (Int32 → Int32 → Int32 → Int32 → Int32 → Int32 → ms → Prop) × (ms → Prop)) => b_makeRaster_70 y.1 y.2.1 y.2.2.1 y.2.2.2.1 y.2.2.2.2.1 y.2.2.2.2.2.1 y.2.2.2.2.2.2.1 y.2.2.2.2.2.2.2.1 y.2.2.2.2.2.2.2.2 c.1 c.2.1 (fun z0 z1 z2 z3 z4 z5 z6 z7 z8 => R (z0, z1, z2, z3, z4, z5, z6, z7, z8)) c.2.2) (x1, x2, x3, x4, x5, x6, x7, x8, S) (R36, R50, K) :=
  ⟨fun ⟨I, μ, h0, hs⟩ => ⟨fun t => I t.1 t.2.1 t.2.2.1 t.2.2.2.1 t.2.2.2.2.1 t.2.2.2.2.2.1 t.2.2.2.2.2.2.1 t.2.2.2.2.2.2.2.1 t.2.2.2.2.2.2.2.2, fun t => μ t.1 t.2.1 t.2.2.1 t.2.2.2.1 t.2.2.2.2.1 t.2.2.2.2.2.1 t.2.2.2.2.2.2.1 t.2.2.2.2.2.2.2.1 t.2.2.2.2.2.2.2.2, h0, fun t ht => hs _ _ _ _ _ _ _ _ _ ht⟩, fun ⟨I, μ, h0, hs⟩ => ⟨fun y0 y1 y2 y3 y4 y5 y6 y7 y8 => I (y0, y1, y2, y3, y4, y5, y6, y7, y8), fun y0 y1 y2 y3 y4 y5 y6 y7 y8 => μ (y0, y1, y2, y3, y4, y5, y6, y7, y8), h0, fun y0 y1 y2 y3 y4 y5 y6 y7 y8 hy => hs (y0, y1, y2, y3, y4, y5, y6, y7, y8) hy⟩⟩
set_option maxHeartbeats 1000000 in
theorem d_e_makeRaster_70 {x1 : Int32} {x2 : Int32} {x3 : Int32} {x4 : Int32} {x5 : Int32} {x6 : Int32} {x7 : Int32} {x8 : Int32} {S : ms} {R36 : Int32 → Int32 → Int32 → Int32 → Int32 → ms → Prop} {R50 : Int32 → Int32 → Int32 → Int32 → Int32 → Int32 → ms → Prop} {K : ms → Prop} (h : e_makeRaster_70 x1 x2 x3 x4 x5 x6 x7 x8 S R36 R50 K) {Q : Prop} (k_R36 : ∀ (a0 : Int32) (a1 : Int32) (a2 : Int32) (a3 : Int32) (a4 : Int32) (a5 : ms), R36 a0 a1 a2 a3 a4 a5 → (∀ (R36' : Int32 → Int32 → Int32 → Int32 → Int32 → ms → Prop) (R50' : Int32 → Int32 → Int32 → Int32 → Int32 → Int32 → ms → Prop) (K' : ms → Prop), e_makeRaster_70 x1 x2 x3 x4 x5 x6 x7 x8 S R36' R50' K' ↔ R36' a0 a1 a2 a3 a4 a5) → Q) (k_R50 : ∀ (a0 : Int32) (a1 : Int32) (a2 : Int32) (a3 : Int32) (a4 : Int32) (a5 : Int32) (a6 : ms), R50 a0 a1 a2 a3 a4 a5 a6 → (∀ (R36' : Int32 → Int32 → Int32 → Int32 → Int32 → ms → Prop) (R50' : Int32 → Int32 → Int32 → Int32 → Int32 → Int32 → ms → Prop) (K' : ms → Prop), e_makeRaster_70 x1 x2 x3 x4 x5 x6 x7 x8 S R36' R50' K' ↔ R50' a0 a1 a2 a3 a4 a5 a6) → Q) (k_K : ∀ (a0 : ms), K a0 → (∀ (R36' : Int32 → Int32 → Int32 → Int32 → Int32 → ms → Prop) (R50' : Int32 → Int32 → Int32 → Int32 → Int32 → Int32 → ms → Prop) (K' : ms → Prop), e_makeRaster_70 x1 x2 x3 x4 x5 x6 x7 x8 S R36' R50' K' ↔ K' a0) → Q) : Q := by
  obtain ⟨o, ho, hoc, hi⟩ := lp_det (C := (Int32 → Int32 → Int32 → Int32 → Int32 → ms → Prop) × (Int32 → Int32 → Int32 → Int32 → Int32 → Int32 → ms → Prop) × (ms → Prop)) (b := (fun (y : (Int32) × (Int32) × (Int32) × (Int32) × (Int32) × (Int32) × (Int32) × (Int32) × (ms)) (R : ((Int32) × (Int32) × (Int32) × (Int32) × (Int32) × (Int32) × (Int32) × (Int32) × (ms)) → Prop) (c : (Int32 → Int32 → Int32 → Int32 → Int32 → ms → Prop) × (Int32 → Int32 → Int32 → Int32 → Int32 → Int32 → ms → Prop) × (ms → Prop)) => b_makeRaster_70 y.1 y.2.1 y.2.2.1 y.2.2.2.1 y.2.2.2.2.1 y.2.2.2.2.2.1 y.2.2.2.2.2.2.1 y.2.2.2.2.2.2.2.1 y.2.2.2.2.2.2.2.2 c.1 c.2.1 (fun z0 z1 z2 z3 z4 z5 z6 z7 z8 => R (z0, z1, z2, z3, z4, z5, z6, z7, z8)) c.2.2)) (O := (fun (o : ((Int32 → Int32 → Int32 → Int32 → Int32 → ms → Prop) × (Int32 → Int32 → Int32 → Int32 → Int32 → Int32 → ms → Prop) × (ms → Prop)) → Prop) => (∃ (a0 : Int32) (a1 : Int32) (a2 : Int32) (a3 : Int32) (a4 : Int32) (a5 : ms), o = fun c => c.1 a0 a1 a2 a3 a4 a5) ∨ (∃ (a0 : Int32) (a1 : Int32) (a2 : Int32) (a3 : Int32) (a4 : Int32) (a5 : Int32) (a6 : ms), o = fun c => c.2.1 a0 a1 a2 a3 a4 a5 a6) ∨ (∃ (a0 : ms), o = fun c => c.2.2 a0))) (fun y R c hy => d_b_makeRaster_70 hy (fun a0 a1 a2 a3 a4 a5 ha ia => Or.inr ⟨(fun c => c.1 a0 a1 a2 a3 a4 a5), Or.inl ⟨a0, a1, a2, a3, a4, a5, rfl⟩, ha, fun R' c' => ia c'.1 c'.2.1 (fun z0 z1 z2 z3 z4 z5 z6 z7 z8 => R' (z0, z1, z2, z3, z4, z5, z6, z7, z8)) c'.2.2⟩) (fun a0 a1 a2 a3 a4 a5 a6 ha ia => Or.inr ⟨(fun c => c.2.1 a0 a1 a2 a3 a4 a5 a6), Or.inr (Or.inl ⟨a0, a1, a2, a3, a4, a5, a6, rfl⟩), ha, fun R' c' => ia c'.1 c'.2.1 (fun z0 z1 z2 z3 z4 z5 z6 z7 z8 => R' (z0, z1, z2, z3, z4, z5, z6, z7, z8)) c'.2.2⟩) (fun a0 a1 a2 a3 a4 a5 a6 a7 a8 ha ia => Or.inl ⟨(a0, a1, a2, a3, a4, a5, a6, a7, a8), ha, fun R' c' => ia c'.1 c'.2.1 (fun z0 z1 z2 z3 z4 z5 z6 z7 z8 => R' (z0, z1, z2, z3, z4, z5, z6, z7, z8)) c'.2.2⟩) (fun a0 ha ia => Or.inr ⟨(fun c => c.2.2 a0), Or.inr (Or.inr (⟨a0, rfl⟩)), ha, fun R' c' => ia c'.1 c'.2.1 (fun z0 z1 z2 z3 z4 z5 z6 z7 z8 => R' (z0, z1, z2, z3, z4, z5, z6, z7, z8)) c'.2.2⟩)) (l_e_makeRaster_70.mp h)
  rcases ho with ⟨a0, a1, a2, a3, a4, a5, rfl⟩ | ⟨a0, a1, a2, a3, a4, a5, a6, rfl⟩ | ⟨a0, rfl⟩
  · exact k_R36 _ _ _ _ _ _ hoc (fun R36' R50' K' => Iff.trans l_e_makeRaster_70 (hi (R36', R50', K')))
  · exact k_R50 _ _ _ _ _ _ _ hoc (fun R36' R50' K' => Iff.trans l_e_makeRaster_70 (hi (R36', R50', K')))
  · exact k_K _ hoc (fun R36' R50' K' => Iff.trans l_e_makeRaster_70 (hi (R36', R50', K')))
theorem v_e_makeRaster_70 {x1 : Int32} {x2 : Int32} {x3 : Int32} {x4 : Int32} {x5 : Int32} {x6 : Int32} {x7 : Int32} {x8 : Int32} {S : ms} {R36 : Int32 → Int32 → Int32 → Int32 → Int32 → ms → Prop} {R50 : Int32 → Int32 → Int32 → Int32 → Int32 → Int32 → ms → Prop} {K : ms → Prop} (h : e_makeRaster_70 x1 x2 x3 x4 x5 x6 x7 x8 S R36 R50 K) {G : Prop} (Inv : Int32 → Int32 → ms → Prop) (h0 : Inv x7 x8 S) (hs : ∀ (yx7 : Int32) (yx8 : Int32) (yS : ms) (R : Int32 → Int32 → Int32 → Int32 → Int32 → Int32 → Int32 → Int32 → ms → Prop), Inv yx7 yx8 yS → b_makeRaster_70 x1 x2 x3 x4 x5 x6 yx7 yx8 yS R36 R50 R K → (∃ (zx7 : Int32) (zx8 : Int32) (zS : ms), R x1 x2 x3 x4 x5 x6 zx7 zx8 zS ∧ Inv zx7 zx8 zS) ∨ G) : G := by
  obtain ⟨I, μ, i0, is⟩ := h
  have go : ∀ (n : Nat) (yx7 : Int32) (yx8 : Int32) (yS : ms), μ x1 x2 x3 x4 x5 x6 yx7 yx8 yS < n → I x1 x2 x3 x4 x5 x6 yx7 yx8 yS → Inv yx7 yx8 yS → G := by
    intro n
    induction n with
    | zero => intro yx7 yx8 yS hy; exact absurd hy (Nat.not_lt_zero _)
    | succ n ih =>
      intro yx7 yx8 yS hy hI hV
      rcases hs yx7 yx8 yS _ hV (is x1 x2 x3 x4 x5 x6 yx7 yx8 yS hI) with ⟨zx7, zx8, zS, ⟨hz, hm⟩, hv⟩ | g
      · exact ih zx7 zx8 zS (Nat.lt_of_lt_of_le hm (Nat.le_of_lt_succ hy)) hz hv
      · exact g
  exact go _ x7 x8 S (Nat.lt_succ_self _) i0 h0
theorem r_e_makeRaster_70 {x1 : Int32} {x2 : Int32} {x3 : Int32} {x4 : Int32} {x5 : Int32} {x6 : Int32} {x7 : Int32} {x8 : Int32} {S : ms} {R36 : Int32 → Int32 → Int32 → Int32 → Int32 → ms → Prop} {R50 : Int32 → Int32 → Int32 → Int32 → Int32 → Int32 → ms → Prop} {K : ms → Prop} (h : e_makeRaster_70 x1 x2 x3 x4 x5 x6 x7 x8 S R36 R50 K) : b_makeRaster_70 x1 x2 x3 x4 x5 x6 x7 x8 S R36 R50 (fun zx1 zx2 zx3 zx4 zx5 zx6 zx7 zx8 zS => e_makeRaster_70 zx1 zx2 zx3 zx4 zx5 zx6 zx7 zx8 zS R36 R50 K) K := by
  obtain ⟨I, μ, i0, is⟩ := h
  exact d_b_makeRaster_70 (is x1 x2 x3 x4 x5 x6 x7 x8 S i0) (fun a0 a1 a2 a3 a4 a5 ha ia => (ia _ _ _ _).mpr ha) (fun a0 a1 a2 a3 a4 a5 a6 ha ia => (ia _ _ _ _).mpr ha) (fun a0 a1 a2 a3 a4 a5 a6 a7 a8 ha ia => (ia _ _ _ _).mpr ⟨I, μ, ha.1, is⟩) (fun a0 ha ia => (ia _ _ _ _).mpr ha)
set_option maxHeartbeats 1000000 in
theorem d_b_makeRaster_50 {x1 : Int32} {x2 : Int32} {x3 : Int32} {x4 : Int32} {x5 : Int32} {x6 : Int32} {S : ms} {R36 : Int32 → Int32 → Int32 → Int32 → Int32 → ms → Prop} {R50 : Int32 → Int32 → Int32 → Int32 → Int32 → Int32 → ms → Prop} {K : ms → Prop} (h : b_makeRaster_50 x1 x2 x3 x4 x5 x6 S R36 R50 K) {Q : Prop} (k_R36 : ∀ (a0 : Int32) (a1 : Int32) (a2 : Int32) (a3 : Int32) (a4 : Int32) (a5 : ms), R36 a0 a1 a2 a3 a4 a5 → (∀ (R36' : Int32 → Int32 → Int32 → Int32 → Int32 → ms → Prop) (R50' : Int32 → Int32 → Int32 → Int32 → Int32 → Int32 → ms → Prop) (K' : ms → Prop), b_makeRaster_50 x1 x2 x3 x4 x5 x6 S R36' R50' K' ↔ R36' a0 a1 a2 a3 a4 a5) → Q) (k_R50 : ∀ (a0 : Int32) (a1 : Int32) (a2 : Int32) (a3 : Int32) (a4 : Int32) (a5 : Int32) (a6 : ms), R50 a0 a1 a2 a3 a4 a5 a6 → (∀ (R36' : Int32 → Int32 → Int32 → Int32 → Int32 → ms → Prop) (R50' : Int32 → Int32 → Int32 → Int32 → Int32 → Int32 → ms → Prop) (K' : ms → Prop), b_makeRaster_50 x1 x2 x3 x4 x5 x6 S R36' R50' K' ↔ R50' a0 a1 a2 a3 a4 a5 a6) → Q) (k_K : ∀ (a0 : ms), K a0 → (∀ (R36' : Int32 → Int32 → Int32 → Int32 → Int32 → ms → Prop) (R50' : Int32 → Int32 → Int32 → Int32 → Int32 → Int32 → ms → Prop) (K' : ms → Prop), b_makeRaster_50 x1 x2 x3 x4 x5 x6 S R36' R50' K' ↔ K' a0) → Q) : Q := by
  unfold b_makeRaster_50 at h
  refine d_p_layerWide h (fun v55 S55 h_2 i_1 => ?_)
  refine dt_p h_2 (fun c_3 h_4 => ?_) (fun c_3 h_4 => ?_)
  ·
    exact k_R36 _ _ _ _ _ _ h_4 (fun _ _ _ => Iff.trans (i_1 _) (dt_1 c_3 (fun n => n c_3)))
  ·
    exact d_e_makeRaster_70 h_4 (fun a0 a1 a2 a3 a4 a5 h_6 i_5 => k_R36 a0 a1 a2 a3 a4 a5 h_6 (fun _ _ _ => Iff.trans (i_1 _) (Iff.trans (dt_2 c_3 c_3) (i_5 _ _ _)))) (fun a0 a1 a2 a3 a4 a5 a6 h_8 i_7 => k_R50 a0 a1 a2 a3 a4 a5 a6 h_8 (fun _ _ _ => Iff.trans (i_1 _) (Iff.trans (dt_2 c_3 c_3) (i_7 _ _ _)))) (fun a0 h_10 i_9 => k_K a0 h_10 (fun _ _ _ => Iff.trans (i_1 _) (Iff.trans (dt_2 c_3 c_3) (i_9 _ _ _))))
theorem l_e_makeRaster_50  {x1 : Int32} {x2 : Int32} {x3 : Int32} {x4 : Int32} {x5 : Int32} {x6 : Int32} {S : ms} {R36 : Int32 → Int32 → Int32 → Int32 → Int32 → ms → Prop} {K : ms → Prop} : e_makeRaster_50 x1 x2 x3 x4 x5 x6 S R36 K ↔ lpE (C := (Int32 → Int32 → Int32 → Int32 → Int32 → ms → Prop) × (ms → Prop)) (fun (y : (Int32) × (Int32) × (Int32) × (Int32) × (Int32) × (Int32) × (ms)) (R : ((Int32) × (Int32) × (Int32) × (Int32) × (Int32) × (Int32) × (ms)) → Prop) (c : (Int32 → Int32 → Int32 → Int32 → Int32 → ms → Prop) × (ms → Prop)) => b_makeRaster_50 y.1 y.2.1 y.2.2.1 y.2.2.2.1 y.2.2.2.2.1 y.2.2.2.2.2.1 y.2.2.2.2.2.2 c.1 (fun z0 z1 z2 z3 z4 z5 z6 => R (z0, z1, z2, z3, z4, z5, z6)) c.2) (x1, x2, x3, x4, x5, x6, S) (R36, K) :=
  ⟨fun ⟨I, μ, h0, hs⟩ => ⟨fun t => I t.1 t.2.1 t.2.2.1 t.2.2.2.1 t.2.2.2.2.1 t.2.2.2.2.2.1 t.2.2.2.2.2.2, fun t => μ t.1 t.2.1 t.2.2.1 t.2.2.2.1 t.2.2.2.2.1 t.2.2.2.2.2.1 t.2.2.2.2.2.2, h0, fun t ht => hs _ _ _ _ _ _ _ ht⟩, fun ⟨I, μ, h0, hs⟩ => ⟨fun y0 y1 y2 y3 y4 y5 y6 => I (y0, y1, y2, y3, y4, y5, y6), fun y0 y1 y2 y3 y4 y5 y6 => μ (y0, y1, y2, y3, y4, y5, y6), h0, fun y0 y1 y2 y3 y4 y5 y6 hy => hs (y0, y1, y2, y3, y4, y5, y6) hy⟩⟩
set_option maxHeartbeats 1000000 in
theorem d_e_makeRaster_50 {x1 : Int32} {x2 : Int32} {x3 : Int32} {x4 : Int32} {x5 : Int32} {x6 : Int32} {S : ms} {R36 : Int32 → Int32 → Int32 → Int32 → Int32 → ms → Prop} {K : ms → Prop} (h : e_makeRaster_50 x1 x2 x3 x4 x5 x6 S R36 K) {Q : Prop} (k_R36 : ∀ (a0 : Int32) (a1 : Int32) (a2 : Int32) (a3 : Int32) (a4 : Int32) (a5 : ms), R36 a0 a1 a2 a3 a4 a5 → (∀ (R36' : Int32 → Int32 → Int32 → Int32 → Int32 → ms → Prop) (K' : ms → Prop), e_makeRaster_50 x1 x2 x3 x4 x5 x6 S R36' K' ↔ R36' a0 a1 a2 a3 a4 a5) → Q) (k_K : ∀ (a0 : ms), K a0 → (∀ (R36' : Int32 → Int32 → Int32 → Int32 → Int32 → ms → Prop) (K' : ms → Prop), e_makeRaster_50 x1 x2 x3 x4 x5 x6 S R36' K' ↔ K' a0) → Q) : Q := by
  obtain ⟨o, ho, hoc, hi⟩ := lp_det (C := (Int32 → Int32 → Int32 → Int32 → Int32 → ms → Prop) × (ms → Prop)) (b := (fun (y : (Int32) × (Int32) × (Int32) × (Int32) × (Int32) × (Int32) × (ms)) (R : ((Int32) × (Int32) × (Int32) × (Int32) × (Int32) × (Int32) × (ms)) → Prop) (c : (Int32 → Int32 → Int32 → Int32 → Int32 → ms → Prop) × (ms → Prop)) => b_makeRaster_50 y.1 y.2.1 y.2.2.1 y.2.2.2.1 y.2.2.2.2.1 y.2.2.2.2.2.1 y.2.2.2.2.2.2 c.1 (fun z0 z1 z2 z3 z4 z5 z6 => R (z0, z1, z2, z3, z4, z5, z6)) c.2)) (O := (fun (o : ((Int32 → Int32 → Int32 → Int32 → Int32 → ms → Prop) × (ms → Prop)) → Prop) => (∃ (a0 : Int32) (a1 : Int32) (a2 : Int32) (a3 : Int32) (a4 : Int32) (a5 : ms), o = fun c => c.1 a0 a1 a2 a3 a4 a5) ∨ (∃ (a0 : ms), o = fun c => c.2 a0))) (fun y R c hy => d_b_makeRaster_50 hy (fun a0 a1 a2 a3 a4 a5 ha ia => Or.inr ⟨(fun c => c.1 a0 a1 a2 a3 a4 a5), Or.inl ⟨a0, a1, a2, a3, a4, a5, rfl⟩, ha, fun R' c' => ia c'.1 (fun z0 z1 z2 z3 z4 z5 z6 => R' (z0, z1, z2, z3, z4, z5, z6)) c'.2⟩) (fun a0 a1 a2 a3 a4 a5 a6 ha ia => Or.inl ⟨(a0, a1, a2, a3, a4, a5, a6), ha, fun R' c' => ia c'.1 (fun z0 z1 z2 z3 z4 z5 z6 => R' (z0, z1, z2, z3, z4, z5, z6)) c'.2⟩) (fun a0 ha ia => Or.inr ⟨(fun c => c.2 a0), Or.inr (⟨a0, rfl⟩), ha, fun R' c' => ia c'.1 (fun z0 z1 z2 z3 z4 z5 z6 => R' (z0, z1, z2, z3, z4, z5, z6)) c'.2⟩)) (l_e_makeRaster_50.mp h)
  rcases ho with ⟨a0, a1, a2, a3, a4, a5, rfl⟩ | ⟨a0, rfl⟩
  · exact k_R36 _ _ _ _ _ _ hoc (fun R36' K' => Iff.trans l_e_makeRaster_50 (hi (R36', K')))
  · exact k_K _ hoc (fun R36' K' => Iff.trans l_e_makeRaster_50 (hi (R36', K')))
theorem v_e_makeRaster_50 {x1 : Int32} {x2 : Int32} {x3 : Int32} {x4 : Int32} {x5 : Int32} {x6 : Int32} {S : ms} {R36 : Int32 → Int32 → Int32 → Int32 → Int32 → ms → Prop} {K : ms → Prop} (h : e_makeRaster_50 x1 x2 x3 x4 x5 x6 S R36 K) {G : Prop} (Inv : Int32 → ms → Prop) (h0 : Inv x6 S) (hs : ∀ (yx6 : Int32) (yS : ms) (R : Int32 → Int32 → Int32 → Int32 → Int32 → Int32 → ms → Prop), Inv yx6 yS → b_makeRaster_50 x1 x2 x3 x4 x5 yx6 yS R36 R K → (∃ (zx6 : Int32) (zS : ms), R x1 x2 x3 x4 x5 zx6 zS ∧ Inv zx6 zS) ∨ G) : G := by
  obtain ⟨I, μ, i0, is⟩ := h
  have go : ∀ (n : Nat) (yx6 : Int32) (yS : ms), μ x1 x2 x3 x4 x5 yx6 yS < n → I x1 x2 x3 x4 x5 yx6 yS → Inv yx6 yS → G := by
    intro n
    induction n with
    | zero => intro yx6 yS hy; exact absurd hy (Nat.not_lt_zero _)
    | succ n ih =>
      intro yx6 yS hy hI hV
      rcases hs yx6 yS _ hV (is x1 x2 x3 x4 x5 yx6 yS hI) with ⟨zx6, zS, ⟨hz, hm⟩, hv⟩ | g
      · exact ih zx6 zS (Nat.lt_of_lt_of_le hm (Nat.le_of_lt_succ hy)) hz hv
      · exact g
  exact go _ x6 S (Nat.lt_succ_self _) i0 h0
theorem r_e_makeRaster_50 {x1 : Int32} {x2 : Int32} {x3 : Int32} {x4 : Int32} {x5 : Int32} {x6 : Int32} {S : ms} {R36 : Int32 → Int32 → Int32 → Int32 → Int32 → ms → Prop} {K : ms → Prop} (h : e_makeRaster_50 x1 x2 x3 x4 x5 x6 S R36 K) : b_makeRaster_50 x1 x2 x3 x4 x5 x6 S R36 (fun zx1 zx2 zx3 zx4 zx5 zx6 zS => e_makeRaster_50 zx1 zx2 zx3 zx4 zx5 zx6 zS R36 K) K := by
  obtain ⟨I, μ, i0, is⟩ := h
  exact d_b_makeRaster_50 (is x1 x2 x3 x4 x5 x6 S i0) (fun a0 a1 a2 a3 a4 a5 ha ia => (ia _ _ _).mpr ha) (fun a0 a1 a2 a3 a4 a5 a6 ha ia => (ia _ _ _).mpr ⟨I, μ, ha.1, is⟩) (fun a0 ha ia => (ia _ _ _).mpr ha)
set_option maxHeartbeats 1000000 in
theorem d_b_makeRaster_36 {x1 : Int32} {x2 : Int32} {x3 : Int32} {x4 : Int32} {x5 : Int32} {S : ms} {R36 : Int32 → Int32 → Int32 → Int32 → Int32 → ms → Prop} {K : ms → Prop} (h : b_makeRaster_36 x1 x2 x3 x4 x5 S R36 K) {Q : Prop} (k_R36 : ∀ (a0 : Int32) (a1 : Int32) (a2 : Int32) (a3 : Int32) (a4 : Int32) (a5 : ms), R36 a0 a1 a2 a3 a4 a5 → (∀ (R36' : Int32 → Int32 → Int32 → Int32 → Int32 → ms → Prop) (K' : ms → Prop), b_makeRaster_36 x1 x2 x3 x4 x5 S R36' K' ↔ R36' a0 a1 a2 a3 a4 a5) → Q) (k_K : ∀ (a0 : ms), K a0 → (∀ (R36' : Int32 → Int32 → Int32 → Int32 → Int32 → ms → Prop) (K' : ms → Prop), b_makeRaster_36 x1 x2 x3 x4 x5 S R36' K' ↔ K' a0) → Q) : Q := by
  unfold b_makeRaster_36 at h
  refine d_p_layerHigh h (fun v41 S41 h_2 i_1 => ?_)
  refine dt_p h_2 (fun c_3 h_4 => ?_) (fun c_3 h_4 => ?_)
  ·
    exact k_K _ h_4 (fun _ _ => Iff.trans (i_1 _) (dt_1 c_3 (fun n => n c_3)))
  ·
    exact d_e_makeRaster_50 h_4 (fun a0 a1 a2 a3 a4 a5 h_6 i_5 => k_R36 a0 a1 a2 a3 a4 a5 h_6 (fun _ _ => Iff.trans (i_1 _) (Iff.trans (dt_2 c_3 c_3) (i_5 _ _)))) (fun a0 h_8 i_7 => k_K a0 h_8 (fun _ _ => Iff.trans (i_1 _) (Iff.trans (dt_2 c_3 c_3) (i_7 _ _))))
theorem l_e_makeRaster_36  {x1 : Int32} {x2 : Int32} {x3 : Int32} {x4 : Int32} {x5 : Int32} {S : ms} {K : ms → Prop} : e_makeRaster_36 x1 x2 x3 x4 x5 S K ↔ lpE (C := (ms → Prop)) (fun (y : (Int32) × (Int32) × (Int32) × (Int32) × (Int32) × (ms)) (R : ((Int32) × (Int32) × (Int32) × (Int32) × (Int32) × (ms)) → Prop) (c : (ms → Prop)) => b_makeRaster_36 y.1 y.2.1 y.2.2.1 y.2.2.2.1 y.2.2.2.2.1 y.2.2.2.2.2 (fun z0 z1 z2 z3 z4 z5 => R (z0, z1, z2, z3, z4, z5)) c) (x1, x2, x3, x4, x5, S) K :=
  ⟨fun ⟨I, μ, h0, hs⟩ => ⟨fun t => I t.1 t.2.1 t.2.2.1 t.2.2.2.1 t.2.2.2.2.1 t.2.2.2.2.2, fun t => μ t.1 t.2.1 t.2.2.1 t.2.2.2.1 t.2.2.2.2.1 t.2.2.2.2.2, h0, fun t ht => hs _ _ _ _ _ _ ht⟩, fun ⟨I, μ, h0, hs⟩ => ⟨fun y0 y1 y2 y3 y4 y5 => I (y0, y1, y2, y3, y4, y5), fun y0 y1 y2 y3 y4 y5 => μ (y0, y1, y2, y3, y4, y5), h0, fun y0 y1 y2 y3 y4 y5 hy => hs (y0, y1, y2, y3, y4, y5) hy⟩⟩
set_option maxHeartbeats 1000000 in
theorem d_e_makeRaster_36 {x1 : Int32} {x2 : Int32} {x3 : Int32} {x4 : Int32} {x5 : Int32} {S : ms} {K : ms → Prop} (h : e_makeRaster_36 x1 x2 x3 x4 x5 S K) {Q : Prop} (k_K : ∀ (a0 : ms), K a0 → (∀ (K' : ms → Prop), e_makeRaster_36 x1 x2 x3 x4 x5 S K' ↔ K' a0) → Q) : Q := by
  obtain ⟨o, ho, hoc, hi⟩ := lp_det (C := (ms → Prop)) (b := (fun (y : (Int32) × (Int32) × (Int32) × (Int32) × (Int32) × (ms)) (R : ((Int32) × (Int32) × (Int32) × (Int32) × (Int32) × (ms)) → Prop) (c : (ms → Prop)) => b_makeRaster_36 y.1 y.2.1 y.2.2.1 y.2.2.2.1 y.2.2.2.2.1 y.2.2.2.2.2 (fun z0 z1 z2 z3 z4 z5 => R (z0, z1, z2, z3, z4, z5)) c)) (O := (fun (o : ((ms → Prop)) → Prop) => (∃ (a0 : ms), o = fun c => c a0))) (fun y R c hy => d_b_makeRaster_36 hy (fun a0 a1 a2 a3 a4 a5 ha ia => Or.inl ⟨(a0, a1, a2, a3, a4, a5), ha, fun R' c' => ia (fun z0 z1 z2 z3 z4 z5 => R' (z0, z1, z2, z3, z4, z5)) c'⟩) (fun a0 ha ia => Or.inr ⟨(fun c => c a0), ⟨a0, rfl⟩, ha, fun R' c' => ia (fun z0 z1 z2 z3 z4 z5 => R' (z0, z1, z2, z3, z4, z5)) c'⟩)) (l_e_makeRaster_36.mp h)
  rcases ho with ⟨a0, rfl⟩
  · exact k_K _ hoc (fun K' => Iff.trans l_e_makeRaster_36 (hi K'))
theorem v_e_makeRaster_36 {x1 : Int32} {x2 : Int32} {x3 : Int32} {x4 : Int32} {x5 : Int32} {S : ms} {K : ms → Prop} (h : e_makeRaster_36 x1 x2 x3 x4 x5 S K) {G : Prop} (Inv : Int32 → ms → Prop) (h0 : Inv x5 S) (hs : ∀ (yx5 : Int32) (yS : ms) (R : Int32 → Int32 → Int32 → Int32 → Int32 → ms → Prop), Inv yx5 yS → b_makeRaster_36 x1 x2 x3 x4 yx5 yS R K → (∃ (zx5 : Int32) (zS : ms), R x1 x2 x3 x4 zx5 zS ∧ Inv zx5 zS) ∨ G) : G := by
  obtain ⟨I, μ, i0, is⟩ := h
  have go : ∀ (n : Nat) (yx5 : Int32) (yS : ms), μ x1 x2 x3 x4 yx5 yS < n → I x1 x2 x3 x4 yx5 yS → Inv yx5 yS → G := by
    intro n
    induction n with
    | zero => intro yx5 yS hy; exact absurd hy (Nat.not_lt_zero _)
    | succ n ih =>
      intro yx5 yS hy hI hV
      rcases hs yx5 yS _ hV (is x1 x2 x3 x4 yx5 yS hI) with ⟨zx5, zS, ⟨hz, hm⟩, hv⟩ | g
      · exact ih zx5 zS (Nat.lt_of_lt_of_le hm (Nat.le_of_lt_succ hy)) hz hv
      · exact g
  exact go _ x5 S (Nat.lt_succ_self _) i0 h0
theorem r_e_makeRaster_36 {x1 : Int32} {x2 : Int32} {x3 : Int32} {x4 : Int32} {x5 : Int32} {S : ms} {K : ms → Prop} (h : e_makeRaster_36 x1 x2 x3 x4 x5 S K) : b_makeRaster_36 x1 x2 x3 x4 x5 S (fun zx1 zx2 zx3 zx4 zx5 zS => e_makeRaster_36 zx1 zx2 zx3 zx4 zx5 zS K) K := by
  obtain ⟨I, μ, i0, is⟩ := h
  exact d_b_makeRaster_36 (is x1 x2 x3 x4 x5 S i0) (fun a0 a1 a2 a3 a4 a5 ha ia => (ia _ _).mpr ⟨I, μ, ha.1, is⟩) (fun a0 ha ia => (ia _ _).mpr ha)
set_option maxHeartbeats 1000000 in
theorem d_p_makeRaster {x1 : Int32} {S : ms} {K : ms → Prop} (h : p_makeRaster x1 S K) {Q : Prop} (k_K : ∀ (a0 : ms), K a0 → (∀ (K' : ms → Prop), p_makeRaster x1 S K' ↔ K' a0) → Q) : Q := by
  unfold p_makeRaster at h
  refine d_p_greatest h (fun v3 S3 h_2 i_1 => ?_)
  refine d_p_greatest (And.right (And.right h_2)) (fun v17 S17 h_4 i_3 => ?_)
  exact d_e_makeRaster_36 (And.right (And.right h_4)) (fun a0 h_6 i_5 => k_K a0 h_6 (fun _ => Iff.trans (i_1 _) (Iff.trans (dt_a (And.left h_2)) (Iff.trans (dt_a (And.left (And.right h_2))) (Iff.trans (i_3 _) (Iff.trans (dt_a (And.left h_4)) (Iff.trans (dt_a (And.left (And.right h_4))) (i_5 _))))))))
set_option maxHeartbeats 1000000 in
theorem d_b_makeLevels_224 {x1 : Int32} {x2 : Int32} {x7 : Int32} {s1 : Int32} {s2 : Int32} {S : ms} {R130 : Int32 → Int32 → Int32 → ms → Prop} {K : ms → Prop} (h : b_makeLevels_224 x1 x2 x7 s1 s2 S R130 K) {Q : Prop} (k_R130 : ∀ (a0 : Int32) (a1 : Int32) (a2 : Int32) (a3 : ms), R130 a0 a1 a2 a3 → (∀ (R130' : Int32 → Int32 → Int32 → ms → Prop) (K' : ms → Prop), b_makeLevels_224 x1 x2 x7 s1 s2 S R130' K' ↔ R130' a0 a1 a2 a3) → Q) (k_K : ∀ (a0 : ms), K a0 → (∀ (R130' : Int32 → Int32 → Int32 → ms → Prop) (K' : ms → Prop), b_makeLevels_224 x1 x2 x7 s1 s2 S R130' K' ↔ K' a0) → Q) : Q := by
  unfold b_makeLevels_224 at h
  exact k_R130 _ _ _ _ (And.right h) (fun _ _ => dt_a (And.left h))
set_option maxHeartbeats 1000000 in
theorem d_b_makeLevels_189 {x1 : Int32} {x2 : Int32} {x7 : Int32} {x8 : Int32} {x9 : Int32} {s0 : Int32} {S : ms} {R130 : Int32 → Int32 → Int32 → ms → Prop} {K : ms → Prop} (h : b_makeLevels_189 x1 x2 x7 x8 x9 s0 S R130 K) {Q : Prop} (k_R130 : ∀ (a0 : Int32) (a1 : Int32) (a2 : Int32) (a3 : ms), R130 a0 a1 a2 a3 → (∀ (R130' : Int32 → Int32 → Int32 → ms → Prop) (K' : ms → Prop), b_makeLevels_189 x1 x2 x7 x8 x9 s0 S R130' K' ↔ R130' a0 a1 a2 a3) → Q) (k_K : ∀ (a0 : ms), K a0 → (∀ (R130' : Int32 → Int32 → Int32 → ms → Prop) (K' : ms → Prop), b_makeLevels_189 x1 x2 x7 x8 x9 s0 S R130' K' ↔ K' a0) → Q) : Q := by
  unfold b_makeLevels_189 at h
  refine d_p_levelCell (And.right h) (fun v208 h_2 i_1 => ?_)
  refine dt_p h_2 (fun c_3 h_4 => ?_) (fun c_3 h_4 => ?_)
  ·
    exact d_b_makeLevels_224 h_4 (fun a0 a1 a2 a3 h_6 i_5 => k_R130 a0 a1 a2 a3 h_6 (fun _ _ => Iff.trans (dt_a (And.left h)) (Iff.trans (i_1 _) (Iff.trans (dt_1 c_3 (fun n => n c_3)) (i_5 _ _))))) (fun a0 h_8 i_7 => k_K a0 h_8 (fun _ _ => Iff.trans (dt_a (And.left h)) (Iff.trans (i_1 _) (Iff.trans (dt_1 c_3 (fun n => n c_3)) (i_7 _ _)))))
  ·
    exact d_b_makeLevels_224 h_4 (fun a0 a1 a2 a3 h_10 i_9 => k_R130 a0 a1 a2 a3 h_10 (fun _ _ => Iff.trans (dt_a (And.left h)) (Iff.trans (i_1 _) (Iff.trans (dt_2 c_3 c_3) (i_9 _ _))))) (fun a0 h_12 i_11 => k_K a0 h_12 (fun _ _ => Iff.trans (dt_a (And.left h)) (Iff.trans (i_1 _) (Iff.trans (dt_2 c_3 c_3) (i_11 _ _)))))
set_option maxHeartbeats 1000000 in
theorem d_b_makeLevels_165 {x1 : Int32} {x2 : Int32} {x7 : Int32} {x8 : Int32} {s1 : Int32} {S : ms} {R130 : Int32 → Int32 → Int32 → ms → Prop} {K : ms → Prop} (h : b_makeLevels_165 x1 x2 x7 x8 s1 S R130 K) {Q : Prop} (k_R130 : ∀ (a0 : Int32) (a1 : Int32) (a2 : Int32) (a3 : ms), R130 a0 a1 a2 a3 → (∀ (R130' : Int32 → Int32 → Int32 → ms → Prop) (K' : ms → Prop), b_makeLevels_165 x1 x2 x7 x8 s1 S R130' K' ↔ R130' a0 a1 a2 a3) → Q) (k_K : ∀ (a0 : ms), K a0 → (∀ (R130' : Int32 → Int32 → Int32 → ms → Prop) (K' : ms → Prop), b_makeLevels_165 x1 x2 x7 x8 s1 S R130' K' ↔ K' a0) → Q) : Q := by
  unfold b_makeLevels_165 at h
  refine dt_p (And.right (And.right h)) (fun c_1 h_2 => ?_) (fun c_1 h_2 => ?_)
  ·
    exact d_b_makeLevels_189 h_2 (fun a0 a1 a2 a3 h_4 i_3 => k_R130 a0 a1 a2 a3 h_4 (fun _ _ => Iff.trans (dt_a (And.left h)) (Iff.trans (dt_a (And.left (And.right h))) (Iff.trans (dt_1 c_1 (fun n => n c_1)) (i_3 _ _))))) (fun a0 h_6 i_5 => k_K a0 h_6 (fun _ _ => Iff.trans (dt_a (And.left h)) (Iff.trans (dt_a (And.left (And.right h))) (Iff.trans (dt_1 c_1 (fun n => n c_1)) (i_5 _ _)))))
  ·
    exact d_b_makeLevels_189 h_2 (fun a0 a1 a2 a3 h_8 i_7 => k_R130 a0 a1 a2 a3 h_8 (fun _ _ => Iff.trans (dt_a (And.left h)) (Iff.trans (dt_a (And.left (And.right h))) (Iff.trans (dt_2 c_1 c_1) (i_7 _ _))))) (fun a0 h_10 i_9 => k_K a0 h_10 (fun _ _ => Iff.trans (dt_a (And.left h)) (Iff.trans (dt_a (And.left (And.right h))) (Iff.trans (dt_2 c_1 c_1) (i_9 _ _)))))
set_option maxHeartbeats 1000000 in
theorem d_b_makeLevels_130 {x1 : Int32} {x2 : Int32} {x7 : Int32} {S : ms} {R130 : Int32 → Int32 → Int32 → ms → Prop} {K : ms → Prop} (h : b_makeLevels_130 x1 x2 x7 S R130 K) {Q : Prop} (k_R130 : ∀ (a0 : Int32) (a1 : Int32) (a2 : Int32) (a3 : ms), R130 a0 a1 a2 a3 → (∀ (R130' : Int32 → Int32 → Int32 → ms → Prop) (K' : ms → Prop), b_makeLevels_130 x1 x2 x7 S R130' K' ↔ R130' a0 a1 a2 a3) → Q) (k_K : ∀ (a0 : ms), K a0 → (∀ (R130' : Int32 → Int32 → Int32 → ms → Prop) (K' : ms → Prop), b_makeLevels_130 x1 x2 x7 S R130' K' ↔ K' a0) → Q) : Q := by
  unfold b_makeLevels_130 at h
  refine dt_p h (fun c_1 h_2 => ?_) (fun c_1 h_2 => ?_)
  ·
    exact k_K _ h_2 (fun _ _ => dt_1 c_1 (fun n => n c_1))
  ·
    refine dt_n (And.right (And.right h_2)) (fun c_3 h_4 => ?_) (fun c_3 h_4 => ?_)
    ·
      exact d_b_makeLevels_165 h_4 (fun a0 a1 a2 a3 h_6 i_5 => k_R130 a0 a1 a2 a3 h_6 (fun _ _ => Iff.trans (dt_2 c_1 c_1) (Iff.trans (dt_a (And.left h_2)) (Iff.trans (dt_a (And.left (And.right h_2))) (Iff.trans (dt_1 c_3 c_3) (i_5 _ _)))))) (fun a0 h_8 i_7 => k_K a0 h_8 (fun _ _ => Iff.trans (dt_2 c_1 c_1) (Iff.trans (dt_a (And.left h_2)) (Iff.trans (dt_a (And.left (And.right h_2))) (Iff.trans (dt_1 c_3 c_3) (i_7 _ _))))))
    ·
      exact d_b_makeLevels_165 h_4 (fun a0 a1 a2 a3 h_10 i_9 => k_R130 a0 a1 a2 a3 h_10 (fun _ _ => Iff.trans (dt_2 c_1 c_1) (Iff.trans (dt_a (And.left h_2)) (Iff.trans (dt_a (And.left (And.right h_2))) (Iff.trans (dt_2 (fun n => n c_3) c_3) (i_9 _ _)))))) (fun a0 h_12 i_11 => k_K a0 h_12 (fun _ _ => Iff.trans (dt_2 c_1 c_1) (Iff.trans (dt_a (And.left h_2)) (Iff.trans (dt_a (And.left (And.right h_2))) (Iff.trans (dt_2 (fun n => n c_3) c_3) (i_11 _ _))))))
theorem l_e_makeLevels_130  {x1 : Int32} {x2 : Int32} {x7 : Int32} {S : ms} {K : ms → Prop} : e_makeLevels_130 x1 x2 x7 S K ↔ lpE (C := (ms → Prop)) (fun (y : (Int32) × (Int32) × (Int32) × (ms)) (R : ((Int32) × (Int32) × (Int32) × (ms)) → Prop) (c : (ms → Prop)) => b_makeLevels_130 y.1 y.2.1 y.2.2.1 y.2.2.2 (fun z0 z1 z2 z3 => R (z0, z1, z2, z3)) c) (x1, x2, x7, S) K :=
  ⟨fun ⟨I, μ, h0, hs⟩ => ⟨fun t => I t.1 t.2.1 t.2.2.1 t.2.2.2, fun t => μ t.1 t.2.1 t.2.2.1 t.2.2.2, h0, fun t ht => hs _ _ _ _ ht⟩, fun ⟨I, μ, h0, hs⟩ => ⟨fun y0 y1 y2 y3 => I (y0, y1, y2, y3), fun y0 y1 y2 y3 => μ (y0, y1, y2, y3), h0, fun y0 y1 y2 y3 hy => hs (y0, y1, y2, y3) hy⟩⟩
set_option maxHeartbeats 1000000 in
theorem d_e_makeLevels_130 {x1 : Int32} {x2 : Int32} {x7 : Int32} {S : ms} {K : ms → Prop} (h : e_makeLevels_130 x1 x2 x7 S K) {Q : Prop} (k_K : ∀ (a0 : ms), K a0 → (∀ (K' : ms → Prop), e_makeLevels_130 x1 x2 x7 S K' ↔ K' a0) → Q) : Q := by
  obtain ⟨o, ho, hoc, hi⟩ := lp_det (C := (ms → Prop)) (b := (fun (y : (Int32) × (Int32) × (Int32) × (ms)) (R : ((Int32) × (Int32) × (Int32) × (ms)) → Prop) (c : (ms → Prop)) => b_makeLevels_130 y.1 y.2.1 y.2.2.1 y.2.2.2 (fun z0 z1 z2 z3 => R (z0, z1, z2, z3)) c)) (O := (fun (o : ((ms → Prop)) → Prop) => (∃ (a0 : ms), o = fun c => c a0))) (fun y R c hy => d_b_makeLevels_130 hy (fun a0 a1 a2 a3 ha ia => Or.inl ⟨(a0, a1, a2, a3), ha, fun R' c' => ia (fun z0 z1 z2 z3 => R' (z0, z1, z2, z3)) c'⟩) (fun a0 ha ia => Or.inr ⟨(fun c => c a0), ⟨a0, rfl⟩, ha, fun R' c' => ia (fun z0 z1 z2 z3 => R' (z0, z1, z2, z3)) c'⟩)) (l_e_makeLevels_130.mp h)
  rcases ho with ⟨a0, rfl⟩
  · exact k_K _ hoc (fun K' => Iff.trans l_e_makeLevels_130 (hi K'))
theorem v_e_makeLevels_130 {x1 : Int32} {x2 : Int32} {x7 : Int32} {S : ms} {K : ms → Prop} (h : e_makeLevels_130 x1 x2 x7 S K) {G : Prop} (Inv : Int32 → ms → Prop) (h0 : Inv x7 S) (hs : ∀ (yx7 : Int32) (yS : ms) (R : Int32 → Int32 → Int32 → ms → Prop), Inv yx7 yS → b_makeLevels_130 x1 x2 yx7 yS R K → (∃ (zx7 : Int32) (zS : ms), R x1 x2 zx7 zS ∧ Inv zx7 zS) ∨ G) : G := by
  obtain ⟨I, μ, i0, is⟩ := h
  have go : ∀ (n : Nat) (yx7 : Int32) (yS : ms), μ x1 x2 yx7 yS < n → I x1 x2 yx7 yS → Inv yx7 yS → G := by
    intro n
    induction n with
    | zero => intro yx7 yS hy; exact absurd hy (Nat.not_lt_zero _)
    | succ n ih =>
      intro yx7 yS hy hI hV
      rcases hs yx7 yS _ hV (is x1 x2 yx7 yS hI) with ⟨zx7, zS, ⟨hz, hm⟩, hv⟩ | g
      · exact ih zx7 zS (Nat.lt_of_lt_of_le hm (Nat.le_of_lt_succ hy)) hz hv
      · exact g
  exact go _ x7 S (Nat.lt_succ_self _) i0 h0
theorem r_e_makeLevels_130 {x1 : Int32} {x2 : Int32} {x7 : Int32} {S : ms} {K : ms → Prop} (h : e_makeLevels_130 x1 x2 x7 S K) : b_makeLevels_130 x1 x2 x7 S (fun zx1 zx2 zx7 zS => e_makeLevels_130 zx1 zx2 zx7 zS K) K := by
  obtain ⟨I, μ, i0, is⟩ := h
  exact d_b_makeLevels_130 (is x1 x2 x7 S i0) (fun a0 a1 a2 a3 ha ia => (ia _ _).mpr ⟨I, μ, ha.1, is⟩) (fun a0 ha ia => (ia _ _).mpr ha)
set_option maxHeartbeats 1000000 in
theorem d_b_makeLevels_114 {x1 : Int32} {x2 : Int32} {x3 : Int32} {x4 : Int32} {x5 : Int32} {x6 : Int32} {x7 : Int32} {s1 : Int32} {s3 : Int32} {s4 : Int32} {S : ms} {R48 : Int32 → Int32 → Int32 → Int32 → Int32 → Int32 → Int32 → ms → Prop} {K : ms → Prop} (h : b_makeLevels_114 x1 x2 x3 x4 x5 x6 x7 s1 s3 s4 S R48 K) {Q : Prop} (k_R48 : ∀ (a0 : Int32) (a1 : Int32) (a2 : Int32) (a3 : Int32) (a4 : Int32) (a5 : Int32) (a6 : Int32) (a7 : ms), R48 a0 a1 a2 a3 a4 a5 a6 a7 → (∀ (R48' : Int32 → Int32 → Int32 → Int32 → Int32 → Int32 → Int32 → ms → Prop) (K' : ms → Prop), b_makeLevels_114 x1 x2 x3 x4 x5 x6 x7 s1 s3 s4 S R48' K' ↔ R48' a0 a1 a2 a3 a4 a5 a6 a7) → Q) (k_K : ∀ (a0 : ms), K a0 → (∀ (R48' : Int32 → Int32 → Int32 → Int32 → Int32 → Int32 → Int32 → ms → Prop) (K' : ms → Prop), b_makeLevels_114 x1 x2 x3 x4 x5 x6 x7 s1 s3 s4 S R48' K' ↔ K' a0) → Q) : Q := by
  unfold b_makeLevels_114 at h
  exact k_R48 _ _ _ _ _ _ _ _ (And.right (And.right h)) (fun _ _ => Iff.trans (dt_a (And.left h)) (dt_a (And.left (And.right h))))
set_option maxHeartbeats 1000000 in
theorem d_b_makeLevels_101 {x1 : Int32} {x2 : Int32} {x3 : Int32} {x4 : Int32} {x5 : Int32} {x6 : Int32} {x7 : Int32} {x8 : Int32} {s1 : Int32} {s3 : Int32} {s4 : Int32} {S : ms} {R48 : Int32 → Int32 → Int32 → Int32 → Int32 → Int32 → Int32 → ms → Prop} {K : ms → Prop} (h : b_makeLevels_101 x1 x2 x3 x4 x5 x6 x7 x8 s1 s3 s4 S R48 K) {Q : Prop} (k_R48 : ∀ (a0 : Int32) (a1 : Int32) (a2 : Int32) (a3 : Int32) (a4 : Int32) (a5 : Int32) (a6 : Int32) (a7 : ms), R48 a0 a1 a2 a3 a4 a5 a6 a7 → (∀ (R48' : Int32 → Int32 → Int32 → Int32 → Int32 → Int32 → Int32 → ms → Prop) (K' : ms → Prop), b_makeLevels_101 x1 x2 x3 x4 x5 x6 x7 x8 s1 s3 s4 S R48' K' ↔ R48' a0 a1 a2 a3 a4 a5 a6 a7) → Q) (k_K : ∀ (a0 : ms), K a0 → (∀ (R48' : Int32 → Int32 → Int32 → Int32 → Int32 → Int32 → Int32 → ms → Prop) (K' : ms → Prop), b_makeLevels_101 x1 x2 x3 x4 x5 x6 x7 x8 s1 s3 s4 S R48' K' ↔ K' a0) → Q) : Q := by
  unfold b_makeLevels_101 at h
  refine dt_p h (fun c_1 h_2 => ?_) (fun c_1 h_2 => ?_)
  ·
    exact d_b_makeLevels_114 h_2 (fun a0 a1 a2 a3 a4 a5 a6 a7 h_4 i_3 => k_R48 a0 a1 a2 a3 a4 a5 a6 a7 h_4 (fun _ _ => Iff.trans (dt_1 c_1 (fun n => n c_1)) (i_3 _ _))) (fun a0 h_6 i_5 => k_K a0 h_6 (fun _ _ => Iff.trans (dt_1 c_1 (fun n => n c_1)) (i_5 _ _)))
  ·
    exact d_b_makeLevels_114 h_2 (fun a0 a1 a2 a3 a4 a5 a6 a7 h_8 i_7 => k_R48 a0 a1 a2 a3 a4 a5 a6 a7 h_8 (fun _ _ => Iff.trans (dt_2 c_1 c_1) (i_7 _ _))) (fun a0 h_10 i_9 => k_K a0 h_10 (fun _ _ => Iff.trans (dt_2 c_1 c_1) (i_9 _ _)))
set_option maxHeartbeats 1000000 in
theorem d_b_makeLevels_48 {x1 : Int32} {x2 : Int32} {x3 : Int32} {x4 : Int32} {x5 : Int32} {x6 : Int32} {x7 : Int32} {S : ms} {R48 : Int32 → Int32 → Int32 → Int32 → Int32 → Int32 → Int32 → ms → Prop} {K : ms → Prop} (h : b_makeLevels_48 x1 x2 x3 x4 x5 x6 x7 S R48 K) {Q : Prop} (k_R48 : ∀ (a0 : Int32) (a1 : Int32) (a2 : Int32) (a3 : Int32) (a4 : Int32) (a5 : Int32) (a6 : Int32) (a7 : ms), R48 a0 a1 a2 a3 a4 a5 a6 a7 → (∀ (R48' : Int32 → Int32 → Int32 → Int32 → Int32 → Int32 → Int32 → ms → Prop) (K' : ms → Prop), b_makeLevels_48 x1 x2 x3 x4 x5 x6 x7 S R48' K' ↔ R48' a0 a1 a2 a3 a4 a5 a6 a7) → Q) (k_K : ∀ (a0 : ms), K a0 → (∀ (R48' : Int32 → Int32 → Int32 → Int32 → Int32 → Int32 → Int32 → ms → Prop) (K' : ms → Prop), b_makeLevels_48 x1 x2 x3 x4 x5 x6 x7 S R48' K' ↔ K' a0) → Q) : Q := by
  unfold b_makeLevels_48 at h
  refine dt_p h (fun c_1 h_2 => ?_) (fun c_1 h_2 => ?_)
  ·
    refine d_p_toWeights h_2 (fun S124 h_4 i_3 => ?_)
    exact d_e_makeLevels_130 h_4 (fun a0 h_6 i_5 => k_K a0 h_6 (fun _ _ => Iff.trans (dt_1 c_1 (fun n => n c_1)) (Iff.trans (i_3 _) (i_5 _))))
  ·
    refine dt_p h_2 (fun c_7 h_8 => ?_) (fun c_7 h_8 => ?_)
    ·
      exact d_b_makeLevels_101 h_8 (fun a0 a1 a2 a3 a4 a5 a6 a7 h_10 i_9 => k_R48 a0 a1 a2 a3 a4 a5 a6 a7 h_10 (fun _ _ => Iff.trans (dt_2 c_1 c_1) (Iff.trans (dt_1 c_7 (fun n => n c_7)) (i_9 _ _)))) (fun a0 h_12 i_11 => k_K a0 h_12 (fun _ _ => Iff.trans (dt_2 c_1 c_1) (Iff.trans (dt_1 c_7 (fun n => n c_7)) (i_11 _ _))))
    ·
      exact d_b_makeLevels_101 h_8 (fun a0 a1 a2 a3 a4 a5 a6 a7 h_14 i_13 => k_R48 a0 a1 a2 a3 a4 a5 a6 a7 h_14 (fun _ _ => Iff.trans (dt_2 c_1 c_1) (Iff.trans (dt_2 c_7 c_7) (i_13 _ _)))) (fun a0 h_16 i_15 => k_K a0 h_16 (fun _ _ => Iff.trans (dt_2 c_1 c_1) (Iff.trans (dt_2 c_7 c_7) (i_15 _ _))))
theorem l_e_makeLevels_48  {x1 : Int32} {x2 : Int32} {x3 : Int32} {x4 : Int32} {x5 : Int32} {x6 : Int32} {x7 : Int32} {S : ms} {K : ms → Prop} : e_makeLevels_48 x1 x2 x3 x4 x5 x6 x7 S K ↔ lpE (C := (ms → Prop)) (fun (y : (Int32) × (Int32) × (Int32) × (Int32) × (Int32) × (Int32) × (Int32) × (ms)) (R : ((Int32) × (Int32) × (Int32) × (Int32) × (Int32) × (Int32) × (Int32) × (ms)) → Prop) (c : (ms → Prop)) => b_makeLevels_48 y.1 y.2.1 y.2.2.1 y.2.2.2.1 y.2.2.2.2.1 y.2.2.2.2.2.1 y.2.2.2.2.2.2.1 y.2.2.2.2.2.2.2 (fun z0 z1 z2 z3 z4 z5 z6 z7 => R (z0, z1, z2, z3, z4, z5, z6, z7)) c) (x1, x2, x3, x4, x5, x6, x7, S) K :=
  ⟨fun ⟨I, μ, h0, hs⟩ => ⟨fun t => I t.1 t.2.1 t.2.2.1 t.2.2.2.1 t.2.2.2.2.1 t.2.2.2.2.2.1 t.2.2.2.2.2.2.1 t.2.2.2.2.2.2.2, fun t => μ t.1 t.2.1 t.2.2.1 t.2.2.2.1 t.2.2.2.2.1 t.2.2.2.2.2.1 t.2.2.2.2.2.2.1 t.2.2.2.2.2.2.2, h0, fun t ht => hs _ _ _ _ _ _ _ _ ht⟩, fun ⟨I, μ, h0, hs⟩ => ⟨fun y0 y1 y2 y3 y4 y5 y6 y7 => I (y0, y1, y2, y3, y4, y5, y6, y7), fun y0 y1 y2 y3 y4 y5 y6 y7 => μ (y0, y1, y2, y3, y4, y5, y6, y7), h0, fun y0 y1 y2 y3 y4 y5 y6 y7 hy => hs (y0, y1, y2, y3, y4, y5, y6, y7) hy⟩⟩
set_option maxHeartbeats 1000000 in
theorem d_e_makeLevels_48 {x1 : Int32} {x2 : Int32} {x3 : Int32} {x4 : Int32} {x5 : Int32} {x6 : Int32} {x7 : Int32} {S : ms} {K : ms → Prop} (h : e_makeLevels_48 x1 x2 x3 x4 x5 x6 x7 S K) {Q : Prop} (k_K : ∀ (a0 : ms), K a0 → (∀ (K' : ms → Prop), e_makeLevels_48 x1 x2 x3 x4 x5 x6 x7 S K' ↔ K' a0) → Q) : Q := by
  obtain ⟨o, ho, hoc, hi⟩ := lp_det (C := (ms → Prop)) (b := (fun (y : (Int32) × (Int32) × (Int32) × (Int32) × (Int32) × (Int32) × (Int32) × (ms)) (R : ((Int32) × (Int32) × (Int32) × (Int32) × (Int32) × (Int32) × (Int32) × (ms)) → Prop) (c : (ms → Prop)) => b_makeLevels_48 y.1 y.2.1 y.2.2.1 y.2.2.2.1 y.2.2.2.2.1 y.2.2.2.2.2.1 y.2.2.2.2.2.2.1 y.2.2.2.2.2.2.2 (fun z0 z1 z2 z3 z4 z5 z6 z7 => R (z0, z1, z2, z3, z4, z5, z6, z7)) c)) (O := (fun (o : ((ms → Prop)) → Prop) => (∃ (a0 : ms), o = fun c => c a0))) (fun y R c hy => d_b_makeLevels_48 hy (fun a0 a1 a2 a3 a4 a5 a6 a7 ha ia => Or.inl ⟨(a0, a1, a2, a3, a4, a5, a6, a7), ha, fun R' c' => ia (fun z0 z1 z2 z3 z4 z5 z6 z7 => R' (z0, z1, z2, z3, z4, z5, z6, z7)) c'⟩) (fun a0 ha ia => Or.inr ⟨(fun c => c a0), ⟨a0, rfl⟩, ha, fun R' c' => ia (fun z0 z1 z2 z3 z4 z5 z6 z7 => R' (z0, z1, z2, z3, z4, z5, z6, z7)) c'⟩)) (l_e_makeLevels_48.mp h)
  rcases ho with ⟨a0, rfl⟩
  · exact k_K _ hoc (fun K' => Iff.trans l_e_makeLevels_48 (hi K'))
theorem v_e_makeLevels_48 {x1 : Int32} {x2 : Int32} {x3 : Int32} {x4 : Int32} {x5 : Int32} {x6 : Int32} {x7 : Int32} {S : ms} {K : ms → Prop} (h : e_makeLevels_48 x1 x2 x3 x4 x5 x6 x7 S K) {G : Prop} (Inv : Int32 → ms → Prop) (h0 : Inv x7 S) (hs : ∀ (yx7 : Int32) (yS : ms) (R : Int32 → Int32 → Int32 → Int32 → Int32 → Int32 → Int32 → ms → Prop), Inv yx7 yS → b_makeLevels_48 x1 x2 x3 x4 x5 x6 yx7 yS R K → (∃ (zx7 : Int32) (zS : ms), R x1 x2 x3 x4 x5 x6 zx7 zS ∧ Inv zx7 zS) ∨ G) : G := by
  obtain ⟨I, μ, i0, is⟩ := h
  have go : ∀ (n : Nat) (yx7 : Int32) (yS : ms), μ x1 x2 x3 x4 x5 x6 yx7 yS < n → I x1 x2 x3 x4 x5 x6 yx7 yS → Inv yx7 yS → G := by
    intro n
    induction n with
    | zero => intro yx7 yS hy; exact absurd hy (Nat.not_lt_zero _)
    | succ n ih =>
      intro yx7 yS hy hI hV
      rcases hs yx7 yS _ hV (is x1 x2 x3 x4 x5 x6 yx7 yS hI) with ⟨zx7, zS, ⟨hz, hm⟩, hv⟩ | g
      · exact ih zx7 zS (Nat.lt_of_lt_of_le hm (Nat.le_of_lt_succ hy)) hz hv
      · exact g
  exact go _ x7 S (Nat.lt_succ_self _) i0 h0
theorem r_e_makeLevels_48 {x1 : Int32} {x2 : Int32} {x3 : Int32} {x4 : Int32} {x5 : Int32} {x6 : Int32} {x7 : Int32} {S : ms} {K : ms → Prop} (h : e_makeLevels_48 x1 x2 x3 x4 x5 x6 x7 S K) : b_makeLevels_48 x1 x2 x3 x4 x5 x6 x7 S (fun zx1 zx2 zx3 zx4 zx5 zx6 zx7 zS => e_makeLevels_48 zx1 zx2 zx3 zx4 zx5 zx6 zx7 zS K) K := by
  obtain ⟨I, μ, i0, is⟩ := h
  exact d_b_makeLevels_48 (is x1 x2 x3 x4 x5 x6 x7 S i0) (fun a0 a1 a2 a3 a4 a5 a6 a7 ha ia => (ia _ _).mpr ⟨I, μ, ha.1, is⟩) (fun a0 ha ia => (ia _ _).mpr ha)
set_option maxHeartbeats 1000000 in
theorem d_p_makeLevels {x1 : Int32} {x2 : Int32} {S : ms} {K : ms → Prop} (h : p_makeLevels x1 x2 S K) {Q : Prop} (k_K : ∀ (a0 : ms), K a0 → (∀ (K' : ms → Prop), p_makeLevels x1 x2 S K' ↔ K' a0) → Q) : Q := by
  unfold p_makeLevels at h
  refine d_p_layerWide h (fun v3 S3 h_2 i_1 => ?_)
  refine d_p_layerHigh h_2 (fun v12 S12 h_4 i_3 => ?_)
  exact d_e_makeLevels_48 (And.right (And.right (And.right (And.right h_4)))) (fun a0 h_6 i_5 => k_K a0 h_6 (fun _ => Iff.trans (i_1 _) (Iff.trans (i_3 _) (Iff.trans (dt_a (And.left h_4)) (Iff.trans (dt_a (And.left (And.right h_4))) (Iff.trans (dt_a (And.left (And.right (And.right h_4)))) (Iff.trans (dt_a (And.left (And.right (And.right (And.right h_4))))) (i_5 _))))))))
set_option maxHeartbeats 1000000 in
theorem d_b_makeCode_646 {x1 : Int32} {x4 : Int32} {x5 : Int32} {x6 : Int32} {S : ms} {R586 : Int32 → Int32 → Int32 → ms → Prop} {R602 : Int32 → Int32 → Int32 → Int32 → ms → Prop} {K : ms → Prop} (h : b_makeCode_646 x1 x4 x5 x6 S R586 R602 K) {Q : Prop} (k_R586 : ∀ (a0 : Int32) (a1 : Int32) (a2 : Int32) (a3 : ms), R586 a0 a1 a2 a3 → (∀ (R586' : Int32 → Int32 → Int32 → ms → Prop) (R602' : Int32 → Int32 → Int32 → Int32 → ms → Prop) (K' : ms → Prop), b_makeCode_646 x1 x4 x5 x6 S R586' R602' K' ↔ R586' a0 a1 a2 a3) → Q) (k_R602 : ∀ (a0 : Int32) (a1 : Int32) (a2 : Int32) (a3 : Int32) (a4 : ms), R602 a0 a1 a2 a3 a4 → (∀ (R586' : Int32 → Int32 → Int32 → ms → Prop) (R602' : Int32 → Int32 → Int32 → Int32 → ms → Prop) (K' : ms → Prop), b_makeCode_646 x1 x4 x5 x6 S R586' R602' K' ↔ R602' a0 a1 a2 a3 a4) → Q) (k_K : ∀ (a0 : ms), K a0 → (∀ (R586' : Int32 → Int32 → Int32 → ms → Prop) (R602' : Int32 → Int32 → Int32 → Int32 → ms → Prop) (K' : ms → Prop), b_makeCode_646 x1 x4 x5 x6 S R586' R602' K' ↔ K' a0) → Q) : Q := by
  unfold b_makeCode_646 at h
  exact k_R602 _ _ _ _ _ h (fun _ _ _ => Iff.rfl)
set_option maxHeartbeats 1000000 in
theorem d_b_makeCode_602 {x1 : Int32} {x4 : Int32} {x5 : Int32} {x6 : Int32} {S : ms} {R586 : Int32 → Int32 → Int32 → ms → Prop} {R602 : Int32 → Int32 → Int32 → Int32 → ms → Prop} {K : ms → Prop} (h : b_makeCode_602 x1 x4 x5 x6 S R586 R602 K) {Q : Prop} (k_R586 : ∀ (a0 : Int32) (a1 : Int32) (a2 : Int32) (a3 : ms), R586 a0 a1 a2 a3 → (∀ (R586' : Int32 → Int32 → Int32 → ms → Prop) (R602' : Int32 → Int32 → Int32 → Int32 → ms → Prop) (K' : ms → Prop), b_makeCode_602 x1 x4 x5 x6 S R586' R602' K' ↔ R586' a0 a1 a2 a3) → Q) (k_R602 : ∀ (a0 : Int32) (a1 : Int32) (a2 : Int32) (a3 : Int32) (a4 : ms), R602 a0 a1 a2 a3 a4 → (∀ (R586' : Int32 → Int32 → Int32 → ms → Prop) (R602' : Int32 → Int32 → Int32 → Int32 → ms → Prop) (K' : ms → Prop), b_makeCode_602 x1 x4 x5 x6 S R586' R602' K' ↔ R602' a0 a1 a2 a3 a4) → Q) (k_K : ∀ (a0 : ms), K a0 → (∀ (R586' : Int32 → Int32 → Int32 → ms → Prop) (R602' : Int32 → Int32 → Int32 → Int32 → ms → Prop) (K' : ms → Prop), b_makeCode_602 x1 x4 x5 x6 S R586' R602' K' ↔ K' a0) → Q) : Q := by
  unfold b_makeCode_602 at h
  refine dt_p h (fun c_1 h_2 => ?_) (fun c_1 h_2 => ?_)
  ·
    exact k_R586 _ _ _ _ h_2 (fun _ _ _ => dt_1 c_1 (fun n => n c_1))
  ·
    refine dt_n (And.right h_2) (fun c_3 h_4 => ?_) (fun c_3 h_4 => ?_)
    ·
      exact d_b_makeCode_646 h_4 (fun a0 a1 a2 a3 h_6 i_5 => k_R586 a0 a1 a2 a3 h_6 (fun _ _ _ => Iff.trans (dt_2 c_1 c_1) (Iff.trans (dt_a (And.left h_2)) (Iff.trans (dt_1 c_3 c_3) (i_5 _ _ _))))) (fun a0 a1 a2 a3 a4 h_8 i_7 => k_R602 a0 a1 a2 a3 a4 h_8 (fun _ _ _ => Iff.trans (dt_2 c_1 c_1) (Iff.trans (dt_a (And.left h_2)) (Iff.trans (dt_1 c_3 c_3) (i_7 _ _ _))))) (fun a0 h_10 i_9 => k_K a0 h_10 (fun _ _ _ => Iff.trans (dt_2 c_1 c_1) (Iff.trans (dt_a (And.left h_2)) (Iff.trans (dt_1 c_3 c_3) (i_9 _ _ _)))))
    ·
      exact d_b_makeCode_646 (And.right h_4) (fun a0 a1 a2 a3 h_12 i_11 => k_R586 a0 a1 a2 a3 h_12 (fun _ _ _ => Iff.trans (dt_2 c_1 c_1) (Iff.trans (dt_a (And.left h_2)) (Iff.trans (dt_2 (fun n => n c_3) c_3) (Iff.trans (dt_a (And.left h_4)) (i_11 _ _ _)))))) (fun a0 a1 a2 a3 a4 h_14 i_13 => k_R602 a0 a1 a2 a3 a4 h_14 (fun _ _ _ => Iff.trans (dt_2 c_1 c_1) (Iff.trans (dt_a (And.left h_2)) (Iff.trans (dt_2 (fun n => n c_3) c_3) (Iff.trans (dt_a (And.left h_4)) (i_13 _ _ _)))))) (fun a0 h_16 i_15 => k_K a0 h_16 (fun _ _ _ => Iff.trans (dt_2 c_1 c_1) (Iff.trans (dt_a (And.left h_2)) (Iff.trans (dt_2 (fun n => n c_3) c_3) (Iff.trans (dt_a (And.left h_4)) (i_15 _ _ _))))))
theorem l_e_makeCode_602  {x1 : Int32} {x4 : Int32} {x5 : Int32} {x6 : Int32} {S : ms} {R586 : Int32 → Int32 → Int32 → ms → Prop} {K : ms → Prop} : e_makeCode_602 x1 x4 x5 x6 S R586 K ↔ lpE (C := (Int32 → Int32 → Int32 → ms → Prop) × (ms → Prop)) (fun (y : (Int32) × (Int32) × (Int32) × (Int32) × (ms)) (R : ((Int32) × (Int32) × (Int32) × (Int32) × (ms)) → Prop) (c : (Int32 → Int32 → Int32 → ms → Prop) × (ms → Prop)) => b_makeCode_602 y.1 y.2.1 y.2.2.1 y.2.2.2.1 y.2.2.2.2 c.1 (fun z0 z1 z2 z3 z4 => R (z0, z1, z2, z3, z4)) c.2) (x1, x4, x5, x6, S) (R586, K) :=
  ⟨fun ⟨I, μ, h0, hs⟩ => ⟨fun t => I t.1 t.2.1 t.2.2.1 t.2.2.2.1 t.2.2.2.2, fun t => μ t.1 t.2.1 t.2.2.1 t.2.2.2.1 t.2.2.2.2, h0, fun t ht => hs _ _ _ _ _ ht⟩, fun ⟨I, μ, h0, hs⟩ => ⟨fun y0 y1 y2 y3 y4 => I (y0, y1, y2, y3, y4), fun y0 y1 y2 y3 y4 => μ (y0, y1, y2, y3, y4), h0, fun y0 y1 y2 y3 y4 hy => hs (y0, y1, y2, y3, y4) hy⟩⟩
set_option maxHeartbeats 1000000 in
theorem d_e_makeCode_602 {x1 : Int32} {x4 : Int32} {x5 : Int32} {x6 : Int32} {S : ms} {R586 : Int32 → Int32 → Int32 → ms → Prop} {K : ms → Prop} (h : e_makeCode_602 x1 x4 x5 x6 S R586 K) {Q : Prop} (k_R586 : ∀ (a0 : Int32) (a1 : Int32) (a2 : Int32) (a3 : ms), R586 a0 a1 a2 a3 → (∀ (R586' : Int32 → Int32 → Int32 → ms → Prop) (K' : ms → Prop), e_makeCode_602 x1 x4 x5 x6 S R586' K' ↔ R586' a0 a1 a2 a3) → Q) (k_K : ∀ (a0 : ms), K a0 → (∀ (R586' : Int32 → Int32 → Int32 → ms → Prop) (K' : ms → Prop), e_makeCode_602 x1 x4 x5 x6 S R586' K' ↔ K' a0) → Q) : Q := by
  obtain ⟨o, ho, hoc, hi⟩ := lp_det (C := (Int32 → Int32 → Int32 → ms → Prop) × (ms → Prop)) (b := (fun (y : (Int32) × (Int32) × (Int32) × (Int32) × (ms)) (R : ((Int32) × (Int32) × (Int32) × (Int32) × (ms)) → Prop) (c : (Int32 → Int32 → Int32 → ms → Prop) × (ms → Prop)) => b_makeCode_602 y.1 y.2.1 y.2.2.1 y.2.2.2.1 y.2.2.2.2 c.1 (fun z0 z1 z2 z3 z4 => R (z0, z1, z2, z3, z4)) c.2)) (O := (fun (o : ((Int32 → Int32 → Int32 → ms → Prop) × (ms → Prop)) → Prop) => (∃ (a0 : Int32) (a1 : Int32) (a2 : Int32) (a3 : ms), o = fun c => c.1 a0 a1 a2 a3) ∨ (∃ (a0 : ms), o = fun c => c.2 a0))) (fun y R c hy => d_b_makeCode_602 hy (fun a0 a1 a2 a3 ha ia => Or.inr ⟨(fun c => c.1 a0 a1 a2 a3), Or.inl ⟨a0, a1, a2, a3, rfl⟩, ha, fun R' c' => ia c'.1 (fun z0 z1 z2 z3 z4 => R' (z0, z1, z2, z3, z4)) c'.2⟩) (fun a0 a1 a2 a3 a4 ha ia => Or.inl ⟨(a0, a1, a2, a3, a4), ha, fun R' c' => ia c'.1 (fun z0 z1 z2 z3 z4 => R' (z0, z1, z2, z3, z4)) c'.2⟩) (fun a0 ha ia => Or.inr ⟨(fun c => c.2 a0), Or.inr (⟨a0, rfl⟩), ha, fun R' c' => ia c'.1 (fun z0 z1 z2 z3 z4 => R' (z0, z1, z2, z3, z4)) c'.2⟩)) (l_e_makeCode_602.mp h)
  rcases ho with ⟨a0, a1, a2, a3, rfl⟩ | ⟨a0, rfl⟩
  · exact k_R586 _ _ _ _ hoc (fun R586' K' => Iff.trans l_e_makeCode_602 (hi (R586', K')))
  · exact k_K _ hoc (fun R586' K' => Iff.trans l_e_makeCode_602 (hi (R586', K')))
theorem v_e_makeCode_602 {x1 : Int32} {x4 : Int32} {x5 : Int32} {x6 : Int32} {S : ms} {R586 : Int32 → Int32 → Int32 → ms → Prop} {K : ms → Prop} (h : e_makeCode_602 x1 x4 x5 x6 S R586 K) {G : Prop} (Inv : Int32 → Int32 → ms → Prop) (h0 : Inv x4 x6 S) (hs : ∀ (yx4 : Int32) (yx6 : Int32) (yS : ms) (R : Int32 → Int32 → Int32 → Int32 → ms → Prop), Inv yx4 yx6 yS → b_makeCode_602 x1 yx4 x5 yx6 yS R586 R K → (∃ (zx4 : Int32) (zx6 : Int32) (zS : ms), R x1 zx4 x5 zx6 zS ∧ Inv zx4 zx6 zS) ∨ G) : G := by
  obtain ⟨I, μ, i0, is⟩ := h
  have go : ∀ (n : Nat) (yx4 : Int32) (yx6 : Int32) (yS : ms), μ x1 yx4 x5 yx6 yS < n → I x1 yx4 x5 yx6 yS → Inv yx4 yx6 yS → G := by
    intro n
    induction n with
    | zero => intro yx4 yx6 yS hy; exact absurd hy (Nat.not_lt_zero _)
    | succ n ih =>
      intro yx4 yx6 yS hy hI hV
      rcases hs yx4 yx6 yS _ hV (is x1 yx4 x5 yx6 yS hI) with ⟨zx4, zx6, zS, ⟨hz, hm⟩, hv⟩ | g
      · exact ih zx4 zx6 zS (Nat.lt_of_lt_of_le hm (Nat.le_of_lt_succ hy)) hz hv
      · exact g
  exact go _ x4 x6 S (Nat.lt_succ_self _) i0 h0
theorem r_e_makeCode_602 {x1 : Int32} {x4 : Int32} {x5 : Int32} {x6 : Int32} {S : ms} {R586 : Int32 → Int32 → Int32 → ms → Prop} {K : ms → Prop} (h : e_makeCode_602 x1 x4 x5 x6 S R586 K) : b_makeCode_602 x1 x4 x5 x6 S R586 (fun zx1 zx4 zx5 zx6 zS => e_makeCode_602 zx1 zx4 zx5 zx6 zS R586 K) K := by
  obtain ⟨I, μ, i0, is⟩ := h
  exact d_b_makeCode_602 (is x1 x4 x5 x6 S i0) (fun a0 a1 a2 a3 ha ia => (ia _ _ _).mpr ha) (fun a0 a1 a2 a3 a4 ha ia => (ia _ _ _).mpr ⟨I, μ, ha.1, is⟩) (fun a0 ha ia => (ia _ _ _).mpr ha)
set_option maxHeartbeats 1000000 in
theorem d_b_makeCode_586 {x1 : Int32} {x4 : Int32} {x5 : Int32} {S : ms} {R586 : Int32 → Int32 → Int32 → ms → Prop} {K : ms → Prop} (h : b_makeCode_586 x1 x4 x5 S R586 K) {Q : Prop} (k_R586 : ∀ (a0 : Int32) (a1 : Int32) (a2 : Int32) (a3 : ms), R586 a0 a1 a2 a3 → (∀ (R586' : Int32 → Int32 → Int32 → ms → Prop) (K' : ms → Prop), b_makeCode_586 x1 x4 x5 S R586' K' ↔ R586' a0 a1 a2 a3) → Q) (k_K : ∀ (a0 : ms), K a0 → (∀ (R586' : Int32 → Int32 → Int32 → ms → Prop) (K' : ms → Prop), b_makeCode_586 x1 x4 x5 S R586' K' ↔ K' a0) → Q) : Q := by
  unfold b_makeCode_586 at h
  refine dt_p h (fun c_1 h_2 => ?_) (fun c_1 h_2 => ?_)
  ·
    exact k_K _ h_2 (fun _ _ => dt_1 c_1 (fun n => n c_1))
  ·
    exact d_e_makeCode_602 h_2 (fun a0 a1 a2 a3 h_4 i_3 => k_R586 a0 a1 a2 a3 h_4 (fun _ _ => Iff.trans (dt_2 c_1 c_1) (i_3 _ _))) (fun a0 h_6 i_5 => k_K a0 h_6 (fun _ _ => Iff.trans (dt_2 c_1 c_1) (i_5 _ _)))
theorem l_e_makeCode_586  {x1 : Int32} {x4 : Int32} {x5 : Int32} {S : ms} {K : ms → Prop} : e_makeCode_586 x1 x4 x5 S K ↔ lpE (C := (ms → Prop)) (fun (y : (Int32) × (Int32) × (Int32) × (ms)) (R : ((Int32) × (Int32) × (Int32) × (ms)) → Prop) (c : (ms → Prop)) => b_makeCode_586 y.1 y.2.1 y.2.2.1 y.2.2.2 (fun z0 z1 z2 z3 => R (z0, z1, z2, z3)) c) (x1, x4, x5, S) K :=
  ⟨fun ⟨I, μ, h0, hs⟩ => ⟨fun t => I t.1 t.2.1 t.2.2.1 t.2.2.2, fun t => μ t.1 t.2.1 t.2.2.1 t.2.2.2, h0, fun t ht => hs _ _ _ _ ht⟩, fun ⟨I, μ, h0, hs⟩ => ⟨fun y0 y1 y2 y3 => I (y0, y1, y2, y3), fun y0 y1 y2 y3 => μ (y0, y1, y2, y3), h0, fun y0 y1 y2 y3 hy => hs (y0, y1, y2, y3) hy⟩⟩
set_option maxHeartbeats 1000000 in
theorem d_e_makeCode_586 {x1 : Int32} {x4 : Int32} {x5 : Int32} {S : ms} {K : ms → Prop} (h : e_makeCode_586 x1 x4 x5 S K) {Q : Prop} (k_K : ∀ (a0 : ms), K a0 → (∀ (K' : ms → Prop), e_makeCode_586 x1 x4 x5 S K' ↔ K' a0) → Q) : Q := by
  obtain ⟨o, ho, hoc, hi⟩ := lp_det (C := (ms → Prop)) (b := (fun (y : (Int32) × (Int32) × (Int32) × (ms)) (R : ((Int32) × (Int32) × (Int32) × (ms)) → Prop) (c : (ms → Prop)) => b_makeCode_586 y.1 y.2.1 y.2.2.1 y.2.2.2 (fun z0 z1 z2 z3 => R (z0, z1, z2, z3)) c)) (O := (fun (o : ((ms → Prop)) → Prop) => (∃ (a0 : ms), o = fun c => c a0))) (fun y R c hy => d_b_makeCode_586 hy (fun a0 a1 a2 a3 ha ia => Or.inl ⟨(a0, a1, a2, a3), ha, fun R' c' => ia (fun z0 z1 z2 z3 => R' (z0, z1, z2, z3)) c'⟩) (fun a0 ha ia => Or.inr ⟨(fun c => c a0), ⟨a0, rfl⟩, ha, fun R' c' => ia (fun z0 z1 z2 z3 => R' (z0, z1, z2, z3)) c'⟩)) (l_e_makeCode_586.mp h)
  rcases ho with ⟨a0, rfl⟩
  · exact k_K _ hoc (fun K' => Iff.trans l_e_makeCode_586 (hi K'))
theorem v_e_makeCode_586 {x1 : Int32} {x4 : Int32} {x5 : Int32} {S : ms} {K : ms → Prop} (h : e_makeCode_586 x1 x4 x5 S K) {G : Prop} (Inv : Int32 → Int32 → ms → Prop) (h0 : Inv x4 x5 S) (hs : ∀ (yx4 : Int32) (yx5 : Int32) (yS : ms) (R : Int32 → Int32 → Int32 → ms → Prop), Inv yx4 yx5 yS → b_makeCode_586 x1 yx4 yx5 yS R K → (∃ (zx4 : Int32) (zx5 : Int32) (zS : ms), R x1 zx4 zx5 zS ∧ Inv zx4 zx5 zS) ∨ G) : G := by
  obtain ⟨I, μ, i0, is⟩ := h
  have go : ∀ (n : Nat) (yx4 : Int32) (yx5 : Int32) (yS : ms), μ x1 yx4 yx5 yS < n → I x1 yx4 yx5 yS → Inv yx4 yx5 yS → G := by
    intro n
    induction n with
    | zero => intro yx4 yx5 yS hy; exact absurd hy (Nat.not_lt_zero _)
    | succ n ih =>
      intro yx4 yx5 yS hy hI hV
      rcases hs yx4 yx5 yS _ hV (is x1 yx4 yx5 yS hI) with ⟨zx4, zx5, zS, ⟨hz, hm⟩, hv⟩ | g
      · exact ih zx4 zx5 zS (Nat.lt_of_lt_of_le hm (Nat.le_of_lt_succ hy)) hz hv
      · exact g
  exact go _ x4 x5 S (Nat.lt_succ_self _) i0 h0
theorem r_e_makeCode_586 {x1 : Int32} {x4 : Int32} {x5 : Int32} {S : ms} {K : ms → Prop} (h : e_makeCode_586 x1 x4 x5 S K) : b_makeCode_586 x1 x4 x5 S (fun zx1 zx4 zx5 zS => e_makeCode_586 zx1 zx4 zx5 zS K) K := by
  obtain ⟨I, μ, i0, is⟩ := h
  exact d_b_makeCode_586 (is x1 x4 x5 S i0) (fun a0 a1 a2 a3 ha ia => (ia _ _).mpr ⟨I, μ, ha.1, is⟩) (fun a0 ha ia => (ia _ _).mpr ha)
set_option maxHeartbeats 1000000 in
theorem d_b_makeCode_568 {x1 : Int32} {x4 : Int32} {x5 : Int32} {S : ms} {R446 : Int32 → Int32 → ms → Prop} {R454 : Int32 → Int32 → Int32 → ms → Prop} {K : ms → Prop} (h : b_makeCode_568 x1 x4 x5 S R446 R454 K) {Q : Prop} (k_R446 : ∀ (a0 : Int32) (a1 : Int32) (a2 : ms), R446 a0 a1 a2 → (∀ (R446' : Int32 → Int32 → ms → Prop) (R454' : Int32 → Int32 → Int32 → ms → Prop) (K' : ms → Prop), b_makeCode_568 x1 x4 x5 S R446' R454' K' ↔ R446' a0 a1 a2) → Q) (k_R454 : ∀ (a0 : Int32) (a1 : Int32) (a2 : Int32) (a3 : ms), R454 a0 a1 a2 a3 → (∀ (R446' : Int32 → Int32 → ms → Prop) (R454' : Int32 → Int32 → Int32 → ms → Prop) (K' : ms → Prop), b_makeCode_568 x1 x4 x5 S R446' R454' K' ↔ R454' a0 a1 a2 a3) → Q) (k_K : ∀ (a0 : ms), K a0 → (∀ (R446' : Int32 → Int32 → ms → Prop) (R454' : Int32 → Int32 → Int32 → ms → Prop) (K' : ms → Prop), b_makeCode_568 x1 x4 x5 S R446' R454' K' ↔ K' a0) → Q) : Q := by
  unfold b_makeCode_568 at h
  exact k_R454 _ _ _ _ h (fun _ _ _ => Iff.rfl)
set_option maxHeartbeats 1000000 in
theorem d_b_makeCode_518 {x1 : Int32} {x4 : Int32} {x5 : Int32} {x6 : Int32} {S : ms} {R446 : Int32 → Int32 → ms → Prop} {R454 : Int32 → Int32 → Int32 → ms → Prop} {K : ms → Prop} (h : b_makeCode_518 x1 x4 x5 x6 S R446 R454 K) {Q : Prop} (k_R446 : ∀ (a0 : Int32) (a1 : Int32) (a2 : ms), R446 a0 a1 a2 → (∀ (R446' : Int32 → Int32 → ms → Prop) (R454' : Int32 → Int32 → Int32 → ms → Prop) (K' : ms → Prop), b_makeCode_518 x1 x4 x5 x6 S R446' R454' K' ↔ R446' a0 a1 a2) → Q) (k_R454 : ∀ (a0 : Int32) (a1 : Int32) (a2 : Int32) (a3 : ms), R454 a0 a1 a2 a3 → (∀ (R446' : Int32 → Int32 → ms → Prop) (R454' : Int32 → Int32 → Int32 → ms → Prop) (K' : ms → Prop), b_makeCode_518 x1 x4 x5 x6 S R446' R454' K' ↔ R454' a0 a1 a2 a3) → Q) (k_K : ∀ (a0 : ms), K a0 → (∀ (R446' : Int32 → Int32 → ms → Prop) (R454' : Int32 → Int32 → Int32 → ms → Prop) (K' : ms → Prop), b_makeCode_518 x1 x4 x5 x6 S R446' R454' K' ↔ K' a0) → Q) : Q := by
  unfold b_makeCode_518 at h
  refine dt_p (And.right h) (fun c_1 h_2 => ?_) (fun c_1 h_2 => ?_)
  ·
    exact d_b_makeCode_568 h_2 (fun a0 a1 a2 h_4 i_3 => k_R446 a0 a1 a2 h_4 (fun _ _ _ => Iff.trans (dt_a (And.left h)) (Iff.trans (dt_1 c_1 (fun n => n c_1)) (i_3 _ _ _)))) (fun a0 a1 a2 a3 h_6 i_5 => k_R454 a0 a1 a2 a3 h_6 (fun _ _ _ => Iff.trans (dt_a (And.left h)) (Iff.trans (dt_1 c_1 (fun n => n c_1)) (i_5 _ _ _)))) (fun a0 h_8 i_7 => k_K a0 h_8 (fun _ _ _ => Iff.trans (dt_a (And.left h)) (Iff.trans (dt_1 c_1 (fun n => n c_1)) (i_7 _ _ _))))
  ·
    exact d_b_makeCode_568 (And.right (And.right (And.right h_2))) (fun a0 a1 a2 h_10 i_9 => k_R446 a0 a1 a2 h_10 (fun _ _ _ => Iff.trans (dt_a (And.left h)) (Iff.trans (dt_2 c_1 c_1) (Iff.trans (dt_a (And.left h_2)) (Iff.trans (dt_a (And.left (And.right h_2))) (Iff.trans (dt_a (And.left (And.right (And.right h_2)))) (i_9 _ _ _))))))) (fun a0 a1 a2 a3 h_12 i_11 => k_R454 a0 a1 a2 a3 h_12 (fun _ _ _ => Iff.trans (dt_a (And.left h)) (Iff.trans (dt_2 c_1 c_1) (Iff.trans (dt_a (And.left h_2)) (Iff.trans (dt_a (And.left (And.right h_2))) (Iff.trans (dt_a (And.left (And.right (And.right h_2)))) (i_11 _ _ _))))))) (fun a0 h_14 i_13 => k_K a0 h_14 (fun _ _ _ => Iff.trans (dt_a (And.left h)) (Iff.trans (dt_2 c_1 c_1) (Iff.trans (dt_a (And.left h_2)) (Iff.trans (dt_a (And.left (And.right h_2))) (Iff.trans (dt_a (And.left (And.right (And.right h_2)))) (i_13 _ _ _)))))))
set_option maxHeartbeats 1000000 in
theorem d_b_makeCode_454 {x1 : Int32} {x4 : Int32} {x5 : Int32} {S : ms} {R446 : Int32 → Int32 → ms → Prop} {R454 : Int32 → Int32 → Int32 → ms → Prop} {K : ms → Prop} (h : b_makeCode_454 x1 x4 x5 S R446 R454 K) {Q : Prop} (k_R446 : ∀ (a0 : Int32) (a1 : Int32) (a2 : ms), R446 a0 a1 a2 → (∀ (R446' : Int32 → Int32 → ms → Prop) (R454' : Int32 → Int32 → Int32 → ms → Prop) (K' : ms → Prop), b_makeCode_454 x1 x4 x5 S R446' R454' K' ↔ R446' a0 a1 a2) → Q) (k_R454 : ∀ (a0 : Int32) (a1 : Int32) (a2 : Int32) (a3 : ms), R454 a0 a1 a2 a3 → (∀ (R446' : Int32 → Int32 → ms → Prop) (R454' : Int32 → Int32 → Int32 → ms → Prop) (K' : ms → Prop), b_makeCode_454 x1 x4 x5 S R446' R454' K' ↔ R454' a0 a1 a2 a3) → Q) (k_K : ∀ (a0 : ms), K a0 → (∀ (R446' : Int32 → Int32 → ms → Prop) (R454' : Int32 → Int32 → Int32 → ms → Prop) (K' : ms → Prop), b_makeCode_454 x1 x4 x5 S R446' R454' K' ↔ K' a0) → Q) : Q := by
  unfold b_makeCode_454 at h
  refine dt_p h (fun c_1 h_2 => ?_) (fun c_1 h_2 => ?_)
  ·
    exact k_R446 _ _ _ h_2 (fun _ _ _ => dt_1 c_1 (fun n => n c_1))
  ·
    refine dt_p (And.right h_2) (fun c_3 h_4 => ?_) (fun c_3 h_4 => ?_)
    ·
      exact d_b_makeCode_518 h_4 (fun a0 a1 a2 h_6 i_5 => k_R446 a0 a1 a2 h_6 (fun _ _ _ => Iff.trans (dt_2 c_1 c_1) (Iff.trans (dt_a (And.left h_2)) (Iff.trans (dt_1 c_3 (fun n => n c_3)) (i_5 _ _ _))))) (fun a0 a1 a2 a3 h_8 i_7 => k_R454 a0 a1 a2 a3 h_8 (fun _ _ _ => Iff.trans (dt_2 c_1 c_1) (Iff.trans (dt_a (And.left h_2)) (Iff.trans (dt_1 c_3 (fun n => n c_3)) (i_7 _ _ _))))) (fun a0 h_10 i_9 => k_K a0 h_10 (fun _ _ _ => Iff.trans (dt_2 c_1 c_1) (Iff.trans (dt_a (And.left h_2)) (Iff.trans (dt_1 c_3 (fun n => n c_3)) (i_9 _ _ _)))))
    ·
      refine dt_p (And.right h_4) (fun c_11 h_12 => ?_) (fun c_11 h_12 => ?_)
      ·
        exact d_b_makeCode_518 h_12 (fun a0 a1 a2 h_14 i_13 => k_R446 a0 a1 a2 h_14 (fun _ _ _ => Iff.trans (dt_2 c_1 c_1) (Iff.trans (dt_a (And.left h_2)) (Iff.trans (dt_2 c_3 c_3) (Iff.trans (dt_a (And.left h_4)) (Iff.trans (dt_1 c_11 (fun n => n c_11)) (i_13 _ _ _))))))) (fun a0 a1 a2 a3 h_16 i_15 => k_R454 a0 a1 a2 a3 h_16 (fun _ _ _ => Iff.trans (dt_2 c_1 c_1) (Iff.trans (dt_a (And.left h_2)) (Iff.trans (dt_2 c_3 c_3) (Iff.trans (dt_a (And.left h_4)) (Iff.trans (dt_1 c_11 (fun n => n c_11)) (i_15 _ _ _))))))) (fun a0 h_18 i_17 => k_K a0 h_18 (fun _ _ _ => Iff.trans (dt_2 c_1 c_1) (Iff.trans (dt_a (And.left h_2)) (Iff.trans (dt_2 c_3 c_3) (Iff.trans (dt_a (And.left h_4)) (Iff.trans (dt_1 c_11 (fun n => n c_11)) (i_17 _ _ _)))))))
      ·
        exact d_b_makeCode_568 (And.right (And.right (And.right h_12))) (fun a0 a1 a2 h_20 i_19 => k_R446 a0 a1 a2 h_20 (fun _ _ _ => Iff.trans (dt_2 c_1 c_1) (Iff.trans (dt_a (And.left h_2)) (Iff.trans (dt_2 c_3 c_3) (Iff.trans (dt_a (And.left h_4)) (Iff.trans (dt_2 c_11 c_11) (Iff.trans (dt_a (And.left h_12)) (Iff.trans (dt_a (And.left (And.right h_12))) (Iff.trans (dt_a (And.left (And.right (And.right h_12)))) (i_19 _ _ _)))))))))) (fun a0 a1 a2 a3 h_22 i_21 => k_R454 a0 a1 a2 a3 h_22 (fun _ _ _ => Iff.trans (dt_2 c_1 c_1) (Iff.trans (dt_a (And.left h_2)) (Iff.trans (dt_2 c_3 c_3) (Iff.trans (dt_a (And.left h_4)) (Iff.trans (dt_2 c_11 c_11) (Iff.trans (dt_a (And.left h_12)) (Iff.trans (dt_a (And.left (And.right h_12))) (Iff.trans (dt_a (And.left (And.right (And.right h_12)))) (i_21 _ _ _)))))))))) (fun a0 h_24 i_23 => k_K a0 h_24 (fun _ _ _ => Iff.trans (dt_2 c_1 c_1) (Iff.trans (dt_a (And.left h_2)) (Iff.trans (dt_2 c_3 c_3) (Iff.trans (dt_a (And.left h_4)) (Iff.trans (dt_2 c_11 c_11) (Iff.trans (dt_a (And.left h_12)) (Iff.trans (dt_a (And.left (And.right h_12))) (Iff.trans (dt_a (And.left (And.right (And.right h_12)))) (i_23 _ _ _))))))))))
theorem l_e_makeCode_454  {x1 : Int32} {x4 : Int32} {x5 : Int32} {S : ms} {R446 : Int32 → Int32 → ms → Prop} {K : ms → Prop} : e_makeCode_454 x1 x4 x5 S R446 K ↔ lpE (C := (Int32 → Int32 → ms → Prop) × (ms → Prop)) (fun (y : (Int32) × (Int32) × (Int32) × (ms)) (R : ((Int32) × (Int32) × (Int32) × (ms)) → Prop) (c : (Int32 → Int32 → ms → Prop) × (ms → Prop)) => b_makeCode_454 y.1 y.2.1 y.2.2.1 y.2.2.2 c.1 (fun z0 z1 z2 z3 => R (z0, z1, z2, z3)) c.2) (x1, x4, x5, S) (R446, K) :=
  ⟨fun ⟨I, μ, h0, hs⟩ => ⟨fun t => I t.1 t.2.1 t.2.2.1 t.2.2.2, fun t => μ t.1 t.2.1 t.2.2.1 t.2.2.2, h0, fun t ht => hs _ _ _ _ ht⟩, fun ⟨I, μ, h0, hs⟩ => ⟨fun y0 y1 y2 y3 => I (y0, y1, y2, y3), fun y0 y1 y2 y3 => μ (y0, y1, y2, y3), h0, fun y0 y1 y2 y3 hy => hs (y0, y1, y2, y3) hy⟩⟩
set_option maxHeartbeats 1000000 in
theorem d_e_makeCode_454 {x1 : Int32} {x4 : Int32} {x5 : Int32} {S : ms} {R446 : Int32 → Int32 → ms → Prop} {K : ms → Prop} (h : e_makeCode_454 x1 x4 x5 S R446 K) {Q : Prop} (k_R446 : ∀ (a0 : Int32) (a1 : Int32) (a2 : ms), R446 a0 a1 a2 → (∀ (R446' : Int32 → Int32 → ms → Prop) (K' : ms → Prop), e_makeCode_454 x1 x4 x5 S R446' K' ↔ R446' a0 a1 a2) → Q) (k_K : ∀ (a0 : ms), K a0 → (∀ (R446' : Int32 → Int32 → ms → Prop) (K' : ms → Prop), e_makeCode_454 x1 x4 x5 S R446' K' ↔ K' a0) → Q) : Q := by
  obtain ⟨o, ho, hoc, hi⟩ := lp_det (C := (Int32 → Int32 → ms → Prop) × (ms → Prop)) (b := (fun (y : (Int32) × (Int32) × (Int32) × (ms)) (R : ((Int32) × (Int32) × (Int32) × (ms)) → Prop) (c : (Int32 → Int32 → ms → Prop) × (ms → Prop)) => b_makeCode_454 y.1 y.2.1 y.2.2.1 y.2.2.2 c.1 (fun z0 z1 z2 z3 => R (z0, z1, z2, z3)) c.2)) (O := (fun (o : ((Int32 → Int32 → ms → Prop) × (ms → Prop)) → Prop) => (∃ (a0 : Int32) (a1 : Int32) (a2 : ms), o = fun c => c.1 a0 a1 a2) ∨ (∃ (a0 : ms), o = fun c => c.2 a0))) (fun y R c hy => d_b_makeCode_454 hy (fun a0 a1 a2 ha ia => Or.inr ⟨(fun c => c.1 a0 a1 a2), Or.inl ⟨a0, a1, a2, rfl⟩, ha, fun R' c' => ia c'.1 (fun z0 z1 z2 z3 => R' (z0, z1, z2, z3)) c'.2⟩) (fun a0 a1 a2 a3 ha ia => Or.inl ⟨(a0, a1, a2, a3), ha, fun R' c' => ia c'.1 (fun z0 z1 z2 z3 => R' (z0, z1, z2, z3)) c'.2⟩) (fun a0 ha ia => Or.inr ⟨(fun c => c.2 a0), Or.inr (⟨a0, rfl⟩), ha, fun R' c' => ia c'.1 (fun z0 z1 z2 z3 => R' (z0, z1, z2, z3)) c'.2⟩)) (l_e_makeCode_454.mp h)
  rcases ho with ⟨a0, a1, a2, rfl⟩ | ⟨a0, rfl⟩
  · exact k_R446 _ _ _ hoc (fun R446' K' => Iff.trans l_e_makeCode_454 (hi (R446', K')))
  · exact k_K _ hoc (fun R446' K' => Iff.trans l_e_makeCode_454 (hi (R446', K')))
theorem v_e_makeCode_454 {x1 : Int32} {x4 : Int32} {x5 : Int32} {S : ms} {R446 : Int32 → Int32 → ms → Prop} {K : ms → Prop} (h : e_makeCode_454 x1 x4 x5 S R446 K) {G : Prop} (Inv : Int32 → ms → Prop) (h0 : Inv x5 S) (hs : ∀ (yx5 : Int32) (yS : ms) (R : Int32 → Int32 → Int32 → ms → Prop), Inv yx5 yS → b_makeCode_454 x1 x4 yx5 yS R446 R K → (∃ (zx5 : Int32) (zS : ms), R x1 x4 zx5 zS ∧ Inv zx5 zS) ∨ G) : G := by
  obtain ⟨I, μ, i0, is⟩ := h
  have go : ∀ (n : Nat) (yx5 : Int32) (yS : ms), μ x1 x4 yx5 yS < n → I x1 x4 yx5 yS → Inv yx5 yS → G := by
    intro n
    induction n with
    | zero => intro yx5 yS hy; exact absurd hy (Nat.not_lt_zero _)
    | succ n ih =>
      intro yx5 yS hy hI hV
      rcases hs yx5 yS _ hV (is x1 x4 yx5 yS hI) with ⟨zx5, zS, ⟨hz, hm⟩, hv⟩ | g
      · exact ih zx5 zS (Nat.lt_of_lt_of_le hm (Nat.le_of_lt_succ hy)) hz hv
      · exact g
  exact go _ x5 S (Nat.lt_succ_self _) i0 h0
theorem r_e_makeCode_454 {x1 : Int32} {x4 : Int32} {x5 : Int32} {S : ms} {R446 : Int32 → Int32 → ms → Prop} {K : ms → Prop} (h : e_makeCode_454 x1 x4 x5 S R446 K) : b_makeCode_454 x1 x4 x5 S R446 (fun zx1 zx4 zx5 zS => e_makeCode_454 zx1 zx4 zx5 zS R446 K) K := by
  obtain ⟨I, μ, i0, is⟩ := h
  exact d_b_makeCode_454 (is x1 x4 x5 S i0) (fun a0 a1 a2 ha ia => (ia _ _ _).mpr ha) (fun a0 a1 a2 a3 ha ia => (ia _ _ _).mpr ⟨I, μ, ha.1, is⟩) (fun a0 ha ia => (ia _ _ _).mpr ha)
set_option maxHeartbeats 1000000 in
theorem d_b_makeCode_446 {x1 : Int32} {x4 : Int32} {S : ms} {R446 : Int32 → Int32 → ms → Prop} {K : ms → Prop} (h : b_makeCode_446 x1 x4 S R446 K) {Q : Prop} (k_R446 : ∀ (a0 : Int32) (a1 : Int32) (a2 : ms), R446 a0 a1 a2 → (∀ (R446' : Int32 → Int32 → ms → Prop) (K' : ms → Prop), b_makeCode_446 x1 x4 S R446' K' ↔ R446' a0 a1 a2) → Q) (k_K : ∀ (a0 : ms), K a0 → (∀ (R446' : Int32 → Int32 → ms → Prop) (K' : ms → Prop), b_makeCode_446 x1 x4 S R446' K' ↔ K' a0) → Q) : Q := by
  unfold b_makeCode_446 at h
  refine dt_p h (fun c_1 h_2 => ?_) (fun c_1 h_2 => ?_)
  ·
    exact d_e_makeCode_586 h_2 (fun a0 h_4 i_3 => k_K a0 h_4 (fun _ _ => Iff.trans (dt_1 c_1 (fun n => n c_1)) (i_3 _)))
  ·
    exact d_e_makeCode_454 h_2 (fun a0 a1 a2 h_6 i_5 => k_R446 a0 a1 a2 h_6 (fun _ _ => Iff.trans (dt_2 c_1 c_1) (i_5 _ _))) (fun a0 h_8 i_7 => k_K a0 h_8 (fun _ _ => Iff.trans (dt_2 c_1 c_1) (i_7 _ _)))
theorem l_e_makeCode_446  {x1 : Int32} {x4 : Int32} {S : ms} {K : ms → Prop} : e_makeCode_446 x1 x4 S K ↔ lpE (C := (ms → Prop)) (fun (y : (Int32) × (Int32) × (ms)) (R : ((Int32) × (Int32) × (ms)) → Prop) (c : (ms → Prop)) => b_makeCode_446 y.1 y.2.1 y.2.2 (fun z0 z1 z2 => R (z0, z1, z2)) c) (x1, x4, S) K :=
  ⟨fun ⟨I, μ, h0, hs⟩ => ⟨fun t => I t.1 t.2.1 t.2.2, fun t => μ t.1 t.2.1 t.2.2, h0, fun t ht => hs _ _ _ ht⟩, fun ⟨I, μ, h0, hs⟩ => ⟨fun y0 y1 y2 => I (y0, y1, y2), fun y0 y1 y2 => μ (y0, y1, y2), h0, fun y0 y1 y2 hy => hs (y0, y1, y2) hy⟩⟩
set_option maxHeartbeats 1000000 in
theorem d_e_makeCode_446 {x1 : Int32} {x4 : Int32} {S : ms} {K : ms → Prop} (h : e_makeCode_446 x1 x4 S K) {Q : Prop} (k_K : ∀ (a0 : ms), K a0 → (∀ (K' : ms → Prop), e_makeCode_446 x1 x4 S K' ↔ K' a0) → Q) : Q := by
  obtain ⟨o, ho, hoc, hi⟩ := lp_det (C := (ms → Prop)) (b := (fun (y : (Int32) × (Int32) × (ms)) (R : ((Int32) × (Int32) × (ms)) → Prop) (c : (ms → Prop)) => b_makeCode_446 y.1 y.2.1 y.2.2 (fun z0 z1 z2 => R (z0, z1, z2)) c)) (O := (fun (o : ((ms → Prop)) → Prop) => (∃ (a0 : ms), o = fun c => c a0))) (fun y R c hy => d_b_makeCode_446 hy (fun a0 a1 a2 ha ia => Or.inl ⟨(a0, a1, a2), ha, fun R' c' => ia (fun z0 z1 z2 => R' (z0, z1, z2)) c'⟩) (fun a0 ha ia => Or.inr ⟨(fun c => c a0), ⟨a0, rfl⟩, ha, fun R' c' => ia (fun z0 z1 z2 => R' (z0, z1, z2)) c'⟩)) (l_e_makeCode_446.mp h)
  rcases ho with ⟨a0, rfl⟩
  · exact k_K _ hoc (fun K' => Iff.trans l_e_makeCode_446 (hi K'))
theorem v_e_makeCode_446 {x1 : Int32} {x4 : Int32} {S : ms} {K : ms → Prop} (h : e_makeCode_446 x1 x4 S K) {G : Prop} (Inv : Int32 → ms → Prop) (h0 : Inv x4 S) (hs : ∀ (yx4 : Int32) (yS : ms) (R : Int32 → Int32 → ms → Prop), Inv yx4 yS → b_makeCode_446 x1 yx4 yS R K → (∃ (zx4 : Int32) (zS : ms), R x1 zx4 zS ∧ Inv zx4 zS) ∨ G) : G := by
  obtain ⟨I, μ, i0, is⟩ := h
  have go : ∀ (n : Nat) (yx4 : Int32) (yS : ms), μ x1 yx4 yS < n → I x1 yx4 yS → Inv yx4 yS → G := by
    intro n
    induction n with
    | zero => intro yx4 yS hy; exact absurd hy (Nat.not_lt_zero _)
    | succ n ih =>
      intro yx4 yS hy hI hV
      rcases hs yx4 yS _ hV (is x1 yx4 yS hI) with ⟨zx4, zS, ⟨hz, hm⟩, hv⟩ | g
      · exact ih zx4 zS (Nat.lt_of_lt_of_le hm (Nat.le_of_lt_succ hy)) hz hv
      · exact g
  exact go _ x4 S (Nat.lt_succ_self _) i0 h0
theorem r_e_makeCode_446 {x1 : Int32} {x4 : Int32} {S : ms} {K : ms → Prop} (h : e_makeCode_446 x1 x4 S K) : b_makeCode_446 x1 x4 S (fun zx1 zx4 zS => e_makeCode_446 zx1 zx4 zS K) K := by
  obtain ⟨I, μ, i0, is⟩ := h
  exact d_b_makeCode_446 (is x1 x4 S i0) (fun a0 a1 a2 ha ia => (ia _ _).mpr ⟨I, μ, ha.1, is⟩) (fun a0 ha ia => (ia _ _).mpr ha)
set_option maxHeartbeats 1000000 in
theorem d_b_makeCode_435 {x1 : Int32} {x2 : Int32} {x4 : Int32} {s1 : Int32} {s2 : Int32} {S : ms} {R394 : Int32 → Int32 → Int32 → ms → Prop} {K : ms → Prop} (h : b_makeCode_435 x1 x2 x4 s1 s2 S R394 K) {Q : Prop} (k_R394 : ∀ (a0 : Int32) (a1 : Int32) (a2 : Int32) (a3 : ms), R394 a0 a1 a2 a3 → (∀ (R394' : Int32 → Int32 → Int32 → ms → Prop) (K' : ms → Prop), b_makeCode_435 x1 x2 x4 s1 s2 S R394' K' ↔ R394' a0 a1 a2 a3) → Q) (k_K : ∀ (a0 : ms), K a0 → (∀ (R394' : Int32 → Int32 → Int32 → ms → Prop) (K' : ms → Prop), b_makeCode_435 x1 x2 x4 s1 s2 S R394' K' ↔ K' a0) → Q) : Q := by
  unfold b_makeCode_435 at h
  exact k_R394 _ _ _ _ (And.right h) (fun _ _ => dt_a (And.left h))
set_option maxHeartbeats 1000000 in
theorem d_b_makeCode_434 {x1 : Int32} {x2 : Int32} {x4 : Int32} {s1 : Int32} {S : ms} {R394 : Int32 → Int32 → Int32 → ms → Prop} {K : ms → Prop} (h : b_makeCode_434 x1 x2 x4 s1 S R394 K) {Q : Prop} (k_R394 : ∀ (a0 : Int32) (a1 : Int32) (a2 : Int32) (a3 : ms), R394 a0 a1 a2 a3 → (∀ (R394' : Int32 → Int32 → Int32 → ms → Prop) (K' : ms → Prop), b_makeCode_434 x1 x2 x4 s1 S R394' K' ↔ R394' a0 a1 a2 a3) → Q) (k_K : ∀ (a0 : ms), K a0 → (∀ (R394' : Int32 → Int32 → Int32 → ms → Prop) (K' : ms → Prop), b_makeCode_434 x1 x2 x4 s1 S R394' K' ↔ K' a0) → Q) : Q := by
  unfold b_makeCode_434 at h
  exact d_b_makeCode_435 h (fun a0 a1 a2 a3 h_2 i_1 => k_R394 a0 a1 a2 a3 h_2 (fun _ _ => i_1 _ _)) (fun a0 h_4 i_3 => k_K a0 h_4 (fun _ _ => i_3 _ _))
set_option maxHeartbeats 1000000 in
theorem d_b_makeCode_394 {x1 : Int32} {x2 : Int32} {x4 : Int32} {S : ms} {R394 : Int32 → Int32 → Int32 → ms → Prop} {K : ms → Prop} (h : b_makeCode_394 x1 x2 x4 S R394 K) {Q : Prop} (k_R394 : ∀ (a0 : Int32) (a1 : Int32) (a2 : Int32) (a3 : ms), R394 a0 a1 a2 a3 → (∀ (R394' : Int32 → Int32 → Int32 → ms → Prop) (K' : ms → Prop), b_makeCode_394 x1 x2 x4 S R394' K' ↔ R394' a0 a1 a2 a3) → Q) (k_K : ∀ (a0 : ms), K a0 → (∀ (R394' : Int32 → Int32 → Int32 → ms → Prop) (K' : ms → Prop), b_makeCode_394 x1 x2 x4 S R394' K' ↔ K' a0) → Q) : Q := by
  unfold b_makeCode_394 at h
  refine dt_p h (fun c_1 h_2 => ?_) (fun c_1 h_2 => ?_)
  ·
    exact d_e_makeCode_446 h_2 (fun a0 h_4 i_3 => k_K a0 h_4 (fun _ _ => Iff.trans (dt_1 c_1 (fun n => n c_1)) (i_3 _)))
  ·
    refine dt_p h_2 (fun c_5 h_6 => ?_) (fun c_5 h_6 => ?_)
    ·
      exact d_b_makeCode_434 h_6 (fun a0 a1 a2 a3 h_8 i_7 => k_R394 a0 a1 a2 a3 h_8 (fun _ _ => Iff.trans (dt_2 c_1 c_1) (Iff.trans (dt_1 c_5 (fun n => n c_5)) (i_7 _ _)))) (fun a0 h_10 i_9 => k_K a0 h_10 (fun _ _ => Iff.trans (dt_2 c_1 c_1) (Iff.trans (dt_1 c_5 (fun n => n c_5)) (i_9 _ _))))
    ·
      refine dt_p h_6 (fun c_11 h_12 => ?_) (fun c_11 h_12 => ?_)
      ·
        exact d_b_makeCode_434 h_12 (fun a0 a1 a2 a3 h_14 i_13 => k_R394 a0 a1 a2 a3 h_14 (fun _ _ => Iff.trans (dt_2 c_1 c_1) (Iff.trans (dt_2 c_5 c_5) (Iff.trans (dt_1 c_11 (fun n => n c_11)) (i_13 _ _))))) (fun a0 h_16 i_15 => k_K a0 h_16 (fun _ _ => Iff.trans (dt_2 c_1 c_1) (Iff.trans (dt_2 c_5 c_5) (Iff.trans (dt_1 c_11 (fun n => n c_11)) (i_15 _ _)))))
      ·
        exact d_b_makeCode_435 h_12 (fun a0 a1 a2 a3 h_18 i_17 => k_R394 a0 a1 a2 a3 h_18 (fun _ _ => Iff.trans (dt_2 c_1 c_1) (Iff.trans (dt_2 c_5 c_5) (Iff.trans (dt_2 c_11 c_11) (i_17 _ _))))) (fun a0 h_20 i_19 => k_K a0 h_20 (fun _ _ => Iff.trans (dt_2 c_1 c_1) (Iff.trans (dt_2 c_5 c_5) (Iff.trans (dt_2 c_11 c_11) (i_19 _ _)))))
theorem l_e_makeCode_394  {x1 : Int32} {x2 : Int32} {x4 : Int32} {S : ms} {K : ms → Prop} : e_makeCode_394 x1 x2 x4 S K ↔ lpE (C := (ms → Prop)) (fun (y : (Int32) × (Int32) × (Int32) × (ms)) (R : ((Int32) × (Int32) × (Int32) × (ms)) → Prop) (c : (ms → Prop)) => b_makeCode_394 y.1 y.2.1 y.2.2.1 y.2.2.2 (fun z0 z1 z2 z3 => R (z0, z1, z2, z3)) c) (x1, x2, x4, S) K :=
  ⟨fun ⟨I, μ, h0, hs⟩ => ⟨fun t => I t.1 t.2.1 t.2.2.1 t.2.2.2, fun t => μ t.1 t.2.1 t.2.2.1 t.2.2.2, h0, fun t ht => hs _ _ _ _ ht⟩, fun ⟨I, μ, h0, hs⟩ => ⟨fun y0 y1 y2 y3 => I (y0, y1, y2, y3), fun y0 y1 y2 y3 => μ (y0, y1, y2, y3), h0, fun y0 y1 y2 y3 hy => hs (y0, y1, y2, y3) hy⟩⟩
set_option maxHeartbeats 1000000 in
theorem d_e_makeCode_394 {x1 : Int32} {x2 : Int32} {x4 : Int32} {S : ms} {K : ms → Prop} (h : e_makeCode_394 x1 x2 x4 S K) {Q : Prop} (k_K : ∀ (a0 : ms), K a0 → (∀ (K' : ms → Prop), e_makeCode_394 x1 x2 x4 S K' ↔ K' a0) → Q) : Q := by
  obtain ⟨o, ho, hoc, hi⟩ := lp_det (C := (ms → Prop)) (b := (fun (y : (Int32) × (Int32) × (Int32) × (ms)) (R : ((Int32) × (Int32) × (Int32) × (ms)) → Prop) (c : (ms → Prop)) => b_makeCode_394 y.1 y.2.1 y.2.2.1 y.2.2.2 (fun z0 z1 z2 z3 => R (z0, z1, z2, z3)) c)) (O := (fun (o : ((ms → Prop)) → Prop) => (∃ (a0 : ms), o = fun c => c a0))) (fun y R c hy => d_b_makeCode_394 hy (fun a0 a1 a2 a3 ha ia => Or.inl ⟨(a0, a1, a2, a3), ha, fun R' c' => ia (fun z0 z1 z2 z3 => R' (z0, z1, z2, z3)) c'⟩) (fun a0 ha ia => Or.inr ⟨(fun c => c a0), ⟨a0, rfl⟩, ha, fun R' c' => ia (fun z0 z1 z2 z3 => R' (z0, z1, z2, z3)) c'⟩)) (l_e_makeCode_394.mp h)
  rcases ho with ⟨a0, rfl⟩
  · exact k_K _ hoc (fun K' => Iff.trans l_e_makeCode_394 (hi K'))
theorem v_e_makeCode_394 {x1 : Int32} {x2 : Int32} {x4 : Int32} {S : ms} {K : ms → Prop} (h : e_makeCode_394 x1 x2 x4 S K) {G : Prop} (Inv : Int32 → ms → Prop) (h0 : Inv x4 S) (hs : ∀ (yx4 : Int32) (yS : ms) (R : Int32 → Int32 → Int32 → ms → Prop), Inv yx4 yS → b_makeCode_394 x1 x2 yx4 yS R K → (∃ (zx4 : Int32) (zS : ms), R x1 x2 zx4 zS ∧ Inv zx4 zS) ∨ G) : G := by
  obtain ⟨I, μ, i0, is⟩ := h
  have go : ∀ (n : Nat) (yx4 : Int32) (yS : ms), μ x1 x2 yx4 yS < n → I x1 x2 yx4 yS → Inv yx4 yS → G := by
    intro n
    induction n with
    | zero => intro yx4 yS hy; exact absurd hy (Nat.not_lt_zero _)
    | succ n ih =>
      intro yx4 yS hy hI hV
      rcases hs yx4 yS _ hV (is x1 x2 yx4 yS hI) with ⟨zx4, zS, ⟨hz, hm⟩, hv⟩ | g
      · exact ih zx4 zS (Nat.lt_of_lt_of_le hm (Nat.le_of_lt_succ hy)) hz hv
      · exact g
  exact go _ x4 S (Nat.lt_succ_self _) i0 h0
theorem r_e_makeCode_394 {x1 : Int32} {x2 : Int32} {x4 : Int32} {S : ms} {K : ms → Prop} (h : e_makeCode_394 x1 x2 x4 S K) : b_makeCode_394 x1 x2 x4 S (fun zx1 zx2 zx4 zS => e_makeCode_394 zx1 zx2 zx4 zS K) K := by
  obtain ⟨I, μ, i0, is⟩ := h
  exact d_b_makeCode_394 (is x1 x2 x4 S i0) (fun a0 a1 a2 a3 ha ia => (ia _ _).mpr ⟨I, μ, ha.1, is⟩) (fun a0 ha ia => (ia _ _).mpr ha)
set_option maxHeartbeats 1000000 in
theorem d_b_makeCode_375 {x1 : Int32} {x2 : Int32} {x4 : Int32} {x5 : Int32} {x6 : Int32} {x8 : Int32} {s0 : Int32} {S : ms} {R162 : Int32 → Int32 → Int32 → Int32 → ms → Prop} {R190 : Int32 → Int32 → Int32 → Int32 → Int32 → Int32 → Int32 → ms → Prop} {K : ms → Prop} (h : b_makeCode_375 x1 x2 x4 x5 x6 x8 s0 S R162 R190 K) {Q : Prop} (k_R162 : ∀ (a0 : Int32) (a1 : Int32) (a2 : Int32) (a3 : Int32) (a4 : ms), R162 a0 a1 a2 a3 a4 → (∀ (R162' : Int32 → Int32 → Int32 → Int32 → ms → Prop) (R190' : Int32 → Int32 → Int32 → Int32 → Int32 → Int32 → Int32 → ms → Prop) (K' : ms → Prop), b_makeCode_375 x1 x2 x4 x5 x6 x8 s0 S R162' R190' K' ↔ R162' a0 a1 a2 a3 a4) → Q) (k_R190 : ∀ (a0 : Int32) (a1 : Int32) (a2 : Int32) (a3 : Int32) (a4 : Int32) (a5 : Int32) (a6 : Int32) (a7 : ms), R190 a0 a1 a2 a3 a4 a5 a6 a7 → (∀ (R162' : Int32 → Int32 → Int32 → Int32 → ms → Prop) (R190' : Int32 → Int32 → Int32 → Int32 → Int32 → Int32 → Int32 → ms → Prop) (K' : ms → Prop), b_makeCode_375 x1 x2 x4 x5 x6 x8 s0 S R162' R190' K' ↔ R190' a0 a1 a2 a3 a4 a5 a6 a7) → Q) (k_K : ∀ (a0 : ms), K a0 → (∀ (R162' : Int32 → Int32 → Int32 → Int32 → ms → Prop) (R190' : Int32 → Int32 → Int32 → Int32 → Int32 → Int32 → Int32 → ms → Prop) (K' : ms → Prop), b_makeCode_375 x1 x2 x4 x5 x6 x8 s0 S R162' R190' K' ↔ K' a0) → Q) : Q := by
  unfold b_makeCode_375 at h
  exact k_R190 _ _ _ _ _ _ _ _ h (fun _ _ _ => Iff.rfl)
set_option maxHeartbeats 1000000 in
theorem d_b_makeCode_359 {x1 : Int32} {x2 : Int32} {x4 : Int32} {x5 : Int32} {x7 : Int32} {x8 : Int32} {x10 : Int32} {s0 : Int32} {S : ms} {R162 : Int32 → Int32 → Int32 → Int32 → ms → Prop} {R190 : Int32 → Int32 → Int32 → Int32 → Int32 → Int32 → Int32 → ms → Prop} {K : ms → Prop} (h : b_makeCode_359 x1 x2 x4 x5 x7 x8 x10 s0 S R162 R190 K) {Q : Prop} (k_R162 : ∀ (a0 : Int32) (a1 : Int32) (a2 : Int32) (a3 : Int32) (a4 : ms), R162 a0 a1 a2 a3 a4 → (∀ (R162' : Int32 → Int32 → Int32 → Int32 → ms → Prop) (R190' : Int32 → Int32 → Int32 → Int32 → Int32 → Int32 → Int32 → ms → Prop) (K' : ms → Prop), b_makeCode_359 x1 x2 x4 x5 x7 x8 x10 s0 S R162' R190' K' ↔ R162' a0 a1 a2 a3 a4) → Q) (k_R190 : ∀ (a0 : Int32) (a1 : Int32) (a2 : Int32) (a3 : Int32) (a4 : Int32) (a5 : Int32) (a6 : Int32) (a7 : ms), R190 a0 a1 a2 a3 a4 a5 a6 a7 → (∀ (R162' : Int32 → Int32 → Int32 → Int32 → ms → Prop) (R190' : Int32 → Int32 → Int32 → Int32 → Int32 → Int32 → Int32 → ms → Prop) (K' : ms → Prop), b_makeCode_359 x1 x2 x4 x5 x7 x8 x10 s0 S R162' R190' K' ↔ R190' a0 a1 a2 a3 a4 a5 a6 a7) → Q) (k_K : ∀ (a0 : ms), K a0 → (∀ (R162' : Int32 → Int32 → Int32 → Int32 → ms → Prop) (R190' : Int32 → Int32 → Int32 → Int32 → Int32 → Int32 → Int32 → ms → Prop) (K' : ms → Prop), b_makeCode_359 x1 x2 x4 x5 x7 x8 x10 s0 S R162' R190' K' ↔ K' a0) → Q) : Q := by
  unfold b_makeCode_359 at h
  refine dt_p h (fun c_1 h_2 => ?_) (fun c_1 h_2 => ?_)
  ·
    exact d_b_makeCode_375 h_2 (fun a0 a1 a2 a3 a4 h_4 i_3 => k_R162 a0 a1 a2 a3 a4 h_4 (fun _ _ _ => Iff.trans (dt_1 c_1 (fun n => n c_1)) (i_3 _ _ _))) (fun a0 a1 a2 a3 a4 a5 a6 a7 h_6 i_5 => k_R190 a0 a1 a2 a3 a4 a5 a6 a7 h_6 (fun _ _ _ => Iff.trans (dt_1 c_1 (fun n => n c_1)) (i_5 _ _ _))) (fun a0 h_8 i_7 => k_K a0 h_8 (fun _ _ _ => Iff.trans (dt_1 c_1 (fun n => n c_1)) (i_7 _ _ _)))
  ·
    exact d_b_makeCode_375 h_2 (fun a0 a1 a2 a3 a4 h_10 i_9 => k_R162 a0 a1 a2 a3 a4 h_10 (fun _ _ _ => Iff.trans (dt_2 c_1 c_1) (i_9 _ _ _))) (fun a0 a1 a2 a3 a4 a5 a6 a7 h_12 i_11 => k_R190 a0 a1 a2 a3 a4 a5 a6 a7 h_12 (fun _ _ _ => Iff.trans (dt_2 c_1 c_1) (i_11 _ _ _))) (fun a0 h_14 i_13 => k_K a0 h_14 (fun _ _ _ => Iff.trans (dt_2 c_1 c_1) (i_13 _ _ _)))
set_option maxHeartbeats 1000000 in
theorem d_b_makeCode_344 {x1 : Int32} {x2 : Int32} {x4 : Int32} {x5 : Int32} {x6 : Int32} {x7 : Int32} {x8 : Int32} {x10 : Int32} {s1 : Int32} {s2 : Int32} {S : ms} {R162 : Int32 → Int32 → Int32 → Int32 → ms → Prop} {R190 : Int32 → Int32 → Int32 → Int32 → Int32 → Int32 → Int32 → ms → Prop} {K : ms → Prop} (h : b_makeCode_344 x1 x2 x4 x5 x6 x7 x8 x10 s1 s2 S R162 R190 K) {Q : Prop} (k_R162 : ∀ (a0 : Int32) (a1 : Int32) (a2 : Int32) (a3 : Int32) (a4 : ms), R162 a0 a1 a2 a3 a4 → (∀ (R162' : Int32 → Int32 → Int32 → Int32 → ms → Prop) (R190' : Int32 → Int32 → Int32 → Int32 → Int32 → Int32 → Int32 → ms → Prop) (K' : ms → Prop), b_makeCode_344 x1 x2 x4 x5 x6 x7 x8 x10 s1 s2 S R162' R190' K' ↔ R162' a0 a1 a2 a3 a4) → Q) (k_R190 : ∀ (a0 : Int32) (a1 : Int32) (a2 : Int32) (a3 : Int32) (a4 : Int32) (a5 : Int32) (a6 : Int32) (a7 : ms), R190 a0 a1 a2 a3 a4 a5 a6 a7 → (∀ (R162' : Int32 → Int32 → Int32 → Int32 → ms → Prop) (R190' : Int32 → Int32 → Int32 → Int32 → Int32 → Int32 → Int32 → ms → Prop) (K' : ms → Prop), b_makeCode_344 x1 x2 x4 x5 x6 x7 x8 x10 s1 s2 S R162' R190' K' ↔ R190' a0 a1 a2 a3 a4 a5 a6 a7) → Q) (k_K : ∀ (a0 : ms), K a0 → (∀ (R162' : Int32 → Int32 → Int32 → Int32 → ms → Prop) (R190' : Int32 → Int32 → Int32 → Int32 → Int32 → Int32 → Int32 → ms → Prop) (K' : ms → Prop), b_makeCode_344 x1 x2 x4 x5 x6 x7 x8 x10 s1 s2 S R162' R190' K' ↔ K' a0) → Q) : Q := by
  unfold b_makeCode_344 at h
  refine dt_p (And.right h) (fun c_1 h_2 => ?_) (fun c_1 h_2 => ?_)
  ·
    exact d_b_makeCode_359 h_2 (fun a0 a1 a2 a3 a4 h_4 i_3 => k_R162 a0 a1 a2 a3 a4 h_4 (fun _ _ _ => Iff.trans (dt_a (And.left h)) (Iff.trans (dt_1 c_1 (fun n => n c_1)) (i_3 _ _ _)))) (fun a0 a1 a2 a3 a4 a5 a6 a7 h_6 i_5 => k_R190 a0 a1 a2 a3 a4 a5 a6 a7 h_6 (fun _ _ _ => Iff.trans (dt_a (And.left h)) (Iff.trans (dt_1 c_1 (fun n => n c_1)) (i_5 _ _ _)))) (fun a0 h_8 i_7 => k_K a0 h_8 (fun _ _ _ => Iff.trans (dt_a (And.left h)) (Iff.trans (dt_1 c_1 (fun n => n c_1)) (i_7 _ _ _))))
  ·
    exact d_b_makeCode_359 h_2 (fun a0 a1 a2 a3 a4 h_10 i_9 => k_R162 a0 a1 a2 a3 a4 h_10 (fun _ _ _ => Iff.trans (dt_a (And.left h)) (Iff.trans (dt_2 c_1 c_1) (i_9 _ _ _)))) (fun a0 a1 a2 a3 a4 a5 a6 a7 h_12 i_11 => k_R190 a0 a1 a2 a3 a4 a5 a6 a7 h_12 (fun _ _ _ => Iff.trans (dt_a (And.left h)) (Iff.trans (dt_2 c_1 c_1) (i_11 _ _ _)))) (fun a0 h_14 i_13 => k_K a0 h_14 (fun _ _ _ => Iff.trans (dt_a (And.left h)) (Iff.trans (dt_2 c_1 c_1) (i_13 _ _ _))))
