set_option maxHeartbeats 1000000 in
theorem d_b_makeCode_308 {x1 : Int32} {x2 : Int32} {x4 : Int32} {x5 : Int32} {x6 : Int32} {x7 : Int32} {x8 : Int32} {x10 : Int32} {s1 : Int32} {s2 : Int32} {S : ms} {R162 : Int32 → Int32 → Int32 → Int32 → ms → Prop} {R190 : Int32 → Int32 → Int32 → Int32 → Int32 → Int32 → Int32 → ms → Prop} {K : ms → Prop} (h : b_makeCode_308 x1 x2 x4 x5 x6 x7 x8 x10 s1 s2 S R162 R190 K) {Q : Prop} (k_R162 : ∀ (a0 : Int32) (a1 : Int32) (a2 : Int32) (a3 : Int32) (a4 : ms), R162 a0 a1 a2 a3 a4 → (∀ (R162' : Int32 → Int32 → Int32 → Int32 → ms → Prop) (R190' : Int32 → Int32 → Int32 → Int32 → Int32 → Int32 → Int32 → ms → Prop) (K' : ms → Prop), b_makeCode_308 x1 x2 x4 x5 x6 x7 x8 x10 s1 s2 S R162' R190' K' ↔ R162' a0 a1 a2 a3 a4) → Q) (k_R190 : ∀ (a0 : Int32) (a1 : Int32) (a2 : Int32) (a3 : Int32) (a4 : Int32) (a5 : Int32) (a6 : Int32) (a7 : ms), R190 a0 a1 a2 a3 a4 a5 a6 a7 → (∀ (R162' : Int32 → Int32 → Int32 → Int32 → ms → Prop) (R190' : Int32 → Int32 → Int32 → Int32 → Int32 → Int32 → Int32 → ms → Prop) (K' : ms → Prop), b_makeCode_308 x1 x2 x4 x5 x6 x7 x8 x10 s1 s2 S R162' R190' K' ↔ R190' a0 a1 a2 a3 a4 a5 a6 a7) → Q) (k_K : ∀ (a0 : ms), K a0 → (∀ (R162' : Int32 → Int32 → Int32 → Int32 → ms → Prop) (R190' : Int32 → Int32 → Int32 → Int32 → Int32 → Int32 → Int32 → ms → Prop) (K' : ms → Prop), b_makeCode_308 x1 x2 x4 x5 x6 x7 x8 x10 s1 s2 S R162' R190' K' ↔ K' a0) → Q) : Q := by
  unfold b_makeCode_308 at h
  refine dt_p (And.right h) (fun c_1 h_2 => ?_) (fun c_1 h_2 => ?_)
  ·
    exact d_b_makeCode_344 h_2 (fun a0 a1 a2 a3 a4 h_4 i_3 => k_R162 a0 a1 a2 a3 a4 h_4 (fun _ _ _ => Iff.trans (dt_a (And.left h)) (Iff.trans (dt_1 c_1 (fun n => n c_1)) (i_3 _ _ _)))) (fun a0 a1 a2 a3 a4 a5 a6 a7 h_6 i_5 => k_R190 a0 a1 a2 a3 a4 a5 a6 a7 h_6 (fun _ _ _ => Iff.trans (dt_a (And.left h)) (Iff.trans (dt_1 c_1 (fun n => n c_1)) (i_5 _ _ _)))) (fun a0 h_8 i_7 => k_K a0 h_8 (fun _ _ _ => Iff.trans (dt_a (And.left h)) (Iff.trans (dt_1 c_1 (fun n => n c_1)) (i_7 _ _ _))))
  ·
    exact d_b_makeCode_344 (And.right h_2) (fun a0 a1 a2 a3 a4 h_10 i_9 => k_R162 a0 a1 a2 a3 a4 h_10 (fun _ _ _ => Iff.trans (dt_a (And.left h)) (Iff.trans (dt_2 c_1 c_1) (Iff.trans (dt_a (And.left h_2)) (i_9 _ _ _))))) (fun a0 a1 a2 a3 a4 a5 a6 a7 h_12 i_11 => k_R190 a0 a1 a2 a3 a4 a5 a6 a7 h_12 (fun _ _ _ => Iff.trans (dt_a (And.left h)) (Iff.trans (dt_2 c_1 c_1) (Iff.trans (dt_a (And.left h_2)) (i_11 _ _ _))))) (fun a0 h_14 i_13 => k_K a0 h_14 (fun _ _ _ => Iff.trans (dt_a (And.left h)) (Iff.trans (dt_2 c_1 c_1) (Iff.trans (dt_a (And.left h_2)) (i_13 _ _ _)))))
set_option maxHeartbeats 1000000 in
theorem d_b_makeCode_273 {x1 : Int32} {x2 : Int32} {x4 : Int32} {x5 : Int32} {x6 : Int32} {x7 : Int32} {x8 : Int32} {x9 : Int32} {s0 : Int32} {S : ms} {R162 : Int32 → Int32 → Int32 → Int32 → ms → Prop} {R190 : Int32 → Int32 → Int32 → Int32 → Int32 → Int32 → Int32 → ms → Prop} {K : ms → Prop} (h : b_makeCode_273 x1 x2 x4 x5 x6 x7 x8 x9 s0 S R162 R190 K) {Q : Prop} (k_R162 : ∀ (a0 : Int32) (a1 : Int32) (a2 : Int32) (a3 : Int32) (a4 : ms), R162 a0 a1 a2 a3 a4 → (∀ (R162' : Int32 → Int32 → Int32 → Int32 → ms → Prop) (R190' : Int32 → Int32 → Int32 → Int32 → Int32 → Int32 → Int32 → ms → Prop) (K' : ms → Prop), b_makeCode_273 x1 x2 x4 x5 x6 x7 x8 x9 s0 S R162' R190' K' ↔ R162' a0 a1 a2 a3 a4) → Q) (k_R190 : ∀ (a0 : Int32) (a1 : Int32) (a2 : Int32) (a3 : Int32) (a4 : Int32) (a5 : Int32) (a6 : Int32) (a7 : ms), R190 a0 a1 a2 a3 a4 a5 a6 a7 → (∀ (R162' : Int32 → Int32 → Int32 → Int32 → ms → Prop) (R190' : Int32 → Int32 → Int32 → Int32 → Int32 → Int32 → Int32 → ms → Prop) (K' : ms → Prop), b_makeCode_273 x1 x2 x4 x5 x6 x7 x8 x9 s0 S R162' R190' K' ↔ R190' a0 a1 a2 a3 a4 a5 a6 a7) → Q) (k_K : ∀ (a0 : ms), K a0 → (∀ (R162' : Int32 → Int32 → Int32 → Int32 → ms → Prop) (R190' : Int32 → Int32 → Int32 → Int32 → Int32 → Int32 → Int32 → ms → Prop) (K' : ms → Prop), b_makeCode_273 x1 x2 x4 x5 x6 x7 x8 x9 s0 S R162' R190' K' ↔ K' a0) → Q) : Q := by
  unfold b_makeCode_273 at h
  refine dt_p h (fun c_1 h_2 => ?_) (fun c_1 h_2 => ?_)
  ·
    exact d_b_makeCode_308 h_2 (fun a0 a1 a2 a3 a4 h_4 i_3 => k_R162 a0 a1 a2 a3 a4 h_4 (fun _ _ _ => Iff.trans (dt_1 c_1 (fun n => n c_1)) (i_3 _ _ _))) (fun a0 a1 a2 a3 a4 a5 a6 a7 h_6 i_5 => k_R190 a0 a1 a2 a3 a4 a5 a6 a7 h_6 (fun _ _ _ => Iff.trans (dt_1 c_1 (fun n => n c_1)) (i_5 _ _ _))) (fun a0 h_8 i_7 => k_K a0 h_8 (fun _ _ _ => Iff.trans (dt_1 c_1 (fun n => n c_1)) (i_7 _ _ _)))
  ·
    exact d_b_makeCode_308 (And.right h_2) (fun a0 a1 a2 a3 a4 h_10 i_9 => k_R162 a0 a1 a2 a3 a4 h_10 (fun _ _ _ => Iff.trans (dt_2 c_1 c_1) (Iff.trans (dt_a (And.left h_2)) (i_9 _ _ _)))) (fun a0 a1 a2 a3 a4 a5 a6 a7 h_12 i_11 => k_R190 a0 a1 a2 a3 a4 a5 a6 a7 h_12 (fun _ _ _ => Iff.trans (dt_2 c_1 c_1) (Iff.trans (dt_a (And.left h_2)) (i_11 _ _ _)))) (fun a0 h_14 i_13 => k_K a0 h_14 (fun _ _ _ => Iff.trans (dt_2 c_1 c_1) (Iff.trans (dt_a (And.left h_2)) (i_13 _ _ _))))
set_option maxHeartbeats 1000000 in
theorem d_b_makeCode_272 {x1 : Int32} {x2 : Int32} {x4 : Int32} {x5 : Int32} {x6 : Int32} {x7 : Int32} {x8 : Int32} {x9 : Int32} {S : ms} {R162 : Int32 → Int32 → Int32 → Int32 → ms → Prop} {R190 : Int32 → Int32 → Int32 → Int32 → Int32 → Int32 → Int32 → ms → Prop} {K : ms → Prop} (h : b_makeCode_272 x1 x2 x4 x5 x6 x7 x8 x9 S R162 R190 K) {Q : Prop} (k_R162 : ∀ (a0 : Int32) (a1 : Int32) (a2 : Int32) (a3 : Int32) (a4 : ms), R162 a0 a1 a2 a3 a4 → (∀ (R162' : Int32 → Int32 → Int32 → Int32 → ms → Prop) (R190' : Int32 → Int32 → Int32 → Int32 → Int32 → Int32 → Int32 → ms → Prop) (K' : ms → Prop), b_makeCode_272 x1 x2 x4 x5 x6 x7 x8 x9 S R162' R190' K' ↔ R162' a0 a1 a2 a3 a4) → Q) (k_R190 : ∀ (a0 : Int32) (a1 : Int32) (a2 : Int32) (a3 : Int32) (a4 : Int32) (a5 : Int32) (a6 : Int32) (a7 : ms), R190 a0 a1 a2 a3 a4 a5 a6 a7 → (∀ (R162' : Int32 → Int32 → Int32 → Int32 → ms → Prop) (R190' : Int32 → Int32 → Int32 → Int32 → Int32 → Int32 → Int32 → ms → Prop) (K' : ms → Prop), b_makeCode_272 x1 x2 x4 x5 x6 x7 x8 x9 S R162' R190' K' ↔ R190' a0 a1 a2 a3 a4 a5 a6 a7) → Q) (k_K : ∀ (a0 : ms), K a0 → (∀ (R162' : Int32 → Int32 → Int32 → Int32 → ms → Prop) (R190' : Int32 → Int32 → Int32 → Int32 → Int32 → Int32 → Int32 → ms → Prop) (K' : ms → Prop), b_makeCode_272 x1 x2 x4 x5 x6 x7 x8 x9 S R162' R190' K' ↔ K' a0) → Q) : Q := by
  unfold b_makeCode_272 at h
  exact d_b_makeCode_273 h (fun a0 a1 a2 a3 a4 h_2 i_1 => k_R162 a0 a1 a2 a3 a4 h_2 (fun _ _ _ => i_1 _ _ _)) (fun a0 a1 a2 a3 a4 a5 a6 a7 h_4 i_3 => k_R190 a0 a1 a2 a3 a4 a5 a6 a7 h_4 (fun _ _ _ => i_3 _ _ _)) (fun a0 h_6 i_5 => k_K a0 h_6 (fun _ _ _ => i_5 _ _ _))
set_option maxHeartbeats 1000000 in
theorem d_b_makeCode_268 {x1 : Int32} {x2 : Int32} {x4 : Int32} {x5 : Int32} {x6 : Int32} {x7 : Int32} {x8 : Int32} {x9 : Int32} {S : ms} {R162 : Int32 → Int32 → Int32 → Int32 → ms → Prop} {R190 : Int32 → Int32 → Int32 → Int32 → Int32 → Int32 → Int32 → ms → Prop} {K : ms → Prop} (h : b_makeCode_268 x1 x2 x4 x5 x6 x7 x8 x9 S R162 R190 K) {Q : Prop} (k_R162 : ∀ (a0 : Int32) (a1 : Int32) (a2 : Int32) (a3 : Int32) (a4 : ms), R162 a0 a1 a2 a3 a4 → (∀ (R162' : Int32 → Int32 → Int32 → Int32 → ms → Prop) (R190' : Int32 → Int32 → Int32 → Int32 → Int32 → Int32 → Int32 → ms → Prop) (K' : ms → Prop), b_makeCode_268 x1 x2 x4 x5 x6 x7 x8 x9 S R162' R190' K' ↔ R162' a0 a1 a2 a3 a4) → Q) (k_R190 : ∀ (a0 : Int32) (a1 : Int32) (a2 : Int32) (a3 : Int32) (a4 : Int32) (a5 : Int32) (a6 : Int32) (a7 : ms), R190 a0 a1 a2 a3 a4 a5 a6 a7 → (∀ (R162' : Int32 → Int32 → Int32 → Int32 → ms → Prop) (R190' : Int32 → Int32 → Int32 → Int32 → Int32 → Int32 → Int32 → ms → Prop) (K' : ms → Prop), b_makeCode_268 x1 x2 x4 x5 x6 x7 x8 x9 S R162' R190' K' ↔ R190' a0 a1 a2 a3 a4 a5 a6 a7) → Q) (k_K : ∀ (a0 : ms), K a0 → (∀ (R162' : Int32 → Int32 → Int32 → Int32 → ms → Prop) (R190' : Int32 → Int32 → Int32 → Int32 → Int32 → Int32 → Int32 → ms → Prop) (K' : ms → Prop), b_makeCode_268 x1 x2 x4 x5 x6 x7 x8 x9 S R162' R190' K' ↔ K' a0) → Q) : Q := by
  unfold b_makeCode_268 at h
  exact d_b_makeCode_273 h (fun a0 a1 a2 a3 a4 h_2 i_1 => k_R162 a0 a1 a2 a3 a4 h_2 (fun _ _ _ => i_1 _ _ _)) (fun a0 a1 a2 a3 a4 a5 a6 a7 h_4 i_3 => k_R190 a0 a1 a2 a3 a4 a5 a6 a7 h_4 (fun _ _ _ => i_3 _ _ _)) (fun a0 h_6 i_5 => k_K a0 h_6 (fun _ _ _ => i_5 _ _ _))
set_option maxHeartbeats 1000000 in
theorem d_b_makeCode_241 {x1 : Int32} {x2 : Int32} {x4 : Int32} {x5 : Int32} {x6 : Int32} {x7 : Int32} {x8 : Int32} {s0 : Int32} {S : ms} {R162 : Int32 → Int32 → Int32 → Int32 → ms → Prop} {R190 : Int32 → Int32 → Int32 → Int32 → Int32 → Int32 → Int32 → ms → Prop} {K : ms → Prop} (h : b_makeCode_241 x1 x2 x4 x5 x6 x7 x8 s0 S R162 R190 K) {Q : Prop} (k_R162 : ∀ (a0 : Int32) (a1 : Int32) (a2 : Int32) (a3 : Int32) (a4 : ms), R162 a0 a1 a2 a3 a4 → (∀ (R162' : Int32 → Int32 → Int32 → Int32 → ms → Prop) (R190' : Int32 → Int32 → Int32 → Int32 → Int32 → Int32 → Int32 → ms → Prop) (K' : ms → Prop), b_makeCode_241 x1 x2 x4 x5 x6 x7 x8 s0 S R162' R190' K' ↔ R162' a0 a1 a2 a3 a4) → Q) (k_R190 : ∀ (a0 : Int32) (a1 : Int32) (a2 : Int32) (a3 : Int32) (a4 : Int32) (a5 : Int32) (a6 : Int32) (a7 : ms), R190 a0 a1 a2 a3 a4 a5 a6 a7 → (∀ (R162' : Int32 → Int32 → Int32 → Int32 → ms → Prop) (R190' : Int32 → Int32 → Int32 → Int32 → Int32 → Int32 → Int32 → ms → Prop) (K' : ms → Prop), b_makeCode_241 x1 x2 x4 x5 x6 x7 x8 s0 S R162' R190' K' ↔ R190' a0 a1 a2 a3 a4 a5 a6 a7) → Q) (k_K : ∀ (a0 : ms), K a0 → (∀ (R162' : Int32 → Int32 → Int32 → Int32 → ms → Prop) (R190' : Int32 → Int32 → Int32 → Int32 → Int32 → Int32 → Int32 → ms → Prop) (K' : ms → Prop), b_makeCode_241 x1 x2 x4 x5 x6 x7 x8 s0 S R162' R190' K' ↔ K' a0) → Q) : Q := by
  unfold b_makeCode_241 at h
  refine dt_p h (fun c_1 h_2 => ?_) (fun c_1 h_2 => ?_)
  ·
    exact d_b_makeCode_268 h_2 (fun a0 a1 a2 a3 a4 h_4 i_3 => k_R162 a0 a1 a2 a3 a4 h_4 (fun _ _ _ => Iff.trans (dt_1 c_1 (fun n => n c_1)) (i_3 _ _ _))) (fun a0 a1 a2 a3 a4 a5 a6 a7 h_6 i_5 => k_R190 a0 a1 a2 a3 a4 a5 a6 a7 h_6 (fun _ _ _ => Iff.trans (dt_1 c_1 (fun n => n c_1)) (i_5 _ _ _))) (fun a0 h_8 i_7 => k_K a0 h_8 (fun _ _ _ => Iff.trans (dt_1 c_1 (fun n => n c_1)) (i_7 _ _ _)))
  ·
    refine dt_p h_2 (fun c_9 h_10 => ?_) (fun c_9 h_10 => ?_)
    ·
      exact d_b_makeCode_272 h_10 (fun a0 a1 a2 a3 a4 h_12 i_11 => k_R162 a0 a1 a2 a3 a4 h_12 (fun _ _ _ => Iff.trans (dt_2 c_1 c_1) (Iff.trans (dt_1 c_9 (fun n => n c_9)) (i_11 _ _ _)))) (fun a0 a1 a2 a3 a4 a5 a6 a7 h_14 i_13 => k_R190 a0 a1 a2 a3 a4 a5 a6 a7 h_14 (fun _ _ _ => Iff.trans (dt_2 c_1 c_1) (Iff.trans (dt_1 c_9 (fun n => n c_9)) (i_13 _ _ _)))) (fun a0 h_16 i_15 => k_K a0 h_16 (fun _ _ _ => Iff.trans (dt_2 c_1 c_1) (Iff.trans (dt_1 c_9 (fun n => n c_9)) (i_15 _ _ _))))
    ·
      refine dt_p (And.right h_10) (fun c_17 h_18 => ?_) (fun c_17 h_18 => ?_)
      ·
        exact d_b_makeCode_272 h_18 (fun a0 a1 a2 a3 a4 h_20 i_19 => k_R162 a0 a1 a2 a3 a4 h_20 (fun _ _ _ => Iff.trans (dt_2 c_1 c_1) (Iff.trans (dt_2 c_9 c_9) (Iff.trans (dt_a (And.left h_10)) (Iff.trans (dt_1 c_17 (fun n => n c_17)) (i_19 _ _ _)))))) (fun a0 a1 a2 a3 a4 a5 a6 a7 h_22 i_21 => k_R190 a0 a1 a2 a3 a4 a5 a6 a7 h_22 (fun _ _ _ => Iff.trans (dt_2 c_1 c_1) (Iff.trans (dt_2 c_9 c_9) (Iff.trans (dt_a (And.left h_10)) (Iff.trans (dt_1 c_17 (fun n => n c_17)) (i_21 _ _ _)))))) (fun a0 h_24 i_23 => k_K a0 h_24 (fun _ _ _ => Iff.trans (dt_2 c_1 c_1) (Iff.trans (dt_2 c_9 c_9) (Iff.trans (dt_a (And.left h_10)) (Iff.trans (dt_1 c_17 (fun n => n c_17)) (i_23 _ _ _))))))
      ·
        exact d_b_makeCode_268 h_18 (fun a0 a1 a2 a3 a4 h_26 i_25 => k_R162 a0 a1 a2 a3 a4 h_26 (fun _ _ _ => Iff.trans (dt_2 c_1 c_1) (Iff.trans (dt_2 c_9 c_9) (Iff.trans (dt_a (And.left h_10)) (Iff.trans (dt_2 c_17 c_17) (i_25 _ _ _)))))) (fun a0 a1 a2 a3 a4 a5 a6 a7 h_28 i_27 => k_R190 a0 a1 a2 a3 a4 a5 a6 a7 h_28 (fun _ _ _ => Iff.trans (dt_2 c_1 c_1) (Iff.trans (dt_2 c_9 c_9) (Iff.trans (dt_a (And.left h_10)) (Iff.trans (dt_2 c_17 c_17) (i_27 _ _ _)))))) (fun a0 h_30 i_29 => k_K a0 h_30 (fun _ _ _ => Iff.trans (dt_2 c_1 c_1) (Iff.trans (dt_2 c_9 c_9) (Iff.trans (dt_a (And.left h_10)) (Iff.trans (dt_2 c_17 c_17) (i_29 _ _ _))))))
set_option maxHeartbeats 1000000 in
theorem d_b_makeCode_203 {x1 : Int32} {x2 : Int32} {x4 : Int32} {x5 : Int32} {x6 : Int32} {x7 : Int32} {x8 : Int32} {S : ms} {R162 : Int32 → Int32 → Int32 → Int32 → ms → Prop} {R190 : Int32 → Int32 → Int32 → Int32 → Int32 → Int32 → Int32 → ms → Prop} {K : ms → Prop} (h : b_makeCode_203 x1 x2 x4 x5 x6 x7 x8 S R162 R190 K) {Q : Prop} (k_R162 : ∀ (a0 : Int32) (a1 : Int32) (a2 : Int32) (a3 : Int32) (a4 : ms), R162 a0 a1 a2 a3 a4 → (∀ (R162' : Int32 → Int32 → Int32 → Int32 → ms → Prop) (R190' : Int32 → Int32 → Int32 → Int32 → Int32 → Int32 → Int32 → ms → Prop) (K' : ms → Prop), b_makeCode_203 x1 x2 x4 x5 x6 x7 x8 S R162' R190' K' ↔ R162' a0 a1 a2 a3 a4) → Q) (k_R190 : ∀ (a0 : Int32) (a1 : Int32) (a2 : Int32) (a3 : Int32) (a4 : Int32) (a5 : Int32) (a6 : Int32) (a7 : ms), R190 a0 a1 a2 a3 a4 a5 a6 a7 → (∀ (R162' : Int32 → Int32 → Int32 → Int32 → ms → Prop) (R190' : Int32 → Int32 → Int32 → Int32 → Int32 → Int32 → Int32 → ms → Prop) (K' : ms → Prop), b_makeCode_203 x1 x2 x4 x5 x6 x7 x8 S R162' R190' K' ↔ R190' a0 a1 a2 a3 a4 a5 a6 a7) → Q) (k_K : ∀ (a0 : ms), K a0 → (∀ (R162' : Int32 → Int32 → Int32 → Int32 → ms → Prop) (R190' : Int32 → Int32 → Int32 → Int32 → Int32 → Int32 → Int32 → ms → Prop) (K' : ms → Prop), b_makeCode_203 x1 x2 x4 x5 x6 x7 x8 S R162' R190' K' ↔ K' a0) → Q) : Q := by
  unfold b_makeCode_203 at h
  refine dt_p h (fun c_1 h_2 => ?_) (fun c_1 h_2 => ?_)
  ·
    exact d_b_makeCode_241 h_2 (fun a0 a1 a2 a3 a4 h_4 i_3 => k_R162 a0 a1 a2 a3 a4 h_4 (fun _ _ _ => Iff.trans (dt_1 c_1 (fun n => n c_1)) (i_3 _ _ _))) (fun a0 a1 a2 a3 a4 a5 a6 a7 h_6 i_5 => k_R190 a0 a1 a2 a3 a4 a5 a6 a7 h_6 (fun _ _ _ => Iff.trans (dt_1 c_1 (fun n => n c_1)) (i_5 _ _ _))) (fun a0 h_8 i_7 => k_K a0 h_8 (fun _ _ _ => Iff.trans (dt_1 c_1 (fun n => n c_1)) (i_7 _ _ _)))
  ·
    exact d_b_makeCode_241 (And.right (And.right h_2)) (fun a0 a1 a2 a3 a4 h_10 i_9 => k_R162 a0 a1 a2 a3 a4 h_10 (fun _ _ _ => Iff.trans (dt_2 c_1 c_1) (Iff.trans (dt_a (And.left h_2)) (Iff.trans (dt_a (And.left (And.right h_2))) (i_9 _ _ _))))) (fun a0 a1 a2 a3 a4 a5 a6 a7 h_12 i_11 => k_R190 a0 a1 a2 a3 a4 a5 a6 a7 h_12 (fun _ _ _ => Iff.trans (dt_2 c_1 c_1) (Iff.trans (dt_a (And.left h_2)) (Iff.trans (dt_a (And.left (And.right h_2))) (i_11 _ _ _))))) (fun a0 h_14 i_13 => k_K a0 h_14 (fun _ _ _ => Iff.trans (dt_2 c_1 c_1) (Iff.trans (dt_a (And.left h_2)) (Iff.trans (dt_a (And.left (And.right h_2))) (i_13 _ _ _)))))
set_option maxHeartbeats 1000000 in
theorem d_b_makeCode_190 {x1 : Int32} {x2 : Int32} {x4 : Int32} {x5 : Int32} {x6 : Int32} {x7 : Int32} {x8 : Int32} {S : ms} {R162 : Int32 → Int32 → Int32 → Int32 → ms → Prop} {R190 : Int32 → Int32 → Int32 → Int32 → Int32 → Int32 → Int32 → ms → Prop} {K : ms → Prop} (h : b_makeCode_190 x1 x2 x4 x5 x6 x7 x8 S R162 R190 K) {Q : Prop} (k_R162 : ∀ (a0 : Int32) (a1 : Int32) (a2 : Int32) (a3 : Int32) (a4 : ms), R162 a0 a1 a2 a3 a4 → (∀ (R162' : Int32 → Int32 → Int32 → Int32 → ms → Prop) (R190' : Int32 → Int32 → Int32 → Int32 → Int32 → Int32 → Int32 → ms → Prop) (K' : ms → Prop), b_makeCode_190 x1 x2 x4 x5 x6 x7 x8 S R162' R190' K' ↔ R162' a0 a1 a2 a3 a4) → Q) (k_R190 : ∀ (a0 : Int32) (a1 : Int32) (a2 : Int32) (a3 : Int32) (a4 : Int32) (a5 : Int32) (a6 : Int32) (a7 : ms), R190 a0 a1 a2 a3 a4 a5 a6 a7 → (∀ (R162' : Int32 → Int32 → Int32 → Int32 → ms → Prop) (R190' : Int32 → Int32 → Int32 → Int32 → Int32 → Int32 → Int32 → ms → Prop) (K' : ms → Prop), b_makeCode_190 x1 x2 x4 x5 x6 x7 x8 S R162' R190' K' ↔ R190' a0 a1 a2 a3 a4 a5 a6 a7) → Q) (k_K : ∀ (a0 : ms), K a0 → (∀ (R162' : Int32 → Int32 → Int32 → Int32 → ms → Prop) (R190' : Int32 → Int32 → Int32 → Int32 → Int32 → Int32 → Int32 → ms → Prop) (K' : ms → Prop), b_makeCode_190 x1 x2 x4 x5 x6 x7 x8 S R162' R190' K' ↔ K' a0) → Q) : Q := by
  unfold b_makeCode_190 at h
  refine dt_p h (fun c_1 h_2 => ?_) (fun c_1 h_2 => ?_)
  ·
    exact d_b_makeCode_203 h_2 (fun a0 a1 a2 a3 a4 h_4 i_3 => k_R162 a0 a1 a2 a3 a4 h_4 (fun _ _ _ => Iff.trans (dt_1 c_1 (fun n => n c_1)) (i_3 _ _ _))) (fun a0 a1 a2 a3 a4 a5 a6 a7 h_6 i_5 => k_R190 a0 a1 a2 a3 a4 a5 a6 a7 h_6 (fun _ _ _ => Iff.trans (dt_1 c_1 (fun n => n c_1)) (i_5 _ _ _))) (fun a0 h_8 i_7 => k_K a0 h_8 (fun _ _ _ => Iff.trans (dt_1 c_1 (fun n => n c_1)) (i_7 _ _ _)))
  ·
    refine dt_p h_2 (fun c_9 h_10 => ?_) (fun c_9 h_10 => ?_)
    ·
      exact k_R162 _ _ _ _ _ h_10 (fun _ _ _ => Iff.trans (dt_2 c_1 c_1) (dt_1 c_9 (fun n => n c_9)))
    ·
      exact d_b_makeCode_203 h_10 (fun a0 a1 a2 a3 a4 h_12 i_11 => k_R162 a0 a1 a2 a3 a4 h_12 (fun _ _ _ => Iff.trans (dt_2 c_1 c_1) (Iff.trans (dt_2 c_9 c_9) (i_11 _ _ _)))) (fun a0 a1 a2 a3 a4 a5 a6 a7 h_14 i_13 => k_R190 a0 a1 a2 a3 a4 a5 a6 a7 h_14 (fun _ _ _ => Iff.trans (dt_2 c_1 c_1) (Iff.trans (dt_2 c_9 c_9) (i_13 _ _ _)))) (fun a0 h_16 i_15 => k_K a0 h_16 (fun _ _ _ => Iff.trans (dt_2 c_1 c_1) (Iff.trans (dt_2 c_9 c_9) (i_15 _ _ _))))
theorem l_e_makeCode_190  {x1 : Int32} {x2 : Int32} {x4 : Int32} {x5 : Int32} {x6 : Int32} {x7 : Int32} {x8 : Int32} {S : ms} {R162 : Int32 → Int32 → Int32 → Int32 → ms → Prop} {K : ms → Prop} : e_makeCode_190 x1 x2 x4 x5 x6 x7 x8 S R162 K ↔ lpE (C := (Int32 → Int32 → Int32 → Int32 → ms → Prop) × (ms → Prop)) (fun (y : (Int32) × (Int32) × (Int32) × (Int32) × (Int32) × (Int32) × (Int32) × (ms)) (R : ((Int32) × (Int32) × (Int32) × (Int32) × (Int32) × (Int32) × (Int32) × (ms)) → Prop) (c : (Int32 → Int32 → Int32 → Int32 → ms → Prop) × (ms → Prop)) => b_makeCode_190 y.1 y.2.1 y.2.2.1 y.2.2.2.1 y.2.2.2.2.1 y.2.2.2.2.2.1 y.2.2.2.2.2.2.1 y.2.2.2.2.2.2.2 c.1 (fun z0 z1 z2 z3 z4 z5 z6 z7 => R (z0, z1, z2, z3, z4, z5, z6, z7)) c.2) (x1, x2, x4, x5, x6, x7, x8, S) (R162, K) :=
  ⟨fun ⟨I, μ, h0, hs⟩ => ⟨fun t => I t.1 t.2.1 t.2.2.1 t.2.2.2.1 t.2.2.2.2.1 t.2.2.2.2.2.1 t.2.2.2.2.2.2.1 t.2.2.2.2.2.2.2, fun t => μ t.1 t.2.1 t.2.2.1 t.2.2.2.1 t.2.2.2.2.1 t.2.2.2.2.2.1 t.2.2.2.2.2.2.1 t.2.2.2.2.2.2.2, h0, fun t ht => hs _ _ _ _ _ _ _ _ ht⟩, fun ⟨I, μ, h0, hs⟩ => ⟨fun y0 y1 y2 y3 y4 y5 y6 y7 => I (y0, y1, y2, y3, y4, y5, y6, y7), fun y0 y1 y2 y3 y4 y5 y6 y7 => μ (y0, y1, y2, y3, y4, y5, y6, y7), h0, fun y0 y1 y2 y3 y4 y5 y6 y7 hy => hs (y0, y1, y2, y3, y4, y5, y6, y7) hy⟩⟩
set_option maxHeartbeats 1000000 in
theorem d_e_makeCode_190 {x1 : Int32} {x2 : Int32} {x4 : Int32} {x5 : Int32} {x6 : Int32} {x7 : Int32} {x8 : Int32} {S : ms} {R162 : Int32 → Int32 → Int32 → Int32 → ms → Prop} {K : ms → Prop} (h : e_makeCode_190 x1 x2 x4 x5 x6 x7 x8 S R162 K) {Q : Prop} (k_R162 : ∀ (a0 : Int32) (a1 : Int32) (a2 : Int32) (a3 : Int32) (a4 : ms), R162 a0 a1 a2 a3 a4 → (∀ (R162' : Int32 → Int32 → Int32 → Int32 → ms → Prop) (K' : ms → Prop), e_makeCode_190 x1 x2 x4 x5 x6 x7 x8 S R162' K' ↔ R162' a0 a1 a2 a3 a4) → Q) (k_K : ∀ (a0 : ms), K a0 → (∀ (R162' : Int32 → Int32 → Int32 → Int32 → ms → Prop) (K' : ms → Prop), e_makeCode_190 x1 x2 x4 x5 x6 x7 x8 S R162' K' ↔ K' a0) → Q) : Q := by
  obtain ⟨o, ho, hoc, hi⟩ := lp_det (C := (Int32 → Int32 → Int32 → Int32 → ms → Prop) × (ms → Prop)) (b := (fun (y : (Int32) × (Int32) × (Int32) × (Int32) × (Int32) × (Int32) × (Int32) × (ms)) (R : ((Int32) × (Int32) × (Int32) × (Int32) × (Int32) × (Int32) × (Int32) × (ms)) → Prop) (c : (Int32 → Int32 → Int32 → Int32 → ms → Prop) × (ms → Prop)) => b_makeCode_190 y.1 y.2.1 y.2.2.1 y.2.2.2.1 y.2.2.2.2.1 y.2.2.2.2.2.1 y.2.2.2.2.2.2.1 y.2.2.2.2.2.2.2 c.1 (fun z0 z1 z2 z3 z4 z5 z6 z7 => R (z0, z1, z2, z3, z4, z5, z6, z7)) c.2)) (O := (fun (o : ((Int32 → Int32 → Int32 → Int32 → ms → Prop) × (ms → Prop)) → Prop) => (∃ (a0 : Int32) (a1 : Int32) (a2 : Int32) (a3 : Int32) (a4 : ms), o = fun c => c.1 a0 a1 a2 a3 a4) ∨ (∃ (a0 : ms), o = fun c => c.2 a0))) (fun y R c hy => d_b_makeCode_190 hy (fun a0 a1 a2 a3 a4 ha ia => Or.inr ⟨(fun c => c.1 a0 a1 a2 a3 a4), Or.inl ⟨a0, a1, a2, a3, a4, rfl⟩, ha, fun R' c' => ia c'.1 (fun z0 z1 z2 z3 z4 z5 z6 z7 => R' (z0, z1, z2, z3, z4, z5, z6, z7)) c'.2⟩) (fun a0 a1 a2 a3 a4 a5 a6 a7 ha ia => Or.inl ⟨(a0, a1, a2, a3, a4, a5, a6, a7), ha, fun R' c' => ia c'.1 (fun z0 z1 z2 z3 z4 z5 z6 z7 => R' (z0, z1, z2, z3, z4, z5, z6, z7)) c'.2⟩) (fun a0 ha ia => Or.inr ⟨(fun c => c.2 a0), Or.inr (⟨a0, rfl⟩), ha, fun R' c' => ia c'.1 (fun z0 z1 z2 z3 z4 z5 z6 z7 => R' (z0, z1, z2, z3, z4, z5, z6, z7)) c'.2⟩)) (l_e_makeCode_190.mp h)
  rcases ho with ⟨a0, a1, a2, a3, a4, rfl⟩ | ⟨a0, rfl⟩
  · exact k_R162 _ _ _ _ _ hoc (fun R162' K' => Iff.trans l_e_makeCode_190 (hi (R162', K')))
  · exact k_K _ hoc (fun R162' K' => Iff.trans l_e_makeCode_190 (hi (R162', K')))
theorem v_e_makeCode_190 {x1 : Int32} {x2 : Int32} {x4 : Int32} {x5 : Int32} {x6 : Int32} {x7 : Int32} {x8 : Int32} {S : ms} {R162 : Int32 → Int32 → Int32 → Int32 → ms → Prop} {K : ms → Prop} (h : e_makeCode_190 x1 x2 x4 x5 x6 x7 x8 S R162 K) {G : Prop} (Inv : Int32 → Int32 → ms → Prop) (h0 : Inv x6 x7 S) (hs : ∀ (yx6 : Int32) (yx7 : Int32) (yS : ms) (R : Int32 → Int32 → Int32 → Int32 → Int32 → Int32 → Int32 → ms → Prop), Inv yx6 yx7 yS → b_makeCode_190 x1 x2 x4 x5 yx6 yx7 x8 yS R162 R K → (∃ (zx6 : Int32) (zx7 : Int32) (zS : ms), R x1 x2 x4 x5 zx6 zx7 x8 zS ∧ Inv zx6 zx7 zS) ∨ G) : G := by
  obtain ⟨I, μ, i0, is⟩ := h
  have go : ∀ (n : Nat) (yx6 : Int32) (yx7 : Int32) (yS : ms), μ x1 x2 x4 x5 yx6 yx7 x8 yS < n → I x1 x2 x4 x5 yx6 yx7 x8 yS → Inv yx6 yx7 yS → G := by
    intro n
    induction n with
    | zero => intro yx6 yx7 yS hy; exact absurd hy (Nat.not_lt_zero _)
    | succ n ih =>
      intro yx6 yx7 yS hy hI hV
      rcases hs yx6 yx7 yS _ hV (is x1 x2 x4 x5 yx6 yx7 x8 yS hI) with ⟨zx6, zx7, zS, ⟨hz, hm⟩, hv⟩ | g
      · exact ih zx6 zx7 zS (Nat.lt_of_lt_of_le hm (Nat.le_of_lt_succ hy)) hz hv
      · exact g
  exact go _ x6 x7 S (Nat.lt_succ_self _) i0 h0
theorem r_e_makeCode_190 {x1 : Int32} {x2 : Int32} {x4 : Int32} {x5 : Int32} {x6 : Int32} {x7 : Int32} {x8 : Int32} {S : ms} {R162 : Int32 → Int32 → Int32 → Int32 → ms → Prop} {K : ms → Prop} (h : e_makeCode_190 x1 x2 x4 x5 x6 x7 x8 S R162 K) : b_makeCode_190 x1 x2 x4 x5 x6 x7 x8 S R162 (fun zx1 zx2 zx4 zx5 zx6 zx7 zx8 zS => e_makeCode_190 zx1 zx2 zx4 zx5 zx6 zx7 zx8 zS R162 K) K := by
  obtain ⟨I, μ, i0, is⟩ := h
  exact d_b_makeCode_190 (is x1 x2 x4 x5 x6 x7 x8 S i0) (fun a0 a1 a2 a3 a4 ha ia => (ia _ _ _).mpr ha) (fun a0 a1 a2 a3 a4 a5 a6 a7 ha ia => (ia _ _ _).mpr ⟨I, μ, ha.1, is⟩) (fun a0 ha ia => (ia _ _ _).mpr ha)
set_option maxHeartbeats 1000000 in
theorem d_b_makeCode_162 {x1 : Int32} {x2 : Int32} {x3 : Int32} {x4 : Int32} {S : ms} {R162 : Int32 → Int32 → Int32 → Int32 → ms → Prop} {K : ms → Prop} (h : b_makeCode_162 x1 x2 x3 x4 S R162 K) {Q : Prop} (k_R162 : ∀ (a0 : Int32) (a1 : Int32) (a2 : Int32) (a3 : Int32) (a4 : ms), R162 a0 a1 a2 a3 a4 → (∀ (R162' : Int32 → Int32 → Int32 → Int32 → ms → Prop) (K' : ms → Prop), b_makeCode_162 x1 x2 x3 x4 S R162' K' ↔ R162' a0 a1 a2 a3 a4) → Q) (k_K : ∀ (a0 : ms), K a0 → (∀ (R162' : Int32 → Int32 → Int32 → Int32 → ms → Prop) (K' : ms → Prop), b_makeCode_162 x1 x2 x3 x4 S R162' K' ↔ K' a0) → Q) : Q := by
  unfold b_makeCode_162 at h
  refine dt_p h (fun c_1 h_2 => ?_) (fun c_1 h_2 => ?_)
  ·
    exact d_e_makeCode_394 h_2 (fun a0 h_4 i_3 => k_K a0 h_4 (fun _ _ => Iff.trans (dt_1 c_1 (fun n => n c_1)) (i_3 _)))
  ·
    exact d_e_makeCode_190 h_2 (fun a0 a1 a2 a3 a4 h_6 i_5 => k_R162 a0 a1 a2 a3 a4 h_6 (fun _ _ => Iff.trans (dt_2 c_1 c_1) (i_5 _ _))) (fun a0 h_8 i_7 => k_K a0 h_8 (fun _ _ => Iff.trans (dt_2 c_1 c_1) (i_7 _ _)))
theorem l_e_makeCode_162  {x1 : Int32} {x2 : Int32} {x3 : Int32} {x4 : Int32} {S : ms} {K : ms → Prop} : e_makeCode_162 x1 x2 x3 x4 S K ↔ lpE (C := (ms → Prop)) (fun (y : (Int32) × (Int32) × (Int32) × (Int32) × (ms)) (R : ((Int32) × (Int32) × (Int32) × (Int32) × (ms)) → Prop) (c : (ms → Prop)) => b_makeCode_162 y.1 y.2.1 y.2.2.1 y.2.2.2.1 y.2.2.2.2 (fun z0 z1 z2 z3 z4 => R (z0, z1, z2, z3, z4)) c) (x1, x2, x3, x4, S) K :=
  ⟨fun ⟨I, μ, h0, hs⟩ => ⟨fun t => I t.1 t.2.1 t.2.2.1 t.2.2.2.1 t.2.2.2.2, fun t => μ t.1 t.2.1 t.2.2.1 t.2.2.2.1 t.2.2.2.2, h0, fun t ht => hs _ _ _ _ _ ht⟩, fun ⟨I, μ, h0, hs⟩ => ⟨fun y0 y1 y2 y3 y4 => I (y0, y1, y2, y3, y4), fun y0 y1 y2 y3 y4 => μ (y0, y1, y2, y3, y4), h0, fun y0 y1 y2 y3 y4 hy => hs (y0, y1, y2, y3, y4) hy⟩⟩
set_option maxHeartbeats 1000000 in
theorem d_e_makeCode_162 {x1 : Int32} {x2 : Int32} {x3 : Int32} {x4 : Int32} {S : ms} {K : ms → Prop} (h : e_makeCode_162 x1 x2 x3 x4 S K) {Q : Prop} (k_K : ∀ (a0 : ms), K a0 → (∀ (K' : ms → Prop), e_makeCode_162 x1 x2 x3 x4 S K' ↔ K' a0) → Q) : Q := by
  obtain ⟨o, ho, hoc, hi⟩ := lp_det (C := (ms → Prop)) (b := (fun (y : (Int32) × (Int32) × (Int32) × (Int32) × (ms)) (R : ((Int32) × (Int32) × (Int32) × (Int32) × (ms)) → Prop) (c : (ms → Prop)) => b_makeCode_162 y.1 y.2.1 y.2.2.1 y.2.2.2.1 y.2.2.2.2 (fun z0 z1 z2 z3 z4 => R (z0, z1, z2, z3, z4)) c)) (O := (fun (o : ((ms → Prop)) → Prop) => (∃ (a0 : ms), o = fun c => c a0))) (fun y R c hy => d_b_makeCode_162 hy (fun a0 a1 a2 a3 a4 ha ia => Or.inl ⟨(a0, a1, a2, a3, a4), ha, fun R' c' => ia (fun z0 z1 z2 z3 z4 => R' (z0, z1, z2, z3, z4)) c'⟩) (fun a0 ha ia => Or.inr ⟨(fun c => c a0), ⟨a0, rfl⟩, ha, fun R' c' => ia (fun z0 z1 z2 z3 z4 => R' (z0, z1, z2, z3, z4)) c'⟩)) (l_e_makeCode_162.mp h)
  rcases ho with ⟨a0, rfl⟩
  · exact k_K _ hoc (fun K' => Iff.trans l_e_makeCode_162 (hi K'))
theorem v_e_makeCode_162 {x1 : Int32} {x2 : Int32} {x3 : Int32} {x4 : Int32} {S : ms} {K : ms → Prop} (h : e_makeCode_162 x1 x2 x3 x4 S K) {G : Prop} (Inv : Int32 → Int32 → ms → Prop) (h0 : Inv x3 x4 S) (hs : ∀ (yx3 : Int32) (yx4 : Int32) (yS : ms) (R : Int32 → Int32 → Int32 → Int32 → ms → Prop), Inv yx3 yx4 yS → b_makeCode_162 x1 x2 yx3 yx4 yS R K → (∃ (zx3 : Int32) (zx4 : Int32) (zS : ms), R x1 x2 zx3 zx4 zS ∧ Inv zx3 zx4 zS) ∨ G) : G := by
  obtain ⟨I, μ, i0, is⟩ := h
  have go : ∀ (n : Nat) (yx3 : Int32) (yx4 : Int32) (yS : ms), μ x1 x2 yx3 yx4 yS < n → I x1 x2 yx3 yx4 yS → Inv yx3 yx4 yS → G := by
    intro n
    induction n with
    | zero => intro yx3 yx4 yS hy; exact absurd hy (Nat.not_lt_zero _)
    | succ n ih =>
      intro yx3 yx4 yS hy hI hV
      rcases hs yx3 yx4 yS _ hV (is x1 x2 yx3 yx4 yS hI) with ⟨zx3, zx4, zS, ⟨hz, hm⟩, hv⟩ | g
      · exact ih zx3 zx4 zS (Nat.lt_of_lt_of_le hm (Nat.le_of_lt_succ hy)) hz hv
      · exact g
  exact go _ x3 x4 S (Nat.lt_succ_self _) i0 h0
theorem r_e_makeCode_162 {x1 : Int32} {x2 : Int32} {x3 : Int32} {x4 : Int32} {S : ms} {K : ms → Prop} (h : e_makeCode_162 x1 x2 x3 x4 S K) : b_makeCode_162 x1 x2 x3 x4 S (fun zx1 zx2 zx3 zx4 zS => e_makeCode_162 zx1 zx2 zx3 zx4 zS K) K := by
  obtain ⟨I, μ, i0, is⟩ := h
  exact d_b_makeCode_162 (is x1 x2 x3 x4 S i0) (fun a0 a1 a2 a3 a4 ha ia => (ia _ _).mpr ⟨I, μ, ha.1, is⟩) (fun a0 ha ia => (ia _ _).mpr ha)
set_option maxHeartbeats 1000000 in
theorem d_b_makeCode_151 {x1 : Int32} {x2 : Int32} {x3 : Int32} {S : ms} {R4 : Int32 → Int32 → Int32 → ms → Prop} {K : ms → Prop} (h : b_makeCode_151 x1 x2 x3 S R4 K) {Q : Prop} (k_R4 : ∀ (a0 : Int32) (a1 : Int32) (a2 : Int32) (a3 : ms), R4 a0 a1 a2 a3 → (∀ (R4' : Int32 → Int32 → Int32 → ms → Prop) (K' : ms → Prop), b_makeCode_151 x1 x2 x3 S R4' K' ↔ R4' a0 a1 a2 a3) → Q) (k_K : ∀ (a0 : ms), K a0 → (∀ (R4' : Int32 → Int32 → Int32 → ms → Prop) (K' : ms → Prop), b_makeCode_151 x1 x2 x3 S R4' K' ↔ K' a0) → Q) : Q := by
  unfold b_makeCode_151 at h
  exact k_R4 _ _ _ _ h (fun _ _ => Iff.rfl)
set_option maxHeartbeats 1000000 in
theorem d_b_makeCode_131 {x1 : Int32} {x2 : Int32} {x3 : Int32} {x4 : Int32} {x5 : Int32} {S : ms} {R4 : Int32 → Int32 → Int32 → ms → Prop} {K : ms → Prop} (h : b_makeCode_131 x1 x2 x3 x4 x5 S R4 K) {Q : Prop} (k_R4 : ∀ (a0 : Int32) (a1 : Int32) (a2 : Int32) (a3 : ms), R4 a0 a1 a2 a3 → (∀ (R4' : Int32 → Int32 → Int32 → ms → Prop) (K' : ms → Prop), b_makeCode_131 x1 x2 x3 x4 x5 S R4' K' ↔ R4' a0 a1 a2 a3) → Q) (k_K : ∀ (a0 : ms), K a0 → (∀ (R4' : Int32 → Int32 → Int32 → ms → Prop) (K' : ms → Prop), b_makeCode_131 x1 x2 x3 x4 x5 S R4' K' ↔ K' a0) → Q) : Q := by
  unfold b_makeCode_131 at h
  exact d_b_makeCode_151 (And.right (And.right h)) (fun a0 a1 a2 a3 h_2 i_1 => k_R4 a0 a1 a2 a3 h_2 (fun _ _ => Iff.trans (dt_a (And.left h)) (Iff.trans (dt_a (And.left (And.right h))) (i_1 _ _)))) (fun a0 h_4 i_3 => k_K a0 h_4 (fun _ _ => Iff.trans (dt_a (And.left h)) (Iff.trans (dt_a (And.left (And.right h))) (i_3 _ _))))
set_option maxHeartbeats 1000000 in
theorem d_b_makeCode_74 {x1 : Int32} {x2 : Int32} {x3 : Int32} {x4 : Int32} {x5 : Int32} {S : ms} {R4 : Int32 → Int32 → Int32 → ms → Prop} {R74 : Int32 → Int32 → Int32 → Int32 → Int32 → ms → Prop} {K : ms → Prop} (h : b_makeCode_74 x1 x2 x3 x4 x5 S R4 R74 K) {Q : Prop} (k_R4 : ∀ (a0 : Int32) (a1 : Int32) (a2 : Int32) (a3 : ms), R4 a0 a1 a2 a3 → (∀ (R4' : Int32 → Int32 → Int32 → ms → Prop) (R74' : Int32 → Int32 → Int32 → Int32 → Int32 → ms → Prop) (K' : ms → Prop), b_makeCode_74 x1 x2 x3 x4 x5 S R4' R74' K' ↔ R4' a0 a1 a2 a3) → Q) (k_R74 : ∀ (a0 : Int32) (a1 : Int32) (a2 : Int32) (a3 : Int32) (a4 : Int32) (a5 : ms), R74 a0 a1 a2 a3 a4 a5 → (∀ (R4' : Int32 → Int32 → Int32 → ms → Prop) (R74' : Int32 → Int32 → Int32 → Int32 → Int32 → ms → Prop) (K' : ms → Prop), b_makeCode_74 x1 x2 x3 x4 x5 S R4' R74' K' ↔ R74' a0 a1 a2 a3 a4 a5) → Q) (k_K : ∀ (a0 : ms), K a0 → (∀ (R4' : Int32 → Int32 → Int32 → ms → Prop) (R74' : Int32 → Int32 → Int32 → Int32 → Int32 → ms → Prop) (K' : ms → Prop), b_makeCode_74 x1 x2 x3 x4 x5 S R4' R74' K' ↔ K' a0) → Q) : Q := by
  unfold b_makeCode_74 at h
  refine dt_p h (fun c_1 h_2 => ?_) (fun c_1 h_2 => ?_)
  ·
    exact d_b_makeCode_131 h_2 (fun a0 a1 a2 a3 h_4 i_3 => k_R4 a0 a1 a2 a3 h_4 (fun _ _ _ => Iff.trans (dt_1 c_1 (fun n => n c_1)) (i_3 _ _))) (fun a0 h_6 i_5 => k_K a0 h_6 (fun _ _ _ => Iff.trans (dt_1 c_1 (fun n => n c_1)) (i_5 _ _)))
  ·
    refine dt_p (And.right h_2) (fun c_7 h_8 => ?_) (fun c_7 h_8 => ?_)
    ·
      exact d_b_makeCode_131 h_8 (fun a0 a1 a2 a3 h_10 i_9 => k_R4 a0 a1 a2 a3 h_10 (fun _ _ _ => Iff.trans (dt_2 c_1 c_1) (Iff.trans (dt_a (And.left h_2)) (Iff.trans (dt_1 c_7 (fun n => n c_7)) (i_9 _ _))))) (fun a0 h_12 i_11 => k_K a0 h_12 (fun _ _ _ => Iff.trans (dt_2 c_1 c_1) (Iff.trans (dt_a (And.left h_2)) (Iff.trans (dt_1 c_7 (fun n => n c_7)) (i_11 _ _)))))
    ·
      exact k_R74 _ _ _ _ _ _ (And.right (And.right (And.right (And.right h_8)))) (fun _ _ _ => Iff.trans (dt_2 c_1 c_1) (Iff.trans (dt_a (And.left h_2)) (Iff.trans (dt_2 c_7 c_7) (Iff.trans (dt_a (And.left h_8)) (Iff.trans (dt_a (And.left (And.right h_8))) (Iff.trans (dt_a (And.left (And.right (And.right h_8)))) (dt_a (And.left (And.right (And.right (And.right h_8)))))))))))
theorem l_e_makeCode_74  {x1 : Int32} {x2 : Int32} {x3 : Int32} {x4 : Int32} {x5 : Int32} {S : ms} {R4 : Int32 → Int32 → Int32 → ms → Prop} {K : ms → Prop} : e_makeCode_74 x1 x2 x3 x4 x5 S R4 K ↔ lpE (C := (Int32 → Int32 → Int32 → ms → Prop) × (ms → Prop)) (fun (y : (Int32) × (Int32) × (Int32) × (Int32) × (Int32) × (ms)) (R : ((Int32) × (Int32) × (Int32) × (Int32) × (Int32) × (ms)) → Prop) (c : (Int32 → Int32 → Int32 → ms → Prop) × (ms → Prop)) => b_makeCode_74 y.1 y.2.1 y.2.2.1 y.2.2.2.1 y.2.2.2.2.1 y.2.2.2.2.2 c.1 (fun z0 z1 z2 z3 z4 z5 => R (z0, z1, z2, z3, z4, z5)) c.2) (x1, x2, x3, x4, x5, S) (R4, K) :=
  ⟨fun ⟨I, μ, h0, hs⟩ => ⟨fun t => I t.1 t.2.1 t.2.2.1 t.2.2.2.1 t.2.2.2.2.1 t.2.2.2.2.2, fun t => μ t.1 t.2.1 t.2.2.1 t.2.2.2.1 t.2.2.2.2.1 t.2.2.2.2.2, h0, fun t ht => hs _ _ _ _ _ _ ht⟩, fun ⟨I, μ, h0, hs⟩ => ⟨fun y0 y1 y2 y3 y4 y5 => I (y0, y1, y2, y3, y4, y5), fun y0 y1 y2 y3 y4 y5 => μ (y0, y1, y2, y3, y4, y5), h0, fun y0 y1 y2 y3 y4 y5 hy => hs (y0, y1, y2, y3, y4, y5) hy⟩⟩
set_option maxHeartbeats 1000000 in
theorem d_e_makeCode_74 {x1 : Int32} {x2 : Int32} {x3 : Int32} {x4 : Int32} {x5 : Int32} {S : ms} {R4 : Int32 → Int32 → Int32 → ms → Prop} {K : ms → Prop} (h : e_makeCode_74 x1 x2 x3 x4 x5 S R4 K) {Q : Prop} (k_R4 : ∀ (a0 : Int32) (a1 : Int32) (a2 : Int32) (a3 : ms), R4 a0 a1 a2 a3 → (∀ (R4' : Int32 → Int32 → Int32 → ms → Prop) (K' : ms → Prop), e_makeCode_74 x1 x2 x3 x4 x5 S R4' K' ↔ R4' a0 a1 a2 a3) → Q) (k_K : ∀ (a0 : ms), K a0 → (∀ (R4' : Int32 → Int32 → Int32 → ms → Prop) (K' : ms → Prop), e_makeCode_74 x1 x2 x3 x4 x5 S R4' K' ↔ K' a0) → Q) : Q := by
  obtain ⟨o, ho, hoc, hi⟩ := lp_det (C := (Int32 → Int32 → Int32 → ms → Prop) × (ms → Prop)) (b := (fun (y : (Int32) × (Int32) × (Int32) × (Int32) × (Int32) × (ms)) (R : ((Int32) × (Int32) × (Int32) × (Int32) × (Int32) × (ms)) → Prop) (c : (Int32 → Int32 → Int32 → ms → Prop) × (ms → Prop)) => b_makeCode_74 y.1 y.2.1 y.2.2.1 y.2.2.2.1 y.2.2.2.2.1 y.2.2.2.2.2 c.1 (fun z0 z1 z2 z3 z4 z5 => R (z0, z1, z2, z3, z4, z5)) c.2)) (O := (fun (o : ((Int32 → Int32 → Int32 → ms → Prop) × (ms → Prop)) → Prop) => (∃ (a0 : Int32) (a1 : Int32) (a2 : Int32) (a3 : ms), o = fun c => c.1 a0 a1 a2 a3) ∨ (∃ (a0 : ms), o = fun c => c.2 a0))) (fun y R c hy => d_b_makeCode_74 hy (fun a0 a1 a2 a3 ha ia => Or.inr ⟨(fun c => c.1 a0 a1 a2 a3), Or.inl ⟨a0, a1, a2, a3, rfl⟩, ha, fun R' c' => ia c'.1 (fun z0 z1 z2 z3 z4 z5 => R' (z0, z1, z2, z3, z4, z5)) c'.2⟩) (fun a0 a1 a2 a3 a4 a5 ha ia => Or.inl ⟨(a0, a1, a2, a3, a4, a5), ha, fun R' c' => ia c'.1 (fun z0 z1 z2 z3 z4 z5 => R' (z0, z1, z2, z3, z4, z5)) c'.2⟩) (fun a0 ha ia => Or.inr ⟨(fun c => c.2 a0), Or.inr (⟨a0, rfl⟩), ha, fun R' c' => ia c'.1 (fun z0 z1 z2 z3 z4 z5 => R' (z0, z1, z2, z3, z4, z5)) c'.2⟩)) (l_e_makeCode_74.mp h)
  rcases ho with ⟨a0, a1, a2, a3, rfl⟩ | ⟨a0, rfl⟩
  · exact k_R4 _ _ _ _ hoc (fun R4' K' => Iff.trans l_e_makeCode_74 (hi (R4', K')))
  · exact k_K _ hoc (fun R4' K' => Iff.trans l_e_makeCode_74 (hi (R4', K')))
theorem v_e_makeCode_74 {x1 : Int32} {x2 : Int32} {x3 : Int32} {x4 : Int32} {x5 : Int32} {S : ms} {R4 : Int32 → Int32 → Int32 → ms → Prop} {K : ms → Prop} (h : e_makeCode_74 x1 x2 x3 x4 x5 S R4 K) {G : Prop} (Inv : Int32 → Int32 → ms → Prop) (h0 : Inv x2 x4 S) (hs : ∀ (yx2 : Int32) (yx4 : Int32) (yS : ms) (R : Int32 → Int32 → Int32 → Int32 → Int32 → ms → Prop), Inv yx2 yx4 yS → b_makeCode_74 x1 yx2 x3 yx4 x5 yS R4 R K → (∃ (zx2 : Int32) (zx4 : Int32) (zS : ms), R x1 zx2 x3 zx4 x5 zS ∧ Inv zx2 zx4 zS) ∨ G) : G := by
  obtain ⟨I, μ, i0, is⟩ := h
  have go : ∀ (n : Nat) (yx2 : Int32) (yx4 : Int32) (yS : ms), μ x1 yx2 x3 yx4 x5 yS < n → I x1 yx2 x3 yx4 x5 yS → Inv yx2 yx4 yS → G := by
    intro n
    induction n with
    | zero => intro yx2 yx4 yS hy; exact absurd hy (Nat.not_lt_zero _)
    | succ n ih =>
      intro yx2 yx4 yS hy hI hV
      rcases hs yx2 yx4 yS _ hV (is x1 yx2 x3 yx4 x5 yS hI) with ⟨zx2, zx4, zS, ⟨hz, hm⟩, hv⟩ | g
      · exact ih zx2 zx4 zS (Nat.lt_of_lt_of_le hm (Nat.le_of_lt_succ hy)) hz hv
      · exact g
  exact go _ x2 x4 S (Nat.lt_succ_self _) i0 h0
theorem r_e_makeCode_74 {x1 : Int32} {x2 : Int32} {x3 : Int32} {x4 : Int32} {x5 : Int32} {S : ms} {R4 : Int32 → Int32 → Int32 → ms → Prop} {K : ms → Prop} (h : e_makeCode_74 x1 x2 x3 x4 x5 S R4 K) : b_makeCode_74 x1 x2 x3 x4 x5 S R4 (fun zx1 zx2 zx3 zx4 zx5 zS => e_makeCode_74 zx1 zx2 zx3 zx4 zx5 zS R4 K) K := by
  obtain ⟨I, μ, i0, is⟩ := h
  exact d_b_makeCode_74 (is x1 x2 x3 x4 x5 S i0) (fun a0 a1 a2 a3 ha ia => (ia _ _ _).mpr ha) (fun a0 a1 a2 a3 a4 a5 ha ia => (ia _ _ _).mpr ⟨I, μ, ha.1, is⟩) (fun a0 ha ia => (ia _ _ _).mpr ha)
set_option maxHeartbeats 1000000 in
theorem d_b_makeCode_72 {x1 : Int32} {x2 : Int32} {x3 : Int32} {x4 : Int32} {s0 : Int32} {S : ms} {R4 : Int32 → Int32 → Int32 → ms → Prop} {K : ms → Prop} (h : b_makeCode_72 x1 x2 x3 x4 s0 S R4 K) {Q : Prop} (k_R4 : ∀ (a0 : Int32) (a1 : Int32) (a2 : Int32) (a3 : ms), R4 a0 a1 a2 a3 → (∀ (R4' : Int32 → Int32 → Int32 → ms → Prop) (K' : ms → Prop), b_makeCode_72 x1 x2 x3 x4 s0 S R4' K' ↔ R4' a0 a1 a2 a3) → Q) (k_K : ∀ (a0 : ms), K a0 → (∀ (R4' : Int32 → Int32 → Int32 → ms → Prop) (K' : ms → Prop), b_makeCode_72 x1 x2 x3 x4 s0 S R4' K' ↔ K' a0) → Q) : Q := by
  unfold b_makeCode_72 at h
  exact d_e_makeCode_74 h (fun a0 a1 a2 a3 h_2 i_1 => k_R4 a0 a1 a2 a3 h_2 (fun _ _ => i_1 _ _)) (fun a0 h_4 i_3 => k_K a0 h_4 (fun _ _ => i_3 _ _))
set_option maxHeartbeats 1000000 in
theorem d_b_makeCode_46 {x1 : Int32} {x2 : Int32} {x3 : Int32} {S : ms} {R4 : Int32 → Int32 → Int32 → ms → Prop} {K : ms → Prop} (h : b_makeCode_46 x1 x2 x3 S R4 K) {Q : Prop} (k_R4 : ∀ (a0 : Int32) (a1 : Int32) (a2 : Int32) (a3 : ms), R4 a0 a1 a2 a3 → (∀ (R4' : Int32 → Int32 → Int32 → ms → Prop) (K' : ms → Prop), b_makeCode_46 x1 x2 x3 S R4' K' ↔ R4' a0 a1 a2 a3) → Q) (k_K : ∀ (a0 : ms), K a0 → (∀ (R4' : Int32 → Int32 → Int32 → ms → Prop) (K' : ms → Prop), b_makeCode_46 x1 x2 x3 S R4' K' ↔ K' a0) → Q) : Q := by
  unfold b_makeCode_46 at h
  refine dt_n h (fun c_1 h_2 => ?_) (fun c_1 h_2 => ?_)
  ·
    exact d_b_makeCode_72 (And.right h_2) (fun a0 a1 a2 a3 h_4 i_3 => k_R4 a0 a1 a2 a3 h_4 (fun _ _ => Iff.trans (dt_1 c_1 c_1) (Iff.trans (dt_a (And.left h_2)) (i_3 _ _)))) (fun a0 h_6 i_5 => k_K a0 h_6 (fun _ _ => Iff.trans (dt_1 c_1 c_1) (Iff.trans (dt_a (And.left h_2)) (i_5 _ _))))
  ·
    exact d_b_makeCode_72 h_2 (fun a0 a1 a2 a3 h_8 i_7 => k_R4 a0 a1 a2 a3 h_8 (fun _ _ => Iff.trans (dt_2 (fun n => n c_1) c_1) (i_7 _ _))) (fun a0 h_10 i_9 => k_K a0 h_10 (fun _ _ => Iff.trans (dt_2 (fun n => n c_1) c_1) (i_9 _ _)))
set_option maxHeartbeats 1000000 in
theorem d_b_makeCode_4 {x1 : Int32} {x2 : Int32} {x3 : Int32} {S : ms} {R4 : Int32 → Int32 → Int32 → ms → Prop} {K : ms → Prop} (h : b_makeCode_4 x1 x2 x3 S R4 K) {Q : Prop} (k_R4 : ∀ (a0 : Int32) (a1 : Int32) (a2 : Int32) (a3 : ms), R4 a0 a1 a2 a3 → (∀ (R4' : Int32 → Int32 → Int32 → ms → Prop) (K' : ms → Prop), b_makeCode_4 x1 x2 x3 S R4' K' ↔ R4' a0 a1 a2 a3) → Q) (k_K : ∀ (a0 : ms), K a0 → (∀ (R4' : Int32 → Int32 → Int32 → ms → Prop) (K' : ms → Prop), b_makeCode_4 x1 x2 x3 S R4' K' ↔ K' a0) → Q) : Q := by
  unfold b_makeCode_4 at h
  refine dt_p h (fun c_1 h_2 => ?_) (fun c_1 h_2 => ?_)
  ·
    exact d_e_makeCode_162 h_2 (fun a0 h_4 i_3 => k_K a0 h_4 (fun _ _ => Iff.trans (dt_1 c_1 (fun n => n c_1)) (i_3 _)))
  ·
    refine dt_p (And.right h_2) (fun c_5 h_6 => ?_) (fun c_5 h_6 => ?_)
    ·
      exact d_b_makeCode_46 h_6 (fun a0 a1 a2 a3 h_8 i_7 => k_R4 a0 a1 a2 a3 h_8 (fun _ _ => Iff.trans (dt_2 c_1 c_1) (Iff.trans (dt_a (And.left h_2)) (Iff.trans (dt_1 c_5 (fun n => n c_5)) (i_7 _ _))))) (fun a0 h_10 i_9 => k_K a0 h_10 (fun _ _ => Iff.trans (dt_2 c_1 c_1) (Iff.trans (dt_a (And.left h_2)) (Iff.trans (dt_1 c_5 (fun n => n c_5)) (i_9 _ _)))))
    ·
      refine dt_p (And.right h_6) (fun c_11 h_12 => ?_) (fun c_11 h_12 => ?_)
      ·
        exact d_b_makeCode_151 h_12 (fun a0 a1 a2 a3 h_14 i_13 => k_R4 a0 a1 a2 a3 h_14 (fun _ _ => Iff.trans (dt_2 c_1 c_1) (Iff.trans (dt_a (And.left h_2)) (Iff.trans (dt_2 c_5 c_5) (Iff.trans (dt_a (And.left h_6)) (Iff.trans (dt_1 c_11 (fun n => n c_11)) (i_13 _ _))))))) (fun a0 h_16 i_15 => k_K a0 h_16 (fun _ _ => Iff.trans (dt_2 c_1 c_1) (Iff.trans (dt_a (And.left h_2)) (Iff.trans (dt_2 c_5 c_5) (Iff.trans (dt_a (And.left h_6)) (Iff.trans (dt_1 c_11 (fun n => n c_11)) (i_15 _ _)))))))
      ·
        exact d_b_makeCode_46 h_12 (fun a0 a1 a2 a3 h_18 i_17 => k_R4 a0 a1 a2 a3 h_18 (fun _ _ => Iff.trans (dt_2 c_1 c_1) (Iff.trans (dt_a (And.left h_2)) (Iff.trans (dt_2 c_5 c_5) (Iff.trans (dt_a (And.left h_6)) (Iff.trans (dt_2 c_11 c_11) (i_17 _ _))))))) (fun a0 h_20 i_19 => k_K a0 h_20 (fun _ _ => Iff.trans (dt_2 c_1 c_1) (Iff.trans (dt_a (And.left h_2)) (Iff.trans (dt_2 c_5 c_5) (Iff.trans (dt_a (And.left h_6)) (Iff.trans (dt_2 c_11 c_11) (i_19 _ _)))))))
theorem l_e_makeCode_4  {x1 : Int32} {x2 : Int32} {x3 : Int32} {S : ms} {K : ms → Prop} : e_makeCode_4 x1 x2 x3 S K ↔ lpE (C := (ms → Prop)) (fun (y : (Int32) × (Int32) × (Int32) × (ms)) (R : ((Int32) × (Int32) × (Int32) × (ms)) → Prop) (c : (ms → Prop)) => b_makeCode_4 y.1 y.2.1 y.2.2.1 y.2.2.2 (fun z0 z1 z2 z3 => R (z0, z1, z2, z3)) c) (x1, x2, x3, S) K :=
  ⟨fun ⟨I, μ, h0, hs⟩ => ⟨fun t => I t.1 t.2.1 t.2.2.1 t.2.2.2, fun t => μ t.1 t.2.1 t.2.2.1 t.2.2.2, h0, fun t ht => hs _ _ _ _ ht⟩, fun ⟨I, μ, h0, hs⟩ => ⟨fun y0 y1 y2 y3 => I (y0, y1, y2, y3), fun y0 y1 y2 y3 => μ (y0, y1, y2, y3), h0, fun y0 y1 y2 y3 hy => hs (y0, y1, y2, y3) hy⟩⟩
set_option maxHeartbeats 1000000 in
theorem d_e_makeCode_4 {x1 : Int32} {x2 : Int32} {x3 : Int32} {S : ms} {K : ms → Prop} (h : e_makeCode_4 x1 x2 x3 S K) {Q : Prop} (k_K : ∀ (a0 : ms), K a0 → (∀ (K' : ms → Prop), e_makeCode_4 x1 x2 x3 S K' ↔ K' a0) → Q) : Q := by
  obtain ⟨o, ho, hoc, hi⟩ := lp_det (C := (ms → Prop)) (b := (fun (y : (Int32) × (Int32) × (Int32) × (ms)) (R : ((Int32) × (Int32) × (Int32) × (ms)) → Prop) (c : (ms → Prop)) => b_makeCode_4 y.1 y.2.1 y.2.2.1 y.2.2.2 (fun z0 z1 z2 z3 => R (z0, z1, z2, z3)) c)) (O := (fun (o : ((ms → Prop)) → Prop) => (∃ (a0 : ms), o = fun c => c a0))) (fun y R c hy => d_b_makeCode_4 hy (fun a0 a1 a2 a3 ha ia => Or.inl ⟨(a0, a1, a2, a3), ha, fun R' c' => ia (fun z0 z1 z2 z3 => R' (z0, z1, z2, z3)) c'⟩) (fun a0 ha ia => Or.inr ⟨(fun c => c a0), ⟨a0, rfl⟩, ha, fun R' c' => ia (fun z0 z1 z2 z3 => R' (z0, z1, z2, z3)) c'⟩)) (l_e_makeCode_4.mp h)
  rcases ho with ⟨a0, rfl⟩
  · exact k_K _ hoc (fun K' => Iff.trans l_e_makeCode_4 (hi K'))
theorem v_e_makeCode_4 {x1 : Int32} {x2 : Int32} {x3 : Int32} {S : ms} {K : ms → Prop} (h : e_makeCode_4 x1 x2 x3 S K) {G : Prop} (Inv : Int32 → Int32 → ms → Prop) (h0 : Inv x2 x3 S) (hs : ∀ (yx2 : Int32) (yx3 : Int32) (yS : ms) (R : Int32 → Int32 → Int32 → ms → Prop), Inv yx2 yx3 yS → b_makeCode_4 x1 yx2 yx3 yS R K → (∃ (zx2 : Int32) (zx3 : Int32) (zS : ms), R x1 zx2 zx3 zS ∧ Inv zx2 zx3 zS) ∨ G) : G := by
  obtain ⟨I, μ, i0, is⟩ := h
  have go : ∀ (n : Nat) (yx2 : Int32) (yx3 : Int32) (yS : ms), μ x1 yx2 yx3 yS < n → I x1 yx2 yx3 yS → Inv yx2 yx3 yS → G := by
    intro n
    induction n with
    | zero => intro yx2 yx3 yS hy; exact absurd hy (Nat.not_lt_zero _)
    | succ n ih =>
      intro yx2 yx3 yS hy hI hV
      rcases hs yx2 yx3 yS _ hV (is x1 yx2 yx3 yS hI) with ⟨zx2, zx3, zS, ⟨hz, hm⟩, hv⟩ | g
      · exact ih zx2 zx3 zS (Nat.lt_of_lt_of_le hm (Nat.le_of_lt_succ hy)) hz hv
      · exact g
  exact go _ x2 x3 S (Nat.lt_succ_self _) i0 h0
theorem r_e_makeCode_4 {x1 : Int32} {x2 : Int32} {x3 : Int32} {S : ms} {K : ms → Prop} (h : e_makeCode_4 x1 x2 x3 S K) : b_makeCode_4 x1 x2 x3 S (fun zx1 zx2 zx3 zS => e_makeCode_4 zx1 zx2 zx3 zS K) K := by
  obtain ⟨I, μ, i0, is⟩ := h
  exact d_b_makeCode_4 (is x1 x2 x3 S i0) (fun a0 a1 a2 a3 ha ia => (ia _ _).mpr ⟨I, μ, ha.1, is⟩) (fun a0 ha ia => (ia _ _).mpr ha)
set_option maxHeartbeats 1000000 in
theorem d_p_makeCode {x1 : Int32} {S : ms} {K : ms → Prop} (h : p_makeCode x1 S K) {Q : Prop} (k_K : ∀ (a0 : ms), K a0 → (∀ (K' : ms → Prop), p_makeCode x1 S K' ↔ K' a0) → Q) : Q := by
  unfold p_makeCode at h
  exact d_e_makeCode_4 h (fun a0 h_2 i_1 => k_K a0 h_2 (fun _ => i_1 _))
set_option maxHeartbeats 1000000 in
theorem d_p_put {x1 : Int32} {S : ms} {K : ms → Prop} (h : p_put x1 S K) {Q : Prop} (k_K : ∀ (a0 : ms), K a0 → (∀ (K' : ms → Prop), p_put x1 S K' ↔ K' a0) → Q) : Q := by
  unfold p_put at h
  exact k_K _ (And.right h) (fun _ => dt_a (And.left h))
set_option maxHeartbeats 1000000 in
theorem d_p_putTwo {x1 : Int32} {S : ms} {K : ms → Prop} (h : p_putTwo x1 S K) {Q : Prop} (k_K : ∀ (a0 : ms), K a0 → (∀ (K' : ms → Prop), p_putTwo x1 S K' ↔ K' a0) → Q) : Q := by
  unfold p_putTwo at h
  refine d_p_put h (fun S9 h_2 i_1 => ?_)
  refine d_p_put h_2 (fun S18 h_4 i_3 => ?_)
  exact k_K _ h_4 (fun _ => Iff.trans (i_1 _) (i_3 _))
set_option maxHeartbeats 1000000 in
theorem d_p_mark {x1 : Int32} {S : ms} {K : ms → Prop} (h : p_mark x1 S K) {Q : Prop} (k_K : ∀ (a0 : ms), K a0 → (∀ (K' : ms → Prop), p_mark x1 S K' ↔ K' a0) → Q) : Q := by
  unfold p_mark at h
  refine d_p_put h (fun S4 h_2 i_1 => ?_)
  refine d_p_put h_2 (fun S9 h_4 i_3 => ?_)
  exact k_K _ h_4 (fun _ => Iff.trans (i_1 _) (i_3 _))
set_option maxHeartbeats 1000000 in
theorem d_b_putBits_76 {x1 : Int32} {x3 : Int32} {S : ms} {R4 : Int32 → Int32 → ms → Prop} {K : ms → Prop} (h : b_putBits_76 x1 x3 S R4 K) {Q : Prop} (k_R4 : ∀ (a0 : Int32) (a1 : Int32) (a2 : ms), R4 a0 a1 a2 → (∀ (R4' : Int32 → Int32 → ms → Prop) (K' : ms → Prop), b_putBits_76 x1 x3 S R4' K' ↔ R4' a0 a1 a2) → Q) (k_K : ∀ (a0 : ms), K a0 → (∀ (R4' : Int32 → Int32 → ms → Prop) (K' : ms → Prop), b_putBits_76 x1 x3 S R4' K' ↔ K' a0) → Q) : Q := by
  unfold b_putBits_76 at h
  exact k_R4 _ _ _ h (fun _ _ => Iff.rfl)
set_option maxHeartbeats 1000000 in
theorem d_b_putBits_66 {x1 : Int32} {x3 : Int32} {S : ms} {R4 : Int32 → Int32 → ms → Prop} {K : ms → Prop} (h : b_putBits_66 x1 x3 S R4 K) {Q : Prop} (k_R4 : ∀ (a0 : Int32) (a1 : Int32) (a2 : ms), R4 a0 a1 a2 → (∀ (R4' : Int32 → Int32 → ms → Prop) (K' : ms → Prop), b_putBits_66 x1 x3 S R4' K' ↔ R4' a0 a1 a2) → Q) (k_K : ∀ (a0 : ms), K a0 → (∀ (R4' : Int32 → Int32 → ms → Prop) (K' : ms → Prop), b_putBits_66 x1 x3 S R4' K' ↔ K' a0) → Q) : Q := by
  unfold b_putBits_66 at h
  exact d_b_putBits_76 h (fun a0 a1 a2 h_2 i_1 => k_R4 a0 a1 a2 h_2 (fun _ _ => i_1 _ _)) (fun a0 h_4 i_3 => k_K a0 h_4 (fun _ _ => i_3 _ _))
set_option maxHeartbeats 1000000 in
theorem d_b_putBits_4 {x1 : Int32} {x3 : Int32} {S : ms} {R4 : Int32 → Int32 → ms → Prop} {K : ms → Prop} (h : b_putBits_4 x1 x3 S R4 K) {Q : Prop} (k_R4 : ∀ (a0 : Int32) (a1 : Int32) (a2 : ms), R4 a0 a1 a2 → (∀ (R4' : Int32 → Int32 → ms → Prop) (K' : ms → Prop), b_putBits_4 x1 x3 S R4' K' ↔ R4' a0 a1 a2) → Q) (k_K : ∀ (a0 : ms), K a0 → (∀ (R4' : Int32 → Int32 → ms → Prop) (K' : ms → Prop), b_putBits_4 x1 x3 S R4' K' ↔ K' a0) → Q) : Q := by
  unfold b_putBits_4 at h
  refine dt_p h (fun c_1 h_2 => ?_) (fun c_1 h_2 => ?_)
  ·
    exact k_K _ h_2 (fun _ _ => dt_1 c_1 (fun n => n c_1))
  ·
    refine dt_n h_2 (fun c_3 h_4 => ?_) (fun c_3 h_4 => ?_)
    ·
      exact d_b_putBits_76 h_4 (fun a0 a1 a2 h_6 i_5 => k_R4 a0 a1 a2 h_6 (fun _ _ => Iff.trans (dt_2 c_1 c_1) (Iff.trans (dt_1 c_3 c_3) (i_5 _ _)))) (fun a0 h_8 i_7 => k_K a0 h_8 (fun _ _ => Iff.trans (dt_2 c_1 c_1) (Iff.trans (dt_1 c_3 c_3) (i_7 _ _))))
    ·
      refine d_p_put h_4 (fun S48 h_10 i_9 => ?_)
      refine dt_n h_10 (fun c_11 h_12 => ?_) (fun c_11 h_12 => ?_)
      ·
        exact d_b_putBits_66 h_12 (fun a0 a1 a2 h_14 i_13 => k_R4 a0 a1 a2 h_14 (fun _ _ => Iff.trans (dt_2 c_1 c_1) (Iff.trans (dt_2 (fun n => n c_3) c_3) (Iff.trans (i_9 _) (Iff.trans (dt_1 c_11 c_11) (i_13 _ _)))))) (fun a0 h_16 i_15 => k_K a0 h_16 (fun _ _ => Iff.trans (dt_2 c_1 c_1) (Iff.trans (dt_2 (fun n => n c_3) c_3) (Iff.trans (i_9 _) (Iff.trans (dt_1 c_11 c_11) (i_15 _ _))))))
      ·
        refine d_p_put h_12 (fun S63 h_18 i_17 => ?_)
        exact d_b_putBits_66 h_18 (fun a0 a1 a2 h_20 i_19 => k_R4 a0 a1 a2 h_20 (fun _ _ => Iff.trans (dt_2 c_1 c_1) (Iff.trans (dt_2 (fun n => n c_3) c_3) (Iff.trans (i_9 _) (Iff.trans (dt_2 (fun n => n c_11) c_11) (Iff.trans (i_17 _) (i_19 _ _))))))) (fun a0 h_22 i_21 => k_K a0 h_22 (fun _ _ => Iff.trans (dt_2 c_1 c_1) (Iff.trans (dt_2 (fun n => n c_3) c_3) (Iff.trans (i_9 _) (Iff.trans (dt_2 (fun n => n c_11) c_11) (Iff.trans (i_17 _) (i_21 _ _)))))))
theorem l_e_putBits_4  {x1 : Int32} {x3 : Int32} {S : ms} {K : ms → Prop} : e_putBits_4 x1 x3 S K ↔ lpE (C := (ms → Prop)) (fun (y : (Int32) × (Int32) × (ms)) (R : ((Int32) × (Int32) × (ms)) → Prop) (c : (ms → Prop)) => b_putBits_4 y.1 y.2.1 y.2.2 (fun z0 z1 z2 => R (z0, z1, z2)) c) (x1, x3, S) K :=
  ⟨fun ⟨I, μ, h0, hs⟩ => ⟨fun t => I t.1 t.2.1 t.2.2, fun t => μ t.1 t.2.1 t.2.2, h0, fun t ht => hs _ _ _ ht⟩, fun ⟨I, μ, h0, hs⟩ => ⟨fun y0 y1 y2 => I (y0, y1, y2), fun y0 y1 y2 => μ (y0, y1, y2), h0, fun y0 y1 y2 hy => hs (y0, y1, y2) hy⟩⟩
set_option maxHeartbeats 1000000 in
theorem d_e_putBits_4 {x1 : Int32} {x3 : Int32} {S : ms} {K : ms → Prop} (h : e_putBits_4 x1 x3 S K) {Q : Prop} (k_K : ∀ (a0 : ms), K a0 → (∀ (K' : ms → Prop), e_putBits_4 x1 x3 S K' ↔ K' a0) → Q) : Q := by
  obtain ⟨o, ho, hoc, hi⟩ := lp_det (C := (ms → Prop)) (b := (fun (y : (Int32) × (Int32) × (ms)) (R : ((Int32) × (Int32) × (ms)) → Prop) (c : (ms → Prop)) => b_putBits_4 y.1 y.2.1 y.2.2 (fun z0 z1 z2 => R (z0, z1, z2)) c)) (O := (fun (o : ((ms → Prop)) → Prop) => (∃ (a0 : ms), o = fun c => c a0))) (fun y R c hy => d_b_putBits_4 hy (fun a0 a1 a2 ha ia => Or.inl ⟨(a0, a1, a2), ha, fun R' c' => ia (fun z0 z1 z2 => R' (z0, z1, z2)) c'⟩) (fun a0 ha ia => Or.inr ⟨(fun c => c a0), ⟨a0, rfl⟩, ha, fun R' c' => ia (fun z0 z1 z2 => R' (z0, z1, z2)) c'⟩)) (l_e_putBits_4.mp h)
  rcases ho with ⟨a0, rfl⟩
  · exact k_K _ hoc (fun K' => Iff.trans l_e_putBits_4 (hi K'))
theorem v_e_putBits_4 {x1 : Int32} {x3 : Int32} {S : ms} {K : ms → Prop} (h : e_putBits_4 x1 x3 S K) {G : Prop} (Inv : Int32 → ms → Prop) (h0 : Inv x3 S) (hs : ∀ (yx3 : Int32) (yS : ms) (R : Int32 → Int32 → ms → Prop), Inv yx3 yS → b_putBits_4 x1 yx3 yS R K → (∃ (zx3 : Int32) (zS : ms), R x1 zx3 zS ∧ Inv zx3 zS) ∨ G) : G := by
  obtain ⟨I, μ, i0, is⟩ := h
  have go : ∀ (n : Nat) (yx3 : Int32) (yS : ms), μ x1 yx3 yS < n → I x1 yx3 yS → Inv yx3 yS → G := by
    intro n
    induction n with
    | zero => intro yx3 yS hy; exact absurd hy (Nat.not_lt_zero _)
    | succ n ih =>
      intro yx3 yS hy hI hV
      rcases hs yx3 yS _ hV (is x1 yx3 yS hI) with ⟨zx3, zS, ⟨hz, hm⟩, hv⟩ | g
      · exact ih zx3 zS (Nat.lt_of_lt_of_le hm (Nat.le_of_lt_succ hy)) hz hv
      · exact g
  exact go _ x3 S (Nat.lt_succ_self _) i0 h0
theorem r_e_putBits_4 {x1 : Int32} {x3 : Int32} {S : ms} {K : ms → Prop} (h : e_putBits_4 x1 x3 S K) : b_putBits_4 x1 x3 S (fun zx1 zx3 zS => e_putBits_4 zx1 zx3 zS K) K := by
  obtain ⟨I, μ, i0, is⟩ := h
  exact d_b_putBits_4 (is x1 x3 S i0) (fun a0 a1 a2 ha ia => (ia _ _).mpr ⟨I, μ, ha.1, is⟩) (fun a0 ha ia => (ia _ _).mpr ha)
set_option maxHeartbeats 1000000 in
theorem d_p_putBits {x1 : Int32} {x2 : Int32} {S : ms} {K : ms → Prop} (h : p_putBits x1 x2 S K) {Q : Prop} (k_K : ∀ (a0 : ms), K a0 → (∀ (K' : ms → Prop), p_putBits x1 x2 S K' ↔ K' a0) → Q) : Q := by
  unfold p_putBits at h
  exact d_e_putBits_4 h (fun a0 h_2 i_1 => k_K a0 h_2 (fun _ => i_1 _))
set_option maxHeartbeats 1000000 in
theorem d_b_fillUp_0 {S : ms} {R0 : ms → Prop} {K : ms → Prop} (h : b_fillUp_0 S R0 K) {Q : Prop} (k_R0 : ∀ (a0 : ms), R0 a0 → (∀ (R0' : ms → Prop) (K' : ms → Prop), b_fillUp_0 S R0' K' ↔ R0' a0) → Q) (k_K : ∀ (a0 : ms), K a0 → (∀ (R0' : ms → Prop) (K' : ms → Prop), b_fillUp_0 S R0' K' ↔ K' a0) → Q) : Q := by
  unfold b_fillUp_0 at h
  refine dt_p h (fun c_1 h_2 => ?_) (fun c_1 h_2 => ?_)
  ·
    exact k_K _ h_2 (fun _ _ => dt_1 c_1 (fun n => n c_1))
  ·
    refine d_p_putBits h_2 (fun S10 h_4 i_3 => ?_)
    exact k_R0 _ h_4 (fun _ _ => Iff.trans (dt_2 c_1 c_1) (i_3 _))
theorem l_e_fillUp_0  {S : ms} {K : ms → Prop} : e_fillUp_0 S K ↔ lpE (C := (ms → Prop)) (fun (y : (ms)) (R : ((ms)) → Prop) (c : (ms → Prop)) => b_fillUp_0 y (fun z0 => R z0) c) S K :=
  ⟨fun ⟨I, μ, h0, hs⟩ => ⟨fun t => I t, fun t => μ t, h0, fun t ht => hs _ ht⟩, fun ⟨I, μ, h0, hs⟩ => ⟨fun y0 => I y0, fun y0 => μ y0, h0, fun y0 hy => hs y0 hy⟩⟩
set_option maxHeartbeats 1000000 in
theorem d_e_fillUp_0 {S : ms} {K : ms → Prop} (h : e_fillUp_0 S K) {Q : Prop} (k_K : ∀ (a0 : ms), K a0 → (∀ (K' : ms → Prop), e_fillUp_0 S K' ↔ K' a0) → Q) : Q := by
  obtain ⟨o, ho, hoc, hi⟩ := lp_det (C := (ms → Prop)) (b := (fun (y : (ms)) (R : ((ms)) → Prop) (c : (ms → Prop)) => b_fillUp_0 y (fun z0 => R z0) c)) (O := (fun (o : ((ms → Prop)) → Prop) => (∃ (a0 : ms), o = fun c => c a0))) (fun y R c hy => d_b_fillUp_0 hy (fun a0 ha ia => Or.inl ⟨a0, ha, fun R' c' => ia (fun z0 => R' z0) c'⟩) (fun a0 ha ia => Or.inr ⟨(fun c => c a0), ⟨a0, rfl⟩, ha, fun R' c' => ia (fun z0 => R' z0) c'⟩)) (l_e_fillUp_0.mp h)
  rcases ho with ⟨a0, rfl⟩
  · exact k_K _ hoc (fun K' => Iff.trans l_e_fillUp_0 (hi K'))
theorem v_e_fillUp_0 {S : ms} {K : ms → Prop} (h : e_fillUp_0 S K) {G : Prop} (Inv : ms → Prop) (h0 : Inv S) (hs : ∀ (yS : ms) (R : ms → Prop), Inv yS → b_fillUp_0 yS R K → (∃ (zS : ms), R zS ∧ Inv zS) ∨ G) : G := by
  obtain ⟨I, μ, i0, is⟩ := h
  have go : ∀ (n : Nat) (yS : ms), μ yS < n → I yS → Inv yS → G := by
    intro n
    induction n with
    | zero => intro yS hy; exact absurd hy (Nat.not_lt_zero _)
    | succ n ih =>
      intro yS hy hI hV
      rcases hs yS _ hV (is yS hI) with ⟨zS, ⟨hz, hm⟩, hv⟩ | g
      · exact ih zS (Nat.lt_of_lt_of_le hm (Nat.le_of_lt_succ hy)) hz hv
      · exact g
  exact go _ S (Nat.lt_succ_self _) i0 h0
theorem r_e_fillUp_0 {S : ms} {K : ms → Prop} (h : e_fillUp_0 S K) : b_fillUp_0 S (fun zS => e_fillUp_0 zS K) K := by
  obtain ⟨I, μ, i0, is⟩ := h
  exact d_b_fillUp_0 (is S i0) (fun a0 ha ia => (ia _ _).mpr ⟨I, μ, ha.1, is⟩) (fun a0 ha ia => (ia _ _).mpr ha)
set_option maxHeartbeats 1000000 in
theorem d_p_fillUp {S : ms} {K : ms → Prop} (h : p_fillUp S K) {Q : Prop} (k_K : ∀ (a0 : ms), K a0 → (∀ (K' : ms → Prop), p_fillUp S K' ↔ K' a0) → Q) : Q := by
  unfold p_fillUp at h
  exact d_e_fillUp_0 h (fun a0 h_2 i_1 => k_K a0 h_2 (fun _ => i_1 _))
set_option maxHeartbeats 1000000 in
theorem d_b_symbol_51 {S : ms} {K : ms → Prop} (h : b_symbol_51 S K) {Q : Prop} (k_K : ∀ (a0 : ms), K a0 → (∀ (K' : ms → Prop), b_symbol_51 S K' ↔ K' a0) → Q) : Q := by
  unfold b_symbol_51 at h
  exact k_K _ h (fun _ => Iff.rfl)
set_option maxHeartbeats 1000000 in
theorem d_p_symbol {x1 : Int32} {x2 : Int32} {x3 : Int32} {S : ms} {K : ms → Prop} (h : p_symbol x1 x2 x3 S K) {Q : Prop} (k_K : ∀ (a0 : ms), K a0 → (∀ (K' : ms → Prop), p_symbol x1 x2 x3 S K' ↔ K' a0) → Q) : Q := by
  unfold p_symbol at h
  refine dt_p h (fun c_1 h_2 => ?_) (fun c_1 h_2 => ?_)
  ·
    refine d_p_putBits (And.right (And.right h_2)) (fun S48 h_4 i_3 => ?_)
    exact d_b_symbol_51 h_4 (fun a0 h_6 i_5 => k_K a0 h_6 (fun _ => Iff.trans (dt_1 c_1 (fun n => n c_1)) (Iff.trans (dt_a (And.left h_2)) (Iff.trans (dt_a (And.left (And.right h_2))) (Iff.trans (i_3 _) (i_5 _))))))
  ·
    exact d_b_symbol_51 (And.right (And.right h_2)) (fun a0 h_8 i_7 => k_K a0 h_8 (fun _ => Iff.trans (dt_2 c_1 c_1) (Iff.trans (dt_a (And.left h_2)) (Iff.trans (dt_a (And.left (And.right h_2))) (i_7 _)))))
set_option maxHeartbeats 1000000 in
theorem d_b_bitsOf_13 {x1 : Int32} {x2 : Int32} {R13 : Int32 → Int32 → Prop} {K : Int32 → Prop} (h : b_bitsOf_13 x1 x2 R13 K) {Q : Prop} (k_R13 : ∀ (a0 : Int32) (a1 : Int32), R13 a0 a1 → (∀ (R13' : Int32 → Int32 → Prop) (K' : Int32 → Prop), b_bitsOf_13 x1 x2 R13' K' ↔ R13' a0 a1) → Q) (k_K : ∀ (a0 : Int32), K a0 → (∀ (R13' : Int32 → Int32 → Prop) (K' : Int32 → Prop), b_bitsOf_13 x1 x2 R13' K' ↔ K' a0) → Q) : Q := by
  unfold b_bitsOf_13 at h
  refine dt_p h (fun c_1 h_2 => ?_) (fun c_1 h_2 => ?_)
  ·
    exact k_K _ h_2 (fun _ _ => dt_1 c_1 (fun n => n c_1))
  ·
    exact k_R13 _ _ h_2 (fun _ _ => dt_2 c_1 c_1)
theorem l_e_bitsOf_13  {x1 : Int32} {x2 : Int32} {K : Int32 → Prop} : e_bitsOf_13 x1 x2 K ↔ lpE (C := (Int32 → Prop)) (fun (y : (Int32) × (Int32)) (R : ((Int32) × (Int32)) → Prop) (c : (Int32 → Prop)) => b_bitsOf_13 y.1 y.2 (fun z0 z1 => R (z0, z1)) c) (x1, x2) K :=
  ⟨fun ⟨I, μ, h0, hs⟩ => ⟨fun t => I t.1 t.2, fun t => μ t.1 t.2, h0, fun t ht => hs _ _ ht⟩, fun ⟨I, μ, h0, hs⟩ => ⟨fun y0 y1 => I (y0, y1), fun y0 y1 => μ (y0, y1), h0, fun y0 y1 hy => hs (y0, y1) hy⟩⟩
set_option maxHeartbeats 1000000 in
theorem d_e_bitsOf_13 {x1 : Int32} {x2 : Int32} {K : Int32 → Prop} (h : e_bitsOf_13 x1 x2 K) {Q : Prop} (k_K : ∀ (a0 : Int32), K a0 → (∀ (K' : Int32 → Prop), e_bitsOf_13 x1 x2 K' ↔ K' a0) → Q) : Q := by
  obtain ⟨o, ho, hoc, hi⟩ := lp_det (C := (Int32 → Prop)) (b := (fun (y : (Int32) × (Int32)) (R : ((Int32) × (Int32)) → Prop) (c : (Int32 → Prop)) => b_bitsOf_13 y.1 y.2 (fun z0 z1 => R (z0, z1)) c)) (O := (fun (o : ((Int32 → Prop)) → Prop) => (∃ (a0 : Int32), o = fun c => c a0))) (fun y R c hy => d_b_bitsOf_13 hy (fun a0 a1 ha ia => Or.inl ⟨(a0, a1), ha, fun R' c' => ia (fun z0 z1 => R' (z0, z1)) c'⟩) (fun a0 ha ia => Or.inr ⟨(fun c => c a0), ⟨a0, rfl⟩, ha, fun R' c' => ia (fun z0 z1 => R' (z0, z1)) c'⟩)) (l_e_bitsOf_13.mp h)
  rcases ho with ⟨a0, rfl⟩
  · exact k_K _ hoc (fun K' => Iff.trans l_e_bitsOf_13 (hi K'))
theorem v_e_bitsOf_13 {x1 : Int32} {x2 : Int32} {K : Int32 → Prop} (h : e_bitsOf_13 x1 x2 K) {G : Prop} (Inv : Int32 → Prop) (h0 : Inv x2) (hs : ∀ (yx2 : Int32) (R : Int32 → Int32 → Prop), Inv yx2 → b_bitsOf_13 x1 yx2 R K → (∃ (zx2 : Int32), R x1 zx2 ∧ Inv zx2) ∨ G) : G := by
  obtain ⟨I, μ, i0, is⟩ := h
  have go : ∀ (n : Nat) (yx2 : Int32), μ x1 yx2 < n → I x1 yx2 → Inv yx2 → G := by
    intro n
    induction n with
    | zero => intro yx2 hy; exact absurd hy (Nat.not_lt_zero _)
    | succ n ih =>
      intro yx2 hy hI hV
      rcases hs yx2 _ hV (is x1 yx2 hI) with ⟨zx2, ⟨hz, hm⟩, hv⟩ | g
      · exact ih zx2 (Nat.lt_of_lt_of_le hm (Nat.le_of_lt_succ hy)) hz hv
      · exact g
  exact go _ x2 (Nat.lt_succ_self _) i0 h0
theorem r_e_bitsOf_13 {x1 : Int32} {x2 : Int32} {K : Int32 → Prop} (h : e_bitsOf_13 x1 x2 K) : b_bitsOf_13 x1 x2 (fun zx1 zx2 => e_bitsOf_13 zx1 zx2 K) K := by
  obtain ⟨I, μ, i0, is⟩ := h
  exact d_b_bitsOf_13 (is x1 x2 i0) (fun a0 a1 ha ia => (ia _ _).mpr ⟨I, μ, ha.1, is⟩) (fun a0 ha ia => (ia _ _).mpr ha)
set_option maxHeartbeats 1000000 in
theorem d_b_bitsOf_10 {s0 : Int32} {K : Int32 → Prop} (h : b_bitsOf_10 s0 K) {Q : Prop} (k_K : ∀ (a0 : Int32), K a0 → (∀ (K' : Int32 → Prop), b_bitsOf_10 s0 K' ↔ K' a0) → Q) : Q := by
  unfold b_bitsOf_10 at h
  exact d_e_bitsOf_13 h (fun a0 h_2 i_1 => k_K a0 h_2 (fun _ => i_1 _))
set_option maxHeartbeats 1000000 in
theorem d_p_bitsOf {x0 : Int32} {K : Int32 → Prop} (h : p_bitsOf x0 K) {Q : Prop} (k_K : ∀ (a0 : Int32), K a0 → (∀ (K' : Int32 → Prop), p_bitsOf x0 K' ↔ K' a0) → Q) : Q := by
  unfold p_bitsOf at h
  refine dt_p h (fun c_1 h_2 => ?_) (fun c_1 h_2 => ?_)
  ·
    exact d_b_bitsOf_10 h_2 (fun a0 h_4 i_3 => k_K a0 h_4 (fun _ => Iff.trans (dt_1 c_1 (fun n => n c_1)) (i_3 _)))
  ·
    exact d_b_bitsOf_10 h_2 (fun a0 h_6 i_5 => k_K a0 h_6 (fun _ => Iff.trans (dt_2 c_1 c_1) (i_5 _)))
set_option maxHeartbeats 1000000 in
theorem d_b_number_24 {S : ms} {K : ms → Prop} (h : b_number_24 S K) {Q : Prop} (k_K : ∀ (a0 : ms), K a0 → (∀ (K' : ms → Prop), b_number_24 S K' ↔ K' a0) → Q) : Q := by
  unfold b_number_24 at h
  exact k_K _ h (fun _ => Iff.rfl)
set_option maxHeartbeats 1000000 in
theorem d_b_number_20 {x3 : Int32} {s1 : Int32} {S : ms} {K : ms → Prop} (h : b_number_20 x3 s1 S K) {Q : Prop} (k_K : ∀ (a0 : ms), K a0 → (∀ (K' : ms → Prop), b_number_20 x3 s1 S K' ↔ K' a0) → Q) : Q := by
  unfold b_number_20 at h
  refine d_p_putBits h (fun S21 h_2 i_1 => ?_)
  exact d_b_number_24 h_2 (fun a0 h_4 i_3 => k_K a0 h_4 (fun _ => Iff.trans (i_1 _) (i_3 _)))
set_option maxHeartbeats 1000000 in
theorem d_p_number {x1 : Int32} {x2 : Int32} {x3 : Int32} {S : ms} {K : ms → Prop} (h : p_number x1 x2 x3 S K) {Q : Prop} (k_K : ∀ (a0 : ms), K a0 → (∀ (K' : ms → Prop), p_number x1 x2 x3 S K' ↔ K' a0) → Q) : Q := by
  unfold p_number at h
  refine dt_n h (fun c_1 h_2 => ?_) (fun c_1 h_2 => ?_)
  ·
    exact d_b_number_24 h_2 (fun a0 h_4 i_3 => k_K a0 h_4 (fun _ => Iff.trans (dt_1 c_1 c_1) (i_3 _)))
  ·
    refine dt_p h_2 (fun c_5 h_6 => ?_) (fun c_5 h_6 => ?_)
    ·
      exact d_b_number_20 h_6 (fun a0 h_8 i_7 => k_K a0 h_8 (fun _ => Iff.trans (dt_2 (fun n => n c_1) c_1) (Iff.trans (dt_1 c_5 (fun n => n c_5)) (i_7 _))))
    ·
      exact d_b_number_20 h_6 (fun a0 h_10 i_9 => k_K a0 h_10 (fun _ => Iff.trans (dt_2 (fun n => n c_1) c_1) (Iff.trans (dt_2 c_5 c_5) (i_9 _))))
set_option maxHeartbeats 1000000 in
theorem d_b_tell_188 {S : ms} {K : ms → Prop} (h : b_tell_188 S K) {Q : Prop} (k_K : ∀ (a0 : ms), K a0 → (∀ (K' : ms → Prop), b_tell_188 S K' ↔ K' a0) → Q) : Q := by
  unfold b_tell_188 at h
  exact k_K _ h (fun _ => Iff.rfl)
set_option maxHeartbeats 1000000 in
theorem d_b_tell_167 {x1 : Int32} {x2 : Int32} {x3 : Int32} {x4 : Int32} {x7 : Int32} {x8 : Int32} {S : ms} {R74 : Int32 → Int32 → Int32 → Int32 → Int32 → Int32 → ms → Prop} {K : ms → Prop} (h : b_tell_167 x1 x2 x3 x4 x7 x8 S R74 K) {Q : Prop} (k_R74 : ∀ (a0 : Int32) (a1 : Int32) (a2 : Int32) (a3 : Int32) (a4 : Int32) (a5 : Int32) (a6 : ms), R74 a0 a1 a2 a3 a4 a5 a6 → (∀ (R74' : Int32 → Int32 → Int32 → Int32 → Int32 → Int32 → ms → Prop) (K' : ms → Prop), b_tell_167 x1 x2 x3 x4 x7 x8 S R74' K' ↔ R74' a0 a1 a2 a3 a4 a5 a6) → Q) (k_K : ∀ (a0 : ms), K a0 → (∀ (R74' : Int32 → Int32 → Int32 → Int32 → Int32 → Int32 → ms → Prop) (K' : ms → Prop), b_tell_167 x1 x2 x3 x4 x7 x8 S R74' K' ↔ K' a0) → Q) : Q := by
  unfold b_tell_167 at h
  exact k_R74 _ _ _ _ _ _ _ h (fun _ _ => Iff.rfl)
set_option maxHeartbeats 1000000 in
theorem d_b_tell_107 {x1 : Int32} {x2 : Int32} {x3 : Int32} {x4 : Int32} {x7 : Int32} {x8 : Int32} {x9 : Int32} {S : ms} {R74 : Int32 → Int32 → Int32 → Int32 → Int32 → Int32 → ms → Prop} {R107 : Int32 → Int32 → Int32 → Int32 → Int32 → Int32 → Int32 → ms → Prop} {K : ms → Prop} (h : b_tell_107 x1 x2 x3 x4 x7 x8 x9 S R74 R107 K) {Q : Prop} (k_R74 : ∀ (a0 : Int32) (a1 : Int32) (a2 : Int32) (a3 : Int32) (a4 : Int32) (a5 : Int32) (a6 : ms), R74 a0 a1 a2 a3 a4 a5 a6 → (∀ (R74' : Int32 → Int32 → Int32 → Int32 → Int32 → Int32 → ms → Prop) (R107' : Int32 → Int32 → Int32 → Int32 → Int32 → Int32 → Int32 → ms → Prop) (K' : ms → Prop), b_tell_107 x1 x2 x3 x4 x7 x8 x9 S R74' R107' K' ↔ R74' a0 a1 a2 a3 a4 a5 a6) → Q) (k_R107 : ∀ (a0 : Int32) (a1 : Int32) (a2 : Int32) (a3 : Int32) (a4 : Int32) (a5 : Int32) (a6 : Int32) (a7 : ms), R107 a0 a1 a2 a3 a4 a5 a6 a7 → (∀ (R74' : Int32 → Int32 → Int32 → Int32 → Int32 → Int32 → ms → Prop) (R107' : Int32 → Int32 → Int32 → Int32 → Int32 → Int32 → Int32 → ms → Prop) (K' : ms → Prop), b_tell_107 x1 x2 x3 x4 x7 x8 x9 S R74' R107' K' ↔ R107' a0 a1 a2 a3 a4 a5 a6 a7) → Q) (k_K : ∀ (a0 : ms), K a0 → (∀ (R74' : Int32 → Int32 → Int32 → Int32 → Int32 → Int32 → ms → Prop) (R107' : Int32 → Int32 → Int32 → Int32 → Int32 → Int32 → Int32 → ms → Prop) (K' : ms → Prop), b_tell_107 x1 x2 x3 x4 x7 x8 x9 S R74' R107' K' ↔ K' a0) → Q) : Q := by
  unfold b_tell_107 at h
  refine dt_p h (fun c_1 h_2 => ?_) (fun c_1 h_2 => ?_)
  ·
    refine d_p_bitsOf h_2 (fun v145 h_4 i_3 => ?_)
    refine d_p_symbol h_4 (fun S149 h_6 i_5 => ?_)
    refine d_p_bitsOf h_6 (fun v158 h_8 i_7 => ?_)
    refine d_p_number h_8 (fun S161 h_10 i_9 => ?_)
    exact d_b_tell_167 h_10 (fun a0 a1 a2 a3 a4 a5 a6 h_12 i_11 => k_R74 a0 a1 a2 a3 a4 a5 a6 h_12 (fun _ _ _ => Iff.trans (dt_1 c_1 (fun n => n c_1)) (Iff.trans (i_3 _) (Iff.trans (i_5 _) (Iff.trans (i_7 _) (Iff.trans (i_9 _) (i_11 _ _))))))) (fun a0 h_14 i_13 => k_K a0 h_14 (fun _ _ _ => Iff.trans (dt_1 c_1 (fun n => n c_1)) (Iff.trans (i_3 _) (Iff.trans (i_5 _) (Iff.trans (i_7 _) (Iff.trans (i_9 _) (i_13 _ _)))))))
  ·
    refine d_p_symbol h_2 (fun S123 h_16 i_15 => ?_)
    exact k_R107 _ _ _ _ _ _ _ _ h_16 (fun _ _ _ => Iff.trans (dt_2 c_1 c_1) (i_15 _))
theorem l_e_tell_107  {x1 : Int32} {x2 : Int32} {x3 : Int32} {x4 : Int32} {x7 : Int32} {x8 : Int32} {x9 : Int32} {S : ms} {R74 : Int32 → Int32 → Int32 → Int32 → Int32 → Int32 → ms → Prop} {K : ms → Prop} : e_tell_107 x1 x2 x3 x4 x7 x8 x9 S R74 K ↔ lpE (C := (Int32 → Int32 → Int32 → Int32 → Int32 → Int32 → ms → Prop) × (ms → Prop)) (fun (y : (Int32) × (Int32) × (Int32) × (Int32) × (Int32) × (Int32) × (Int32) × (ms)) (R : ((Int32) × (Int32) × (Int32) × (Int32) × (Int32) × (Int32) × (Int32) × (ms)) → Prop) (c : (Int32 → Int32 → Int32 → Int32 → Int32 → Int32 → ms → Prop) × (ms → Prop)) => b_tell_107 y.1 y.2.1 y.2.2.1 y.2.2.2.1 y.2.2.2.2.1 y.2.2.2.2.2.1 y.2.2.2.2.2.2.1 y.2.2.2.2.2.2.2 c.1 (fun z0 z1 z2 z3 z4 z5 z6 z7 => R (z0, z1, z2, z3, z4, z5, z6, z7)) c.2) (x1, x2, x3, x4, x7, x8, x9, S) (R74, K) :=
  ⟨fun ⟨I, μ, h0, hs⟩ => ⟨fun t => I t.1 t.2.1 t.2.2.1 t.2.2.2.1 t.2.2.2.2.1 t.2.2.2.2.2.1 t.2.2.2.2.2.2.1 t.2.2.2.2.2.2.2, fun t => μ t.1 t.2.1 t.2.2.1 t.2.2.2.1 t.2.2.2.2.1 t.2.2.2.2.2.1 t.2.2.2.2.2.2.1 t.2.2.2.2.2.2.2, h0, fun t ht => hs _ _ _ _ _ _ _ _ ht⟩, fun ⟨I, μ, h0, hs⟩ => ⟨fun y0 y1 y2 y3 y4 y5 y6 y7 => I (y0, y1, y2, y3, y4, y5, y6, y7), fun y0 y1 y2 y3 y4 y5 y6 y7 => μ (y0, y1, y2, y3, y4, y5, y6, y7), h0, fun y0 y1 y2 y3 y4 y5 y6 y7 hy => hs (y0, y1, y2, y3, y4, y5, y6, y7) hy⟩⟩
set_option maxHeartbeats 1000000 in
theorem d_e_tell_107 {x1 : Int32} {x2 : Int32} {x3 : Int32} {x4 : Int32} {x7 : Int32} {x8 : Int32} {x9 : Int32} {S : ms} {R74 : Int32 → Int32 → Int32 → Int32 → Int32 → Int32 → ms → Prop} {K : ms → Prop} (h : e_tell_107 x1 x2 x3 x4 x7 x8 x9 S R74 K) {Q : Prop} (k_R74 : ∀ (a0 : Int32) (a1 : Int32) (a2 : Int32) (a3 : Int32) (a4 : Int32) (a5 : Int32) (a6 : ms), R74 a0 a1 a2 a3 a4 a5 a6 → (∀ (R74' : Int32 → Int32 → Int32 → Int32 → Int32 → Int32 → ms → Prop) (K' : ms → Prop), e_tell_107 x1 x2 x3 x4 x7 x8 x9 S R74' K' ↔ R74' a0 a1 a2 a3 a4 a5 a6) → Q) (k_K : ∀ (a0 : ms), K a0 → (∀ (R74' : Int32 → Int32 → Int32 → Int32 → Int32 → Int32 → ms → Prop) (K' : ms → Prop), e_tell_107 x1 x2 x3 x4 x7 x8 x9 S R74' K' ↔ K' a0) → Q) : Q := by
  obtain ⟨o, ho, hoc, hi⟩ := lp_det (C := (Int32 → Int32 → Int32 → Int32 → Int32 → Int32 → ms → Prop) × (ms → Prop)) (b := (fun (y : (Int32) × (Int32) × (Int32) × (Int32) × (Int32) × (Int32) × (Int32) × (ms)) (R : ((Int32) × (Int32) × (Int32) × (Int32) × (Int32) × (Int32) × (Int32) × (ms)) → Prop) (c : (Int32 → Int32 → Int32 → Int32 → Int32 → Int32 → ms → Prop) × (ms → Prop)) => b_tell_107 y.1 y.2.1 y.2.2.1 y.2.2.2.1 y.2.2.2.2.1 y.2.2.2.2.2.1 y.2.2.2.2.2.2.1 y.2.2.2.2.2.2.2 c.1 (fun z0 z1 z2 z3 z4 z5 z6 z7 => R (z0, z1, z2, z3, z4, z5, z6, z7)) c.2)) (O := (fun (o : ((Int32 → Int32 → Int32 → Int32 → Int32 → Int32 → ms → Prop) × (ms → Prop)) → Prop) => (∃ (a0 : Int32) (a1 : Int32) (a2 : Int32) (a3 : Int32) (a4 : Int32) (a5 : Int32) (a6 : ms), o = fun c => c.1 a0 a1 a2 a3 a4 a5 a6) ∨ (∃ (a0 : ms), o = fun c => c.2 a0))) (fun y R c hy => d_b_tell_107 hy (fun a0 a1 a2 a3 a4 a5 a6 ha ia => Or.inr ⟨(fun c => c.1 a0 a1 a2 a3 a4 a5 a6), Or.inl ⟨a0, a1, a2, a3, a4, a5, a6, rfl⟩, ha, fun R' c' => ia c'.1 (fun z0 z1 z2 z3 z4 z5 z6 z7 => R' (z0, z1, z2, z3, z4, z5, z6, z7)) c'.2⟩) (fun a0 a1 a2 a3 a4 a5 a6 a7 ha ia => Or.inl ⟨(a0, a1, a2, a3, a4, a5, a6, a7), ha, fun R' c' => ia c'.1 (fun z0 z1 z2 z3 z4 z5 z6 z7 => R' (z0, z1, z2, z3, z4, z5, z6, z7)) c'.2⟩) (fun a0 ha ia => Or.inr ⟨(fun c => c.2 a0), Or.inr (⟨a0, rfl⟩), ha, fun R' c' => ia c'.1 (fun z0 z1 z2 z3 z4 z5 z6 z7 => R' (z0, z1, z2, z3, z4, z5, z6, z7)) c'.2⟩)) (l_e_tell_107.mp h)
  rcases ho with ⟨a0, a1, a2, a3, a4, a5, a6, rfl⟩ | ⟨a0, rfl⟩
  · exact k_R74 _ _ _ _ _ _ _ hoc (fun R74' K' => Iff.trans l_e_tell_107 (hi (R74', K')))
  · exact k_K _ hoc (fun R74' K' => Iff.trans l_e_tell_107 (hi (R74', K')))
theorem v_e_tell_107 {x1 : Int32} {x2 : Int32} {x3 : Int32} {x4 : Int32} {x7 : Int32} {x8 : Int32} {x9 : Int32} {S : ms} {R74 : Int32 → Int32 → Int32 → Int32 → Int32 → Int32 → ms → Prop} {K : ms → Prop} (h : e_tell_107 x1 x2 x3 x4 x7 x8 x9 S R74 K) {G : Prop} (Inv : Int32 → ms → Prop) (h0 : Inv x7 S) (hs : ∀ (yx7 : Int32) (yS : ms) (R : Int32 → Int32 → Int32 → Int32 → Int32 → Int32 → Int32 → ms → Prop), Inv yx7 yS → b_tell_107 x1 x2 x3 x4 yx7 x8 x9 yS R74 R K → (∃ (zx7 : Int32) (zS : ms), R x1 x2 x3 x4 zx7 x8 x9 zS ∧ Inv zx7 zS) ∨ G) : G := by
  obtain ⟨I, μ, i0, is⟩ := h
  have go : ∀ (n : Nat) (yx7 : Int32) (yS : ms), μ x1 x2 x3 x4 yx7 x8 x9 yS < n → I x1 x2 x3 x4 yx7 x8 x9 yS → Inv yx7 yS → G := by
    intro n
    induction n with
    | zero => intro yx7 yS hy; exact absurd hy (Nat.not_lt_zero _)
    | succ n ih =>
      intro yx7 yS hy hI hV
      rcases hs yx7 yS _ hV (is x1 x2 x3 x4 yx7 x8 x9 yS hI) with ⟨zx7, zS, ⟨hz, hm⟩, hv⟩ | g
      · exact ih zx7 zS (Nat.lt_of_lt_of_le hm (Nat.le_of_lt_succ hy)) hz hv
      · exact g
  exact go _ x7 S (Nat.lt_succ_self _) i0 h0
theorem r_e_tell_107 {x1 : Int32} {x2 : Int32} {x3 : Int32} {x4 : Int32} {x7 : Int32} {x8 : Int32} {x9 : Int32} {S : ms} {R74 : Int32 → Int32 → Int32 → Int32 → Int32 → Int32 → ms → Prop} {K : ms → Prop} (h : e_tell_107 x1 x2 x3 x4 x7 x8 x9 S R74 K) : b_tell_107 x1 x2 x3 x4 x7 x8 x9 S R74 (fun zx1 zx2 zx3 zx4 zx7 zx8 zx9 zS => e_tell_107 zx1 zx2 zx3 zx4 zx7 zx8 zx9 zS R74 K) K := by
  obtain ⟨I, μ, i0, is⟩ := h
  exact d_b_tell_107 (is x1 x2 x3 x4 x7 x8 x9 S i0) (fun a0 a1 a2 a3 a4 a5 a6 ha ia => (ia _ _ _).mpr ha) (fun a0 a1 a2 a3 a4 a5 a6 a7 ha ia => (ia _ _ _).mpr ⟨I, μ, ha.1, is⟩) (fun a0 ha ia => (ia _ _ _).mpr ha)
set_option maxHeartbeats 1000000 in
theorem d_b_tell_74 {x1 : Int32} {x2 : Int32} {x3 : Int32} {x4 : Int32} {x7 : Int32} {x8 : Int32} {S : ms} {R74 : Int32 → Int32 → Int32 → Int32 → Int32 → Int32 → ms → Prop} {K : ms → Prop} (h : b_tell_74 x1 x2 x3 x4 x7 x8 S R74 K) {Q : Prop} (k_R74 : ∀ (a0 : Int32) (a1 : Int32) (a2 : Int32) (a3 : Int32) (a4 : Int32) (a5 : Int32) (a6 : ms), R74 a0 a1 a2 a3 a4 a5 a6 → (∀ (R74' : Int32 → Int32 → Int32 → Int32 → Int32 → Int32 → ms → Prop) (K' : ms → Prop), b_tell_74 x1 x2 x3 x4 x7 x8 S R74' K' ↔ R74' a0 a1 a2 a3 a4 a5 a6) → Q) (k_K : ∀ (a0 : ms), K a0 → (∀ (R74' : Int32 → Int32 → Int32 → Int32 → Int32 → Int32 → ms → Prop) (K' : ms → Prop), b_tell_74 x1 x2 x3 x4 x7 x8 S R74' K' ↔ K' a0) → Q) : Q := by
  unfold b_tell_74 at h
  refine dt_p h (fun c_1 h_2 => ?_) (fun c_1 h_2 => ?_)
  ·
    refine dt_p h_2 (fun c_3 h_4 => ?_) (fun c_3 h_4 => ?_)
    ·
      exact d_b_tell_188 h_4 (fun a0 h_6 i_5 => k_K a0 h_6 (fun _ _ => Iff.trans (dt_1 c_1 (fun n => n c_1)) (Iff.trans (dt_1 c_3 (fun n => n c_3)) (i_5 _))))
    ·
      refine d_p_symbol h_4 (fun S185 h_8 i_7 => ?_)
      exact d_b_tell_188 h_8 (fun a0 h_10 i_9 => k_K a0 h_10 (fun _ _ => Iff.trans (dt_1 c_1 (fun n => n c_1)) (Iff.trans (dt_2 c_3 c_3) (Iff.trans (i_7 _) (i_9 _)))))
  ·
    refine d_p_levelCell h_2 (fun v90 h_12 i_11 => ?_)
    refine dt_n (And.right h_12) (fun c_13 h_14 => ?_) (fun c_13 h_14 => ?_)
    ·
      exact d_e_tell_107 h_14 (fun a0 a1 a2 a3 a4 a5 a6 h_16 i_15 => k_R74 a0 a1 a2 a3 a4 a5 a6 h_16 (fun _ _ => Iff.trans (dt_2 c_1 c_1) (Iff.trans (i_11 _) (Iff.trans (dt_a (And.left h_12)) (Iff.trans (dt_1 c_13 c_13) (i_15 _ _)))))) (fun a0 h_18 i_17 => k_K a0 h_18 (fun _ _ => Iff.trans (dt_2 c_1 c_1) (Iff.trans (i_11 _) (Iff.trans (dt_a (And.left h_12)) (Iff.trans (dt_1 c_13 c_13) (i_17 _ _))))))
    ·
      exact d_b_tell_167 h_14 (fun a0 a1 a2 a3 a4 a5 a6 h_20 i_19 => k_R74 a0 a1 a2 a3 a4 a5 a6 h_20 (fun _ _ => Iff.trans (dt_2 c_1 c_1) (Iff.trans (i_11 _) (Iff.trans (dt_a (And.left h_12)) (Iff.trans (dt_2 (fun n => n c_13) c_13) (i_19 _ _)))))) (fun a0 h_22 i_21 => k_K a0 h_22 (fun _ _ => Iff.trans (dt_2 c_1 c_1) (Iff.trans (i_11 _) (Iff.trans (dt_a (And.left h_12)) (Iff.trans (dt_2 (fun n => n c_13) c_13) (i_21 _ _))))))
theorem l_e_tell_74  {x1 : Int32} {x2 : Int32} {x3 : Int32} {x4 : Int32} {x7 : Int32} {x8 : Int32} {S : ms} {K : ms → Prop} : e_tell_74 x1 x2 x3 x4 x7 x8 S K ↔ lpE (C := (ms → Prop)) (fun (y : (Int32) × (Int32) × (Int32) × (Int32) × (Int32) × (Int32) × (ms)) (R : ((Int32) × (Int32) × (Int32) × (Int32) × (Int32) × (Int32) × (ms)) → Prop) (c : (ms → Prop)) => b_tell_74 y.1 y.2.1 y.2.2.1 y.2.2.2.1 y.2.2.2.2.1 y.2.2.2.2.2.1 y.2.2.2.2.2.2 (fun z0 z1 z2 z3 z4 z5 z6 => R (z0, z1, z2, z3, z4, z5, z6)) c) (x1, x2, x3, x4, x7, x8, S) K :=
  ⟨fun ⟨I, μ, h0, hs⟩ => ⟨fun t => I t.1 t.2.1 t.2.2.1 t.2.2.2.1 t.2.2.2.2.1 t.2.2.2.2.2.1 t.2.2.2.2.2.2, fun t => μ t.1 t.2.1 t.2.2.1 t.2.2.2.1 t.2.2.2.2.1 t.2.2.2.2.2.1 t.2.2.2.2.2.2, h0, fun t ht => hs _ _ _ _ _ _ _ ht⟩, fun ⟨I, μ, h0, hs⟩ => ⟨fun y0 y1 y2 y3 y4 y5 y6 => I (y0, y1, y2, y3, y4, y5, y6), fun y0 y1 y2 y3 y4 y5 y6 => μ (y0, y1, y2, y3, y4, y5, y6), h0, fun y0 y1 y2 y3 y4 y5 y6 hy => hs (y0, y1, y2, y3, y4, y5, y6) hy⟩⟩
set_option maxHeartbeats 1000000 in
theorem d_e_tell_74 {x1 : Int32} {x2 : Int32} {x3 : Int32} {x4 : Int32} {x7 : Int32} {x8 : Int32} {S : ms} {K : ms → Prop} (h : e_tell_74 x1 x2 x3 x4 x7 x8 S K) {Q : Prop} (k_K : ∀ (a0 : ms), K a0 → (∀ (K' : ms → Prop), e_tell_74 x1 x2 x3 x4 x7 x8 S K' ↔ K' a0) → Q) : Q := by
  obtain ⟨o, ho, hoc, hi⟩ := lp_det (C := (ms → Prop)) (b := (fun (y : (Int32) × (Int32) × (Int32) × (Int32) × (Int32) × (Int32) × (ms)) (R : ((Int32) × (Int32) × (Int32) × (Int32) × (Int32) × (Int32) × (ms)) → Prop) (c : (ms → Prop)) => b_tell_74 y.1 y.2.1 y.2.2.1 y.2.2.2.1 y.2.2.2.2.1 y.2.2.2.2.2.1 y.2.2.2.2.2.2 (fun z0 z1 z2 z3 z4 z5 z6 => R (z0, z1, z2, z3, z4, z5, z6)) c)) (O := (fun (o : ((ms → Prop)) → Prop) => (∃ (a0 : ms), o = fun c => c a0))) (fun y R c hy => d_b_tell_74 hy (fun a0 a1 a2 a3 a4 a5 a6 ha ia => Or.inl ⟨(a0, a1, a2, a3, a4, a5, a6), ha, fun R' c' => ia (fun z0 z1 z2 z3 z4 z5 z6 => R' (z0, z1, z2, z3, z4, z5, z6)) c'⟩) (fun a0 ha ia => Or.inr ⟨(fun c => c a0), ⟨a0, rfl⟩, ha, fun R' c' => ia (fun z0 z1 z2 z3 z4 z5 z6 => R' (z0, z1, z2, z3, z4, z5, z6)) c'⟩)) (l_e_tell_74.mp h)
  rcases ho with ⟨a0, rfl⟩
  · exact k_K _ hoc (fun K' => Iff.trans l_e_tell_74 (hi K'))
theorem v_e_tell_74 {x1 : Int32} {x2 : Int32} {x3 : Int32} {x4 : Int32} {x7 : Int32} {x8 : Int32} {S : ms} {K : ms → Prop} (h : e_tell_74 x1 x2 x3 x4 x7 x8 S K) {G : Prop} (Inv : Int32 → Int32 → ms → Prop) (h0 : Inv x7 x8 S) (hs : ∀ (yx7 : Int32) (yx8 : Int32) (yS : ms) (R : Int32 → Int32 → Int32 → Int32 → Int32 → Int32 → ms → Prop), Inv yx7 yx8 yS → b_tell_74 x1 x2 x3 x4 yx7 yx8 yS R K → (∃ (zx7 : Int32) (zx8 : Int32) (zS : ms), R x1 x2 x3 x4 zx7 zx8 zS ∧ Inv zx7 zx8 zS) ∨ G) : G := by
  obtain ⟨I, μ, i0, is⟩ := h
  have go : ∀ (n : Nat) (yx7 : Int32) (yx8 : Int32) (yS : ms), μ x1 x2 x3 x4 yx7 yx8 yS < n → I x1 x2 x3 x4 yx7 yx8 yS → Inv yx7 yx8 yS → G := by
    intro n
    induction n with
    | zero => intro yx7 yx8 yS hy; exact absurd hy (Nat.not_lt_zero _)
    | succ n ih =>
      intro yx7 yx8 yS hy hI hV
      rcases hs yx7 yx8 yS _ hV (is x1 x2 x3 x4 yx7 yx8 yS hI) with ⟨zx7, zx8, zS, ⟨hz, hm⟩, hv⟩ | g
      · exact ih zx7 zx8 zS (Nat.lt_of_lt_of_le hm (Nat.le_of_lt_succ hy)) hz hv
      · exact g
  exact go _ x7 x8 S (Nat.lt_succ_self _) i0 h0
theorem r_e_tell_74 {x1 : Int32} {x2 : Int32} {x3 : Int32} {x4 : Int32} {x7 : Int32} {x8 : Int32} {S : ms} {K : ms → Prop} (h : e_tell_74 x1 x2 x3 x4 x7 x8 S K) : b_tell_74 x1 x2 x3 x4 x7 x8 S (fun zx1 zx2 zx3 zx4 zx7 zx8 zS => e_tell_74 zx1 zx2 zx3 zx4 zx7 zx8 zS K) K := by
  obtain ⟨I, μ, i0, is⟩ := h
  exact d_b_tell_74 (is x1 x2 x3 x4 x7 x8 S i0) (fun a0 a1 a2 a3 a4 a5 a6 ha ia => (ia _ _).mpr ⟨I, μ, ha.1, is⟩) (fun a0 ha ia => (ia _ _).mpr ha)
set_option maxHeartbeats 1000000 in
theorem d_b_tell_9 {x1 : Int32} {x2 : Int32} {x3 : Int32} {s0 : Int32} {S : ms} {K : ms → Prop} (h : b_tell_9 x1 x2 x3 s0 S K) {Q : Prop} (k_K : ∀ (a0 : ms), K a0 → (∀ (K' : ms → Prop), b_tell_9 x1 x2 x3 s0 S K' ↔ K' a0) → Q) : Q := by
  unfold b_tell_9 at h
  refine d_p_levelCell h (fun v19 h_2 i_1 => ?_)
  refine d_p_bitsOf (And.right (And.right (And.right h_2))) (fun v50 h_4 i_3 => ?_)
  refine d_p_symbol h_4 (fun S53 h_6 i_5 => ?_)
  refine d_p_bitsOf h_6 (fun v62 h_8 i_7 => ?_)
  refine d_p_number h_8 (fun S65 h_10 i_9 => ?_)
  exact d_e_tell_74 h_10 (fun a0 h_12 i_11 => k_K a0 h_12 (fun _ => Iff.trans (i_1 _) (Iff.trans (dt_a (And.left h_2)) (Iff.trans (dt_a (And.left (And.right h_2))) (Iff.trans (dt_a (And.left (And.right (And.right h_2)))) (Iff.trans (i_3 _) (Iff.trans (i_5 _) (Iff.trans (i_7 _) (Iff.trans (i_9 _) (i_11 _))))))))))
set_option maxHeartbeats 1000000 in
theorem d_p_tell {x1 : Int32} {x2 : Int32} {x3 : Int32} {S : ms} {K : ms → Prop} (h : p_tell x1 x2 x3 S K) {Q : Prop} (k_K : ∀ (a0 : ms), K a0 → (∀ (K' : ms → Prop), p_tell x1 x2 x3 S K' ↔ K' a0) → Q) : Q := by
  unfold p_tell at h
  refine dt_n h (fun c_1 h_2 => ?_) (fun c_1 h_2 => ?_)
  ·
    exact d_b_tell_9 h_2 (fun a0 h_4 i_3 => k_K a0 h_4 (fun _ => Iff.trans (dt_1 c_1 c_1) (i_3 _)))
  ·
    exact d_b_tell_9 h_2 (fun a0 h_6 i_5 => k_K a0 h_6 (fun _ => Iff.trans (dt_2 (fun n => n c_1) c_1) (i_5 _)))
set_option maxHeartbeats 1000000 in
theorem d_b_units_261 {x1 : Int32} {x2 : Int32} {x3 : Int32} {x6 : Int32} {x7 : Int32} {x8 : Int32} {x9 : Int32} {x10 : Int32} {x11 : Int32} {x12 : Int32} {x13 : Int32} {x14 : Int32} {S : ms} {R122 : Int32 → Int32 → Int32 → Int32 → Int32 → Int32 → ms → Prop} {R213 : Int32 → Int32 → Int32 → Int32 → Int32 → Int32 → Int32 → Int32 → Int32 → ms → Prop} {R261 : Int32 → Int32 → Int32 → Int32 → Int32 → Int32 → Int32 → Int32 → Int32 → Int32 → Int32 → Int32 → ms → Prop} {K : ms → Prop} (h : b_units_261 x1 x2 x3 x6 x7 x8 x9 x10 x11 x12 x13 x14 S R122 R213 R261 K) {Q : Prop} (k_R122 : ∀ (a0 : Int32) (a1 : Int32) (a2 : Int32) (a3 : Int32) (a4 : Int32) (a5 : Int32) (a6 : ms), R122 a0 a1 a2 a3 a4 a5 a6 → (∀ (R122' : Int32 → Int32 → Int32 → Int32 → Int32 → Int32 → ms → Prop) (R213' : Int32 → Int32 → Int32 → Int32 → Int32 → Int32 → Int32 → Int32 → Int32 → ms → Prop) (R261' : Int32 → Int32 → Int32 → Int32 → Int32 → Int32 → Int32 → Int32 → Int32 → Int32 → Int32 → Int32 → ms → Prop) (K' : ms → Prop), b_units_261 x1 x2 x3 x6 x7 x8 x9 x10 x11 x12 x13 x14 S R122' R213' R261' K' ↔ R122' a0 a1 a2 a3 a4 a5 a6) → Q) (k_R213 : ∀ (a0 : Int32) (a1 : Int32) (a2 : Int32) (a3 : Int32) (a4 : Int32) (a5 : Int32) (a6 : Int32) (a7 : Int32) (a8 : Int32) (a9 : ms), R213 a0 a1 a2 a3 a4 a5 a6 a7 a8 a9 → (∀ (R122' : Int32 → Int32 → Int32 → Int32 → Int32 → Int32 → ms → Prop) (R213' : Int32 → Int32 → Int32 → Int32 → Int32 → Int32 → Int32 → Int32 → Int32 → ms → Prop) (R261' : Int32 → Int32 → Int32 → Int32 → Int32 → Int32 → Int32 → Int32 → Int32 → Int32 → Int32 → Int32 → ms → Prop) (K' : ms → Prop), b_units_261 x1 x2 x3 x6 x7 x8 x9 x10 x11 x12 x13 x14 S R122' R213' R261' K' ↔ R213' a0 a1 a2 a3 a4 a5 a6 a7 a8 a9) → Q) (k_R261 : ∀ (a0 : Int32) (a1 : Int32) (a2 : Int32) (a3 : Int32) (a4 : Int32) (a5 : Int32) (a6 : Int32) (a7 : Int32) (a8 : Int32) (a9 : Int32) (a10 : Int32) (a11 : Int32) (a12 : ms), R261 a0 a1 a2 a3 a4 a5 a6 a7 a8 a9 a10 a11 a12 → (∀ (R122' : Int32 → Int32 → Int32 → Int32 → Int32 → Int32 → ms → Prop) (R213' : Int32 → Int32 → Int32 → Int32 → Int32 → Int32 → Int32 → Int32 → Int32 → ms → Prop) (R261' : Int32 → Int32 → Int32 → Int32 → Int32 → Int32 → Int32 → Int32 → Int32 → Int32 → Int32 → Int32 → ms → Prop) (K' : ms → Prop), b_units_261 x1 x2 x3 x6 x7 x8 x9 x10 x11 x12 x13 x14 S R122' R213' R261' K' ↔ R261' a0 a1 a2 a3 a4 a5 a6 a7 a8 a9 a10 a11 a12) → Q) (k_K : ∀ (a0 : ms), K a0 → (∀ (R122' : Int32 → Int32 → Int32 → Int32 → Int32 → Int32 → ms → Prop) (R213' : Int32 → Int32 → Int32 → Int32 → Int32 → Int32 → Int32 → Int32 → Int32 → ms → Prop) (R261' : Int32 → Int32 → Int32 → Int32 → Int32 → Int32 → Int32 → Int32 → Int32 → Int32 → Int32 → Int32 → ms → Prop) (K' : ms → Prop), b_units_261 x1 x2 x3 x6 x7 x8 x9 x10 x11 x12 x13 x14 S R122' R213' R261' K' ↔ K' a0) → Q) : Q := by
  unfold b_units_261 at h
  refine dt_p h (fun c_1 h_2 => ?_) (fun c_1 h_2 => ?_)
  ·
    exact k_R213 _ _ _ _ _ _ _ _ _ _ h_2 (fun _ _ _ _ => dt_1 c_1 (fun n => n c_1))
  ·
    refine d_p_tell (And.right (And.right (And.right h_2))) (fun S314 h_4 i_3 => ?_)
    exact k_R261 _ _ _ _ _ _ _ _ _ _ _ _ _ h_4 (fun _ _ _ _ => Iff.trans (dt_2 c_1 c_1) (Iff.trans (dt_a (And.left h_2)) (Iff.trans (dt_a (And.left (And.right h_2))) (Iff.trans (dt_a (And.left (And.right (And.right h_2)))) (i_3 _)))))
theorem l_e_units_261  {x1 : Int32} {x2 : Int32} {x3 : Int32} {x6 : Int32} {x7 : Int32} {x8 : Int32} {x9 : Int32} {x10 : Int32} {x11 : Int32} {x12 : Int32} {x13 : Int32} {x14 : Int32} {S : ms} {R122 : Int32 → Int32 → Int32 → Int32 → Int32 → Int32 → ms → Prop} {R213 : Int32 → Int32 → Int32 → Int32 → Int32 → Int32 → Int32 → Int32 → Int32 → ms → Prop} {K : ms → Prop} : e_units_261 x1 x2 x3 x6 x7 x8 x9 x10 x11 x12 x13 x14 S R122 R213 K ↔ lpE (C := (Int32 → Int32 → Int32 → Int32 → Int32 → Int32 → ms → Prop) × (Int32 → Int32 → Int32 → Int32 → Int32 → Int32 → Int32 → Int32 → Int32 → ms → Prop) × (ms → Prop)) (fun (y : (Int32) × (Int32) × (Int32) × (Int32) × (Int32) × (Int32) × (Int32) × (Int32) × (Int32) × (Int32) × (Int32) × (Int32) × (ms)) (R : ((Int32) × (Int32) × (Int32) × (Int32) × (Int32) × (Int32) × (Int32) × (Int32) × (Int32) × (Int32) × (Int32) × (Int32) × (ms)) → Prop) (c : (Int32 → Int32 → Int32 → Int32 → Int32 → Int32 → ms → Prop) × (Int32 → Int32 → Int32 → Int32 → Int32 → Int32 → Int32 → Int32 → Int32 → ms → Prop) × (ms → Prop)) => b_units_261 y.1 y.2.1 y.2.2.1 y.2.2.2.1 y.2.2.2.2.1 y.2.2.2.2.2.1 y.2.2.2.2.2.2.1 y.2.2.2.2.2.2.2.1 y.2.2.2.2.2.2.2.2.1 y.2.2.2.2.2.2.2.2.2.1 y.2.2.2.2.2.2.2.2.2.2.1 y.2.2.2.2.2.2.2.2.2.2.2.1 y.2.2.2.2.2.2.2.2.2.2.2.2 c.1 c.2.1 (fun z0 z1 z2 z3 z4 z5 z6 z7 z8 z9 z10 z11 z12 => R (z0, z1, z2, z3, z4, z5, z6, z7, z8, z9, z10, z11, z12)) c.2.2) (x1, x2, x3, x6, x7, x8, x9, x10, x11, x12, x13, x14, S) (R122, R213, K) :=
  ⟨fun ⟨I, μ, h0, hs⟩ => ⟨fun t => I t.1 t.2.1 t.2.2.1 t.2.2.2.1 t.2.2.2.2.1 t.2.2.2.2.2.1 t.2.2.2.2.2.2.1 t.2.2.2.2.2.2.2.1 t.2.2.2.2.2.2.2.2.1 t.2.2.2.2.2.2.2.2.2.1 t.2.2.2.2.2.2.2.2.2.2.1 t.2.2.2.2.2.2.2.2.2.2.2.1 t.2.2.2.2.2.2.2.2.2.2.2.2, fun t => μ t.1 t.2.1 t.2.2.1 t.2.2.2.1 t.2.2.2.2.1 t.2.2.2.2.2.1 t.2.2.2.2.2.2.1 t.2.2.2.2.2.2.2.1 t.2.2.2.2.2.2.2.2.1 t.2.2.2.2.2.2.2.2.2.1 t.2.2.2.2.2.2.2.2.2.2.1 t.2.2.2.2.2.2.2.2.2.2.2.1 t.2.2.2.2.2.2.2.2.2.2.2.2, h0, fun t ht => hs _ _ _ _ _ _ _ _ _ _ _ _ _ ht⟩, fun ⟨I, μ, h0, hs⟩ => ⟨fun y0 y1 y2 y3 y4 y5 y6 y7 y8 y9 y10 y11 y12 => I (y0, y1, y2, y3, y4, y5, y6, y7, y8, y9, y10, y11, y12), fun y0 y1 y2 y3 y4 y5 y6 y7 y8 y9 y10 y11 y12 => μ (y0, y1, y2, y3, y4, y5, y6, y7, y8, y9, y10, y11, y12), h0, fun y0 y1 y2 y3 y4 y5 y6 y7 y8 y9 y10 y11 y12 hy => hs (y0, y1, y2, y3, y4, y5, y6, y7, y8, y9, y10, y11, y12) hy⟩⟩
set_option maxHeartbeats 1000000 in
theorem d_e_units_261 {x1 : Int32} {x2 : Int32} {x3 : Int32} {x6 : Int32} {x7 : Int32} {x8 : Int32} {x9 : Int32} {x10 : Int32} {x11 : Int32} {x12 : Int32} {x13 : Int32} {x14 : Int32} {S : ms} {R122 : Int32 → Int32 → Int32 → Int32 → Int32 → Int32 → ms → Prop} {R213 : Int32 → Int32 → Int32 → Int32 → Int32 → Int32 → Int32 → Int32 → Int32 → ms → Prop} {K : ms → Prop} (h : e_units_261 x1 x2 x3 x6 x7 x8 x9 x10 x11 x12 x13 x14 S R122 R213 K) {Q : Prop} (k_R122 : ∀ (a0 : Int32) (a1 : Int32) (a2 : Int32) (a3 : Int32) (a4 : Int32) (a5 : Int32) (a6 : ms), R122 a0 a1 a2 a3 a4 a5 a6 → (∀ (R122' : Int32 → Int32 → Int32 → Int32 → Int32 → Int32 → ms → Prop) (R213' : Int32 → Int32 → Int32 → Int32 → Int32 → Int32 → Int32 → Int32 → Int32 → ms → Prop) (K' : ms → Prop), e_units_261 x1 x2 x3 x6 x7 x8 x9 x10 x11 x12 x13 x14 S R122' R213' K' ↔ R122' a0 a1 a2 a3 a4 a5 a6) → Q) (k_R213 : ∀ (a0 : Int32) (a1 : Int32) (a2 : Int32) (a3 : Int32) (a4 : Int32) (a5 : Int32) (a6 : Int32) (a7 : Int32) (a8 : Int32) (a9 : ms), R213 a0 a1 a2 a3 a4 a5 a6 a7 a8 a9 → (∀ (R122' : Int32 → Int32 → Int32 → Int32 → Int32 → Int32 → ms → Prop) (R213' : Int32 → Int32 → Int32 → Int32 → Int32 → Int32 → Int32 → Int32 → Int32 → ms → Prop) (K' : ms → Prop), e_units_261 x1 x2 x3 x6 x7 x8 x9 x10 x11 x12 x13 x14 S R122' R213' K' ↔ R213' a0 a1 a2 a3 a4 a5 a6 a7 a8 a9) → Q) (k_K : ∀ (a0 : ms), K a0 → (∀ (R122' : Int32 → Int32 → Int32 → Int32 → Int32 → Int32 → ms → Prop) (R213' : Int32 → Int32 → Int32 → Int32 → Int32 → Int32 → Int32 → Int32 → Int32 → ms → Prop) (K' : ms → Prop), e_units_261 x1 x2 x3 x6 x7 x8 x9 x10 x11 x12 x13 x14 S R122' R213' K' ↔ K' a0) → Q) : Q := by
  obtain ⟨o, ho, hoc, hi⟩ := lp_det (C := (Int32 → Int32 → Int32 → Int32 → Int32 → Int32 → ms → Prop) × (Int32 → Int32 → Int32 → Int32 → Int32 → Int32 → Int32 → Int32 → Int32 → ms → Prop) × (ms → Prop)) (b := (fun (y : (Int32) × (Int32) × (Int32) × (Int32) × (Int32) × (Int32) × (Int32) × (Int32) × (Int32) × (Int32) × (Int32) × (Int32) × (ms)) (R : ((Int32) × (Int32) × (Int32) × (Int32) × (Int32) × (Int32) × (Int32) × (Int32) × (Int32) × (Int32) × (Int32) × (Int32) × (ms)) → Prop) (c : (Int32 → Int32 → Int32 → Int32 → Int32 → Int32 → ms → Prop) × (Int32 → Int32 → Int32 → Int32 → Int32 → Int32 → Int32 → Int32 → Int32 → ms → Prop) × (ms → Prop)) => b_units_261 y.1 y.2.1 y.2.2.1 y.2.2.2.1 y.2.2.2.2.1 y.2.2.2.2.2.1 y.2.2.2.2.2.2.1 y.2.2.2.2.2.2.2.1 y.2.2.2.2.2.2.2.2.1 y.2.2.2.2.2.2.2.2.2.1 y.2.2.2.2.2.2.2.2.2.2.1 y.2.2.2.2.2.2.2.2.2.2.2.1 y.2.2.2.2.2.2.2.2.2.2.2.2 c.1 c.2.1 (fun z0 z1 z2 z3 z4 z5 z6 z7 z8 z9 z10 z11 z12 => R (z0, z1, z2, z3, z4, z5, z6, z7, z8, z9, z10, z11, z12)) c.2.2)) (O := (fun (o : ((Int32 → Int32 → Int32 → Int32 → Int32 → Int32 → ms → Prop) × (Int32 → Int32 → Int32 → Int32 → Int32 → Int32 → Int32 → Int32 → Int32 → ms → Prop) × (ms → Prop)) → Prop) => (∃ (a0 : Int32) (a1 : Int32) (a2 : Int32) (a3 : Int32) (a4 : Int32) (a5 : Int32) (a6 : ms), o = fun c => c.1 a0 a1 a2 a3 a4 a5 a6) ∨ (∃ (a0 : Int32) (a1 : Int32) (a2 : Int32) (a3 : Int32) (a4 : Int32) (a5 : Int32) (a6 : Int32) (a7 : Int32) (a8 : Int32) (a9 : ms), o = fun c => c.2.1 a0 a1 a2 a3 a4 a5 a6 a7 a8 a9) ∨ (∃ (a0 : ms), o = fun c => c.2.2 a0))) (fun y R c hy => d_b_units_261 hy (fun a0 a1 a2 a3 a4 a5 a6 ha ia => Or.inr ⟨(fun c => c.1 a0 a1 a2 a3 a4 a5 a6), Or.inl ⟨a0, a1, a2, a3, a4, a5, a6, rfl⟩, ha, fun R' c' => ia c'.1 c'.2.1 (fun z0 z1 z2 z3 z4 z5 z6 z7 z8 z9 z10 z11 z12 => R' (z0, z1, z2, z3, z4, z5, z6, z7, z8, z9, z10, z11, z12)) c'.2.2⟩) (fun a0 a1 a2 a3 a4 a5 a6 a7 a8 a9 ha ia => Or.inr ⟨(fun c => c.2.1 a0 a1 a2 a3 a4 a5 a6 a7 a8 a9), Or.inr (Or.inl ⟨a0, a1, a2, a3, a4, a5, a6, a7, a8, a9, rfl⟩), ha, fun R' c' => ia c'.1 c'.2.1 (fun z0 z1 z2 z3 z4 z5 z6 z7 z8 z9 z10 z11 z12 => R' (z0, z1, z2, z3, z4, z5, z6, z7, z8, z9, z10, z11, z12)) c'.2.2⟩) (fun a0 a1 a2 a3 a4 a5 a6 a7 a8 a9 a10 a11 a12 ha ia => Or.inl ⟨(a0, a1, a2, a3, a4, a5, a6, a7, a8, a9, a10, a11, a12), ha, fun R' c' => ia c'.1 c'.2.1 (fun z0 z1 z2 z3 z4 z5 z6 z7 z8 z9 z10 z11 z12 => R' (z0, z1, z2, z3, z4, z5, z6, z7, z8, z9, z10, z11, z12)) c'.2.2⟩) (fun a0 ha ia => Or.inr ⟨(fun c => c.2.2 a0), Or.inr (Or.inr (⟨a0, rfl⟩)), ha, fun R' c' => ia c'.1 c'.2.1 (fun z0 z1 z2 z3 z4 z5 z6 z7 z8 z9 z10 z11 z12 => R' (z0, z1, z2, z3, z4, z5, z6, z7, z8, z9, z10, z11, z12)) c'.2.2⟩)) (l_e_units_261.mp h)
  rcases ho with ⟨a0, a1, a2, a3, a4, a5, a6, rfl⟩ | ⟨a0, a1, a2, a3, a4, a5, a6, a7, a8, a9, rfl⟩ | ⟨a0, rfl⟩
  · exact k_R122 _ _ _ _ _ _ _ hoc (fun R122' R213' K' => Iff.trans l_e_units_261 (hi (R122', R213', K')))
  · exact k_R213 _ _ _ _ _ _ _ _ _ _ hoc (fun R122' R213' K' => Iff.trans l_e_units_261 (hi (R122', R213', K')))
  · exact k_K _ hoc (fun R122' R213' K' => Iff.trans l_e_units_261 (hi (R122', R213', K')))
theorem v_e_units_261 {x1 : Int32} {x2 : Int32} {x3 : Int32} {x6 : Int32} {x7 : Int32} {x8 : Int32} {x9 : Int32} {x10 : Int32} {x11 : Int32} {x12 : Int32} {x13 : Int32} {x14 : Int32} {S : ms} {R122 : Int32 → Int32 → Int32 → Int32 → Int32 → Int32 → ms → Prop} {R213 : Int32 → Int32 → Int32 → Int32 → Int32 → Int32 → Int32 → Int32 → Int32 → ms → Prop} {K : ms → Prop} (h : e_units_261 x1 x2 x3 x6 x7 x8 x9 x10 x11 x12 x13 x14 S R122 R213 K) {G : Prop} (Inv : Int32 → ms → Prop) (h0 : Inv x14 S) (hs : ∀ (yx14 : Int32) (yS : ms) (R : Int32 → Int32 → Int32 → Int32 → Int32 → Int32 → Int32 → Int32 → Int32 → Int32 → Int32 → Int32 → ms → Prop), Inv yx14 yS → b_units_261 x1 x2 x3 x6 x7 x8 x9 x10 x11 x12 x13 yx14 yS R122 R213 R K → (∃ (zx14 : Int32) (zS : ms), R x1 x2 x3 x6 x7 x8 x9 x10 x11 x12 x13 zx14 zS ∧ Inv zx14 zS) ∨ G) : G := by
  obtain ⟨I, μ, i0, is⟩ := h
  have go : ∀ (n : Nat) (yx14 : Int32) (yS : ms), μ x1 x2 x3 x6 x7 x8 x9 x10 x11 x12 x13 yx14 yS < n → I x1 x2 x3 x6 x7 x8 x9 x10 x11 x12 x13 yx14 yS → Inv yx14 yS → G := by
    intro n
    induction n with
    | zero => intro yx14 yS hy; exact absurd hy (Nat.not_lt_zero _)
    | succ n ih =>
      intro yx14 yS hy hI hV
      rcases hs yx14 yS _ hV (is x1 x2 x3 x6 x7 x8 x9 x10 x11 x12 x13 yx14 yS hI) with ⟨zx14, zS, ⟨hz, hm⟩, hv⟩ | g
      · exact ih zx14 zS (Nat.lt_of_lt_of_le hm (Nat.le_of_lt_succ hy)) hz hv
      · exact g
  exact go _ x14 S (Nat.lt_succ_self _) i0 h0
theorem r_e_units_261 {x1 : Int32} {x2 : Int32} {x3 : Int32} {x6 : Int32} {x7 : Int32} {x8 : Int32} {x9 : Int32} {x10 : Int32} {x11 : Int32} {x12 : Int32} {x13 : Int32} {x14 : Int32} {S : ms} {R122 : Int32 → Int32 → Int32 → Int32 → Int32 → Int32 → ms → Prop} {R213 : Int32 → Int32 → Int32 → Int32 → Int32 → Int32 → Int32 → Int32 → Int32 → ms → Prop} {K : ms → Prop} (h : e_units_261 x1 x2 x3 x6 x7 x8 x9 x10 x11 x12 x13 x14 S R122 R213 K) : b_units_261 x1 x2 x3 x6 x7 x8 x9 x10 x11 x12 x13 x14 S R122 R213 (fun zx1 zx2 zx3 zx6 zx7 zx8 zx9 zx10 zx11 zx12 zx13 zx14 zS => e_units_261 zx1 zx2 zx3 zx6 zx7 zx8 zx9 zx10 zx11 zx12 zx13 zx14 zS R122 R213 K) K := by
  obtain ⟨I, μ, i0, is⟩ := h
  exact d_b_units_261 (is x1 x2 x3 x6 x7 x8 x9 x10 x11 x12 x13 x14 S i0) (fun a0 a1 a2 a3 a4 a5 a6 ha ia => (ia _ _ _ _).mpr ha) (fun a0 a1 a2 a3 a4 a5 a6 a7 a8 a9 ha ia => (ia _ _ _ _).mpr ha) (fun a0 a1 a2 a3 a4 a5 a6 a7 a8 a9 a10 a11 a12 ha ia => (ia _ _ _ _).mpr ⟨I, μ, ha.1, is⟩) (fun a0 ha ia => (ia _ _ _ _).mpr ha)
set_option maxHeartbeats 1000000 in
theorem d_b_units_256 {x1 : Int32} {x2 : Int32} {x3 : Int32} {x6 : Int32} {x7 : Int32} {x8 : Int32} {x9 : Int32} {x10 : Int32} {x11 : Int32} {x12 : Int32} {s0 : Int32} {S : ms} {R122 : Int32 → Int32 → Int32 → Int32 → Int32 → Int32 → ms → Prop} {R213 : Int32 → Int32 → Int32 → Int32 → Int32 → Int32 → Int32 → Int32 → Int32 → ms → Prop} {K : ms → Prop} (h : b_units_256 x1 x2 x3 x6 x7 x8 x9 x10 x11 x12 s0 S R122 R213 K) {Q : Prop} (k_R122 : ∀ (a0 : Int32) (a1 : Int32) (a2 : Int32) (a3 : Int32) (a4 : Int32) (a5 : Int32) (a6 : ms), R122 a0 a1 a2 a3 a4 a5 a6 → (∀ (R122' : Int32 → Int32 → Int32 → Int32 → Int32 → Int32 → ms → Prop) (R213' : Int32 → Int32 → Int32 → Int32 → Int32 → Int32 → Int32 → Int32 → Int32 → ms → Prop) (K' : ms → Prop), b_units_256 x1 x2 x3 x6 x7 x8 x9 x10 x11 x12 s0 S R122' R213' K' ↔ R122' a0 a1 a2 a3 a4 a5 a6) → Q) (k_R213 : ∀ (a0 : Int32) (a1 : Int32) (a2 : Int32) (a3 : Int32) (a4 : Int32) (a5 : Int32) (a6 : Int32) (a7 : Int32) (a8 : Int32) (a9 : ms), R213 a0 a1 a2 a3 a4 a5 a6 a7 a8 a9 → (∀ (R122' : Int32 → Int32 → Int32 → Int32 → Int32 → Int32 → ms → Prop) (R213' : Int32 → Int32 → Int32 → Int32 → Int32 → Int32 → Int32 → Int32 → Int32 → ms → Prop) (K' : ms → Prop), b_units_256 x1 x2 x3 x6 x7 x8 x9 x10 x11 x12 s0 S R122' R213' K' ↔ R213' a0 a1 a2 a3 a4 a5 a6 a7 a8 a9) → Q) (k_K : ∀ (a0 : ms), K a0 → (∀ (R122' : Int32 → Int32 → Int32 → Int32 → Int32 → Int32 → ms → Prop) (R213' : Int32 → Int32 → Int32 → Int32 → Int32 → Int32 → Int32 → Int32 → Int32 → ms → Prop) (K' : ms → Prop), b_units_256 x1 x2 x3 x6 x7 x8 x9 x10 x11 x12 s0 S R122' R213' K' ↔ K' a0) → Q) : Q := by
  unfold b_units_256 at h
  exact d_e_units_261 h (fun a0 a1 a2 a3 a4 a5 a6 h_2 i_1 => k_R122 a0 a1 a2 a3 a4 a5 a6 h_2 (fun _ _ _ => i_1 _ _ _)) (fun a0 a1 a2 a3 a4 a5 a6 a7 a8 a9 h_4 i_3 => k_R213 a0 a1 a2 a3 a4 a5 a6 a7 a8 a9 h_4 (fun _ _ _ => i_3 _ _ _)) (fun a0 h_6 i_5 => k_K a0 h_6 (fun _ _ _ => i_5 _ _ _))
set_option maxHeartbeats 1000000 in
theorem d_b_units_239 {x1 : Int32} {x2 : Int32} {x3 : Int32} {x6 : Int32} {x7 : Int32} {x8 : Int32} {x9 : Int32} {x10 : Int32} {x11 : Int32} {s0 : Int32} {S : ms} {R122 : Int32 → Int32 → Int32 → Int32 → Int32 → Int32 → ms → Prop} {R213 : Int32 → Int32 → Int32 → Int32 → Int32 → Int32 → Int32 → Int32 → Int32 → ms → Prop} {K : ms → Prop} (h : b_units_239 x1 x2 x3 x6 x7 x8 x9 x10 x11 s0 S R122 R213 K) {Q : Prop} (k_R122 : ∀ (a0 : Int32) (a1 : Int32) (a2 : Int32) (a3 : Int32) (a4 : Int32) (a5 : Int32) (a6 : ms), R122 a0 a1 a2 a3 a4 a5 a6 → (∀ (R122' : Int32 → Int32 → Int32 → Int32 → Int32 → Int32 → ms → Prop) (R213' : Int32 → Int32 → Int32 → Int32 → Int32 → Int32 → Int32 → Int32 → Int32 → ms → Prop) (K' : ms → Prop), b_units_239 x1 x2 x3 x6 x7 x8 x9 x10 x11 s0 S R122' R213' K' ↔ R122' a0 a1 a2 a3 a4 a5 a6) → Q) (k_R213 : ∀ (a0 : Int32) (a1 : Int32) (a2 : Int32) (a3 : Int32) (a4 : Int32) (a5 : Int32) (a6 : Int32) (a7 : Int32) (a8 : Int32) (a9 : ms), R213 a0 a1 a2 a3 a4 a5 a6 a7 a8 a9 → (∀ (R122' : Int32 → Int32 → Int32 → Int32 → Int32 → Int32 → ms → Prop) (R213' : Int32 → Int32 → Int32 → Int32 → Int32 → Int32 → Int32 → Int32 → Int32 → ms → Prop) (K' : ms → Prop), b_units_239 x1 x2 x3 x6 x7 x8 x9 x10 x11 s0 S R122' R213' K' ↔ R213' a0 a1 a2 a3 a4 a5 a6 a7 a8 a9) → Q) (k_K : ∀ (a0 : ms), K a0 → (∀ (R122' : Int32 → Int32 → Int32 → Int32 → Int32 → Int32 → ms → Prop) (R213' : Int32 → Int32 → Int32 → Int32 → Int32 → Int32 → Int32 → Int32 → Int32 → ms → Prop) (K' : ms → Prop), b_units_239 x1 x2 x3 x6 x7 x8 x9 x10 x11 s0 S R122' R213' K' ↔ K' a0) → Q) : Q := by
  unfold b_units_239 at h
  refine dt_p h (fun c_1 h_2 => ?_) (fun c_1 h_2 => ?_)
  ·
    exact d_b_units_256 (And.right h_2) (fun a0 a1 a2 a3 a4 a5 a6 h_4 i_3 => k_R122 a0 a1 a2 a3 a4 a5 a6 h_4 (fun _ _ _ => Iff.trans (dt_1 c_1 (fun n => n c_1)) (Iff.trans (dt_a (And.left h_2)) (i_3 _ _ _)))) (fun a0 a1 a2 a3 a4 a5 a6 a7 a8 a9 h_6 i_5 => k_R213 a0 a1 a2 a3 a4 a5 a6 a7 a8 a9 h_6 (fun _ _ _ => Iff.trans (dt_1 c_1 (fun n => n c_1)) (Iff.trans (dt_a (And.left h_2)) (i_5 _ _ _)))) (fun a0 h_8 i_7 => k_K a0 h_8 (fun _ _ _ => Iff.trans (dt_1 c_1 (fun n => n c_1)) (Iff.trans (dt_a (And.left h_2)) (i_7 _ _ _))))
  ·
    exact d_b_units_256 h_2 (fun a0 a1 a2 a3 a4 a5 a6 h_10 i_9 => k_R122 a0 a1 a2 a3 a4 a5 a6 h_10 (fun _ _ _ => Iff.trans (dt_2 c_1 c_1) (i_9 _ _ _))) (fun a0 a1 a2 a3 a4 a5 a6 a7 a8 a9 h_12 i_11 => k_R213 a0 a1 a2 a3 a4 a5 a6 a7 a8 a9 h_12 (fun _ _ _ => Iff.trans (dt_2 c_1 c_1) (i_11 _ _ _))) (fun a0 h_14 i_13 => k_K a0 h_14 (fun _ _ _ => Iff.trans (dt_2 c_1 c_1) (i_13 _ _ _)))
set_option maxHeartbeats 1000000 in
theorem d_b_units_213 {x1 : Int32} {x2 : Int32} {x3 : Int32} {x6 : Int32} {x7 : Int32} {x8 : Int32} {x9 : Int32} {x10 : Int32} {x11 : Int32} {S : ms} {R122 : Int32 → Int32 → Int32 → Int32 → Int32 → Int32 → ms → Prop} {R213 : Int32 → Int32 → Int32 → Int32 → Int32 → Int32 → Int32 → Int32 → Int32 → ms → Prop} {K : ms → Prop} (h : b_units_213 x1 x2 x3 x6 x7 x8 x9 x10 x11 S R122 R213 K) {Q : Prop} (k_R122 : ∀ (a0 : Int32) (a1 : Int32) (a2 : Int32) (a3 : Int32) (a4 : Int32) (a5 : Int32) (a6 : ms), R122 a0 a1 a2 a3 a4 a5 a6 → (∀ (R122' : Int32 → Int32 → Int32 → Int32 → Int32 → Int32 → ms → Prop) (R213' : Int32 → Int32 → Int32 → Int32 → Int32 → Int32 → Int32 → Int32 → Int32 → ms → Prop) (K' : ms → Prop), b_units_213 x1 x2 x3 x6 x7 x8 x9 x10 x11 S R122' R213' K' ↔ R122' a0 a1 a2 a3 a4 a5 a6) → Q) (k_R213 : ∀ (a0 : Int32) (a1 : Int32) (a2 : Int32) (a3 : Int32) (a4 : Int32) (a5 : Int32) (a6 : Int32) (a7 : Int32) (a8 : Int32) (a9 : ms), R213 a0 a1 a2 a3 a4 a5 a6 a7 a8 a9 → (∀ (R122' : Int32 → Int32 → Int32 → Int32 → Int32 → Int32 → ms → Prop) (R213' : Int32 → Int32 → Int32 → Int32 → Int32 → Int32 → Int32 → Int32 → Int32 → ms → Prop) (K' : ms → Prop), b_units_213 x1 x2 x3 x6 x7 x8 x9 x10 x11 S R122' R213' K' ↔ R213' a0 a1 a2 a3 a4 a5 a6 a7 a8 a9) → Q) (k_K : ∀ (a0 : ms), K a0 → (∀ (R122' : Int32 → Int32 → Int32 → Int32 → Int32 → Int32 → ms → Prop) (R213' : Int32 → Int32 → Int32 → Int32 → Int32 → Int32 → Int32 → Int32 → Int32 → ms → Prop) (K' : ms → Prop), b_units_213 x1 x2 x3 x6 x7 x8 x9 x10 x11 S R122' R213' K' ↔ K' a0) → Q) : Q := by
  unfold b_units_213 at h
  refine dt_p (And.right h) (fun c_1 h_2 => ?_) (fun c_1 h_2 => ?_)
  ·
    exact k_R122 _ _ _ _ _ _ _ h_2 (fun _ _ _ => Iff.trans (dt_a (And.left h)) (dt_1 c_1 (fun n => n c_1)))
  ·
    refine dt_p h_2 (fun c_3 h_4 => ?_) (fun c_3 h_4 => ?_)
    ·
      exact d_b_units_239 (And.right h_4) (fun a0 a1 a2 a3 a4 a5 a6 h_6 i_5 => k_R122 a0 a1 a2 a3 a4 a5 a6 h_6 (fun _ _ _ => Iff.trans (dt_a (And.left h)) (Iff.trans (dt_2 c_1 c_1) (Iff.trans (dt_1 c_3 (fun n => n c_3)) (Iff.trans (dt_a (And.left h_4)) (i_5 _ _ _)))))) (fun a0 a1 a2 a3 a4 a5 a6 a7 a8 a9 h_8 i_7 => k_R213 a0 a1 a2 a3 a4 a5 a6 a7 a8 a9 h_8 (fun _ _ _ => Iff.trans (dt_a (And.left h)) (Iff.trans (dt_2 c_1 c_1) (Iff.trans (dt_1 c_3 (fun n => n c_3)) (Iff.trans (dt_a (And.left h_4)) (i_7 _ _ _)))))) (fun a0 h_10 i_9 => k_K a0 h_10 (fun _ _ _ => Iff.trans (dt_a (And.left h)) (Iff.trans (dt_2 c_1 c_1) (Iff.trans (dt_1 c_3 (fun n => n c_3)) (Iff.trans (dt_a (And.left h_4)) (i_9 _ _ _))))))
    ·
      exact d_b_units_239 h_4 (fun a0 a1 a2 a3 a4 a5 a6 h_12 i_11 => k_R122 a0 a1 a2 a3 a4 a5 a6 h_12 (fun _ _ _ => Iff.trans (dt_a (And.left h)) (Iff.trans (dt_2 c_1 c_1) (Iff.trans (dt_2 c_3 c_3) (i_11 _ _ _))))) (fun a0 a1 a2 a3 a4 a5 a6 a7 a8 a9 h_14 i_13 => k_R213 a0 a1 a2 a3 a4 a5 a6 a7 a8 a9 h_14 (fun _ _ _ => Iff.trans (dt_a (And.left h)) (Iff.trans (dt_2 c_1 c_1) (Iff.trans (dt_2 c_3 c_3) (i_13 _ _ _))))) (fun a0 h_16 i_15 => k_K a0 h_16 (fun _ _ _ => Iff.trans (dt_a (And.left h)) (Iff.trans (dt_2 c_1 c_1) (Iff.trans (dt_2 c_3 c_3) (i_15 _ _ _)))))
theorem l_e_units_213  {x1 : Int32} {x2 : Int32} {x3 : Int32} {x6 : Int32} {x7 : Int32} {x8 : Int32} {x9 : Int32} {x10 : Int32} {x11 : Int32} {S : ms} {R122 : Int32 → Int32 → Int32 → Int32 → Int32 → Int32 → ms → Prop} {K : ms → Prop} : e_units_213 x1 x2 x3 x6 x7 x8 x9 x10 x11 S R122 K ↔ lpE (C := (Int32 → Int32 → Int32 → Int32 → Int32 → Int32 → ms → Prop) × (ms → Prop)) (fun (y : (Int32) × (Int32) × (Int32) × (Int32) × (Int32) × (Int32) × (Int32) × (Int32) × (Int32) × (ms)) (R : ((Int32) × (Int32) × (Int32) × (Int32) × (Int32) × (Int32) × (Int32) × (Int32) × (Int32) × (ms)) → Prop) (c : (Int32 → Int32 → Int32 → Int32 → Int32 → Int32 → ms → Prop) × (ms → Prop)) => b_units_213 y.1 y.2.1 y.2.2.1 y.2.2.2.1 y.2.2.2.2.1 y.2.2.2.2.2.1 y.2.2.2.2.2.2.1 y.2.2.2.2.2.2.2.1 y.2.2.2.2.2.2.2.2.1 y.2.2.2.2.2.2.2.2.2 c.1 (fun z0 z1 z2 z3 z4 z5 z6 z7 z8 z9 => R (z0, z1, z2, z3, z4, z5, z6, z7, z8, z9)) c.2) (x1, x2, x3, x6, x7, x8, x9, x10, x11, S) (R122, K) :=
  ⟨fun ⟨I, μ, h0, hs⟩ => ⟨fun t => I t.1 t.2.1 t.2.2.1 t.2.2.2.1 t.2.2.2.2.1 t.2.2.2.2.2.1 t.2.2.2.2.2.2.1 t.2.2.2.2.2.2.2.1 t.2.2.2.2.2.2.2.2.1 t.2.2.2.2.2.2.2.2.2, fun t => μ t.1 t.2.1 t.2.2.1 t.2.2.2.1 t.2.2.2.2.1 t.2.2.2.2.2.1 t.2.2.2.2.2.2.1 t.2.2.2.2.2.2.2.1 t.2.2.2.2.2.2.2.2.1 t.2.2.2.2.2.2.2.2.2, h0, fun t ht => hs _ _ _ _ _ _ _ _ _ _ ht⟩, fun ⟨I, μ, h0, hs⟩ => ⟨fun y0 y1 y2 y3 y4 y5 y6 y7 y8 y9 => I (y0, y1, y2, y3, y4, y5, y6, y7, y8, y9), fun y0 y1 y2 y3 y4 y5 y6 y7 y8 y9 => μ (y0, y1, y2, y3, y4, y5, y6, y7, y8, y9), h0, fun y0 y1 y2 y3 y4 y5 y6 y7 y8 y9 hy => hs (y0, y1, y2, y3, y4, y5, y6, y7, y8, y9) hy⟩⟩
set_option maxHeartbeats 1000000 in
theorem d_e_units_213 {x1 : Int32} {x2 : Int32} {x3 : Int32} {x6 : Int32} {x7 : Int32} {x8 : Int32} {x9 : Int32} {x10 : Int32} {x11 : Int32} {S : ms} {R122 : Int32 → Int32 → Int32 → Int32 → Int32 → Int32 → ms → Prop} {K : ms → Prop} (h : e_units_213 x1 x2 x3 x6 x7 x8 x9 x10 x11 S R122 K) {Q : Prop} (k_R122 : ∀ (a0 : Int32) (a1 : Int32) (a2 : Int32) (a3 : Int32) (a4 : Int32) (a5 : Int32) (a6 : ms), R122 a0 a1 a2 a3 a4 a5 a6 → (∀ (R122' : Int32 → Int32 → Int32 → Int32 → Int32 → Int32 → ms → Prop) (K' : ms → Prop), e_units_213 x1 x2 x3 x6 x7 x8 x9 x10 x11 S R122' K' ↔ R122' a0 a1 a2 a3 a4 a5 a6) → Q) (k_K : ∀ (a0 : ms), K a0 → (∀ (R122' : Int32 → Int32 → Int32 → Int32 → Int32 → Int32 → ms → Prop) (K' : ms → Prop), e_units_213 x1 x2 x3 x6 x7 x8 x9 x10 x11 S R122' K' ↔ K' a0) → Q) : Q := by
  obtain ⟨o, ho, hoc, hi⟩ := lp_det (C := (Int32 → Int32 → Int32 → Int32 → Int32 → Int32 → ms → Prop) × (ms → Prop)) (b := (fun (y : (Int32) × (Int32) × (Int32) × (Int32) × (Int32) × (Int32) × (Int32) × (Int32) × (Int32) × (ms)) (R : ((Int32) × (Int32) × (Int32) × (Int32) × (Int32) × (Int32) × (Int32) × (Int32) × (Int32) × (ms)) → Prop) (c : (Int32 → Int32 → Int32 → Int32 → Int32 → Int32 → ms → Prop) × (ms → Prop)) => b_units_213 y.1 y.2.1 y.2.2.1 y.2.2.2.1 y.2.2.2.2.1 y.2.2.2.2.2.1 y.2.2.2.2.2.2.1 y.2.2.2.2.2.2.2.1 y.2.2.2.2.2.2.2.2.1 y.2.2.2.2.2.2.2.2.2 c.1 (fun z0 z1 z2 z3 z4 z5 z6 z7 z8 z9 => R (z0, z1, z2, z3, z4, z5, z6, z7, z8, z9)) c.2)) (O := (fun (o : ((Int32 → Int32 → Int32 → Int32 → Int32 → Int32 → ms → Prop) × (ms → Prop)) → Prop) => (∃ (a0 : Int32) (a1 : Int32) (a2 : Int32) (a3 : Int32) (a4 : Int32) (a5 : Int32) (a6 : ms), o = fun c => c.1 a0 a1 a2 a3 a4 a5 a6) ∨ (∃ (a0 : ms), o = fun c => c.2 a0))) (fun y R c hy => d_b_units_213 hy (fun a0 a1 a2 a3 a4 a5 a6 ha ia => Or.inr ⟨(fun c => c.1 a0 a1 a2 a3 a4 a5 a6), Or.inl ⟨a0, a1, a2, a3, a4, a5, a6, rfl⟩, ha, fun R' c' => ia c'.1 (fun z0 z1 z2 z3 z4 z5 z6 z7 z8 z9 => R' (z0, z1, z2, z3, z4, z5, z6, z7, z8, z9)) c'.2⟩) (fun a0 a1 a2 a3 a4 a5 a6 a7 a8 a9 ha ia => Or.inl ⟨(a0, a1, a2, a3, a4, a5, a6, a7, a8, a9), ha, fun R' c' => ia c'.1 (fun z0 z1 z2 z3 z4 z5 z6 z7 z8 z9 => R' (z0, z1, z2, z3, z4, z5, z6, z7, z8, z9)) c'.2⟩) (fun a0 ha ia => Or.inr ⟨(fun c => c.2 a0), Or.inr (⟨a0, rfl⟩), ha, fun R' c' => ia c'.1 (fun z0 z1 z2 z3 z4 z5 z6 z7 z8 z9 => R' (z0, z1, z2, z3, z4, z5, z6, z7, z8, z9)) c'.2⟩)) (l_e_units_213.mp h)
  rcases ho with ⟨a0, a1, a2, a3, a4, a5, a6, rfl⟩ | ⟨a0, rfl⟩
  · exact k_R122 _ _ _ _ _ _ _ hoc (fun R122' K' => Iff.trans l_e_units_213 (hi (R122', K')))
  · exact k_K _ hoc (fun R122' K' => Iff.trans l_e_units_213 (hi (R122', K')))
theorem v_e_units_213 {x1 : Int32} {x2 : Int32} {x3 : Int32} {x6 : Int32} {x7 : Int32} {x8 : Int32} {x9 : Int32} {x10 : Int32} {x11 : Int32} {S : ms} {R122 : Int32 → Int32 → Int32 → Int32 → Int32 → Int32 → ms → Prop} {K : ms → Prop} (h : e_units_213 x1 x2 x3 x6 x7 x8 x9 x10 x11 S R122 K) {G : Prop} (Inv : Int32 → ms → Prop) (h0 : Inv x11 S) (hs : ∀ (yx11 : Int32) (yS : ms) (R : Int32 → Int32 → Int32 → Int32 → Int32 → Int32 → Int32 → Int32 → Int32 → ms → Prop), Inv yx11 yS → b_units_213 x1 x2 x3 x6 x7 x8 x9 x10 yx11 yS R122 R K → (∃ (zx11 : Int32) (zS : ms), R x1 x2 x3 x6 x7 x8 x9 x10 zx11 zS ∧ Inv zx11 zS) ∨ G) : G := by
  obtain ⟨I, μ, i0, is⟩ := h
  have go : ∀ (n : Nat) (yx11 : Int32) (yS : ms), μ x1 x2 x3 x6 x7 x8 x9 x10 yx11 yS < n → I x1 x2 x3 x6 x7 x8 x9 x10 yx11 yS → Inv yx11 yS → G := by
    intro n
    induction n with
    | zero => intro yx11 yS hy; exact absurd hy (Nat.not_lt_zero _)
    | succ n ih =>
      intro yx11 yS hy hI hV
      rcases hs yx11 yS _ hV (is x1 x2 x3 x6 x7 x8 x9 x10 yx11 yS hI) with ⟨zx11, zS, ⟨hz, hm⟩, hv⟩ | g
      · exact ih zx11 zS (Nat.lt_of_lt_of_le hm (Nat.le_of_lt_succ hy)) hz hv
      · exact g
  exact go _ x11 S (Nat.lt_succ_self _) i0 h0
theorem r_e_units_213 {x1 : Int32} {x2 : Int32} {x3 : Int32} {x6 : Int32} {x7 : Int32} {x8 : Int32} {x9 : Int32} {x10 : Int32} {x11 : Int32} {S : ms} {R122 : Int32 → Int32 → Int32 → Int32 → Int32 → Int32 → ms → Prop} {K : ms → Prop} (h : e_units_213 x1 x2 x3 x6 x7 x8 x9 x10 x11 S R122 K) : b_units_213 x1 x2 x3 x6 x7 x8 x9 x10 x11 S R122 (fun zx1 zx2 zx3 zx6 zx7 zx8 zx9 zx10 zx11 zS => e_units_213 zx1 zx2 zx3 zx6 zx7 zx8 zx9 zx10 zx11 zS R122 K) K := by
  obtain ⟨I, μ, i0, is⟩ := h
  exact d_b_units_213 (is x1 x2 x3 x6 x7 x8 x9 x10 x11 S i0) (fun a0 a1 a2 a3 a4 a5 a6 ha ia => (ia _ _ _).mpr ha) (fun a0 a1 a2 a3 a4 a5 a6 a7 a8 a9 ha ia => (ia _ _ _).mpr ⟨I, μ, ha.1, is⟩) (fun a0 ha ia => (ia _ _ _).mpr ha)
set_option maxHeartbeats 1000000 in
theorem d_b_units_196 {x1 : Int32} {x2 : Int32} {x3 : Int32} {x6 : Int32} {x7 : Int32} {x8 : Int32} {S : ms} {R122 : Int32 → Int32 → Int32 → Int32 → Int32 → Int32 → ms → Prop} {K : ms → Prop} (h : b_units_196 x1 x2 x3 x6 x7 x8 S R122 K) {Q : Prop} (k_R122 : ∀ (a0 : Int32) (a1 : Int32) (a2 : Int32) (a3 : Int32) (a4 : Int32) (a5 : Int32) (a6 : ms), R122 a0 a1 a2 a3 a4 a5 a6 → (∀ (R122' : Int32 → Int32 → Int32 → Int32 → Int32 → Int32 → ms → Prop) (K' : ms → Prop), b_units_196 x1 x2 x3 x6 x7 x8 S R122' K' ↔ R122' a0 a1 a2 a3 a4 a5 a6) → Q) (k_K : ∀ (a0 : ms), K a0 → (∀ (R122' : Int32 → Int32 → Int32 → Int32 → Int32 → Int32 → ms → Prop) (K' : ms → Prop), b_units_196 x1 x2 x3 x6 x7 x8 S R122' K' ↔ K' a0) → Q) : Q := by
  unfold b_units_196 at h
  exact d_e_units_213 (And.right (And.right h)) (fun a0 a1 a2 a3 a4 a5 a6 h_2 i_1 => k_R122 a0 a1 a2 a3 a4 a5 a6 h_2 (fun _ _ => Iff.trans (dt_a (And.left h)) (Iff.trans (dt_a (And.left (And.right h))) (i_1 _ _)))) (fun a0 h_4 i_3 => k_K a0 h_4 (fun _ _ => Iff.trans (dt_a (And.left h)) (Iff.trans (dt_a (And.left (And.right h))) (i_3 _ _))))
set_option maxHeartbeats 1000000 in
theorem d_b_units_176 {x1 : Int32} {x2 : Int32} {x3 : Int32} {x6 : Int32} {x7 : Int32} {x8 : Int32} {x9 : Int32} {S : ms} {R122 : Int32 → Int32 → Int32 → Int32 → Int32 → Int32 → ms → Prop} {R176 : Int32 → Int32 → Int32 → Int32 → Int32 → Int32 → Int32 → ms → Prop} {K : ms → Prop} (h : b_units_176 x1 x2 x3 x6 x7 x8 x9 S R122 R176 K) {Q : Prop} (k_R122 : ∀ (a0 : Int32) (a1 : Int32) (a2 : Int32) (a3 : Int32) (a4 : Int32) (a5 : Int32) (a6 : ms), R122 a0 a1 a2 a3 a4 a5 a6 → (∀ (R122' : Int32 → Int32 → Int32 → Int32 → Int32 → Int32 → ms → Prop) (R176' : Int32 → Int32 → Int32 → Int32 → Int32 → Int32 → Int32 → ms → Prop) (K' : ms → Prop), b_units_176 x1 x2 x3 x6 x7 x8 x9 S R122' R176' K' ↔ R122' a0 a1 a2 a3 a4 a5 a6) → Q) (k_R176 : ∀ (a0 : Int32) (a1 : Int32) (a2 : Int32) (a3 : Int32) (a4 : Int32) (a5 : Int32) (a6 : Int32) (a7 : ms), R176 a0 a1 a2 a3 a4 a5 a6 a7 → (∀ (R122' : Int32 → Int32 → Int32 → Int32 → Int32 → Int32 → ms → Prop) (R176' : Int32 → Int32 → Int32 → Int32 → Int32 → Int32 → Int32 → ms → Prop) (K' : ms → Prop), b_units_176 x1 x2 x3 x6 x7 x8 x9 S R122' R176' K' ↔ R176' a0 a1 a2 a3 a4 a5 a6 a7) → Q) (k_K : ∀ (a0 : ms), K a0 → (∀ (R122' : Int32 → Int32 → Int32 → Int32 → Int32 → Int32 → ms → Prop) (R176' : Int32 → Int32 → Int32 → Int32 → Int32 → Int32 → Int32 → ms → Prop) (K' : ms → Prop), b_units_176 x1 x2 x3 x6 x7 x8 x9 S R122' R176' K' ↔ K' a0) → Q) : Q := by
  unfold b_units_176 at h
  refine dt_p h (fun c_1 h_2 => ?_) (fun c_1 h_2 => ?_)
  ·
    exact d_b_units_196 h_2 (fun a0 a1 a2 a3 a4 a5 a6 h_4 i_3 => k_R122 a0 a1 a2 a3 a4 a5 a6 h_4 (fun _ _ _ => Iff.trans (dt_1 c_1 (fun n => n c_1)) (i_3 _ _))) (fun a0 h_6 i_5 => k_K a0 h_6 (fun _ _ _ => Iff.trans (dt_1 c_1 (fun n => n c_1)) (i_5 _ _)))
  ·
    exact k_R176 _ _ _ _ _ _ _ _ (And.right h_2) (fun _ _ _ => Iff.trans (dt_2 c_1 c_1) (dt_a (And.left h_2)))
theorem l_e_units_176  {x1 : Int32} {x2 : Int32} {x3 : Int32} {x6 : Int32} {x7 : Int32} {x8 : Int32} {x9 : Int32} {S : ms} {R122 : Int32 → Int32 → Int32 → Int32 → Int32 → Int32 → ms → Prop} {K : ms → Prop} : e_units_176 x1 x2 x3 x6 x7 x8 x9 S R122 K ↔ lpE (C := (Int32 → Int32 → Int32 → Int32 → Int32 → Int32 → ms → Prop) × (ms → Prop)) (fun (y : (Int32) × (Int32) × (Int32) × (Int32) × (Int32) × (Int32) × (Int32) × (ms)) (R : ((Int32) × (Int32) × (Int32) × (Int32) × (Int32) × (Int32) × (Int32) × (ms)) → Prop) (c : (Int32 → Int32 → Int32 → Int32 → Int32 → Int32 → ms → Prop) × (ms → Prop)) => b_units_176 y.1 y.2.1 y.2.2.1 y.2.2.2.1 y.2.2.2.2.1 y.2.2.2.2.2.1 y.2.2.2.2.2.2.1 y.2.2.2.2.2.2.2 c.1 (fun z0 z1 z2 z3 z4 z5 z6 z7 => R (z0, z1, z2, z3, z4, z5, z6, z7)) c.2) (x1, x2, x3, x6, x7, x8, x9, S) (R122, K) :=
  ⟨fun ⟨I, μ, h0, hs⟩ => ⟨fun t => I t.1 t.2.1 t.2.2.1 t.2.2.2.1 t.2.2.2.2.1 t.2.2.2.2.2.1 t.2.2.2.2.2.2.1 t.2.2.2.2.2.2.2, fun t => μ t.1 t.2.1 t.2.2.1 t.2.2.2.1 t.2.2.2.2.1 t.2.2.2.2.2.1 t.2.2.2.2.2.2.1 t.2.2.2.2.2.2.2, h0, fun t ht => hs _ _ _ _ _ _ _ _ ht⟩, fun ⟨I, μ, h0, hs⟩ => ⟨fun y0 y1 y2 y3 y4 y5 y6 y7 => I (y0, y1, y2, y3, y4, y5, y6, y7), fun y0 y1 y2 y3 y4 y5 y6 y7 => μ (y0, y1, y2, y3, y4, y5, y6, y7), h0, fun y0 y1 y2 y3 y4 y5 y6 y7 hy => hs (y0, y1, y2, y3, y4, y5, y6, y7) hy⟩⟩
set_option maxHeartbeats 1000000 in
theorem d_e_units_176 {x1 : Int32} {x2 : Int32} {x3 : Int32} {x6 : Int32} {x7 : Int32} {x8 : Int32} {x9 : Int32} {S : ms} {R122 : Int32 → Int32 → Int32 → Int32 → Int32 → Int32 → ms → Prop} {K : ms → Prop} (h : e_units_176 x1 x2 x3 x6 x7 x8 x9 S R122 K) {Q : Prop} (k_R122 : ∀ (a0 : Int32) (a1 : Int32) (a2 : Int32) (a3 : Int32) (a4 : Int32) (a5 : Int32) (a6 : ms), R122 a0 a1 a2 a3 a4 a5 a6 → (∀ (R122' : Int32 → Int32 → Int32 → Int32 → Int32 → Int32 → ms → Prop) (K' : ms → Prop), e_units_176 x1 x2 x3 x6 x7 x8 x9 S R122' K' ↔ R122' a0 a1 a2 a3 a4 a5 a6) → Q) (k_K : ∀ (a0 : ms), K a0 → (∀ (R122' : Int32 → Int32 → Int32 → Int32 → Int32 → Int32 → ms → Prop) (K' : ms → Prop), e_units_176 x1 x2 x3 x6 x7 x8 x9 S R122' K' ↔ K' a0) → Q) : Q := by
  obtain ⟨o, ho, hoc, hi⟩ := lp_det (C := (Int32 → Int32 → Int32 → Int32 → Int32 → Int32 → ms → Prop) × (ms → Prop)) (b := (fun (y : (Int32) × (Int32) × (Int32) × (Int32) × (Int32) × (Int32) × (Int32) × (ms)) (R : ((Int32) × (Int32) × (Int32) × (Int32) × (Int32) × (Int32) × (Int32) × (ms)) → Prop) (c : (Int32 → Int32 → Int32 → Int32 → Int32 → Int32 → ms → Prop) × (ms → Prop)) => b_units_176 y.1 y.2.1 y.2.2.1 y.2.2.2.1 y.2.2.2.2.1 y.2.2.2.2.2.1 y.2.2.2.2.2.2.1 y.2.2.2.2.2.2.2 c.1 (fun z0 z1 z2 z3 z4 z5 z6 z7 => R (z0, z1, z2, z3, z4, z5, z6, z7)) c.2)) (O := (fun (o : ((Int32 → Int32 → Int32 → Int32 → Int32 → Int32 → ms → Prop) × (ms → Prop)) → Prop) => (∃ (a0 : Int32) (a1 : Int32) (a2 : Int32) (a3 : Int32) (a4 : Int32) (a5 : Int32) (a6 : ms), o = fun c => c.1 a0 a1 a2 a3 a4 a5 a6) ∨ (∃ (a0 : ms), o = fun c => c.2 a0))) (fun y R c hy => d_b_units_176 hy (fun a0 a1 a2 a3 a4 a5 a6 ha ia => Or.inr ⟨(fun c => c.1 a0 a1 a2 a3 a4 a5 a6), Or.inl ⟨a0, a1, a2, a3, a4, a5, a6, rfl⟩, ha, fun R' c' => ia c'.1 (fun z0 z1 z2 z3 z4 z5 z6 z7 => R' (z0, z1, z2, z3, z4, z5, z6, z7)) c'.2⟩) (fun a0 a1 a2 a3 a4 a5 a6 a7 ha ia => Or.inl ⟨(a0, a1, a2, a3, a4, a5, a6, a7), ha, fun R' c' => ia c'.1 (fun z0 z1 z2 z3 z4 z5 z6 z7 => R' (z0, z1, z2, z3, z4, z5, z6, z7)) c'.2⟩) (fun a0 ha ia => Or.inr ⟨(fun c => c.2 a0), Or.inr (⟨a0, rfl⟩), ha, fun R' c' => ia c'.1 (fun z0 z1 z2 z3 z4 z5 z6 z7 => R' (z0, z1, z2, z3, z4, z5, z6, z7)) c'.2⟩)) (l_e_units_176.mp h)
  rcases ho with ⟨a0, a1, a2, a3, a4, a5, a6, rfl⟩ | ⟨a0, rfl⟩
  · exact k_R122 _ _ _ _ _ _ _ hoc (fun R122' K' => Iff.trans l_e_units_176 (hi (R122', K')))
  · exact k_K _ hoc (fun R122' K' => Iff.trans l_e_units_176 (hi (R122', K')))
theorem v_e_units_176 {x1 : Int32} {x2 : Int32} {x3 : Int32} {x6 : Int32} {x7 : Int32} {x8 : Int32} {x9 : Int32} {S : ms} {R122 : Int32 → Int32 → Int32 → Int32 → Int32 → Int32 → ms → Prop} {K : ms → Prop} (h : e_units_176 x1 x2 x3 x6 x7 x8 x9 S R122 K) {G : Prop} (Inv : Int32 → ms → Prop) (h0 : Inv x9 S) (hs : ∀ (yx9 : Int32) (yS : ms) (R : Int32 → Int32 → Int32 → Int32 → Int32 → Int32 → Int32 → ms → Prop), Inv yx9 yS → b_units_176 x1 x2 x3 x6 x7 x8 yx9 yS R122 R K → (∃ (zx9 : Int32) (zS : ms), R x1 x2 x3 x6 x7 x8 zx9 zS ∧ Inv zx9 zS) ∨ G) : G := by
  obtain ⟨I, μ, i0, is⟩ := h
  have go : ∀ (n : Nat) (yx9 : Int32) (yS : ms), μ x1 x2 x3 x6 x7 x8 yx9 yS < n → I x1 x2 x3 x6 x7 x8 yx9 yS → Inv yx9 yS → G := by
    intro n
    induction n with
    | zero => intro yx9 yS hy; exact absurd hy (Nat.not_lt_zero _)
    | succ n ih =>
      intro yx9 yS hy hI hV
      rcases hs yx9 yS _ hV (is x1 x2 x3 x6 x7 x8 yx9 yS hI) with ⟨zx9, zS, ⟨hz, hm⟩, hv⟩ | g
      · exact ih zx9 zS (Nat.lt_of_lt_of_le hm (Nat.le_of_lt_succ hy)) hz hv
      · exact g
  exact go _ x9 S (Nat.lt_succ_self _) i0 h0
theorem r_e_units_176 {x1 : Int32} {x2 : Int32} {x3 : Int32} {x6 : Int32} {x7 : Int32} {x8 : Int32} {x9 : Int32} {S : ms} {R122 : Int32 → Int32 → Int32 → Int32 → Int32 → Int32 → ms → Prop} {K : ms → Prop} (h : e_units_176 x1 x2 x3 x6 x7 x8 x9 S R122 K) : b_units_176 x1 x2 x3 x6 x7 x8 x9 S R122 (fun zx1 zx2 zx3 zx6 zx7 zx8 zx9 zS => e_units_176 zx1 zx2 zx3 zx6 zx7 zx8 zx9 zS R122 K) K := by
  obtain ⟨I, μ, i0, is⟩ := h
  exact d_b_units_176 (is x1 x2 x3 x6 x7 x8 x9 S i0) (fun a0 a1 a2 a3 a4 a5 a6 ha ia => (ia _ _ _).mpr ha) (fun a0 a1 a2 a3 a4 a5 a6 a7 ha ia => (ia _ _ _).mpr ⟨I, μ, ha.1, is⟩) (fun a0 ha ia => (ia _ _ _).mpr ha)
set_option maxHeartbeats 1000000 in
theorem d_b_units_173 {x1 : Int32} {x2 : Int32} {x3 : Int32} {x6 : Int32} {x7 : Int32} {x8 : Int32} {S : ms} {R122 : Int32 → Int32 → Int32 → Int32 → Int32 → Int32 → ms → Prop} {K : ms → Prop} (h : b_units_173 x1 x2 x3 x6 x7 x8 S R122 K) {Q : Prop} (k_R122 : ∀ (a0 : Int32) (a1 : Int32) (a2 : Int32) (a3 : Int32) (a4 : Int32) (a5 : Int32) (a6 : ms), R122 a0 a1 a2 a3 a4 a5 a6 → (∀ (R122' : Int32 → Int32 → Int32 → Int32 → Int32 → Int32 → ms → Prop) (K' : ms → Prop), b_units_173 x1 x2 x3 x6 x7 x8 S R122' K' ↔ R122' a0 a1 a2 a3 a4 a5 a6) → Q) (k_K : ∀ (a0 : ms), K a0 → (∀ (R122' : Int32 → Int32 → Int32 → Int32 → Int32 → Int32 → ms → Prop) (K' : ms → Prop), b_units_173 x1 x2 x3 x6 x7 x8 S R122' K' ↔ K' a0) → Q) : Q := by
  unfold b_units_173 at h
  exact d_e_units_176 h (fun a0 a1 a2 a3 a4 a5 a6 h_2 i_1 => k_R122 a0 a1 a2 a3 a4 a5 a6 h_2 (fun _ _ => i_1 _ _)) (fun a0 h_4 i_3 => k_K a0 h_4 (fun _ _ => i_3 _ _))
set_option maxHeartbeats 1000000 in
theorem d_b_units_122 {x1 : Int32} {x2 : Int32} {x3 : Int32} {x6 : Int32} {x7 : Int32} {x8 : Int32} {S : ms} {R122 : Int32 → Int32 → Int32 → Int32 → Int32 → Int32 → ms → Prop} {K : ms → Prop} (h : b_units_122 x1 x2 x3 x6 x7 x8 S R122 K) {Q : Prop} (k_R122 : ∀ (a0 : Int32) (a1 : Int32) (a2 : Int32) (a3 : Int32) (a4 : Int32) (a5 : Int32) (a6 : ms), R122 a0 a1 a2 a3 a4 a5 a6 → (∀ (R122' : Int32 → Int32 → Int32 → Int32 → Int32 → Int32 → ms → Prop) (K' : ms → Prop), b_units_122 x1 x2 x3 x6 x7 x8 S R122' K' ↔ R122' a0 a1 a2 a3 a4 a5 a6) → Q) (k_K : ∀ (a0 : ms), K a0 → (∀ (R122' : Int32 → Int32 → Int32 → Int32 → Int32 → Int32 → ms → Prop) (K' : ms → Prop), b_units_122 x1 x2 x3 x6 x7 x8 S R122' K' ↔ K' a0) → Q) : Q := by
  unfold b_units_122 at h
  refine dt_p h (fun c_1 h_2 => ?_) (fun c_1 h_2 => ?_)
  ·
    exact k_K _ h_2 (fun _ _ => dt_1 c_1 (fun n => n c_1))
  ·
    refine dt_p h_2 (fun c_3 h_4 => ?_) (fun c_3 h_4 => ?_)
    ·
      exact d_b_units_196 h_4 (fun a0 a1 a2 a3 a4 a5 a6 h_6 i_5 => k_R122 a0 a1 a2 a3 a4 a5 a6 h_6 (fun _ _ => Iff.trans (dt_2 c_1 c_1) (Iff.trans (dt_1 c_3 (fun n => n c_3)) (i_5 _ _)))) (fun a0 h_8 i_7 => k_K a0 h_8 (fun _ _ => Iff.trans (dt_2 c_1 c_1) (Iff.trans (dt_1 c_3 (fun n => n c_3)) (i_7 _ _))))
    ·
      refine dt_p h_4 (fun c_9 h_10 => ?_) (fun c_9 h_10 => ?_)
      ·
        exact d_b_units_196 h_10 (fun a0 a1 a2 a3 a4 a5 a6 h_12 i_11 => k_R122 a0 a1 a2 a3 a4 a5 a6 h_12 (fun _ _ => Iff.trans (dt_2 c_1 c_1) (Iff.trans (dt_2 c_3 c_3) (Iff.trans (dt_1 c_9 (fun n => n c_9)) (i_11 _ _))))) (fun a0 h_14 i_13 => k_K a0 h_14 (fun _ _ => Iff.trans (dt_2 c_1 c_1) (Iff.trans (dt_2 c_3 c_3) (Iff.trans (dt_1 c_9 (fun n => n c_9)) (i_13 _ _)))))
      ·
        refine dt_n (And.right h_10) (fun c_15 h_16 => ?_) (fun c_15 h_16 => ?_)
        ·
          exact d_b_units_196 h_16 (fun a0 a1 a2 a3 a4 a5 a6 h_18 i_17 => k_R122 a0 a1 a2 a3 a4 a5 a6 h_18 (fun _ _ => Iff.trans (dt_2 c_1 c_1) (Iff.trans (dt_2 c_3 c_3) (Iff.trans (dt_2 c_9 c_9) (Iff.trans (dt_a (And.left h_10)) (Iff.trans (dt_1 c_15 c_15) (i_17 _ _))))))) (fun a0 h_20 i_19 => k_K a0 h_20 (fun _ _ => Iff.trans (dt_2 c_1 c_1) (Iff.trans (dt_2 c_3 c_3) (Iff.trans (dt_2 c_9 c_9) (Iff.trans (dt_a (And.left h_10)) (Iff.trans (dt_1 c_15 c_15) (i_19 _ _)))))))
        ·
          refine dt_n h_16 (fun c_21 h_22 => ?_) (fun c_21 h_22 => ?_)
          ·
            exact d_b_units_173 h_22 (fun a0 a1 a2 a3 a4 a5 a6 h_24 i_23 => k_R122 a0 a1 a2 a3 a4 a5 a6 h_24 (fun _ _ => Iff.trans (dt_2 c_1 c_1) (Iff.trans (dt_2 c_3 c_3) (Iff.trans (dt_2 c_9 c_9) (Iff.trans (dt_a (And.left h_10)) (Iff.trans (dt_2 (fun n => n c_15) c_15) (Iff.trans (dt_1 c_21 c_21) (i_23 _ _)))))))) (fun a0 h_26 i_25 => k_K a0 h_26 (fun _ _ => Iff.trans (dt_2 c_1 c_1) (Iff.trans (dt_2 c_3 c_3) (Iff.trans (dt_2 c_9 c_9) (Iff.trans (dt_a (And.left h_10)) (Iff.trans (dt_2 (fun n => n c_15) c_15) (Iff.trans (dt_1 c_21 c_21) (i_25 _ _))))))))
          ·
            refine d_p_fillUp h_22 (fun S153 h_28 i_27 => ?_)
            refine d_p_mark (And.right h_28) (fun S170 h_30 i_29 => ?_)
            exact d_b_units_173 h_30 (fun a0 a1 a2 a3 a4 a5 a6 h_32 i_31 => k_R122 a0 a1 a2 a3 a4 a5 a6 h_32 (fun _ _ => Iff.trans (dt_2 c_1 c_1) (Iff.trans (dt_2 c_3 c_3) (Iff.trans (dt_2 c_9 c_9) (Iff.trans (dt_a (And.left h_10)) (Iff.trans (dt_2 (fun n => n c_15) c_15) (Iff.trans (dt_2 (fun n => n c_21) c_21) (Iff.trans (i_27 _) (Iff.trans (dt_a (And.left h_28)) (Iff.trans (i_29 _) (i_31 _ _))))))))))) (fun a0 h_34 i_33 => k_K a0 h_34 (fun _ _ => Iff.trans (dt_2 c_1 c_1) (Iff.trans (dt_2 c_3 c_3) (Iff.trans (dt_2 c_9 c_9) (Iff.trans (dt_a (And.left h_10)) (Iff.trans (dt_2 (fun n => n c_15) c_15) (Iff.trans (dt_2 (fun n => n c_21) c_21) (Iff.trans (i_27 _) (Iff.trans (dt_a (And.left h_28)) (Iff.trans (i_29 _) (i_33 _ _)))))))))))
theorem l_e_units_122  {x1 : Int32} {x2 : Int32} {x3 : Int32} {x6 : Int32} {x7 : Int32} {x8 : Int32} {S : ms} {K : ms → Prop} : e_units_122 x1 x2 x3 x6 x7 x8 S K ↔ lpE (C := (ms → Prop)) (fun (y : (Int32) × (Int32) × (Int32) × (Int32) × (Int32) × (Int32) × (ms)) (R : ((Int32) × (Int32) × (Int32) × (Int32) × (Int32) × (Int32) × (ms)) → Prop) (c : (ms → Prop)) => b_units_122 y.1 y.2.1 y.2.2.1 y.2.2.2.1 y.2.2.2.2.1 y.2.2.2.2.2.1 y.2.2.2.2.2.2 (fun z0 z1 z2 z3 z4 z5 z6 => R (z0, z1, z2, z3, z4, z5, z6)) c) (x1, x2, x3, x6, x7, x8, S) K :=
  ⟨fun ⟨I, μ, h0, hs⟩ => ⟨fun t => I t.1 t.2.1 t.2.2.1 t.2.2.2.1 t.2.2.2.2.1 t.2.2.2.2.2.1 t.2.2.2.2.2.2, fun t => μ t.1 t.2.1 t.2.2.1 t.2.2.2.1 t.2.2.2.2.1 t.2.2.2.2.2.1 t.2.2.2.2.2.2, h0, fun t ht => hs _ _ _ _ _ _ _ ht⟩, fun ⟨I, μ, h0, hs⟩ => ⟨fun y0 y1 y2 y3 y4 y5 y6 => I (y0, y1, y2, y3, y4, y5, y6), fun y0 y1 y2 y3 y4 y5 y6 => μ (y0, y1, y2, y3, y4, y5, y6), h0, fun y0 y1 y2 y3 y4 y5 y6 hy => hs (y0, y1, y2, y3, y4, y5, y6) hy⟩⟩
set_option maxHeartbeats 1000000 in
theorem d_e_units_122 {x1 : Int32} {x2 : Int32} {x3 : Int32} {x6 : Int32} {x7 : Int32} {x8 : Int32} {S : ms} {K : ms → Prop} (h : e_units_122 x1 x2 x3 x6 x7 x8 S K) {Q : Prop} (k_K : ∀ (a0 : ms), K a0 → (∀ (K' : ms → Prop), e_units_122 x1 x2 x3 x6 x7 x8 S K' ↔ K' a0) → Q) : Q := by
  obtain ⟨o, ho, hoc, hi⟩ := lp_det (C := (ms → Prop)) (b := (fun (y : (Int32) × (Int32) × (Int32) × (Int32) × (Int32) × (Int32) × (ms)) (R : ((Int32) × (Int32) × (Int32) × (Int32) × (Int32) × (Int32) × (ms)) → Prop) (c : (ms → Prop)) => b_units_122 y.1 y.2.1 y.2.2.1 y.2.2.2.1 y.2.2.2.2.1 y.2.2.2.2.2.1 y.2.2.2.2.2.2 (fun z0 z1 z2 z3 z4 z5 z6 => R (z0, z1, z2, z3, z4, z5, z6)) c)) (O := (fun (o : ((ms → Prop)) → Prop) => (∃ (a0 : ms), o = fun c => c a0))) (fun y R c hy => d_b_units_122 hy (fun a0 a1 a2 a3 a4 a5 a6 ha ia => Or.inl ⟨(a0, a1, a2, a3, a4, a5, a6), ha, fun R' c' => ia (fun z0 z1 z2 z3 z4 z5 z6 => R' (z0, z1, z2, z3, z4, z5, z6)) c'⟩) (fun a0 ha ia => Or.inr ⟨(fun c => c a0), ⟨a0, rfl⟩, ha, fun R' c' => ia (fun z0 z1 z2 z3 z4 z5 z6 => R' (z0, z1, z2, z3, z4, z5, z6)) c'⟩)) (l_e_units_122.mp h)
  rcases ho with ⟨a0, rfl⟩
  · exact k_K _ hoc (fun K' => Iff.trans l_e_units_122 (hi K'))
theorem v_e_units_122 {x1 : Int32} {x2 : Int32} {x3 : Int32} {x6 : Int32} {x7 : Int32} {x8 : Int32} {S : ms} {K : ms → Prop} (h : e_units_122 x1 x2 x3 x6 x7 x8 S K) {G : Prop} (Inv : Int32 → ms → Prop) (h0 : Inv x8 S) (hs : ∀ (yx8 : Int32) (yS : ms) (R : Int32 → Int32 → Int32 → Int32 → Int32 → Int32 → ms → Prop), Inv yx8 yS → b_units_122 x1 x2 x3 x6 x7 yx8 yS R K → (∃ (zx8 : Int32) (zS : ms), R x1 x2 x3 x6 x7 zx8 zS ∧ Inv zx8 zS) ∨ G) : G := by
  obtain ⟨I, μ, i0, is⟩ := h
  have go : ∀ (n : Nat) (yx8 : Int32) (yS : ms), μ x1 x2 x3 x6 x7 yx8 yS < n → I x1 x2 x3 x6 x7 yx8 yS → Inv yx8 yS → G := by
    intro n
    induction n with
    | zero => intro yx8 yS hy; exact absurd hy (Nat.not_lt_zero _)
    | succ n ih =>
      intro yx8 yS hy hI hV
      rcases hs yx8 yS _ hV (is x1 x2 x3 x6 x7 yx8 yS hI) with ⟨zx8, zS, ⟨hz, hm⟩, hv⟩ | g
      · exact ih zx8 zS (Nat.lt_of_lt_of_le hm (Nat.le_of_lt_succ hy)) hz hv
      · exact g
  exact go _ x8 S (Nat.lt_succ_self _) i0 h0
theorem r_e_units_122 {x1 : Int32} {x2 : Int32} {x3 : Int32} {x6 : Int32} {x7 : Int32} {x8 : Int32} {S : ms} {K : ms → Prop} (h : e_units_122 x1 x2 x3 x6 x7 x8 S K) : b_units_122 x1 x2 x3 x6 x7 x8 S (fun zx1 zx2 zx3 zx6 zx7 zx8 zS => e_units_122 zx1 zx2 zx3 zx6 zx7 zx8 zS K) K := by
  obtain ⟨I, μ, i0, is⟩ := h
  exact d_b_units_122 (is x1 x2 x3 x6 x7 x8 S i0) (fun a0 a1 a2 a3 a4 a5 a6 ha ia => (ia _ _).mpr ⟨I, μ, ha.1, is⟩) (fun a0 ha ia => (ia _ _).mpr ha)
set_option maxHeartbeats 1000000 in
theorem d_b_units_99 {x1 : Int32} {x2 : Int32} {x3 : Int32} {x6 : Int32} {x7 : Int32} {x8 : Int32} {S : ms} {R99 : Int32 → Int32 → Int32 → Int32 → Int32 → Int32 → ms → Prop} {K : ms → Prop} (h : b_units_99 x1 x2 x3 x6 x7 x8 S R99 K) {Q : Prop} (k_R99 : ∀ (a0 : Int32) (a1 : Int32) (a2 : Int32) (a3 : Int32) (a4 : Int32) (a5 : Int32) (a6 : ms), R99 a0 a1 a2 a3 a4 a5 a6 → (∀ (R99' : Int32 → Int32 → Int32 → Int32 → Int32 → Int32 → ms → Prop) (K' : ms → Prop), b_units_99 x1 x2 x3 x6 x7 x8 S R99' K' ↔ R99' a0 a1 a2 a3 a4 a5 a6) → Q) (k_K : ∀ (a0 : ms), K a0 → (∀ (R99' : Int32 → Int32 → Int32 → Int32 → Int32 → Int32 → ms → Prop) (K' : ms → Prop), b_units_99 x1 x2 x3 x6 x7 x8 S R99' K' ↔ K' a0) → Q) : Q := by
  unfold b_units_99 at h
  refine dt_p h (fun c_1 h_2 => ?_) (fun c_1 h_2 => ?_)
  ·
    exact d_e_units_122 h_2 (fun a0 h_4 i_3 => k_K a0 h_4 (fun _ _ => Iff.trans (dt_1 c_1 (fun n => n c_1)) (i_3 _)))
  ·
    exact k_R99 _ _ _ _ _ _ _ (And.right h_2) (fun _ _ => Iff.trans (dt_2 c_1 c_1) (dt_a (And.left h_2)))
theorem l_e_units_99  {x1 : Int32} {x2 : Int32} {x3 : Int32} {x6 : Int32} {x7 : Int32} {x8 : Int32} {S : ms} {K : ms → Prop} : e_units_99 x1 x2 x3 x6 x7 x8 S K ↔ lpE (C := (ms → Prop)) (fun (y : (Int32) × (Int32) × (Int32) × (Int32) × (Int32) × (Int32) × (ms)) (R : ((Int32) × (Int32) × (Int32) × (Int32) × (Int32) × (Int32) × (ms)) → Prop) (c : (ms → Prop)) => b_units_99 y.1 y.2.1 y.2.2.1 y.2.2.2.1 y.2.2.2.2.1 y.2.2.2.2.2.1 y.2.2.2.2.2.2 (fun z0 z1 z2 z3 z4 z5 z6 => R (z0, z1, z2, z3, z4, z5, z6)) c) (x1, x2, x3, x6, x7, x8, S) K :=
  ⟨fun ⟨I, μ, h0, hs⟩ => ⟨fun t => I t.1 t.2.1 t.2.2.1 t.2.2.2.1 t.2.2.2.2.1 t.2.2.2.2.2.1 t.2.2.2.2.2.2, fun t => μ t.1 t.2.1 t.2.2.1 t.2.2.2.1 t.2.2.2.2.1 t.2.2.2.2.2.1 t.2.2.2.2.2.2, h0, fun t ht => hs _ _ _ _ _ _ _ ht⟩, fun ⟨I, μ, h0, hs⟩ => ⟨fun y0 y1 y2 y3 y4 y5 y6 => I (y0, y1, y2, y3, y4, y5, y6), fun y0 y1 y2 y3 y4 y5 y6 => μ (y0, y1, y2, y3, y4, y5, y6), h0, fun y0 y1 y2 y3 y4 y5 y6 hy => hs (y0, y1, y2, y3, y4, y5, y6) hy⟩⟩
set_option maxHeartbeats 1000000 in
theorem d_e_units_99 {x1 : Int32} {x2 : Int32} {x3 : Int32} {x6 : Int32} {x7 : Int32} {x8 : Int32} {S : ms} {K : ms → Prop} (h : e_units_99 x1 x2 x3 x6 x7 x8 S K) {Q : Prop} (k_K : ∀ (a0 : ms), K a0 → (∀ (K' : ms → Prop), e_units_99 x1 x2 x3 x6 x7 x8 S K' ↔ K' a0) → Q) : Q := by
  obtain ⟨o, ho, hoc, hi⟩ := lp_det (C := (ms → Prop)) (b := (fun (y : (Int32) × (Int32) × (Int32) × (Int32) × (Int32) × (Int32) × (ms)) (R : ((Int32) × (Int32) × (Int32) × (Int32) × (Int32) × (Int32) × (ms)) → Prop) (c : (ms → Prop)) => b_units_99 y.1 y.2.1 y.2.2.1 y.2.2.2.1 y.2.2.2.2.1 y.2.2.2.2.2.1 y.2.2.2.2.2.2 (fun z0 z1 z2 z3 z4 z5 z6 => R (z0, z1, z2, z3, z4, z5, z6)) c)) (O := (fun (o : ((ms → Prop)) → Prop) => (∃ (a0 : ms), o = fun c => c a0))) (fun y R c hy => d_b_units_99 hy (fun a0 a1 a2 a3 a4 a5 a6 ha ia => Or.inl ⟨(a0, a1, a2, a3, a4, a5, a6), ha, fun R' c' => ia (fun z0 z1 z2 z3 z4 z5 z6 => R' (z0, z1, z2, z3, z4, z5, z6)) c'⟩) (fun a0 ha ia => Or.inr ⟨(fun c => c a0), ⟨a0, rfl⟩, ha, fun R' c' => ia (fun z0 z1 z2 z3 z4 z5 z6 => R' (z0, z1, z2, z3, z4, z5, z6)) c'⟩)) (l_e_units_99.mp h)
  rcases ho with ⟨a0, rfl⟩
  · exact k_K _ hoc (fun K' => Iff.trans l_e_units_99 (hi K'))
theorem v_e_units_99 {x1 : Int32} {x2 : Int32} {x3 : Int32} {x6 : Int32} {x7 : Int32} {x8 : Int32} {S : ms} {K : ms → Prop} (h : e_units_99 x1 x2 x3 x6 x7 x8 S K) {G : Prop} (Inv : Int32 → ms → Prop) (h0 : Inv x8 S) (hs : ∀ (yx8 : Int32) (yS : ms) (R : Int32 → Int32 → Int32 → Int32 → Int32 → Int32 → ms → Prop), Inv yx8 yS → b_units_99 x1 x2 x3 x6 x7 yx8 yS R K → (∃ (zx8 : Int32) (zS : ms), R x1 x2 x3 x6 x7 zx8 zS ∧ Inv zx8 zS) ∨ G) : G := by
  obtain ⟨I, μ, i0, is⟩ := h
  have go : ∀ (n : Nat) (yx8 : Int32) (yS : ms), μ x1 x2 x3 x6 x7 yx8 yS < n → I x1 x2 x3 x6 x7 yx8 yS → Inv yx8 yS → G := by
    intro n
    induction n with
    | zero => intro yx8 yS hy; exact absurd hy (Nat.not_lt_zero _)
    | succ n ih =>
      intro yx8 yS hy hI hV
      rcases hs yx8 yS _ hV (is x1 x2 x3 x6 x7 yx8 yS hI) with ⟨zx8, zS, ⟨hz, hm⟩, hv⟩ | g
      · exact ih zx8 zS (Nat.lt_of_lt_of_le hm (Nat.le_of_lt_succ hy)) hz hv
      · exact g
  exact go _ x8 S (Nat.lt_succ_self _) i0 h0
theorem r_e_units_99 {x1 : Int32} {x2 : Int32} {x3 : Int32} {x6 : Int32} {x7 : Int32} {x8 : Int32} {S : ms} {K : ms → Prop} (h : e_units_99 x1 x2 x3 x6 x7 x8 S K) : b_units_99 x1 x2 x3 x6 x7 x8 S (fun zx1 zx2 zx3 zx6 zx7 zx8 zS => e_units_99 zx1 zx2 zx3 zx6 zx7 zx8 zS K) K := by
  obtain ⟨I, μ, i0, is⟩ := h
  exact d_b_units_99 (is x1 x2 x3 x6 x7 x8 S i0) (fun a0 a1 a2 a3 a4 a5 a6 ha ia => (ia _ _).mpr ⟨I, μ, ha.1, is⟩) (fun a0 ha ia => (ia _ _).mpr ha)
set_option maxHeartbeats 1000000 in
theorem d_b_units_94 {x1 : Int32} {x2 : Int32} {x3 : Int32} {x6 : Int32} {s0 : Int32} {S : ms} {K : ms → Prop} (h : b_units_94 x1 x2 x3 x6 s0 S K) {Q : Prop} (k_K : ∀ (a0 : ms), K a0 → (∀ (K' : ms → Prop), b_units_94 x1 x2 x3 x6 s0 S K' ↔ K' a0) → Q) : Q := by
  unfold b_units_94 at h
  exact d_e_units_99 h (fun a0 h_2 i_1 => k_K a0 h_2 (fun _ => i_1 _))
set_option maxHeartbeats 1000000 in
theorem d_b_units_62 {x1 : Int32} {x2 : Int32} {x3 : Int32} {x5 : Int32} {s0 : Int32} {S : ms} {K : ms → Prop} (h : b_units_62 x1 x2 x3 x5 s0 S K) {Q : Prop} (k_K : ∀ (a0 : ms), K a0 → (∀ (K' : ms → Prop), b_units_62 x1 x2 x3 x5 s0 S K' ↔ K' a0) → Q) : Q := by
  unfold b_units_62 at h
  refine dt_p h (fun c_1 h_2 => ?_) (fun c_1 h_2 => ?_)
  ·
    refine d_p_upward h_2 (fun v91 h_4 i_3 => ?_)
    exact d_b_units_94 h_4 (fun a0 h_6 i_5 => k_K a0 h_6 (fun _ => Iff.trans (dt_1 c_1 (fun n => n c_1)) (Iff.trans (i_3 _) (i_5 _))))
  ·
    refine d_p_layerHigh h_2 (fun v71 S71 h_8 i_7 => ?_)
    refine d_p_upward h_8 (fun v76 h_10 i_9 => ?_)
    exact d_b_units_94 h_10 (fun a0 h_12 i_11 => k_K a0 h_12 (fun _ => Iff.trans (dt_2 c_1 c_1) (Iff.trans (i_7 _) (Iff.trans (i_9 _) (i_11 _)))))
set_option maxHeartbeats 1000000 in
theorem d_b_units_15 {x1 : Int32} {x2 : Int32} {s0 : Int32} {S : ms} {K : ms → Prop} (h : b_units_15 x1 x2 s0 S K) {Q : Prop} (k_K : ∀ (a0 : ms), K a0 → (∀ (K' : ms → Prop), b_units_15 x1 x2 s0 S K' ↔ K' a0) → Q) : Q := by
  unfold b_units_15 at h
  refine d_p_greatest h (fun v19 S19 h_2 i_1 => ?_)
  refine d_p_greatest h_2 (fun v27 S27 h_4 i_3 => ?_)
  refine dt_p h_4 (fun c_5 h_6 => ?_) (fun c_5 h_6 => ?_)
  ·
    refine d_p_upward h_6 (fun v59 h_8 i_7 => ?_)
    exact d_b_units_62 h_8 (fun a0 h_10 i_9 => k_K a0 h_10 (fun _ => Iff.trans (i_1 _) (Iff.trans (i_3 _) (Iff.trans (dt_1 c_5 (fun n => n c_5)) (Iff.trans (i_7 _) (i_9 _))))))
  ·
    refine d_p_layerWide h_6 (fun v39 S39 h_12 i_11 => ?_)
    refine d_p_upward h_12 (fun v44 h_14 i_13 => ?_)
    exact d_b_units_62 h_14 (fun a0 h_16 i_15 => k_K a0 h_16 (fun _ => Iff.trans (i_1 _) (Iff.trans (i_3 _) (Iff.trans (dt_2 c_5 c_5) (Iff.trans (i_11 _) (Iff.trans (i_13 _) (i_15 _)))))))
set_option maxHeartbeats 1000000 in
theorem d_p_units {x1 : Int32} {x2 : Int32} {S : ms} {K : ms → Prop} (h : p_units x1 x2 S K) {Q : Prop} (k_K : ∀ (a0 : ms), K a0 → (∀ (K' : ms → Prop), p_units x1 x2 S K' ↔ K' a0) → Q) : Q := by
  unfold p_units at h
  refine dt_n (And.right h) (fun c_1 h_2 => ?_) (fun c_1 h_2 => ?_)
  ·
    exact d_b_units_15 h_2 (fun a0 h_4 i_3 => k_K a0 h_4 (fun _ => Iff.trans (dt_a (And.left h)) (Iff.trans (dt_1 c_1 c_1) (i_3 _))))
  ·
    exact d_b_units_15 h_2 (fun a0 h_6 i_5 => k_K a0 h_6 (fun _ => Iff.trans (dt_a (And.left h)) (Iff.trans (dt_2 (fun n => n c_1) c_1) (i_5 _))))
set_option maxHeartbeats 1000000 in
theorem d_b_putCode_115 {x1 : Int32} {x3 : Int32} {x4 : Int32} {S : ms} {R75 : Int32 → Int32 → ms → Prop} {R84 : Int32 → Int32 → Int32 → ms → Prop} {K : ms → Prop} (h : b_putCode_115 x1 x3 x4 S R75 R84 K) {Q : Prop} (k_R75 : ∀ (a0 : Int32) (a1 : Int32) (a2 : ms), R75 a0 a1 a2 → (∀ (R75' : Int32 → Int32 → ms → Prop) (R84' : Int32 → Int32 → Int32 → ms → Prop) (K' : ms → Prop), b_putCode_115 x1 x3 x4 S R75' R84' K' ↔ R75' a0 a1 a2) → Q) (k_R84 : ∀ (a0 : Int32) (a1 : Int32) (a2 : Int32) (a3 : ms), R84 a0 a1 a2 a3 → (∀ (R75' : Int32 → Int32 → ms → Prop) (R84' : Int32 → Int32 → Int32 → ms → Prop) (K' : ms → Prop), b_putCode_115 x1 x3 x4 S R75' R84' K' ↔ R84' a0 a1 a2 a3) → Q) (k_K : ∀ (a0 : ms), K a0 → (∀ (R75' : Int32 → Int32 → ms → Prop) (R84' : Int32 → Int32 → Int32 → ms → Prop) (K' : ms → Prop), b_putCode_115 x1 x3 x4 S R75' R84' K' ↔ K' a0) → Q) : Q := by
  unfold b_putCode_115 at h
  exact k_R84 _ _ _ _ h (fun _ _ _ => Iff.rfl)
set_option maxHeartbeats 1000000 in
theorem d_b_putCode_84 {x1 : Int32} {x3 : Int32} {x4 : Int32} {S : ms} {R75 : Int32 → Int32 → ms → Prop} {R84 : Int32 → Int32 → Int32 → ms → Prop} {K : ms → Prop} (h : b_putCode_84 x1 x3 x4 S R75 R84 K) {Q : Prop} (k_R75 : ∀ (a0 : Int32) (a1 : Int32) (a2 : ms), R75 a0 a1 a2 → (∀ (R75' : Int32 → Int32 → ms → Prop) (R84' : Int32 → Int32 → Int32 → ms → Prop) (K' : ms → Prop), b_putCode_84 x1 x3 x4 S R75' R84' K' ↔ R75' a0 a1 a2) → Q) (k_R84 : ∀ (a0 : Int32) (a1 : Int32) (a2 : Int32) (a3 : ms), R84 a0 a1 a2 a3 → (∀ (R75' : Int32 → Int32 → ms → Prop) (R84' : Int32 → Int32 → Int32 → ms → Prop) (K' : ms → Prop), b_putCode_84 x1 x3 x4 S R75' R84' K' ↔ R84' a0 a1 a2 a3) → Q) (k_K : ∀ (a0 : ms), K a0 → (∀ (R75' : Int32 → Int32 → ms → Prop) (R84' : Int32 → Int32 → Int32 → ms → Prop) (K' : ms → Prop), b_putCode_84 x1 x3 x4 S R75' R84' K' ↔ K' a0) → Q) : Q := by
  unfold b_putCode_84 at h
  refine dt_p h (fun c_1 h_2 => ?_) (fun c_1 h_2 => ?_)
  ·
    exact k_R75 _ _ _ h_2 (fun _ _ _ => dt_1 c_1 (fun n => n c_1))
  ·
    refine dt_n (And.right h_2) (fun c_3 h_4 => ?_) (fun c_3 h_4 => ?_)
    ·
      exact d_b_putCode_115 h_4 (fun a0 a1 a2 h_6 i_5 => k_R75 a0 a1 a2 h_6 (fun _ _ _ => Iff.trans (dt_2 c_1 c_1) (Iff.trans (dt_a (And.left h_2)) (Iff.trans (dt_1 c_3 c_3) (i_5 _ _ _))))) (fun a0 a1 a2 a3 h_8 i_7 => k_R84 a0 a1 a2 a3 h_8 (fun _ _ _ => Iff.trans (dt_2 c_1 c_1) (Iff.trans (dt_a (And.left h_2)) (Iff.trans (dt_1 c_3 c_3) (i_7 _ _ _))))) (fun a0 h_10 i_9 => k_K a0 h_10 (fun _ _ _ => Iff.trans (dt_2 c_1 c_1) (Iff.trans (dt_a (And.left h_2)) (Iff.trans (dt_1 c_3 c_3) (i_9 _ _ _)))))
    ·
      refine d_p_put h_4 (fun S112 h_12 i_11 => ?_)
      exact d_b_putCode_115 h_12 (fun a0 a1 a2 h_14 i_13 => k_R75 a0 a1 a2 h_14 (fun _ _ _ => Iff.trans (dt_2 c_1 c_1) (Iff.trans (dt_a (And.left h_2)) (Iff.trans (dt_2 (fun n => n c_3) c_3) (Iff.trans (i_11 _) (i_13 _ _ _)))))) (fun a0 a1 a2 a3 h_16 i_15 => k_R84 a0 a1 a2 a3 h_16 (fun _ _ _ => Iff.trans (dt_2 c_1 c_1) (Iff.trans (dt_a (And.left h_2)) (Iff.trans (dt_2 (fun n => n c_3) c_3) (Iff.trans (i_11 _) (i_15 _ _ _)))))) (fun a0 h_18 i_17 => k_K a0 h_18 (fun _ _ _ => Iff.trans (dt_2 c_1 c_1) (Iff.trans (dt_a (And.left h_2)) (Iff.trans (dt_2 (fun n => n c_3) c_3) (Iff.trans (i_11 _) (i_17 _ _ _))))))
theorem l_e_putCode_84  {x1 : Int32} {x3 : Int32} {x4 : Int32} {S : ms} {R75 : Int32 → Int32 → ms → Prop} {K : ms → Prop} : e_putCode_84 x1 x3 x4 S R75 K ↔ lpE (C := (Int32 → Int32 → ms → Prop) × (ms → Prop)) (fun (y : (Int32) × (Int32) × (Int32) × (ms)) (R : ((Int32) × (Int32) × (Int32) × (ms)) → Prop) (c : (Int32 → Int32 → ms → Prop) × (ms → Prop)) => b_putCode_84 y.1 y.2.1 y.2.2.1 y.2.2.2 c.1 (fun z0 z1 z2 z3 => R (z0, z1, z2, z3)) c.2) (x1, x3, x4, S) (R75, K) :=
  ⟨fun ⟨I, μ, h0, hs⟩ => ⟨fun t => I t.1 t.2.1 t.2.2.1 t.2.2.2, fun t => μ t.1 t.2.1 t.2.2.1 t.2.2.2, h0, fun t ht => hs _ _ _ _ ht⟩, fun ⟨I, μ, h0, hs⟩ => ⟨fun y0 y1 y2 y3 => I (y0, y1, y2, y3), fun y0 y1 y2 y3 => μ (y0, y1, y2, y3), h0, fun y0 y1 y2 y3 hy => hs (y0, y1, y2, y3) hy⟩⟩
set_option maxHeartbeats 1000000 in
theorem d_e_putCode_84 {x1 : Int32} {x3 : Int32} {x4 : Int32} {S : ms} {R75 : Int32 → Int32 → ms → Prop} {K : ms → Prop} (h : e_putCode_84 x1 x3 x4 S R75 K) {Q : Prop} (k_R75 : ∀ (a0 : Int32) (a1 : Int32) (a2 : ms), R75 a0 a1 a2 → (∀ (R75' : Int32 → Int32 → ms → Prop) (K' : ms → Prop), e_putCode_84 x1 x3 x4 S R75' K' ↔ R75' a0 a1 a2) → Q) (k_K : ∀ (a0 : ms), K a0 → (∀ (R75' : Int32 → Int32 → ms → Prop) (K' : ms → Prop), e_putCode_84 x1 x3 x4 S R75' K' ↔ K' a0) → Q) : Q := by
  obtain ⟨o, ho, hoc, hi⟩ := lp_det (C := (Int32 → Int32 → ms → Prop) × (ms → Prop)) (b := (fun (y : (Int32) × (Int32) × (Int32) × (ms)) (R : ((Int32) × (Int32) × (Int32) × (ms)) → Prop) (c : (Int32 → Int32 → ms → Prop) × (ms → Prop)) => b_putCode_84 y.1 y.2.1 y.2.2.1 y.2.2.2 c.1 (fun z0 z1 z2 z3 => R (z0, z1, z2, z3)) c.2)) (O := (fun (o : ((Int32 → Int32 → ms → Prop) × (ms → Prop)) → Prop) => (∃ (a0 : Int32) (a1 : Int32) (a2 : ms), o = fun c => c.1 a0 a1 a2) ∨ (∃ (a0 : ms), o = fun c => c.2 a0))) (fun y R c hy => d_b_putCode_84 hy (fun a0 a1 a2 ha ia => Or.inr ⟨(fun c => c.1 a0 a1 a2), Or.inl ⟨a0, a1, a2, rfl⟩, ha, fun R' c' => ia c'.1 (fun z0 z1 z2 z3 => R' (z0, z1, z2, z3)) c'.2⟩) (fun a0 a1 a2 a3 ha ia => Or.inl ⟨(a0, a1, a2, a3), ha, fun R' c' => ia c'.1 (fun z0 z1 z2 z3 => R' (z0, z1, z2, z3)) c'.2⟩) (fun a0 ha ia => Or.inr ⟨(fun c => c.2 a0), Or.inr (⟨a0, rfl⟩), ha, fun R' c' => ia c'.1 (fun z0 z1 z2 z3 => R' (z0, z1, z2, z3)) c'.2⟩)) (l_e_putCode_84.mp h)
  rcases ho with ⟨a0, a1, a2, rfl⟩ | ⟨a0, rfl⟩
  · exact k_R75 _ _ _ hoc (fun R75' K' => Iff.trans l_e_putCode_84 (hi (R75', K')))
  · exact k_K _ hoc (fun R75' K' => Iff.trans l_e_putCode_84 (hi (R75', K')))
theorem v_e_putCode_84 {x1 : Int32} {x3 : Int32} {x4 : Int32} {S : ms} {R75 : Int32 → Int32 → ms → Prop} {K : ms → Prop} (h : e_putCode_84 x1 x3 x4 S R75 K) {G : Prop} (Inv : Int32 → ms → Prop) (h0 : Inv x4 S) (hs : ∀ (yx4 : Int32) (yS : ms) (R : Int32 → Int32 → Int32 → ms → Prop), Inv yx4 yS → b_putCode_84 x1 x3 yx4 yS R75 R K → (∃ (zx4 : Int32) (zS : ms), R x1 x3 zx4 zS ∧ Inv zx4 zS) ∨ G) : G := by
  obtain ⟨I, μ, i0, is⟩ := h
  have go : ∀ (n : Nat) (yx4 : Int32) (yS : ms), μ x1 x3 yx4 yS < n → I x1 x3 yx4 yS → Inv yx4 yS → G := by
    intro n
    induction n with
    | zero => intro yx4 yS hy; exact absurd hy (Nat.not_lt_zero _)
    | succ n ih =>
      intro yx4 yS hy hI hV
      rcases hs yx4 yS _ hV (is x1 x3 yx4 yS hI) with ⟨zx4, zS, ⟨hz, hm⟩, hv⟩ | g
      · exact ih zx4 zS (Nat.lt_of_lt_of_le hm (Nat.le_of_lt_succ hy)) hz hv
      · exact g
  exact go _ x4 S (Nat.lt_succ_self _) i0 h0
theorem r_e_putCode_84 {x1 : Int32} {x3 : Int32} {x4 : Int32} {S : ms} {R75 : Int32 → Int32 → ms → Prop} {K : ms → Prop} (h : e_putCode_84 x1 x3 x4 S R75 K) : b_putCode_84 x1 x3 x4 S R75 (fun zx1 zx3 zx4 zS => e_putCode_84 zx1 zx3 zx4 zS R75 K) K := by
  obtain ⟨I, μ, i0, is⟩ := h
  exact d_b_putCode_84 (is x1 x3 x4 S i0) (fun a0 a1 a2 ha ia => (ia _ _ _).mpr ha) (fun a0 a1 a2 a3 ha ia => (ia _ _ _).mpr ⟨I, μ, ha.1, is⟩) (fun a0 ha ia => (ia _ _ _).mpr ha)
set_option maxHeartbeats 1000000 in
theorem d_b_putCode_75 {x1 : Int32} {x3 : Int32} {S : ms} {R75 : Int32 → Int32 → ms → Prop} {K : ms → Prop} (h : b_putCode_75 x1 x3 S R75 K) {Q : Prop} (k_R75 : ∀ (a0 : Int32) (a1 : Int32) (a2 : ms), R75 a0 a1 a2 → (∀ (R75' : Int32 → Int32 → ms → Prop) (K' : ms → Prop), b_putCode_75 x1 x3 S R75' K' ↔ R75' a0 a1 a2) → Q) (k_K : ∀ (a0 : ms), K a0 → (∀ (R75' : Int32 → Int32 → ms → Prop) (K' : ms → Prop), b_putCode_75 x1 x3 S R75' K' ↔ K' a0) → Q) : Q := by
  unfold b_putCode_75 at h
  refine dt_p h (fun c_1 h_2 => ?_) (fun c_1 h_2 => ?_)
  ·
    exact k_K _ h_2 (fun _ _ => dt_1 c_1 (fun n => n c_1))
  ·
    exact d_e_putCode_84 h_2 (fun a0 a1 a2 h_4 i_3 => k_R75 a0 a1 a2 h_4 (fun _ _ => Iff.trans (dt_2 c_1 c_1) (i_3 _ _))) (fun a0 h_6 i_5 => k_K a0 h_6 (fun _ _ => Iff.trans (dt_2 c_1 c_1) (i_5 _ _)))
theorem l_e_putCode_75  {x1 : Int32} {x3 : Int32} {S : ms} {K : ms → Prop} : e_putCode_75 x1 x3 S K ↔ lpE (C := (ms → Prop)) (fun (y : (Int32) × (Int32) × (ms)) (R : ((Int32) × (Int32) × (ms)) → Prop) (c : (ms → Prop)) => b_putCode_75 y.1 y.2.1 y.2.2 (fun z0 z1 z2 => R (z0, z1, z2)) c) (x1, x3, S) K :=
  ⟨fun ⟨I, μ, h0, hs⟩ => ⟨fun t => I t.1 t.2.1 t.2.2, fun t => μ t.1 t.2.1 t.2.2, h0, fun t ht => hs _ _ _ ht⟩, fun ⟨I, μ, h0, hs⟩ => ⟨fun y0 y1 y2 => I (y0, y1, y2), fun y0 y1 y2 => μ (y0, y1, y2), h0, fun y0 y1 y2 hy => hs (y0, y1, y2) hy⟩⟩
set_option maxHeartbeats 1000000 in
theorem d_e_putCode_75 {x1 : Int32} {x3 : Int32} {S : ms} {K : ms → Prop} (h : e_putCode_75 x1 x3 S K) {Q : Prop} (k_K : ∀ (a0 : ms), K a0 → (∀ (K' : ms → Prop), e_putCode_75 x1 x3 S K' ↔ K' a0) → Q) : Q := by
  obtain ⟨o, ho, hoc, hi⟩ := lp_det (C := (ms → Prop)) (b := (fun (y : (Int32) × (Int32) × (ms)) (R : ((Int32) × (Int32) × (ms)) → Prop) (c : (ms → Prop)) => b_putCode_75 y.1 y.2.1 y.2.2 (fun z0 z1 z2 => R (z0, z1, z2)) c)) (O := (fun (o : ((ms → Prop)) → Prop) => (∃ (a0 : ms), o = fun c => c a0))) (fun y R c hy => d_b_putCode_75 hy (fun a0 a1 a2 ha ia => Or.inl ⟨(a0, a1, a2), ha, fun R' c' => ia (fun z0 z1 z2 => R' (z0, z1, z2)) c'⟩) (fun a0 ha ia => Or.inr ⟨(fun c => c a0), ⟨a0, rfl⟩, ha, fun R' c' => ia (fun z0 z1 z2 => R' (z0, z1, z2)) c'⟩)) (l_e_putCode_75.mp h)
  rcases ho with ⟨a0, rfl⟩
  · exact k_K _ hoc (fun K' => Iff.trans l_e_putCode_75 (hi K'))
theorem v_e_putCode_75 {x1 : Int32} {x3 : Int32} {S : ms} {K : ms → Prop} (h : e_putCode_75 x1 x3 S K) {G : Prop} (Inv : Int32 → ms → Prop) (h0 : Inv x3 S) (hs : ∀ (yx3 : Int32) (yS : ms) (R : Int32 → Int32 → ms → Prop), Inv yx3 yS → b_putCode_75 x1 yx3 yS R K → (∃ (zx3 : Int32) (zS : ms), R x1 zx3 zS ∧ Inv zx3 zS) ∨ G) : G := by
  obtain ⟨I, μ, i0, is⟩ := h
  have go : ∀ (n : Nat) (yx3 : Int32) (yS : ms), μ x1 yx3 yS < n → I x1 yx3 yS → Inv yx3 yS → G := by
    intro n
    induction n with
    | zero => intro yx3 yS hy; exact absurd hy (Nat.not_lt_zero _)
    | succ n ih =>
      intro yx3 yS hy hI hV
      rcases hs yx3 yS _ hV (is x1 yx3 yS hI) with ⟨zx3, zS, ⟨hz, hm⟩, hv⟩ | g
      · exact ih zx3 zS (Nat.lt_of_lt_of_le hm (Nat.le_of_lt_succ hy)) hz hv
      · exact g
  exact go _ x3 S (Nat.lt_succ_self _) i0 h0
theorem r_e_putCode_75 {x1 : Int32} {x3 : Int32} {S : ms} {K : ms → Prop} (h : e_putCode_75 x1 x3 S K) : b_putCode_75 x1 x3 S (fun zx1 zx3 zS => e_putCode_75 zx1 zx3 zS K) K := by
  obtain ⟨I, μ, i0, is⟩ := h
  exact d_b_putCode_75 (is x1 x3 S i0) (fun a0 a1 a2 ha ia => (ia _ _).mpr ⟨I, μ, ha.1, is⟩) (fun a0 ha ia => (ia _ _).mpr ha)
set_option maxHeartbeats 1000000 in
theorem d_b_putCode_53 {x1 : Int32} {x3 : Int32} {x5 : Int32} {s0 : Int32} {S : ms} {R7 : Int32 → Int32 → ms → Prop} {R19 : Int32 → Int32 → Int32 → Int32 → ms → Prop} {K : ms → Prop} (h : b_putCode_53 x1 x3 x5 s0 S R7 R19 K) {Q : Prop} (k_R7 : ∀ (a0 : Int32) (a1 : Int32) (a2 : ms), R7 a0 a1 a2 → (∀ (R7' : Int32 → Int32 → ms → Prop) (R19' : Int32 → Int32 → Int32 → Int32 → ms → Prop) (K' : ms → Prop), b_putCode_53 x1 x3 x5 s0 S R7' R19' K' ↔ R7' a0 a1 a2) → Q) (k_R19 : ∀ (a0 : Int32) (a1 : Int32) (a2 : Int32) (a3 : Int32) (a4 : ms), R19 a0 a1 a2 a3 a4 → (∀ (R7' : Int32 → Int32 → ms → Prop) (R19' : Int32 → Int32 → Int32 → Int32 → ms → Prop) (K' : ms → Prop), b_putCode_53 x1 x3 x5 s0 S R7' R19' K' ↔ R19' a0 a1 a2 a3 a4) → Q) (k_K : ∀ (a0 : ms), K a0 → (∀ (R7' : Int32 → Int32 → ms → Prop) (R19' : Int32 → Int32 → Int32 → Int32 → ms → Prop) (K' : ms → Prop), b_putCode_53 x1 x3 x5 s0 S R7' R19' K' ↔ K' a0) → Q) : Q := by
  unfold b_putCode_53 at h
  exact k_R19 _ _ _ _ _ h (fun _ _ _ => Iff.rfl)
set_option maxHeartbeats 1000000 in
theorem d_b_putCode_19 {x1 : Int32} {x3 : Int32} {x4 : Int32} {x5 : Int32} {S : ms} {R7 : Int32 → Int32 → ms → Prop} {R19 : Int32 → Int32 → Int32 → Int32 → ms → Prop} {K : ms → Prop} (h : b_putCode_19 x1 x3 x4 x5 S R7 R19 K) {Q : Prop} (k_R7 : ∀ (a0 : Int32) (a1 : Int32) (a2 : ms), R7 a0 a1 a2 → (∀ (R7' : Int32 → Int32 → ms → Prop) (R19' : Int32 → Int32 → Int32 → Int32 → ms → Prop) (K' : ms → Prop), b_putCode_19 x1 x3 x4 x5 S R7' R19' K' ↔ R7' a0 a1 a2) → Q) (k_R19 : ∀ (a0 : Int32) (a1 : Int32) (a2 : Int32) (a3 : Int32) (a4 : ms), R19 a0 a1 a2 a3 a4 → (∀ (R7' : Int32 → Int32 → ms → Prop) (R19' : Int32 → Int32 → Int32 → Int32 → ms → Prop) (K' : ms → Prop), b_putCode_19 x1 x3 x4 x5 S R7' R19' K' ↔ R19' a0 a1 a2 a3 a4) → Q) (k_K : ∀ (a0 : ms), K a0 → (∀ (R7' : Int32 → Int32 → ms → Prop) (R19' : Int32 → Int32 → Int32 → Int32 → ms → Prop) (K' : ms → Prop), b_putCode_19 x1 x3 x4 x5 S R7' R19' K' ↔ K' a0) → Q) : Q := by
  unfold b_putCode_19 at h
  refine dt_p h (fun c_1 h_2 => ?_) (fun c_1 h_2 => ?_)
  ·
    refine d_p_put h_2 (fun S64 h_4 i_3 => ?_)
    exact k_R7 _ _ _ h_4 (fun _ _ _ => Iff.trans (dt_1 c_1 (fun n => n c_1)) (i_3 _))
  ·
    refine dt_n (And.right h_2) (fun c_5 h_6 => ?_) (fun c_5 h_6 => ?_)
    ·
      exact d_b_putCode_53 h_6 (fun a0 a1 a2 h_8 i_7 => k_R7 a0 a1 a2 h_8 (fun _ _ _ => Iff.trans (dt_2 c_1 c_1) (Iff.trans (dt_a (And.left h_2)) (Iff.trans (dt_1 c_5 c_5) (i_7 _ _ _))))) (fun a0 a1 a2 a3 a4 h_10 i_9 => k_R19 a0 a1 a2 a3 a4 h_10 (fun _ _ _ => Iff.trans (dt_2 c_1 c_1) (Iff.trans (dt_a (And.left h_2)) (Iff.trans (dt_1 c_5 c_5) (i_9 _ _ _))))) (fun a0 h_12 i_11 => k_K a0 h_12 (fun _ _ _ => Iff.trans (dt_2 c_1 c_1) (Iff.trans (dt_a (And.left h_2)) (Iff.trans (dt_1 c_5 c_5) (i_11 _ _ _)))))
    ·
      exact d_b_putCode_53 h_6 (fun a0 a1 a2 h_14 i_13 => k_R7 a0 a1 a2 h_14 (fun _ _ _ => Iff.trans (dt_2 c_1 c_1) (Iff.trans (dt_a (And.left h_2)) (Iff.trans (dt_2 (fun n => n c_5) c_5) (i_13 _ _ _))))) (fun a0 a1 a2 a3 a4 h_16 i_15 => k_R19 a0 a1 a2 a3 a4 h_16 (fun _ _ _ => Iff.trans (dt_2 c_1 c_1) (Iff.trans (dt_a (And.left h_2)) (Iff.trans (dt_2 (fun n => n c_5) c_5) (i_15 _ _ _))))) (fun a0 h_18 i_17 => k_K a0 h_18 (fun _ _ _ => Iff.trans (dt_2 c_1 c_1) (Iff.trans (dt_a (And.left h_2)) (Iff.trans (dt_2 (fun n => n c_5) c_5) (i_17 _ _ _)))))
theorem l_e_putCode_19  {x1 : Int32} {x3 : Int32} {x4 : Int32} {x5 : Int32} {S : ms} {R7 : Int32 → Int32 → ms → Prop} {K : ms → Prop} : e_putCode_19 x1 x3 x4 x5 S R7 K ↔ lpE (C := (Int32 → Int32 → ms → Prop) × (ms → Prop)) (fun (y : (Int32) × (Int32) × (Int32) × (Int32) × (ms)) (R : ((Int32) × (Int32) × (Int32) × (Int32) × (ms)) → Prop) (c : (Int32 → Int32 → ms → Prop) × (ms → Prop)) => b_putCode_19 y.1 y.2.1 y.2.2.1 y.2.2.2.1 y.2.2.2.2 c.1 (fun z0 z1 z2 z3 z4 => R (z0, z1, z2, z3, z4)) c.2) (x1, x3, x4, x5, S) (R7, K) :=
  ⟨fun ⟨I, μ, h0, hs⟩ => ⟨fun t => I t.1 t.2.1 t.2.2.1 t.2.2.2.1 t.2.2.2.2, fun t => μ t.1 t.2.1 t.2.2.1 t.2.2.2.1 t.2.2.2.2, h0, fun t ht => hs _ _ _ _ _ ht⟩, fun ⟨I, μ, h0, hs⟩ => ⟨fun y0 y1 y2 y3 y4 => I (y0, y1, y2, y3, y4), fun y0 y1 y2 y3 y4 => μ (y0, y1, y2, y3, y4), h0, fun y0 y1 y2 y3 y4 hy => hs (y0, y1, y2, y3, y4) hy⟩⟩
set_option maxHeartbeats 1000000 in
theorem d_e_putCode_19 {x1 : Int32} {x3 : Int32} {x4 : Int32} {x5 : Int32} {S : ms} {R7 : Int32 → Int32 → ms → Prop} {K : ms → Prop} (h : e_putCode_19 x1 x3 x4 x5 S R7 K) {Q : Prop} (k_R7 : ∀ (a0 : Int32) (a1 : Int32) (a2 : ms), R7 a0 a1 a2 → (∀ (R7' : Int32 → Int32 → ms → Prop) (K' : ms → Prop), e_putCode_19 x1 x3 x4 x5 S R7' K' ↔ R7' a0 a1 a2) → Q) (k_K : ∀ (a0 : ms), K a0 → (∀ (R7' : Int32 → Int32 → ms → Prop) (K' : ms → Prop), e_putCode_19 x1 x3 x4 x5 S R7' K' ↔ K' a0) → Q) : Q := by
  obtain ⟨o, ho, hoc, hi⟩ := lp_det (C := (Int32 → Int32 → ms → Prop) × (ms → Prop)) (b := (fun (y : (Int32) × (Int32) × (Int32) × (Int32) × (ms)) (R : ((Int32) × (Int32) × (Int32) × (Int32) × (ms)) → Prop) (c : (Int32 → Int32 → ms → Prop) × (ms → Prop)) => b_putCode_19 y.1 y.2.1 y.2.2.1 y.2.2.2.1 y.2.2.2.2 c.1 (fun z0 z1 z2 z3 z4 => R (z0, z1, z2, z3, z4)) c.2)) (O := (fun (o : ((Int32 → Int32 → ms → Prop) × (ms → Prop)) → Prop) => (∃ (a0 : Int32) (a1 : Int32) (a2 : ms), o = fun c => c.1 a0 a1 a2) ∨ (∃ (a0 : ms), o = fun c => c.2 a0))) (fun y R c hy => d_b_putCode_19 hy (fun a0 a1 a2 ha ia => Or.inr ⟨(fun c => c.1 a0 a1 a2), Or.inl ⟨a0, a1, a2, rfl⟩, ha, fun R' c' => ia c'.1 (fun z0 z1 z2 z3 z4 => R' (z0, z1, z2, z3, z4)) c'.2⟩) (fun a0 a1 a2 a3 a4 ha ia => Or.inl ⟨(a0, a1, a2, a3, a4), ha, fun R' c' => ia c'.1 (fun z0 z1 z2 z3 z4 => R' (z0, z1, z2, z3, z4)) c'.2⟩) (fun a0 ha ia => Or.inr ⟨(fun c => c.2 a0), Or.inr (⟨a0, rfl⟩), ha, fun R' c' => ia c'.1 (fun z0 z1 z2 z3 z4 => R' (z0, z1, z2, z3, z4)) c'.2⟩)) (l_e_putCode_19.mp h)
  rcases ho with ⟨a0, a1, a2, rfl⟩ | ⟨a0, rfl⟩
  · exact k_R7 _ _ _ hoc (fun R7' K' => Iff.trans l_e_putCode_19 (hi (R7', K')))
  · exact k_K _ hoc (fun R7' K' => Iff.trans l_e_putCode_19 (hi (R7', K')))
theorem v_e_putCode_19 {x1 : Int32} {x3 : Int32} {x4 : Int32} {x5 : Int32} {S : ms} {R7 : Int32 → Int32 → ms → Prop} {K : ms → Prop} (h : e_putCode_19 x1 x3 x4 x5 S R7 K) {G : Prop} (Inv : Int32 → Int32 → ms → Prop) (h0 : Inv x4 x5 S) (hs : ∀ (yx4 : Int32) (yx5 : Int32) (yS : ms) (R : Int32 → Int32 → Int32 → Int32 → ms → Prop), Inv yx4 yx5 yS → b_putCode_19 x1 x3 yx4 yx5 yS R7 R K → (∃ (zx4 : Int32) (zx5 : Int32) (zS : ms), R x1 x3 zx4 zx5 zS ∧ Inv zx4 zx5 zS) ∨ G) : G := by
  obtain ⟨I, μ, i0, is⟩ := h
  have go : ∀ (n : Nat) (yx4 : Int32) (yx5 : Int32) (yS : ms), μ x1 x3 yx4 yx5 yS < n → I x1 x3 yx4 yx5 yS → Inv yx4 yx5 yS → G := by
    intro n
    induction n with
    | zero => intro yx4 yx5 yS hy; exact absurd hy (Nat.not_lt_zero _)
    | succ n ih =>
      intro yx4 yx5 yS hy hI hV
      rcases hs yx4 yx5 yS _ hV (is x1 x3 yx4 yx5 yS hI) with ⟨zx4, zx5, zS, ⟨hz, hm⟩, hv⟩ | g
      · exact ih zx4 zx5 zS (Nat.lt_of_lt_of_le hm (Nat.le_of_lt_succ hy)) hz hv
      · exact g
  exact go _ x4 x5 S (Nat.lt_succ_self _) i0 h0
theorem r_e_putCode_19 {x1 : Int32} {x3 : Int32} {x4 : Int32} {x5 : Int32} {S : ms} {R7 : Int32 → Int32 → ms → Prop} {K : ms → Prop} (h : e_putCode_19 x1 x3 x4 x5 S R7 K) : b_putCode_19 x1 x3 x4 x5 S R7 (fun zx1 zx3 zx4 zx5 zS => e_putCode_19 zx1 zx3 zx4 zx5 zS R7 K) K := by
  obtain ⟨I, μ, i0, is⟩ := h
  exact d_b_putCode_19 (is x1 x3 x4 x5 S i0) (fun a0 a1 a2 ha ia => (ia _ _ _).mpr ha) (fun a0 a1 a2 a3 a4 ha ia => (ia _ _ _).mpr ⟨I, μ, ha.1, is⟩) (fun a0 ha ia => (ia _ _ _).mpr ha)
set_option maxHeartbeats 1000000 in
theorem d_b_putCode_7 {x1 : Int32} {x3 : Int32} {S : ms} {R7 : Int32 → Int32 → ms → Prop} {K : ms → Prop} (h : b_putCode_7 x1 x3 S R7 K) {Q : Prop} (k_R7 : ∀ (a0 : Int32) (a1 : Int32) (a2 : ms), R7 a0 a1 a2 → (∀ (R7' : Int32 → Int32 → ms → Prop) (K' : ms → Prop), b_putCode_7 x1 x3 S R7' K' ↔ R7' a0 a1 a2) → Q) (k_K : ∀ (a0 : ms), K a0 → (∀ (R7' : Int32 → Int32 → ms → Prop) (K' : ms → Prop), b_putCode_7 x1 x3 S R7' K' ↔ K' a0) → Q) : Q := by
  unfold b_putCode_7 at h
  refine dt_p h (fun c_1 h_2 => ?_) (fun c_1 h_2 => ?_)
  ·
    exact d_e_putCode_75 h_2 (fun a0 h_4 i_3 => k_K a0 h_4 (fun _ _ => Iff.trans (dt_1 c_1 (fun n => n c_1)) (i_3 _)))
  ·
    exact d_e_putCode_19 h_2 (fun a0 a1 a2 h_6 i_5 => k_R7 a0 a1 a2 h_6 (fun _ _ => Iff.trans (dt_2 c_1 c_1) (i_5 _ _))) (fun a0 h_8 i_7 => k_K a0 h_8 (fun _ _ => Iff.trans (dt_2 c_1 c_1) (i_7 _ _)))
theorem l_e_putCode_7  {x1 : Int32} {x3 : Int32} {S : ms} {K : ms → Prop} : e_putCode_7 x1 x3 S K ↔ lpE (C := (ms → Prop)) (fun (y : (Int32) × (Int32) × (ms)) (R : ((Int32) × (Int32) × (ms)) → Prop) (c : (ms → Prop)) => b_putCode_7 y.1 y.2.1 y.2.2 (fun z0 z1 z2 => R (z0, z1, z2)) c) (x1, x3, S) K :=
  ⟨fun ⟨I, μ, h0, hs⟩ => ⟨fun t => I t.1 t.2.1 t.2.2, fun t => μ t.1 t.2.1 t.2.2, h0, fun t ht => hs _ _ _ ht⟩, fun ⟨I, μ, h0, hs⟩ => ⟨fun y0 y1 y2 => I (y0, y1, y2), fun y0 y1 y2 => μ (y0, y1, y2), h0, fun y0 y1 y2 hy => hs (y0, y1, y2) hy⟩⟩
set_option maxHeartbeats 1000000 in
theorem d_e_putCode_7 {x1 : Int32} {x3 : Int32} {S : ms} {K : ms → Prop} (h : e_putCode_7 x1 x3 S K) {Q : Prop} (k_K : ∀ (a0 : ms), K a0 → (∀ (K' : ms → Prop), e_putCode_7 x1 x3 S K' ↔ K' a0) → Q) : Q := by
  obtain ⟨o, ho, hoc, hi⟩ := lp_det (C := (ms → Prop)) (b := (fun (y : (Int32) × (Int32) × (ms)) (R : ((Int32) × (Int32) × (ms)) → Prop) (c : (ms → Prop)) => b_putCode_7 y.1 y.2.1 y.2.2 (fun z0 z1 z2 => R (z0, z1, z2)) c)) (O := (fun (o : ((ms → Prop)) → Prop) => (∃ (a0 : ms), o = fun c => c a0))) (fun y R c hy => d_b_putCode_7 hy (fun a0 a1 a2 ha ia => Or.inl ⟨(a0, a1, a2), ha, fun R' c' => ia (fun z0 z1 z2 => R' (z0, z1, z2)) c'⟩) (fun a0 ha ia => Or.inr ⟨(fun c => c a0), ⟨a0, rfl⟩, ha, fun R' c' => ia (fun z0 z1 z2 => R' (z0, z1, z2)) c'⟩)) (l_e_putCode_7.mp h)
  rcases ho with ⟨a0, rfl⟩
  · exact k_K _ hoc (fun K' => Iff.trans l_e_putCode_7 (hi K'))
theorem v_e_putCode_7 {x1 : Int32} {x3 : Int32} {S : ms} {K : ms → Prop} (h : e_putCode_7 x1 x3 S K) {G : Prop} (Inv : Int32 → ms → Prop) (h0 : Inv x3 S) (hs : ∀ (yx3 : Int32) (yS : ms) (R : Int32 → Int32 → ms → Prop), Inv yx3 yS → b_putCode_7 x1 yx3 yS R K → (∃ (zx3 : Int32) (zS : ms), R x1 zx3 zS ∧ Inv zx3 zS) ∨ G) : G := by
  obtain ⟨I, μ, i0, is⟩ := h
  have go : ∀ (n : Nat) (yx3 : Int32) (yS : ms), μ x1 yx3 yS < n → I x1 yx3 yS → Inv yx3 yS → G := by
    intro n
    induction n with
    | zero => intro yx3 yS hy; exact absurd hy (Nat.not_lt_zero _)
    | succ n ih =>
      intro yx3 yS hy hI hV
      rcases hs yx3 yS _ hV (is x1 yx3 yS hI) with ⟨zx3, zS, ⟨hz, hm⟩, hv⟩ | g
      · exact ih zx3 zS (Nat.lt_of_lt_of_le hm (Nat.le_of_lt_succ hy)) hz hv
      · exact g
  exact go _ x3 S (Nat.lt_succ_self _) i0 h0
theorem r_e_putCode_7 {x1 : Int32} {x3 : Int32} {S : ms} {K : ms → Prop} (h : e_putCode_7 x1 x3 S K) : b_putCode_7 x1 x3 S (fun zx1 zx3 zS => e_putCode_7 zx1 zx3 zS K) K := by
  obtain ⟨I, μ, i0, is⟩ := h
  exact d_b_putCode_7 (is x1 x3 S i0) (fun a0 a1 a2 ha ia => (ia _ _).mpr ⟨I, μ, ha.1, is⟩) (fun a0 ha ia => (ia _ _).mpr ha)
set_option maxHeartbeats 1000000 in
theorem d_p_putCode {x1 : Int32} {x2 : Int32} {S : ms} {K : ms → Prop} (h : p_putCode x1 x2 S K) {Q : Prop} (k_K : ∀ (a0 : ms), K a0 → (∀ (K' : ms → Prop), p_putCode x1 x2 S K' ↔ K' a0) → Q) : Q := by
  unfold p_putCode at h
  refine d_p_put h (fun S2 h_2 i_1 => ?_)
  exact d_e_putCode_7 h_2 (fun a0 h_4 i_3 => k_K a0 h_4 (fun _ => Iff.trans (i_1 _) (i_3 _)))
set_option maxHeartbeats 1000000 in
theorem d_b_codeSize_34 {x1 : Int32} {x3 : Int32} {s0 : Int32} {S : ms} {R5 : Int32 → Int32 → Int32 → ms → Prop} {K : Int32 → ms → Prop} (h : b_codeSize_34 x1 x3 s0 S R5 K) {Q : Prop} (k_R5 : ∀ (a0 : Int32) (a1 : Int32) (a2 : Int32) (a3 : ms), R5 a0 a1 a2 a3 → (∀ (R5' : Int32 → Int32 → Int32 → ms → Prop) (K' : Int32 → ms → Prop), b_codeSize_34 x1 x3 s0 S R5' K' ↔ R5' a0 a1 a2 a3) → Q) (k_K : ∀ (a0 : Int32) (a1 : ms), K a0 a1 → (∀ (R5' : Int32 → Int32 → Int32 → ms → Prop) (K' : Int32 → ms → Prop), b_codeSize_34 x1 x3 s0 S R5' K' ↔ K' a0 a1) → Q) : Q := by
  unfold b_codeSize_34 at h
  exact k_R5 _ _ _ _ h (fun _ _ => Iff.rfl)
set_option maxHeartbeats 1000000 in
theorem d_b_codeSize_5 {x1 : Int32} {x2 : Int32} {x3 : Int32} {S : ms} {R5 : Int32 → Int32 → Int32 → ms → Prop} {K : Int32 → ms → Prop} (h : b_codeSize_5 x1 x2 x3 S R5 K) {Q : Prop} (k_R5 : ∀ (a0 : Int32) (a1 : Int32) (a2 : Int32) (a3 : ms), R5 a0 a1 a2 a3 → (∀ (R5' : Int32 → Int32 → Int32 → ms → Prop) (K' : Int32 → ms → Prop), b_codeSize_5 x1 x2 x3 S R5' K' ↔ R5' a0 a1 a2 a3) → Q) (k_K : ∀ (a0 : Int32) (a1 : ms), K a0 a1 → (∀ (R5' : Int32 → Int32 → Int32 → ms → Prop) (K' : Int32 → ms → Prop), b_codeSize_5 x1 x2 x3 S R5' K' ↔ K' a0 a1) → Q) : Q := by
  unfold b_codeSize_5 at h
  refine dt_p h (fun c_1 h_2 => ?_) (fun c_1 h_2 => ?_)
  ·
    exact k_K _ _ h_2 (fun _ _ => dt_1 c_1 (fun n => n c_1))
  ·
    refine dt_p (And.right h_2) (fun c_3 h_4 => ?_) (fun c_3 h_4 => ?_)
    ·
      exact d_b_codeSize_34 h_4 (fun a0 a1 a2 a3 h_6 i_5 => k_R5 a0 a1 a2 a3 h_6 (fun _ _ => Iff.trans (dt_2 c_1 c_1) (Iff.trans (dt_a (And.left h_2)) (Iff.trans (dt_1 c_3 (fun n => n c_3)) (i_5 _ _))))) (fun a0 a1 h_8 i_7 => k_K a0 a1 h_8 (fun _ _ => Iff.trans (dt_2 c_1 c_1) (Iff.trans (dt_a (And.left h_2)) (Iff.trans (dt_1 c_3 (fun n => n c_3)) (i_7 _ _)))))
    ·
      exact d_b_codeSize_34 h_4 (fun a0 a1 a2 a3 h_10 i_9 => k_R5 a0 a1 a2 a3 h_10 (fun _ _ => Iff.trans (dt_2 c_1 c_1) (Iff.trans (dt_a (And.left h_2)) (Iff.trans (dt_2 c_3 c_3) (i_9 _ _))))) (fun a0 a1 h_12 i_11 => k_K a0 a1 h_12 (fun _ _ => Iff.trans (dt_2 c_1 c_1) (Iff.trans (dt_a (And.left h_2)) (Iff.trans (dt_2 c_3 c_3) (i_11 _ _)))))
theorem l_e_codeSize_5  {x1 : Int32} {x2 : Int32} {x3 : Int32} {S : ms} {K : Int32 → ms → Prop} : e_codeSize_5 x1 x2 x3 S K ↔ lpE (C := (Int32 → ms → Prop)) (fun (y : (Int32) × (Int32) × (Int32) × (ms)) (R : ((Int32) × (Int32) × (Int32) × (ms)) → Prop) (c : (Int32 → ms → Prop)) => b_codeSize_5 y.1 y.2.1 y.2.2.1 y.2.2.2 (fun z0 z1 z2 z3 => R (z0, z1, z2, z3)) c) (x1, x2, x3, S) K :=
  ⟨fun ⟨I, μ, h0, hs⟩ => ⟨fun t => I t.1 t.2.1 t.2.2.1 t.2.2.2, fun t => μ t.1 t.2.1 t.2.2.1 t.2.2.2, h0, fun t ht => hs _ _ _ _ ht⟩, fun ⟨I, μ, h0, hs⟩ => ⟨fun y0 y1 y2 y3 => I (y0, y1, y2, y3), fun y0 y1 y2 y3 => μ (y0, y1, y2, y3), h0, fun y0 y1 y2 y3 hy => hs (y0, y1, y2, y3) hy⟩⟩
set_option maxHeartbeats 1000000 in
theorem d_e_codeSize_5 {x1 : Int32} {x2 : Int32} {x3 : Int32} {S : ms} {K : Int32 → ms → Prop} (h : e_codeSize_5 x1 x2 x3 S K) {Q : Prop} (k_K : ∀ (a0 : Int32) (a1 : ms), K a0 a1 → (∀ (K' : Int32 → ms → Prop), e_codeSize_5 x1 x2 x3 S K' ↔ K' a0 a1) → Q) : Q := by
  obtain ⟨o, ho, hoc, hi⟩ := lp_det (C := (Int32 → ms → Prop)) (b := (fun (y : (Int32) × (Int32) × (Int32) × (ms)) (R : ((Int32) × (Int32) × (Int32) × (ms)) → Prop) (c : (Int32 → ms → Prop)) => b_codeSize_5 y.1 y.2.1 y.2.2.1 y.2.2.2 (fun z0 z1 z2 z3 => R (z0, z1, z2, z3)) c)) (O := (fun (o : ((Int32 → ms → Prop)) → Prop) => (∃ (a0 : Int32) (a1 : ms), o = fun c => c a0 a1))) (fun y R c hy => d_b_codeSize_5 hy (fun a0 a1 a2 a3 ha ia => Or.inl ⟨(a0, a1, a2, a3), ha, fun R' c' => ia (fun z0 z1 z2 z3 => R' (z0, z1, z2, z3)) c'⟩) (fun a0 a1 ha ia => Or.inr ⟨(fun c => c a0 a1), ⟨a0, a1, rfl⟩, ha, fun R' c' => ia (fun z0 z1 z2 z3 => R' (z0, z1, z2, z3)) c'⟩)) (l_e_codeSize_5.mp h)
  rcases ho with ⟨a0, a1, rfl⟩
  · exact k_K _ _ hoc (fun K' => Iff.trans l_e_codeSize_5 (hi K'))
theorem v_e_codeSize_5 {x1 : Int32} {x2 : Int32} {x3 : Int32} {S : ms} {K : Int32 → ms → Prop} (h : e_codeSize_5 x1 x2 x3 S K) {G : Prop} (Inv : Int32 → Int32 → ms → Prop) (h0 : Inv x2 x3 S) (hs : ∀ (yx2 : Int32) (yx3 : Int32) (yS : ms) (R : Int32 → Int32 → Int32 → ms → Prop), Inv yx2 yx3 yS → b_codeSize_5 x1 yx2 yx3 yS R K → (∃ (zx2 : Int32) (zx3 : Int32) (zS : ms), R x1 zx2 zx3 zS ∧ Inv zx2 zx3 zS) ∨ G) : G := by
  obtain ⟨I, μ, i0, is⟩ := h
  have go : ∀ (n : Nat) (yx2 : Int32) (yx3 : Int32) (yS : ms), μ x1 yx2 yx3 yS < n → I x1 yx2 yx3 yS → Inv yx2 yx3 yS → G := by
    intro n
    induction n with
    | zero => intro yx2 yx3 yS hy; exact absurd hy (Nat.not_lt_zero _)
    | succ n ih =>
      intro yx2 yx3 yS hy hI hV
      rcases hs yx2 yx3 yS _ hV (is x1 yx2 yx3 yS hI) with ⟨zx2, zx3, zS, ⟨hz, hm⟩, hv⟩ | g
      · exact ih zx2 zx3 zS (Nat.lt_of_lt_of_le hm (Nat.le_of_lt_succ hy)) hz hv
      · exact g
  exact go _ x2 x3 S (Nat.lt_succ_self _) i0 h0
theorem r_e_codeSize_5 {x1 : Int32} {x2 : Int32} {x3 : Int32} {S : ms} {K : Int32 → ms → Prop} (h : e_codeSize_5 x1 x2 x3 S K) : b_codeSize_5 x1 x2 x3 S (fun zx1 zx2 zx3 zS => e_codeSize_5 zx1 zx2 zx3 zS K) K := by
  obtain ⟨I, μ, i0, is⟩ := h
  exact d_b_codeSize_5 (is x1 x2 x3 S i0) (fun a0 a1 a2 a3 ha ia => (ia _ _).mpr ⟨I, μ, ha.1, is⟩) (fun a0 a1 ha ia => (ia _ _).mpr ha)
set_option maxHeartbeats 1000000 in
theorem d_p_codeSize {x1 : Int32} {S : ms} {K : Int32 → ms → Prop} (h : p_codeSize x1 S K) {Q : Prop} (k_K : ∀ (a0 : Int32) (a1 : ms), K a0 a1 → (∀ (K' : Int32 → ms → Prop), p_codeSize x1 S K' ↔ K' a0 a1) → Q) : Q := by
  unfold p_codeSize at h
  exact d_e_codeSize_5 h (fun a0 a1 h_2 i_1 => k_K a0 a1 h_2 (fun _ => i_1 _))
set_option maxHeartbeats 1000000 in
theorem d_b_putSections_348 {x2 : Int32} {x5 : Int32} {s1 : Int32} {S : ms} {R322 : Int32 → Int32 → ms → Prop} {K : ms → Prop} (h : b_putSections_348 x2 x5 s1 S R322 K) {Q : Prop} (k_R322 : ∀ (a0 : Int32) (a1 : Int32) (a2 : ms), R322 a0 a1 a2 → (∀ (R322' : Int32 → Int32 → ms → Prop) (K' : ms → Prop), b_putSections_348 x2 x5 s1 S R322' K' ↔ R322' a0 a1 a2) → Q) (k_K : ∀ (a0 : ms), K a0 → (∀ (R322' : Int32 → Int32 → ms → Prop) (K' : ms → Prop), b_putSections_348 x2 x5 s1 S R322' K' ↔ K' a0) → Q) : Q := by
  unfold b_putSections_348 at h
  refine d_p_put h (fun S348 h_2 i_1 => ?_)
  exact k_R322 _ _ _ h_2 (fun _ _ => i_1 _)
set_option maxHeartbeats 1000000 in
theorem d_b_putSections_322 {x2 : Int32} {x5 : Int32} {S : ms} {R322 : Int32 → Int32 → ms → Prop} {K : ms → Prop} (h : b_putSections_322 x2 x5 S R322 K) {Q : Prop} (k_R322 : ∀ (a0 : Int32) (a1 : Int32) (a2 : ms), R322 a0 a1 a2 → (∀ (R322' : Int32 → Int32 → ms → Prop) (K' : ms → Prop), b_putSections_322 x2 x5 S R322' K' ↔ R322' a0 a1 a2) → Q) (k_K : ∀ (a0 : ms), K a0 → (∀ (R322' : Int32 → Int32 → ms → Prop) (K' : ms → Prop), b_putSections_322 x2 x5 S R322' K' ↔ K' a0) → Q) : Q := by
  unfold b_putSections_322 at h
  refine dt_p h (fun c_1 h_2 => ?_) (fun c_1 h_2 => ?_)
  ·
    refine d_p_put h_2 (fun S359 h_4 i_3 => ?_)
    refine d_p_put h_4 (fun S365 h_6 i_5 => ?_)
    refine d_p_put h_6 (fun S370 h_8 i_7 => ?_)
    exact k_K _ h_8 (fun _ _ => Iff.trans (dt_1 c_1 (fun n => n c_1)) (Iff.trans (i_3 _) (Iff.trans (i_5 _) (i_7 _))))
  ·
    refine d_p_put h_2 (fun S333 h_10 i_9 => ?_)
    refine dt_n h_10 (fun c_11 h_12 => ?_) (fun c_11 h_12 => ?_)
    ·
      exact d_b_putSections_348 h_12 (fun a0 a1 a2 h_14 i_13 => k_R322 a0 a1 a2 h_14 (fun _ _ => Iff.trans (dt_2 c_1 c_1) (Iff.trans (i_9 _) (Iff.trans (dt_1 c_11 c_11) (i_13 _ _))))) (fun a0 h_16 i_15 => k_K a0 h_16 (fun _ _ => Iff.trans (dt_2 c_1 c_1) (Iff.trans (i_9 _) (Iff.trans (dt_1 c_11 c_11) (i_15 _ _)))))
    ·
      exact d_b_putSections_348 h_12 (fun a0 a1 a2 h_18 i_17 => k_R322 a0 a1 a2 h_18 (fun _ _ => Iff.trans (dt_2 c_1 c_1) (Iff.trans (i_9 _) (Iff.trans (dt_2 (fun n => n c_11) c_11) (i_17 _ _))))) (fun a0 h_20 i_19 => k_K a0 h_20 (fun _ _ => Iff.trans (dt_2 c_1 c_1) (Iff.trans (i_9 _) (Iff.trans (dt_2 (fun n => n c_11) c_11) (i_19 _ _)))))
theorem l_e_putSections_322  {x2 : Int32} {x5 : Int32} {S : ms} {K : ms → Prop} : e_putSections_322 x2 x5 S K ↔ lpE (C := (ms → Prop)) (fun (y : (Int32) × (Int32) × (ms)) (R : ((Int32) × (Int32) × (ms)) → Prop) (c : (ms → Prop)) => b_putSections_322 y.1 y.2.1 y.2.2 (fun z0 z1 z2 => R (z0, z1, z2)) c) (x2, x5, S) K :=
  ⟨fun ⟨I, μ, h0, hs⟩ => ⟨fun t => I t.1 t.2.1 t.2.2, fun t => μ t.1 t.2.1 t.2.2, h0, fun t ht => hs _ _ _ ht⟩, fun ⟨I, μ, h0, hs⟩ => ⟨fun y0 y1 y2 => I (y0, y1, y2), fun y0 y1 y2 => μ (y0, y1, y2), h0, fun y0 y1 y2 hy => hs (y0, y1, y2) hy⟩⟩
set_option maxHeartbeats 1000000 in
theorem d_e_putSections_322 {x2 : Int32} {x5 : Int32} {S : ms} {K : ms → Prop} (h : e_putSections_322 x2 x5 S K) {Q : Prop} (k_K : ∀ (a0 : ms), K a0 → (∀ (K' : ms → Prop), e_putSections_322 x2 x5 S K' ↔ K' a0) → Q) : Q := by
  obtain ⟨o, ho, hoc, hi⟩ := lp_det (C := (ms → Prop)) (b := (fun (y : (Int32) × (Int32) × (ms)) (R : ((Int32) × (Int32) × (ms)) → Prop) (c : (ms → Prop)) => b_putSections_322 y.1 y.2.1 y.2.2 (fun z0 z1 z2 => R (z0, z1, z2)) c)) (O := (fun (o : ((ms → Prop)) → Prop) => (∃ (a0 : ms), o = fun c => c a0))) (fun y R c hy => d_b_putSections_322 hy (fun a0 a1 a2 ha ia => Or.inl ⟨(a0, a1, a2), ha, fun R' c' => ia (fun z0 z1 z2 => R' (z0, z1, z2)) c'⟩) (fun a0 ha ia => Or.inr ⟨(fun c => c a0), ⟨a0, rfl⟩, ha, fun R' c' => ia (fun z0 z1 z2 => R' (z0, z1, z2)) c'⟩)) (l_e_putSections_322.mp h)
  rcases ho with ⟨a0, rfl⟩
  · exact k_K _ hoc (fun K' => Iff.trans l_e_putSections_322 (hi K'))
theorem v_e_putSections_322 {x2 : Int32} {x5 : Int32} {S : ms} {K : ms → Prop} (h : e_putSections_322 x2 x5 S K) {G : Prop} (Inv : Int32 → ms → Prop) (h0 : Inv x5 S) (hs : ∀ (yx5 : Int32) (yS : ms) (R : Int32 → Int32 → ms → Prop), Inv yx5 yS → b_putSections_322 x2 yx5 yS R K → (∃ (zx5 : Int32) (zS : ms), R x2 zx5 zS ∧ Inv zx5 zS) ∨ G) : G := by
  obtain ⟨I, μ, i0, is⟩ := h
  have go : ∀ (n : Nat) (yx5 : Int32) (yS : ms), μ x2 yx5 yS < n → I x2 yx5 yS → Inv yx5 yS → G := by
    intro n
    induction n with
    | zero => intro yx5 yS hy; exact absurd hy (Nat.not_lt_zero _)
    | succ n ih =>
      intro yx5 yS hy hI hV
      rcases hs yx5 yS _ hV (is x2 yx5 yS hI) with ⟨zx5, zS, ⟨hz, hm⟩, hv⟩ | g
      · exact ih zx5 zS (Nat.lt_of_lt_of_le hm (Nat.le_of_lt_succ hy)) hz hv
      · exact g
  exact go _ x5 S (Nat.lt_succ_self _) i0 h0
theorem r_e_putSections_322 {x2 : Int32} {x5 : Int32} {S : ms} {K : ms → Prop} (h : e_putSections_322 x2 x5 S K) : b_putSections_322 x2 x5 S (fun zx2 zx5 zS => e_putSections_322 zx2 zx5 zS K) K := by
  obtain ⟨I, μ, i0, is⟩ := h
  exact d_b_putSections_322 (is x2 x5 S i0) (fun a0 a1 a2 ha ia => (ia _ _).mpr ⟨I, μ, ha.1, is⟩) (fun a0 ha ia => (ia _ _).mpr ha)
set_option maxHeartbeats 1000000 in
theorem d_b_putSections_297 {x2 : Int32} {S : ms} {K : ms → Prop} (h : b_putSections_297 x2 S K) {Q : Prop} (k_K : ∀ (a0 : ms), K a0 → (∀ (K' : ms → Prop), b_putSections_297 x2 S K' ↔ K' a0) → Q) : Q := by
  unfold b_putSections_297 at h
  refine d_p_mark h (fun S301 h_2 i_1 => ?_)
  refine d_p_putTwo h_2 (fun S311 h_4 i_3 => ?_)
  refine d_p_put h_4 (fun S316 h_6 i_5 => ?_)
  exact d_e_putSections_322 h_6 (fun a0 h_8 i_7 => k_K a0 h_8 (fun _ => Iff.trans (i_1 _) (Iff.trans (i_3 _) (Iff.trans (i_5 _) (i_7 _)))))
set_option maxHeartbeats 1000000 in
theorem d_b_putSections_244 {x1 : Int32} {x2 : Int32} {x3 : Int32} {x5 : Int32} {S : ms} {R244 : Int32 → Int32 → Int32 → Int32 → ms → Prop} {K : ms → Prop} (h : b_putSections_244 x1 x2 x3 x5 S R244 K) {Q : Prop} (k_R244 : ∀ (a0 : Int32) (a1 : Int32) (a2 : Int32) (a3 : Int32) (a4 : ms), R244 a0 a1 a2 a3 a4 → (∀ (R244' : Int32 → Int32 → Int32 → Int32 → ms → Prop) (K' : ms → Prop), b_putSections_244 x1 x2 x3 x5 S R244' K' ↔ R244' a0 a1 a2 a3 a4) → Q) (k_K : ∀ (a0 : ms), K a0 → (∀ (R244' : Int32 → Int32 → Int32 → Int32 → ms → Prop) (K' : ms → Prop), b_putSections_244 x1 x2 x3 x5 S R244' K' ↔ K' a0) → Q) : Q := by
  unfold b_putSections_244 at h
  refine dt_p h (fun c_1 h_2 => ?_) (fun c_1 h_2 => ?_)
  ·
    refine dt_p h_2 (fun c_3 h_4 => ?_) (fun c_3 h_4 => ?_)
    ·
      exact d_b_putSections_297 h_4 (fun a0 h_6 i_5 => k_K a0 h_6 (fun _ _ => Iff.trans (dt_1 c_1 (fun n => n c_1)) (Iff.trans (dt_1 c_3 (fun n => n c_3)) (i_5 _))))
    ·
      refine d_p_mark h_4 (fun S284 h_8 i_7 => ?_)
      refine d_p_putTwo h_8 (fun S289 h_10 i_9 => ?_)
      refine d_p_putTwo h_10 (fun S294 h_12 i_11 => ?_)
      exact d_b_putSections_297 h_12 (fun a0 h_14 i_13 => k_K a0 h_14 (fun _ _ => Iff.trans (dt_1 c_1 (fun n => n c_1)) (Iff.trans (dt_2 c_3 c_3) (Iff.trans (i_7 _) (Iff.trans (i_9 _) (Iff.trans (i_11 _) (i_13 _)))))))
  ·
    refine d_p_putCode h_2 (fun S267 h_16 i_15 => ?_)
    exact k_R244 _ _ _ _ _ h_16 (fun _ _ => Iff.trans (dt_2 c_1 c_1) (i_15 _))
theorem l_e_putSections_244  {x1 : Int32} {x2 : Int32} {x3 : Int32} {x5 : Int32} {S : ms} {K : ms → Prop} : e_putSections_244 x1 x2 x3 x5 S K ↔ lpE (C := (ms → Prop)) (fun (y : (Int32) × (Int32) × (Int32) × (Int32) × (ms)) (R : ((Int32) × (Int32) × (Int32) × (Int32) × (ms)) → Prop) (c : (ms → Prop)) => b_putSections_244 y.1 y.2.1 y.2.2.1 y.2.2.2.1 y.2.2.2.2 (fun z0 z1 z2 z3 z4 => R (z0, z1, z2, z3, z4)) c) (x1, x2, x3, x5, S) K :=
  ⟨fun ⟨I, μ, h0, hs⟩ => ⟨fun t => I t.1 t.2.1 t.2.2.1 t.2.2.2.1 t.2.2.2.2, fun t => μ t.1 t.2.1 t.2.2.1 t.2.2.2.1 t.2.2.2.2, h0, fun t ht => hs _ _ _ _ _ ht⟩, fun ⟨I, μ, h0, hs⟩ => ⟨fun y0 y1 y2 y3 y4 => I (y0, y1, y2, y3, y4), fun y0 y1 y2 y3 y4 => μ (y0, y1, y2, y3, y4), h0, fun y0 y1 y2 y3 y4 hy => hs (y0, y1, y2, y3, y4) hy⟩⟩
set_option maxHeartbeats 1000000 in
theorem d_e_putSections_244 {x1 : Int32} {x2 : Int32} {x3 : Int32} {x5 : Int32} {S : ms} {K : ms → Prop} (h : e_putSections_244 x1 x2 x3 x5 S K) {Q : Prop} (k_K : ∀ (a0 : ms), K a0 → (∀ (K' : ms → Prop), e_putSections_244 x1 x2 x3 x5 S K' ↔ K' a0) → Q) : Q := by
  obtain ⟨o, ho, hoc, hi⟩ := lp_det (C := (ms → Prop)) (b := (fun (y : (Int32) × (Int32) × (Int32) × (Int32) × (ms)) (R : ((Int32) × (Int32) × (Int32) × (Int32) × (ms)) → Prop) (c : (ms → Prop)) => b_putSections_244 y.1 y.2.1 y.2.2.1 y.2.2.2.1 y.2.2.2.2 (fun z0 z1 z2 z3 z4 => R (z0, z1, z2, z3, z4)) c)) (O := (fun (o : ((ms → Prop)) → Prop) => (∃ (a0 : ms), o = fun c => c a0))) (fun y R c hy => d_b_putSections_244 hy (fun a0 a1 a2 a3 a4 ha ia => Or.inl ⟨(a0, a1, a2, a3, a4), ha, fun R' c' => ia (fun z0 z1 z2 z3 z4 => R' (z0, z1, z2, z3, z4)) c'⟩) (fun a0 ha ia => Or.inr ⟨(fun c => c a0), ⟨a0, rfl⟩, ha, fun R' c' => ia (fun z0 z1 z2 z3 z4 => R' (z0, z1, z2, z3, z4)) c'⟩)) (l_e_putSections_244.mp h)
  rcases ho with ⟨a0, rfl⟩
  · exact k_K _ hoc (fun K' => Iff.trans l_e_putSections_244 (hi K'))
theorem v_e_putSections_244 {x1 : Int32} {x2 : Int32} {x3 : Int32} {x5 : Int32} {S : ms} {K : ms → Prop} (h : e_putSections_244 x1 x2 x3 x5 S K) {G : Prop} (Inv : Int32 → ms → Prop) (h0 : Inv x5 S) (hs : ∀ (yx5 : Int32) (yS : ms) (R : Int32 → Int32 → Int32 → Int32 → ms → Prop), Inv yx5 yS → b_putSections_244 x1 x2 x3 yx5 yS R K → (∃ (zx5 : Int32) (zS : ms), R x1 x2 x3 zx5 zS ∧ Inv zx5 zS) ∨ G) : G := by
  obtain ⟨I, μ, i0, is⟩ := h
  have go : ∀ (n : Nat) (yx5 : Int32) (yS : ms), μ x1 x2 x3 yx5 yS < n → I x1 x2 x3 yx5 yS → Inv yx5 yS → G := by
    intro n
    induction n with
    | zero => intro yx5 yS hy; exact absurd hy (Nat.not_lt_zero _)
    | succ n ih =>
      intro yx5 yS hy hI hV
      rcases hs yx5 yS _ hV (is x1 x2 x3 yx5 yS hI) with ⟨zx5, zS, ⟨hz, hm⟩, hv⟩ | g
      · exact ih zx5 zS (Nat.lt_of_lt_of_le hm (Nat.le_of_lt_succ hy)) hz hv
      · exact g
  exact go _ x5 S (Nat.lt_succ_self _) i0 h0
theorem r_e_putSections_244 {x1 : Int32} {x2 : Int32} {x3 : Int32} {x5 : Int32} {S : ms} {K : ms → Prop} (h : e_putSections_244 x1 x2 x3 x5 S K) : b_putSections_244 x1 x2 x3 x5 S (fun zx1 zx2 zx3 zx5 zS => e_putSections_244 zx1 zx2 zx3 zx5 zS K) K := by
  obtain ⟨I, μ, i0, is⟩ := h
  exact d_b_putSections_244 (is x1 x2 x3 x5 S i0) (fun a0 a1 a2 a3 a4 ha ia => (ia _ _).mpr ⟨I, μ, ha.1, is⟩) (fun a0 ha ia => (ia _ _).mpr ha)
set_option maxHeartbeats 1000000 in
theorem d_b_putSections_210 {x1 : Int32} {x2 : Int32} {x3 : Int32} {x4 : Int32} {x5 : Int32} {S : ms} {R210 : Int32 → Int32 → Int32 → Int32 → Int32 → ms → Prop} {K : ms → Prop} (h : b_putSections_210 x1 x2 x3 x4 x5 S R210 K) {Q : Prop} (k_R210 : ∀ (a0 : Int32) (a1 : Int32) (a2 : Int32) (a3 : Int32) (a4 : Int32) (a5 : ms), R210 a0 a1 a2 a3 a4 a5 → (∀ (R210' : Int32 → Int32 → Int32 → Int32 → Int32 → ms → Prop) (K' : ms → Prop), b_putSections_210 x1 x2 x3 x4 x5 S R210' K' ↔ R210' a0 a1 a2 a3 a4 a5) → Q) (k_K : ∀ (a0 : ms), K a0 → (∀ (R210' : Int32 → Int32 → Int32 → Int32 → Int32 → ms → Prop) (K' : ms → Prop), b_putSections_210 x1 x2 x3 x4 x5 S R210' K' ↔ K' a0) → Q) : Q := by
  unfold b_putSections_210 at h
  refine dt_p h (fun c_1 h_2 => ?_) (fun c_1 h_2 => ?_)
  ·
    refine d_p_putTwo h_2 (fun S238 h_4 i_3 => ?_)
    exact d_e_putSections_244 h_4 (fun a0 h_6 i_5 => k_K a0 h_6 (fun _ _ => Iff.trans (dt_1 c_1 (fun n => n c_1)) (Iff.trans (i_3 _) (i_5 _))))
  ·
    refine d_p_codeSize h_2 (fun v223 S223 h_8 i_7 => ?_)
    exact k_R210 _ _ _ _ _ _ h_8 (fun _ _ => Iff.trans (dt_2 c_1 c_1) (i_7 _))
theorem l_e_putSections_210  {x1 : Int32} {x2 : Int32} {x3 : Int32} {x4 : Int32} {x5 : Int32} {S : ms} {K : ms → Prop} : e_putSections_210 x1 x2 x3 x4 x5 S K ↔ lpE (C := (ms → Prop)) (fun (y : (Int32) × (Int32) × (Int32) × (Int32) × (Int32) × (ms)) (R : ((Int32) × (Int32) × (Int32) × (Int32) × (Int32) × (ms)) → Prop) (c : (ms → Prop)) => b_putSections_210 y.1 y.2.1 y.2.2.1 y.2.2.2.1 y.2.2.2.2.1 y.2.2.2.2.2 (fun z0 z1 z2 z3 z4 z5 => R (z0, z1, z2, z3, z4, z5)) c) (x1, x2, x3, x4, x5, S) K :=
  ⟨fun ⟨I, μ, h0, hs⟩ => ⟨fun t => I t.1 t.2.1 t.2.2.1 t.2.2.2.1 t.2.2.2.2.1 t.2.2.2.2.2, fun t => μ t.1 t.2.1 t.2.2.1 t.2.2.2.1 t.2.2.2.2.1 t.2.2.2.2.2, h0, fun t ht => hs _ _ _ _ _ _ ht⟩, fun ⟨I, μ, h0, hs⟩ => ⟨fun y0 y1 y2 y3 y4 y5 => I (y0, y1, y2, y3, y4, y5), fun y0 y1 y2 y3 y4 y5 => μ (y0, y1, y2, y3, y4, y5), h0, fun y0 y1 y2 y3 y4 y5 hy => hs (y0, y1, y2, y3, y4, y5) hy⟩⟩
set_option maxHeartbeats 1000000 in
theorem d_e_putSections_210 {x1 : Int32} {x2 : Int32} {x3 : Int32} {x4 : Int32} {x5 : Int32} {S : ms} {K : ms → Prop} (h : e_putSections_210 x1 x2 x3 x4 x5 S K) {Q : Prop} (k_K : ∀ (a0 : ms), K a0 → (∀ (K' : ms → Prop), e_putSections_210 x1 x2 x3 x4 x5 S K' ↔ K' a0) → Q) : Q := by
  obtain ⟨o, ho, hoc, hi⟩ := lp_det (C := (ms → Prop)) (b := (fun (y : (Int32) × (Int32) × (Int32) × (Int32) × (Int32) × (ms)) (R : ((Int32) × (Int32) × (Int32) × (Int32) × (Int32) × (ms)) → Prop) (c : (ms → Prop)) => b_putSections_210 y.1 y.2.1 y.2.2.1 y.2.2.2.1 y.2.2.2.2.1 y.2.2.2.2.2 (fun z0 z1 z2 z3 z4 z5 => R (z0, z1, z2, z3, z4, z5)) c)) (O := (fun (o : ((ms → Prop)) → Prop) => (∃ (a0 : ms), o = fun c => c a0))) (fun y R c hy => d_b_putSections_210 hy (fun a0 a1 a2 a3 a4 a5 ha ia => Or.inl ⟨(a0, a1, a2, a3, a4, a5), ha, fun R' c' => ia (fun z0 z1 z2 z3 z4 z5 => R' (z0, z1, z2, z3, z4, z5)) c'⟩) (fun a0 ha ia => Or.inr ⟨(fun c => c a0), ⟨a0, rfl⟩, ha, fun R' c' => ia (fun z0 z1 z2 z3 z4 z5 => R' (z0, z1, z2, z3, z4, z5)) c'⟩)) (l_e_putSections_210.mp h)
  rcases ho with ⟨a0, rfl⟩
  · exact k_K _ hoc (fun K' => Iff.trans l_e_putSections_210 (hi K'))
theorem v_e_putSections_210 {x1 : Int32} {x2 : Int32} {x3 : Int32} {x4 : Int32} {x5 : Int32} {S : ms} {K : ms → Prop} (h : e_putSections_210 x1 x2 x3 x4 x5 S K) {G : Prop} (Inv : Int32 → Int32 → ms → Prop) (h0 : Inv x4 x5 S) (hs : ∀ (yx4 : Int32) (yx5 : Int32) (yS : ms) (R : Int32 → Int32 → Int32 → Int32 → Int32 → ms → Prop), Inv yx4 yx5 yS → b_putSections_210 x1 x2 x3 yx4 yx5 yS R K → (∃ (zx4 : Int32) (zx5 : Int32) (zS : ms), R x1 x2 x3 zx4 zx5 zS ∧ Inv zx4 zx5 zS) ∨ G) : G := by
  obtain ⟨I, μ, i0, is⟩ := h
  have go : ∀ (n : Nat) (yx4 : Int32) (yx5 : Int32) (yS : ms), μ x1 x2 x3 yx4 yx5 yS < n → I x1 x2 x3 yx4 yx5 yS → Inv yx4 yx5 yS → G := by
    intro n
    induction n with
    | zero => intro yx4 yx5 yS hy; exact absurd hy (Nat.not_lt_zero _)
    | succ n ih =>
      intro yx4 yx5 yS hy hI hV
      rcases hs yx4 yx5 yS _ hV (is x1 x2 x3 yx4 yx5 yS hI) with ⟨zx4, zx5, zS, ⟨hz, hm⟩, hv⟩ | g
      · exact ih zx4 zx5 zS (Nat.lt_of_lt_of_le hm (Nat.le_of_lt_succ hy)) hz hv
      · exact g
  exact go _ x4 x5 S (Nat.lt_succ_self _) i0 h0
theorem r_e_putSections_210 {x1 : Int32} {x2 : Int32} {x3 : Int32} {x4 : Int32} {x5 : Int32} {S : ms} {K : ms → Prop} (h : e_putSections_210 x1 x2 x3 x4 x5 S K) : b_putSections_210 x1 x2 x3 x4 x5 S (fun zx1 zx2 zx3 zx4 zx5 zS => e_putSections_210 zx1 zx2 zx3 zx4 zx5 zS K) K := by
  obtain ⟨I, μ, i0, is⟩ := h
  exact d_b_putSections_210 (is x1 x2 x3 x4 x5 S i0) (fun a0 a1 a2 a3 a4 a5 ha ia => (ia _ _).mpr ⟨I, μ, ha.1, is⟩) (fun a0 ha ia => (ia _ _).mpr ha)
set_option maxHeartbeats 1000000 in
theorem d_b_putSections_188 {x1 : Int32} {x2 : Int32} {x3 : Int32} {x4 : Int32} {s1 : Int32} {S : ms} {R141 : Int32 → Int32 → Int32 → Int32 → ms → Prop} {K : ms → Prop} (h : b_putSections_188 x1 x2 x3 x4 s1 S R141 K) {Q : Prop} (k_R141 : ∀ (a0 : Int32) (a1 : Int32) (a2 : Int32) (a3 : Int32) (a4 : ms), R141 a0 a1 a2 a3 a4 → (∀ (R141' : Int32 → Int32 → Int32 → Int32 → ms → Prop) (K' : ms → Prop), b_putSections_188 x1 x2 x3 x4 s1 S R141' K' ↔ R141' a0 a1 a2 a3 a4) → Q) (k_K : ∀ (a0 : ms), K a0 → (∀ (R141' : Int32 → Int32 → Int32 → Int32 → ms → Prop) (K' : ms → Prop), b_putSections_188 x1 x2 x3 x4 s1 S R141' K' ↔ K' a0) → Q) : Q := by
  unfold b_putSections_188 at h
  refine d_p_put h (fun S188 h_2 i_1 => ?_)
  exact k_R141 _ _ _ _ _ h_2 (fun _ _ => i_1 _)
set_option maxHeartbeats 1000000 in
theorem d_b_putSections_141 {x1 : Int32} {x2 : Int32} {x3 : Int32} {x4 : Int32} {S : ms} {R141 : Int32 → Int32 → Int32 → Int32 → ms → Prop} {K : ms → Prop} (h : b_putSections_141 x1 x2 x3 x4 S R141 K) {Q : Prop} (k_R141 : ∀ (a0 : Int32) (a1 : Int32) (a2 : Int32) (a3 : Int32) (a4 : ms), R141 a0 a1 a2 a3 a4 → (∀ (R141' : Int32 → Int32 → Int32 → Int32 → ms → Prop) (K' : ms → Prop), b_putSections_141 x1 x2 x3 x4 S R141' K' ↔ R141' a0 a1 a2 a3 a4) → Q) (k_K : ∀ (a0 : ms), K a0 → (∀ (R141' : Int32 → Int32 → Int32 → Int32 → ms → Prop) (K' : ms → Prop), b_putSections_141 x1 x2 x3 x4 S R141' K' ↔ K' a0) → Q) : Q := by
  unfold b_putSections_141 at h
  refine dt_p h (fun c_1 h_2 => ?_) (fun c_1 h_2 => ?_)
  ·
    refine d_p_mark h_2 (fun S201 h_4 i_3 => ?_)
    exact d_e_putSections_210 h_4 (fun a0 h_6 i_5 => k_K a0 h_6 (fun _ _ => Iff.trans (dt_1 c_1 (fun n => n c_1)) (Iff.trans (i_3 _) (i_5 _))))
  ·
    refine d_p_put h_2 (fun S152 h_8 i_7 => ?_)
    refine d_p_put (And.right (And.right h_8)) (fun S174 h_10 i_9 => ?_)
    refine dt_n h_10 (fun c_11 h_12 => ?_) (fun c_11 h_12 => ?_)
    ·
      exact d_b_putSections_188 h_12 (fun a0 a1 a2 a3 a4 h_14 i_13 => k_R141 a0 a1 a2 a3 a4 h_14 (fun _ _ => Iff.trans (dt_2 c_1 c_1) (Iff.trans (i_7 _) (Iff.trans (dt_a (And.left h_8)) (Iff.trans (dt_a (And.left (And.right h_8))) (Iff.trans (i_9 _) (Iff.trans (dt_1 c_11 c_11) (i_13 _ _)))))))) (fun a0 h_16 i_15 => k_K a0 h_16 (fun _ _ => Iff.trans (dt_2 c_1 c_1) (Iff.trans (i_7 _) (Iff.trans (dt_a (And.left h_8)) (Iff.trans (dt_a (And.left (And.right h_8))) (Iff.trans (i_9 _) (Iff.trans (dt_1 c_11 c_11) (i_15 _ _))))))))
    ·
      exact d_b_putSections_188 h_12 (fun a0 a1 a2 a3 a4 h_18 i_17 => k_R141 a0 a1 a2 a3 a4 h_18 (fun _ _ => Iff.trans (dt_2 c_1 c_1) (Iff.trans (i_7 _) (Iff.trans (dt_a (And.left h_8)) (Iff.trans (dt_a (And.left (And.right h_8))) (Iff.trans (i_9 _) (Iff.trans (dt_2 (fun n => n c_11) c_11) (i_17 _ _)))))))) (fun a0 h_20 i_19 => k_K a0 h_20 (fun _ _ => Iff.trans (dt_2 c_1 c_1) (Iff.trans (i_7 _) (Iff.trans (dt_a (And.left h_8)) (Iff.trans (dt_a (And.left (And.right h_8))) (Iff.trans (i_9 _) (Iff.trans (dt_2 (fun n => n c_11) c_11) (i_19 _ _))))))))
theorem l_e_putSections_141  {x1 : Int32} {x2 : Int32} {x3 : Int32} {x4 : Int32} {S : ms} {K : ms → Prop} : e_putSections_141 x1 x2 x3 x4 S K ↔ lpE (C := (ms → Prop)) (fun (y : (Int32) × (Int32) × (Int32) × (Int32) × (ms)) (R : ((Int32) × (Int32) × (Int32) × (Int32) × (ms)) → Prop) (c : (ms → Prop)) => b_putSections_141 y.1 y.2.1 y.2.2.1 y.2.2.2.1 y.2.2.2.2 (fun z0 z1 z2 z3 z4 => R (z0, z1, z2, z3, z4)) c) (x1, x2, x3, x4, S) K :=
  ⟨fun ⟨I, μ, h0, hs⟩ => ⟨fun t => I t.1 t.2.1 t.2.2.1 t.2.2.2.1 t.2.2.2.2, fun t => μ t.1 t.2.1 t.2.2.1 t.2.2.2.1 t.2.2.2.2, h0, fun t ht => hs _ _ _ _ _ ht⟩, fun ⟨I, μ, h0, hs⟩ => ⟨fun y0 y1 y2 y3 y4 => I (y0, y1, y2, y3, y4), fun y0 y1 y2 y3 y4 => μ (y0, y1, y2, y3, y4), h0, fun y0 y1 y2 y3 y4 hy => hs (y0, y1, y2, y3, y4) hy⟩⟩
set_option maxHeartbeats 1000000 in
theorem d_e_putSections_141 {x1 : Int32} {x2 : Int32} {x3 : Int32} {x4 : Int32} {S : ms} {K : ms → Prop} (h : e_putSections_141 x1 x2 x3 x4 S K) {Q : Prop} (k_K : ∀ (a0 : ms), K a0 → (∀ (K' : ms → Prop), e_putSections_141 x1 x2 x3 x4 S K' ↔ K' a0) → Q) : Q := by
  obtain ⟨o, ho, hoc, hi⟩ := lp_det (C := (ms → Prop)) (b := (fun (y : (Int32) × (Int32) × (Int32) × (Int32) × (ms)) (R : ((Int32) × (Int32) × (Int32) × (Int32) × (ms)) → Prop) (c : (ms → Prop)) => b_putSections_141 y.1 y.2.1 y.2.2.1 y.2.2.2.1 y.2.2.2.2 (fun z0 z1 z2 z3 z4 => R (z0, z1, z2, z3, z4)) c)) (O := (fun (o : ((ms → Prop)) → Prop) => (∃ (a0 : ms), o = fun c => c a0))) (fun y R c hy => d_b_putSections_141 hy (fun a0 a1 a2 a3 a4 ha ia => Or.inl ⟨(a0, a1, a2, a3, a4), ha, fun R' c' => ia (fun z0 z1 z2 z3 z4 => R' (z0, z1, z2, z3, z4)) c'⟩) (fun a0 ha ia => Or.inr ⟨(fun c => c a0), ⟨a0, rfl⟩, ha, fun R' c' => ia (fun z0 z1 z2 z3 z4 => R' (z0, z1, z2, z3, z4)) c'⟩)) (l_e_putSections_141.mp h)
  rcases ho with ⟨a0, rfl⟩
  · exact k_K _ hoc (fun K' => Iff.trans l_e_putSections_141 (hi K'))
theorem v_e_putSections_141 {x1 : Int32} {x2 : Int32} {x3 : Int32} {x4 : Int32} {S : ms} {K : ms → Prop} (h : e_putSections_141 x1 x2 x3 x4 S K) {G : Prop} (Inv : Int32 → ms → Prop) (h0 : Inv x4 S) (hs : ∀ (yx4 : Int32) (yS : ms) (R : Int32 → Int32 → Int32 → Int32 → ms → Prop), Inv yx4 yS → b_putSections_141 x1 x2 x3 yx4 yS R K → (∃ (zx4 : Int32) (zS : ms), R x1 x2 x3 zx4 zS ∧ Inv zx4 zS) ∨ G) : G := by
  obtain ⟨I, μ, i0, is⟩ := h
  have go : ∀ (n : Nat) (yx4 : Int32) (yS : ms), μ x1 x2 x3 yx4 yS < n → I x1 x2 x3 yx4 yS → Inv yx4 yS → G := by
    intro n
    induction n with
    | zero => intro yx4 yS hy; exact absurd hy (Nat.not_lt_zero _)
    | succ n ih =>
      intro yx4 yS hy hI hV
      rcases hs yx4 yS _ hV (is x1 x2 x3 yx4 yS hI) with ⟨zx4, zS, ⟨hz, hm⟩, hv⟩ | g
      · exact ih zx4 zS (Nat.lt_of_lt_of_le hm (Nat.le_of_lt_succ hy)) hz hv
      · exact g
  exact go _ x4 S (Nat.lt_succ_self _) i0 h0
theorem r_e_putSections_141 {x1 : Int32} {x2 : Int32} {x3 : Int32} {x4 : Int32} {S : ms} {K : ms → Prop} (h : e_putSections_141 x1 x2 x3 x4 S K) : b_putSections_141 x1 x2 x3 x4 S (fun zx1 zx2 zx3 zx4 zS => e_putSections_141 zx1 zx2 zx3 zx4 zS K) K := by
  obtain ⟨I, μ, i0, is⟩ := h
  exact d_b_putSections_141 (is x1 x2 x3 x4 S i0) (fun a0 a1 a2 a3 a4 ha ia => (ia _ _).mpr ⟨I, μ, ha.1, is⟩) (fun a0 ha ia => (ia _ _).mpr ha)
set_option maxHeartbeats 1000000 in
theorem d_b_putSections_53 {x1 : Int32} {x2 : Int32} {x3 : Int32} {x4 : Int32} {x5 : Int32} {S : ms} {R38 : Int32 → Int32 → Int32 → Int32 → ms → Prop} {R53 : Int32 → Int32 → Int32 → Int32 → Int32 → ms → Prop} {K : ms → Prop} (h : b_putSections_53 x1 x2 x3 x4 x5 S R38 R53 K) {Q : Prop} (k_R38 : ∀ (a0 : Int32) (a1 : Int32) (a2 : Int32) (a3 : Int32) (a4 : ms), R38 a0 a1 a2 a3 a4 → (∀ (R38' : Int32 → Int32 → Int32 → Int32 → ms → Prop) (R53' : Int32 → Int32 → Int32 → Int32 → Int32 → ms → Prop) (K' : ms → Prop), b_putSections_53 x1 x2 x3 x4 x5 S R38' R53' K' ↔ R38' a0 a1 a2 a3 a4) → Q) (k_R53 : ∀ (a0 : Int32) (a1 : Int32) (a2 : Int32) (a3 : Int32) (a4 : Int32) (a5 : ms), R53 a0 a1 a2 a3 a4 a5 → (∀ (R38' : Int32 → Int32 → Int32 → Int32 → ms → Prop) (R53' : Int32 → Int32 → Int32 → Int32 → Int32 → ms → Prop) (K' : ms → Prop), b_putSections_53 x1 x2 x3 x4 x5 S R38' R53' K' ↔ R53' a0 a1 a2 a3 a4 a5) → Q) (k_K : ∀ (a0 : ms), K a0 → (∀ (R38' : Int32 → Int32 → Int32 → Int32 → ms → Prop) (R53' : Int32 → Int32 → Int32 → Int32 → Int32 → ms → Prop) (K' : ms → Prop), b_putSections_53 x1 x2 x3 x4 x5 S R38' R53' K' ↔ K' a0) → Q) : Q := by
  unfold b_putSections_53 at h
  refine dt_p h (fun c_1 h_2 => ?_) (fun c_1 h_2 => ?_)
  ·
    exact k_R38 _ _ _ _ _ h_2 (fun _ _ _ => dt_1 c_1 (fun n => n c_1))
  ·
    refine d_p_put (And.right (And.right h_2)) (fun S79 h_4 i_3 => ?_)
    exact k_R53 _ _ _ _ _ _ h_4 (fun _ _ _ => Iff.trans (dt_2 c_1 c_1) (Iff.trans (dt_a (And.left h_2)) (Iff.trans (dt_a (And.left (And.right h_2))) (i_3 _))))
theorem l_e_putSections_53  {x1 : Int32} {x2 : Int32} {x3 : Int32} {x4 : Int32} {x5 : Int32} {S : ms} {R38 : Int32 → Int32 → Int32 → Int32 → ms → Prop} {K : ms → Prop} : e_putSections_53 x1 x2 x3 x4 x5 S R38 K ↔ lpE (C := (Int32 → Int32 → Int32 → Int32 → ms → Prop) × (ms → Prop)) (fun (y : (Int32) × (Int32) × (Int32) × (Int32) × (Int32) × (ms)) (R : ((Int32) × (Int32) × (Int32) × (Int32) × (Int32) × (ms)) → Prop) (c : (Int32 → Int32 → Int32 → Int32 → ms → Prop) × (ms → Prop)) => b_putSections_53 y.1 y.2.1 y.2.2.1 y.2.2.2.1 y.2.2.2.2.1 y.2.2.2.2.2 c.1 (fun z0 z1 z2 z3 z4 z5 => R (z0, z1, z2, z3, z4, z5)) c.2) (x1, x2, x3, x4, x5, S) (R38, K) :=
  ⟨fun ⟨I, μ, h0, hs⟩ => ⟨fun t => I t.1 t.2.1 t.2.2.1 t.2.2.2.1 t.2.2.2.2.1 t.2.2.2.2.2, fun t => μ t.1 t.2.1 t.2.2.1 t.2.2.2.1 t.2.2.2.2.1 t.2.2.2.2.2, h0, fun t ht => hs _ _ _ _ _ _ ht⟩, fun ⟨I, μ, h0, hs⟩ => ⟨fun y0 y1 y2 y3 y4 y5 => I (y0, y1, y2, y3, y4, y5), fun y0 y1 y2 y3 y4 y5 => μ (y0, y1, y2, y3, y4, y5), h0, fun y0 y1 y2 y3 y4 y5 hy => hs (y0, y1, y2, y3, y4, y5) hy⟩⟩
set_option maxHeartbeats 1000000 in
theorem d_e_putSections_53 {x1 : Int32} {x2 : Int32} {x3 : Int32} {x4 : Int32} {x5 : Int32} {S : ms} {R38 : Int32 → Int32 → Int32 → Int32 → ms → Prop} {K : ms → Prop} (h : e_putSections_53 x1 x2 x3 x4 x5 S R38 K) {Q : Prop} (k_R38 : ∀ (a0 : Int32) (a1 : Int32) (a2 : Int32) (a3 : Int32) (a4 : ms), R38 a0 a1 a2 a3 a4 → (∀ (R38' : Int32 → Int32 → Int32 → Int32 → ms → Prop) (K' : ms → Prop), e_putSections_53 x1 x2 x3 x4 x5 S R38' K' ↔ R38' a0 a1 a2 a3 a4) → Q) (k_K : ∀ (a0 : ms), K a0 → (∀ (R38' : Int32 → Int32 → Int32 → Int32 → ms → Prop) (K' : ms → Prop), e_putSections_53 x1 x2 x3 x4 x5 S R38' K' ↔ K' a0) → Q) : Q := by
  obtain ⟨o, ho, hoc, hi⟩ := lp_det (C := (Int32 → Int32 → Int32 → Int32 → ms → Prop) × (ms → Prop)) (b := (fun (y : (Int32) × (Int32) × (Int32) × (Int32) × (Int32) × (ms)) (R : ((Int32) × (Int32) × (Int32) × (Int32) × (Int32) × (ms)) → Prop) (c : (Int32 → Int32 → Int32 → Int32 → ms → Prop) × (ms → Prop)) => b_putSections_53 y.1 y.2.1 y.2.2.1 y.2.2.2.1 y.2.2.2.2.1 y.2.2.2.2.2 c.1 (fun z0 z1 z2 z3 z4 z5 => R (z0, z1, z2, z3, z4, z5)) c.2)) (O := (fun (o : ((Int32 → Int32 → Int32 → Int32 → ms → Prop) × (ms → Prop)) → Prop) => (∃ (a0 : Int32) (a1 : Int32) (a2 : Int32) (a3 : Int32) (a4 : ms), o = fun c => c.1 a0 a1 a2 a3 a4) ∨ (∃ (a0 : ms), o = fun c => c.2 a0))) (fun y R c hy => d_b_putSections_53 hy (fun a0 a1 a2 a3 a4 ha ia => Or.inr ⟨(fun c => c.1 a0 a1 a2 a3 a4), Or.inl ⟨a0, a1, a2, a3, a4, rfl⟩, ha, fun R' c' => ia c'.1 (fun z0 z1 z2 z3 z4 z5 => R' (z0, z1, z2, z3, z4, z5)) c'.2⟩) (fun a0 a1 a2 a3 a4 a5 ha ia => Or.inl ⟨(a0, a1, a2, a3, a4, a5), ha, fun R' c' => ia c'.1 (fun z0 z1 z2 z3 z4 z5 => R' (z0, z1, z2, z3, z4, z5)) c'.2⟩) (fun a0 ha ia => Or.inr ⟨(fun c => c.2 a0), Or.inr (⟨a0, rfl⟩), ha, fun R' c' => ia c'.1 (fun z0 z1 z2 z3 z4 z5 => R' (z0, z1, z2, z3, z4, z5)) c'.2⟩)) (l_e_putSections_53.mp h)
  rcases ho with ⟨a0, a1, a2, a3, a4, rfl⟩ | ⟨a0, rfl⟩
  · exact k_R38 _ _ _ _ _ hoc (fun R38' K' => Iff.trans l_e_putSections_53 (hi (R38', K')))
  · exact k_K _ hoc (fun R38' K' => Iff.trans l_e_putSections_53 (hi (R38', K')))
theorem v_e_putSections_53 {x1 : Int32} {x2 : Int32} {x3 : Int32} {x4 : Int32} {x5 : Int32} {S : ms} {R38 : Int32 → Int32 → Int32 → Int32 → ms → Prop} {K : ms → Prop} (h : e_putSections_53 x1 x2 x3 x4 x5 S R38 K) {G : Prop} (Inv : Int32 → ms → Prop) (h0 : Inv x5 S) (hs : ∀ (yx5 : Int32) (yS : ms) (R : Int32 → Int32 → Int32 → Int32 → Int32 → ms → Prop), Inv yx5 yS → b_putSections_53 x1 x2 x3 x4 yx5 yS R38 R K → (∃ (zx5 : Int32) (zS : ms), R x1 x2 x3 x4 zx5 zS ∧ Inv zx5 zS) ∨ G) : G := by
  obtain ⟨I, μ, i0, is⟩ := h
  have go : ∀ (n : Nat) (yx5 : Int32) (yS : ms), μ x1 x2 x3 x4 yx5 yS < n → I x1 x2 x3 x4 yx5 yS → Inv yx5 yS → G := by
    intro n
    induction n with
    | zero => intro yx5 yS hy; exact absurd hy (Nat.not_lt_zero _)
    | succ n ih =>
      intro yx5 yS hy hI hV
      rcases hs yx5 yS _ hV (is x1 x2 x3 x4 yx5 yS hI) with ⟨zx5, zS, ⟨hz, hm⟩, hv⟩ | g
      · exact ih zx5 zS (Nat.lt_of_lt_of_le hm (Nat.le_of_lt_succ hy)) hz hv
      · exact g
  exact go _ x5 S (Nat.lt_succ_self _) i0 h0
theorem r_e_putSections_53 {x1 : Int32} {x2 : Int32} {x3 : Int32} {x4 : Int32} {x5 : Int32} {S : ms} {R38 : Int32 → Int32 → Int32 → Int32 → ms → Prop} {K : ms → Prop} (h : e_putSections_53 x1 x2 x3 x4 x5 S R38 K) : b_putSections_53 x1 x2 x3 x4 x5 S R38 (fun zx1 zx2 zx3 zx4 zx5 zS => e_putSections_53 zx1 zx2 zx3 zx4 zx5 zS R38 K) K := by
  obtain ⟨I, μ, i0, is⟩ := h
  exact d_b_putSections_53 (is x1 x2 x3 x4 x5 S i0) (fun a0 a1 a2 a3 a4 ha ia => (ia _ _ _).mpr ha) (fun a0 a1 a2 a3 a4 a5 ha ia => (ia _ _ _).mpr ⟨I, μ, ha.1, is⟩) (fun a0 ha ia => (ia _ _ _).mpr ha)
set_option maxHeartbeats 1000000 in
theorem d_b_putSections_38 {x1 : Int32} {x2 : Int32} {x3 : Int32} {x4 : Int32} {S : ms} {R38 : Int32 → Int32 → Int32 → Int32 → ms → Prop} {K : ms → Prop} (h : b_putSections_38 x1 x2 x3 x4 S R38 K) {Q : Prop} (k_R38 : ∀ (a0 : Int32) (a1 : Int32) (a2 : Int32) (a3 : Int32) (a4 : ms), R38 a0 a1 a2 a3 a4 → (∀ (R38' : Int32 → Int32 → Int32 → Int32 → ms → Prop) (K' : ms → Prop), b_putSections_38 x1 x2 x3 x4 S R38' K' ↔ R38' a0 a1 a2 a3 a4) → Q) (k_K : ∀ (a0 : ms), K a0 → (∀ (R38' : Int32 → Int32 → Int32 → Int32 → ms → Prop) (K' : ms → Prop), b_putSections_38 x1 x2 x3 x4 S R38' K' ↔ K' a0) → Q) : Q := by
  unfold b_putSections_38 at h
  refine dt_p h (fun c_1 h_2 => ?_) (fun c_1 h_2 => ?_)
  ·
    refine d_p_mark h_2 (fun S98 h_4 i_3 => ?_)
    refine d_p_putTwo h_4 (fun S108 h_6 i_5 => ?_)
    refine d_p_put h_6 (fun S114 h_8 i_7 => ?_)
    refine d_p_putTwo h_8 (fun S122 h_10 i_9 => ?_)
    refine d_p_putTwo h_10 (fun S130 h_12 i_11 => ?_)
    refine d_p_put h_12 (fun S135 h_14 i_13 => ?_)
    exact d_e_putSections_141 h_14 (fun a0 h_16 i_15 => k_K a0 h_16 (fun _ _ => Iff.trans (dt_1 c_1 (fun n => n c_1)) (Iff.trans (i_3 _) (Iff.trans (i_5 _) (Iff.trans (i_7 _) (Iff.trans (i_9 _) (Iff.trans (i_11 _) (Iff.trans (i_13 _) (i_15 _)))))))))
  ·
    refine d_p_put h_2 (fun S47 h_18 i_17 => ?_)
    exact d_e_putSections_53 h_18 (fun a0 a1 a2 a3 a4 h_20 i_19 => k_R38 a0 a1 a2 a3 a4 h_20 (fun _ _ => Iff.trans (dt_2 c_1 c_1) (Iff.trans (i_17 _) (i_19 _ _)))) (fun a0 h_22 i_21 => k_K a0 h_22 (fun _ _ => Iff.trans (dt_2 c_1 c_1) (Iff.trans (i_17 _) (i_21 _ _))))
theorem l_e_putSections_38  {x1 : Int32} {x2 : Int32} {x3 : Int32} {x4 : Int32} {S : ms} {K : ms → Prop} : e_putSections_38 x1 x2 x3 x4 S K ↔ lpE (C := (ms → Prop)) (fun (y : (Int32) × (Int32) × (Int32) × (Int32) × (ms)) (R : ((Int32) × (Int32) × (Int32) × (Int32) × (ms)) → Prop) (c : (ms → Prop)) => b_putSections_38 y.1 y.2.1 y.2.2.1 y.2.2.2.1 y.2.2.2.2 (fun z0 z1 z2 z3 z4 => R (z0, z1, z2, z3, z4)) c) (x1, x2, x3, x4, S) K :=
  ⟨fun ⟨I, μ, h0, hs⟩ => ⟨fun t => I t.1 t.2.1 t.2.2.1 t.2.2.2.1 t.2.2.2.2, fun t => μ t.1 t.2.1 t.2.2.1 t.2.2.2.1 t.2.2.2.2, h0, fun t ht => hs _ _ _ _ _ ht⟩, fun ⟨I, μ, h0, hs⟩ => ⟨fun y0 y1 y2 y3 y4 => I (y0, y1, y2, y3, y4), fun y0 y1 y2 y3 y4 => μ (y0, y1, y2, y3, y4), h0, fun y0 y1 y2 y3 y4 hy => hs (y0, y1, y2, y3, y4) hy⟩⟩
set_option maxHeartbeats 1000000 in
theorem d_e_putSections_38 {x1 : Int32} {x2 : Int32} {x3 : Int32} {x4 : Int32} {S : ms} {K : ms → Prop} (h : e_putSections_38 x1 x2 x3 x4 S K) {Q : Prop} (k_K : ∀ (a0 : ms), K a0 → (∀ (K' : ms → Prop), e_putSections_38 x1 x2 x3 x4 S K' ↔ K' a0) → Q) : Q := by
  obtain ⟨o, ho, hoc, hi⟩ := lp_det (C := (ms → Prop)) (b := (fun (y : (Int32) × (Int32) × (Int32) × (Int32) × (ms)) (R : ((Int32) × (Int32) × (Int32) × (Int32) × (ms)) → Prop) (c : (ms → Prop)) => b_putSections_38 y.1 y.2.1 y.2.2.1 y.2.2.2.1 y.2.2.2.2 (fun z0 z1 z2 z3 z4 => R (z0, z1, z2, z3, z4)) c)) (O := (fun (o : ((ms → Prop)) → Prop) => (∃ (a0 : ms), o = fun c => c a0))) (fun y R c hy => d_b_putSections_38 hy (fun a0 a1 a2 a3 a4 ha ia => Or.inl ⟨(a0, a1, a2, a3, a4), ha, fun R' c' => ia (fun z0 z1 z2 z3 z4 => R' (z0, z1, z2, z3, z4)) c'⟩) (fun a0 ha ia => Or.inr ⟨(fun c => c a0), ⟨a0, rfl⟩, ha, fun R' c' => ia (fun z0 z1 z2 z3 z4 => R' (z0, z1, z2, z3, z4)) c'⟩)) (l_e_putSections_38.mp h)
  rcases ho with ⟨a0, rfl⟩
  · exact k_K _ hoc (fun K' => Iff.trans l_e_putSections_38 (hi K'))
theorem v_e_putSections_38 {x1 : Int32} {x2 : Int32} {x3 : Int32} {x4 : Int32} {S : ms} {K : ms → Prop} (h : e_putSections_38 x1 x2 x3 x4 S K) {G : Prop} (Inv : Int32 → ms → Prop) (h0 : Inv x4 S) (hs : ∀ (yx4 : Int32) (yS : ms) (R : Int32 → Int32 → Int32 → Int32 → ms → Prop), Inv yx4 yS → b_putSections_38 x1 x2 x3 yx4 yS R K → (∃ (zx4 : Int32) (zS : ms), R x1 x2 x3 zx4 zS ∧ Inv zx4 zS) ∨ G) : G := by
  obtain ⟨I, μ, i0, is⟩ := h
  have go : ∀ (n : Nat) (yx4 : Int32) (yS : ms), μ x1 x2 x3 yx4 yS < n → I x1 x2 x3 yx4 yS → Inv yx4 yS → G := by
    intro n
    induction n with
    | zero => intro yx4 yS hy; exact absurd hy (Nat.not_lt_zero _)
    | succ n ih =>
      intro yx4 yS hy hI hV
      rcases hs yx4 yS _ hV (is x1 x2 x3 yx4 yS hI) with ⟨zx4, zS, ⟨hz, hm⟩, hv⟩ | g
      · exact ih zx4 zS (Nat.lt_of_lt_of_le hm (Nat.le_of_lt_succ hy)) hz hv
      · exact g
  exact go _ x4 S (Nat.lt_succ_self _) i0 h0
theorem r_e_putSections_38 {x1 : Int32} {x2 : Int32} {x3 : Int32} {x4 : Int32} {S : ms} {K : ms → Prop} (h : e_putSections_38 x1 x2 x3 x4 S K) : b_putSections_38 x1 x2 x3 x4 S (fun zx1 zx2 zx3 zx4 zS => e_putSections_38 zx1 zx2 zx3 zx4 zS K) K := by
  obtain ⟨I, μ, i0, is⟩ := h
  exact d_b_putSections_38 (is x1 x2 x3 x4 S i0) (fun a0 a1 a2 a3 a4 ha ia => (ia _ _).mpr ⟨I, μ, ha.1, is⟩) (fun a0 ha ia => (ia _ _).mpr ha)
set_option maxHeartbeats 1000000 in
theorem d_b_putSections_17 {x1 : Int32} {x2 : Int32} {s0 : Int32} {S : ms} {K : ms → Prop} (h : b_putSections_17 x1 x2 s0 S K) {Q : Prop} (k_K : ∀ (a0 : ms), K a0 → (∀ (K' : ms → Prop), b_putSections_17 x1 x2 s0 S K' ↔ K' a0) → Q) : Q := by
  unfold b_putSections_17 at h
  refine d_p_mark h (fun S22 h_2 i_1 => ?_)
  refine d_p_putTwo h_2 (fun S32 h_4 i_3 => ?_)
  exact d_e_putSections_38 h_4 (fun a0 h_6 i_5 => k_K a0 h_6 (fun _ => Iff.trans (i_1 _) (Iff.trans (i_3 _) (i_5 _))))
set_option maxHeartbeats 1000000 in
theorem d_p_putSections {x1 : Int32} {S : ms} {K : ms → Prop} (h : p_putSections x1 S K) {Q : Prop} (k_K : ∀ (a0 : ms), K a0 → (∀ (K' : ms → Prop), p_putSections x1 S K' ↔ K' a0) → Q) : Q := by
  unfold p_putSections at h
  refine dt_n (And.right h) (fun c_1 h_2 => ?_) (fun c_1 h_2 => ?_)
  ·
    exact d_b_putSections_17 h_2 (fun a0 h_4 i_3 => k_K a0 h_4 (fun _ => Iff.trans (dt_a (And.left h)) (Iff.trans (dt_1 c_1 c_1) (i_3 _))))
  ·
    exact d_b_putSections_17 h_2 (fun a0 h_6 i_5 => k_K a0 h_6 (fun _ => Iff.trans (dt_a (And.left h)) (Iff.trans (dt_2 (fun n => n c_1) c_1) (i_5 _))))
set_option maxHeartbeats 1000000 in
theorem d_b_pack_321 {x3 : Int32} {x4 : Int32} {s0 : Int32} {s1 : Int32} {S : ms} {R306 : Int32 → Int32 → ms → Prop} {K : Int32 → ms → Prop} (h : b_pack_321 x3 x4 s0 s1 S R306 K) {Q : Prop} (k_R306 : ∀ (a0 : Int32) (a1 : Int32) (a2 : ms), R306 a0 a1 a2 → (∀ (R306' : Int32 → Int32 → ms → Prop) (K' : Int32 → ms → Prop), b_pack_321 x3 x4 s0 s1 S R306' K' ↔ R306' a0 a1 a2) → Q) (k_K : ∀ (a0 : Int32) (a1 : ms), K a0 a1 → (∀ (R306' : Int32 → Int32 → ms → Prop) (K' : Int32 → ms → Prop), b_pack_321 x3 x4 s0 s1 S R306' K' ↔ K' a0 a1) → Q) : Q := by
  unfold b_pack_321 at h
  refine dt_p h (fun c_1 h_2 => ?_) (fun c_1 h_2 => ?_)
  ·
    refine d_p_mark h_2 (fun S355 h_4 i_3 => ?_)
    refine d_p_putSections h_4 (fun S360 h_6 i_5 => ?_)
    refine d_p_units h_6 (fun S366 h_8 i_7 => ?_)
    refine d_p_fillUp h_8 (fun S370 h_10 i_9 => ?_)
    refine d_p_mark h_10 (fun S377 h_12 i_11 => ?_)
    exact k_K _ _ h_12 (fun _ _ => Iff.trans (dt_1 c_1 (fun n => n c_1)) (Iff.trans (i_3 _) (Iff.trans (i_5 _) (Iff.trans (i_7 _) (Iff.trans (i_9 _) (i_11 _))))))
  ·
    refine d_p_makeCode h_2 (fun S327 h_14 i_13 => ?_)
    exact k_R306 _ _ _ h_14 (fun _ _ => Iff.trans (dt_2 c_1 c_1) (i_13 _))
set_option maxHeartbeats 1000000 in
theorem d_b_pack_306 {x3 : Int32} {x4 : Int32} {S : ms} {R306 : Int32 → Int32 → ms → Prop} {K : Int32 → ms → Prop} (h : b_pack_306 x3 x4 S R306 K) {Q : Prop} (k_R306 : ∀ (a0 : Int32) (a1 : Int32) (a2 : ms), R306 a0 a1 a2 → (∀ (R306' : Int32 → Int32 → ms → Prop) (K' : Int32 → ms → Prop), b_pack_306 x3 x4 S R306' K' ↔ R306' a0 a1 a2) → Q) (k_K : ∀ (a0 : Int32) (a1 : ms), K a0 a1 → (∀ (R306' : Int32 → Int32 → ms → Prop) (K' : Int32 → ms → Prop), b_pack_306 x3 x4 S R306' K' ↔ K' a0 a1) → Q) : Q := by
  unfold b_pack_306 at h
  refine dt_n h (fun c_1 h_2 => ?_) (fun c_1 h_2 => ?_)
  ·
    exact d_b_pack_321 h_2 (fun a0 a1 a2 h_4 i_3 => k_R306 a0 a1 a2 h_4 (fun _ _ => Iff.trans (dt_1 c_1 c_1) (i_3 _ _))) (fun a0 a1 h_6 i_5 => k_K a0 a1 h_6 (fun _ _ => Iff.trans (dt_1 c_1 c_1) (i_5 _ _)))
  ·
    exact d_b_pack_321 h_2 (fun a0 a1 a2 h_8 i_7 => k_R306 a0 a1 a2 h_8 (fun _ _ => Iff.trans (dt_2 (fun n => n c_1) c_1) (i_7 _ _))) (fun a0 a1 h_10 i_9 => k_K a0 a1 h_10 (fun _ _ => Iff.trans (dt_2 (fun n => n c_1) c_1) (i_9 _ _)))
theorem l_e_pack_306  {x3 : Int32} {x4 : Int32} {S : ms} {K : Int32 → ms → Prop} : e_pack_306 x3 x4 S K ↔ lpE (C := (Int32 → ms → Prop)) (fun (y : (Int32) × (Int32) × (ms)) (R : ((Int32) × (Int32) × (ms)) → Prop) (c : (Int32 → ms → Prop)) => b_pack_306 y.1 y.2.1 y.2.2 (fun z0 z1 z2 => R (z0, z1, z2)) c) (x3, x4, S) K :=
  ⟨fun ⟨I, μ, h0, hs⟩ => ⟨fun t => I t.1 t.2.1 t.2.2, fun t => μ t.1 t.2.1 t.2.2, h0, fun t ht => hs _ _ _ ht⟩, fun ⟨I, μ, h0, hs⟩ => ⟨fun y0 y1 y2 => I (y0, y1, y2), fun y0 y1 y2 => μ (y0, y1, y2), h0, fun y0 y1 y2 hy => hs (y0, y1, y2) hy⟩⟩
set_option maxHeartbeats 1000000 in
theorem d_e_pack_306 {x3 : Int32} {x4 : Int32} {S : ms} {K : Int32 → ms → Prop} (h : e_pack_306 x3 x4 S K) {Q : Prop} (k_K : ∀ (a0 : Int32) (a1 : ms), K a0 a1 → (∀ (K' : Int32 → ms → Prop), e_pack_306 x3 x4 S K' ↔ K' a0 a1) → Q) : Q := by
  obtain ⟨o, ho, hoc, hi⟩ := lp_det (C := (Int32 → ms → Prop)) (b := (fun (y : (Int32) × (Int32) × (ms)) (R : ((Int32) × (Int32) × (ms)) → Prop) (c : (Int32 → ms → Prop)) => b_pack_306 y.1 y.2.1 y.2.2 (fun z0 z1 z2 => R (z0, z1, z2)) c)) (O := (fun (o : ((Int32 → ms → Prop)) → Prop) => (∃ (a0 : Int32) (a1 : ms), o = fun c => c a0 a1))) (fun y R c hy => d_b_pack_306 hy (fun a0 a1 a2 ha ia => Or.inl ⟨(a0, a1, a2), ha, fun R' c' => ia (fun z0 z1 z2 => R' (z0, z1, z2)) c'⟩) (fun a0 a1 ha ia => Or.inr ⟨(fun c => c a0 a1), ⟨a0, a1, rfl⟩, ha, fun R' c' => ia (fun z0 z1 z2 => R' (z0, z1, z2)) c'⟩)) (l_e_pack_306.mp h)
  rcases ho with ⟨a0, a1, rfl⟩
  · exact k_K _ _ hoc (fun K' => Iff.trans l_e_pack_306 (hi K'))
theorem v_e_pack_306 {x3 : Int32} {x4 : Int32} {S : ms} {K : Int32 → ms → Prop} (h : e_pack_306 x3 x4 S K) {G : Prop} (Inv : Int32 → ms → Prop) (h0 : Inv x4 S) (hs : ∀ (yx4 : Int32) (yS : ms) (R : Int32 → Int32 → ms → Prop), Inv yx4 yS → b_pack_306 x3 yx4 yS R K → (∃ (zx4 : Int32) (zS : ms), R x3 zx4 zS ∧ Inv zx4 zS) ∨ G) : G := by
  obtain ⟨I, μ, i0, is⟩ := h
  have go : ∀ (n : Nat) (yx4 : Int32) (yS : ms), μ x3 yx4 yS < n → I x3 yx4 yS → Inv yx4 yS → G := by
    intro n
    induction n with
    | zero => intro yx4 yS hy; exact absurd hy (Nat.not_lt_zero _)
    | succ n ih =>
      intro yx4 yS hy hI hV
      rcases hs yx4 yS _ hV (is x3 yx4 yS hI) with ⟨zx4, zS, ⟨hz, hm⟩, hv⟩ | g
      · exact ih zx4 zS (Nat.lt_of_lt_of_le hm (Nat.le_of_lt_succ hy)) hz hv
      · exact g
  exact go _ x4 S (Nat.lt_succ_self _) i0 h0
theorem r_e_pack_306 {x3 : Int32} {x4 : Int32} {S : ms} {K : Int32 → ms → Prop} (h : e_pack_306 x3 x4 S K) : b_pack_306 x3 x4 S (fun zx3 zx4 zS => e_pack_306 zx3 zx4 zS K) K := by
  obtain ⟨I, μ, i0, is⟩ := h
  exact d_b_pack_306 (is x3 x4 S i0) (fun a0 a1 a2 ha ia => (ia _ _).mpr ⟨I, μ, ha.1, is⟩) (fun a0 a1 ha ia => (ia _ _).mpr ha)
set_option maxHeartbeats 1000000 in
theorem d_b_pack_275 {x3 : Int32} {x4 : Int32} {S : ms} {R275 : Int32 → Int32 → ms → Prop} {K : Int32 → ms → Prop} (h : b_pack_275 x3 x4 S R275 K) {Q : Prop} (k_R275 : ∀ (a0 : Int32) (a1 : Int32) (a2 : ms), R275 a0 a1 a2 → (∀ (R275' : Int32 → Int32 → ms → Prop) (K' : Int32 → ms → Prop), b_pack_275 x3 x4 S R275' K' ↔ R275' a0 a1 a2) → Q) (k_K : ∀ (a0 : Int32) (a1 : ms), K a0 a1 → (∀ (R275' : Int32 → Int32 → ms → Prop) (K' : Int32 → ms → Prop), b_pack_275 x3 x4 S R275' K' ↔ K' a0 a1) → Q) : Q := by
  unfold b_pack_275 at h
  refine dt_p h (fun c_1 h_2 => ?_) (fun c_1 h_2 => ?_)
  ·
    refine d_p_units h_2 (fun S300 h_4 i_3 => ?_)
    exact d_e_pack_306 h_4 (fun a0 a1 h_6 i_5 => k_K a0 a1 h_6 (fun _ _ => Iff.trans (dt_1 c_1 (fun n => n c_1)) (Iff.trans (i_3 _) (i_5 _))))
  ·
    exact k_R275 _ _ _ (And.right h_2) (fun _ _ => Iff.trans (dt_2 c_1 c_1) (dt_a (And.left h_2)))
theorem l_e_pack_275  {x3 : Int32} {x4 : Int32} {S : ms} {K : Int32 → ms → Prop} : e_pack_275 x3 x4 S K ↔ lpE (C := (Int32 → ms → Prop)) (fun (y : (Int32) × (Int32) × (ms)) (R : ((Int32) × (Int32) × (ms)) → Prop) (c : (Int32 → ms → Prop)) => b_pack_275 y.1 y.2.1 y.2.2 (fun z0 z1 z2 => R (z0, z1, z2)) c) (x3, x4, S) K :=
  ⟨fun ⟨I, μ, h0, hs⟩ => ⟨fun t => I t.1 t.2.1 t.2.2, fun t => μ t.1 t.2.1 t.2.2, h0, fun t ht => hs _ _ _ ht⟩, fun ⟨I, μ, h0, hs⟩ => ⟨fun y0 y1 y2 => I (y0, y1, y2), fun y0 y1 y2 => μ (y0, y1, y2), h0, fun y0 y1 y2 hy => hs (y0, y1, y2) hy⟩⟩
set_option maxHeartbeats 1000000 in
theorem d_e_pack_275 {x3 : Int32} {x4 : Int32} {S : ms} {K : Int32 → ms → Prop} (h : e_pack_275 x3 x4 S K) {Q : Prop} (k_K : ∀ (a0 : Int32) (a1 : ms), K a0 a1 → (∀ (K' : Int32 → ms → Prop), e_pack_275 x3 x4 S K' ↔ K' a0 a1) → Q) : Q := by
  obtain ⟨o, ho, hoc, hi⟩ := lp_det (C := (Int32 → ms → Prop)) (b := (fun (y : (Int32) × (Int32) × (ms)) (R : ((Int32) × (Int32) × (ms)) → Prop) (c : (Int32 → ms → Prop)) => b_pack_275 y.1 y.2.1 y.2.2 (fun z0 z1 z2 => R (z0, z1, z2)) c)) (O := (fun (o : ((Int32 → ms → Prop)) → Prop) => (∃ (a0 : Int32) (a1 : ms), o = fun c => c a0 a1))) (fun y R c hy => d_b_pack_275 hy (fun a0 a1 a2 ha ia => Or.inl ⟨(a0, a1, a2), ha, fun R' c' => ia (fun z0 z1 z2 => R' (z0, z1, z2)) c'⟩) (fun a0 a1 ha ia => Or.inr ⟨(fun c => c a0 a1), ⟨a0, a1, rfl⟩, ha, fun R' c' => ia (fun z0 z1 z2 => R' (z0, z1, z2)) c'⟩)) (l_e_pack_275.mp h)
  rcases ho with ⟨a0, a1, rfl⟩
  · exact k_K _ _ hoc (fun K' => Iff.trans l_e_pack_275 (hi K'))
theorem v_e_pack_275 {x3 : Int32} {x4 : Int32} {S : ms} {K : Int32 → ms → Prop} (h : e_pack_275 x3 x4 S K) {G : Prop} (Inv : Int32 → ms → Prop) (h0 : Inv x4 S) (hs : ∀ (yx4 : Int32) (yS : ms) (R : Int32 → Int32 → ms → Prop), Inv yx4 yS → b_pack_275 x3 yx4 yS R K → (∃ (zx4 : Int32) (zS : ms), R x3 zx4 zS ∧ Inv zx4 zS) ∨ G) : G := by
  obtain ⟨I, μ, i0, is⟩ := h
  have go : ∀ (n : Nat) (yx4 : Int32) (yS : ms), μ x3 yx4 yS < n → I x3 yx4 yS → Inv yx4 yS → G := by
    intro n
    induction n with
    | zero => intro yx4 yS hy; exact absurd hy (Nat.not_lt_zero _)
    | succ n ih =>
      intro yx4 yS hy hI hV
      rcases hs yx4 yS _ hV (is x3 yx4 yS hI) with ⟨zx4, zS, ⟨hz, hm⟩, hv⟩ | g
      · exact ih zx4 zS (Nat.lt_of_lt_of_le hm (Nat.le_of_lt_succ hy)) hz hv
      · exact g
  exact go _ x4 S (Nat.lt_succ_self _) i0 h0
theorem r_e_pack_275 {x3 : Int32} {x4 : Int32} {S : ms} {K : Int32 → ms → Prop} (h : e_pack_275 x3 x4 S K) : b_pack_275 x3 x4 S (fun zx3 zx4 zS => e_pack_275 zx3 zx4 zS K) K := by
  obtain ⟨I, μ, i0, is⟩ := h
  exact d_b_pack_275 (is x3 x4 S i0) (fun a0 a1 a2 ha ia => (ia _ _).mpr ⟨I, μ, ha.1, is⟩) (fun a0 a1 ha ia => (ia _ _).mpr ha)
set_option maxHeartbeats 1000000 in
theorem d_b_pack_225 {x3 : Int32} {x4 : Int32} {x5 : Int32} {x6 : Int32} {x7 : Int32} {S : ms} {R145 : Int32 → Int32 → ms → Prop} {R225 : Int32 → Int32 → Int32 → Int32 → Int32 → ms → Prop} {K : Int32 → ms → Prop} (h : b_pack_225 x3 x4 x5 x6 x7 S R145 R225 K) {Q : Prop} (k_R145 : ∀ (a0 : Int32) (a1 : Int32) (a2 : ms), R145 a0 a1 a2 → (∀ (R145' : Int32 → Int32 → ms → Prop) (R225' : Int32 → Int32 → Int32 → Int32 → Int32 → ms → Prop) (K' : Int32 → ms → Prop), b_pack_225 x3 x4 x5 x6 x7 S R145' R225' K' ↔ R145' a0 a1 a2) → Q) (k_R225 : ∀ (a0 : Int32) (a1 : Int32) (a2 : Int32) (a3 : Int32) (a4 : Int32) (a5 : ms), R225 a0 a1 a2 a3 a4 a5 → (∀ (R145' : Int32 → Int32 → ms → Prop) (R225' : Int32 → Int32 → Int32 → Int32 → Int32 → ms → Prop) (K' : Int32 → ms → Prop), b_pack_225 x3 x4 x5 x6 x7 S R145' R225' K' ↔ R225' a0 a1 a2 a3 a4 a5) → Q) (k_K : ∀ (a0 : Int32) (a1 : ms), K a0 a1 → (∀ (R145' : Int32 → Int32 → ms → Prop) (R225' : Int32 → Int32 → Int32 → Int32 → Int32 → ms → Prop) (K' : Int32 → ms → Prop), b_pack_225 x3 x4 x5 x6 x7 S R145' R225' K' ↔ K' a0 a1) → Q) : Q := by
  unfold b_pack_225 at h
  refine dt_p h (fun c_1 h_2 => ?_) (fun c_1 h_2 => ?_)
  ·
    exact k_R145 _ _ _ h_2 (fun _ _ _ => dt_1 c_1 (fun n => n c_1))
  ·
    refine d_p_makeLevels (And.right (And.right (And.right h_2))) (fun S257 h_4 i_3 => ?_)
    exact k_R225 _ _ _ _ _ _ h_4 (fun _ _ _ => Iff.trans (dt_2 c_1 c_1) (Iff.trans (dt_a (And.left h_2)) (Iff.trans (dt_a (And.left (And.right h_2))) (Iff.trans (dt_a (And.left (And.right (And.right h_2)))) (i_3 _)))))
theorem l_e_pack_225  {x3 : Int32} {x4 : Int32} {x5 : Int32} {x6 : Int32} {x7 : Int32} {S : ms} {R145 : Int32 → Int32 → ms → Prop} {K : Int32 → ms → Prop} : e_pack_225 x3 x4 x5 x6 x7 S R145 K ↔ lpE (C := (Int32 → Int32 → ms → Prop) × (Int32 → ms → Prop)) (fun (y : (Int32) × (Int32) × (Int32) × (Int32) × (Int32) × (ms)) (R : ((Int32) × (Int32) × (Int32) × (Int32) × (Int32) × (ms)) → Prop) (c : (Int32 → Int32 → ms → Prop) × (Int32 → ms → Prop)) => b_pack_225 y.1 y.2.1 y.2.2.1 y.2.2.2.1 y.2.2.2.2.1 y.2.2.2.2.2 c.1 (fun z0 z1 z2 z3 z4 z5 => R (z0, z1, z2, z3, z4, z5)) c.2) (x3, x4, x5, x6, x7, S) (R145, K) :=
  ⟨fun ⟨I, μ, h0, hs⟩ => ⟨fun t => I t.1 t.2.1 t.2.2.1 t.2.2.2.1 t.2.2.2.2.1 t.2.2.2.2.2, fun t => μ t.1 t.2.1 t.2.2.1 t.2.2.2.1 t.2.2.2.2.1 t.2.2.2.2.2, h0, fun t ht => hs _ _ _ _ _ _ ht⟩, fun ⟨I, μ, h0, hs⟩ => ⟨fun y0 y1 y2 y3 y4 y5 => I (y0, y1, y2, y3, y4, y5), fun y0 y1 y2 y3 y4 y5 => μ (y0, y1, y2, y3, y4, y5), h0, fun y0 y1 y2 y3 y4 y5 hy => hs (y0, y1, y2, y3, y4, y5) hy⟩⟩
set_option maxHeartbeats 1000000 in
theorem d_e_pack_225 {x3 : Int32} {x4 : Int32} {x5 : Int32} {x6 : Int32} {x7 : Int32} {S : ms} {R145 : Int32 → Int32 → ms → Prop} {K : Int32 → ms → Prop} (h : e_pack_225 x3 x4 x5 x6 x7 S R145 K) {Q : Prop} (k_R145 : ∀ (a0 : Int32) (a1 : Int32) (a2 : ms), R145 a0 a1 a2 → (∀ (R145' : Int32 → Int32 → ms → Prop) (K' : Int32 → ms → Prop), e_pack_225 x3 x4 x5 x6 x7 S R145' K' ↔ R145' a0 a1 a2) → Q) (k_K : ∀ (a0 : Int32) (a1 : ms), K a0 a1 → (∀ (R145' : Int32 → Int32 → ms → Prop) (K' : Int32 → ms → Prop), e_pack_225 x3 x4 x5 x6 x7 S R145' K' ↔ K' a0 a1) → Q) : Q := by
  obtain ⟨o, ho, hoc, hi⟩ := lp_det (C := (Int32 → Int32 → ms → Prop) × (Int32 → ms → Prop)) (b := (fun (y : (Int32) × (Int32) × (Int32) × (Int32) × (Int32) × (ms)) (R : ((Int32) × (Int32) × (Int32) × (Int32) × (Int32) × (ms)) → Prop) (c : (Int32 → Int32 → ms → Prop) × (Int32 → ms → Prop)) => b_pack_225 y.1 y.2.1 y.2.2.1 y.2.2.2.1 y.2.2.2.2.1 y.2.2.2.2.2 c.1 (fun z0 z1 z2 z3 z4 z5 => R (z0, z1, z2, z3, z4, z5)) c.2)) (O := (fun (o : ((Int32 → Int32 → ms → Prop) × (Int32 → ms → Prop)) → Prop) => (∃ (a0 : Int32) (a1 : Int32) (a2 : ms), o = fun c => c.1 a0 a1 a2) ∨ (∃ (a0 : Int32) (a1 : ms), o = fun c => c.2 a0 a1))) (fun y R c hy => d_b_pack_225 hy (fun a0 a1 a2 ha ia => Or.inr ⟨(fun c => c.1 a0 a1 a2), Or.inl ⟨a0, a1, a2, rfl⟩, ha, fun R' c' => ia c'.1 (fun z0 z1 z2 z3 z4 z5 => R' (z0, z1, z2, z3, z4, z5)) c'.2⟩) (fun a0 a1 a2 a3 a4 a5 ha ia => Or.inl ⟨(a0, a1, a2, a3, a4, a5), ha, fun R' c' => ia c'.1 (fun z0 z1 z2 z3 z4 z5 => R' (z0, z1, z2, z3, z4, z5)) c'.2⟩) (fun a0 a1 ha ia => Or.inr ⟨(fun c => c.2 a0 a1), Or.inr (⟨a0, a1, rfl⟩), ha, fun R' c' => ia c'.1 (fun z0 z1 z2 z3 z4 z5 => R' (z0, z1, z2, z3, z4, z5)) c'.2⟩)) (l_e_pack_225.mp h)
  rcases ho with ⟨a0, a1, a2, rfl⟩ | ⟨a0, a1, rfl⟩
  · exact k_R145 _ _ _ hoc (fun R145' K' => Iff.trans l_e_pack_225 (hi (R145', K')))
  · exact k_K _ _ hoc (fun R145' K' => Iff.trans l_e_pack_225 (hi (R145', K')))
theorem v_e_pack_225 {x3 : Int32} {x4 : Int32} {x5 : Int32} {x6 : Int32} {x7 : Int32} {S : ms} {R145 : Int32 → Int32 → ms → Prop} {K : Int32 → ms → Prop} (h : e_pack_225 x3 x4 x5 x6 x7 S R145 K) {G : Prop} (Inv : Int32 → ms → Prop) (h0 : Inv x7 S) (hs : ∀ (yx7 : Int32) (yS : ms) (R : Int32 → Int32 → Int32 → Int32 → Int32 → ms → Prop), Inv yx7 yS → b_pack_225 x3 x4 x5 x6 yx7 yS R145 R K → (∃ (zx7 : Int32) (zS : ms), R x3 x4 x5 x6 zx7 zS ∧ Inv zx7 zS) ∨ G) : G := by
  obtain ⟨I, μ, i0, is⟩ := h
  have go : ∀ (n : Nat) (yx7 : Int32) (yS : ms), μ x3 x4 x5 x6 yx7 yS < n → I x3 x4 x5 x6 yx7 yS → Inv yx7 yS → G := by
    intro n
    induction n with
    | zero => intro yx7 yS hy; exact absurd hy (Nat.not_lt_zero _)
    | succ n ih =>
      intro yx7 yS hy hI hV
      rcases hs yx7 yS _ hV (is x3 x4 x5 x6 yx7 yS hI) with ⟨zx7, zS, ⟨hz, hm⟩, hv⟩ | g
      · exact ih zx7 zS (Nat.lt_of_lt_of_le hm (Nat.le_of_lt_succ hy)) hz hv
      · exact g
  exact go _ x7 S (Nat.lt_succ_self _) i0 h0
theorem r_e_pack_225 {x3 : Int32} {x4 : Int32} {x5 : Int32} {x6 : Int32} {x7 : Int32} {S : ms} {R145 : Int32 → Int32 → ms → Prop} {K : Int32 → ms → Prop} (h : e_pack_225 x3 x4 x5 x6 x7 S R145 K) : b_pack_225 x3 x4 x5 x6 x7 S R145 (fun zx3 zx4 zx5 zx6 zx7 zS => e_pack_225 zx3 zx4 zx5 zx6 zx7 zS R145 K) K := by
  obtain ⟨I, μ, i0, is⟩ := h
  exact d_b_pack_225 (is x3 x4 x5 x6 x7 S i0) (fun a0 a1 a2 ha ia => (ia _ _ _).mpr ha) (fun a0 a1 a2 a3 a4 a5 ha ia => (ia _ _ _).mpr ⟨I, μ, ha.1, is⟩) (fun a0 a1 ha ia => (ia _ _ _).mpr ha)
set_option maxHeartbeats 1000000 in
theorem d_b_pack_220 {x3 : Int32} {x4 : Int32} {x5 : Int32} {s0 : Int32} {S : ms} {R145 : Int32 → Int32 → ms → Prop} {K : Int32 → ms → Prop} (h : b_pack_220 x3 x4 x5 s0 S R145 K) {Q : Prop} (k_R145 : ∀ (a0 : Int32) (a1 : Int32) (a2 : ms), R145 a0 a1 a2 → (∀ (R145' : Int32 → Int32 → ms → Prop) (K' : Int32 → ms → Prop), b_pack_220 x3 x4 x5 s0 S R145' K' ↔ R145' a0 a1 a2) → Q) (k_K : ∀ (a0 : Int32) (a1 : ms), K a0 a1 → (∀ (R145' : Int32 → Int32 → ms → Prop) (K' : Int32 → ms → Prop), b_pack_220 x3 x4 x5 s0 S R145' K' ↔ K' a0 a1) → Q) : Q := by
  unfold b_pack_220 at h
  exact d_e_pack_225 h (fun a0 a1 a2 h_2 i_1 => k_R145 a0 a1 a2 h_2 (fun _ _ => i_1 _ _)) (fun a0 a1 h_4 i_3 => k_K a0 a1 h_4 (fun _ _ => i_3 _ _))
set_option maxHeartbeats 1000000 in
theorem d_b_pack_189 {x3 : Int32} {x4 : Int32} {s0 : Int32} {S : ms} {R145 : Int32 → Int32 → ms → Prop} {K : Int32 → ms → Prop} (h : b_pack_189 x3 x4 s0 S R145 K) {Q : Prop} (k_R145 : ∀ (a0 : Int32) (a1 : Int32) (a2 : ms), R145 a0 a1 a2 → (∀ (R145' : Int32 → Int32 → ms → Prop) (K' : Int32 → ms → Prop), b_pack_189 x3 x4 s0 S R145' K' ↔ R145' a0 a1 a2) → Q) (k_K : ∀ (a0 : Int32) (a1 : ms), K a0 a1 → (∀ (R145' : Int32 → Int32 → ms → Prop) (K' : Int32 → ms → Prop), b_pack_189 x3 x4 s0 S R145' K' ↔ K' a0 a1) → Q) : Q := by
  unfold b_pack_189 at h
  refine dt_n h (fun c_1 h_2 => ?_) (fun c_1 h_2 => ?_)
  ·
    exact d_b_pack_220 (And.right h_2) (fun a0 a1 a2 h_4 i_3 => k_R145 a0 a1 a2 h_4 (fun _ _ => Iff.trans (dt_1 c_1 c_1) (Iff.trans (dt_a (And.left h_2)) (i_3 _ _)))) (fun a0 a1 h_6 i_5 => k_K a0 a1 h_6 (fun _ _ => Iff.trans (dt_1 c_1 c_1) (Iff.trans (dt_a (And.left h_2)) (i_5 _ _))))
  ·
    refine d_p_layerHigh h_2 (fun v202 S202 h_8 i_7 => ?_)
    refine d_p_upward h_8 (fun v207 h_10 i_9 => ?_)
    exact d_b_pack_220 h_10 (fun a0 a1 a2 h_12 i_11 => k_R145 a0 a1 a2 h_12 (fun _ _ => Iff.trans (dt_2 (fun n => n c_1) c_1) (Iff.trans (i_7 _) (Iff.trans (i_9 _) (i_11 _ _))))) (fun a0 a1 h_14 i_13 => k_K a0 a1 h_14 (fun _ _ => Iff.trans (dt_2 (fun n => n c_1) c_1) (Iff.trans (i_7 _) (Iff.trans (i_9 _) (i_13 _ _)))))
set_option maxHeartbeats 1000000 in
theorem d_b_pack_145 {x3 : Int32} {x4 : Int32} {S : ms} {R145 : Int32 → Int32 → ms → Prop} {K : Int32 → ms → Prop} (h : b_pack_145 x3 x4 S R145 K) {Q : Prop} (k_R145 : ∀ (a0 : Int32) (a1 : Int32) (a2 : ms), R145 a0 a1 a2 → (∀ (R145' : Int32 → Int32 → ms → Prop) (K' : Int32 → ms → Prop), b_pack_145 x3 x4 S R145' K' ↔ R145' a0 a1 a2) → Q) (k_K : ∀ (a0 : Int32) (a1 : ms), K a0 a1 → (∀ (R145' : Int32 → Int32 → ms → Prop) (K' : Int32 → ms → Prop), b_pack_145 x3 x4 S R145' K' ↔ K' a0 a1) → Q) : Q := by
  unfold b_pack_145 at h
  refine dt_p h (fun c_1 h_2 => ?_) (fun c_1 h_2 => ?_)
  ·
    exact d_e_pack_275 h_2 (fun a0 a1 h_4 i_3 => k_K a0 a1 h_4 (fun _ _ => Iff.trans (dt_1 c_1 (fun n => n c_1)) (i_3 _)))
  ·
    refine d_p_makeRaster h_2 (fun S157 h_6 i_5 => ?_)
    refine dt_n h_6 (fun c_7 h_8 => ?_) (fun c_7 h_8 => ?_)
    ·
      exact d_b_pack_189 (And.right h_8) (fun a0 a1 a2 h_10 i_9 => k_R145 a0 a1 a2 h_10 (fun _ _ => Iff.trans (dt_2 c_1 c_1) (Iff.trans (i_5 _) (Iff.trans (dt_1 c_7 c_7) (Iff.trans (dt_a (And.left h_8)) (i_9 _ _)))))) (fun a0 a1 h_12 i_11 => k_K a0 a1 h_12 (fun _ _ => Iff.trans (dt_2 c_1 c_1) (Iff.trans (i_5 _) (Iff.trans (dt_1 c_7 c_7) (Iff.trans (dt_a (And.left h_8)) (i_11 _ _))))))
    ·
      refine d_p_layerWide h_8 (fun v171 S171 h_14 i_13 => ?_)
      refine d_p_upward h_14 (fun v176 h_16 i_15 => ?_)
      exact d_b_pack_189 h_16 (fun a0 a1 a2 h_18 i_17 => k_R145 a0 a1 a2 h_18 (fun _ _ => Iff.trans (dt_2 c_1 c_1) (Iff.trans (i_5 _) (Iff.trans (dt_2 (fun n => n c_7) c_7) (Iff.trans (i_13 _) (Iff.trans (i_15 _) (i_17 _ _))))))) (fun a0 a1 h_20 i_19 => k_K a0 a1 h_20 (fun _ _ => Iff.trans (dt_2 c_1 c_1) (Iff.trans (i_5 _) (Iff.trans (dt_2 (fun n => n c_7) c_7) (Iff.trans (i_13 _) (Iff.trans (i_15 _) (i_19 _ _)))))))
theorem l_e_pack_145  {x3 : Int32} {x4 : Int32} {S : ms} {K : Int32 → ms → Prop} : e_pack_145 x3 x4 S K ↔ lpE (C := (Int32 → ms → Prop)) (fun (y : (Int32) × (Int32) × (ms)) (R : ((Int32) × (Int32) × (ms)) → Prop) (c : (Int32 → ms → Prop)) => b_pack_145 y.1 y.2.1 y.2.2 (fun z0 z1 z2 => R (z0, z1, z2)) c) (x3, x4, S) K :=
  ⟨fun ⟨I, μ, h0, hs⟩ => ⟨fun t => I t.1 t.2.1 t.2.2, fun t => μ t.1 t.2.1 t.2.2, h0, fun t ht => hs _ _ _ ht⟩, fun ⟨I, μ, h0, hs⟩ => ⟨fun y0 y1 y2 => I (y0, y1, y2), fun y0 y1 y2 => μ (y0, y1, y2), h0, fun y0 y1 y2 hy => hs (y0, y1, y2) hy⟩⟩
set_option maxHeartbeats 1000000 in
theorem d_e_pack_145 {x3 : Int32} {x4 : Int32} {S : ms} {K : Int32 → ms → Prop} (h : e_pack_145 x3 x4 S K) {Q : Prop} (k_K : ∀ (a0 : Int32) (a1 : ms), K a0 a1 → (∀ (K' : Int32 → ms → Prop), e_pack_145 x3 x4 S K' ↔ K' a0 a1) → Q) : Q := by
  obtain ⟨o, ho, hoc, hi⟩ := lp_det (C := (Int32 → ms → Prop)) (b := (fun (y : (Int32) × (Int32) × (ms)) (R : ((Int32) × (Int32) × (ms)) → Prop) (c : (Int32 → ms → Prop)) => b_pack_145 y.1 y.2.1 y.2.2 (fun z0 z1 z2 => R (z0, z1, z2)) c)) (O := (fun (o : ((Int32 → ms → Prop)) → Prop) => (∃ (a0 : Int32) (a1 : ms), o = fun c => c a0 a1))) (fun y R c hy => d_b_pack_145 hy (fun a0 a1 a2 ha ia => Or.inl ⟨(a0, a1, a2), ha, fun R' c' => ia (fun z0 z1 z2 => R' (z0, z1, z2)) c'⟩) (fun a0 a1 ha ia => Or.inr ⟨(fun c => c a0 a1), ⟨a0, a1, rfl⟩, ha, fun R' c' => ia (fun z0 z1 z2 => R' (z0, z1, z2)) c'⟩)) (l_e_pack_145.mp h)
  rcases ho with ⟨a0, a1, rfl⟩
  · exact k_K _ _ hoc (fun K' => Iff.trans l_e_pack_145 (hi K'))
theorem v_e_pack_145 {x3 : Int32} {x4 : Int32} {S : ms} {K : Int32 → ms → Prop} (h : e_pack_145 x3 x4 S K) {G : Prop} (Inv : Int32 → ms → Prop) (h0 : Inv x4 S) (hs : ∀ (yx4 : Int32) (yS : ms) (R : Int32 → Int32 → ms → Prop), Inv yx4 yS → b_pack_145 x3 yx4 yS R K → (∃ (zx4 : Int32) (zS : ms), R x3 zx4 zS ∧ Inv zx4 zS) ∨ G) : G := by
  obtain ⟨I, μ, i0, is⟩ := h
  have go : ∀ (n : Nat) (yx4 : Int32) (yS : ms), μ x3 yx4 yS < n → I x3 yx4 yS → Inv yx4 yS → G := by
    intro n
    induction n with
    | zero => intro yx4 yS hy; exact absurd hy (Nat.not_lt_zero _)
    | succ n ih =>
      intro yx4 yS hy hI hV
      rcases hs yx4 yS _ hV (is x3 yx4 yS hI) with ⟨zx4, zS, ⟨hz, hm⟩, hv⟩ | g
      · exact ih zx4 zS (Nat.lt_of_lt_of_le hm (Nat.le_of_lt_succ hy)) hz hv
      · exact g
  exact go _ x4 S (Nat.lt_succ_self _) i0 h0
theorem r_e_pack_145 {x3 : Int32} {x4 : Int32} {S : ms} {K : Int32 → ms → Prop} (h : e_pack_145 x3 x4 S K) : b_pack_145 x3 x4 S (fun zx3 zx4 zS => e_pack_145 zx3 zx4 zS K) K := by
  obtain ⟨I, μ, i0, is⟩ := h
  exact d_b_pack_145 (is x3 x4 S i0) (fun a0 a1 a2 ha ia => (ia _ _).mpr ⟨I, μ, ha.1, is⟩) (fun a0 a1 ha ia => (ia _ _).mpr ha)
set_option maxHeartbeats 1000000 in
theorem d_b_pack_130 {x1 : Int32} {x2 : Int32} {x3 : Int32} {x4 : Int32} {s1 : Int32} {s2 : Int32} {S : ms} {R88 : Int32 → Int32 → Int32 → Int32 → ms → Prop} {K : Int32 → ms → Prop} (h : b_pack_130 x1 x2 x3 x4 s1 s2 S R88 K) {Q : Prop} (k_R88 : ∀ (a0 : Int32) (a1 : Int32) (a2 : Int32) (a3 : Int32) (a4 : ms), R88 a0 a1 a2 a3 a4 → (∀ (R88' : Int32 → Int32 → Int32 → Int32 → ms → Prop) (K' : Int32 → ms → Prop), b_pack_130 x1 x2 x3 x4 s1 s2 S R88' K' ↔ R88' a0 a1 a2 a3 a4) → Q) (k_K : ∀ (a0 : Int32) (a1 : ms), K a0 a1 → (∀ (R88' : Int32 → Int32 → Int32 → Int32 → ms → Prop) (K' : Int32 → ms → Prop), b_pack_130 x1 x2 x3 x4 s1 s2 S R88' K' ↔ K' a0 a1) → Q) : Q := by
  unfold b_pack_130 at h
  exact k_R88 _ _ _ _ _ (And.right h) (fun _ _ => dt_a (And.left h))
set_option maxHeartbeats 1000000 in
theorem d_b_pack_113 {x1 : Int32} {x2 : Int32} {x3 : Int32} {x4 : Int32} {s1 : Int32} {s2 : Int32} {S : ms} {R88 : Int32 → Int32 → Int32 → Int32 → ms → Prop} {K : Int32 → ms → Prop} (h : b_pack_113 x1 x2 x3 x4 s1 s2 S R88 K) {Q : Prop} (k_R88 : ∀ (a0 : Int32) (a1 : Int32) (a2 : Int32) (a3 : Int32) (a4 : ms), R88 a0 a1 a2 a3 a4 → (∀ (R88' : Int32 → Int32 → Int32 → Int32 → ms → Prop) (K' : Int32 → ms → Prop), b_pack_113 x1 x2 x3 x4 s1 s2 S R88' K' ↔ R88' a0 a1 a2 a3 a4) → Q) (k_K : ∀ (a0 : Int32) (a1 : ms), K a0 a1 → (∀ (R88' : Int32 → Int32 → Int32 → Int32 → ms → Prop) (K' : Int32 → ms → Prop), b_pack_113 x1 x2 x3 x4 s1 s2 S R88' K' ↔ K' a0 a1) → Q) : Q := by
  unfold b_pack_113 at h
  refine dt_n (And.right h) (fun c_1 h_2 => ?_) (fun c_1 h_2 => ?_)
  ·
    exact d_b_pack_130 h_2 (fun a0 a1 a2 a3 a4 h_4 i_3 => k_R88 a0 a1 a2 a3 a4 h_4 (fun _ _ => Iff.trans (dt_a (And.left h)) (Iff.trans (dt_1 c_1 c_1) (i_3 _ _)))) (fun a0 a1 h_6 i_5 => k_K a0 a1 h_6 (fun _ _ => Iff.trans (dt_a (And.left h)) (Iff.trans (dt_1 c_1 c_1) (i_5 _ _))))
  ·
    exact d_b_pack_130 h_2 (fun a0 a1 a2 a3 a4 h_8 i_7 => k_R88 a0 a1 a2 a3 a4 h_8 (fun _ _ => Iff.trans (dt_a (And.left h)) (Iff.trans (dt_2 (fun n => n c_1) c_1) (i_7 _ _)))) (fun a0 a1 h_10 i_9 => k_K a0 a1 h_10 (fun _ _ => Iff.trans (dt_a (And.left h)) (Iff.trans (dt_2 (fun n => n c_1) c_1) (i_9 _ _))))
set_option maxHeartbeats 1000000 in
theorem d_b_pack_88 {x1 : Int32} {x2 : Int32} {x3 : Int32} {x4 : Int32} {S : ms} {R88 : Int32 → Int32 → Int32 → Int32 → ms → Prop} {K : Int32 → ms → Prop} (h : b_pack_88 x1 x2 x3 x4 S R88 K) {Q : Prop} (k_R88 : ∀ (a0 : Int32) (a1 : Int32) (a2 : Int32) (a3 : Int32) (a4 : ms), R88 a0 a1 a2 a3 a4 → (∀ (R88' : Int32 → Int32 → Int32 → Int32 → ms → Prop) (K' : Int32 → ms → Prop), b_pack_88 x1 x2 x3 x4 S R88' K' ↔ R88' a0 a1 a2 a3 a4) → Q) (k_K : ∀ (a0 : Int32) (a1 : ms), K a0 a1 → (∀ (R88' : Int32 → Int32 → Int32 → Int32 → ms → Prop) (K' : Int32 → ms → Prop), b_pack_88 x1 x2 x3 x4 S R88' K' ↔ K' a0 a1) → Q) : Q := by
  unfold b_pack_88 at h
  refine dt_p h (fun c_1 h_2 => ?_) (fun c_1 h_2 => ?_)
  ·
    refine d_p_makeGrids h_2 (fun S139 h_4 i_3 => ?_)
    exact d_e_pack_145 h_4 (fun a0 a1 h_6 i_5 => k_K a0 a1 h_6 (fun _ _ => Iff.trans (dt_1 c_1 (fun n => n c_1)) (Iff.trans (i_3 _) (i_5 _))))
  ·
    refine dt_n h_2 (fun c_7 h_8 => ?_) (fun c_7 h_8 => ?_)
    ·
      exact d_b_pack_113 h_8 (fun a0 a1 a2 a3 a4 h_10 i_9 => k_R88 a0 a1 a2 a3 a4 h_10 (fun _ _ => Iff.trans (dt_2 c_1 c_1) (Iff.trans (dt_1 c_7 c_7) (i_9 _ _)))) (fun a0 a1 h_12 i_11 => k_K a0 a1 h_12 (fun _ _ => Iff.trans (dt_2 c_1 c_1) (Iff.trans (dt_1 c_7 c_7) (i_11 _ _))))
    ·
      exact d_b_pack_113 h_8 (fun a0 a1 a2 a3 a4 h_14 i_13 => k_R88 a0 a1 a2 a3 a4 h_14 (fun _ _ => Iff.trans (dt_2 c_1 c_1) (Iff.trans (dt_2 (fun n => n c_7) c_7) (i_13 _ _)))) (fun a0 a1 h_16 i_15 => k_K a0 a1 h_16 (fun _ _ => Iff.trans (dt_2 c_1 c_1) (Iff.trans (dt_2 (fun n => n c_7) c_7) (i_15 _ _))))
theorem l_e_pack_88  {x1 : Int32} {x2 : Int32} {x3 : Int32} {x4 : Int32} {S : ms} {K : Int32 → ms → Prop} : e_pack_88 x1 x2 x3 x4 S K ↔ lpE (C := (Int32 → ms → Prop)) (fun (y : (Int32) × (Int32) × (Int32) × (Int32) × (ms)) (R : ((Int32) × (Int32) × (Int32) × (Int32) × (ms)) → Prop) (c : (Int32 → ms → Prop)) => b_pack_88 y.1 y.2.1 y.2.2.1 y.2.2.2.1 y.2.2.2.2 (fun z0 z1 z2 z3 z4 => R (z0, z1, z2, z3, z4)) c) (x1, x2, x3, x4, S) K :=
  ⟨fun ⟨I, μ, h0, hs⟩ => ⟨fun t => I t.1 t.2.1 t.2.2.1 t.2.2.2.1 t.2.2.2.2, fun t => μ t.1 t.2.1 t.2.2.1 t.2.2.2.1 t.2.2.2.2, h0, fun t ht => hs _ _ _ _ _ ht⟩, fun ⟨I, μ, h0, hs⟩ => ⟨fun y0 y1 y2 y3 y4 => I (y0, y1, y2, y3, y4), fun y0 y1 y2 y3 y4 => μ (y0, y1, y2, y3, y4), h0, fun y0 y1 y2 y3 y4 hy => hs (y0, y1, y2, y3, y4) hy⟩⟩
set_option maxHeartbeats 1000000 in
theorem d_e_pack_88 {x1 : Int32} {x2 : Int32} {x3 : Int32} {x4 : Int32} {S : ms} {K : Int32 → ms → Prop} (h : e_pack_88 x1 x2 x3 x4 S K) {Q : Prop} (k_K : ∀ (a0 : Int32) (a1 : ms), K a0 a1 → (∀ (K' : Int32 → ms → Prop), e_pack_88 x1 x2 x3 x4 S K' ↔ K' a0 a1) → Q) : Q := by
  obtain ⟨o, ho, hoc, hi⟩ := lp_det (C := (Int32 → ms → Prop)) (b := (fun (y : (Int32) × (Int32) × (Int32) × (Int32) × (ms)) (R : ((Int32) × (Int32) × (Int32) × (Int32) × (ms)) → Prop) (c : (Int32 → ms → Prop)) => b_pack_88 y.1 y.2.1 y.2.2.1 y.2.2.2.1 y.2.2.2.2 (fun z0 z1 z2 z3 z4 => R (z0, z1, z2, z3, z4)) c)) (O := (fun (o : ((Int32 → ms → Prop)) → Prop) => (∃ (a0 : Int32) (a1 : ms), o = fun c => c a0 a1))) (fun y R c hy => d_b_pack_88 hy (fun a0 a1 a2 a3 a4 ha ia => Or.inl ⟨(a0, a1, a2, a3, a4), ha, fun R' c' => ia (fun z0 z1 z2 z3 z4 => R' (z0, z1, z2, z3, z4)) c'⟩) (fun a0 a1 ha ia => Or.inr ⟨(fun c => c a0 a1), ⟨a0, a1, rfl⟩, ha, fun R' c' => ia (fun z0 z1 z2 z3 z4 => R' (z0, z1, z2, z3, z4)) c'⟩)) (l_e_pack_88.mp h)
  rcases ho with ⟨a0, a1, rfl⟩
  · exact k_K _ _ hoc (fun K' => Iff.trans l_e_pack_88 (hi K'))
theorem v_e_pack_88 {x1 : Int32} {x2 : Int32} {x3 : Int32} {x4 : Int32} {S : ms} {K : Int32 → ms → Prop} (h : e_pack_88 x1 x2 x3 x4 S K) {G : Prop} (Inv : Int32 → ms → Prop) (h0 : Inv x4 S) (hs : ∀ (yx4 : Int32) (yS : ms) (R : Int32 → Int32 → Int32 → Int32 → ms → Prop), Inv yx4 yS → b_pack_88 x1 x2 x3 yx4 yS R K → (∃ (zx4 : Int32) (zS : ms), R x1 x2 x3 zx4 zS ∧ Inv zx4 zS) ∨ G) : G := by
  obtain ⟨I, μ, i0, is⟩ := h
  have go : ∀ (n : Nat) (yx4 : Int32) (yS : ms), μ x1 x2 x3 yx4 yS < n → I x1 x2 x3 yx4 yS → Inv yx4 yS → G := by
    intro n
    induction n with
    | zero => intro yx4 yS hy; exact absurd hy (Nat.not_lt_zero _)
    | succ n ih =>
      intro yx4 yS hy hI hV
      rcases hs yx4 yS _ hV (is x1 x2 x3 yx4 yS hI) with ⟨zx4, zS, ⟨hz, hm⟩, hv⟩ | g
      · exact ih zx4 zS (Nat.lt_of_lt_of_le hm (Nat.le_of_lt_succ hy)) hz hv
      · exact g
  exact go _ x4 S (Nat.lt_succ_self _) i0 h0
theorem r_e_pack_88 {x1 : Int32} {x2 : Int32} {x3 : Int32} {x4 : Int32} {S : ms} {K : Int32 → ms → Prop} (h : e_pack_88 x1 x2 x3 x4 S K) : b_pack_88 x1 x2 x3 x4 S (fun zx1 zx2 zx3 zx4 zS => e_pack_88 zx1 zx2 zx3 zx4 zS K) K := by
  obtain ⟨I, μ, i0, is⟩ := h
  exact d_b_pack_88 (is x1 x2 x3 x4 S i0) (fun a0 a1 a2 a3 a4 ha ia => (ia _ _).mpr ⟨I, μ, ha.1, is⟩) (fun a0 a1 ha ia => (ia _ _).mpr ha)
set_option maxHeartbeats 1000000 in
theorem d_b_pack_36 {x1 : Int32} {x2 : Int32} {x3 : Int32} {s1 : Int32} {S : ms} {K : Int32 → ms → Prop} (h : b_pack_36 x1 x2 x3 s1 S K) {Q : Prop} (k_K : ∀ (a0 : Int32) (a1 : ms), K a0 a1 → (∀ (K' : Int32 → ms → Prop), b_pack_36 x1 x2 x3 s1 S K' ↔ K' a0 a1) → Q) : Q := by
  unfold b_pack_36 at h
  refine dt_p h (fun c_1 h_2 => ?_) (fun c_1 h_2 => ?_)
  ·
    exact d_e_pack_88 (And.right (And.right (And.right (And.right h_2)))) (fun a0 a1 h_4 i_3 => k_K a0 a1 h_4 (fun _ => Iff.trans (dt_1 c_1 (fun n => n c_1)) (Iff.trans (dt_a (And.left h_2)) (Iff.trans (dt_a (And.left (And.right h_2))) (Iff.trans (dt_a (And.left (And.right (And.right h_2)))) (Iff.trans (dt_a (And.left (And.right (And.right (And.right h_2))))) (i_3 _)))))))
  ·
    exact k_K _ _ h_2 (fun _ => dt_2 c_1 c_1)
set_option maxHeartbeats 1000000 in
theorem d_b_pack_31 {x1 : Int32} {x2 : Int32} {x3 : Int32} {S : ms} {K : Int32 → ms → Prop} (h : b_pack_31 x1 x2 x3 S K) {Q : Prop} (k_K : ∀ (a0 : Int32) (a1 : ms), K a0 a1 → (∀ (K' : Int32 → ms → Prop), b_pack_31 x1 x2 x3 S K' ↔ K' a0 a1) → Q) : Q := by
  unfold b_pack_31 at h
  exact d_b_pack_36 h (fun a0 a1 h_2 i_1 => k_K a0 a1 h_2 (fun _ => i_1 _))
set_option maxHeartbeats 1000000 in
theorem d_p_pack {x1 : Int32} {x2 : Int32} {x3 : Int32} {S : ms} {K : Int32 → ms → Prop} (h : p_pack x1 x2 x3 S K) {Q : Prop} (k_K : ∀ (a0 : Int32) (a1 : ms), K a0 a1 → (∀ (K' : Int32 → ms → Prop), p_pack x1 x2 x3 S K' ↔ K' a0 a1) → Q) : Q := by
  unfold p_pack at h
  refine dt_p h (fun c_1 h_2 => ?_) (fun c_1 h_2 => ?_)
  ·
    exact d_b_pack_31 h_2 (fun a0 a1 h_4 i_3 => k_K a0 a1 h_4 (fun _ => Iff.trans (dt_1 c_1 (fun n => n c_1)) (i_3 _)))
  ·
    refine dt_p h_2 (fun c_5 h_6 => ?_) (fun c_5 h_6 => ?_)
    ·
      exact d_b_pack_31 h_6 (fun a0 a1 h_8 i_7 => k_K a0 a1 h_8 (fun _ => Iff.trans (dt_2 c_1 c_1) (Iff.trans (dt_1 c_5 (fun n => n c_5)) (i_7 _))))
    ·
      refine dt_p h_6 (fun c_9 h_10 => ?_) (fun c_9 h_10 => ?_)
      ·
        exact d_b_pack_31 h_10 (fun a0 a1 h_12 i_11 => k_K a0 a1 h_12 (fun _ => Iff.trans (dt_2 c_1 c_1) (Iff.trans (dt_2 c_5 c_5) (Iff.trans (dt_1 c_9 (fun n => n c_9)) (i_11 _)))))
      ·
        refine dt_p h_10 (fun c_13 h_14 => ?_) (fun c_13 h_14 => ?_)
        ·
          exact d_b_pack_31 h_14 (fun a0 a1 h_16 i_15 => k_K a0 a1 h_16 (fun _ => Iff.trans (dt_2 c_1 c_1) (Iff.trans (dt_2 c_5 c_5) (Iff.trans (dt_2 c_9 c_9) (Iff.trans (dt_1 c_13 (fun n => n c_13)) (i_15 _))))))
        ·
          refine dt_p h_14 (fun c_17 h_18 => ?_) (fun c_17 h_18 => ?_)
          ·
            exact d_b_pack_31 h_18 (fun a0 a1 h_20 i_19 => k_K a0 a1 h_20 (fun _ => Iff.trans (dt_2 c_1 c_1) (Iff.trans (dt_2 c_5 c_5) (Iff.trans (dt_2 c_9 c_9) (Iff.trans (dt_2 c_13 c_13) (Iff.trans (dt_1 c_17 (fun n => n c_17)) (i_19 _)))))))
          ·
            refine dt_p h_18 (fun c_21 h_22 => ?_) (fun c_21 h_22 => ?_)
            ·
              exact d_b_pack_36 h_22 (fun a0 a1 h_24 i_23 => k_K a0 a1 h_24 (fun _ => Iff.trans (dt_2 c_1 c_1) (Iff.trans (dt_2 c_5 c_5) (Iff.trans (dt_2 c_9 c_9) (Iff.trans (dt_2 c_13 c_13) (Iff.trans (dt_2 c_17 c_17) (Iff.trans (dt_1 c_21 (fun n => n c_21)) (i_23 _))))))))
            ·
              exact d_b_pack_31 h_22 (fun a0 a1 h_26 i_25 => k_K a0 a1 h_26 (fun _ => Iff.trans (dt_2 c_1 c_1) (Iff.trans (dt_2 c_5 c_5) (Iff.trans (dt_2 c_9 c_9) (Iff.trans (dt_2 c_13 c_13) (Iff.trans (dt_2 c_17 c_17) (Iff.trans (dt_2 c_21 c_21) (i_25 _))))))))
set_option maxHeartbeats 1000000 in
theorem d_p_size {S : ms} {K : Int32 → ms → Prop} (h : p_size S K) {Q : Prop} (k_K : ∀ (a0 : Int32) (a1 : ms), K a0 a1 → (∀ (K' : Int32 → ms → Prop), p_size S K' ↔ K' a0 a1) → Q) : Q := by
  unfold p_size at h
  exact k_K _ _ h (fun _ => Iff.rfl)
set_option maxHeartbeats 1000000 in
theorem d_b_out_38 {s0 : Int32} {S : ms} {K : Int32 → ms → Prop} (h : b_out_38 s0 S K) {Q : Prop} (k_K : ∀ (a0 : Int32) (a1 : ms), K a0 a1 → (∀ (K' : Int32 → ms → Prop), b_out_38 s0 S K' ↔ K' a0 a1) → Q) : Q := by
  unfold b_out_38 at h
  exact k_K _ _ h (fun _ => Iff.rfl)
set_option maxHeartbeats 1000000 in
theorem d_b_out_18 {x1 : Int32} {s1 : Int32} {S : ms} {K : Int32 → ms → Prop} (h : b_out_18 x1 s1 S K) {Q : Prop} (k_K : ∀ (a0 : Int32) (a1 : ms), K a0 a1 → (∀ (K' : Int32 → ms → Prop), b_out_18 x1 s1 S K' ↔ K' a0 a1) → Q) : Q := by
  unfold b_out_18 at h
  refine dt_p h (fun c_1 h_2 => ?_) (fun c_1 h_2 => ?_)
  ·
    exact d_b_out_38 (And.right h_2) (fun a0 a1 h_4 i_3 => k_K a0 a1 h_4 (fun _ => Iff.trans (dt_1 c_1 (fun n => n c_1)) (Iff.trans (dt_a (And.left h_2)) (i_3 _))))
  ·
    exact d_b_out_38 h_2 (fun a0 a1 h_6 i_5 => k_K a0 a1 h_6 (fun _ => Iff.trans (dt_2 c_1 c_1) (i_5 _)))
set_option maxHeartbeats 1000000 in
theorem d_b_out_13 {x1 : Int32} {S : ms} {K : Int32 → ms → Prop} (h : b_out_13 x1 S K) {Q : Prop} (k_K : ∀ (a0 : Int32) (a1 : ms), K a0 a1 → (∀ (K' : Int32 → ms → Prop), b_out_13 x1 S K' ↔ K' a0 a1) → Q) : Q := by
  unfold b_out_13 at h
  exact d_b_out_18 h (fun a0 a1 h_2 i_1 => k_K a0 a1 h_2 (fun _ => i_1 _))
set_option maxHeartbeats 1000000 in
theorem d_p_out {x1 : Int32} {S : ms} {K : Int32 → ms → Prop} (h : p_out x1 S K) {Q : Prop} (k_K : ∀ (a0 : Int32) (a1 : ms), K a0 a1 → (∀ (K' : Int32 → ms → Prop), p_out x1 S K' ↔ K' a0 a1) → Q) : Q := by
  unfold p_out at h
  refine dt_p h (fun c_1 h_2 => ?_) (fun c_1 h_2 => ?_)
  ·
    exact d_b_out_13 h_2 (fun a0 a1 h_4 i_3 => k_K a0 a1 h_4 (fun _ => Iff.trans (dt_1 c_1 (fun n => n c_1)) (i_3 _)))
  ·
    refine dt_p h_2 (fun c_5 h_6 => ?_) (fun c_5 h_6 => ?_)
    ·
      exact d_b_out_18 h_6 (fun a0 a1 h_8 i_7 => k_K a0 a1 h_8 (fun _ => Iff.trans (dt_2 c_1 c_1) (Iff.trans (dt_1 c_5 (fun n => n c_5)) (i_7 _))))
    ·
      exact d_b_out_13 h_6 (fun a0 a1 h_10 i_9 => k_K a0 a1 h_10 (fun _ => Iff.trans (dt_2 c_1 c_1) (Iff.trans (dt_2 c_5 c_5) (i_9 _))))
set_option maxHeartbeats 1000000 in
theorem d_b_feed_86 {x1 : Int32} {x2 : Int32} {x3 : Int32} {x4 : Int32} {x5 : Int32} {x6 : Int32} {s0 : Int32} {S : ms} {R33 : Int32 → Int32 → Int32 → Int32 → Int32 → Int32 → ms → Prop} {K : Int32 → ms → Prop} (h : b_feed_86 x1 x2 x3 x4 x5 x6 s0 S R33 K) {Q : Prop} (k_R33 : ∀ (a0 : Int32) (a1 : Int32) (a2 : Int32) (a3 : Int32) (a4 : Int32) (a5 : Int32) (a6 : ms), R33 a0 a1 a2 a3 a4 a5 a6 → (∀ (R33' : Int32 → Int32 → Int32 → Int32 → Int32 → Int32 → ms → Prop) (K' : Int32 → ms → Prop), b_feed_86 x1 x2 x3 x4 x5 x6 s0 S R33' K' ↔ R33' a0 a1 a2 a3 a4 a5 a6) → Q) (k_K : ∀ (a0 : Int32) (a1 : ms), K a0 a1 → (∀ (R33' : Int32 → Int32 → Int32 → Int32 → Int32 → Int32 → ms → Prop) (K' : Int32 → ms → Prop), b_feed_86 x1 x2 x3 x4 x5 x6 s0 S R33' K' ↔ K' a0 a1) → Q) : Q := by
  unfold b_feed_86 at h
  exact k_R33 _ _ _ _ _ _ _ (And.right h) (fun _ _ => dt_a (And.left h))
set_option maxHeartbeats 1000000 in
theorem d_b_feed_33 {x1 : Int32} {x2 : Int32} {x3 : Int32} {x4 : Int32} {x5 : Int32} {x6 : Int32} {S : ms} {R33 : Int32 → Int32 → Int32 → Int32 → Int32 → Int32 → ms → Prop} {K : Int32 → ms → Prop} (h : b_feed_33 x1 x2 x3 x4 x5 x6 S R33 K) {Q : Prop} (k_R33 : ∀ (a0 : Int32) (a1 : Int32) (a2 : Int32) (a3 : Int32) (a4 : Int32) (a5 : Int32) (a6 : ms), R33 a0 a1 a2 a3 a4 a5 a6 → (∀ (R33' : Int32 → Int32 → Int32 → Int32 → Int32 → Int32 → ms → Prop) (K' : Int32 → ms → Prop), b_feed_33 x1 x2 x3 x4 x5 x6 S R33' K' ↔ R33' a0 a1 a2 a3 a4 a5 a6) → Q) (k_K : ∀ (a0 : Int32) (a1 : ms), K a0 a1 → (∀ (R33' : Int32 → Int32 → Int32 → Int32 → Int32 → Int32 → ms → Prop) (K' : Int32 → ms → Prop), b_feed_33 x1 x2 x3 x4 x5 x6 S R33' K' ↔ K' a0 a1) → Q) : Q := by
  unfold b_feed_33 at h
  refine dt_p h (fun c_1 h_2 => ?_) (fun c_1 h_2 => ?_)
  ·
    exact k_K _ _ h_2 (fun _ _ => dt_1 c_1 (fun n => n c_1))
  ·
    refine dt_p h_2 (fun c_3 h_4 => ?_) (fun c_3 h_4 => ?_)
    ·
      refine dt_p h_4 (fun c_5 h_6 => ?_) (fun c_5 h_6 => ?_)
      ·
        refine dt_p h_6 (fun c_7 h_8 => ?_) (fun c_7 h_8 => ?_)
        ·
          refine dt_p h_8 (fun c_9 h_10 => ?_) (fun c_9 h_10 => ?_)
          ·
            exact d_b_feed_86 h_10 (fun a0 a1 a2 a3 a4 a5 a6 h_12 i_11 => k_R33 a0 a1 a2 a3 a4 a5 a6 h_12 (fun _ _ => Iff.trans (dt_2 c_1 c_1) (Iff.trans (dt_1 c_3 (fun n => n c_3)) (Iff.trans (dt_1 c_5 (fun n => n c_5)) (Iff.trans (dt_1 c_7 (fun n => n c_7)) (Iff.trans (dt_1 c_9 (fun n => n c_9)) (i_11 _ _))))))) (fun a0 a1 h_14 i_13 => k_K a0 a1 h_14 (fun _ _ => Iff.trans (dt_2 c_1 c_1) (Iff.trans (dt_1 c_3 (fun n => n c_3)) (Iff.trans (dt_1 c_5 (fun n => n c_5)) (Iff.trans (dt_1 c_7 (fun n => n c_7)) (Iff.trans (dt_1 c_9 (fun n => n c_9)) (i_13 _ _)))))))
          ·
            exact d_b_feed_86 h_10 (fun a0 a1 a2 a3 a4 a5 a6 h_16 i_15 => k_R33 a0 a1 a2 a3 a4 a5 a6 h_16 (fun _ _ => Iff.trans (dt_2 c_1 c_1) (Iff.trans (dt_1 c_3 (fun n => n c_3)) (Iff.trans (dt_1 c_5 (fun n => n c_5)) (Iff.trans (dt_1 c_7 (fun n => n c_7)) (Iff.trans (dt_2 c_9 c_9) (i_15 _ _))))))) (fun a0 a1 h_18 i_17 => k_K a0 a1 h_18 (fun _ _ => Iff.trans (dt_2 c_1 c_1) (Iff.trans (dt_1 c_3 (fun n => n c_3)) (Iff.trans (dt_1 c_5 (fun n => n c_5)) (Iff.trans (dt_1 c_7 (fun n => n c_7)) (Iff.trans (dt_2 c_9 c_9) (i_17 _ _)))))))
        ·
          exact d_b_feed_86 h_8 (fun a0 a1 a2 a3 a4 a5 a6 h_20 i_19 => k_R33 a0 a1 a2 a3 a4 a5 a6 h_20 (fun _ _ => Iff.trans (dt_2 c_1 c_1) (Iff.trans (dt_1 c_3 (fun n => n c_3)) (Iff.trans (dt_1 c_5 (fun n => n c_5)) (Iff.trans (dt_2 c_7 c_7) (i_19 _ _)))))) (fun a0 a1 h_22 i_21 => k_K a0 a1 h_22 (fun _ _ => Iff.trans (dt_2 c_1 c_1) (Iff.trans (dt_1 c_3 (fun n => n c_3)) (Iff.trans (dt_1 c_5 (fun n => n c_5)) (Iff.trans (dt_2 c_7 c_7) (i_21 _ _))))))
      ·
        exact d_b_feed_86 h_6 (fun a0 a1 a2 a3 a4 a5 a6 h_24 i_23 => k_R33 a0 a1 a2 a3 a4 a5 a6 h_24 (fun _ _ => Iff.trans (dt_2 c_1 c_1) (Iff.trans (dt_1 c_3 (fun n => n c_3)) (Iff.trans (dt_2 c_5 c_5) (i_23 _ _))))) (fun a0 a1 h_26 i_25 => k_K a0 a1 h_26 (fun _ _ => Iff.trans (dt_2 c_1 c_1) (Iff.trans (dt_1 c_3 (fun n => n c_3)) (Iff.trans (dt_2 c_5 c_5) (i_25 _ _)))))
    ·
      exact d_b_feed_86 h_4 (fun a0 a1 a2 a3 a4 a5 a6 h_28 i_27 => k_R33 a0 a1 a2 a3 a4 a5 a6 h_28 (fun _ _ => Iff.trans (dt_2 c_1 c_1) (Iff.trans (dt_2 c_3 c_3) (i_27 _ _)))) (fun a0 a1 h_30 i_29 => k_K a0 a1 h_30 (fun _ _ => Iff.trans (dt_2 c_1 c_1) (Iff.trans (dt_2 c_3 c_3) (i_29 _ _))))
theorem l_e_feed_33  {x1 : Int32} {x2 : Int32} {x3 : Int32} {x4 : Int32} {x5 : Int32} {x6 : Int32} {S : ms} {K : Int32 → ms → Prop} : e_feed_33 x1 x2 x3 x4 x5 x6 S K ↔ lpE (C := (Int32 → ms → Prop)) (fun (y : (Int32) × (Int32) × (Int32) × (Int32) × (Int32) × (Int32) × (ms)) (R : ((Int32) × (Int32) × (Int32) × (Int32) × (Int32) × (Int32) × (ms)) → Prop) (c : (Int32 → ms → Prop)) => b_feed_33 y.1 y.2.1 y.2.2.1 y.2.2.2.1 y.2.2.2.2.1 y.2.2.2.2.2.1 y.2.2.2.2.2.2 (fun z0 z1 z2 z3 z4 z5 z6 => R (z0, z1, z2, z3, z4, z5, z6)) c) (x1, x2, x3, x4, x5, x6, S) K :=
  ⟨fun ⟨I, μ, h0, hs⟩ => ⟨fun t => I t.1 t.2.1 t.2.2.1 t.2.2.2.1 t.2.2.2.2.1 t.2.2.2.2.2.1 t.2.2.2.2.2.2, fun t => μ t.1 t.2.1 t.2.2.1 t.2.2.2.1 t.2.2.2.2.1 t.2.2.2.2.2.1 t.2.2.2.2.2.2, h0, fun t ht => hs _ _ _ _ _ _ _ ht⟩, fun ⟨I, μ, h0, hs⟩ => ⟨fun y0 y1 y2 y3 y4 y5 y6 => I (y0, y1, y2, y3, y4, y5, y6), fun y0 y1 y2 y3 y4 y5 y6 => μ (y0, y1, y2, y3, y4, y5, y6), h0, fun y0 y1 y2 y3 y4 y5 y6 hy => hs (y0, y1, y2, y3, y4, y5, y6) hy⟩⟩
set_option maxHeartbeats 1000000 in
theorem d_e_feed_33 {x1 : Int32} {x2 : Int32} {x3 : Int32} {x4 : Int32} {x5 : Int32} {x6 : Int32} {S : ms} {K : Int32 → ms → Prop} (h : e_feed_33 x1 x2 x3 x4 x5 x6 S K) {Q : Prop} (k_K : ∀ (a0 : Int32) (a1 : ms), K a0 a1 → (∀ (K' : Int32 → ms → Prop), e_feed_33 x1 x2 x3 x4 x5 x6 S K' ↔ K' a0 a1) → Q) : Q := by
  obtain ⟨o, ho, hoc, hi⟩ := lp_det (C := (Int32 → ms → Prop)) (b := (fun (y : (Int32) × (Int32) × (Int32) × (Int32) × (Int32) × (Int32) × (ms)) (R : ((Int32) × (Int32) × (Int32) × (Int32) × (Int32) × (Int32) × (ms)) → Prop) (c : (Int32 → ms → Prop)) => b_feed_33 y.1 y.2.1 y.2.2.1 y.2.2.2.1 y.2.2.2.2.1 y.2.2.2.2.2.1 y.2.2.2.2.2.2 (fun z0 z1 z2 z3 z4 z5 z6 => R (z0, z1, z2, z3, z4, z5, z6)) c)) (O := (fun (o : ((Int32 → ms → Prop)) → Prop) => (∃ (a0 : Int32) (a1 : ms), o = fun c => c a0 a1))) (fun y R c hy => d_b_feed_33 hy (fun a0 a1 a2 a3 a4 a5 a6 ha ia => Or.inl ⟨(a0, a1, a2, a3, a4, a5, a6), ha, fun R' c' => ia (fun z0 z1 z2 z3 z4 z5 z6 => R' (z0, z1, z2, z3, z4, z5, z6)) c'⟩) (fun a0 a1 ha ia => Or.inr ⟨(fun c => c a0 a1), ⟨a0, a1, rfl⟩, ha, fun R' c' => ia (fun z0 z1 z2 z3 z4 z5 z6 => R' (z0, z1, z2, z3, z4, z5, z6)) c'⟩)) (l_e_feed_33.mp h)
  rcases ho with ⟨a0, a1, rfl⟩
  · exact k_K _ _ hoc (fun K' => Iff.trans l_e_feed_33 (hi K'))
theorem v_e_feed_33 {x1 : Int32} {x2 : Int32} {x3 : Int32} {x4 : Int32} {x5 : Int32} {x6 : Int32} {S : ms} {K : Int32 → ms → Prop} (h : e_feed_33 x1 x2 x3 x4 x5 x6 S K) {G : Prop} (Inv : Int32 → ms → Prop) (h0 : Inv x6 S) (hs : ∀ (yx6 : Int32) (yS : ms) (R : Int32 → Int32 → Int32 → Int32 → Int32 → Int32 → ms → Prop), Inv yx6 yS → b_feed_33 x1 x2 x3 x4 x5 yx6 yS R K → (∃ (zx6 : Int32) (zS : ms), R x1 x2 x3 x4 x5 zx6 zS ∧ Inv zx6 zS) ∨ G) : G := by
  obtain ⟨I, μ, i0, is⟩ := h
  have go : ∀ (n : Nat) (yx6 : Int32) (yS : ms), μ x1 x2 x3 x4 x5 yx6 yS < n → I x1 x2 x3 x4 x5 yx6 yS → Inv yx6 yS → G := by
    intro n
    induction n with
    | zero => intro yx6 yS hy; exact absurd hy (Nat.not_lt_zero _)
    | succ n ih =>
      intro yx6 yS hy hI hV
      rcases hs yx6 yS _ hV (is x1 x2 x3 x4 x5 yx6 yS hI) with ⟨zx6, zS, ⟨hz, hm⟩, hv⟩ | g
      · exact ih zx6 zS (Nat.lt_of_lt_of_le hm (Nat.le_of_lt_succ hy)) hz hv
      · exact g
  exact go _ x6 S (Nat.lt_succ_self _) i0 h0
theorem r_e_feed_33 {x1 : Int32} {x2 : Int32} {x3 : Int32} {x4 : Int32} {x5 : Int32} {x6 : Int32} {S : ms} {K : Int32 → ms → Prop} (h : e_feed_33 x1 x2 x3 x4 x5 x6 S K) : b_feed_33 x1 x2 x3 x4 x5 x6 S (fun zx1 zx2 zx3 zx4 zx5 zx6 zS => e_feed_33 zx1 zx2 zx3 zx4 zx5 zx6 zS K) K := by
  obtain ⟨I, μ, i0, is⟩ := h
  exact d_b_feed_33 (is x1 x2 x3 x4 x5 x6 S i0) (fun a0 a1 a2 a3 a4 a5 a6 ha ia => (ia _ _).mpr ⟨I, μ, ha.1, is⟩) (fun a0 a1 ha ia => (ia _ _).mpr ha)
set_option maxHeartbeats 1000000 in
theorem d_b_feed_18 {x1 : Int32} {x2 : Int32} {x3 : Int32} {x4 : Int32} {x5 : Int32} {s1 : Int32} {S : ms} {K : Int32 → ms → Prop} (h : b_feed_18 x1 x2 x3 x4 x5 s1 S K) {Q : Prop} (k_K : ∀ (a0 : Int32) (a1 : ms), K a0 a1 → (∀ (K' : Int32 → ms → Prop), b_feed_18 x1 x2 x3 x4 x5 s1 S K' ↔ K' a0 a1) → Q) : Q := by
  unfold b_feed_18 at h
  refine dt_p h (fun c_1 h_2 => ?_) (fun c_1 h_2 => ?_)
  ·
    exact d_e_feed_33 h_2 (fun a0 a1 h_4 i_3 => k_K a0 a1 h_4 (fun _ => Iff.trans (dt_1 c_1 (fun n => n c_1)) (i_3 _)))
  ·
    exact k_K _ _ h_2 (fun _ => dt_2 c_1 c_1)
set_option maxHeartbeats 1000000 in
theorem d_p_feed {x1 : Int32} {x2 : Int32} {x3 : Int32} {x4 : Int32} {x5 : Int32} {S : ms} {K : Int32 → ms → Prop} (h : p_feed x1 x2 x3 x4 x5 S K) {Q : Prop} (k_K : ∀ (a0 : Int32) (a1 : ms), K a0 a1 → (∀ (K' : Int32 → ms → Prop), p_feed x1 x2 x3 x4 x5 S K' ↔ K' a0 a1) → Q) : Q := by
  unfold p_feed at h
  refine dt_p h (fun c_1 h_2 => ?_) (fun c_1 h_2 => ?_)
  ·
    exact d_b_feed_18 h_2 (fun a0 a1 h_4 i_3 => k_K a0 a1 h_4 (fun _ => Iff.trans (dt_1 c_1 (fun n => n c_1)) (i_3 _)))
  ·
    exact d_b_feed_18 h_2 (fun a0 a1 h_6 i_5 => k_K a0 a1 h_6 (fun _ => Iff.trans (dt_2 c_1 c_1) (i_5 _)))
set_option maxHeartbeats 1000000 in
theorem d_b_end_37 {s1 : Int32} {S : ms} {K : ms → Prop} (h : b_end_37 s1 S K) {Q : Prop} (k_K : ∀ (a0 : ms), K a0 → (∀ (K' : ms → Prop), b_end_37 s1 S K' ↔ K' a0) → Q) : Q := by
  unfold b_end_37 at h
  exact k_K _ h (fun _ => Iff.rfl)
set_option maxHeartbeats 1000000 in
theorem d_b_end_18 {x1 : Int32} {s1 : Int32} {S : ms} {K : ms → Prop} (h : b_end_18 x1 s1 S K) {Q : Prop} (k_K : ∀ (a0 : ms), K a0 → (∀ (K' : ms → Prop), b_end_18 x1 s1 S K' ↔ K' a0) → Q) : Q := by
  unfold b_end_18 at h
  refine dt_p h (fun c_1 h_2 => ?_) (fun c_1 h_2 => ?_)
  ·
    exact d_b_end_37 h_2 (fun a0 h_4 i_3 => k_K a0 h_4 (fun _ => Iff.trans (dt_1 c_1 (fun n => n c_1)) (i_3 _)))
  ·
    exact d_b_end_37 h_2 (fun a0 h_6 i_5 => k_K a0 h_6 (fun _ => Iff.trans (dt_2 c_1 c_1) (i_5 _)))
set_option maxHeartbeats 1000000 in
theorem d_b_end_13 {x1 : Int32} {S : ms} {K : ms → Prop} (h : b_end_13 x1 S K) {Q : Prop} (k_K : ∀ (a0 : ms), K a0 → (∀ (K' : ms → Prop), b_end_13 x1 S K' ↔ K' a0) → Q) : Q := by
  unfold b_end_13 at h
  exact d_b_end_18 h (fun a0 h_2 i_1 => k_K a0 h_2 (fun _ => i_1 _))
set_option maxHeartbeats 1000000 in
theorem d_p_end {x1 : Int32} {S : ms} {K : ms → Prop} (h : p_end x1 S K) {Q : Prop} (k_K : ∀ (a0 : ms), K a0 → (∀ (K' : ms → Prop), p_end x1 S K' ↔ K' a0) → Q) : Q := by
  unfold p_end at h
  refine dt_p h (fun c_1 h_2 => ?_) (fun c_1 h_2 => ?_)
  ·
    exact d_b_end_13 h_2 (fun a0 h_4 i_3 => k_K a0 h_4 (fun _ => Iff.trans (dt_1 c_1 (fun n => n c_1)) (i_3 _)))
  ·
    refine dt_p h_2 (fun c_5 h_6 => ?_) (fun c_5 h_6 => ?_)
    ·
      exact d_b_end_18 h_6 (fun a0 h_8 i_7 => k_K a0 h_8 (fun _ => Iff.trans (dt_2 c_1 c_1) (Iff.trans (dt_1 c_5 (fun n => n c_5)) (i_7 _))))
    ·
      exact d_b_end_13 h_6 (fun a0 h_10 i_9 => k_K a0 h_10 (fun _ => Iff.trans (dt_2 c_1 c_1) (Iff.trans (dt_2 c_5 c_5) (i_9 _))))
set_option maxHeartbeats 1000000 in
theorem d_b_change_33 {x1 : Int32} {x2 : Int32} {s1 : Int32} {S : ms} {K : Int32 → ms → Prop} (h : b_change_33 x1 x2 s1 S K) {Q : Prop} (k_K : ∀ (a0 : Int32) (a1 : ms), K a0 a1 → (∀ (K' : Int32 → ms → Prop), b_change_33 x1 x2 s1 S K' ↔ K' a0 a1) → Q) : Q := by
  unfold b_change_33 at h
  refine dt_p h (fun c_1 h_2 => ?_) (fun c_1 h_2 => ?_)
  ·
    exact k_K _ _ (And.right (And.right (And.right h_2))) (fun _ => Iff.trans (dt_1 c_1 (fun n => n c_1)) (Iff.trans (dt_a (And.left h_2)) (Iff.trans (dt_a (And.left (And.right h_2))) (dt_a (And.left (And.right (And.right h_2)))))))
  ·
    exact k_K _ _ h_2 (fun _ => dt_2 c_1 c_1)
set_option maxHeartbeats 1000000 in
theorem d_b_change_28 {x1 : Int32} {x2 : Int32} {S : ms} {K : Int32 → ms → Prop} (h : b_change_28 x1 x2 S K) {Q : Prop} (k_K : ∀ (a0 : Int32) (a1 : ms), K a0 a1 → (∀ (K' : Int32 → ms → Prop), b_change_28 x1 x2 S K' ↔ K' a0 a1) → Q) : Q := by
  unfold b_change_28 at h
  exact d_b_change_33 h (fun a0 a1 h_2 i_1 => k_K a0 a1 h_2 (fun _ => i_1 _))
set_option maxHeartbeats 1000000 in
theorem d_b_change_13 {x1 : Int32} {x2 : Int32} {S : ms} {K : Int32 → ms → Prop} (h : b_change_13 x1 x2 S K) {Q : Prop} (k_K : ∀ (a0 : Int32) (a1 : ms), K a0 a1 → (∀ (K' : Int32 → ms → Prop), b_change_13 x1 x2 S K' ↔ K' a0 a1) → Q) : Q := by
  unfold b_change_13 at h
  exact d_b_change_33 h (fun a0 a1 h_2 i_1 => k_K a0 a1 h_2 (fun _ => i_1 _))
set_option maxHeartbeats 1000000 in
theorem d_p_change {x1 : Int32} {x2 : Int32} {S : ms} {K : Int32 → ms → Prop} (h : p_change x1 x2 S K) {Q : Prop} (k_K : ∀ (a0 : Int32) (a1 : ms), K a0 a1 → (∀ (K' : Int32 → ms → Prop), p_change x1 x2 S K' ↔ K' a0 a1) → Q) : Q := by
  unfold p_change at h
  refine dt_p h (fun c_1 h_2 => ?_) (fun c_1 h_2 => ?_)
  ·
    exact d_b_change_13 h_2 (fun a0 a1 h_4 i_3 => k_K a0 a1 h_4 (fun _ => Iff.trans (dt_1 c_1 (fun n => n c_1)) (i_3 _)))
  ·
    refine dt_p h_2 (fun c_5 h_6 => ?_) (fun c_5 h_6 => ?_)
    ·
      refine dt_p h_6 (fun c_7 h_8 => ?_) (fun c_7 h_8 => ?_)
      ·
        exact d_b_change_28 h_8 (fun a0 a1 h_10 i_9 => k_K a0 a1 h_10 (fun _ => Iff.trans (dt_2 c_1 c_1) (Iff.trans (dt_1 c_5 (fun n => n c_5)) (Iff.trans (dt_1 c_7 (fun n => n c_7)) (i_9 _)))))
      ·
        refine dt_p h_8 (fun c_11 h_12 => ?_) (fun c_11 h_12 => ?_)
        ·
          exact d_b_change_33 h_12 (fun a0 a1 h_14 i_13 => k_K a0 a1 h_14 (fun _ => Iff.trans (dt_2 c_1 c_1) (Iff.trans (dt_1 c_5 (fun n => n c_5)) (Iff.trans (dt_2 c_7 c_7) (Iff.trans (dt_1 c_11 (fun n => n c_11)) (i_13 _))))))
        ·
          exact d_b_change_28 h_12 (fun a0 a1 h_16 i_15 => k_K a0 a1 h_16 (fun _ => Iff.trans (dt_2 c_1 c_1) (Iff.trans (dt_1 c_5 (fun n => n c_5)) (Iff.trans (dt_2 c_7 c_7) (Iff.trans (dt_2 c_11 c_11) (i_15 _))))))
    ·
      exact d_b_change_13 h_6 (fun a0 a1 h_18 i_17 => k_K a0 a1 h_18 (fun _ => Iff.trans (dt_2 c_1 c_1) (Iff.trans (dt_2 c_5 c_5) (i_17 _))))
set_option maxHeartbeats 1000000 in
theorem d_b_turn2_29 {x1 : Int32} {S : ms} {R29 : Int32 → ms → Prop} {K : Int32 → ms → Prop} (h : b_turn2_29 x1 S R29 K) {Q : Prop} (k_R29 : ∀ (a0 : Int32) (a1 : ms), R29 a0 a1 → (∀ (R29' : Int32 → ms → Prop) (K' : Int32 → ms → Prop), b_turn2_29 x1 S R29' K' ↔ R29' a0 a1) → Q) (k_K : ∀ (a0 : Int32) (a1 : ms), K a0 a1 → (∀ (R29' : Int32 → ms → Prop) (K' : Int32 → ms → Prop), b_turn2_29 x1 S R29' K' ↔ K' a0 a1) → Q) : Q := by
  unfold b_turn2_29 at h
  refine dt_p h (fun c_1 h_2 => ?_) (fun c_1 h_2 => ?_)
  ·
    exact k_K _ _ h_2 (fun _ _ => dt_1 c_1 (fun n => n c_1))
  ·
    exact k_R29 _ _ (And.right (And.right h_2)) (fun _ _ => Iff.trans (dt_2 c_1 c_1) (Iff.trans (dt_a (And.left h_2)) (dt_a (And.left (And.right h_2)))))
theorem l_e_turn2_29  {x1 : Int32} {S : ms} {K : Int32 → ms → Prop} : e_turn2_29 x1 S K ↔ lpE (C := (Int32 → ms → Prop)) (fun (y : (Int32) × (ms)) (R : ((Int32) × (ms)) → Prop) (c : (Int32 → ms → Prop)) => b_turn2_29 y.1 y.2 (fun z0 z1 => R (z0, z1)) c) (x1, S) K :=
  ⟨fun ⟨I, μ, h0, hs⟩ => ⟨fun t => I t.1 t.2, fun t => μ t.1 t.2, h0, fun t ht => hs _ _ ht⟩, fun ⟨I, μ, h0, hs⟩ => ⟨fun y0 y1 => I (y0, y1), fun y0 y1 => μ (y0, y1), h0, fun y0 y1 hy => hs (y0, y1) hy⟩⟩
set_option maxHeartbeats 1000000 in
theorem d_e_turn2_29 {x1 : Int32} {S : ms} {K : Int32 → ms → Prop} (h : e_turn2_29 x1 S K) {Q : Prop} (k_K : ∀ (a0 : Int32) (a1 : ms), K a0 a1 → (∀ (K' : Int32 → ms → Prop), e_turn2_29 x1 S K' ↔ K' a0 a1) → Q) : Q := by
  obtain ⟨o, ho, hoc, hi⟩ := lp_det (C := (Int32 → ms → Prop)) (b := (fun (y : (Int32) × (ms)) (R : ((Int32) × (ms)) → Prop) (c : (Int32 → ms → Prop)) => b_turn2_29 y.1 y.2 (fun z0 z1 => R (z0, z1)) c)) (O := (fun (o : ((Int32 → ms → Prop)) → Prop) => (∃ (a0 : Int32) (a1 : ms), o = fun c => c a0 a1))) (fun y R c hy => d_b_turn2_29 hy (fun a0 a1 ha ia => Or.inl ⟨(a0, a1), ha, fun R' c' => ia (fun z0 z1 => R' (z0, z1)) c'⟩) (fun a0 a1 ha ia => Or.inr ⟨(fun c => c a0 a1), ⟨a0, a1, rfl⟩, ha, fun R' c' => ia (fun z0 z1 => R' (z0, z1)) c'⟩)) (l_e_turn2_29.mp h)
  rcases ho with ⟨a0, a1, rfl⟩
  · exact k_K _ _ hoc (fun K' => Iff.trans l_e_turn2_29 (hi K'))
theorem v_e_turn2_29 {x1 : Int32} {S : ms} {K : Int32 → ms → Prop} (h : e_turn2_29 x1 S K) {G : Prop} (Inv : Int32 → ms → Prop) (h0 : Inv x1 S) (hs : ∀ (yx1 : Int32) (yS : ms) (R : Int32 → ms → Prop), Inv yx1 yS → b_turn2_29 yx1 yS R K → (∃ (zx1 : Int32) (zS : ms), R zx1 zS ∧ Inv zx1 zS) ∨ G) : G := by
  obtain ⟨I, μ, i0, is⟩ := h
  have go : ∀ (n : Nat) (yx1 : Int32) (yS : ms), μ yx1 yS < n → I yx1 yS → Inv yx1 yS → G := by
    intro n
    induction n with
    | zero => intro yx1 yS hy; exact absurd hy (Nat.not_lt_zero _)
    | succ n ih =>
      intro yx1 yS hy hI hV
      rcases hs yx1 yS _ hV (is yx1 yS hI) with ⟨zx1, zS, ⟨hz, hm⟩, hv⟩ | g
      · exact ih zx1 zS (Nat.lt_of_lt_of_le hm (Nat.le_of_lt_succ hy)) hz hv
      · exact g
  exact go _ x1 S (Nat.lt_succ_self _) i0 h0
theorem r_e_turn2_29 {x1 : Int32} {S : ms} {K : Int32 → ms → Prop} (h : e_turn2_29 x1 S K) : b_turn2_29 x1 S (fun zx1 zS => e_turn2_29 zx1 zS K) K := by
  obtain ⟨I, μ, i0, is⟩ := h
  exact d_b_turn2_29 (is x1 S i0) (fun a0 a1 ha ia => (ia _ _).mpr ⟨I, μ, ha.1, is⟩) (fun a0 a1 ha ia => (ia _ _).mpr ha)
set_option maxHeartbeats 1000000 in
theorem d_b_turn2_15 {s1 : Int32} {S : ms} {K : Int32 → ms → Prop} (h : b_turn2_15 s1 S K) {Q : Prop} (k_K : ∀ (a0 : Int32) (a1 : ms), K a0 a1 → (∀ (K' : Int32 → ms → Prop), b_turn2_15 s1 S K' ↔ K' a0 a1) → Q) : Q := by
  unfold b_turn2_15 at h
  refine dt_p h (fun c_1 h_2 => ?_) (fun c_1 h_2 => ?_)
  ·
    exact d_e_turn2_29 h_2 (fun a0 a1 h_4 i_3 => k_K a0 a1 h_4 (fun _ => Iff.trans (dt_1 c_1 (fun n => n c_1)) (i_3 _)))
  ·
    exact k_K _ _ h_2 (fun _ => dt_2 c_1 c_1)
set_option maxHeartbeats 1000000 in
theorem d_p_turn2 {S : ms} {K : Int32 → ms → Prop} (h : p_turn2 S K) {Q : Prop} (k_K : ∀ (a0 : Int32) (a1 : ms), K a0 a1 → (∀ (K' : Int32 → ms → Prop), p_turn2 S K' ↔ K' a0 a1) → Q) : Q := by
  unfold p_turn2 at h
  refine dt_p h (fun c_1 h_2 => ?_) (fun c_1 h_2 => ?_)
  ·
    exact d_b_turn2_15 h_2 (fun a0 a1 h_4 i_3 => k_K a0 a1 h_4 (fun _ => Iff.trans (dt_1 c_1 (fun n => n c_1)) (i_3 _)))
  ·
    exact d_b_turn2_15 h_2 (fun a0 a1 h_6 i_5 => k_K a0 a1 h_6 (fun _ => Iff.trans (dt_2 c_1 c_1) (i_5 _)))
set_option maxHeartbeats 1000000 in
theorem d_b_fail_17 {S : ms} {K : Int32 → ms → Prop} (h : b_fail_17 S K) {Q : Prop} (k_K : ∀ (a0 : Int32) (a1 : ms), K a0 a1 → (∀ (K' : Int32 → ms → Prop), b_fail_17 S K' ↔ K' a0 a1) → Q) : Q := by
  unfold b_fail_17 at h
  exact k_K _ _ h (fun _ => Iff.rfl)
set_option maxHeartbeats 1000000 in
theorem d_p_fail {x1 : Int32} {x2 : Int32} {S : ms} {K : Int32 → ms → Prop} (h : p_fail x1 x2 S K) {Q : Prop} (k_K : ∀ (a0 : Int32) (a1 : ms), K a0 a1 → (∀ (K' : Int32 → ms → Prop), p_fail x1 x2 S K' ↔ K' a0 a1) → Q) : Q := by
  unfold p_fail at h
  refine dt_n h (fun c_1 h_2 => ?_) (fun c_1 h_2 => ?_)
  ·
    exact d_b_fail_17 h_2 (fun a0 a1 h_4 i_3 => k_K a0 a1 h_4 (fun _ => Iff.trans (dt_1 c_1 c_1) (i_3 _)))
  ·
    exact d_b_fail_17 h_2 (fun a0 a1 h_6 i_5 => k_K a0 a1 h_6 (fun _ => Iff.trans (dt_2 (fun n => n c_1) c_1) (i_5 _)))
set_option maxHeartbeats 1000000 in
theorem d_p_next {S : ms} {K : Int32 → ms → Prop} (h : p_next S K) {Q : Prop} (k_K : ∀ (a0 : Int32) (a1 : ms), K a0 a1 → (∀ (K' : Int32 → ms → Prop), p_next S K' ↔ K' a0 a1) → Q) : Q := by
  unfold p_next at h
  refine dt_p h (fun c_1 h_2 => ?_) (fun c_1 h_2 => ?_)
  ·
    exact k_K _ _ (And.right h_2) (fun _ => Iff.trans (dt_1 c_1 (fun n => n c_1)) (dt_a (And.left h_2)))
  ·
    refine d_p_fail h_2 (fun v17 S17 h_4 i_3 => ?_)
    exact k_K _ _ h_4 (fun _ => Iff.trans (dt_2 c_1 c_1) (i_3 _))
set_option maxHeartbeats 1000000 in
theorem d_p_nextWithin {S : ms} {K : Int32 → ms → Prop} (h : p_nextWithin S K) {Q : Prop} (k_K : ∀ (a0 : Int32) (a1 : ms), K a0 a1 → (∀ (K' : Int32 → ms → Prop), p_nextWithin S K' ↔ K' a0 a1) → Q) : Q := by
  unfold p_nextWithin at h
  refine dt_p h (fun c_1 h_2 => ?_) (fun c_1 h_2 => ?_)
  ·
    refine d_p_next h_2 (fun v24 S24 h_4 i_3 => ?_)
    exact k_K _ _ h_4 (fun _ => Iff.trans (dt_1 c_1 (fun n => n c_1)) (i_3 _))
  ·
    refine d_p_fail h_2 (fun v17 S17 h_6 i_5 => ?_)
    exact k_K _ _ h_6 (fun _ => Iff.trans (dt_2 c_1 c_1) (i_5 _))
set_option maxHeartbeats 1000000 in
theorem d_b_readMark_53 {x2 : Int32} {S : ms} {K : Int32 → ms → Prop} (h : b_readMark_53 x2 S K) {Q : Prop} (k_K : ∀ (a0 : Int32) (a1 : ms), K a0 a1 → (∀ (K' : Int32 → ms → Prop), b_readMark_53 x2 S K' ↔ K' a0 a1) → Q) : Q := by
  unfold b_readMark_53 at h
  exact k_K _ _ h (fun _ => Iff.rfl)
set_option maxHeartbeats 1000000 in
theorem d_b_readMark_31 {x2 : Int32} {S : ms} {R31 : Int32 → ms → Prop} {K : Int32 → ms → Prop} (h : b_readMark_31 x2 S R31 K) {Q : Prop} (k_R31 : ∀ (a0 : Int32) (a1 : ms), R31 a0 a1 → (∀ (R31' : Int32 → ms → Prop) (K' : Int32 → ms → Prop), b_readMark_31 x2 S R31' K' ↔ R31' a0 a1) → Q) (k_K : ∀ (a0 : Int32) (a1 : ms), K a0 a1 → (∀ (R31' : Int32 → ms → Prop) (K' : Int32 → ms → Prop), b_readMark_31 x2 S R31' K' ↔ K' a0 a1) → Q) : Q := by
  unfold b_readMark_31 at h
  refine dt_n h (fun c_1 h_2 => ?_) (fun c_1 h_2 => ?_)
  ·
    exact d_b_readMark_53 h_2 (fun a0 a1 h_4 i_3 => k_K a0 a1 h_4 (fun _ _ => Iff.trans (dt_1 c_1 c_1) (i_3 _)))
  ·
    refine dt_n h_2 (fun c_5 h_6 => ?_) (fun c_5 h_6 => ?_)
    ·
      exact d_b_readMark_53 h_6 (fun a0 a1 h_8 i_7 => k_K a0 a1 h_8 (fun _ _ => Iff.trans (dt_2 (fun n => n c_1) c_1) (Iff.trans (dt_1 c_5 c_5) (i_7 _))))
    ·
      refine d_p_next h_6 (fun v46 S46 h_10 i_9 => ?_)
      exact k_R31 _ _ h_10 (fun _ _ => Iff.trans (dt_2 (fun n => n c_1) c_1) (Iff.trans (dt_2 (fun n => n c_5) c_5) (i_9 _)))
theorem l_e_readMark_31  {x2 : Int32} {S : ms} {K : Int32 → ms → Prop} : e_readMark_31 x2 S K ↔ lpE (C := (Int32 → ms → Prop)) (fun (y : (Int32) × (ms)) (R : ((Int32) × (ms)) → Prop) (c : (Int32 → ms → Prop)) => b_readMark_31 y.1 y.2 (fun z0 z1 => R (z0, z1)) c) (x2, S) K :=
  ⟨fun ⟨I, μ, h0, hs⟩ => ⟨fun t => I t.1 t.2, fun t => μ t.1 t.2, h0, fun t ht => hs _ _ ht⟩, fun ⟨I, μ, h0, hs⟩ => ⟨fun y0 y1 => I (y0, y1), fun y0 y1 => μ (y0, y1), h0, fun y0 y1 hy => hs (y0, y1) hy⟩⟩
set_option maxHeartbeats 1000000 in
theorem d_e_readMark_31 {x2 : Int32} {S : ms} {K : Int32 → ms → Prop} (h : e_readMark_31 x2 S K) {Q : Prop} (k_K : ∀ (a0 : Int32) (a1 : ms), K a0 a1 → (∀ (K' : Int32 → ms → Prop), e_readMark_31 x2 S K' ↔ K' a0 a1) → Q) : Q := by
  obtain ⟨o, ho, hoc, hi⟩ := lp_det (C := (Int32 → ms → Prop)) (b := (fun (y : (Int32) × (ms)) (R : ((Int32) × (ms)) → Prop) (c : (Int32 → ms → Prop)) => b_readMark_31 y.1 y.2 (fun z0 z1 => R (z0, z1)) c)) (O := (fun (o : ((Int32 → ms → Prop)) → Prop) => (∃ (a0 : Int32) (a1 : ms), o = fun c => c a0 a1))) (fun y R c hy => d_b_readMark_31 hy (fun a0 a1 ha ia => Or.inl ⟨(a0, a1), ha, fun R' c' => ia (fun z0 z1 => R' (z0, z1)) c'⟩) (fun a0 a1 ha ia => Or.inr ⟨(fun c => c a0 a1), ⟨a0, a1, rfl⟩, ha, fun R' c' => ia (fun z0 z1 => R' (z0, z1)) c'⟩)) (l_e_readMark_31.mp h)
  rcases ho with ⟨a0, a1, rfl⟩
  · exact k_K _ _ hoc (fun K' => Iff.trans l_e_readMark_31 (hi K'))
theorem v_e_readMark_31 {x2 : Int32} {S : ms} {K : Int32 → ms → Prop} (h : e_readMark_31 x2 S K) {G : Prop} (Inv : Int32 → ms → Prop) (h0 : Inv x2 S) (hs : ∀ (yx2 : Int32) (yS : ms) (R : Int32 → ms → Prop), Inv yx2 yS → b_readMark_31 yx2 yS R K → (∃ (zx2 : Int32) (zS : ms), R zx2 zS ∧ Inv zx2 zS) ∨ G) : G := by
  obtain ⟨I, μ, i0, is⟩ := h
  have go : ∀ (n : Nat) (yx2 : Int32) (yS : ms), μ yx2 yS < n → I yx2 yS → Inv yx2 yS → G := by
    intro n
    induction n with
    | zero => intro yx2 yS hy; exact absurd hy (Nat.not_lt_zero _)
    | succ n ih =>
      intro yx2 yS hy hI hV
      rcases hs yx2 yS _ hV (is yx2 yS hI) with ⟨zx2, zS, ⟨hz, hm⟩, hv⟩ | g
      · exact ih zx2 zS (Nat.lt_of_lt_of_le hm (Nat.le_of_lt_succ hy)) hz hv
      · exact g
  exact go _ x2 S (Nat.lt_succ_self _) i0 h0
theorem r_e_readMark_31 {x2 : Int32} {S : ms} {K : Int32 → ms → Prop} (h : e_readMark_31 x2 S K) : b_readMark_31 x2 S (fun zx2 zS => e_readMark_31 zx2 zS K) K := by
  obtain ⟨I, μ, i0, is⟩ := h
  exact d_b_readMark_31 (is x2 S i0) (fun a0 a1 ha ia => (ia _ _).mpr ⟨I, μ, ha.1, is⟩) (fun a0 a1 ha ia => (ia _ _).mpr ha)
set_option maxHeartbeats 1000000 in
theorem d_p_readMark {S : ms} {K : Int32 → ms → Prop} (h : p_readMark S K) {Q : Prop} (k_K : ∀ (a0 : Int32) (a1 : ms), K a0 a1 → (∀ (K' : Int32 → ms → Prop), p_readMark S K' ↔ K' a0 a1) → Q) : Q := by
  unfold p_readMark at h
  refine d_p_next h (fun v6 S6 h_2 i_1 => ?_)
  refine dt_n h_2 (fun c_3 h_4 => ?_) (fun c_3 h_4 => ?_)
  ·
    exact d_e_readMark_31 h_4 (fun a0 a1 h_6 i_5 => k_K a0 a1 h_6 (fun _ => Iff.trans (i_1 _) (Iff.trans (dt_1 c_3 c_3) (i_5 _))))
  ·
    refine dt_p h_4 (fun c_7 h_8 => ?_) (fun c_7 h_8 => ?_)
    ·
      exact d_e_readMark_31 h_8 (fun a0 a1 h_10 i_9 => k_K a0 a1 h_10 (fun _ => Iff.trans (i_1 _) (Iff.trans (dt_2 (fun n => n c_3) c_3) (Iff.trans (dt_1 c_7 (fun n => n c_7)) (i_9 _)))))
    ·
      refine d_p_fail h_8 (fun v27 S27 h_12 i_11 => ?_)
      exact d_e_readMark_31 h_12 (fun a0 a1 h_14 i_13 => k_K a0 a1 h_14 (fun _ => Iff.trans (i_1 _) (Iff.trans (dt_2 (fun n => n c_3) c_3) (Iff.trans (dt_2 c_7 c_7) (Iff.trans (i_11 _) (i_13 _))))))
set_option maxHeartbeats 1000000 in
theorem d_p_nextTwo {S : ms} {K : Int32 → ms → Prop} (h : p_nextTwo S K) {Q : Prop} (k_K : ∀ (a0 : Int32) (a1 : ms), K a0 a1 → (∀ (K' : Int32 → ms → Prop), p_nextTwo S K' ↔ K' a0 a1) → Q) : Q := by
  unfold p_nextTwo at h
  refine d_p_next h (fun v1 S1 h_2 i_1 => ?_)
  refine d_p_next h_2 (fun v6 S6 h_4 i_3 => ?_)
  exact k_K _ _ h_4 (fun _ => Iff.trans (i_1 _) (i_3 _))
set_option maxHeartbeats 1000000 in
theorem d_b_readLength_45 {S : ms} {K : ms → Prop} (h : b_readLength_45 S K) {Q : Prop} (k_K : ∀ (a0 : ms), K a0 → (∀ (K' : ms → Prop), b_readLength_45 S K' ↔ K' a0) → Q) : Q := by
  unfold b_readLength_45 at h
  exact k_K _ h (fun _ => Iff.rfl)
set_option maxHeartbeats 1000000 in
theorem d_p_readLength {S : ms} {K : ms → Prop} (h : p_readLength S K) {Q : Prop} (k_K : ∀ (a0 : ms), K a0 → (∀ (K' : ms → Prop), p_readLength S K' ↔ K' a0) → Q) : Q := by
  unfold p_readLength at h
  refine d_p_nextTwo h (fun v9 S9 h_2 i_1 => ?_)
  refine dt_n h_2 (fun c_3 h_4 => ?_) (fun c_3 h_4 => ?_)
  ·
    exact d_b_readLength_45 h_4 (fun a0 h_6 i_5 => k_K a0 h_6 (fun _ => Iff.trans (i_1 _) (Iff.trans (dt_1 c_3 c_3) (i_5 _))))
  ·
    refine dt_p h_4 (fun c_7 h_8 => ?_) (fun c_7 h_8 => ?_)
    ·
      exact d_b_readLength_45 h_8 (fun a0 h_10 i_9 => k_K a0 h_10 (fun _ => Iff.trans (i_1 _) (Iff.trans (dt_2 (fun n => n c_3) c_3) (Iff.trans (dt_1 c_7 (fun n => n c_7)) (i_9 _)))))
    ·
      refine d_p_fail h_8 (fun v41 S41 h_12 i_11 => ?_)
      exact d_b_readLength_45 h_12 (fun a0 h_14 i_13 => k_K a0 h_14 (fun _ => Iff.trans (i_1 _) (Iff.trans (dt_2 (fun n => n c_3) c_3) (Iff.trans (dt_2 c_7 c_7) (Iff.trans (i_11 _) (i_13 _))))))
set_option maxHeartbeats 1000000 in
theorem d_b_must_18 {S : ms} {K : ms → Prop} (h : b_must_18 S K) {Q : Prop} (k_K : ∀ (a0 : ms), K a0 → (∀ (K' : ms → Prop), b_must_18 S K' ↔ K' a0) → Q) : Q := by
  unfold b_must_18 at h
  exact k_K _ h (fun _ => Iff.rfl)
set_option maxHeartbeats 1000000 in
theorem d_p_must {x1 : Int32} {x2 : Int32} {S : ms} {K : ms → Prop} (h : p_must x1 x2 S K) {Q : Prop} (k_K : ∀ (a0 : ms), K a0 → (∀ (K' : ms → Prop), p_must x1 x2 S K' ↔ K' a0) → Q) : Q := by
  unfold p_must at h
  refine dt_n h (fun c_1 h_2 => ?_) (fun c_1 h_2 => ?_)
  ·
    exact d_b_must_18 h_2 (fun a0 h_4 i_3 => k_K a0 h_4 (fun _ => Iff.trans (dt_1 c_1 c_1) (i_3 _)))
  ·
    refine dt_n h_2 (fun c_5 h_6 => ?_) (fun c_5 h_6 => ?_)
    ·
      exact d_b_must_18 h_6 (fun a0 h_8 i_7 => k_K a0 h_8 (fun _ => Iff.trans (dt_2 (fun n => n c_1) c_1) (Iff.trans (dt_1 c_5 c_5) (i_7 _))))
    ·
      refine d_p_fail h_6 (fun v14 S14 h_10 i_9 => ?_)
      exact d_b_must_18 h_10 (fun a0 h_12 i_11 => k_K a0 h_12 (fun _ => Iff.trans (dt_2 (fun n => n c_1) c_1) (Iff.trans (dt_2 (fun n => n c_5) c_5) (Iff.trans (i_9 _) (i_11 _)))))
