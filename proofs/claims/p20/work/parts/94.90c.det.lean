/-! WHERE ORDER AND WAVES STAY -/
def rj (S0 M : ms) : Prop := ∀ q, 22 ≤ q → q ≤ 23 → M.2.1 q = S0.2.1 q
theorem rj_w {f g : Nat → Nat → Int32} {r : Nat} {w : Nat → Int32} (h : ∀ q, 22 ≤ q → q ≤ 23 → f q = g q) (hr : ¬ (22 ≤ r ∧ r ≤ 23)) : ∀ q, 22 ≤ q → q ≤ 23 → va_up f r w q = g q := fun q h1 h2 => by
  rw [up_ne (fun e => hr (by rw [← e]; exact ⟨h1, h2⟩))]
  exact h q h1 h2

set_option maxHeartbeats 1000000 in
theorem rj_b_greatest_59 {S0 : ms} {x1 : Int32} {x2 : Int32} {x4 : Int32} {s0 : Int32} {S : ms} {R5 : Int32 → Int32 → Int32 → Int32 → ms → Prop} {K : Int32 → ms → Prop} (h : b_greatest_59 x1 x2 x4 s0 S R5 K) (hf : rj S0 S) {Q : Prop} (k_R5 : ∀ (a0 : Int32) (a1 : Int32) (a2 : Int32) (a3 : Int32) (a4 : ms), R5 a0 a1 a2 a3 a4 → rj S0 a4 → Q) (k_K : ∀ (a0 : Int32) (a1 : ms), K a0 a1 → rj S0 a1 → Q) : Q := by
  unfold b_greatest_59 at h
  exact k_R5 _ _ _ _ _ h hf
set_option maxHeartbeats 1000000 in
theorem rj_b_greatest_45 {S0 : ms} {x1 : Int32} {x2 : Int32} {x3 : Int32} {x4 : Int32} {s0 : Int32} {S : ms} {R5 : Int32 → Int32 → Int32 → Int32 → ms → Prop} {K : Int32 → ms → Prop} (h : b_greatest_45 x1 x2 x3 x4 s0 S R5 K) (hf : rj S0 S) {Q : Prop} (k_R5 : ∀ (a0 : Int32) (a1 : Int32) (a2 : Int32) (a3 : Int32) (a4 : ms), R5 a0 a1 a2 a3 a4 → rj S0 a4 → Q) (k_K : ∀ (a0 : Int32) (a1 : ms), K a0 a1 → rj S0 a1 → Q) : Q := by
  unfold b_greatest_45 at h
  refine dt_p h (fun c_1 h_2 => ?_) (fun c_1 h_2 => ?_)
  ·
    exact rj_b_greatest_59 h_2 hf k_R5 k_K
  ·
    exact rj_b_greatest_59 h_2 hf k_R5 k_K
set_option maxHeartbeats 1000000 in
theorem rj_b_greatest_5 {S0 : ms} {x1 : Int32} {x2 : Int32} {x3 : Int32} {x4 : Int32} {S : ms} {R5 : Int32 → Int32 → Int32 → Int32 → ms → Prop} {K : Int32 → ms → Prop} (h : b_greatest_5 x1 x2 x3 x4 S R5 K) (hf : rj S0 S) {Q : Prop} (k_R5 : ∀ (a0 : Int32) (a1 : Int32) (a2 : Int32) (a3 : Int32) (a4 : ms), R5 a0 a1 a2 a3 a4 → rj S0 a4 → Q) (k_K : ∀ (a0 : Int32) (a1 : ms), K a0 a1 → rj S0 a1 → Q) : Q := by
  unfold b_greatest_5 at h
  refine dt_p (And.right h) (fun c_1 h_2 => ?_) (fun c_1 h_2 => ?_)
  ·
    exact k_K _ _ h_2 hf
  ·
    refine dt_p h_2 (fun c_3 h_4 => ?_) (fun c_3 h_4 => ?_)
    ·
      exact rj_b_greatest_45 (And.right h_4) hf k_R5 k_K
    ·
      exact rj_b_greatest_45 (And.right h_4) hf k_R5 k_K
theorem rj_e_greatest_5 {S0 : ms} {x1 : Int32} {x2 : Int32} {x3 : Int32} {x4 : Int32} {S : ms} {K : Int32 → ms → Prop} (h : e_greatest_5 x1 x2 x3 x4 S K) (hf : rj S0 S) {Q : Prop} (k_K : ∀ (a0 : Int32) (a1 : ms), K a0 a1 → rj S0 a1 → Q) : Q := by
  obtain ⟨I, μ, i0, is⟩ := h
  have go : ∀ (n : Nat) (yx1 : Int32) (yx2 : Int32) (yx3 : Int32) (yx4 : Int32) (yS : ms), μ yx1 yx2 yx3 yx4 yS < n → I yx1 yx2 yx3 yx4 yS → rj S0 yS → Q := by
    intro n
    induction n with
    | zero => intro yx1 yx2 yx3 yx4 yS hy; exact absurd hy (Nat.not_lt_zero _)
    | succ n ih =>
      intro yx1 yx2 yx3 yx4 yS hy hI hV
      exact rj_b_greatest_5 (is yx1 yx2 yx3 yx4 yS hI) hV (fun a0 a1 a2 a3 a4 hR hz => ih a0 a1 a2 a3 a4 (Nat.lt_of_lt_of_le hR.2 (Nat.le_of_lt_succ hy)) hR.1 hz) k_K
  exact go _ x1 x2 x3 x4 S (Nat.lt_succ_self _) i0 hf
set_option maxHeartbeats 1000000 in
theorem rj_p_greatest {S0 : ms} {x1 : Int32} {x2 : Int32} {S : ms} {K : Int32 → ms → Prop} (h : p_greatest x1 x2 S K) (hf : rj S0 S) {Q : Prop} (k_K : ∀ (a0 : Int32) (a1 : ms), K a0 a1 → rj S0 a1 → Q) : Q := by
  unfold p_greatest at h
  exact rj_e_greatest_5 h hf k_K
set_option maxHeartbeats 1000000 in
theorem rj_b_makeGrids_109 {S0 : ms} {x1 : Int32} {x4 : Int32} {S : ms} {R109 : Int32 → Int32 → ms → Prop} {K : ms → Prop} (h : b_makeGrids_109 x1 x4 S R109 K) (hf : rj S0 S) {Q : Prop} (k_R109 : ∀ (a0 : Int32) (a1 : Int32) (a2 : ms), R109 a0 a1 a2 → rj S0 a2 → Q) (k_K : ∀ (a0 : ms), K a0 → rj S0 a0 → Q) : Q := by
  unfold b_makeGrids_109 at h
  refine dt_p h (fun c_1 h_2 => ?_) (fun c_1 h_2 => ?_)
  ·
    exact k_K _ h_2 hf
  ·
    exact k_R109 _ _ _ (And.right h_2) (rj_w hf (by decide))
theorem rj_e_makeGrids_109 {S0 : ms} {x1 : Int32} {x4 : Int32} {S : ms} {K : ms → Prop} (h : e_makeGrids_109 x1 x4 S K) (hf : rj S0 S) {Q : Prop} (k_K : ∀ (a0 : ms), K a0 → rj S0 a0 → Q) : Q := by
  obtain ⟨I, μ, i0, is⟩ := h
  have go : ∀ (n : Nat) (yx1 : Int32) (yx4 : Int32) (yS : ms), μ yx1 yx4 yS < n → I yx1 yx4 yS → rj S0 yS → Q := by
    intro n
    induction n with
    | zero => intro yx1 yx4 yS hy; exact absurd hy (Nat.not_lt_zero _)
    | succ n ih =>
      intro yx1 yx4 yS hy hI hV
      exact rj_b_makeGrids_109 (is yx1 yx4 yS hI) hV (fun a0 a1 a2 hR hz => ih a0 a1 a2 (Nat.lt_of_lt_of_le hR.2 (Nat.le_of_lt_succ hy)) hR.1 hz) k_K
  exact go _ x1 x4 S (Nat.lt_succ_self _) i0 hf
set_option maxHeartbeats 1000000 in
theorem rj_b_makeGrids_17 {S0 : ms} {x1 : Int32} {x2 : Int32} {x3 : Int32} {x4 : Int32} {S : ms} {R17 : Int32 → Int32 → Int32 → Int32 → ms → Prop} {K : ms → Prop} (h : b_makeGrids_17 x1 x2 x3 x4 S R17 K) (hf : rj S0 S) {Q : Prop} (k_R17 : ∀ (a0 : Int32) (a1 : Int32) (a2 : Int32) (a3 : Int32) (a4 : ms), R17 a0 a1 a2 a3 a4 → rj S0 a4 → Q) (k_K : ∀ (a0 : ms), K a0 → rj S0 a0 → Q) : Q := by
  unfold b_makeGrids_17 at h
  refine dt_p (And.right h) (fun c_1 h_2 => ?_) (fun c_1 h_2 => ?_)
  ·
    exact rj_e_makeGrids_109 h_2 hf k_K
  ·
    refine d_p_upward (And.right (And.right h_2)) (fun v59 h_5 _ => ?_)
    refine d_p_upward (And.right (And.right (And.right h_5))) (fun v95 h_6 _ => ?_)
    exact k_R17 _ _ _ _ _ (And.right h_6) (rj_w (rj_w hf (by decide)) (by decide))
theorem rj_e_makeGrids_17 {S0 : ms} {x1 : Int32} {x2 : Int32} {x3 : Int32} {x4 : Int32} {S : ms} {K : ms → Prop} (h : e_makeGrids_17 x1 x2 x3 x4 S K) (hf : rj S0 S) {Q : Prop} (k_K : ∀ (a0 : ms), K a0 → rj S0 a0 → Q) : Q := by
  obtain ⟨I, μ, i0, is⟩ := h
  have go : ∀ (n : Nat) (yx1 : Int32) (yx2 : Int32) (yx3 : Int32) (yx4 : Int32) (yS : ms), μ yx1 yx2 yx3 yx4 yS < n → I yx1 yx2 yx3 yx4 yS → rj S0 yS → Q := by
    intro n
    induction n with
    | zero => intro yx1 yx2 yx3 yx4 yS hy; exact absurd hy (Nat.not_lt_zero _)
    | succ n ih =>
      intro yx1 yx2 yx3 yx4 yS hy hI hV
      exact rj_b_makeGrids_17 (is yx1 yx2 yx3 yx4 yS hI) hV (fun a0 a1 a2 a3 a4 hR hz => ih a0 a1 a2 a3 a4 (Nat.lt_of_lt_of_le hR.2 (Nat.le_of_lt_succ hy)) hR.1 hz) k_K
  exact go _ x1 x2 x3 x4 S (Nat.lt_succ_self _) i0 hf
set_option maxHeartbeats 1000000 in
theorem rj_p_makeGrids {S0 : ms} {x1 : Int32} {S : ms} {K : ms → Prop} (h : p_makeGrids x1 S K) (hf : rj S0 S) {Q : Prop} (k_K : ∀ (a0 : ms), K a0 → rj S0 a0 → Q) : Q := by
  unfold p_makeGrids at h
  refine rj_p_greatest h hf (fun v3 S3 h_1 f_2 => ?_)
  refine rj_p_greatest h_1 f_2 (fun v10 S10 h_3 f_4 => ?_)
  exact rj_e_makeGrids_17 h_3 f_4 k_K
set_option maxHeartbeats 1000000 in
theorem rj_p_layerWide {S0 : ms} {x1 : Int32} {x2 : Int32} {S : ms} {K : Int32 → ms → Prop} (h : p_layerWide x1 x2 S K) (hf : rj S0 S) {Q : Prop} (k_K : ∀ (a0 : Int32) (a1 : ms), K a0 a1 → rj S0 a1 → Q) : Q := by
  unfold p_layerWide at h
  refine rj_p_greatest (And.right (And.right h)) hf (fun v20 S20 h_1 f_2 => ?_)
  refine d_p_upward h_1 (fun v23 h_3 _ => ?_)
  exact k_K _ _ h_3 f_2
set_option maxHeartbeats 1000000 in
theorem rj_p_layerHigh {S0 : ms} {x1 : Int32} {x2 : Int32} {S : ms} {K : Int32 → ms → Prop} (h : p_layerHigh x1 x2 S K) (hf : rj S0 S) {Q : Prop} (k_K : ∀ (a0 : Int32) (a1 : ms), K a0 a1 → rj S0 a1 → Q) : Q := by
  unfold p_layerHigh at h
  refine rj_p_greatest (And.right (And.right h)) hf (fun v20 S20 h_1 f_2 => ?_)
  refine d_p_upward h_1 (fun v23 h_3 _ => ?_)
  exact k_K _ _ h_3 f_2
set_option maxHeartbeats 1000000 in
theorem rj_b_fail_17 {S0 : ms} {S : ms} {K : Int32 → ms → Prop} (h : b_fail_17 S K) (hf : rj S0 S) {Q : Prop} (k_K : ∀ (a0 : Int32) (a1 : ms), K a0 a1 → rj S0 a1 → Q) : Q := by
  unfold b_fail_17 at h
  exact k_K _ _ h hf
set_option maxHeartbeats 1000000 in
theorem rj_p_fail {S0 : ms} {x1 : Int32} {x2 : Int32} {S : ms} {K : Int32 → ms → Prop} (h : p_fail x1 x2 S K) (hf : rj S0 S) {Q : Prop} (k_K : ∀ (a0 : Int32) (a1 : ms), K a0 a1 → rj S0 a1 → Q) : Q := by
  unfold p_fail at h
  refine dt_n h (fun c_1 h_2 => ?_) (fun c_1 h_2 => ?_)
  ·
    exact rj_b_fail_17 h_2 hf k_K
  ·
    exact rj_b_fail_17 h_2 hf k_K
set_option maxHeartbeats 1000000 in
theorem rj_p_next {S0 : ms} {S : ms} {K : Int32 → ms → Prop} (h : p_next S K) (hf : rj S0 S) {Q : Prop} (k_K : ∀ (a0 : Int32) (a1 : ms), K a0 a1 → rj S0 a1 → Q) : Q := by
  unfold p_next at h
  refine dt_p h (fun c_1 h_2 => ?_) (fun c_1 h_2 => ?_)
  ·
    exact k_K _ _ (And.right h_2) hf
  ·
    refine rj_p_fail h_2 hf (fun v17 S17 h_3 f_4 => ?_)
    exact k_K _ _ h_3 f_4
set_option maxHeartbeats 1000000 in
theorem rj_p_nextWithin {S0 : ms} {S : ms} {K : Int32 → ms → Prop} (h : p_nextWithin S K) (hf : rj S0 S) {Q : Prop} (k_K : ∀ (a0 : Int32) (a1 : ms), K a0 a1 → rj S0 a1 → Q) : Q := by
  unfold p_nextWithin at h
  refine dt_p h (fun c_1 h_2 => ?_) (fun c_1 h_2 => ?_)
  ·
    refine rj_p_next h_2 hf (fun v24 S24 h_3 f_4 => ?_)
    exact k_K _ _ h_3 f_4
  ·
    refine rj_p_fail h_2 hf (fun v17 S17 h_5 f_6 => ?_)
    exact k_K _ _ h_5 f_6
set_option maxHeartbeats 1000000 in
theorem rj_b_readMark_53 {S0 : ms} {x2 : Int32} {S : ms} {K : Int32 → ms → Prop} (h : b_readMark_53 x2 S K) (hf : rj S0 S) {Q : Prop} (k_K : ∀ (a0 : Int32) (a1 : ms), K a0 a1 → rj S0 a1 → Q) : Q := by
  unfold b_readMark_53 at h
  exact k_K _ _ h hf
set_option maxHeartbeats 1000000 in
theorem rj_b_readMark_31 {S0 : ms} {x2 : Int32} {S : ms} {R31 : Int32 → ms → Prop} {K : Int32 → ms → Prop} (h : b_readMark_31 x2 S R31 K) (hf : rj S0 S) {Q : Prop} (k_R31 : ∀ (a0 : Int32) (a1 : ms), R31 a0 a1 → rj S0 a1 → Q) (k_K : ∀ (a0 : Int32) (a1 : ms), K a0 a1 → rj S0 a1 → Q) : Q := by
  unfold b_readMark_31 at h
  refine dt_n h (fun c_1 h_2 => ?_) (fun c_1 h_2 => ?_)
  ·
    exact rj_b_readMark_53 h_2 hf k_K
  ·
    refine dt_n h_2 (fun c_5 h_6 => ?_) (fun c_5 h_6 => ?_)
    ·
      exact rj_b_readMark_53 h_6 hf k_K
    ·
      refine rj_p_next h_6 hf (fun v46 S46 h_9 f_10 => ?_)
      exact k_R31 _ _ h_9 f_10
theorem rj_e_readMark_31 {S0 : ms} {x2 : Int32} {S : ms} {K : Int32 → ms → Prop} (h : e_readMark_31 x2 S K) (hf : rj S0 S) {Q : Prop} (k_K : ∀ (a0 : Int32) (a1 : ms), K a0 a1 → rj S0 a1 → Q) : Q := by
  obtain ⟨I, μ, i0, is⟩ := h
  have go : ∀ (n : Nat) (yx2 : Int32) (yS : ms), μ yx2 yS < n → I yx2 yS → rj S0 yS → Q := by
    intro n
    induction n with
    | zero => intro yx2 yS hy; exact absurd hy (Nat.not_lt_zero _)
    | succ n ih =>
      intro yx2 yS hy hI hV
      exact rj_b_readMark_31 (is yx2 yS hI) hV (fun a0 a1 hR hz => ih a0 a1 (Nat.lt_of_lt_of_le hR.2 (Nat.le_of_lt_succ hy)) hR.1 hz) k_K
  exact go _ x2 S (Nat.lt_succ_self _) i0 hf
set_option maxHeartbeats 1000000 in
theorem rj_p_readMark {S0 : ms} {S : ms} {K : Int32 → ms → Prop} (h : p_readMark S K) (hf : rj S0 S) {Q : Prop} (k_K : ∀ (a0 : Int32) (a1 : ms), K a0 a1 → rj S0 a1 → Q) : Q := by
  unfold p_readMark at h
  refine rj_p_next h hf (fun v6 S6 h_1 f_2 => ?_)
  refine dt_n h_1 (fun c_3 h_4 => ?_) (fun c_3 h_4 => ?_)
  ·
    exact rj_e_readMark_31 h_4 f_2 k_K
  ·
    refine dt_p h_4 (fun c_7 h_8 => ?_) (fun c_7 h_8 => ?_)
    ·
      exact rj_e_readMark_31 h_8 f_2 k_K
    ·
      refine rj_p_fail h_8 f_2 (fun v27 S27 h_11 f_12 => ?_)
      exact rj_e_readMark_31 h_11 f_12 k_K
set_option maxHeartbeats 1000000 in
theorem rj_p_nextTwo {S0 : ms} {S : ms} {K : Int32 → ms → Prop} (h : p_nextTwo S K) (hf : rj S0 S) {Q : Prop} (k_K : ∀ (a0 : Int32) (a1 : ms), K a0 a1 → rj S0 a1 → Q) : Q := by
  unfold p_nextTwo at h
  refine rj_p_next h hf (fun v1 S1 h_1 f_2 => ?_)
  refine rj_p_next h_1 f_2 (fun v6 S6 h_3 f_4 => ?_)
  exact k_K _ _ h_3 f_4
set_option maxHeartbeats 1000000 in
theorem rj_b_readLength_45 {S0 : ms} {S : ms} {K : ms → Prop} (h : b_readLength_45 S K) (hf : rj S0 S) {Q : Prop} (k_K : ∀ (a0 : ms), K a0 → rj S0 a0 → Q) : Q := by
  unfold b_readLength_45 at h
  exact k_K _ h hf
set_option maxHeartbeats 1000000 in
theorem rj_p_readLength {S0 : ms} {S : ms} {K : ms → Prop} (h : p_readLength S K) (hf : rj S0 S) {Q : Prop} (k_K : ∀ (a0 : ms), K a0 → rj S0 a0 → Q) : Q := by
  unfold p_readLength at h
  refine rj_p_nextTwo h hf (fun v9 S9 h_1 f_2 => ?_)
  refine dt_n h_1 (fun c_3 h_4 => ?_) (fun c_3 h_4 => ?_)
  ·
    exact rj_b_readLength_45 h_4 f_2 k_K
  ·
    refine dt_p h_4 (fun c_7 h_8 => ?_) (fun c_7 h_8 => ?_)
    ·
      exact rj_b_readLength_45 h_8 f_2 k_K
    ·
      refine rj_p_fail h_8 f_2 (fun v41 S41 h_11 f_12 => ?_)
      exact rj_b_readLength_45 h_11 f_12 k_K
set_option maxHeartbeats 1000000 in
theorem rj_b_must_18 {S0 : ms} {S : ms} {K : ms → Prop} (h : b_must_18 S K) (hf : rj S0 S) {Q : Prop} (k_K : ∀ (a0 : ms), K a0 → rj S0 a0 → Q) : Q := by
  unfold b_must_18 at h
  exact k_K _ h hf
set_option maxHeartbeats 1000000 in
theorem rj_p_must {S0 : ms} {x1 : Int32} {x2 : Int32} {S : ms} {K : ms → Prop} (h : p_must x1 x2 S K) (hf : rj S0 S) {Q : Prop} (k_K : ∀ (a0 : ms), K a0 → rj S0 a0 → Q) : Q := by
  unfold p_must at h
  refine dt_n h (fun c_1 h_2 => ?_) (fun c_1 h_2 => ?_)
  ·
    exact rj_b_must_18 h_2 hf k_K
  ·
    refine dt_n h_2 (fun c_5 h_6 => ?_) (fun c_5 h_6 => ?_)
    ·
      exact rj_b_must_18 h_6 hf k_K
    ·
      refine rj_p_fail h_6 hf (fun v14 S14 h_9 f_10 => ?_)
      exact rj_b_must_18 h_9 f_10 k_K
set_option maxHeartbeats 1000000 in
theorem rj_b_readTables_144 {S0 : ms} {S : ms} {K : ms → Prop} (h : b_readTables_144 S K) (hf : rj S0 S) {Q : Prop} (k_K : ∀ (a0 : ms), K a0 → rj S0 a0 → Q) : Q := by
  unfold b_readTables_144 at h
  exact k_K _ h hf
set_option maxHeartbeats 1000000 in
theorem rj_b_readTables_140 {S0 : ms} {s0 : Int32} {S : ms} {R2 : Int32 → ms → Prop} {K : ms → Prop} (h : b_readTables_140 s0 S R2 K) (hf : rj S0 S) {Q : Prop} (k_R2 : ∀ (a0 : Int32) (a1 : ms), R2 a0 a1 → rj S0 a1 → Q) (k_K : ∀ (a0 : ms), K a0 → rj S0 a0 → Q) : Q := by
  unfold b_readTables_140 at h
  exact k_R2 _ _ h hf
set_option maxHeartbeats 1000000 in
theorem rj_b_readTables_124 {S0 : ms} {S : ms} {R2 : Int32 → ms → Prop} {K : ms → Prop} (h : b_readTables_124 S R2 K) (hf : rj S0 S) {Q : Prop} (k_R2 : ∀ (a0 : Int32) (a1 : ms), R2 a0 a1 → rj S0 a1 → Q) (k_K : ∀ (a0 : ms), K a0 → rj S0 a0 → Q) : Q := by
  unfold b_readTables_124 at h
  refine dt_p h (fun c_1 h_2 => ?_) (fun c_1 h_2 => ?_)
  ·
    exact rj_b_readTables_140 h_2 hf k_R2 k_K
  ·
    exact rj_b_readTables_140 h_2 hf k_R2 k_K
set_option maxHeartbeats 1000000 in
theorem rj_b_readTables_110 {S0 : ms} {x2 : Int32} {S : ms} {R2 : Int32 → ms → Prop} {K : ms → Prop} (h : b_readTables_110 x2 S R2 K) (hf : rj S0 S) {Q : Prop} (k_R2 : ∀ (a0 : Int32) (a1 : ms), R2 a0 a1 → rj S0 a1 → Q) (k_K : ∀ (a0 : ms), K a0 → rj S0 a0 → Q) : Q := by
  unfold b_readTables_110 at h
  refine dt_n h (fun c_1 h_2 => ?_) (fun c_1 h_2 => ?_)
  ·
    exact rj_b_readTables_124 h_2 hf k_R2 k_K
  ·
    exact rj_b_readTables_124 (And.right h_2) (rj_w hf (by decide)) k_R2 k_K
set_option maxHeartbeats 1000000 in
theorem rj_b_readTables_104 {S0 : ms} {x2 : Int32} {x3 : Int32} {S : ms} {R2 : Int32 → ms → Prop} {R40 : Int32 → Int32 → ms → Prop} {K : ms → Prop} (h : b_readTables_104 x2 x3 S R2 R40 K) (hf : rj S0 S) {Q : Prop} (k_R2 : ∀ (a0 : Int32) (a1 : ms), R2 a0 a1 → rj S0 a1 → Q) (k_R40 : ∀ (a0 : Int32) (a1 : Int32) (a2 : ms), R40 a0 a1 a2 → rj S0 a2 → Q) (k_K : ∀ (a0 : ms), K a0 → rj S0 a0 → Q) : Q := by
  unfold b_readTables_104 at h
  exact k_R40 _ _ _ h hf
set_option maxHeartbeats 1000000 in
theorem rj_b_readTables_70 {S0 : ms} {x2 : Int32} {x3 : Int32} {x4 : Int32} {s1 : Int32} {S : ms} {R2 : Int32 → ms → Prop} {R40 : Int32 → Int32 → ms → Prop} {K : ms → Prop} (h : b_readTables_70 x2 x3 x4 s1 S R2 R40 K) (hf : rj S0 S) {Q : Prop} (k_R2 : ∀ (a0 : Int32) (a1 : ms), R2 a0 a1 → rj S0 a1 → Q) (k_R40 : ∀ (a0 : Int32) (a1 : Int32) (a2 : ms), R40 a0 a1 a2 → rj S0 a2 → Q) (k_K : ∀ (a0 : ms), K a0 → rj S0 a0 → Q) : Q := by
  unfold b_readTables_70 at h
  refine rj_p_must h hf (fun S76 h_1 f_2 => ?_)
  refine dt_n h_1 (fun c_3 h_4 => ?_) (fun c_3 h_4 => ?_)
  ·
    exact rj_b_readTables_104 h_4 f_2 k_R2 k_R40 k_K
  ·
    exact rj_b_readTables_104 (And.right (And.right h_4)) (rj_w f_2 (by decide)) k_R2 k_R40 k_K
set_option maxHeartbeats 1000000 in
theorem rj_b_readTables_40 {S0 : ms} {x2 : Int32} {x3 : Int32} {S : ms} {R2 : Int32 → ms → Prop} {R40 : Int32 → Int32 → ms → Prop} {K : ms → Prop} (h : b_readTables_40 x2 x3 S R2 R40 K) (hf : rj S0 S) {Q : Prop} (k_R2 : ∀ (a0 : Int32) (a1 : ms), R2 a0 a1 → rj S0 a1 → Q) (k_R40 : ∀ (a0 : Int32) (a1 : Int32) (a2 : ms), R40 a0 a1 a2 → rj S0 a2 → Q) (k_K : ∀ (a0 : ms), K a0 → rj S0 a0 → Q) : Q := by
  unfold b_readTables_40 at h
  refine dt_p h (fun c_1 h_2 => ?_) (fun c_1 h_2 => ?_)
  ·
    exact rj_b_readTables_110 h_2 hf k_R2 k_K
  ·
    refine dt_n h_2 (fun c_7 h_8 => ?_) (fun c_7 h_8 => ?_)
    ·
      exact rj_b_readTables_110 h_8 hf k_R2 k_K
    ·
      refine rj_p_nextWithin h_8 hf (fun v54 S54 h_13 f_14 => ?_)
      refine dt_p h_13 (fun c_15 h_16 => ?_) (fun c_15 h_16 => ?_)
      ·
        exact rj_b_readTables_70 h_16 f_14 k_R2 k_R40 k_K
      ·
        exact rj_b_readTables_70 h_16 f_14 k_R2 k_R40 k_K
theorem rj_e_readTables_40 {S0 : ms} {x2 : Int32} {x3 : Int32} {S : ms} {R2 : Int32 → ms → Prop} {K : ms → Prop} (h : e_readTables_40 x2 x3 S R2 K) (hf : rj S0 S) {Q : Prop} (k_R2 : ∀ (a0 : Int32) (a1 : ms), R2 a0 a1 → rj S0 a1 → Q) (k_K : ∀ (a0 : ms), K a0 → rj S0 a0 → Q) : Q := by
  obtain ⟨I, μ, i0, is⟩ := h
  have go : ∀ (n : Nat) (yx2 : Int32) (yx3 : Int32) (yS : ms), μ yx2 yx3 yS < n → I yx2 yx3 yS → rj S0 yS → Q := by
    intro n
    induction n with
    | zero => intro yx2 yx3 yS hy; exact absurd hy (Nat.not_lt_zero _)
    | succ n ih =>
      intro yx2 yx3 yS hy hI hV
      exact rj_b_readTables_40 (is yx2 yx3 yS hI) hV k_R2 (fun a0 a1 a2 hR hz => ih a0 a1 a2 (Nat.lt_of_lt_of_le hR.2 (Nat.le_of_lt_succ hy)) hR.1 hz) k_K
  exact go _ x2 x3 S (Nat.lt_succ_self _) i0 hf
set_option maxHeartbeats 1000000 in
theorem rj_b_readTables_29 {S0 : ms} {x2 : Int32} {s1 : Int32} {S : ms} {R2 : Int32 → ms → Prop} {K : ms → Prop} (h : b_readTables_29 x2 s1 S R2 K) (hf : rj S0 S) {Q : Prop} (k_R2 : ∀ (a0 : Int32) (a1 : ms), R2 a0 a1 → rj S0 a1 → Q) (k_K : ∀ (a0 : ms), K a0 → rj S0 a0 → Q) : Q := by
  unfold b_readTables_29 at h
  refine rj_p_must h hf (fun S35 h_1 f_2 => ?_)
  exact rj_e_readTables_40 h_1 f_2 k_R2 k_K
set_option maxHeartbeats 1000000 in
theorem rj_b_readTables_2 {S0 : ms} {x1 : Int32} {S : ms} {R2 : Int32 → ms → Prop} {K : ms → Prop} (h : b_readTables_2 x1 S R2 K) (hf : rj S0 S) {Q : Prop} (k_R2 : ∀ (a0 : Int32) (a1 : ms), R2 a0 a1 → rj S0 a1 → Q) (k_K : ∀ (a0 : ms), K a0 → rj S0 a0 → Q) : Q := by
  unfold b_readTables_2 at h
  refine dt_p h (fun c_1 h_2 => ?_) (fun c_1 h_2 => ?_)
  ·
    exact rj_b_readTables_144 h_2 hf k_K
  ·
    refine dt_n h_2 (fun c_5 h_6 => ?_) (fun c_5 h_6 => ?_)
    ·
      exact rj_b_readTables_144 h_6 hf k_K
    ·
      refine rj_p_nextWithin h_6 hf (fun v14 S14 h_9 f_10 => ?_)
      refine dt_p h_9 (fun c_11 h_12 => ?_) (fun c_11 h_12 => ?_)
      ·
        exact rj_b_readTables_29 h_12 f_10 k_R2 k_K
      ·
        exact rj_b_readTables_29 h_12 f_10 k_R2 k_K
theorem rj_e_readTables_2 {S0 : ms} {x1 : Int32} {S : ms} {K : ms → Prop} (h : e_readTables_2 x1 S K) (hf : rj S0 S) {Q : Prop} (k_K : ∀ (a0 : ms), K a0 → rj S0 a0 → Q) : Q := by
  obtain ⟨I, μ, i0, is⟩ := h
  have go : ∀ (n : Nat) (yx1 : Int32) (yS : ms), μ yx1 yS < n → I yx1 yS → rj S0 yS → Q := by
    intro n
    induction n with
    | zero => intro yx1 yS hy; exact absurd hy (Nat.not_lt_zero _)
    | succ n ih =>
      intro yx1 yS hy hI hV
      exact rj_b_readTables_2 (is yx1 yS hI) hV (fun a0 a1 hR hz => ih a0 a1 (Nat.lt_of_lt_of_le hR.2 (Nat.le_of_lt_succ hy)) hR.1 hz) k_K
  exact go _ x1 S (Nat.lt_succ_self _) i0 hf
set_option maxHeartbeats 1000000 in
theorem rj_p_readTables {S0 : ms} {S : ms} {K : ms → Prop} (h : p_readTables S K) (hf : rj S0 S) {Q : Prop} (k_K : ∀ (a0 : ms), K a0 → rj S0 a0 → Q) : Q := by
  unfold p_readTables at h
  exact rj_e_readTables_2 h hf k_K
set_option maxHeartbeats 1000000 in
theorem rj_b_readCodes_362 {S0 : ms} {S : ms} {K : ms → Prop} (h : b_readCodes_362 S K) (hf : rj S0 S) {Q : Prop} (k_K : ∀ (a0 : ms), K a0 → rj S0 a0 → Q) : Q := by
  unfold b_readCodes_362 at h
  exact k_K _ h hf
set_option maxHeartbeats 1000000 in
theorem rj_b_readCodes_358 {S0 : ms} {s0 : Int32} {S : ms} {R2 : Int32 → ms → Prop} {K : ms → Prop} (h : b_readCodes_358 s0 S R2 K) (hf : rj S0 S) {Q : Prop} (k_R2 : ∀ (a0 : Int32) (a1 : ms), R2 a0 a1 → rj S0 a1 → Q) (k_K : ∀ (a0 : ms), K a0 → rj S0 a0 → Q) : Q := by
  unfold b_readCodes_358 at h
  exact k_R2 _ _ h hf
set_option maxHeartbeats 1000000 in
theorem rj_b_readCodes_342 {S0 : ms} {S : ms} {R2 : Int32 → ms → Prop} {K : ms → Prop} (h : b_readCodes_342 S R2 K) (hf : rj S0 S) {Q : Prop} (k_R2 : ∀ (a0 : Int32) (a1 : ms), R2 a0 a1 → rj S0 a1 → Q) (k_K : ∀ (a0 : ms), K a0 → rj S0 a0 → Q) : Q := by
  unfold b_readCodes_342 at h
  refine dt_p h (fun c_1 h_2 => ?_) (fun c_1 h_2 => ?_)
  ·
    exact rj_b_readCodes_358 h_2 hf k_R2 k_K
  ·
    exact rj_b_readCodes_358 h_2 hf k_R2 k_K
set_option maxHeartbeats 1000000 in
theorem rj_b_readCodes_328 {S0 : ms} {x3 : Int32} {S : ms} {R2 : Int32 → ms → Prop} {K : ms → Prop} (h : b_readCodes_328 x3 S R2 K) (hf : rj S0 S) {Q : Prop} (k_R2 : ∀ (a0 : Int32) (a1 : ms), R2 a0 a1 → rj S0 a1 → Q) (k_K : ∀ (a0 : ms), K a0 → rj S0 a0 → Q) : Q := by
  unfold b_readCodes_328 at h
  refine dt_n h (fun c_1 h_2 => ?_) (fun c_1 h_2 => ?_)
  ·
    exact rj_b_readCodes_342 h_2 hf k_R2 k_K
  ·
    exact rj_b_readCodes_342 (And.right h_2) (rj_w hf (by decide)) k_R2 k_K
set_option maxHeartbeats 1000000 in
theorem rj_b_readCodes_322 {S0 : ms} {x3 : Int32} {x5 : Int32} {x8 : Int32} {S : ms} {R2 : Int32 → ms → Prop} {R213 : Int32 → Int32 → Int32 → ms → Prop} {K : ms → Prop} (h : b_readCodes_322 x3 x5 x8 S R2 R213 K) (hf : rj S0 S) {Q : Prop} (k_R2 : ∀ (a0 : Int32) (a1 : ms), R2 a0 a1 → rj S0 a1 → Q) (k_R213 : ∀ (a0 : Int32) (a1 : Int32) (a2 : Int32) (a3 : ms), R213 a0 a1 a2 a3 → rj S0 a3 → Q) (k_K : ∀ (a0 : ms), K a0 → rj S0 a0 → Q) : Q := by
  unfold b_readCodes_322 at h
  exact k_R213 _ _ _ _ h hf
set_option maxHeartbeats 1000000 in
theorem rj_b_readCodes_291 {S0 : ms} {x3 : Int32} {x5 : Int32} {x8 : Int32} {x9 : Int32} {s1 : Int32} {S : ms} {R2 : Int32 → ms → Prop} {R213 : Int32 → Int32 → Int32 → ms → Prop} {K : ms → Prop} (h : b_readCodes_291 x3 x5 x8 x9 s1 S R2 R213 K) (hf : rj S0 S) {Q : Prop} (k_R2 : ∀ (a0 : Int32) (a1 : ms), R2 a0 a1 → rj S0 a1 → Q) (k_R213 : ∀ (a0 : Int32) (a1 : Int32) (a2 : Int32) (a3 : ms), R213 a0 a1 a2 a3 → rj S0 a3 → Q) (k_K : ∀ (a0 : ms), K a0 → rj S0 a0 → Q) : Q := by
  unfold b_readCodes_291 at h
  refine rj_p_must h hf (fun S297 h_1 f_2 => ?_)
  refine dt_n h_1 (fun c_3 h_4 => ?_) (fun c_3 h_4 => ?_)
  ·
    exact rj_b_readCodes_322 h_4 f_2 k_R2 k_R213 k_K
  ·
    exact rj_b_readCodes_322 (And.right h_4) (rj_w f_2 (by decide)) k_R2 k_R213 k_K
set_option maxHeartbeats 1000000 in
theorem rj_b_readCodes_290 {S0 : ms} {x3 : Int32} {x5 : Int32} {x8 : Int32} {x9 : Int32} {S : ms} {R2 : Int32 → ms → Prop} {R213 : Int32 → Int32 → Int32 → ms → Prop} {K : ms → Prop} (h : b_readCodes_290 x3 x5 x8 x9 S R2 R213 K) (hf : rj S0 S) {Q : Prop} (k_R2 : ∀ (a0 : Int32) (a1 : ms), R2 a0 a1 → rj S0 a1 → Q) (k_R213 : ∀ (a0 : Int32) (a1 : Int32) (a2 : Int32) (a3 : ms), R213 a0 a1 a2 a3 → rj S0 a3 → Q) (k_K : ∀ (a0 : ms), K a0 → rj S0 a0 → Q) : Q := by
  unfold b_readCodes_290 at h
  exact rj_b_readCodes_291 h hf k_R2 k_R213 k_K
set_option maxHeartbeats 1000000 in
theorem rj_b_readCodes_286 {S0 : ms} {x3 : Int32} {x5 : Int32} {x8 : Int32} {x9 : Int32} {S : ms} {R2 : Int32 → ms → Prop} {R213 : Int32 → Int32 → Int32 → ms → Prop} {K : ms → Prop} (h : b_readCodes_286 x3 x5 x8 x9 S R2 R213 K) (hf : rj S0 S) {Q : Prop} (k_R2 : ∀ (a0 : Int32) (a1 : ms), R2 a0 a1 → rj S0 a1 → Q) (k_R213 : ∀ (a0 : Int32) (a1 : Int32) (a2 : Int32) (a3 : ms), R213 a0 a1 a2 a3 → rj S0 a3 → Q) (k_K : ∀ (a0 : ms), K a0 → rj S0 a0 → Q) : Q := by
  unfold b_readCodes_286 at h
  exact rj_b_readCodes_291 h hf k_R2 k_R213 k_K
set_option maxHeartbeats 1000000 in
theorem rj_b_readCodes_213 {S0 : ms} {x3 : Int32} {x5 : Int32} {x8 : Int32} {S : ms} {R2 : Int32 → ms → Prop} {R213 : Int32 → Int32 → Int32 → ms → Prop} {K : ms → Prop} (h : b_readCodes_213 x3 x5 x8 S R2 R213 K) (hf : rj S0 S) {Q : Prop} (k_R2 : ∀ (a0 : Int32) (a1 : ms), R2 a0 a1 → rj S0 a1 → Q) (k_R213 : ∀ (a0 : Int32) (a1 : Int32) (a2 : Int32) (a3 : ms), R213 a0 a1 a2 a3 → rj S0 a3 → Q) (k_K : ∀ (a0 : ms), K a0 → rj S0 a0 → Q) : Q := by
  unfold b_readCodes_213 at h
  refine dt_p h (fun c_1 h_2 => ?_) (fun c_1 h_2 => ?_)
  ·
    exact rj_b_readCodes_328 h_2 hf k_R2 k_K
  ·
    refine dt_n h_2 (fun c_7 h_8 => ?_) (fun c_7 h_8 => ?_)
    ·
      exact rj_b_readCodes_328 h_8 hf k_R2 k_K
    ·
      refine rj_p_nextWithin h_8 hf (fun v228 S228 h_13 f_14 => ?_)
      refine dt_p h_13 (fun c_15 h_16 => ?_) (fun c_15 h_16 => ?_)
      ·
        refine dt_p h_16 (fun c_17 h_18 => ?_) (fun c_17 h_18 => ?_)
        ·
          exact rj_b_readCodes_286 h_18 f_14 k_R2 k_R213 k_K
        ·
          refine dt_p h_18 (fun c_25 h_26 => ?_) (fun c_25 h_26 => ?_)
          ·
            exact rj_b_readCodes_286 h_26 f_14 k_R2 k_R213 k_K
          ·
            refine dt_p h_26 (fun c_33 h_34 => ?_) (fun c_33 h_34 => ?_)
            ·
              exact rj_b_readCodes_290 h_34 f_14 k_R2 k_R213 k_K
            ·
              refine dt_p h_34 (fun c_41 h_42 => ?_) (fun c_41 h_42 => ?_)
              ·
                exact rj_b_readCodes_290 h_42 f_14 k_R2 k_R213 k_K
              ·
                exact rj_b_readCodes_286 h_42 f_14 k_R2 k_R213 k_K
      ·
        refine dt_p h_16 (fun c_55 h_56 => ?_) (fun c_55 h_56 => ?_)
        ·
          exact rj_b_readCodes_291 h_56 f_14 k_R2 k_R213 k_K
        ·
          exact rj_b_readCodes_291 h_56 f_14 k_R2 k_R213 k_K
theorem rj_e_readCodes_213 {S0 : ms} {x3 : Int32} {x5 : Int32} {x8 : Int32} {S : ms} {R2 : Int32 → ms → Prop} {K : ms → Prop} (h : e_readCodes_213 x3 x5 x8 S R2 K) (hf : rj S0 S) {Q : Prop} (k_R2 : ∀ (a0 : Int32) (a1 : ms), R2 a0 a1 → rj S0 a1 → Q) (k_K : ∀ (a0 : ms), K a0 → rj S0 a0 → Q) : Q := by
  obtain ⟨I, μ, i0, is⟩ := h
  have go : ∀ (n : Nat) (yx3 : Int32) (yx5 : Int32) (yx8 : Int32) (yS : ms), μ yx3 yx5 yx8 yS < n → I yx3 yx5 yx8 yS → rj S0 yS → Q := by
    intro n
    induction n with
    | zero => intro yx3 yx5 yx8 yS hy; exact absurd hy (Nat.not_lt_zero _)
    | succ n ih =>
      intro yx3 yx5 yx8 yS hy hI hV
      exact rj_b_readCodes_213 (is yx3 yx5 yx8 yS hI) hV k_R2 (fun a0 a1 a2 a3 hR hz => ih a0 a1 a2 a3 (Nat.lt_of_lt_of_le hR.2 (Nat.le_of_lt_succ hy)) hR.1 hz) k_K
  exact go _ x3 x5 x8 S (Nat.lt_succ_self _) i0 hf
set_option maxHeartbeats 1000000 in
theorem rj_b_readCodes_205 {S0 : ms} {x3 : Int32} {x4 : Int32} {x5 : Int32} {s1 : Int32} {S : ms} {R2 : Int32 → ms → Prop} {K : ms → Prop} (h : b_readCodes_205 x3 x4 x5 s1 S R2 K) (hf : rj S0 S) {Q : Prop} (k_R2 : ∀ (a0 : Int32) (a1 : ms), R2 a0 a1 → rj S0 a1 → Q) (k_K : ∀ (a0 : ms), K a0 → rj S0 a0 → Q) : Q := by
  unfold b_readCodes_205 at h
  refine rj_p_must h hf (fun S207 h_1 f_2 => ?_)
  exact rj_e_readCodes_213 h_1 f_2 k_R2 k_K
set_option maxHeartbeats 1000000 in
theorem rj_b_readCodes_204 {S0 : ms} {x3 : Int32} {x4 : Int32} {x5 : Int32} {S : ms} {R2 : Int32 → ms → Prop} {K : ms → Prop} (h : b_readCodes_204 x3 x4 x5 S R2 K) (hf : rj S0 S) {Q : Prop} (k_R2 : ∀ (a0 : Int32) (a1 : ms), R2 a0 a1 → rj S0 a1 → Q) (k_K : ∀ (a0 : ms), K a0 → rj S0 a0 → Q) : Q := by
  unfold b_readCodes_204 at h
  exact rj_b_readCodes_205 h hf k_R2 k_K
set_option maxHeartbeats 1000000 in
theorem rj_b_readCodes_186 {S0 : ms} {x3 : Int32} {x4 : Int32} {x5 : Int32} {x7 : Int32} {S : ms} {R2 : Int32 → ms → Prop} {K : ms → Prop} (h : b_readCodes_186 x3 x4 x5 x7 S R2 K) (hf : rj S0 S) {Q : Prop} (k_R2 : ∀ (a0 : Int32) (a1 : ms), R2 a0 a1 → rj S0 a1 → Q) (k_K : ∀ (a0 : ms), K a0 → rj S0 a0 → Q) : Q := by
  unfold b_readCodes_186 at h
  refine dt_p h (fun c_1 h_2 => ?_) (fun c_1 h_2 => ?_)
  ·
    exact rj_b_readCodes_204 h_2 hf k_R2 k_K
  ·
    refine dt_p h_2 (fun c_7 h_8 => ?_) (fun c_7 h_8 => ?_)
    ·
      exact rj_b_readCodes_204 h_8 hf k_R2 k_K
    ·
      exact rj_b_readCodes_205 h_8 hf k_R2 k_K
set_option maxHeartbeats 1000000 in
theorem rj_b_readCodes_180 {S0 : ms} {x3 : Int32} {x4 : Int32} {x5 : Int32} {x6 : Int32} {x7 : Int32} {x8 : Int32} {S : ms} {R2 : Int32 → ms → Prop} {R82 : Int32 → Int32 → Int32 → Int32 → Int32 → Int32 → ms → Prop} {K : ms → Prop} (h : b_readCodes_180 x3 x4 x5 x6 x7 x8 S R2 R82 K) (hf : rj S0 S) {Q : Prop} (k_R2 : ∀ (a0 : Int32) (a1 : ms), R2 a0 a1 → rj S0 a1 → Q) (k_R82 : ∀ (a0 : Int32) (a1 : Int32) (a2 : Int32) (a3 : Int32) (a4 : Int32) (a5 : Int32) (a6 : ms), R82 a0 a1 a2 a3 a4 a5 a6 → rj S0 a6 → Q) (k_K : ∀ (a0 : ms), K a0 → rj S0 a0 → Q) : Q := by
  unfold b_readCodes_180 at h
  exact k_R82 _ _ _ _ _ _ _ h hf
set_option maxHeartbeats 1000000 in
theorem rj_b_readCodes_178 {S0 : ms} {x3 : Int32} {x4 : Int32} {x5 : Int32} {x7 : Int32} {x8 : Int32} {s0 : Int32} {S : ms} {R2 : Int32 → ms → Prop} {R82 : Int32 → Int32 → Int32 → Int32 → Int32 → Int32 → ms → Prop} {K : ms → Prop} (h : b_readCodes_178 x3 x4 x5 x7 x8 s0 S R2 R82 K) (hf : rj S0 S) {Q : Prop} (k_R2 : ∀ (a0 : Int32) (a1 : ms), R2 a0 a1 → rj S0 a1 → Q) (k_R82 : ∀ (a0 : Int32) (a1 : Int32) (a2 : Int32) (a3 : Int32) (a4 : Int32) (a5 : Int32) (a6 : ms), R82 a0 a1 a2 a3 a4 a5 a6 → rj S0 a6 → Q) (k_K : ∀ (a0 : ms), K a0 → rj S0 a0 → Q) : Q := by
  unfold b_readCodes_178 at h
  exact rj_b_readCodes_180 h hf k_R2 k_R82 k_K
set_option maxHeartbeats 1000000 in
theorem rj_b_readCodes_160 {S0 : ms} {x3 : Int32} {x4 : Int32} {x5 : Int32} {x6 : Int32} {x8 : Int32} {s0 : Int32} {S : ms} {R2 : Int32 → ms → Prop} {R82 : Int32 → Int32 → Int32 → Int32 → Int32 → Int32 → ms → Prop} {K : ms → Prop} (h : b_readCodes_160 x3 x4 x5 x6 x8 s0 S R2 R82 K) (hf : rj S0 S) {Q : Prop} (k_R2 : ∀ (a0 : Int32) (a1 : ms), R2 a0 a1 → rj S0 a1 → Q) (k_R82 : ∀ (a0 : Int32) (a1 : Int32) (a2 : Int32) (a3 : Int32) (a4 : Int32) (a5 : Int32) (a6 : ms), R82 a0 a1 a2 a3 a4 a5 a6 → rj S0 a6 → Q) (k_K : ∀ (a0 : ms), K a0 → rj S0 a0 → Q) : Q := by
  unfold b_readCodes_160 at h
  refine dt_p h (fun c_1 h_2 => ?_) (fun c_1 h_2 => ?_)
  ·
    exact rj_b_readCodes_178 h_2 hf k_R2 k_R82 k_K
  ·
    exact rj_b_readCodes_178 h_2 hf k_R2 k_R82 k_K
set_option maxHeartbeats 1000000 in
theorem rj_b_readCodes_159 {S0 : ms} {x3 : Int32} {x4 : Int32} {x5 : Int32} {x6 : Int32} {x8 : Int32} {S : ms} {R2 : Int32 → ms → Prop} {R82 : Int32 → Int32 → Int32 → Int32 → Int32 → Int32 → ms → Prop} {K : ms → Prop} (h : b_readCodes_159 x3 x4 x5 x6 x8 S R2 R82 K) (hf : rj S0 S) {Q : Prop} (k_R2 : ∀ (a0 : Int32) (a1 : ms), R2 a0 a1 → rj S0 a1 → Q) (k_R82 : ∀ (a0 : Int32) (a1 : Int32) (a2 : Int32) (a3 : Int32) (a4 : Int32) (a5 : Int32) (a6 : ms), R82 a0 a1 a2 a3 a4 a5 a6 → rj S0 a6 → Q) (k_K : ∀ (a0 : ms), K a0 → rj S0 a0 → Q) : Q := by
  unfold b_readCodes_159 at h
  exact rj_b_readCodes_160 h hf k_R2 k_R82 k_K
set_option maxHeartbeats 1000000 in
theorem rj_b_readCodes_82 {S0 : ms} {x3 : Int32} {x4 : Int32} {x5 : Int32} {x6 : Int32} {x7 : Int32} {x8 : Int32} {S : ms} {R2 : Int32 → ms → Prop} {R82 : Int32 → Int32 → Int32 → Int32 → Int32 → Int32 → ms → Prop} {K : ms → Prop} (h : b_readCodes_82 x3 x4 x5 x6 x7 x8 S R2 R82 K) (hf : rj S0 S) {Q : Prop} (k_R2 : ∀ (a0 : Int32) (a1 : ms), R2 a0 a1 → rj S0 a1 → Q) (k_R82 : ∀ (a0 : Int32) (a1 : Int32) (a2 : Int32) (a3 : Int32) (a4 : Int32) (a5 : Int32) (a6 : ms), R82 a0 a1 a2 a3 a4 a5 a6 → rj S0 a6 → Q) (k_K : ∀ (a0 : ms), K a0 → rj S0 a0 → Q) : Q := by
  unfold b_readCodes_82 at h
  refine dt_p h (fun c_1 h_2 => ?_) (fun c_1 h_2 => ?_)
  ·
    exact rj_b_readCodes_186 h_2 hf k_R2 k_K
  ·
    refine dt_n h_2 (fun c_7 h_8 => ?_) (fun c_7 h_8 => ?_)
    ·
      exact rj_b_readCodes_186 h_8 hf k_R2 k_K
    ·
      refine rj_p_nextWithin h_8 hf (fun v97 S97 h_13 f_14 => ?_)
      refine dt_n h_13 (fun c_15 h_16 => ?_) (fun c_15 h_16 => ?_)
      ·
        exact rj_b_readCodes_180 h_16 f_14 k_R2 k_R82 k_K
      ·
        refine dt_p (And.right h_16) (fun c_23 h_24 => ?_) (fun c_23 h_24 => ?_)
        ·
          exact rj_b_readCodes_159 h_24 (rj_w f_14 (by decide)) k_R2 k_R82 k_K
        ·
          refine dt_p h_24 (fun c_31 h_32 => ?_) (fun c_31 h_32 => ?_)
          ·
            exact rj_b_readCodes_159 h_32 (rj_w f_14 (by decide)) k_R2 k_R82 k_K
          ·
            exact rj_b_readCodes_160 h_32 (rj_w f_14 (by decide)) k_R2 k_R82 k_K
theorem rj_e_readCodes_82 {S0 : ms} {x3 : Int32} {x4 : Int32} {x5 : Int32} {x6 : Int32} {x7 : Int32} {x8 : Int32} {S : ms} {R2 : Int32 → ms → Prop} {K : ms → Prop} (h : e_readCodes_82 x3 x4 x5 x6 x7 x8 S R2 K) (hf : rj S0 S) {Q : Prop} (k_R2 : ∀ (a0 : Int32) (a1 : ms), R2 a0 a1 → rj S0 a1 → Q) (k_K : ∀ (a0 : ms), K a0 → rj S0 a0 → Q) : Q := by
  obtain ⟨I, μ, i0, is⟩ := h
  have go : ∀ (n : Nat) (yx3 : Int32) (yx4 : Int32) (yx5 : Int32) (yx6 : Int32) (yx7 : Int32) (yx8 : Int32) (yS : ms), μ yx3 yx4 yx5 yx6 yx7 yx8 yS < n → I yx3 yx4 yx5 yx6 yx7 yx8 yS → rj S0 yS → Q := by
    intro n
    induction n with
    | zero => intro yx3 yx4 yx5 yx6 yx7 yx8 yS hy; exact absurd hy (Nat.not_lt_zero _)
    | succ n ih =>
      intro yx3 yx4 yx5 yx6 yx7 yx8 yS hy hI hV
      exact rj_b_readCodes_82 (is yx3 yx4 yx5 yx6 yx7 yx8 yS hI) hV k_R2 (fun a0 a1 a2 a3 a4 a5 a6 hR hz => ih a0 a1 a2 a3 a4 a5 a6 (Nat.lt_of_lt_of_le hR.2 (Nat.le_of_lt_succ hy)) hR.1 hz) k_K
  exact go _ x3 x4 x5 x6 x7 x8 S (Nat.lt_succ_self _) i0 hf
set_option maxHeartbeats 1000000 in
theorem rj_b_readCodes_63 {S0 : ms} {s0 : Int32} {S : ms} {R2 : Int32 → ms → Prop} {K : ms → Prop} (h : b_readCodes_63 s0 S R2 K) (hf : rj S0 S) {Q : Prop} (k_R2 : ∀ (a0 : Int32) (a1 : ms), R2 a0 a1 → rj S0 a1 → Q) (k_K : ∀ (a0 : ms), K a0 → rj S0 a0 → Q) : Q := by
  unfold b_readCodes_63 at h
  exact rj_e_readCodes_82 h hf k_R2 k_K
set_option maxHeartbeats 1000000 in
theorem rj_b_readCodes_41 {S0 : ms} {x2 : Int32} {s1 : Int32} {S : ms} {R2 : Int32 → ms → Prop} {K : ms → Prop} (h : b_readCodes_41 x2 s1 S R2 K) (hf : rj S0 S) {Q : Prop} (k_R2 : ∀ (a0 : Int32) (a1 : ms), R2 a0 a1 → rj S0 a1 → Q) (k_K : ∀ (a0 : ms), K a0 → rj S0 a0 → Q) : Q := by
  unfold b_readCodes_41 at h
  refine rj_p_must h hf (fun S47 h_1 f_2 => ?_)
  refine dt_p h_1 (fun c_3 h_4 => ?_) (fun c_3 h_4 => ?_)
  ·
    exact rj_b_readCodes_63 h_4 f_2 k_R2 k_K
  ·
    exact rj_b_readCodes_63 h_4 f_2 k_R2 k_K
set_option maxHeartbeats 1000000 in
theorem rj_b_readCodes_36 {S0 : ms} {x2 : Int32} {S : ms} {R2 : Int32 → ms → Prop} {K : ms → Prop} (h : b_readCodes_36 x2 S R2 K) (hf : rj S0 S) {Q : Prop} (k_R2 : ∀ (a0 : Int32) (a1 : ms), R2 a0 a1 → rj S0 a1 → Q) (k_K : ∀ (a0 : ms), K a0 → rj S0 a0 → Q) : Q := by
  unfold b_readCodes_36 at h
  exact rj_b_readCodes_41 h hf k_R2 k_K
set_option maxHeartbeats 1000000 in
theorem rj_b_readCodes_2 {S0 : ms} {x1 : Int32} {S : ms} {R2 : Int32 → ms → Prop} {K : ms → Prop} (h : b_readCodes_2 x1 S R2 K) (hf : rj S0 S) {Q : Prop} (k_R2 : ∀ (a0 : Int32) (a1 : ms), R2 a0 a1 → rj S0 a1 → Q) (k_K : ∀ (a0 : ms), K a0 → rj S0 a0 → Q) : Q := by
  unfold b_readCodes_2 at h
  refine dt_p h (fun c_1 h_2 => ?_) (fun c_1 h_2 => ?_)
  ·
    exact rj_b_readCodes_362 h_2 hf k_K
  ·
    refine dt_n h_2 (fun c_5 h_6 => ?_) (fun c_5 h_6 => ?_)
    ·
      exact rj_b_readCodes_362 h_6 hf k_K
    ·
      refine rj_p_nextWithin h_6 hf (fun v14 S14 h_9 f_10 => ?_)
      refine dt_p h_9 (fun c_11 h_12 => ?_) (fun c_11 h_12 => ?_)
      ·
        exact rj_b_readCodes_36 h_12 f_10 k_R2 k_K
      ·
        refine dt_p h_12 (fun c_17 h_18 => ?_) (fun c_17 h_18 => ?_)
        ·
          exact rj_b_readCodes_36 h_18 f_10 k_R2 k_K
        ·
          refine dt_n h_18 (fun c_23 h_24 => ?_) (fun c_23 h_24 => ?_)
          ·
            exact rj_b_readCodes_41 h_24 f_10 k_R2 k_K
          ·
            exact rj_b_readCodes_36 h_24 f_10 k_R2 k_K
theorem rj_e_readCodes_2 {S0 : ms} {x1 : Int32} {S : ms} {K : ms → Prop} (h : e_readCodes_2 x1 S K) (hf : rj S0 S) {Q : Prop} (k_K : ∀ (a0 : ms), K a0 → rj S0 a0 → Q) : Q := by
  obtain ⟨I, μ, i0, is⟩ := h
  have go : ∀ (n : Nat) (yx1 : Int32) (yS : ms), μ yx1 yS < n → I yx1 yS → rj S0 yS → Q := by
    intro n
    induction n with
    | zero => intro yx1 yS hy; exact absurd hy (Nat.not_lt_zero _)
    | succ n ih =>
      intro yx1 yS hy hI hV
      exact rj_b_readCodes_2 (is yx1 yS hI) hV (fun a0 a1 hR hz => ih a0 a1 (Nat.lt_of_lt_of_le hR.2 (Nat.le_of_lt_succ hy)) hR.1 hz) k_K
  exact go _ x1 S (Nat.lt_succ_self _) i0 hf
set_option maxHeartbeats 1000000 in
theorem rj_p_readCodes {S0 : ms} {S : ms} {K : ms → Prop} (h : p_readCodes S K) (hf : rj S0 S) {Q : Prop} (k_K : ∀ (a0 : ms), K a0 → rj S0 a0 → Q) : Q := by
  unfold p_readCodes at h
  exact rj_e_readCodes_2 h hf k_K
set_option maxHeartbeats 1000000 in
theorem rj_b_readFrame_465 {S0 : ms} {S : ms} {K : ms → Prop} (h : b_readFrame_465 S K) (hf : rj S0 S) {Q : Prop} (k_K : ∀ (a0 : ms), K a0 → rj S0 a0 → Q) : Q := by
  unfold b_readFrame_465 at h
  exact k_K _ h hf
set_option maxHeartbeats 1000000 in
theorem rj_b_readFrame_426 {S0 : ms} {x2 : Int32} {x3 : Int32} {x4 : Int32} {S : ms} {K : ms → Prop} (h : b_readFrame_426 x2 x3 x4 S K) (hf : rj S0 S) {Q : Prop} (k_K : ∀ (a0 : ms), K a0 → rj S0 a0 → Q) : Q := by
  unfold b_readFrame_426 at h
  refine dt_n h (fun c_1 h_2 => ?_) (fun c_1 h_2 => ?_)
  ·
    exact rj_b_readFrame_465 h_2 hf k_K
  ·
    refine rj_p_makeGrids (And.right (And.right (And.right h_2))) (rj_w (rj_w (rj_w hf (by decide)) (by decide)) (by decide)) (fun S462 h_5 f_6 => ?_)
    exact rj_b_readFrame_465 h_5 f_6 k_K
set_option maxHeartbeats 1000000 in
theorem rj_b_readFrame_411 {S0 : ms} {x2 : Int32} {x3 : Int32} {x4 : Int32} {x5 : Int32} {s1 : Int32} {S : ms} {R192 : Int32 → Int32 → Int32 → Int32 → ms → Prop} {K : ms → Prop} (h : b_readFrame_411 x2 x3 x4 x5 s1 S R192 K) (hf : rj S0 S) {Q : Prop} (k_R192 : ∀ (a0 : Int32) (a1 : Int32) (a2 : Int32) (a3 : Int32) (a4 : ms), R192 a0 a1 a2 a3 a4 → rj S0 a4 → Q) (k_K : ∀ (a0 : ms), K a0 → rj S0 a0 → Q) : Q := by
  unfold b_readFrame_411 at h
  refine rj_p_must h hf (fun S417 h_1 f_2 => ?_)
  exact k_R192 _ _ _ _ _ h_1 f_2
set_option maxHeartbeats 1000000 in
theorem rj_b_readFrame_393 {S0 : ms} {x2 : Int32} {x3 : Int32} {x4 : Int32} {x5 : Int32} {s1 : Int32} {s2 : Int32} {S : ms} {R192 : Int32 → Int32 → Int32 → Int32 → ms → Prop} {K : ms → Prop} (h : b_readFrame_393 x2 x3 x4 x5 s1 s2 S R192 K) (hf : rj S0 S) {Q : Prop} (k_R192 : ∀ (a0 : Int32) (a1 : Int32) (a2 : Int32) (a3 : Int32) (a4 : ms), R192 a0 a1 a2 a3 a4 → rj S0 a4 → Q) (k_K : ∀ (a0 : ms), K a0 → rj S0 a0 → Q) : Q := by
  unfold b_readFrame_393 at h
  refine dt_p (And.right (And.right h)) (fun c_1 h_2 => ?_) (fun c_1 h_2 => ?_)
  ·
    exact rj_b_readFrame_411 h_2 (rj_w hf (by decide)) k_R192 k_K
  ·
    exact rj_b_readFrame_411 h_2 (rj_w hf (by decide)) k_R192 k_K
set_option maxHeartbeats 1000000 in
theorem rj_b_readFrame_334 {S0 : ms} {x2 : Int32} {x3 : Int32} {x4 : Int32} {x5 : Int32} {x7 : Int32} {s1 : Int32} {S : ms} {R192 : Int32 → Int32 → Int32 → Int32 → ms → Prop} {K : ms → Prop} (h : b_readFrame_334 x2 x3 x4 x5 x7 s1 S R192 K) (hf : rj S0 S) {Q : Prop} (k_R192 : ∀ (a0 : Int32) (a1 : Int32) (a2 : Int32) (a3 : Int32) (a4 : ms), R192 a0 a1 a2 a3 a4 → rj S0 a4 → Q) (k_K : ∀ (a0 : ms), K a0 → rj S0 a0 → Q) : Q := by
  unfold b_readFrame_334 at h
  refine rj_p_must h hf (fun S340 h_1 f_2 => ?_)
  refine dt_n (And.right (And.right h_1)) (fun c_3 h_4 => ?_) (fun c_3 h_4 => ?_)
  ·
    exact rj_b_readFrame_393 h_4 (rj_w (rj_w f_2 (by decide)) (by decide)) k_R192 k_K
  ·
    refine rj_p_next h_4 (rj_w (rj_w f_2 (by decide)) (by decide)) (fun v386 S386 h_9 f_10 => ?_)
    exact rj_b_readFrame_393 h_9 f_10 k_R192 k_K
set_option maxHeartbeats 1000000 in
theorem rj_b_readFrame_333 {S0 : ms} {x2 : Int32} {x3 : Int32} {x4 : Int32} {x5 : Int32} {x7 : Int32} {S : ms} {R192 : Int32 → Int32 → Int32 → Int32 → ms → Prop} {K : ms → Prop} (h : b_readFrame_333 x2 x3 x4 x5 x7 S R192 K) (hf : rj S0 S) {Q : Prop} (k_R192 : ∀ (a0 : Int32) (a1 : Int32) (a2 : Int32) (a3 : Int32) (a4 : ms), R192 a0 a1 a2 a3 a4 → rj S0 a4 → Q) (k_K : ∀ (a0 : ms), K a0 → rj S0 a0 → Q) : Q := by
  unfold b_readFrame_333 at h
  exact rj_b_readFrame_334 h hf k_R192 k_K
set_option maxHeartbeats 1000000 in
theorem rj_b_readFrame_329 {S0 : ms} {x2 : Int32} {x3 : Int32} {x4 : Int32} {x5 : Int32} {x7 : Int32} {S : ms} {R192 : Int32 → Int32 → Int32 → Int32 → ms → Prop} {K : ms → Prop} (h : b_readFrame_329 x2 x3 x4 x5 x7 S R192 K) (hf : rj S0 S) {Q : Prop} (k_R192 : ∀ (a0 : Int32) (a1 : Int32) (a2 : Int32) (a3 : Int32) (a4 : ms), R192 a0 a1 a2 a3 a4 → rj S0 a4 → Q) (k_K : ∀ (a0 : ms), K a0 → rj S0 a0 → Q) : Q := by
  unfold b_readFrame_329 at h
  exact rj_b_readFrame_334 h hf k_R192 k_K
set_option maxHeartbeats 1000000 in
theorem rj_b_readFrame_311 {S0 : ms} {x2 : Int32} {x3 : Int32} {x4 : Int32} {x5 : Int32} {x7 : Int32} {S : ms} {R192 : Int32 → Int32 → Int32 → Int32 → ms → Prop} {K : ms → Prop} (h : b_readFrame_311 x2 x3 x4 x5 x7 S R192 K) (hf : rj S0 S) {Q : Prop} (k_R192 : ∀ (a0 : Int32) (a1 : Int32) (a2 : Int32) (a3 : Int32) (a4 : ms), R192 a0 a1 a2 a3 a4 → rj S0 a4 → Q) (k_K : ∀ (a0 : ms), K a0 → rj S0 a0 → Q) : Q := by
  unfold b_readFrame_311 at h
  refine dt_p h (fun c_1 h_2 => ?_) (fun c_1 h_2 => ?_)
  ·
    exact rj_b_readFrame_329 h_2 hf k_R192 k_K
  ·
    refine dt_n h_2 (fun c_7 h_8 => ?_) (fun c_7 h_8 => ?_)
    ·
      exact rj_b_readFrame_333 h_8 hf k_R192 k_K
    ·
      exact rj_b_readFrame_329 h_8 hf k_R192 k_K
set_option maxHeartbeats 1000000 in
theorem rj_b_readFrame_292 {S0 : ms} {x2 : Int32} {x3 : Int32} {x4 : Int32} {x5 : Int32} {s0 : Int32} {S : ms} {R192 : Int32 → Int32 → Int32 → Int32 → ms → Prop} {K : ms → Prop} (h : b_readFrame_292 x2 x3 x4 x5 s0 S R192 K) (hf : rj S0 S) {Q : Prop} (k_R192 : ∀ (a0 : Int32) (a1 : Int32) (a2 : Int32) (a3 : Int32) (a4 : ms), R192 a0 a1 a2 a3 a4 → rj S0 a4 → Q) (k_K : ∀ (a0 : ms), K a0 → rj S0 a0 → Q) : Q := by
  unfold b_readFrame_292 at h
  refine dt_p h (fun c_1 h_2 => ?_) (fun c_1 h_2 => ?_)
  ·
    exact rj_b_readFrame_311 h_2 hf k_R192 k_K
  ·
    refine dt_n h_2 (fun c_7 h_8 => ?_) (fun c_7 h_8 => ?_)
    ·
      exact rj_b_readFrame_333 h_8 hf k_R192 k_K
    ·
      exact rj_b_readFrame_311 h_8 hf k_R192 k_K
set_option maxHeartbeats 1000000 in
theorem rj_b_readFrame_257 {S0 : ms} {x2 : Int32} {x3 : Int32} {x4 : Int32} {x5 : Int32} {x7 : Int32} {s0 : Int32} {S : ms} {R192 : Int32 → Int32 → Int32 → Int32 → ms → Prop} {R223 : Int32 → Int32 → Int32 → Int32 → Int32 → Int32 → ms → Prop} {K : ms → Prop} (h : b_readFrame_257 x2 x3 x4 x5 x7 s0 S R192 R223 K) (hf : rj S0 S) {Q : Prop} (k_R192 : ∀ (a0 : Int32) (a1 : Int32) (a2 : Int32) (a3 : Int32) (a4 : ms), R192 a0 a1 a2 a3 a4 → rj S0 a4 → Q) (k_R223 : ∀ (a0 : Int32) (a1 : Int32) (a2 : Int32) (a3 : Int32) (a4 : Int32) (a5 : Int32) (a6 : ms), R223 a0 a1 a2 a3 a4 a5 a6 → rj S0 a6 → Q) (k_K : ∀ (a0 : ms), K a0 → rj S0 a0 → Q) : Q := by
  unfold b_readFrame_257 at h
  exact k_R223 _ _ _ _ _ _ _ h hf
set_option maxHeartbeats 1000000 in
theorem rj_b_readFrame_256 {S0 : ms} {x2 : Int32} {x3 : Int32} {x4 : Int32} {x5 : Int32} {x7 : Int32} {S : ms} {R192 : Int32 → Int32 → Int32 → Int32 → ms → Prop} {R223 : Int32 → Int32 → Int32 → Int32 → Int32 → Int32 → ms → Prop} {K : ms → Prop} (h : b_readFrame_256 x2 x3 x4 x5 x7 S R192 R223 K) (hf : rj S0 S) {Q : Prop} (k_R192 : ∀ (a0 : Int32) (a1 : Int32) (a2 : Int32) (a3 : Int32) (a4 : ms), R192 a0 a1 a2 a3 a4 → rj S0 a4 → Q) (k_R223 : ∀ (a0 : Int32) (a1 : Int32) (a2 : Int32) (a3 : Int32) (a4 : Int32) (a5 : Int32) (a6 : ms), R223 a0 a1 a2 a3 a4 a5 a6 → rj S0 a6 → Q) (k_K : ∀ (a0 : ms), K a0 → rj S0 a0 → Q) : Q := by
  unfold b_readFrame_256 at h
  exact rj_b_readFrame_257 h hf k_R192 k_R223 k_K
set_option maxHeartbeats 1000000 in
theorem rj_b_readFrame_223 {S0 : ms} {x2 : Int32} {x3 : Int32} {x4 : Int32} {x5 : Int32} {x6 : Int32} {x7 : Int32} {S : ms} {R192 : Int32 → Int32 → Int32 → Int32 → ms → Prop} {R223 : Int32 → Int32 → Int32 → Int32 → Int32 → Int32 → ms → Prop} {K : ms → Prop} (h : b_readFrame_223 x2 x3 x4 x5 x6 x7 S R192 R223 K) (hf : rj S0 S) {Q : Prop} (k_R192 : ∀ (a0 : Int32) (a1 : Int32) (a2 : Int32) (a3 : Int32) (a4 : ms), R192 a0 a1 a2 a3 a4 → rj S0 a4 → Q) (k_R223 : ∀ (a0 : Int32) (a1 : Int32) (a2 : Int32) (a3 : Int32) (a4 : Int32) (a5 : Int32) (a6 : ms), R223 a0 a1 a2 a3 a4 a5 a6 → rj S0 a6 → Q) (k_K : ∀ (a0 : ms), K a0 → rj S0 a0 → Q) : Q := by
  unfold b_readFrame_223 at h
  refine dt_p h (fun c_1 h_2 => ?_) (fun c_1 h_2 => ?_)
  ·
    refine rj_p_must h_2 hf (fun S274 h_3 f_4 => ?_)
    refine dt_n h_3 (fun c_5 h_6 => ?_) (fun c_5 h_6 => ?_)
    ·
      exact rj_b_readFrame_292 h_6 f_4 k_R192 k_K
    ·
      refine rj_p_next h_6 f_4 (fun v285 S285 h_11 f_12 => ?_)
      exact rj_b_readFrame_292 h_11 f_12 k_R192 k_K
  ·
    refine dt_p h_2 (fun c_17 h_18 => ?_) (fun c_17 h_18 => ?_)
    ·
      exact rj_b_readFrame_256 h_18 hf k_R192 k_R223 k_K
    ·
      refine dt_p (And.right (And.right h_18)) (fun c_25 h_26 => ?_) (fun c_25 h_26 => ?_)
      ·
        exact rj_b_readFrame_256 h_26 hf k_R192 k_R223 k_K
      ·
        exact rj_b_readFrame_257 h_26 hf k_R192 k_R223 k_K
theorem rj_e_readFrame_223 {S0 : ms} {x2 : Int32} {x3 : Int32} {x4 : Int32} {x5 : Int32} {x6 : Int32} {x7 : Int32} {S : ms} {R192 : Int32 → Int32 → Int32 → Int32 → ms → Prop} {K : ms → Prop} (h : e_readFrame_223 x2 x3 x4 x5 x6 x7 S R192 K) (hf : rj S0 S) {Q : Prop} (k_R192 : ∀ (a0 : Int32) (a1 : Int32) (a2 : Int32) (a3 : Int32) (a4 : ms), R192 a0 a1 a2 a3 a4 → rj S0 a4 → Q) (k_K : ∀ (a0 : ms), K a0 → rj S0 a0 → Q) : Q := by
  obtain ⟨I, μ, i0, is⟩ := h
  have go : ∀ (n : Nat) (yx2 : Int32) (yx3 : Int32) (yx4 : Int32) (yx5 : Int32) (yx6 : Int32) (yx7 : Int32) (yS : ms), μ yx2 yx3 yx4 yx5 yx6 yx7 yS < n → I yx2 yx3 yx4 yx5 yx6 yx7 yS → rj S0 yS → Q := by
    intro n
    induction n with
    | zero => intro yx2 yx3 yx4 yx5 yx6 yx7 yS hy; exact absurd hy (Nat.not_lt_zero _)
    | succ n ih =>
      intro yx2 yx3 yx4 yx5 yx6 yx7 yS hy hI hV
      exact rj_b_readFrame_223 (is yx2 yx3 yx4 yx5 yx6 yx7 yS hI) hV k_R192 (fun a0 a1 a2 a3 a4 a5 a6 hR hz => ih a0 a1 a2 a3 a4 a5 a6 (Nat.lt_of_lt_of_le hR.2 (Nat.le_of_lt_succ hy)) hR.1 hz) k_K
  exact go _ x2 x3 x4 x5 x6 x7 S (Nat.lt_succ_self _) i0 hf
set_option maxHeartbeats 1000000 in
theorem rj_b_readFrame_192 {S0 : ms} {x2 : Int32} {x3 : Int32} {x4 : Int32} {x5 : Int32} {S : ms} {R192 : Int32 → Int32 → Int32 → Int32 → ms → Prop} {K : ms → Prop} (h : b_readFrame_192 x2 x3 x4 x5 S R192 K) (hf : rj S0 S) {Q : Prop} (k_R192 : ∀ (a0 : Int32) (a1 : Int32) (a2 : Int32) (a3 : Int32) (a4 : ms), R192 a0 a1 a2 a3 a4 → rj S0 a4 → Q) (k_K : ∀ (a0 : ms), K a0 → rj S0 a0 → Q) : Q := by
  unfold b_readFrame_192 at h
  refine dt_p h (fun c_1 h_2 => ?_) (fun c_1 h_2 => ?_)
  ·
    exact rj_b_readFrame_426 h_2 hf k_K
  ·
    refine dt_n h_2 (fun c_5 h_6 => ?_) (fun c_5 h_6 => ?_)
    ·
      exact rj_b_readFrame_426 h_6 hf k_K
    ·
      refine rj_p_next h_6 hf (fun v213 S213 h_9 f_10 => ?_)
      exact rj_e_readFrame_223 (And.right h_9) (rj_w f_10 (by decide)) k_R192 k_K
theorem rj_e_readFrame_192 {S0 : ms} {x2 : Int32} {x3 : Int32} {x4 : Int32} {x5 : Int32} {S : ms} {K : ms → Prop} (h : e_readFrame_192 x2 x3 x4 x5 S K) (hf : rj S0 S) {Q : Prop} (k_K : ∀ (a0 : ms), K a0 → rj S0 a0 → Q) : Q := by
  obtain ⟨I, μ, i0, is⟩ := h
  have go : ∀ (n : Nat) (yx2 : Int32) (yx3 : Int32) (yx4 : Int32) (yx5 : Int32) (yS : ms), μ yx2 yx3 yx4 yx5 yS < n → I yx2 yx3 yx4 yx5 yS → rj S0 yS → Q := by
    intro n
    induction n with
    | zero => intro yx2 yx3 yx4 yx5 yS hy; exact absurd hy (Nat.not_lt_zero _)
    | succ n ih =>
      intro yx2 yx3 yx4 yx5 yS hy hI hV
      exact rj_b_readFrame_192 (is yx2 yx3 yx4 yx5 yS hI) hV (fun a0 a1 a2 a3 a4 hR hz => ih a0 a1 a2 a3 a4 (Nat.lt_of_lt_of_le hR.2 (Nat.le_of_lt_succ hy)) hR.1 hz) k_K
  exact go _ x2 x3 x4 x5 S (Nat.lt_succ_self _) i0 hf
set_option maxHeartbeats 1000000 in
theorem rj_b_readFrame_189 {S0 : ms} {x2 : Int32} {x3 : Int32} {x4 : Int32} {S : ms} {K : ms → Prop} (h : b_readFrame_189 x2 x3 x4 S K) (hf : rj S0 S) {Q : Prop} (k_K : ∀ (a0 : ms), K a0 → rj S0 a0 → Q) : Q := by
  unfold b_readFrame_189 at h
  exact rj_e_readFrame_192 h hf k_K
set_option maxHeartbeats 1000000 in
theorem rj_b_readFrame_143 {S0 : ms} {x2 : Int32} {x3 : Int32} {x4 : Int32} {s1 : Int32} {S : ms} {K : ms → Prop} (h : b_readFrame_143 x2 x3 x4 s1 S K) (hf : rj S0 S) {Q : Prop} (k_K : ∀ (a0 : ms), K a0 → rj S0 a0 → Q) : Q := by
  unfold b_readFrame_143 at h
  refine rj_p_must h hf (fun S149 h_1 f_2 => ?_)
  refine dt_n h_1 (fun c_3 h_4 => ?_) (fun c_3 h_4 => ?_)
  ·
    exact rj_b_readFrame_189 h_4 f_2 k_K
  ·
    refine dt_p h_4 (fun c_7 h_8 => ?_) (fun c_7 h_8 => ?_)
    ·
      exact rj_b_readFrame_189 h_8 f_2 k_K
    ·
      refine rj_p_fail h_8 f_2 (fun v184 S184 h_11 f_12 => ?_)
      exact rj_b_readFrame_189 h_11 f_12 k_K
set_option maxHeartbeats 1000000 in
theorem rj_b_readFrame_138 {S0 : ms} {x2 : Int32} {x3 : Int32} {x4 : Int32} {S : ms} {K : ms → Prop} (h : b_readFrame_138 x2 x3 x4 S K) (hf : rj S0 S) {Q : Prop} (k_K : ∀ (a0 : ms), K a0 → rj S0 a0 → Q) : Q := by
  unfold b_readFrame_138 at h
  exact rj_b_readFrame_143 h hf k_K
set_option maxHeartbeats 1000000 in
theorem rj_b_readFrame_123 {S0 : ms} {x2 : Int32} {x3 : Int32} {s0 : Int32} {S : ms} {K : ms → Prop} (h : b_readFrame_123 x2 x3 s0 S K) (hf : rj S0 S) {Q : Prop} (k_K : ∀ (a0 : ms), K a0 → rj S0 a0 → Q) : Q := by
  unfold b_readFrame_123 at h
  refine dt_p h (fun c_1 h_2 => ?_) (fun c_1 h_2 => ?_)
  ·
    exact rj_b_readFrame_138 h_2 hf k_K
  ·
    refine dt_n h_2 (fun c_5 h_6 => ?_) (fun c_5 h_6 => ?_)
    ·
      exact rj_b_readFrame_143 h_6 hf k_K
    ·
      exact rj_b_readFrame_138 h_6 hf k_K
set_option maxHeartbeats 1000000 in
theorem rj_b_readFrame_99 {S0 : ms} {x2 : Int32} {x3 : Int32} {s1 : Int32} {S : ms} {K : ms → Prop} (h : b_readFrame_99 x2 x3 s1 S K) (hf : rj S0 S) {Q : Prop} (k_K : ∀ (a0 : ms), K a0 → rj S0 a0 → Q) : Q := by
  unfold b_readFrame_99 at h
  refine rj_p_must h hf (fun S105 h_1 f_2 => ?_)
  refine dt_n h_1 (fun c_3 h_4 => ?_) (fun c_3 h_4 => ?_)
  ·
    exact rj_b_readFrame_123 h_4 f_2 k_K
  ·
    refine rj_p_next h_4 f_2 (fun v116 S116 h_7 f_8 => ?_)
    exact rj_b_readFrame_123 h_7 f_8 k_K
set_option maxHeartbeats 1000000 in
theorem rj_b_readFrame_98 {S0 : ms} {x2 : Int32} {x3 : Int32} {S : ms} {K : ms → Prop} (h : b_readFrame_98 x2 x3 S K) (hf : rj S0 S) {Q : Prop} (k_K : ∀ (a0 : ms), K a0 → rj S0 a0 → Q) : Q := by
  unfold b_readFrame_98 at h
  exact rj_b_readFrame_99 h hf k_K
set_option maxHeartbeats 1000000 in
theorem rj_b_readFrame_82 {S0 : ms} {x2 : Int32} {s0 : Int32} {S : ms} {K : ms → Prop} (h : b_readFrame_82 x2 s0 S K) (hf : rj S0 S) {Q : Prop} (k_K : ∀ (a0 : ms), K a0 → rj S0 a0 → Q) : Q := by
  unfold b_readFrame_82 at h
  refine dt_p h (fun c_1 h_2 => ?_) (fun c_1 h_2 => ?_)
  ·
    exact rj_b_readFrame_98 h_2 hf k_K
  ·
    refine dt_p h_2 (fun c_5 h_6 => ?_) (fun c_5 h_6 => ?_)
    ·
      exact rj_b_readFrame_98 h_6 hf k_K
    ·
      exact rj_b_readFrame_99 h_6 hf k_K
set_option maxHeartbeats 1000000 in
theorem rj_b_readFrame_58 {S0 : ms} {x2 : Int32} {s1 : Int32} {S : ms} {K : ms → Prop} (h : b_readFrame_58 x2 s1 S K) (hf : rj S0 S) {Q : Prop} (k_K : ∀ (a0 : ms), K a0 → rj S0 a0 → Q) : Q := by
  unfold b_readFrame_58 at h
  refine rj_p_must h hf (fun S64 h_1 f_2 => ?_)
  refine dt_n h_1 (fun c_3 h_4 => ?_) (fun c_3 h_4 => ?_)
  ·
    exact rj_b_readFrame_82 h_4 f_2 k_K
  ·
    refine rj_p_nextTwo h_4 f_2 (fun v75 S75 h_7 f_8 => ?_)
    exact rj_b_readFrame_82 h_7 f_8 k_K
set_option maxHeartbeats 1000000 in
theorem rj_b_readFrame_57 {S0 : ms} {x2 : Int32} {S : ms} {K : ms → Prop} (h : b_readFrame_57 x2 S K) (hf : rj S0 S) {Q : Prop} (k_K : ∀ (a0 : ms), K a0 → rj S0 a0 → Q) : Q := by
  unfold b_readFrame_57 at h
  exact rj_b_readFrame_58 h hf k_K
set_option maxHeartbeats 1000000 in
theorem rj_b_readFrame_41 {S0 : ms} {s0 : Int32} {S : ms} {K : ms → Prop} (h : b_readFrame_41 s0 S K) (hf : rj S0 S) {Q : Prop} (k_K : ∀ (a0 : ms), K a0 → rj S0 a0 → Q) : Q := by
  unfold b_readFrame_41 at h
  refine dt_p h (fun c_1 h_2 => ?_) (fun c_1 h_2 => ?_)
  ·
    exact rj_b_readFrame_57 h_2 hf k_K
  ·
    refine dt_p h_2 (fun c_5 h_6 => ?_) (fun c_5 h_6 => ?_)
    ·
      exact rj_b_readFrame_57 h_6 hf k_K
    ·
      exact rj_b_readFrame_58 h_6 hf k_K
set_option maxHeartbeats 1000000 in
theorem rj_b_readFrame_17 {S0 : ms} {s1 : Int32} {S : ms} {K : ms → Prop} (h : b_readFrame_17 s1 S K) (hf : rj S0 S) {Q : Prop} (k_K : ∀ (a0 : ms), K a0 → rj S0 a0 → Q) : Q := by
  unfold b_readFrame_17 at h
  refine rj_p_must h hf (fun S23 h_1 f_2 => ?_)
  refine dt_n h_1 (fun c_3 h_4 => ?_) (fun c_3 h_4 => ?_)
  ·
    exact rj_b_readFrame_41 h_4 f_2 k_K
  ·
    refine rj_p_nextTwo h_4 f_2 (fun v34 S34 h_7 f_8 => ?_)
    exact rj_b_readFrame_41 h_7 f_8 k_K
set_option maxHeartbeats 1000000 in
theorem rj_p_readFrame {S0 : ms} {S : ms} {K : ms → Prop} (h : p_readFrame S K) (hf : rj S0 S) {Q : Prop} (k_K : ∀ (a0 : ms), K a0 → rj S0 a0 → Q) : Q := by
  unfold p_readFrame at h
  refine rj_p_next h hf (fun v1 S1 h_1 f_2 => ?_)
  refine dt_n h_1 (fun c_3 h_4 => ?_) (fun c_3 h_4 => ?_)
  ·
    exact rj_b_readFrame_17 h_4 f_2 k_K
  ·
    exact rj_b_readFrame_17 h_4 f_2 k_K
set_option maxHeartbeats 1000000 in
theorem rj_b_layerNamed_29 {S0 : ms} {x1 : Int32} {x3 : Int32} {s0 : Int32} {S : ms} {R4 : Int32 → Int32 → Int32 → ms → Prop} {K : Int32 → ms → Prop} (h : b_layerNamed_29 x1 x3 s0 S R4 K) (hf : rj S0 S) {Q : Prop} (k_R4 : ∀ (a0 : Int32) (a1 : Int32) (a2 : Int32) (a3 : ms), R4 a0 a1 a2 a3 → rj S0 a3 → Q) (k_K : ∀ (a0 : Int32) (a1 : ms), K a0 a1 → rj S0 a1 → Q) : Q := by
  unfold b_layerNamed_29 at h
  exact k_R4 _ _ _ _ h hf
set_option maxHeartbeats 1000000 in
theorem rj_b_layerNamed_4 {S0 : ms} {x1 : Int32} {x2 : Int32} {x3 : Int32} {S : ms} {R4 : Int32 → Int32 → Int32 → ms → Prop} {K : Int32 → ms → Prop} (h : b_layerNamed_4 x1 x2 x3 S R4 K) (hf : rj S0 S) {Q : Prop} (k_R4 : ∀ (a0 : Int32) (a1 : Int32) (a2 : Int32) (a3 : ms), R4 a0 a1 a2 a3 → rj S0 a3 → Q) (k_K : ∀ (a0 : Int32) (a1 : ms), K a0 a1 → rj S0 a1 → Q) : Q := by
  unfold b_layerNamed_4 at h
  refine dt_p (And.right h) (fun c_1 h_2 => ?_) (fun c_1 h_2 => ?_)
  ·
    exact k_K _ _ h_2 hf
  ·
    refine dt_n (And.right h_2) (fun c_3 h_4 => ?_) (fun c_3 h_4 => ?_)
    ·
      exact rj_b_layerNamed_29 h_4 hf k_R4 k_K
    ·
      exact rj_b_layerNamed_29 h_4 hf k_R4 k_K
theorem rj_e_layerNamed_4 {S0 : ms} {x1 : Int32} {x2 : Int32} {x3 : Int32} {S : ms} {K : Int32 → ms → Prop} (h : e_layerNamed_4 x1 x2 x3 S K) (hf : rj S0 S) {Q : Prop} (k_K : ∀ (a0 : Int32) (a1 : ms), K a0 a1 → rj S0 a1 → Q) : Q := by
  obtain ⟨I, μ, i0, is⟩ := h
  have go : ∀ (n : Nat) (yx1 : Int32) (yx2 : Int32) (yx3 : Int32) (yS : ms), μ yx1 yx2 yx3 yS < n → I yx1 yx2 yx3 yS → rj S0 yS → Q := by
    intro n
    induction n with
    | zero => intro yx1 yx2 yx3 yS hy; exact absurd hy (Nat.not_lt_zero _)
    | succ n ih =>
      intro yx1 yx2 yx3 yS hy hI hV
      exact rj_b_layerNamed_4 (is yx1 yx2 yx3 yS hI) hV (fun a0 a1 a2 a3 hR hz => ih a0 a1 a2 a3 (Nat.lt_of_lt_of_le hR.2 (Nat.le_of_lt_succ hy)) hR.1 hz) k_K
  exact go _ x1 x2 x3 S (Nat.lt_succ_self _) i0 hf
set_option maxHeartbeats 1000000 in
theorem rj_p_layerNamed {S0 : ms} {x1 : Int32} {S : ms} {K : Int32 → ms → Prop} (h : p_layerNamed x1 S K) (hf : rj S0 S) {Q : Prop} (k_K : ∀ (a0 : Int32) (a1 : ms), K a0 a1 → rj S0 a1 → Q) : Q := by
  unfold p_layerNamed at h
  exact rj_e_layerNamed_4 h hf k_K
set_option maxHeartbeats 1000000 in
theorem rj_b_readScanHead_557 {S0 : ms} {S : ms} {K : ms → Prop} (h : b_readScanHead_557 S K) (hf : rj S0 S) {Q : Prop} (k_K : ∀ (a0 : ms), K a0 → rj S0 a0 → Q) : Q := by
  unfold b_readScanHead_557 at h
  exact k_K _ h hf
set_option maxHeartbeats 1000000 in
theorem rj_b_readScanHead_497 {S0 : ms} {x1 : Int32} {x5 : Int32} {x6 : Int32} {S : ms} {R468 : Int32 → Int32 → ms → Prop} {R497 : Int32 → Int32 → Int32 → ms → Prop} {K : ms → Prop} (h : b_readScanHead_497 x1 x5 x6 S R468 R497 K) (hf : rj S0 S) {Q : Prop} (k_R468 : ∀ (a0 : Int32) (a1 : Int32) (a2 : ms), R468 a0 a1 a2 → rj S0 a2 → Q) (k_R497 : ∀ (a0 : Int32) (a1 : Int32) (a2 : Int32) (a3 : ms), R497 a0 a1 a2 a3 → rj S0 a3 → Q) (k_K : ∀ (a0 : ms), K a0 → rj S0 a0 → Q) : Q := by
  unfold b_readScanHead_497 at h
  refine dt_p h (fun c_1 h_2 => ?_) (fun c_1 h_2 => ?_)
  ·
    exact k_R468 _ _ _ h_2 hf
  ·
    exact k_R497 _ _ _ _ (And.right (And.right (And.right (And.right (And.right h_2))))) (rj_w hf (by decide))
theorem rj_e_readScanHead_497 {S0 : ms} {x1 : Int32} {x5 : Int32} {x6 : Int32} {S : ms} {R468 : Int32 → Int32 → ms → Prop} {K : ms → Prop} (h : e_readScanHead_497 x1 x5 x6 S R468 K) (hf : rj S0 S) {Q : Prop} (k_R468 : ∀ (a0 : Int32) (a1 : Int32) (a2 : ms), R468 a0 a1 a2 → rj S0 a2 → Q) (k_K : ∀ (a0 : ms), K a0 → rj S0 a0 → Q) : Q := by
  obtain ⟨I, μ, i0, is⟩ := h
  have go : ∀ (n : Nat) (yx1 : Int32) (yx5 : Int32) (yx6 : Int32) (yS : ms), μ yx1 yx5 yx6 yS < n → I yx1 yx5 yx6 yS → rj S0 yS → Q := by
    intro n
    induction n with
    | zero => intro yx1 yx5 yx6 yS hy; exact absurd hy (Nat.not_lt_zero _)
    | succ n ih =>
      intro yx1 yx5 yx6 yS hy hI hV
      exact rj_b_readScanHead_497 (is yx1 yx5 yx6 yS hI) hV k_R468 (fun a0 a1 a2 a3 hR hz => ih a0 a1 a2 a3 (Nat.lt_of_lt_of_le hR.2 (Nat.le_of_lt_succ hy)) hR.1 hz) k_K
  exact go _ x1 x5 x6 S (Nat.lt_succ_self _) i0 hf
set_option maxHeartbeats 1000000 in
theorem rj_b_readScanHead_468 {S0 : ms} {x1 : Int32} {x5 : Int32} {S : ms} {R468 : Int32 → Int32 → ms → Prop} {K : ms → Prop} (h : b_readScanHead_468 x1 x5 S R468 K) (hf : rj S0 S) {Q : Prop} (k_R468 : ∀ (a0 : Int32) (a1 : Int32) (a2 : ms), R468 a0 a1 a2 → rj S0 a2 → Q) (k_K : ∀ (a0 : ms), K a0 → rj S0 a0 → Q) : Q := by
  unfold b_readScanHead_468 at h
  refine dt_p h (fun c_1 h_2 => ?_) (fun c_1 h_2 => ?_)
  ·
    exact rj_b_readScanHead_557 h_2 hf k_K
  ·
    refine dt_n h_2 (fun c_5 h_6 => ?_) (fun c_5 h_6 => ?_)
    ·
      exact rj_b_readScanHead_557 h_6 hf k_K
    ·
      exact rj_e_readScanHead_497 (And.right (And.right h_6)) (rj_w hf (by decide)) k_R468 k_K
theorem rj_e_readScanHead_468 {S0 : ms} {x1 : Int32} {x5 : Int32} {S : ms} {K : ms → Prop} (h : e_readScanHead_468 x1 x5 S K) (hf : rj S0 S) {Q : Prop} (k_K : ∀ (a0 : ms), K a0 → rj S0 a0 → Q) : Q := by
  obtain ⟨I, μ, i0, is⟩ := h
  have go : ∀ (n : Nat) (yx1 : Int32) (yx5 : Int32) (yS : ms), μ yx1 yx5 yS < n → I yx1 yx5 yS → rj S0 yS → Q := by
    intro n
    induction n with
    | zero => intro yx1 yx5 yS hy; exact absurd hy (Nat.not_lt_zero _)
    | succ n ih =>
      intro yx1 yx5 yS hy hI hV
      exact rj_b_readScanHead_468 (is yx1 yx5 yS hI) hV (fun a0 a1 a2 hR hz => ih a0 a1 a2 (Nat.lt_of_lt_of_le hR.2 (Nat.le_of_lt_succ hy)) hR.1 hz) k_K
  exact go _ x1 x5 S (Nat.lt_succ_self _) i0 hf
set_option maxHeartbeats 1000000 in
theorem rj_b_readScanHead_460 {S0 : ms} {x1 : Int32} {S : ms} {K : ms → Prop} (h : b_readScanHead_460 x1 S K) (hf : rj S0 S) {Q : Prop} (k_K : ∀ (a0 : ms), K a0 → rj S0 a0 → Q) : Q := by
  unfold b_readScanHead_460 at h
  exact rj_e_readScanHead_468 h hf k_K
set_option maxHeartbeats 1000000 in
theorem rj_b_readScanHead_432 {S0 : ms} {x1 : Int32} {x2 : Int32} {x4 : Int32} {S : ms} {K : ms → Prop} (h : b_readScanHead_432 x1 x2 x4 S K) (hf : rj S0 S) {Q : Prop} (k_K : ∀ (a0 : ms), K a0 → rj S0 a0 → Q) : Q := by
  unfold b_readScanHead_432 at h
  refine dt_n h (fun c_1 h_2 => ?_) (fun c_1 h_2 => ?_)
  ·
    exact rj_b_readScanHead_460 h_2 hf k_K
  ·
    refine dt_p h_2 (fun c_5 h_6 => ?_) (fun c_5 h_6 => ?_)
    ·
      exact rj_b_readScanHead_460 h_6 hf k_K
    ·
      refine dt_p h_6 (fun c_9 h_10 => ?_) (fun c_9 h_10 => ?_)
      ·
        exact rj_b_readScanHead_460 h_10 hf k_K
      ·
        refine rj_p_fail h_10 hf (fun v455 S455 h_13 f_14 => ?_)
        exact rj_b_readScanHead_460 h_13 f_14 k_K
set_option maxHeartbeats 1000000 in
theorem rj_b_readScanHead_417 {S0 : ms} {x1 : Int32} {x2 : Int32} {x4 : Int32} {x5 : Int32} {s1 : Int32} {S : ms} {R375 : Int32 → Int32 → Int32 → Int32 → ms → Prop} {K : ms → Prop} (h : b_readScanHead_417 x1 x2 x4 x5 s1 S R375 K) (hf : rj S0 S) {Q : Prop} (k_R375 : ∀ (a0 : Int32) (a1 : Int32) (a2 : Int32) (a3 : Int32) (a4 : ms), R375 a0 a1 a2 a3 a4 → rj S0 a4 → Q) (k_K : ∀ (a0 : ms), K a0 → rj S0 a0 → Q) : Q := by
  unfold b_readScanHead_417 at h
  refine rj_p_must h hf (fun S423 h_1 f_2 => ?_)
  exact k_R375 _ _ _ _ _ h_1 f_2
set_option maxHeartbeats 1000000 in
theorem rj_b_readScanHead_409 {S0 : ms} {x1 : Int32} {x2 : Int32} {x4 : Int32} {x5 : Int32} {s1 : Int32} {s2 : Int32} {S : ms} {R375 : Int32 → Int32 → Int32 → Int32 → ms → Prop} {K : ms → Prop} (h : b_readScanHead_409 x1 x2 x4 x5 s1 s2 S R375 K) (hf : rj S0 S) {Q : Prop} (k_R375 : ∀ (a0 : Int32) (a1 : Int32) (a2 : Int32) (a3 : Int32) (a4 : ms), R375 a0 a1 a2 a3 a4 → rj S0 a4 → Q) (k_K : ∀ (a0 : ms), K a0 → rj S0 a0 → Q) : Q := by
  unfold b_readScanHead_409 at h
  refine dt_n h (fun c_1 h_2 => ?_) (fun c_1 h_2 => ?_)
  ·
    exact rj_b_readScanHead_417 h_2 hf k_R375 k_K
  ·
    exact rj_b_readScanHead_417 h_2 hf k_R375 k_K
set_option maxHeartbeats 1000000 in
theorem rj_b_readScanHead_375 {S0 : ms} {x1 : Int32} {x2 : Int32} {x4 : Int32} {x5 : Int32} {S : ms} {R375 : Int32 → Int32 → Int32 → Int32 → ms → Prop} {K : ms → Prop} (h : b_readScanHead_375 x1 x2 x4 x5 S R375 K) (hf : rj S0 S) {Q : Prop} (k_R375 : ∀ (a0 : Int32) (a1 : Int32) (a2 : Int32) (a3 : Int32) (a4 : ms), R375 a0 a1 a2 a3 a4 → rj S0 a4 → Q) (k_K : ∀ (a0 : ms), K a0 → rj S0 a0 → Q) : Q := by
  unfold b_readScanHead_375 at h
  refine dt_p h (fun c_1 h_2 => ?_) (fun c_1 h_2 => ?_)
  ·
    exact rj_b_readScanHead_432 h_2 hf k_K
  ·
    refine dt_n h_2 (fun c_5 h_6 => ?_) (fun c_5 h_6 => ?_)
    ·
      exact rj_b_readScanHead_432 h_6 hf k_K
    ·
      refine rj_p_next h_6 hf (fun v389 S389 h_9 f_10 => ?_)
      refine dt_n h_9 (fun c_11 h_12 => ?_) (fun c_11 h_12 => ?_)
      ·
        exact rj_b_readScanHead_409 h_12 f_10 k_R375 k_K
      ·
        exact rj_b_readScanHead_409 h_12 f_10 k_R375 k_K
theorem rj_e_readScanHead_375 {S0 : ms} {x1 : Int32} {x2 : Int32} {x4 : Int32} {x5 : Int32} {S : ms} {K : ms → Prop} (h : e_readScanHead_375 x1 x2 x4 x5 S K) (hf : rj S0 S) {Q : Prop} (k_K : ∀ (a0 : ms), K a0 → rj S0 a0 → Q) : Q := by
  obtain ⟨I, μ, i0, is⟩ := h
  have go : ∀ (n : Nat) (yx1 : Int32) (yx2 : Int32) (yx4 : Int32) (yx5 : Int32) (yS : ms), μ yx1 yx2 yx4 yx5 yS < n → I yx1 yx2 yx4 yx5 yS → rj S0 yS → Q := by
    intro n
    induction n with
    | zero => intro yx1 yx2 yx4 yx5 yS hy; exact absurd hy (Nat.not_lt_zero _)
    | succ n ih =>
      intro yx1 yx2 yx4 yx5 yS hy hI hV
      exact rj_b_readScanHead_375 (is yx1 yx2 yx4 yx5 yS hI) hV (fun a0 a1 a2 a3 a4 hR hz => ih a0 a1 a2 a3 a4 (Nat.lt_of_lt_of_le hR.2 (Nat.le_of_lt_succ hy)) hR.1 hz) k_K
  exact go _ x1 x2 x4 x5 S (Nat.lt_succ_self _) i0 hf
set_option maxHeartbeats 1000000 in
theorem rj_b_readScanHead_372 {S0 : ms} {x1 : Int32} {x2 : Int32} {x4 : Int32} {S : ms} {K : ms → Prop} (h : b_readScanHead_372 x1 x2 x4 S K) (hf : rj S0 S) {Q : Prop} (k_K : ∀ (a0 : ms), K a0 → rj S0 a0 → Q) : Q := by
  unfold b_readScanHead_372 at h
  exact rj_e_readScanHead_375 h hf k_K
set_option maxHeartbeats 1000000 in
theorem rj_b_readScanHead_366 {S0 : ms} {x1 : Int32} {x2 : Int32} {x3 : Int32} {x4 : Int32} {x5 : Int32} {S : ms} {R79 : Int32 → Int32 → Int32 → Int32 → Int32 → ms → Prop} {K : ms → Prop} (h : b_readScanHead_366 x1 x2 x3 x4 x5 S R79 K) (hf : rj S0 S) {Q : Prop} (k_R79 : ∀ (a0 : Int32) (a1 : Int32) (a2 : Int32) (a3 : Int32) (a4 : Int32) (a5 : ms), R79 a0 a1 a2 a3 a4 a5 → rj S0 a5 → Q) (k_K : ∀ (a0 : ms), K a0 → rj S0 a0 → Q) : Q := by
  unfold b_readScanHead_366 at h
  exact k_R79 _ _ _ _ _ _ h hf
set_option maxHeartbeats 1000000 in
theorem rj_b_readScanHead_297 {S0 : ms} {x1 : Int32} {x2 : Int32} {x3 : Int32} {x4 : Int32} {x5 : Int32} {x7 : Int32} {x8 : Int32} {S : ms} {R79 : Int32 → Int32 → Int32 → Int32 → Int32 → ms → Prop} {K : ms → Prop} (h : b_readScanHead_297 x1 x2 x3 x4 x5 x7 x8 S R79 K) (hf : rj S0 S) {Q : Prop} (k_R79 : ∀ (a0 : Int32) (a1 : Int32) (a2 : Int32) (a3 : Int32) (a4 : Int32) (a5 : ms), R79 a0 a1 a2 a3 a4 a5 → rj S0 a5 → Q) (k_K : ∀ (a0 : ms), K a0 → rj S0 a0 → Q) : Q := by
  unfold b_readScanHead_297 at h
  refine dt_n h (fun c_1 h_2 => ?_) (fun c_1 h_2 => ?_)
  ·
    exact rj_b_readScanHead_366 h_2 hf k_R79 k_K
  ·
    exact rj_b_readScanHead_366 (And.right (And.right (And.right (And.right (And.right h_2))))) (rj_w (rj_w (rj_w hf (by decide)) (by decide)) (by decide)) k_R79 k_K
set_option maxHeartbeats 1000000 in
theorem rj_b_readScanHead_283 {S0 : ms} {x1 : Int32} {x2 : Int32} {x3 : Int32} {x4 : Int32} {x5 : Int32} {x7 : Int32} {x8 : Int32} {S : ms} {R79 : Int32 → Int32 → Int32 → Int32 → Int32 → ms → Prop} {K : ms → Prop} (h : b_readScanHead_283 x1 x2 x3 x4 x5 x7 x8 S R79 K) (hf : rj S0 S) {Q : Prop} (k_R79 : ∀ (a0 : Int32) (a1 : Int32) (a2 : Int32) (a3 : Int32) (a4 : Int32) (a5 : ms), R79 a0 a1 a2 a3 a4 a5 → rj S0 a5 → Q) (k_K : ∀ (a0 : ms), K a0 → rj S0 a0 → Q) : Q := by
  unfold b_readScanHead_283 at h
  refine rj_p_fail h hf (fun v292 S292 h_1 f_2 => ?_)
  exact rj_b_readScanHead_297 h_1 f_2 k_R79 k_K
set_option maxHeartbeats 1000000 in
theorem rj_b_readScanHead_241 {S0 : ms} {x1 : Int32} {x2 : Int32} {x3 : Int32} {x4 : Int32} {x5 : Int32} {x7 : Int32} {x8 : Int32} {s1 : Int32} {S : ms} {R79 : Int32 → Int32 → Int32 → Int32 → Int32 → ms → Prop} {K : ms → Prop} (h : b_readScanHead_241 x1 x2 x3 x4 x5 x7 x8 s1 S R79 K) (hf : rj S0 S) {Q : Prop} (k_R79 : ∀ (a0 : Int32) (a1 : Int32) (a2 : Int32) (a3 : Int32) (a4 : Int32) (a5 : ms), R79 a0 a1 a2 a3 a4 a5 → rj S0 a5 → Q) (k_K : ∀ (a0 : ms), K a0 → rj S0 a0 → Q) : Q := by
  unfold b_readScanHead_241 at h
  refine rj_p_must h hf (fun S247 h_1 f_2 => ?_)
  refine dt_n h_1 (fun c_3 h_4 => ?_) (fun c_3 h_4 => ?_)
  ·
    exact rj_b_readScanHead_297 h_4 f_2 k_R79 k_K
  ·
    refine dt_p (And.right h_4) (fun c_9 h_10 => ?_) (fun c_9 h_10 => ?_)
    ·
      exact rj_b_readScanHead_283 h_10 f_2 k_R79 k_K
    ·
      refine dt_n (And.right h_10) (fun c_15 h_16 => ?_) (fun c_15 h_16 => ?_)
      ·
        exact rj_b_readScanHead_297 h_16 f_2 k_R79 k_K
      ·
        exact rj_b_readScanHead_283 h_16 f_2 k_R79 k_K
set_option maxHeartbeats 1000000 in
theorem rj_b_readScanHead_236 {S0 : ms} {x1 : Int32} {x2 : Int32} {x3 : Int32} {x4 : Int32} {x5 : Int32} {x7 : Int32} {x8 : Int32} {S : ms} {R79 : Int32 → Int32 → Int32 → Int32 → Int32 → ms → Prop} {K : ms → Prop} (h : b_readScanHead_236 x1 x2 x3 x4 x5 x7 x8 S R79 K) (hf : rj S0 S) {Q : Prop} (k_R79 : ∀ (a0 : Int32) (a1 : Int32) (a2 : Int32) (a3 : Int32) (a4 : Int32) (a5 : ms), R79 a0 a1 a2 a3 a4 a5 → rj S0 a5 → Q) (k_K : ∀ (a0 : ms), K a0 → rj S0 a0 → Q) : Q := by
  unfold b_readScanHead_236 at h
  exact rj_b_readScanHead_241 h hf k_R79 k_K
set_option maxHeartbeats 1000000 in
theorem rj_b_readScanHead_208 {S0 : ms} {x1 : Int32} {x2 : Int32} {x3 : Int32} {x4 : Int32} {x5 : Int32} {x7 : Int32} {s0 : Int32} {S : ms} {R79 : Int32 → Int32 → Int32 → Int32 → Int32 → ms → Prop} {K : ms → Prop} (h : b_readScanHead_208 x1 x2 x3 x4 x5 x7 s0 S R79 K) (hf : rj S0 S) {Q : Prop} (k_R79 : ∀ (a0 : Int32) (a1 : Int32) (a2 : Int32) (a3 : Int32) (a4 : Int32) (a5 : ms), R79 a0 a1 a2 a3 a4 a5 → rj S0 a5 → Q) (k_K : ∀ (a0 : ms), K a0 → rj S0 a0 → Q) : Q := by
  unfold b_readScanHead_208 at h
  refine dt_p h (fun c_1 h_2 => ?_) (fun c_1 h_2 => ?_)
  ·
    exact rj_b_readScanHead_236 h_2 hf k_R79 k_K
  ·
    refine dt_p h_2 (fun c_7 h_8 => ?_) (fun c_7 h_8 => ?_)
    ·
      exact rj_b_readScanHead_236 h_8 hf k_R79 k_K
    ·
      refine dt_p h_8 (fun c_13 h_14 => ?_) (fun c_13 h_14 => ?_)
      ·
        exact rj_b_readScanHead_236 h_14 hf k_R79 k_K
      ·
        refine dt_n h_14 (fun c_19 h_20 => ?_) (fun c_19 h_20 => ?_)
        ·
          exact rj_b_readScanHead_241 h_20 hf k_R79 k_K
        ·
          exact rj_b_readScanHead_236 h_20 hf k_R79 k_K
set_option maxHeartbeats 1000000 in
theorem rj_b_readScanHead_193 {S0 : ms} {x1 : Int32} {x2 : Int32} {x3 : Int32} {x4 : Int32} {x5 : Int32} {x7 : Int32} {S : ms} {R79 : Int32 → Int32 → Int32 → Int32 → Int32 → ms → Prop} {K : ms → Prop} (h : b_readScanHead_193 x1 x2 x3 x4 x5 x7 S R79 K) (hf : rj S0 S) {Q : Prop} (k_R79 : ∀ (a0 : Int32) (a1 : Int32) (a2 : Int32) (a3 : Int32) (a4 : Int32) (a5 : ms), R79 a0 a1 a2 a3 a4 a5 → rj S0 a5 → Q) (k_K : ∀ (a0 : ms), K a0 → rj S0 a0 → Q) : Q := by
  unfold b_readScanHead_193 at h
  refine dt_n h (fun c_1 h_2 => ?_) (fun c_1 h_2 => ?_)
  ·
    exact rj_b_readScanHead_208 h_2 hf k_R79 k_K
  ·
    refine rj_p_next h_2 hf (fun v201 S201 h_7 f_8 => ?_)
    exact rj_b_readScanHead_208 h_7 f_8 k_R79 k_K
set_option maxHeartbeats 1000000 in
theorem rj_b_readScanHead_148 {S0 : ms} {x1 : Int32} {x2 : Int32} {x3 : Int32} {x4 : Int32} {x5 : Int32} {x7 : Int32} {s1 : Int32} {S : ms} {R79 : Int32 → Int32 → Int32 → Int32 → Int32 → ms → Prop} {K : ms → Prop} (h : b_readScanHead_148 x1 x2 x3 x4 x5 x7 s1 S R79 K) (hf : rj S0 S) {Q : Prop} (k_R79 : ∀ (a0 : Int32) (a1 : Int32) (a2 : Int32) (a3 : Int32) (a4 : Int32) (a5 : ms), R79 a0 a1 a2 a3 a4 a5 → rj S0 a5 → Q) (k_K : ∀ (a0 : ms), K a0 → rj S0 a0 → Q) : Q := by
  unfold b_readScanHead_148 at h
  refine rj_p_must h hf (fun S154 h_1 f_2 => ?_)
  refine dt_n h_1 (fun c_3 h_4 => ?_) (fun c_3 h_4 => ?_)
  ·
    exact rj_b_readScanHead_193 h_4 f_2 k_R79 k_K
  ·
    refine dt_n (And.right (And.right h_4)) (fun c_9 h_10 => ?_) (fun c_9 h_10 => ?_)
    ·
      exact rj_b_readScanHead_193 h_10 f_2 k_R79 k_K
    ·
      refine rj_p_fail h_10 f_2 (fun v188 S188 h_15 f_16 => ?_)
      exact rj_b_readScanHead_193 h_15 f_16 k_R79 k_K
set_option maxHeartbeats 1000000 in
theorem rj_b_readScanHead_147 {S0 : ms} {x1 : Int32} {x2 : Int32} {x3 : Int32} {x4 : Int32} {x5 : Int32} {x7 : Int32} {S : ms} {R79 : Int32 → Int32 → Int32 → Int32 → Int32 → ms → Prop} {K : ms → Prop} (h : b_readScanHead_147 x1 x2 x3 x4 x5 x7 S R79 K) (hf : rj S0 S) {Q : Prop} (k_R79 : ∀ (a0 : Int32) (a1 : Int32) (a2 : Int32) (a3 : Int32) (a4 : Int32) (a5 : ms), R79 a0 a1 a2 a3 a4 a5 → rj S0 a5 → Q) (k_K : ∀ (a0 : ms), K a0 → rj S0 a0 → Q) : Q := by
  unfold b_readScanHead_147 at h
  exact rj_b_readScanHead_148 h hf k_R79 k_K
set_option maxHeartbeats 1000000 in
theorem rj_b_readScanHead_139 {S0 : ms} {x1 : Int32} {x2 : Int32} {x3 : Int32} {x4 : Int32} {x5 : Int32} {x7 : Int32} {s2 : Int32} {S : ms} {R79 : Int32 → Int32 → Int32 → Int32 → Int32 → ms → Prop} {K : ms → Prop} (h : b_readScanHead_139 x1 x2 x3 x4 x5 x7 s2 S R79 K) (hf : rj S0 S) {Q : Prop} (k_R79 : ∀ (a0 : Int32) (a1 : Int32) (a2 : Int32) (a3 : Int32) (a4 : Int32) (a5 : ms), R79 a0 a1 a2 a3 a4 a5 → rj S0 a5 → Q) (k_K : ∀ (a0 : ms), K a0 → rj S0 a0 → Q) : Q := by
  unfold b_readScanHead_139 at h
  refine dt_n (And.right h) (fun c_1 h_2 => ?_) (fun c_1 h_2 => ?_)
  ·
    exact rj_b_readScanHead_147 h_2 hf k_R79 k_K
  ·
    exact rj_b_readScanHead_148 h_2 hf k_R79 k_K
set_option maxHeartbeats 1000000 in
theorem rj_b_readScanHead_115 {S0 : ms} {x1 : Int32} {x2 : Int32} {x3 : Int32} {x4 : Int32} {x5 : Int32} {s0 : Int32} {S : ms} {R79 : Int32 → Int32 → Int32 → Int32 → Int32 → ms → Prop} {K : ms → Prop} (h : b_readScanHead_115 x1 x2 x3 x4 x5 s0 S R79 K) (hf : rj S0 S) {Q : Prop} (k_R79 : ∀ (a0 : Int32) (a1 : Int32) (a2 : Int32) (a3 : Int32) (a4 : Int32) (a5 : ms), R79 a0 a1 a2 a3 a4 a5 → rj S0 a5 → Q) (k_K : ∀ (a0 : ms), K a0 → rj S0 a0 → Q) : Q := by
  unfold b_readScanHead_115 at h
  refine dt_p h (fun c_1 h_2 => ?_) (fun c_1 h_2 => ?_)
  ·
    exact rj_b_readScanHead_147 h_2 hf k_R79 k_K
  ·
    refine dt_p h_2 (fun c_7 h_8 => ?_) (fun c_7 h_8 => ?_)
    ·
      exact rj_b_readScanHead_139 h_8 hf k_R79 k_K
    ·
      exact rj_b_readScanHead_139 h_8 hf k_R79 k_K
set_option maxHeartbeats 1000000 in
theorem rj_b_readScanHead_79 {S0 : ms} {x1 : Int32} {x2 : Int32} {x3 : Int32} {x4 : Int32} {x5 : Int32} {S : ms} {R79 : Int32 → Int32 → Int32 → Int32 → Int32 → ms → Prop} {K : ms → Prop} (h : b_readScanHead_79 x1 x2 x3 x4 x5 S R79 K) (hf : rj S0 S) {Q : Prop} (k_R79 : ∀ (a0 : Int32) (a1 : Int32) (a2 : Int32) (a3 : Int32) (a4 : Int32) (a5 : ms), R79 a0 a1 a2 a3 a4 a5 → rj S0 a5 → Q) (k_K : ∀ (a0 : ms), K a0 → rj S0 a0 → Q) : Q := by
  unfold b_readScanHead_79 at h
  refine dt_p h (fun c_1 h_2 => ?_) (fun c_1 h_2 => ?_)
  ·
    exact rj_b_readScanHead_372 h_2 hf k_K
  ·
    refine dt_n h_2 (fun c_5 h_6 => ?_) (fun c_5 h_6 => ?_)
    ·
      exact rj_b_readScanHead_372 h_6 hf k_K
    ·
      refine rj_p_next h_6 hf (fun v93 S93 h_9 f_10 => ?_)
      refine dt_n h_9 (fun c_11 h_12 => ?_) (fun c_11 h_12 => ?_)
      ·
        exact rj_b_readScanHead_115 h_12 f_10 k_R79 k_K
      ·
        refine rj_p_layerNamed h_12 f_10 (fun v108 S108 h_17 f_18 => ?_)
        exact rj_b_readScanHead_115 h_17 f_18 k_R79 k_K
theorem rj_e_readScanHead_79 {S0 : ms} {x1 : Int32} {x2 : Int32} {x3 : Int32} {x4 : Int32} {x5 : Int32} {S : ms} {K : ms → Prop} (h : e_readScanHead_79 x1 x2 x3 x4 x5 S K) (hf : rj S0 S) {Q : Prop} (k_K : ∀ (a0 : ms), K a0 → rj S0 a0 → Q) : Q := by
  obtain ⟨I, μ, i0, is⟩ := h
  have go : ∀ (n : Nat) (yx1 : Int32) (yx2 : Int32) (yx3 : Int32) (yx4 : Int32) (yx5 : Int32) (yS : ms), μ yx1 yx2 yx3 yx4 yx5 yS < n → I yx1 yx2 yx3 yx4 yx5 yS → rj S0 yS → Q := by
    intro n
    induction n with
    | zero => intro yx1 yx2 yx3 yx4 yx5 yS hy; exact absurd hy (Nat.not_lt_zero _)
    | succ n ih =>
      intro yx1 yx2 yx3 yx4 yx5 yS hy hI hV
      exact rj_b_readScanHead_79 (is yx1 yx2 yx3 yx4 yx5 yS hI) hV (fun a0 a1 a2 a3 a4 a5 hR hz => ih a0 a1 a2 a3 a4 a5 (Nat.lt_of_lt_of_le hR.2 (Nat.le_of_lt_succ hy)) hR.1 hz) k_K
  exact go _ x1 x2 x3 x4 x5 S (Nat.lt_succ_self _) i0 hf
set_option maxHeartbeats 1000000 in
theorem rj_b_readScanHead_71 {S0 : ms} {x1 : Int32} {x2 : Int32} {S : ms} {K : ms → Prop} (h : b_readScanHead_71 x1 x2 S K) (hf : rj S0 S) {Q : Prop} (k_K : ∀ (a0 : ms), K a0 → rj S0 a0 → Q) : Q := by
  unfold b_readScanHead_71 at h
  exact rj_e_readScanHead_79 h hf k_K
set_option maxHeartbeats 1000000 in
theorem rj_b_readScanHead_32 {S0 : ms} {x1 : Int32} {x2 : Int32} {s1 : Int32} {S : ms} {K : ms → Prop} (h : b_readScanHead_32 x1 x2 s1 S K) (hf : rj S0 S) {Q : Prop} (k_K : ∀ (a0 : ms), K a0 → rj S0 a0 → Q) : Q := by
  unfold b_readScanHead_32 at h
  refine rj_p_must h hf (fun S33 h_1 f_2 => ?_)
  refine dt_n h_1 (fun c_3 h_4 => ?_) (fun c_3 h_4 => ?_)
  ·
    exact rj_b_readScanHead_71 h_4 f_2 k_K
  ·
    refine dt_p h_4 (fun c_7 h_8 => ?_) (fun c_7 h_8 => ?_)
    ·
      exact rj_b_readScanHead_71 h_8 f_2 k_K
    ·
      refine rj_p_fail h_8 f_2 (fun v67 S67 h_11 f_12 => ?_)
      exact rj_b_readScanHead_71 h_11 f_12 k_K
set_option maxHeartbeats 1000000 in
theorem rj_b_readScanHead_31 {S0 : ms} {x1 : Int32} {x2 : Int32} {S : ms} {K : ms → Prop} (h : b_readScanHead_31 x1 x2 S K) (hf : rj S0 S) {Q : Prop} (k_K : ∀ (a0 : ms), K a0 → rj S0 a0 → Q) : Q := by
  unfold b_readScanHead_31 at h
  exact rj_b_readScanHead_32 h hf k_K
set_option maxHeartbeats 1000000 in
theorem rj_p_readScanHead {S0 : ms} {S : ms} {K : ms → Prop} (h : p_readScanHead S K) (hf : rj S0 S) {Q : Prop} (k_K : ∀ (a0 : ms), K a0 → rj S0 a0 → Q) : Q := by
  unfold p_readScanHead at h
  refine rj_p_next h hf (fun v1 S1 h_1 f_2 => ?_)
  refine dt_p h_1 (fun c_3 h_4 => ?_) (fun c_3 h_4 => ?_)
  ·
    exact rj_b_readScanHead_31 h_4 f_2 k_K
  ·
    refine dt_p (And.right h_4) (fun c_7 h_8 => ?_) (fun c_7 h_8 => ?_)
    ·
      exact rj_b_readScanHead_31 h_8 f_2 k_K
    ·
      exact rj_b_readScanHead_32 h_8 f_2 k_K
set_option maxHeartbeats 1000000 in
theorem rj_b_readBit_73 {S0 : ms} {S : ms} {K : Int32 → ms → Prop} (h : b_readBit_73 S K) (hf : rj S0 S) {Q : Prop} (k_K : ∀ (a0 : Int32) (a1 : ms), K a0 a1 → rj S0 a1 → Q) : Q := by
  unfold b_readBit_73 at h
  refine dt_p h (fun c_1 h_2 => ?_) (fun c_1 h_2 => ?_)
  ·
    exact k_K _ _ h_2 hf
  ·
    exact k_K _ _ h_2 hf
set_option maxHeartbeats 1000000 in
theorem rj_b_readBit_67 {S0 : ms} {S : ms} {K : Int32 → ms → Prop} (h : b_readBit_67 S K) (hf : rj S0 S) {Q : Prop} (k_K : ∀ (a0 : Int32) (a1 : ms), K a0 a1 → rj S0 a1 → Q) : Q := by
  unfold b_readBit_67 at h
  exact rj_b_readBit_73 h hf k_K
set_option maxHeartbeats 1000000 in
theorem rj_p_readBit {S0 : ms} {S : ms} {K : Int32 → ms → Prop} (h : p_readBit S K) (hf : rj S0 S) {Q : Prop} (k_K : ∀ (a0 : Int32) (a1 : ms), K a0 a1 → rj S0 a1 → Q) : Q := by
  unfold p_readBit at h
  refine dt_n h (fun c_1 h_2 => ?_) (fun c_1 h_2 => ?_)
  ·
    exact rj_b_readBit_73 h_2 hf k_K
  ·
    refine rj_p_next h_2 hf (fun v17 S17 h_5 f_6 => ?_)
    refine dt_n h_5 (fun c_7 h_8 => ?_) (fun c_7 h_8 => ?_)
    ·
      exact rj_b_readBit_67 h_8 f_6 k_K
    ·
      refine dt_n h_8 (fun c_11 h_12 => ?_) (fun c_11 h_12 => ?_)
      ·
        exact rj_b_readBit_67 h_12 f_6 k_K
      ·
        refine rj_p_next h_12 f_6 (fun v41 S41 h_15 f_16 => ?_)
        refine dt_n h_15 (fun c_17 h_18 => ?_) (fun c_17 h_18 => ?_)
        ·
          exact rj_b_readBit_67 h_18 f_16 k_K
        ·
          refine dt_p h_18 (fun c_21 h_22 => ?_) (fun c_21 h_22 => ?_)
          ·
            exact rj_b_readBit_67 h_22 f_16 k_K
          ·
            refine rj_p_fail h_22 f_16 (fun v63 S63 h_25 f_26 => ?_)
            exact rj_b_readBit_67 h_25 f_26 k_K
set_option maxHeartbeats 1000000 in
theorem rj_b_readSymbol_39 {S0 : ms} {x1 : Int32} {x2 : Int32} {x3 : Int32} {x4 : Int32} {x5 : Int32} {S : ms} {R10 : Int32 → Int32 → Int32 → Int32 → Int32 → ms → Prop} {K : Int32 → ms → Prop} (h : b_readSymbol_39 x1 x2 x3 x4 x5 S R10 K) (hf : rj S0 S) {Q : Prop} (k_R10 : ∀ (a0 : Int32) (a1 : Int32) (a2 : Int32) (a3 : Int32) (a4 : Int32) (a5 : ms), R10 a0 a1 a2 a3 a4 a5 → rj S0 a5 → Q) (k_K : ∀ (a0 : Int32) (a1 : ms), K a0 a1 → rj S0 a1 → Q) : Q := by
  unfold b_readSymbol_39 at h
  refine dt_p h (fun c_1 h_2 => ?_) (fun c_1 h_2 => ?_)
  ·
    refine dt_p (And.right h_2) (fun c_3 h_4 => ?_) (fun c_3 h_4 => ?_)
    ·
      exact k_R10 _ _ _ _ _ _ h_4 hf
    ·
      exact k_K _ _ (And.right h_4) hf
  ·
    exact k_K _ _ h_2 hf
set_option maxHeartbeats 1000000 in
theorem rj_b_readSymbol_10 {S0 : ms} {x1 : Int32} {x2 : Int32} {x3 : Int32} {x4 : Int32} {x5 : Int32} {S : ms} {R10 : Int32 → Int32 → Int32 → Int32 → Int32 → ms → Prop} {K : Int32 → ms → Prop} (h : b_readSymbol_10 x1 x2 x3 x4 x5 S R10 K) (hf : rj S0 S) {Q : Prop} (k_R10 : ∀ (a0 : Int32) (a1 : Int32) (a2 : Int32) (a3 : Int32) (a4 : Int32) (a5 : ms), R10 a0 a1 a2 a3 a4 a5 → rj S0 a5 → Q) (k_K : ∀ (a0 : Int32) (a1 : ms), K a0 a1 → rj S0 a1 → Q) : Q := by
  unfold b_readSymbol_10 at h
  refine dt_p h (fun c_1 h_2 => ?_) (fun c_1 h_2 => ?_)
  ·
    refine rj_p_fail h_2 hf (fun v117 S117 h_3 f_4 => ?_)
    exact k_K _ _ h_3 f_4
  ·
    refine rj_p_readBit h_2 hf (fun v21 S21 h_5 f_6 => ?_)
    refine dt_n h_5 (fun c_7 h_8 => ?_) (fun c_7 h_8 => ?_)
    ·
      exact rj_b_readSymbol_39 h_8 f_6 k_R10 k_K
    ·
      exact rj_b_readSymbol_39 h_8 f_6 k_R10 k_K
theorem rj_e_readSymbol_10 {S0 : ms} {x1 : Int32} {x2 : Int32} {x3 : Int32} {x4 : Int32} {x5 : Int32} {S : ms} {K : Int32 → ms → Prop} (h : e_readSymbol_10 x1 x2 x3 x4 x5 S K) (hf : rj S0 S) {Q : Prop} (k_K : ∀ (a0 : Int32) (a1 : ms), K a0 a1 → rj S0 a1 → Q) : Q := by
  obtain ⟨I, μ, i0, is⟩ := h
  have go : ∀ (n : Nat) (yx1 : Int32) (yx2 : Int32) (yx3 : Int32) (yx4 : Int32) (yx5 : Int32) (yS : ms), μ yx1 yx2 yx3 yx4 yx5 yS < n → I yx1 yx2 yx3 yx4 yx5 yS → rj S0 yS → Q := by
    intro n
    induction n with
    | zero => intro yx1 yx2 yx3 yx4 yx5 yS hy; exact absurd hy (Nat.not_lt_zero _)
    | succ n ih =>
      intro yx1 yx2 yx3 yx4 yx5 yS hy hI hV
      exact rj_b_readSymbol_10 (is yx1 yx2 yx3 yx4 yx5 yS hI) hV (fun a0 a1 a2 a3 a4 a5 hR hz => ih a0 a1 a2 a3 a4 a5 (Nat.lt_of_lt_of_le hR.2 (Nat.le_of_lt_succ hy)) hR.1 hz) k_K
  exact go _ x1 x2 x3 x4 x5 S (Nat.lt_succ_self _) i0 hf
set_option maxHeartbeats 1000000 in
theorem rj_p_readSymbol {S0 : ms} {x1 : Int32} {S : ms} {K : Int32 → ms → Prop} (h : p_readSymbol x1 S K) (hf : rj S0 S) {Q : Prop} (k_K : ∀ (a0 : Int32) (a1 : ms), K a0 a1 → rj S0 a1 → Q) : Q := by
  unfold p_readSymbol at h
  exact rj_e_readSymbol_10 h hf k_K
set_option maxHeartbeats 1000000 in
theorem rj_b_readNumber_48 {S0 : ms} {s0 : Int32} {S : ms} {K : Int32 → ms → Prop} (h : b_readNumber_48 s0 S K) (hf : rj S0 S) {Q : Prop} (k_K : ∀ (a0 : Int32) (a1 : ms), K a0 a1 → rj S0 a1 → Q) : Q := by
  unfold b_readNumber_48 at h
  exact k_K _ _ h hf
set_option maxHeartbeats 1000000 in
theorem rj_b_readNumber_47 {S0 : ms} {x2 : Int32} {S : ms} {K : Int32 → ms → Prop} (h : b_readNumber_47 x2 S K) (hf : rj S0 S) {Q : Prop} (k_K : ∀ (a0 : Int32) (a1 : ms), K a0 a1 → rj S0 a1 → Q) : Q := by
  unfold b_readNumber_47 at h
  exact rj_b_readNumber_48 h hf k_K
set_option maxHeartbeats 1000000 in
theorem rj_b_readNumber_4 {S0 : ms} {x1 : Int32} {x2 : Int32} {x3 : Int32} {S : ms} {R4 : Int32 → Int32 → Int32 → ms → Prop} {K : Int32 → ms → Prop} (h : b_readNumber_4 x1 x2 x3 S R4 K) (hf : rj S0 S) {Q : Prop} (k_R4 : ∀ (a0 : Int32) (a1 : Int32) (a2 : Int32) (a3 : ms), R4 a0 a1 a2 a3 → rj S0 a3 → Q) (k_K : ∀ (a0 : Int32) (a1 : ms), K a0 a1 → rj S0 a1 → Q) : Q := by
  unfold b_readNumber_4 at h
  refine dt_p h (fun c_1 h_2 => ?_) (fun c_1 h_2 => ?_)
  ·
    refine dt_p h_2 (fun c_3 h_4 => ?_) (fun c_3 h_4 => ?_)
    ·
      exact rj_b_readNumber_47 h_4 hf k_K
    ·
      refine dt_p h_4 (fun c_7 h_8 => ?_) (fun c_7 h_8 => ?_)
      ·
        exact rj_b_readNumber_47 h_8 hf k_K
      ·
        exact rj_b_readNumber_48 h_8 hf k_K
  ·
    refine rj_p_readBit h_2 hf (fun v13 S13 h_13 f_14 => ?_)
    exact k_R4 _ _ _ _ h_13 f_14
theorem rj_e_readNumber_4 {S0 : ms} {x1 : Int32} {x2 : Int32} {x3 : Int32} {S : ms} {K : Int32 → ms → Prop} (h : e_readNumber_4 x1 x2 x3 S K) (hf : rj S0 S) {Q : Prop} (k_K : ∀ (a0 : Int32) (a1 : ms), K a0 a1 → rj S0 a1 → Q) : Q := by
  obtain ⟨I, μ, i0, is⟩ := h
  have go : ∀ (n : Nat) (yx1 : Int32) (yx2 : Int32) (yx3 : Int32) (yS : ms), μ yx1 yx2 yx3 yS < n → I yx1 yx2 yx3 yS → rj S0 yS → Q := by
    intro n
    induction n with
    | zero => intro yx1 yx2 yx3 yS hy; exact absurd hy (Nat.not_lt_zero _)
    | succ n ih =>
      intro yx1 yx2 yx3 yS hy hI hV
      exact rj_b_readNumber_4 (is yx1 yx2 yx3 yS hI) hV (fun a0 a1 a2 a3 hR hz => ih a0 a1 a2 a3 (Nat.lt_of_lt_of_le hR.2 (Nat.le_of_lt_succ hy)) hR.1 hz) k_K
  exact go _ x1 x2 x3 S (Nat.lt_succ_self _) i0 hf
set_option maxHeartbeats 1000000 in
theorem rj_p_readNumber {S0 : ms} {x1 : Int32} {S : ms} {K : Int32 → ms → Prop} (h : p_readNumber x1 S K) (hf : rj S0 S) {Q : Prop} (k_K : ∀ (a0 : Int32) (a1 : ms), K a0 a1 → rj S0 a1 → Q) : Q := by
  unfold p_readNumber at h
  exact rj_e_readNumber_4 h hf k_K
set_option maxHeartbeats 1000000 in
theorem rj_b_readBlock_248 {S0 : ms} {S : ms} {K : ms → Prop} (h : b_readBlock_248 S K) (hf : rj S0 S) {Q : Prop} (k_K : ∀ (a0 : ms), K a0 → rj S0 a0 → Q) : Q := by
  unfold b_readBlock_248 at h
  exact k_K _ h hf
set_option maxHeartbeats 1000000 in
theorem rj_b_readBlock_245 {S0 : ms} {x1 : Int32} {x2 : Int32} {x3 : Int32} {x7 : Int32} {S : ms} {R102 : Int32 → Int32 → Int32 → Int32 → ms → Prop} {K : ms → Prop} (h : b_readBlock_245 x1 x2 x3 x7 S R102 K) (hf : rj S0 S) {Q : Prop} (k_R102 : ∀ (a0 : Int32) (a1 : Int32) (a2 : Int32) (a3 : Int32) (a4 : ms), R102 a0 a1 a2 a3 a4 → rj S0 a4 → Q) (k_K : ∀ (a0 : ms), K a0 → rj S0 a0 → Q) : Q := by
  unfold b_readBlock_245 at h
  exact k_R102 _ _ _ _ _ h hf
set_option maxHeartbeats 1000000 in
theorem rj_b_readBlock_208 {S0 : ms} {x1 : Int32} {x2 : Int32} {x3 : Int32} {x7 : Int32} {x8 : Int32} {S : ms} {R102 : Int32 → Int32 → Int32 → Int32 → ms → Prop} {K : ms → Prop} (h : b_readBlock_208 x1 x2 x3 x7 x8 S R102 K) (hf : rj S0 S) {Q : Prop} (k_R102 : ∀ (a0 : Int32) (a1 : Int32) (a2 : Int32) (a3 : Int32) (a4 : ms), R102 a0 a1 a2 a3 a4 → rj S0 a4 → Q) (k_K : ∀ (a0 : ms), K a0 → rj S0 a0 → Q) : Q := by
  unfold b_readBlock_208 at h
  refine dt_p h (fun c_1 h_2 => ?_) (fun c_1 h_2 => ?_)
  ·
    exact rj_b_readBlock_245 h_2 hf k_R102 k_K
  ·
    refine rj_p_readNumber h_2 hf (fun v222 S222 h_7 f_8 => ?_)
    refine d_p_levelCell h_7 (fun v236 h_9 _ => ?_)
    exact rj_b_readBlock_245 (And.right h_9) (rj_w f_8 (by decide)) k_R102 k_K
set_option maxHeartbeats 1000000 in
theorem rj_b_readBlock_195 {S0 : ms} {x1 : Int32} {x2 : Int32} {x3 : Int32} {x5 : Int32} {x7 : Int32} {S : ms} {R102 : Int32 → Int32 → Int32 → Int32 → ms → Prop} {K : ms → Prop} (h : b_readBlock_195 x1 x2 x3 x5 x7 S R102 K) (hf : rj S0 S) {Q : Prop} (k_R102 : ∀ (a0 : Int32) (a1 : Int32) (a2 : Int32) (a3 : Int32) (a4 : ms), R102 a0 a1 a2 a3 a4 → rj S0 a4 → Q) (k_K : ∀ (a0 : ms), K a0 → rj S0 a0 → Q) : Q := by
  unfold b_readBlock_195 at h
  refine rj_p_fail h hf (fun v200 S200 h_1 f_2 => ?_)
  exact rj_b_readBlock_245 h_1 f_2 k_R102 k_K
set_option maxHeartbeats 1000000 in
theorem rj_b_readBlock_167 {S0 : ms} {x1 : Int32} {x2 : Int32} {x3 : Int32} {x5 : Int32} {x8 : Int32} {s0 : Int32} {s1 : Int32} {S : ms} {R102 : Int32 → Int32 → Int32 → Int32 → ms → Prop} {K : ms → Prop} (h : b_readBlock_167 x1 x2 x3 x5 x8 s0 s1 S R102 K) (hf : rj S0 S) {Q : Prop} (k_R102 : ∀ (a0 : Int32) (a1 : Int32) (a2 : Int32) (a3 : Int32) (a4 : ms), R102 a0 a1 a2 a3 a4 → rj S0 a4 → Q) (k_K : ∀ (a0 : ms), K a0 → rj S0 a0 → Q) : Q := by
  unfold b_readBlock_167 at h
  refine dt_n h (fun c_1 h_2 => ?_) (fun c_1 h_2 => ?_)
  ·
    refine dt_p h_2 (fun c_3 h_4 => ?_) (fun c_3 h_4 => ?_)
    ·
      exact rj_b_readBlock_208 h_4 hf k_R102 k_K
    ·
      exact rj_b_readBlock_195 h_4 hf k_R102 k_K
  ·
    refine dt_p h_2 (fun c_13 h_14 => ?_) (fun c_13 h_14 => ?_)
    ·
      exact rj_b_readBlock_208 h_14 hf k_R102 k_K
    ·
      exact rj_b_readBlock_195 h_14 hf k_R102 k_K
set_option maxHeartbeats 1000000 in
theorem rj_b_readBlock_146 {S0 : ms} {S : ms} {K : ms → Prop} (h : b_readBlock_146 S K) (hf : rj S0 S) {Q : Prop} (k_K : ∀ (a0 : ms), K a0 → rj S0 a0 → Q) : Q := by
  unfold b_readBlock_146 at h
  exact k_K _ h hf
set_option maxHeartbeats 1000000 in
theorem rj_b_readBlock_102 {S0 : ms} {x1 : Int32} {x2 : Int32} {x3 : Int32} {x7 : Int32} {S : ms} {R102 : Int32 → Int32 → Int32 → Int32 → ms → Prop} {K : ms → Prop} (h : b_readBlock_102 x1 x2 x3 x7 S R102 K) (hf : rj S0 S) {Q : Prop} (k_R102 : ∀ (a0 : Int32) (a1 : Int32) (a2 : Int32) (a3 : Int32) (a4 : ms), R102 a0 a1 a2 a3 a4 → rj S0 a4 → Q) (k_K : ∀ (a0 : ms), K a0 → rj S0 a0 → Q) : Q := by
  unfold b_readBlock_102 at h
  refine dt_p h (fun c_1 h_2 => ?_) (fun c_1 h_2 => ?_)
  ·
    exact rj_b_readBlock_248 h_2 hf k_K
  ·
    refine dt_n h_2 (fun c_5 h_6 => ?_) (fun c_5 h_6 => ?_)
    ·
      exact rj_b_readBlock_248 h_6 hf k_K
    ·
      refine rj_p_readSymbol (And.right h_6) hf (fun v123 S123 h_9 f_10 => ?_)
      refine dt_p h_9 (fun c_11 h_12 => ?_) (fun c_11 h_12 => ?_)
      ·
        exact rj_b_readBlock_146 h_12 f_10 k_K
      ·
        refine dt_n h_12 (fun c_15 h_16 => ?_) (fun c_15 h_16 => ?_)
        ·
          refine dt_n h_16 (fun c_17 h_18 => ?_) (fun c_17 h_18 => ?_)
          ·
            exact rj_b_readBlock_167 h_18 f_10 k_R102 k_K
          ·
            exact rj_b_readBlock_167 h_18 f_10 k_R102 k_K
        ·
          exact rj_b_readBlock_146 h_16 f_10 k_K
theorem rj_e_readBlock_102 {S0 : ms} {x1 : Int32} {x2 : Int32} {x3 : Int32} {x7 : Int32} {S : ms} {K : ms → Prop} (h : e_readBlock_102 x1 x2 x3 x7 S K) (hf : rj S0 S) {Q : Prop} (k_K : ∀ (a0 : ms), K a0 → rj S0 a0 → Q) : Q := by
  obtain ⟨I, μ, i0, is⟩ := h
  have go : ∀ (n : Nat) (yx1 : Int32) (yx2 : Int32) (yx3 : Int32) (yx7 : Int32) (yS : ms), μ yx1 yx2 yx3 yx7 yS < n → I yx1 yx2 yx3 yx7 yS → rj S0 yS → Q := by
    intro n
    induction n with
    | zero => intro yx1 yx2 yx3 yx7 yS hy; exact absurd hy (Nat.not_lt_zero _)
    | succ n ih =>
      intro yx1 yx2 yx3 yx7 yS hy hI hV
      exact rj_b_readBlock_102 (is yx1 yx2 yx3 yx7 yS hI) hV (fun a0 a1 a2 a3 a4 hR hz => ih a0 a1 a2 a3 a4 (Nat.lt_of_lt_of_le hR.2 (Nat.le_of_lt_succ hy)) hR.1 hz) k_K
  exact go _ x1 x2 x3 x7 S (Nat.lt_succ_self _) i0 hf
set_option maxHeartbeats 1000000 in
theorem rj_b_readBlock_77 {S0 : ms} {x1 : Int32} {x2 : Int32} {x3 : Int32} {x6 : Int32} {S : ms} {K : ms → Prop} (h : b_readBlock_77 x1 x2 x3 x6 S K) (hf : rj S0 S) {Q : Prop} (k_K : ∀ (a0 : ms), K a0 → rj S0 a0 → Q) : Q := by
  unfold b_readBlock_77 at h
  refine d_p_levelCell (And.right h) (fun v93 h_1 _ => ?_)
  exact rj_e_readBlock_102 (And.right h_1) (rj_w (rj_w hf (by decide)) (by decide)) k_K
set_option maxHeartbeats 1000000 in
theorem rj_b_readBlock_67 {S0 : ms} {x1 : Int32} {x2 : Int32} {x3 : Int32} {x5 : Int32} {x6 : Int32} {S : ms} {K : ms → Prop} (h : b_readBlock_67 x1 x2 x3 x5 x6 S K) (hf : rj S0 S) {Q : Prop} (k_K : ∀ (a0 : ms), K a0 → rj S0 a0 → Q) : Q := by
  unfold b_readBlock_67 at h
  refine rj_p_fail h hf (fun v72 S72 h_1 f_2 => ?_)
  exact rj_b_readBlock_77 h_1 f_2 k_K
set_option maxHeartbeats 1000000 in
theorem rj_b_readBlock_42 {S0 : ms} {x1 : Int32} {x2 : Int32} {x3 : Int32} {x5 : Int32} {s0 : Int32} {S : ms} {K : ms → Prop} (h : b_readBlock_42 x1 x2 x3 x5 s0 S K) (hf : rj S0 S) {Q : Prop} (k_K : ∀ (a0 : ms), K a0 → rj S0 a0 → Q) : Q := by
  unfold b_readBlock_42 at h
  refine dt_n h (fun c_1 h_2 => ?_) (fun c_1 h_2 => ?_)
  ·
    exact rj_b_readBlock_77 h_2 hf k_K
  ·
    refine dt_p h_2 (fun c_5 h_6 => ?_) (fun c_5 h_6 => ?_)
    ·
      exact rj_b_readBlock_67 h_6 hf k_K
    ·
      refine dt_p h_6 (fun c_9 h_10 => ?_) (fun c_9 h_10 => ?_)
      ·
        exact rj_b_readBlock_77 h_10 hf k_K
      ·
        exact rj_b_readBlock_67 h_10 hf k_K
set_option maxHeartbeats 1000000 in
theorem rj_p_readBlock {S0 : ms} {x1 : Int32} {x2 : Int32} {x3 : Int32} {S : ms} {K : ms → Prop} (h : p_readBlock x1 x2 x3 S K) (hf : rj S0 S) {Q : Prop} (k_K : ∀ (a0 : ms), K a0 → rj S0 a0 → Q) : Q := by
  unfold p_readBlock at h
  refine rj_p_readSymbol (And.right h) hf (fun v7 S7 h_1 f_2 => ?_)
  refine dt_n h_1 (fun c_3 h_4 => ?_) (fun c_3 h_4 => ?_)
  ·
    exact rj_b_readBlock_42 h_4 f_2 k_K
  ·
    refine rj_p_readNumber (And.right h_4) f_2 (fun v34 S34 h_7 f_8 => ?_)
    exact rj_b_readBlock_42 h_7 f_8 k_K
set_option maxHeartbeats 1000000 in
theorem rj_b_readUnit_166 {S0 : ms} {S : ms} {K : ms → Prop} (h : b_readUnit_166 S K) (hf : rj S0 S) {Q : Prop} (k_K : ∀ (a0 : ms), K a0 → rj S0 a0 → Q) : Q := by
  unfold b_readUnit_166 at h
  exact k_K _ h hf
set_option maxHeartbeats 1000000 in
theorem rj_b_readUnit_160 {S0 : ms} {x3 : Int32} {x4 : Int32} {x5 : Int32} {S : ms} {R12 : Int32 → Int32 → Int32 → ms → Prop} {K : ms → Prop} (h : b_readUnit_160 x3 x4 x5 S R12 K) (hf : rj S0 S) {Q : Prop} (k_R12 : ∀ (a0 : Int32) (a1 : Int32) (a2 : Int32) (a3 : ms), R12 a0 a1 a2 a3 → rj S0 a3 → Q) (k_K : ∀ (a0 : ms), K a0 → rj S0 a0 → Q) : Q := by
  unfold b_readUnit_160 at h
  exact k_R12 _ _ _ _ h hf
set_option maxHeartbeats 1000000 in
theorem rj_b_readUnit_88 {S0 : ms} {x3 : Int32} {x4 : Int32} {x5 : Int32} {x6 : Int32} {x7 : Int32} {x8 : Int32} {x9 : Int32} {S : ms} {R12 : Int32 → Int32 → Int32 → ms → Prop} {R88 : Int32 → Int32 → Int32 → Int32 → Int32 → Int32 → Int32 → ms → Prop} {K : ms → Prop} (h : b_readUnit_88 x3 x4 x5 x6 x7 x8 x9 S R12 R88 K) (hf : rj S0 S) {Q : Prop} (k_R12 : ∀ (a0 : Int32) (a1 : Int32) (a2 : Int32) (a3 : ms), R12 a0 a1 a2 a3 → rj S0 a3 → Q) (k_R88 : ∀ (a0 : Int32) (a1 : Int32) (a2 : Int32) (a3 : Int32) (a4 : Int32) (a5 : Int32) (a6 : Int32) (a7 : ms), R88 a0 a1 a2 a3 a4 a5 a6 a7 → rj S0 a7 → Q) (k_K : ∀ (a0 : ms), K a0 → rj S0 a0 → Q) : Q := by
  unfold b_readUnit_88 at h
  refine dt_p h (fun c_1 h_2 => ?_) (fun c_1 h_2 => ?_)
  ·
    exact rj_b_readUnit_160 h_2 hf k_R12 k_K
  ·
    refine dt_n h_2 (fun c_7 h_8 => ?_) (fun c_7 h_8 => ?_)
    ·
      exact rj_b_readUnit_160 h_8 hf k_R12 k_K
    ·
      refine rj_p_readBlock (And.right (And.right (And.right h_8))) hf (fun S151 h_13 f_14 => ?_)
      exact k_R88 _ _ _ _ _ _ _ _ h_13 f_14
theorem rj_e_readUnit_88 {S0 : ms} {x3 : Int32} {x4 : Int32} {x5 : Int32} {x6 : Int32} {x7 : Int32} {x8 : Int32} {x9 : Int32} {S : ms} {R12 : Int32 → Int32 → Int32 → ms → Prop} {K : ms → Prop} (h : e_readUnit_88 x3 x4 x5 x6 x7 x8 x9 S R12 K) (hf : rj S0 S) {Q : Prop} (k_R12 : ∀ (a0 : Int32) (a1 : Int32) (a2 : Int32) (a3 : ms), R12 a0 a1 a2 a3 → rj S0 a3 → Q) (k_K : ∀ (a0 : ms), K a0 → rj S0 a0 → Q) : Q := by
  obtain ⟨I, μ, i0, is⟩ := h
  have go : ∀ (n : Nat) (yx3 : Int32) (yx4 : Int32) (yx5 : Int32) (yx6 : Int32) (yx7 : Int32) (yx8 : Int32) (yx9 : Int32) (yS : ms), μ yx3 yx4 yx5 yx6 yx7 yx8 yx9 yS < n → I yx3 yx4 yx5 yx6 yx7 yx8 yx9 yS → rj S0 yS → Q := by
    intro n
    induction n with
    | zero => intro yx3 yx4 yx5 yx6 yx7 yx8 yx9 yS hy; exact absurd hy (Nat.not_lt_zero _)
    | succ n ih =>
      intro yx3 yx4 yx5 yx6 yx7 yx8 yx9 yS hy hI hV
      exact rj_b_readUnit_88 (is yx3 yx4 yx5 yx6 yx7 yx8 yx9 yS hI) hV k_R12 (fun a0 a1 a2 a3 a4 a5 a6 a7 hR hz => ih a0 a1 a2 a3 a4 a5 a6 a7 (Nat.lt_of_lt_of_le hR.2 (Nat.le_of_lt_succ hy)) hR.1 hz) k_K
  exact go _ x3 x4 x5 x6 x7 x8 x9 S (Nat.lt_succ_self _) i0 hf
set_option maxHeartbeats 1000000 in
theorem rj_b_readUnit_83 {S0 : ms} {x3 : Int32} {x4 : Int32} {x5 : Int32} {x6 : Int32} {x7 : Int32} {s0 : Int32} {S : ms} {R12 : Int32 → Int32 → Int32 → ms → Prop} {K : ms → Prop} (h : b_readUnit_83 x3 x4 x5 x6 x7 s0 S R12 K) (hf : rj S0 S) {Q : Prop} (k_R12 : ∀ (a0 : Int32) (a1 : Int32) (a2 : Int32) (a3 : ms), R12 a0 a1 a2 a3 → rj S0 a3 → Q) (k_K : ∀ (a0 : ms), K a0 → rj S0 a0 → Q) : Q := by
  unfold b_readUnit_83 at h
  exact rj_e_readUnit_88 h hf k_R12 k_K
set_option maxHeartbeats 1000000 in
theorem rj_b_readUnit_59 {S0 : ms} {x3 : Int32} {x4 : Int32} {x5 : Int32} {x6 : Int32} {s0 : Int32} {S : ms} {R12 : Int32 → Int32 → Int32 → ms → Prop} {K : ms → Prop} (h : b_readUnit_59 x3 x4 x5 x6 s0 S R12 K) (hf : rj S0 S) {Q : Prop} (k_R12 : ∀ (a0 : Int32) (a1 : Int32) (a2 : Int32) (a3 : ms), R12 a0 a1 a2 a3 → rj S0 a3 → Q) (k_K : ∀ (a0 : ms), K a0 → rj S0 a0 → Q) : Q := by
  unfold b_readUnit_59 at h
  refine dt_n h (fun c_1 h_2 => ?_) (fun c_1 h_2 => ?_)
  ·
    exact rj_b_readUnit_83 (And.right h_2) hf k_R12 k_K
  ·
    exact rj_b_readUnit_83 h_2 hf k_R12 k_K
set_option maxHeartbeats 1000000 in
theorem rj_b_readUnit_12 {S0 : ms} {x3 : Int32} {x4 : Int32} {x5 : Int32} {S : ms} {R12 : Int32 → Int32 → Int32 → ms → Prop} {K : ms → Prop} (h : b_readUnit_12 x3 x4 x5 S R12 K) (hf : rj S0 S) {Q : Prop} (k_R12 : ∀ (a0 : Int32) (a1 : Int32) (a2 : Int32) (a3 : ms), R12 a0 a1 a2 a3 → rj S0 a3 → Q) (k_K : ∀ (a0 : ms), K a0 → rj S0 a0 → Q) : Q := by
  unfold b_readUnit_12 at h
  refine dt_p h (fun c_1 h_2 => ?_) (fun c_1 h_2 => ?_)
  ·
    exact rj_b_readUnit_166 h_2 hf k_K
  ·
    refine dt_n h_2 (fun c_5 h_6 => ?_) (fun c_5 h_6 => ?_)
    ·
      exact rj_b_readUnit_166 h_6 hf k_K
    ·
      refine dt_n (And.right h_6) (fun c_9 h_10 => ?_) (fun c_9 h_10 => ?_)
      ·
        exact rj_b_readUnit_59 (And.right h_10) hf k_R12 k_K
      ·
        exact rj_b_readUnit_59 h_10 hf k_R12 k_K
theorem rj_e_readUnit_12 {S0 : ms} {x3 : Int32} {x4 : Int32} {x5 : Int32} {S : ms} {K : ms → Prop} (h : e_readUnit_12 x3 x4 x5 S K) (hf : rj S0 S) {Q : Prop} (k_K : ∀ (a0 : ms), K a0 → rj S0 a0 → Q) : Q := by
  obtain ⟨I, μ, i0, is⟩ := h
  have go : ∀ (n : Nat) (yx3 : Int32) (yx4 : Int32) (yx5 : Int32) (yS : ms), μ yx3 yx4 yx5 yS < n → I yx3 yx4 yx5 yS → rj S0 yS → Q := by
    intro n
    induction n with
    | zero => intro yx3 yx4 yx5 yS hy; exact absurd hy (Nat.not_lt_zero _)
    | succ n ih =>
      intro yx3 yx4 yx5 yS hy hI hV
      exact rj_b_readUnit_12 (is yx3 yx4 yx5 yS hI) hV (fun a0 a1 a2 a3 hR hz => ih a0 a1 a2 a3 (Nat.lt_of_lt_of_le hR.2 (Nat.le_of_lt_succ hy)) hR.1 hz) k_K
  exact go _ x3 x4 x5 S (Nat.lt_succ_self _) i0 hf
set_option maxHeartbeats 1000000 in
theorem rj_p_readUnit {S0 : ms} {x1 : Int32} {x2 : Int32} {S : ms} {K : ms → Prop} (h : p_readUnit x1 x2 S K) (hf : rj S0 S) {Q : Prop} (k_K : ∀ (a0 : ms), K a0 → rj S0 a0 → Q) : Q := by
  unfold p_readUnit at h
  exact rj_e_readUnit_12 (And.right (And.right h)) hf k_K
set_option maxHeartbeats 1000000 in
theorem rj_b_readData_260 {S0 : ms} {S : ms} {K : ms → Prop} (h : b_readData_260 S K) (hf : rj S0 S) {Q : Prop} (k_K : ∀ (a0 : ms), K a0 → rj S0 a0 → Q) : Q := by
  unfold b_readData_260 at h
  exact k_K _ h hf
set_option maxHeartbeats 1000000 in
theorem rj_b_readData_254 {S0 : ms} {x2 : Int32} {x3 : Int32} {x4 : Int32} {S : ms} {R106 : Int32 → Int32 → Int32 → ms → Prop} {K : ms → Prop} (h : b_readData_254 x2 x3 x4 S R106 K) (hf : rj S0 S) {Q : Prop} (k_R106 : ∀ (a0 : Int32) (a1 : Int32) (a2 : Int32) (a3 : ms), R106 a0 a1 a2 a3 → rj S0 a3 → Q) (k_K : ∀ (a0 : ms), K a0 → rj S0 a0 → Q) : Q := by
  unfold b_readData_254 at h
  exact k_R106 _ _ _ _ h hf
set_option maxHeartbeats 1000000 in
theorem rj_b_readData_240 {S0 : ms} {x2 : Int32} {x3 : Int32} {x4 : Int32} {S : ms} {R106 : Int32 → Int32 → Int32 → ms → Prop} {K : ms → Prop} (h : b_readData_240 x2 x3 x4 S R106 K) (hf : rj S0 S) {Q : Prop} (k_R106 : ∀ (a0 : Int32) (a1 : Int32) (a2 : Int32) (a3 : ms), R106 a0 a1 a2 a3 → rj S0 a3 → Q) (k_K : ∀ (a0 : ms), K a0 → rj S0 a0 → Q) : Q := by
  unfold b_readData_240 at h
  refine dt_n h (fun c_1 h_2 => ?_) (fun c_1 h_2 => ?_)
  ·
    exact rj_b_readData_254 h_2 hf k_R106 k_K
  ·
    refine rj_p_readUnit h_2 hf (fun S251 h_7 f_8 => ?_)
    exact rj_b_readData_254 h_7 f_8 k_R106 k_K
set_option maxHeartbeats 1000000 in
theorem rj_b_readData_226 {S0 : ms} {x2 : Int32} {x3 : Int32} {x4 : Int32} {x5 : Int32} {x6 : Int32} {S : ms} {R106 : Int32 → Int32 → Int32 → ms → Prop} {R210 : Int32 → Int32 → Int32 → Int32 → Int32 → ms → Prop} {K : ms → Prop} (h : b_readData_226 x2 x3 x4 x5 x6 S R106 R210 K) (hf : rj S0 S) {Q : Prop} (k_R106 : ∀ (a0 : Int32) (a1 : Int32) (a2 : Int32) (a3 : ms), R106 a0 a1 a2 a3 → rj S0 a3 → Q) (k_R210 : ∀ (a0 : Int32) (a1 : Int32) (a2 : Int32) (a3 : Int32) (a4 : Int32) (a5 : ms), R210 a0 a1 a2 a3 a4 a5 → rj S0 a5 → Q) (k_K : ∀ (a0 : ms), K a0 → rj S0 a0 → Q) : Q := by
  unfold b_readData_226 at h
  exact k_R210 _ _ _ _ _ _ (And.right h) (rj_w hf (by decide))
set_option maxHeartbeats 1000000 in
theorem rj_b_readData_210 {S0 : ms} {x2 : Int32} {x3 : Int32} {x4 : Int32} {x5 : Int32} {x6 : Int32} {S : ms} {R106 : Int32 → Int32 → Int32 → ms → Prop} {R210 : Int32 → Int32 → Int32 → Int32 → Int32 → ms → Prop} {K : ms → Prop} (h : b_readData_210 x2 x3 x4 x5 x6 S R106 R210 K) (hf : rj S0 S) {Q : Prop} (k_R106 : ∀ (a0 : Int32) (a1 : Int32) (a2 : Int32) (a3 : ms), R106 a0 a1 a2 a3 → rj S0 a3 → Q) (k_R210 : ∀ (a0 : Int32) (a1 : Int32) (a2 : Int32) (a3 : Int32) (a4 : Int32) (a5 : ms), R210 a0 a1 a2 a3 a4 a5 → rj S0 a5 → Q) (k_K : ∀ (a0 : ms), K a0 → rj S0 a0 → Q) : Q := by
  unfold b_readData_210 at h
  refine dt_p h (fun c_1 h_2 => ?_) (fun c_1 h_2 => ?_)
  ·
    exact rj_b_readData_240 h_2 hf k_R106 k_K
  ·
    refine dt_p h_2 (fun c_7 h_8 => ?_) (fun c_7 h_8 => ?_)
    ·
      exact rj_b_readData_226 h_8 hf k_R106 k_R210 k_K
    ·
      refine dt_p h_8 (fun c_15 h_16 => ?_) (fun c_15 h_16 => ?_)
      ·
        exact rj_b_readData_240 h_16 hf k_R106 k_K
      ·
        exact rj_b_readData_226 h_16 hf k_R106 k_R210 k_K
theorem rj_e_readData_210 {S0 : ms} {x2 : Int32} {x3 : Int32} {x4 : Int32} {x5 : Int32} {x6 : Int32} {S : ms} {R106 : Int32 → Int32 → Int32 → ms → Prop} {K : ms → Prop} (h : e_readData_210 x2 x3 x4 x5 x6 S R106 K) (hf : rj S0 S) {Q : Prop} (k_R106 : ∀ (a0 : Int32) (a1 : Int32) (a2 : Int32) (a3 : ms), R106 a0 a1 a2 a3 → rj S0 a3 → Q) (k_K : ∀ (a0 : ms), K a0 → rj S0 a0 → Q) : Q := by
  obtain ⟨I, μ, i0, is⟩ := h
  have go : ∀ (n : Nat) (yx2 : Int32) (yx3 : Int32) (yx4 : Int32) (yx5 : Int32) (yx6 : Int32) (yS : ms), μ yx2 yx3 yx4 yx5 yx6 yS < n → I yx2 yx3 yx4 yx5 yx6 yS → rj S0 yS → Q := by
    intro n
    induction n with
    | zero => intro yx2 yx3 yx4 yx5 yx6 yS hy; exact absurd hy (Nat.not_lt_zero _)
    | succ n ih =>
      intro yx2 yx3 yx4 yx5 yx6 yS hy hI hV
      exact rj_b_readData_210 (is yx2 yx3 yx4 yx5 yx6 yS hI) hV k_R106 (fun a0 a1 a2 a3 a4 a5 hR hz => ih a0 a1 a2 a3 a4 a5 (Nat.lt_of_lt_of_le hR.2 (Nat.le_of_lt_succ hy)) hR.1 hz) k_K
  exact go _ x2 x3 x4 x5 x6 S (Nat.lt_succ_self _) i0 hf
set_option maxHeartbeats 1000000 in
theorem rj_b_readData_207 {S0 : ms} {x2 : Int32} {x3 : Int32} {x4 : Int32} {x5 : Int32} {S : ms} {R106 : Int32 → Int32 → Int32 → ms → Prop} {K : ms → Prop} (h : b_readData_207 x2 x3 x4 x5 S R106 K) (hf : rj S0 S) {Q : Prop} (k_R106 : ∀ (a0 : Int32) (a1 : Int32) (a2 : Int32) (a3 : ms), R106 a0 a1 a2 a3 → rj S0 a3 → Q) (k_K : ∀ (a0 : ms), K a0 → rj S0 a0 → Q) : Q := by
  unfold b_readData_207 at h
  exact rj_e_readData_210 h hf k_R106 k_K
set_option maxHeartbeats 1000000 in
theorem rj_b_readData_148 {S0 : ms} {x2 : Int32} {x3 : Int32} {x4 : Int32} {s0 : Int32} {S : ms} {R106 : Int32 → Int32 → Int32 → ms → Prop} {K : ms → Prop} (h : b_readData_148 x2 x3 x4 s0 S R106 K) (hf : rj S0 S) {Q : Prop} (k_R106 : ∀ (a0 : Int32) (a1 : Int32) (a2 : Int32) (a3 : ms), R106 a0 a1 a2 a3 → rj S0 a3 → Q) (k_K : ∀ (a0 : ms), K a0 → rj S0 a0 → Q) : Q := by
  unfold b_readData_148 at h
  refine dt_p h (fun c_1 h_2 => ?_) (fun c_1 h_2 => ?_)
  ·
    exact rj_b_readData_207 h_2 hf k_R106 k_K
  ·
    refine rj_p_readMark h_2 hf (fun v161 S161 h_7 f_8 => ?_)
    refine dt_n h_7 (fun c_9 h_10 => ?_) (fun c_9 h_10 => ?_)
    ·
      exact rj_b_readData_207 h_10 f_8 k_R106 k_K
    ·
      refine dt_p (And.right h_10) (fun c_15 h_16 => ?_) (fun c_15 h_16 => ?_)
      ·
        exact rj_b_readData_207 h_16 f_8 k_R106 k_K
      ·
        refine rj_p_fail h_16 f_8 (fun v202 S202 h_21 f_22 => ?_)
        exact rj_b_readData_207 h_21 f_22 k_R106 k_K
set_option maxHeartbeats 1000000 in
theorem rj_b_readData_147 {S0 : ms} {x2 : Int32} {x3 : Int32} {x4 : Int32} {S : ms} {R106 : Int32 → Int32 → Int32 → ms → Prop} {K : ms → Prop} (h : b_readData_147 x2 x3 x4 S R106 K) (hf : rj S0 S) {Q : Prop} (k_R106 : ∀ (a0 : Int32) (a1 : Int32) (a2 : Int32) (a3 : ms), R106 a0 a1 a2 a3 → rj S0 a3 → Q) (k_K : ∀ (a0 : ms), K a0 → rj S0 a0 → Q) : Q := by
  unfold b_readData_147 at h
  exact rj_b_readData_148 h hf k_R106 k_K
set_option maxHeartbeats 1000000 in
theorem rj_b_readData_106 {S0 : ms} {x2 : Int32} {x3 : Int32} {x4 : Int32} {S : ms} {R106 : Int32 → Int32 → Int32 → ms → Prop} {K : ms → Prop} (h : b_readData_106 x2 x3 x4 S R106 K) (hf : rj S0 S) {Q : Prop} (k_R106 : ∀ (a0 : Int32) (a1 : Int32) (a2 : Int32) (a3 : ms), R106 a0 a1 a2 a3 → rj S0 a3 → Q) (k_K : ∀ (a0 : ms), K a0 → rj S0 a0 → Q) : Q := by
  unfold b_readData_106 at h
  refine dt_p h (fun c_1 h_2 => ?_) (fun c_1 h_2 => ?_)
  ·
    exact rj_b_readData_260 h_2 hf k_K
  ·
    refine dt_n h_2 (fun c_5 h_6 => ?_) (fun c_5 h_6 => ?_)
    ·
      exact rj_b_readData_260 h_6 hf k_K
    ·
      refine dt_p h_6 (fun c_9 h_10 => ?_) (fun c_9 h_10 => ?_)
      ·
        exact rj_b_readData_147 h_10 hf k_R106 k_K
      ·
        refine dt_p h_10 (fun c_15 h_16 => ?_) (fun c_15 h_16 => ?_)
        ·
          exact rj_b_readData_147 h_16 hf k_R106 k_K
        ·
          refine dt_n (And.right h_16) (fun c_21 h_22 => ?_) (fun c_21 h_22 => ?_)
          ·
            exact rj_b_readData_147 h_22 hf k_R106 k_K
          ·
            exact rj_b_readData_148 h_22 hf k_R106 k_K
theorem rj_e_readData_106 {S0 : ms} {x2 : Int32} {x3 : Int32} {x4 : Int32} {S : ms} {K : ms → Prop} (h : e_readData_106 x2 x3 x4 S K) (hf : rj S0 S) {Q : Prop} (k_K : ∀ (a0 : ms), K a0 → rj S0 a0 → Q) : Q := by
  obtain ⟨I, μ, i0, is⟩ := h
  have go : ∀ (n : Nat) (yx2 : Int32) (yx3 : Int32) (yx4 : Int32) (yS : ms), μ yx2 yx3 yx4 yS < n → I yx2 yx3 yx4 yS → rj S0 yS → Q := by
    intro n
    induction n with
    | zero => intro yx2 yx3 yx4 yS hy; exact absurd hy (Nat.not_lt_zero _)
    | succ n ih =>
      intro yx2 yx3 yx4 yS hy hI hV
      exact rj_b_readData_106 (is yx2 yx3 yx4 yS hI) hV (fun a0 a1 a2 a3 hR hz => ih a0 a1 a2 a3 (Nat.lt_of_lt_of_le hR.2 (Nat.le_of_lt_succ hy)) hR.1 hz) k_K
  exact go _ x2 x3 x4 S (Nat.lt_succ_self _) i0 hf
set_option maxHeartbeats 1000000 in
theorem rj_b_readData_97 {S0 : ms} {x2 : Int32} {s0 : Int32} {S : ms} {K : ms → Prop} (h : b_readData_97 x2 s0 S K) (hf : rj S0 S) {Q : Prop} (k_K : ∀ (a0 : ms), K a0 → rj S0 a0 → Q) : Q := by
  unfold b_readData_97 at h
  exact rj_e_readData_106 h hf k_K
set_option maxHeartbeats 1000000 in
theorem rj_b_readData_55 {S0 : ms} {x1 : Int32} {s0 : Int32} {S : ms} {K : ms → Prop} (h : b_readData_55 x1 s0 S K) (hf : rj S0 S) {Q : Prop} (k_K : ∀ (a0 : ms), K a0 → rj S0 a0 → Q) : Q := by
  unfold b_readData_55 at h
  refine dt_p h (fun c_1 h_2 => ?_) (fun c_1 h_2 => ?_)
  ·
    refine rj_p_greatest (And.right h_2) hf (fun v90 S90 h_3 f_4 => ?_)
    refine d_p_upward h_3 (fun v94 h_5 _ => ?_)
    exact rj_b_readData_97 h_5 f_4 k_K
  ·
    refine rj_p_layerHigh (And.right h_2) hf (fun v68 S68 h_8 f_9 => ?_)
    refine d_p_upward h_8 (fun v73 h_10 _ => ?_)
    exact rj_b_readData_97 h_10 f_9 k_K
set_option maxHeartbeats 1000000 in
theorem rj_b_readData_13 {S0 : ms} {s0 : Int32} {S : ms} {K : ms → Prop} (h : b_readData_13 s0 S K) (hf : rj S0 S) {Q : Prop} (k_K : ∀ (a0 : ms), K a0 → rj S0 a0 → Q) : Q := by
  unfold b_readData_13 at h
  refine dt_p h (fun c_1 h_2 => ?_) (fun c_1 h_2 => ?_)
  ·
    refine rj_p_greatest (And.right h_2) hf (fun v48 S48 h_3 f_4 => ?_)
    refine d_p_upward h_3 (fun v52 h_5 _ => ?_)
    exact rj_b_readData_55 h_5 f_4 k_K
  ·
    refine rj_p_layerWide (And.right h_2) hf (fun v26 S26 h_8 f_9 => ?_)
    refine d_p_upward h_8 (fun v31 h_10 _ => ?_)
    exact rj_b_readData_55 h_10 f_9 k_K
set_option maxHeartbeats 1000000 in
theorem rj_p_readData {S0 : ms} {S : ms} {K : ms → Prop} (h : p_readData S K) (hf : rj S0 S) {Q : Prop} (k_K : ∀ (a0 : ms), K a0 → rj S0 a0 → Q) : Q := by
  unfold p_readData at h
  refine dt_n h (fun c_1 h_2 => ?_) (fun c_1 h_2 => ?_)
  ·
    exact rj_b_readData_13 h_2 hf k_K
  ·
    exact rj_b_readData_13 h_2 hf k_K
set_option maxHeartbeats 1000000 in
theorem rj_b_readSection_157 {S0 : ms} {S : ms} {K : ms → Prop} (h : b_readSection_157 S K) (hf : rj S0 S) {Q : Prop} (k_K : ∀ (a0 : ms), K a0 → rj S0 a0 → Q) : Q := by
  unfold b_readSection_157 at h
  exact k_K _ h hf
set_option maxHeartbeats 1000000 in
theorem rj_b_readSection_131 {S0 : ms} {S : ms} {R131 : ms → Prop} {K : ms → Prop} (h : b_readSection_131 S R131 K) (hf : rj S0 S) {Q : Prop} (k_R131 : ∀ (a0 : ms), R131 a0 → rj S0 a0 → Q) (k_K : ∀ (a0 : ms), K a0 → rj S0 a0 → Q) : Q := by
  unfold b_readSection_131 at h
  refine dt_p h (fun c_1 h_2 => ?_) (fun c_1 h_2 => ?_)
  ·
    exact rj_b_readSection_157 h_2 hf k_K
  ·
    refine dt_n h_2 (fun c_5 h_6 => ?_) (fun c_5 h_6 => ?_)
    ·
      exact rj_b_readSection_157 h_6 hf k_K
    ·
      refine rj_p_next h_6 hf (fun v150 S150 h_9 f_10 => ?_)
      exact k_R131 _ h_9 f_10
theorem rj_e_readSection_131 {S0 : ms} {S : ms} {K : ms → Prop} (h : e_readSection_131 S K) (hf : rj S0 S) {Q : Prop} (k_K : ∀ (a0 : ms), K a0 → rj S0 a0 → Q) : Q := by
  obtain ⟨I, μ, i0, is⟩ := h
  have go : ∀ (n : Nat) (yS : ms), μ yS < n → I yS → rj S0 yS → Q := by
    intro n
    induction n with
    | zero => intro yS hy; exact absurd hy (Nat.not_lt_zero _)
    | succ n ih =>
      intro yS hy hI hV
      exact rj_b_readSection_131 (is yS hI) hV (fun a0 hR hz => ih a0 (Nat.lt_of_lt_of_le hR.2 (Nat.le_of_lt_succ hy)) hR.1 hz) k_K
  exact go _ S (Nat.lt_succ_self _) i0 hf
set_option maxHeartbeats 1000000 in
theorem rj_b_readSection_100 {S0 : ms} {s1 : Int32} {S : ms} {K : ms → Prop} (h : b_readSection_100 s1 S K) (hf : rj S0 S) {Q : Prop} (k_K : ∀ (a0 : ms), K a0 → rj S0 a0 → Q) : Q := by
  unfold b_readSection_100 at h
  exact rj_b_readSection_157 h hf k_K
set_option maxHeartbeats 1000000 in
theorem rj_b_readSection_84 {S0 : ms} {S : ms} {K : ms → Prop} (h : b_readSection_84 S K) (hf : rj S0 S) {Q : Prop} (k_K : ∀ (a0 : ms), K a0 → rj S0 a0 → Q) : Q := by
  unfold b_readSection_84 at h
  refine dt_n h (fun c_1 h_2 => ?_) (fun c_1 h_2 => ?_)
  ·
    exact rj_b_readSection_100 h_2 hf k_K
  ·
    refine rj_p_nextTwo h_2 hf (fun v93 S93 h_5 f_6 => ?_)
    exact rj_b_readSection_100 h_5 f_6 k_K
set_option maxHeartbeats 1000000 in
theorem rj_p_readSection {S0 : ms} {x1 : Int32} {S : ms} {K : ms → Prop} (h : p_readSection x1 S K) (hf : rj S0 S) {Q : Prop} (k_K : ∀ (a0 : ms), K a0 → rj S0 a0 → Q) : Q := by
  unfold p_readSection at h
  refine rj_p_readLength h hf (fun S1 h_1 f_2 => ?_)
  refine dt_p h_1 (fun c_3 h_4 => ?_) (fun c_3 h_4 => ?_)
  ·
    refine dt_n h_4 (fun c_5 h_6 => ?_) (fun c_5 h_6 => ?_)
    ·
      refine dt_n h_6 (fun c_7 h_8 => ?_) (fun c_7 h_8 => ?_)
      ·
        refine dt_n h_8 (fun c_9 h_10 => ?_) (fun c_9 h_10 => ?_)
        ·
          refine dt_n h_10 (fun c_11 h_12 => ?_) (fun c_11 h_12 => ?_)
          ·
            refine dt_n h_12 (fun c_13 h_14 => ?_) (fun c_13 h_14 => ?_)
            ·
              exact rj_e_readSection_131 h_14 f_2 k_K
            ·
              refine rj_p_readScanHead h_14 f_2 (fun S114 h_17 f_18 => ?_)
              refine dt_n h_17 (fun c_19 h_20 => ?_) (fun c_19 h_20 => ?_)
              ·
                exact rj_b_readSection_157 h_20 f_18 k_K
              ·
                refine rj_p_readData h_20 f_18 (fun S125 h_23 f_24 => ?_)
                exact rj_b_readSection_157 h_23 f_24 k_K
          ·
            refine dt_p h_12 (fun c_27 h_28 => ?_) (fun c_27 h_28 => ?_)
            ·
              exact rj_b_readSection_84 h_28 f_2 k_K
            ·
              refine rj_p_fail h_28 f_2 (fun v80 S80 h_31 f_32 => ?_)
              exact rj_b_readSection_84 h_31 f_32 k_K
        ·
          refine rj_p_readFrame h_10 f_2 (fun S48 h_35 f_36 => ?_)
          exact rj_b_readSection_157 h_35 f_36 k_K
      ·
        refine rj_p_readCodes h_8 f_2 (fun S34 h_39 f_40 => ?_)
        exact rj_b_readSection_157 h_39 f_40 k_K
    ·
      refine rj_p_readTables h_6 f_2 (fun S20 h_43 f_44 => ?_)
      exact rj_b_readSection_157 h_43 f_44 k_K
  ·
    exact k_K _ h_4 f_2
