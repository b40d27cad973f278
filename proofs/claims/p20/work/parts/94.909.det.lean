/-! THE PLACE NEVER GOES BACK: from a state behind place lo every end of the reference's reading is behind it -/
def mon (lo : Int) (M : ms) : Prop := 0 ≤ lo ∧ lo ≤ (M.1 34).toInt ∧ (M.1 7).toInt ≤ 32768 ∧ (M.1 34).toInt ≤ 32768
theorem mo_u {lo : Int} {f : Nat → Int32} {k : Nat} {v : Int32} (h : 0 ≤ lo ∧ lo ≤ (f 34).toInt ∧ (f 7).toInt ≤ 32768 ∧ (f 34).toInt ≤ 32768) (hk : 34 ≠ k) (h7 : 7 ≠ k) : 0 ≤ lo ∧ lo ≤ (upd f k v 34).toInt ∧ (upd f k v 7).toInt ≤ 32768 ∧ (upd f k v 34).toInt ≤ 32768 := by
  rw [upd_ne hk, upd_ne h7]
  exact h
set_option maxHeartbeats 1000000 in
theorem m_p_fail {lo : Int} {x1 : Int32} {x2 : Int32} {S : ms} {K : Int32 → ms → Prop} (h : p_fail x1 x2 S K) (hf : mon lo S) {Q : Prop} (k_K : ∀ (a0 : Int32) (a1 : ms), K a0 a1 → mon lo a1 → Q) : Q := by
  unfold p_fail b_fail_17 at h
  refine dt_n h (fun _ h => k_K _ _ h hf) (fun _ h => k_K _ _ h (mo_u (mo_u hf (by decide) (by decide)) (by decide) (by decide)))
theorem m_p_next {lo : Int} {S : ms} {K : Int32 → ms → Prop} (h : p_next S K) (hf : mon lo S) {Q : Prop} (k_K : ∀ (a0 : Int32) (a1 : ms), K a0 a1 → mon lo a1 → Q) : Q := by
  unfold p_next at h
  refine dt_p h (fun c h => ?_) (fun _ h => m_p_fail h hf (fun _ a hk hm => k_K _ _ hk hm))
  obtain ⟨-, h⟩ := h
  obtain ⟨q1, q2, q3, q4⟩ := hf
  have cl := i_lt c
  have e : (S.1 34 + 1).toInt = (S.1 34).toInt + 1 := t_add (a := 0) (b := 32767) (c := 1) (d := 1) ⟨by omega, by omega⟩ ⟨by decide, by decide⟩ (by decide) (by decide)
  refine k_K _ _ h ?_
  show 0 ≤ lo ∧ lo ≤ (upd S.1 34 (S.1 34 + 1) 34).toInt ∧ (upd S.1 34 (S.1 34 + 1) 7).toInt ≤ 32768 ∧ (upd S.1 34 (S.1 34 + 1) 34).toInt ≤ 32768
  rw [upd_at, upd_ne (show (7 : Nat) ≠ 34 by decide), e]
  omega

set_option maxHeartbeats 1000000 in
theorem m_b_greatest_59 {lo : Int} {x1 : Int32} {x2 : Int32} {x4 : Int32} {s0 : Int32} {S : ms} {R5 : Int32 → Int32 → Int32 → Int32 → ms → Prop} {K : Int32 → ms → Prop} (h : b_greatest_59 x1 x2 x4 s0 S R5 K) (hf : mon lo S) {Q : Prop} (k_R5 : ∀ (a0 : Int32) (a1 : Int32) (a2 : Int32) (a3 : Int32) (a4 : ms), R5 a0 a1 a2 a3 a4 → mon lo a4 → Q) (k_K : ∀ (a0 : Int32) (a1 : ms), K a0 a1 → mon lo a1 → Q) : Q := by
  unfold b_greatest_59 at h
  exact k_R5 _ _ _ _ _ h hf
set_option maxHeartbeats 1000000 in
theorem m_b_greatest_45 {lo : Int} {x1 : Int32} {x2 : Int32} {x3 : Int32} {x4 : Int32} {s0 : Int32} {S : ms} {R5 : Int32 → Int32 → Int32 → Int32 → ms → Prop} {K : Int32 → ms → Prop} (h : b_greatest_45 x1 x2 x3 x4 s0 S R5 K) (hf : mon lo S) {Q : Prop} (k_R5 : ∀ (a0 : Int32) (a1 : Int32) (a2 : Int32) (a3 : Int32) (a4 : ms), R5 a0 a1 a2 a3 a4 → mon lo a4 → Q) (k_K : ∀ (a0 : Int32) (a1 : ms), K a0 a1 → mon lo a1 → Q) : Q := by
  unfold b_greatest_45 at h
  refine dt_p h (fun c_1 h_2 => ?_) (fun c_1 h_2 => ?_)
  ·
    exact m_b_greatest_59 h_2 hf k_R5 k_K
  ·
    exact m_b_greatest_59 h_2 hf k_R5 k_K
set_option maxHeartbeats 1000000 in
theorem m_b_greatest_5 {lo : Int} {x1 : Int32} {x2 : Int32} {x3 : Int32} {x4 : Int32} {S : ms} {R5 : Int32 → Int32 → Int32 → Int32 → ms → Prop} {K : Int32 → ms → Prop} (h : b_greatest_5 x1 x2 x3 x4 S R5 K) (hf : mon lo S) {Q : Prop} (k_R5 : ∀ (a0 : Int32) (a1 : Int32) (a2 : Int32) (a3 : Int32) (a4 : ms), R5 a0 a1 a2 a3 a4 → mon lo a4 → Q) (k_K : ∀ (a0 : Int32) (a1 : ms), K a0 a1 → mon lo a1 → Q) : Q := by
  unfold b_greatest_5 at h
  refine dt_p (And.right h) (fun c_1 h_2 => ?_) (fun c_1 h_2 => ?_)
  ·
    exact k_K _ _ h_2 hf
  ·
    refine dt_p h_2 (fun c_3 h_4 => ?_) (fun c_3 h_4 => ?_)
    ·
      exact m_b_greatest_45 (And.right h_4) hf k_R5 k_K
    ·
      exact m_b_greatest_45 (And.right h_4) hf k_R5 k_K
theorem m_e_greatest_5 {lo : Int} {x1 : Int32} {x2 : Int32} {x3 : Int32} {x4 : Int32} {S : ms} {K : Int32 → ms → Prop} (h : e_greatest_5 x1 x2 x3 x4 S K) (hf : mon lo S) {Q : Prop} (k_K : ∀ (a0 : Int32) (a1 : ms), K a0 a1 → mon lo a1 → Q) : Q := by
  obtain ⟨I, μ, i0, is⟩ := h
  have go : ∀ (n : Nat) (yx1 : Int32) (yx2 : Int32) (yx3 : Int32) (yx4 : Int32) (yS : ms), μ yx1 yx2 yx3 yx4 yS < n → I yx1 yx2 yx3 yx4 yS → mon lo yS → Q := by
    intro n
    induction n with
    | zero => intro yx1 yx2 yx3 yx4 yS hy; exact absurd hy (Nat.not_lt_zero _)
    | succ n ih =>
      intro yx1 yx2 yx3 yx4 yS hy hI hV
      exact m_b_greatest_5 (is yx1 yx2 yx3 yx4 yS hI) hV (fun a0 a1 a2 a3 a4 hR hz => ih a0 a1 a2 a3 a4 (Nat.lt_of_lt_of_le hR.2 (Nat.le_of_lt_succ hy)) hR.1 hz) k_K
  exact go _ x1 x2 x3 x4 S (Nat.lt_succ_self _) i0 hf
set_option maxHeartbeats 1000000 in
theorem m_p_greatest {lo : Int} {x1 : Int32} {x2 : Int32} {S : ms} {K : Int32 → ms → Prop} (h : p_greatest x1 x2 S K) (hf : mon lo S) {Q : Prop} (k_K : ∀ (a0 : Int32) (a1 : ms), K a0 a1 → mon lo a1 → Q) : Q := by
  unfold p_greatest at h
  exact m_e_greatest_5 h hf k_K
set_option maxHeartbeats 1000000 in
theorem m_p_layerWide {lo : Int} {x1 : Int32} {x2 : Int32} {S : ms} {K : Int32 → ms → Prop} (h : p_layerWide x1 x2 S K) (hf : mon lo S) {Q : Prop} (k_K : ∀ (a0 : Int32) (a1 : ms), K a0 a1 → mon lo a1 → Q) : Q := by
  unfold p_layerWide at h
  refine m_p_greatest (And.right (And.right h)) hf (fun v20 S20 h_1 f_2 => ?_)
  refine d_p_upward h_1 (fun v23 h_3 _ => ?_)
  exact k_K _ _ h_3 f_2
set_option maxHeartbeats 1000000 in
theorem m_p_layerHigh {lo : Int} {x1 : Int32} {x2 : Int32} {S : ms} {K : Int32 → ms → Prop} (h : p_layerHigh x1 x2 S K) (hf : mon lo S) {Q : Prop} (k_K : ∀ (a0 : Int32) (a1 : ms), K a0 a1 → mon lo a1 → Q) : Q := by
  unfold p_layerHigh at h
  refine m_p_greatest (And.right (And.right h)) hf (fun v20 S20 h_1 f_2 => ?_)
  refine d_p_upward h_1 (fun v23 h_3 _ => ?_)
  exact k_K _ _ h_3 f_2
set_option maxHeartbeats 1000000 in
theorem m_b_readMark_53 {lo : Int} {x2 : Int32} {S : ms} {K : Int32 → ms → Prop} (h : b_readMark_53 x2 S K) (hf : mon lo S) {Q : Prop} (k_K : ∀ (a0 : Int32) (a1 : ms), K a0 a1 → mon lo a1 → Q) : Q := by
  unfold b_readMark_53 at h
  exact k_K _ _ h hf
set_option maxHeartbeats 1000000 in
theorem m_b_readMark_31 {lo : Int} {x2 : Int32} {S : ms} {R31 : Int32 → ms → Prop} {K : Int32 → ms → Prop} (h : b_readMark_31 x2 S R31 K) (hf : mon lo S) {Q : Prop} (k_R31 : ∀ (a0 : Int32) (a1 : ms), R31 a0 a1 → mon lo a1 → Q) (k_K : ∀ (a0 : Int32) (a1 : ms), K a0 a1 → mon lo a1 → Q) : Q := by
  unfold b_readMark_31 at h
  refine dt_n h (fun c_1 h_2 => ?_) (fun c_1 h_2 => ?_)
  ·
    exact m_b_readMark_53 h_2 hf k_K
  ·
    refine dt_n h_2 (fun c_5 h_6 => ?_) (fun c_5 h_6 => ?_)
    ·
      exact m_b_readMark_53 h_6 hf k_K
    ·
      refine m_p_next h_6 hf (fun v46 S46 h_9 f_10 => ?_)
      exact k_R31 _ _ h_9 f_10
theorem m_e_readMark_31 {lo : Int} {x2 : Int32} {S : ms} {K : Int32 → ms → Prop} (h : e_readMark_31 x2 S K) (hf : mon lo S) {Q : Prop} (k_K : ∀ (a0 : Int32) (a1 : ms), K a0 a1 → mon lo a1 → Q) : Q := by
  obtain ⟨I, μ, i0, is⟩ := h
  have go : ∀ (n : Nat) (yx2 : Int32) (yS : ms), μ yx2 yS < n → I yx2 yS → mon lo yS → Q := by
    intro n
    induction n with
    | zero => intro yx2 yS hy; exact absurd hy (Nat.not_lt_zero _)
    | succ n ih =>
      intro yx2 yS hy hI hV
      exact m_b_readMark_31 (is yx2 yS hI) hV (fun a0 a1 hR hz => ih a0 a1 (Nat.lt_of_lt_of_le hR.2 (Nat.le_of_lt_succ hy)) hR.1 hz) k_K
  exact go _ x2 S (Nat.lt_succ_self _) i0 hf
set_option maxHeartbeats 1000000 in
theorem m_p_readMark {lo : Int} {S : ms} {K : Int32 → ms → Prop} (h : p_readMark S K) (hf : mon lo S) {Q : Prop} (k_K : ∀ (a0 : Int32) (a1 : ms), K a0 a1 → mon lo a1 → Q) : Q := by
  unfold p_readMark at h
  refine m_p_next h hf (fun v6 S6 h_1 f_2 => ?_)
  refine dt_n h_1 (fun c_3 h_4 => ?_) (fun c_3 h_4 => ?_)
  ·
    exact m_e_readMark_31 h_4 f_2 k_K
  ·
    refine dt_p h_4 (fun c_7 h_8 => ?_) (fun c_7 h_8 => ?_)
    ·
      exact m_e_readMark_31 h_8 f_2 k_K
    ·
      refine m_p_fail h_8 f_2 (fun v27 S27 h_11 f_12 => ?_)
      exact m_e_readMark_31 h_11 f_12 k_K
set_option maxHeartbeats 1000000 in
theorem m_b_readBit_73 {lo : Int} {S : ms} {K : Int32 → ms → Prop} (h : b_readBit_73 S K) (hf : mon lo S) {Q : Prop} (k_K : ∀ (a0 : Int32) (a1 : ms), K a0 a1 → mon lo a1 → Q) : Q := by
  unfold b_readBit_73 at h
  refine dt_p h (fun c_1 h_2 => ?_) (fun c_1 h_2 => ?_)
  ·
    exact k_K _ _ h_2 (mo_u hf (by decide) (by decide))
  ·
    exact k_K _ _ h_2 hf
set_option maxHeartbeats 1000000 in
theorem m_b_readBit_67 {lo : Int} {S : ms} {K : Int32 → ms → Prop} (h : b_readBit_67 S K) (hf : mon lo S) {Q : Prop} (k_K : ∀ (a0 : Int32) (a1 : ms), K a0 a1 → mon lo a1 → Q) : Q := by
  unfold b_readBit_67 at h
  exact m_b_readBit_73 h (mo_u hf (by decide) (by decide)) k_K
set_option maxHeartbeats 1000000 in
theorem m_p_readBit {lo : Int} {S : ms} {K : Int32 → ms → Prop} (h : p_readBit S K) (hf : mon lo S) {Q : Prop} (k_K : ∀ (a0 : Int32) (a1 : ms), K a0 a1 → mon lo a1 → Q) : Q := by
  unfold p_readBit at h
  refine dt_n h (fun c_1 h_2 => ?_) (fun c_1 h_2 => ?_)
  ·
    exact m_b_readBit_73 h_2 hf k_K
  ·
    refine m_p_next h_2 (mo_u hf (by decide) (by decide)) (fun v17 S17 h_5 f_6 => ?_)
    refine dt_n h_5 (fun c_7 h_8 => ?_) (fun c_7 h_8 => ?_)
    ·
      exact m_b_readBit_67 h_8 (mo_u f_6 (by decide) (by decide)) k_K
    ·
      refine dt_n h_8 (fun c_11 h_12 => ?_) (fun c_11 h_12 => ?_)
      ·
        exact m_b_readBit_67 h_12 (mo_u f_6 (by decide) (by decide)) k_K
      ·
        refine m_p_next h_12 (mo_u f_6 (by decide) (by decide)) (fun v41 S41 h_15 f_16 => ?_)
        refine dt_n h_15 (fun c_17 h_18 => ?_) (fun c_17 h_18 => ?_)
        ·
          exact m_b_readBit_67 h_18 f_16 k_K
        ·
          refine dt_p h_18 (fun c_21 h_22 => ?_) (fun c_21 h_22 => ?_)
          ·
            exact m_b_readBit_67 h_22 f_16 k_K
          ·
            refine m_p_fail h_22 f_16 (fun v63 S63 h_25 f_26 => ?_)
            exact m_b_readBit_67 h_25 f_26 k_K
set_option maxHeartbeats 1000000 in
theorem m_b_readSymbol_39 {lo : Int} {x1 : Int32} {x2 : Int32} {x3 : Int32} {x4 : Int32} {x5 : Int32} {S : ms} {R10 : Int32 → Int32 → Int32 → Int32 → Int32 → ms → Prop} {K : Int32 → ms → Prop} (h : b_readSymbol_39 x1 x2 x3 x4 x5 S R10 K) (hf : mon lo S) {Q : Prop} (k_R10 : ∀ (a0 : Int32) (a1 : Int32) (a2 : Int32) (a3 : Int32) (a4 : Int32) (a5 : ms), R10 a0 a1 a2 a3 a4 a5 → mon lo a5 → Q) (k_K : ∀ (a0 : Int32) (a1 : ms), K a0 a1 → mon lo a1 → Q) : Q := by
  unfold b_readSymbol_39 at h
  refine dt_p h (fun c_1 h_2 => ?_) (fun c_1 h_2 => ?_)
  ·
    refine dt_p (And.right h_2) (fun c_3 h_4 => ?_) (fun c_3 h_4 => ?_)
    ·
      exact k_R10 _ _ _ _ _ _ h_4 hf
    ·
      exact k_K _ _ (And.right h_4) hf
  ·
    exact k_K _ _ h_2 hf
set_option maxHeartbeats 1000000 in
theorem m_b_readSymbol_10 {lo : Int} {x1 : Int32} {x2 : Int32} {x3 : Int32} {x4 : Int32} {x5 : Int32} {S : ms} {R10 : Int32 → Int32 → Int32 → Int32 → Int32 → ms → Prop} {K : Int32 → ms → Prop} (h : b_readSymbol_10 x1 x2 x3 x4 x5 S R10 K) (hf : mon lo S) {Q : Prop} (k_R10 : ∀ (a0 : Int32) (a1 : Int32) (a2 : Int32) (a3 : Int32) (a4 : Int32) (a5 : ms), R10 a0 a1 a2 a3 a4 a5 → mon lo a5 → Q) (k_K : ∀ (a0 : Int32) (a1 : ms), K a0 a1 → mon lo a1 → Q) : Q := by
  unfold b_readSymbol_10 at h
  refine dt_p h (fun c_1 h_2 => ?_) (fun c_1 h_2 => ?_)
  ·
    refine m_p_fail h_2 hf (fun v117 S117 h_3 f_4 => ?_)
    exact k_K _ _ h_3 f_4
  ·
    refine m_p_readBit h_2 hf (fun v21 S21 h_5 f_6 => ?_)
    refine dt_n h_5 (fun c_7 h_8 => ?_) (fun c_7 h_8 => ?_)
    ·
      exact m_b_readSymbol_39 h_8 f_6 k_R10 k_K
    ·
      exact m_b_readSymbol_39 h_8 (mo_u f_6 (by decide) (by decide)) k_R10 k_K
theorem m_e_readSymbol_10 {lo : Int} {x1 : Int32} {x2 : Int32} {x3 : Int32} {x4 : Int32} {x5 : Int32} {S : ms} {K : Int32 → ms → Prop} (h : e_readSymbol_10 x1 x2 x3 x4 x5 S K) (hf : mon lo S) {Q : Prop} (k_K : ∀ (a0 : Int32) (a1 : ms), K a0 a1 → mon lo a1 → Q) : Q := by
  obtain ⟨I, μ, i0, is⟩ := h
  have go : ∀ (n : Nat) (yx1 : Int32) (yx2 : Int32) (yx3 : Int32) (yx4 : Int32) (yx5 : Int32) (yS : ms), μ yx1 yx2 yx3 yx4 yx5 yS < n → I yx1 yx2 yx3 yx4 yx5 yS → mon lo yS → Q := by
    intro n
    induction n with
    | zero => intro yx1 yx2 yx3 yx4 yx5 yS hy; exact absurd hy (Nat.not_lt_zero _)
    | succ n ih =>
      intro yx1 yx2 yx3 yx4 yx5 yS hy hI hV
      exact m_b_readSymbol_10 (is yx1 yx2 yx3 yx4 yx5 yS hI) hV (fun a0 a1 a2 a3 a4 a5 hR hz => ih a0 a1 a2 a3 a4 a5 (Nat.lt_of_lt_of_le hR.2 (Nat.le_of_lt_succ hy)) hR.1 hz) k_K
  exact go _ x1 x2 x3 x4 x5 S (Nat.lt_succ_self _) i0 hf
set_option maxHeartbeats 1000000 in
theorem m_p_readSymbol {lo : Int} {x1 : Int32} {S : ms} {K : Int32 → ms → Prop} (h : p_readSymbol x1 S K) (hf : mon lo S) {Q : Prop} (k_K : ∀ (a0 : Int32) (a1 : ms), K a0 a1 → mon lo a1 → Q) : Q := by
  unfold p_readSymbol at h
  exact m_e_readSymbol_10 h hf k_K
set_option maxHeartbeats 1000000 in
theorem m_b_readNumber_48 {lo : Int} {s0 : Int32} {S : ms} {K : Int32 → ms → Prop} (h : b_readNumber_48 s0 S K) (hf : mon lo S) {Q : Prop} (k_K : ∀ (a0 : Int32) (a1 : ms), K a0 a1 → mon lo a1 → Q) : Q := by
  unfold b_readNumber_48 at h
  exact k_K _ _ h hf
set_option maxHeartbeats 1000000 in
theorem m_b_readNumber_47 {lo : Int} {x2 : Int32} {S : ms} {K : Int32 → ms → Prop} (h : b_readNumber_47 x2 S K) (hf : mon lo S) {Q : Prop} (k_K : ∀ (a0 : Int32) (a1 : ms), K a0 a1 → mon lo a1 → Q) : Q := by
  unfold b_readNumber_47 at h
  exact m_b_readNumber_48 h hf k_K
set_option maxHeartbeats 1000000 in
theorem m_b_readNumber_4 {lo : Int} {x1 : Int32} {x2 : Int32} {x3 : Int32} {S : ms} {R4 : Int32 → Int32 → Int32 → ms → Prop} {K : Int32 → ms → Prop} (h : b_readNumber_4 x1 x2 x3 S R4 K) (hf : mon lo S) {Q : Prop} (k_R4 : ∀ (a0 : Int32) (a1 : Int32) (a2 : Int32) (a3 : ms), R4 a0 a1 a2 a3 → mon lo a3 → Q) (k_K : ∀ (a0 : Int32) (a1 : ms), K a0 a1 → mon lo a1 → Q) : Q := by
  unfold b_readNumber_4 at h
  refine dt_p h (fun c_1 h_2 => ?_) (fun c_1 h_2 => ?_)
  ·
    refine dt_p h_2 (fun c_3 h_4 => ?_) (fun c_3 h_4 => ?_)
    ·
      exact m_b_readNumber_47 h_4 hf k_K
    ·
      refine dt_p h_4 (fun c_7 h_8 => ?_) (fun c_7 h_8 => ?_)
      ·
        exact m_b_readNumber_47 h_8 hf k_K
      ·
        exact m_b_readNumber_48 h_8 hf k_K
  ·
    refine m_p_readBit h_2 hf (fun v13 S13 h_13 f_14 => ?_)
    exact k_R4 _ _ _ _ h_13 f_14
theorem m_e_readNumber_4 {lo : Int} {x1 : Int32} {x2 : Int32} {x3 : Int32} {S : ms} {K : Int32 → ms → Prop} (h : e_readNumber_4 x1 x2 x3 S K) (hf : mon lo S) {Q : Prop} (k_K : ∀ (a0 : Int32) (a1 : ms), K a0 a1 → mon lo a1 → Q) : Q := by
  obtain ⟨I, μ, i0, is⟩ := h
  have go : ∀ (n : Nat) (yx1 : Int32) (yx2 : Int32) (yx3 : Int32) (yS : ms), μ yx1 yx2 yx3 yS < n → I yx1 yx2 yx3 yS → mon lo yS → Q := by
    intro n
    induction n with
    | zero => intro yx1 yx2 yx3 yS hy; exact absurd hy (Nat.not_lt_zero _)
    | succ n ih =>
      intro yx1 yx2 yx3 yS hy hI hV
      exact m_b_readNumber_4 (is yx1 yx2 yx3 yS hI) hV (fun a0 a1 a2 a3 hR hz => ih a0 a1 a2 a3 (Nat.lt_of_lt_of_le hR.2 (Nat.le_of_lt_succ hy)) hR.1 hz) k_K
  exact go _ x1 x2 x3 S (Nat.lt_succ_self _) i0 hf
set_option maxHeartbeats 1000000 in
theorem m_p_readNumber {lo : Int} {x1 : Int32} {S : ms} {K : Int32 → ms → Prop} (h : p_readNumber x1 S K) (hf : mon lo S) {Q : Prop} (k_K : ∀ (a0 : Int32) (a1 : ms), K a0 a1 → mon lo a1 → Q) : Q := by
  unfold p_readNumber at h
  exact m_e_readNumber_4 h hf k_K
set_option maxHeartbeats 1000000 in
theorem m_b_readBlock_248 {lo : Int} {S : ms} {K : ms → Prop} (h : b_readBlock_248 S K) (hf : mon lo S) {Q : Prop} (k_K : ∀ (a0 : ms), K a0 → mon lo a0 → Q) : Q := by
  unfold b_readBlock_248 at h
  exact k_K _ h hf
set_option maxHeartbeats 1000000 in
theorem m_b_readBlock_245 {lo : Int} {x1 : Int32} {x2 : Int32} {x3 : Int32} {x7 : Int32} {S : ms} {R102 : Int32 → Int32 → Int32 → Int32 → ms → Prop} {K : ms → Prop} (h : b_readBlock_245 x1 x2 x3 x7 S R102 K) (hf : mon lo S) {Q : Prop} (k_R102 : ∀ (a0 : Int32) (a1 : Int32) (a2 : Int32) (a3 : Int32) (a4 : ms), R102 a0 a1 a2 a3 a4 → mon lo a4 → Q) (k_K : ∀ (a0 : ms), K a0 → mon lo a0 → Q) : Q := by
  unfold b_readBlock_245 at h
  exact k_R102 _ _ _ _ _ h hf
set_option maxHeartbeats 1000000 in
theorem m_b_readBlock_208 {lo : Int} {x1 : Int32} {x2 : Int32} {x3 : Int32} {x7 : Int32} {x8 : Int32} {S : ms} {R102 : Int32 → Int32 → Int32 → Int32 → ms → Prop} {K : ms → Prop} (h : b_readBlock_208 x1 x2 x3 x7 x8 S R102 K) (hf : mon lo S) {Q : Prop} (k_R102 : ∀ (a0 : Int32) (a1 : Int32) (a2 : Int32) (a3 : Int32) (a4 : ms), R102 a0 a1 a2 a3 a4 → mon lo a4 → Q) (k_K : ∀ (a0 : ms), K a0 → mon lo a0 → Q) : Q := by
  unfold b_readBlock_208 at h
  refine dt_p h (fun c_1 h_2 => ?_) (fun c_1 h_2 => ?_)
  ·
    exact m_b_readBlock_245 h_2 hf k_R102 k_K
  ·
    refine m_p_readNumber h_2 hf (fun v222 S222 h_7 f_8 => ?_)
    refine d_p_levelCell h_7 (fun v236 h_9 _ => ?_)
    exact m_b_readBlock_245 (And.right h_9) f_8 k_R102 k_K
set_option maxHeartbeats 1000000 in
theorem m_b_readBlock_195 {lo : Int} {x1 : Int32} {x2 : Int32} {x3 : Int32} {x5 : Int32} {x7 : Int32} {S : ms} {R102 : Int32 → Int32 → Int32 → Int32 → ms → Prop} {K : ms → Prop} (h : b_readBlock_195 x1 x2 x3 x5 x7 S R102 K) (hf : mon lo S) {Q : Prop} (k_R102 : ∀ (a0 : Int32) (a1 : Int32) (a2 : Int32) (a3 : Int32) (a4 : ms), R102 a0 a1 a2 a3 a4 → mon lo a4 → Q) (k_K : ∀ (a0 : ms), K a0 → mon lo a0 → Q) : Q := by
  unfold b_readBlock_195 at h
  refine m_p_fail h hf (fun v200 S200 h_1 f_2 => ?_)
  exact m_b_readBlock_245 h_1 f_2 k_R102 k_K
set_option maxHeartbeats 1000000 in
theorem m_b_readBlock_167 {lo : Int} {x1 : Int32} {x2 : Int32} {x3 : Int32} {x5 : Int32} {x8 : Int32} {s0 : Int32} {s1 : Int32} {S : ms} {R102 : Int32 → Int32 → Int32 → Int32 → ms → Prop} {K : ms → Prop} (h : b_readBlock_167 x1 x2 x3 x5 x8 s0 s1 S R102 K) (hf : mon lo S) {Q : Prop} (k_R102 : ∀ (a0 : Int32) (a1 : Int32) (a2 : Int32) (a3 : Int32) (a4 : ms), R102 a0 a1 a2 a3 a4 → mon lo a4 → Q) (k_K : ∀ (a0 : ms), K a0 → mon lo a0 → Q) : Q := by
  unfold b_readBlock_167 at h
  refine dt_n h (fun c_1 h_2 => ?_) (fun c_1 h_2 => ?_)
  ·
    refine dt_p h_2 (fun c_3 h_4 => ?_) (fun c_3 h_4 => ?_)
    ·
      exact m_b_readBlock_208 h_4 hf k_R102 k_K
    ·
      exact m_b_readBlock_195 h_4 hf k_R102 k_K
  ·
    refine dt_p h_2 (fun c_13 h_14 => ?_) (fun c_13 h_14 => ?_)
    ·
      exact m_b_readBlock_208 h_14 hf k_R102 k_K
    ·
      exact m_b_readBlock_195 h_14 hf k_R102 k_K
set_option maxHeartbeats 1000000 in
theorem m_b_readBlock_146 {lo : Int} {S : ms} {K : ms → Prop} (h : b_readBlock_146 S K) (hf : mon lo S) {Q : Prop} (k_K : ∀ (a0 : ms), K a0 → mon lo a0 → Q) : Q := by
  unfold b_readBlock_146 at h
  exact k_K _ h hf
set_option maxHeartbeats 1000000 in
theorem m_b_readBlock_102 {lo : Int} {x1 : Int32} {x2 : Int32} {x3 : Int32} {x7 : Int32} {S : ms} {R102 : Int32 → Int32 → Int32 → Int32 → ms → Prop} {K : ms → Prop} (h : b_readBlock_102 x1 x2 x3 x7 S R102 K) (hf : mon lo S) {Q : Prop} (k_R102 : ∀ (a0 : Int32) (a1 : Int32) (a2 : Int32) (a3 : Int32) (a4 : ms), R102 a0 a1 a2 a3 a4 → mon lo a4 → Q) (k_K : ∀ (a0 : ms), K a0 → mon lo a0 → Q) : Q := by
  unfold b_readBlock_102 at h
  refine dt_p h (fun c_1 h_2 => ?_) (fun c_1 h_2 => ?_)
  ·
    exact m_b_readBlock_248 h_2 hf k_K
  ·
    refine dt_n h_2 (fun c_5 h_6 => ?_) (fun c_5 h_6 => ?_)
    ·
      exact m_b_readBlock_248 h_6 hf k_K
    ·
      refine m_p_readSymbol (And.right h_6) hf (fun v123 S123 h_9 f_10 => ?_)
      refine dt_p h_9 (fun c_11 h_12 => ?_) (fun c_11 h_12 => ?_)
      ·
        exact m_b_readBlock_146 h_12 f_10 k_K
      ·
        refine dt_n h_12 (fun c_15 h_16 => ?_) (fun c_15 h_16 => ?_)
        ·
          refine dt_n h_16 (fun c_17 h_18 => ?_) (fun c_17 h_18 => ?_)
          ·
            exact m_b_readBlock_167 h_18 f_10 k_R102 k_K
          ·
            exact m_b_readBlock_167 h_18 f_10 k_R102 k_K
        ·
          exact m_b_readBlock_146 h_16 f_10 k_K
theorem m_e_readBlock_102 {lo : Int} {x1 : Int32} {x2 : Int32} {x3 : Int32} {x7 : Int32} {S : ms} {K : ms → Prop} (h : e_readBlock_102 x1 x2 x3 x7 S K) (hf : mon lo S) {Q : Prop} (k_K : ∀ (a0 : ms), K a0 → mon lo a0 → Q) : Q := by
  obtain ⟨I, μ, i0, is⟩ := h
  have go : ∀ (n : Nat) (yx1 : Int32) (yx2 : Int32) (yx3 : Int32) (yx7 : Int32) (yS : ms), μ yx1 yx2 yx3 yx7 yS < n → I yx1 yx2 yx3 yx7 yS → mon lo yS → Q := by
    intro n
    induction n with
    | zero => intro yx1 yx2 yx3 yx7 yS hy; exact absurd hy (Nat.not_lt_zero _)
    | succ n ih =>
      intro yx1 yx2 yx3 yx7 yS hy hI hV
      exact m_b_readBlock_102 (is yx1 yx2 yx3 yx7 yS hI) hV (fun a0 a1 a2 a3 a4 hR hz => ih a0 a1 a2 a3 a4 (Nat.lt_of_lt_of_le hR.2 (Nat.le_of_lt_succ hy)) hR.1 hz) k_K
  exact go _ x1 x2 x3 x7 S (Nat.lt_succ_self _) i0 hf
set_option maxHeartbeats 1000000 in
theorem m_b_readBlock_77 {lo : Int} {x1 : Int32} {x2 : Int32} {x3 : Int32} {x6 : Int32} {S : ms} {K : ms → Prop} (h : b_readBlock_77 x1 x2 x3 x6 S K) (hf : mon lo S) {Q : Prop} (k_K : ∀ (a0 : ms), K a0 → mon lo a0 → Q) : Q := by
  unfold b_readBlock_77 at h
  refine d_p_levelCell (And.right h) (fun v93 h_1 _ => ?_)
  exact m_e_readBlock_102 (And.right h_1) hf k_K
set_option maxHeartbeats 1000000 in
theorem m_b_readBlock_67 {lo : Int} {x1 : Int32} {x2 : Int32} {x3 : Int32} {x5 : Int32} {x6 : Int32} {S : ms} {K : ms → Prop} (h : b_readBlock_67 x1 x2 x3 x5 x6 S K) (hf : mon lo S) {Q : Prop} (k_K : ∀ (a0 : ms), K a0 → mon lo a0 → Q) : Q := by
  unfold b_readBlock_67 at h
  refine m_p_fail h hf (fun v72 S72 h_1 f_2 => ?_)
  exact m_b_readBlock_77 h_1 f_2 k_K
set_option maxHeartbeats 1000000 in
theorem m_b_readBlock_42 {lo : Int} {x1 : Int32} {x2 : Int32} {x3 : Int32} {x5 : Int32} {s0 : Int32} {S : ms} {K : ms → Prop} (h : b_readBlock_42 x1 x2 x3 x5 s0 S K) (hf : mon lo S) {Q : Prop} (k_K : ∀ (a0 : ms), K a0 → mon lo a0 → Q) : Q := by
  unfold b_readBlock_42 at h
  refine dt_n h (fun c_1 h_2 => ?_) (fun c_1 h_2 => ?_)
  ·
    exact m_b_readBlock_77 h_2 hf k_K
  ·
    refine dt_p h_2 (fun c_5 h_6 => ?_) (fun c_5 h_6 => ?_)
    ·
      exact m_b_readBlock_67 h_6 hf k_K
    ·
      refine dt_p h_6 (fun c_9 h_10 => ?_) (fun c_9 h_10 => ?_)
      ·
        exact m_b_readBlock_77 h_10 hf k_K
      ·
        exact m_b_readBlock_67 h_10 hf k_K
set_option maxHeartbeats 1000000 in
theorem m_p_readBlock {lo : Int} {x1 : Int32} {x2 : Int32} {x3 : Int32} {S : ms} {K : ms → Prop} (h : p_readBlock x1 x2 x3 S K) (hf : mon lo S) {Q : Prop} (k_K : ∀ (a0 : ms), K a0 → mon lo a0 → Q) : Q := by
  unfold p_readBlock at h
  refine m_p_readSymbol (And.right h) hf (fun v7 S7 h_1 f_2 => ?_)
  refine dt_n h_1 (fun c_3 h_4 => ?_) (fun c_3 h_4 => ?_)
  ·
    exact m_b_readBlock_42 h_4 f_2 k_K
  ·
    refine m_p_readNumber (And.right h_4) f_2 (fun v34 S34 h_7 f_8 => ?_)
    exact m_b_readBlock_42 h_7 f_8 k_K
set_option maxHeartbeats 1000000 in
theorem m_b_readUnit_166 {lo : Int} {S : ms} {K : ms → Prop} (h : b_readUnit_166 S K) (hf : mon lo S) {Q : Prop} (k_K : ∀ (a0 : ms), K a0 → mon lo a0 → Q) : Q := by
  unfold b_readUnit_166 at h
  exact k_K _ h hf
set_option maxHeartbeats 1000000 in
theorem m_b_readUnit_160 {lo : Int} {x3 : Int32} {x4 : Int32} {x5 : Int32} {S : ms} {R12 : Int32 → Int32 → Int32 → ms → Prop} {K : ms → Prop} (h : b_readUnit_160 x3 x4 x5 S R12 K) (hf : mon lo S) {Q : Prop} (k_R12 : ∀ (a0 : Int32) (a1 : Int32) (a2 : Int32) (a3 : ms), R12 a0 a1 a2 a3 → mon lo a3 → Q) (k_K : ∀ (a0 : ms), K a0 → mon lo a0 → Q) : Q := by
  unfold b_readUnit_160 at h
  exact k_R12 _ _ _ _ h hf
set_option maxHeartbeats 1000000 in
theorem m_b_readUnit_88 {lo : Int} {x3 : Int32} {x4 : Int32} {x5 : Int32} {x6 : Int32} {x7 : Int32} {x8 : Int32} {x9 : Int32} {S : ms} {R12 : Int32 → Int32 → Int32 → ms → Prop} {R88 : Int32 → Int32 → Int32 → Int32 → Int32 → Int32 → Int32 → ms → Prop} {K : ms → Prop} (h : b_readUnit_88 x3 x4 x5 x6 x7 x8 x9 S R12 R88 K) (hf : mon lo S) {Q : Prop} (k_R12 : ∀ (a0 : Int32) (a1 : Int32) (a2 : Int32) (a3 : ms), R12 a0 a1 a2 a3 → mon lo a3 → Q) (k_R88 : ∀ (a0 : Int32) (a1 : Int32) (a2 : Int32) (a3 : Int32) (a4 : Int32) (a5 : Int32) (a6 : Int32) (a7 : ms), R88 a0 a1 a2 a3 a4 a5 a6 a7 → mon lo a7 → Q) (k_K : ∀ (a0 : ms), K a0 → mon lo a0 → Q) : Q := by
  unfold b_readUnit_88 at h
  refine dt_p h (fun c_1 h_2 => ?_) (fun c_1 h_2 => ?_)
  ·
    exact m_b_readUnit_160 h_2 hf k_R12 k_K
  ·
    refine dt_n h_2 (fun c_7 h_8 => ?_) (fun c_7 h_8 => ?_)
    ·
      exact m_b_readUnit_160 h_8 hf k_R12 k_K
    ·
      refine m_p_readBlock (And.right (And.right (And.right h_8))) hf (fun S151 h_13 f_14 => ?_)
      exact k_R88 _ _ _ _ _ _ _ _ h_13 f_14
theorem m_e_readUnit_88 {lo : Int} {x3 : Int32} {x4 : Int32} {x5 : Int32} {x6 : Int32} {x7 : Int32} {x8 : Int32} {x9 : Int32} {S : ms} {R12 : Int32 → Int32 → Int32 → ms → Prop} {K : ms → Prop} (h : e_readUnit_88 x3 x4 x5 x6 x7 x8 x9 S R12 K) (hf : mon lo S) {Q : Prop} (k_R12 : ∀ (a0 : Int32) (a1 : Int32) (a2 : Int32) (a3 : ms), R12 a0 a1 a2 a3 → mon lo a3 → Q) (k_K : ∀ (a0 : ms), K a0 → mon lo a0 → Q) : Q := by
  obtain ⟨I, μ, i0, is⟩ := h
  have go : ∀ (n : Nat) (yx3 : Int32) (yx4 : Int32) (yx5 : Int32) (yx6 : Int32) (yx7 : Int32) (yx8 : Int32) (yx9 : Int32) (yS : ms), μ yx3 yx4 yx5 yx6 yx7 yx8 yx9 yS < n → I yx3 yx4 yx5 yx6 yx7 yx8 yx9 yS → mon lo yS → Q := by
    intro n
    induction n with
    | zero => intro yx3 yx4 yx5 yx6 yx7 yx8 yx9 yS hy; exact absurd hy (Nat.not_lt_zero _)
    | succ n ih =>
      intro yx3 yx4 yx5 yx6 yx7 yx8 yx9 yS hy hI hV
      exact m_b_readUnit_88 (is yx3 yx4 yx5 yx6 yx7 yx8 yx9 yS hI) hV k_R12 (fun a0 a1 a2 a3 a4 a5 a6 a7 hR hz => ih a0 a1 a2 a3 a4 a5 a6 a7 (Nat.lt_of_lt_of_le hR.2 (Nat.le_of_lt_succ hy)) hR.1 hz) k_K
  exact go _ x3 x4 x5 x6 x7 x8 x9 S (Nat.lt_succ_self _) i0 hf
set_option maxHeartbeats 1000000 in
theorem m_b_readUnit_83 {lo : Int} {x3 : Int32} {x4 : Int32} {x5 : Int32} {x6 : Int32} {x7 : Int32} {s0 : Int32} {S : ms} {R12 : Int32 → Int32 → Int32 → ms → Prop} {K : ms → Prop} (h : b_readUnit_83 x3 x4 x5 x6 x7 s0 S R12 K) (hf : mon lo S) {Q : Prop} (k_R12 : ∀ (a0 : Int32) (a1 : Int32) (a2 : Int32) (a3 : ms), R12 a0 a1 a2 a3 → mon lo a3 → Q) (k_K : ∀ (a0 : ms), K a0 → mon lo a0 → Q) : Q := by
  unfold b_readUnit_83 at h
  exact m_e_readUnit_88 h hf k_R12 k_K
set_option maxHeartbeats 1000000 in
theorem m_b_readUnit_59 {lo : Int} {x3 : Int32} {x4 : Int32} {x5 : Int32} {x6 : Int32} {s0 : Int32} {S : ms} {R12 : Int32 → Int32 → Int32 → ms → Prop} {K : ms → Prop} (h : b_readUnit_59 x3 x4 x5 x6 s0 S R12 K) (hf : mon lo S) {Q : Prop} (k_R12 : ∀ (a0 : Int32) (a1 : Int32) (a2 : Int32) (a3 : ms), R12 a0 a1 a2 a3 → mon lo a3 → Q) (k_K : ∀ (a0 : ms), K a0 → mon lo a0 → Q) : Q := by
  unfold b_readUnit_59 at h
  refine dt_n h (fun c_1 h_2 => ?_) (fun c_1 h_2 => ?_)
  ·
    exact m_b_readUnit_83 (And.right h_2) hf k_R12 k_K
  ·
    exact m_b_readUnit_83 h_2 hf k_R12 k_K
set_option maxHeartbeats 1000000 in
theorem m_b_readUnit_12 {lo : Int} {x3 : Int32} {x4 : Int32} {x5 : Int32} {S : ms} {R12 : Int32 → Int32 → Int32 → ms → Prop} {K : ms → Prop} (h : b_readUnit_12 x3 x4 x5 S R12 K) (hf : mon lo S) {Q : Prop} (k_R12 : ∀ (a0 : Int32) (a1 : Int32) (a2 : Int32) (a3 : ms), R12 a0 a1 a2 a3 → mon lo a3 → Q) (k_K : ∀ (a0 : ms), K a0 → mon lo a0 → Q) : Q := by
  unfold b_readUnit_12 at h
  refine dt_p h (fun c_1 h_2 => ?_) (fun c_1 h_2 => ?_)
  ·
    exact m_b_readUnit_166 h_2 hf k_K
  ·
    refine dt_n h_2 (fun c_5 h_6 => ?_) (fun c_5 h_6 => ?_)
    ·
      exact m_b_readUnit_166 h_6 hf k_K
    ·
      refine dt_n (And.right h_6) (fun c_9 h_10 => ?_) (fun c_9 h_10 => ?_)
      ·
        exact m_b_readUnit_59 (And.right h_10) hf k_R12 k_K
      ·
        exact m_b_readUnit_59 h_10 hf k_R12 k_K
theorem m_e_readUnit_12 {lo : Int} {x3 : Int32} {x4 : Int32} {x5 : Int32} {S : ms} {K : ms → Prop} (h : e_readUnit_12 x3 x4 x5 S K) (hf : mon lo S) {Q : Prop} (k_K : ∀ (a0 : ms), K a0 → mon lo a0 → Q) : Q := by
  obtain ⟨I, μ, i0, is⟩ := h
  have go : ∀ (n : Nat) (yx3 : Int32) (yx4 : Int32) (yx5 : Int32) (yS : ms), μ yx3 yx4 yx5 yS < n → I yx3 yx4 yx5 yS → mon lo yS → Q := by
    intro n
    induction n with
    | zero => intro yx3 yx4 yx5 yS hy; exact absurd hy (Nat.not_lt_zero _)
    | succ n ih =>
      intro yx3 yx4 yx5 yS hy hI hV
      exact m_b_readUnit_12 (is yx3 yx4 yx5 yS hI) hV (fun a0 a1 a2 a3 hR hz => ih a0 a1 a2 a3 (Nat.lt_of_lt_of_le hR.2 (Nat.le_of_lt_succ hy)) hR.1 hz) k_K
  exact go _ x3 x4 x5 S (Nat.lt_succ_self _) i0 hf
set_option maxHeartbeats 1000000 in
theorem m_p_readUnit {lo : Int} {x1 : Int32} {x2 : Int32} {S : ms} {K : ms → Prop} (h : p_readUnit x1 x2 S K) (hf : mon lo S) {Q : Prop} (k_K : ∀ (a0 : ms), K a0 → mon lo a0 → Q) : Q := by
  unfold p_readUnit at h
  exact m_e_readUnit_12 (And.right (And.right h)) hf k_K
set_option maxHeartbeats 1000000 in
theorem m_b_readData_260 {lo : Int} {S : ms} {K : ms → Prop} (h : b_readData_260 S K) (hf : mon lo S) {Q : Prop} (k_K : ∀ (a0 : ms), K a0 → mon lo a0 → Q) : Q := by
  unfold b_readData_260 at h
  exact k_K _ h hf
set_option maxHeartbeats 1000000 in
theorem m_b_readData_254 {lo : Int} {x2 : Int32} {x3 : Int32} {x4 : Int32} {S : ms} {R106 : Int32 → Int32 → Int32 → ms → Prop} {K : ms → Prop} (h : b_readData_254 x2 x3 x4 S R106 K) (hf : mon lo S) {Q : Prop} (k_R106 : ∀ (a0 : Int32) (a1 : Int32) (a2 : Int32) (a3 : ms), R106 a0 a1 a2 a3 → mon lo a3 → Q) (k_K : ∀ (a0 : ms), K a0 → mon lo a0 → Q) : Q := by
  unfold b_readData_254 at h
  exact k_R106 _ _ _ _ h hf
set_option maxHeartbeats 1000000 in
theorem m_b_readData_240 {lo : Int} {x2 : Int32} {x3 : Int32} {x4 : Int32} {S : ms} {R106 : Int32 → Int32 → Int32 → ms → Prop} {K : ms → Prop} (h : b_readData_240 x2 x3 x4 S R106 K) (hf : mon lo S) {Q : Prop} (k_R106 : ∀ (a0 : Int32) (a1 : Int32) (a2 : Int32) (a3 : ms), R106 a0 a1 a2 a3 → mon lo a3 → Q) (k_K : ∀ (a0 : ms), K a0 → mon lo a0 → Q) : Q := by
  unfold b_readData_240 at h
  refine dt_n h (fun c_1 h_2 => ?_) (fun c_1 h_2 => ?_)
  ·
    exact m_b_readData_254 h_2 hf k_R106 k_K
  ·
    refine m_p_readUnit h_2 hf (fun S251 h_7 f_8 => ?_)
    exact m_b_readData_254 h_7 f_8 k_R106 k_K
set_option maxHeartbeats 1000000 in
theorem m_b_readData_226 {lo : Int} {x2 : Int32} {x3 : Int32} {x4 : Int32} {x5 : Int32} {x6 : Int32} {S : ms} {R106 : Int32 → Int32 → Int32 → ms → Prop} {R210 : Int32 → Int32 → Int32 → Int32 → Int32 → ms → Prop} {K : ms → Prop} (h : b_readData_226 x2 x3 x4 x5 x6 S R106 R210 K) (hf : mon lo S) {Q : Prop} (k_R106 : ∀ (a0 : Int32) (a1 : Int32) (a2 : Int32) (a3 : ms), R106 a0 a1 a2 a3 → mon lo a3 → Q) (k_R210 : ∀ (a0 : Int32) (a1 : Int32) (a2 : Int32) (a3 : Int32) (a4 : Int32) (a5 : ms), R210 a0 a1 a2 a3 a4 a5 → mon lo a5 → Q) (k_K : ∀ (a0 : ms), K a0 → mon lo a0 → Q) : Q := by
  unfold b_readData_226 at h
  exact k_R210 _ _ _ _ _ _ (And.right h) hf
set_option maxHeartbeats 1000000 in
theorem m_b_readData_210 {lo : Int} {x2 : Int32} {x3 : Int32} {x4 : Int32} {x5 : Int32} {x6 : Int32} {S : ms} {R106 : Int32 → Int32 → Int32 → ms → Prop} {R210 : Int32 → Int32 → Int32 → Int32 → Int32 → ms → Prop} {K : ms → Prop} (h : b_readData_210 x2 x3 x4 x5 x6 S R106 R210 K) (hf : mon lo S) {Q : Prop} (k_R106 : ∀ (a0 : Int32) (a1 : Int32) (a2 : Int32) (a3 : ms), R106 a0 a1 a2 a3 → mon lo a3 → Q) (k_R210 : ∀ (a0 : Int32) (a1 : Int32) (a2 : Int32) (a3 : Int32) (a4 : Int32) (a5 : ms), R210 a0 a1 a2 a3 a4 a5 → mon lo a5 → Q) (k_K : ∀ (a0 : ms), K a0 → mon lo a0 → Q) : Q := by
  unfold b_readData_210 at h
  refine dt_p h (fun c_1 h_2 => ?_) (fun c_1 h_2 => ?_)
  ·
    exact m_b_readData_240 h_2 hf k_R106 k_K
  ·
    refine dt_p h_2 (fun c_7 h_8 => ?_) (fun c_7 h_8 => ?_)
    ·
      exact m_b_readData_226 h_8 hf k_R106 k_R210 k_K
    ·
      refine dt_p h_8 (fun c_15 h_16 => ?_) (fun c_15 h_16 => ?_)
      ·
        exact m_b_readData_240 h_16 hf k_R106 k_K
      ·
        exact m_b_readData_226 h_16 hf k_R106 k_R210 k_K
theorem m_e_readData_210 {lo : Int} {x2 : Int32} {x3 : Int32} {x4 : Int32} {x5 : Int32} {x6 : Int32} {S : ms} {R106 : Int32 → Int32 → Int32 → ms → Prop} {K : ms → Prop} (h : e_readData_210 x2 x3 x4 x5 x6 S R106 K) (hf : mon lo S) {Q : Prop} (k_R106 : ∀ (a0 : Int32) (a1 : Int32) (a2 : Int32) (a3 : ms), R106 a0 a1 a2 a3 → mon lo a3 → Q) (k_K : ∀ (a0 : ms), K a0 → mon lo a0 → Q) : Q := by
  obtain ⟨I, μ, i0, is⟩ := h
  have go : ∀ (n : Nat) (yx2 : Int32) (yx3 : Int32) (yx4 : Int32) (yx5 : Int32) (yx6 : Int32) (yS : ms), μ yx2 yx3 yx4 yx5 yx6 yS < n → I yx2 yx3 yx4 yx5 yx6 yS → mon lo yS → Q := by
    intro n
    induction n with
    | zero => intro yx2 yx3 yx4 yx5 yx6 yS hy; exact absurd hy (Nat.not_lt_zero _)
    | succ n ih =>
      intro yx2 yx3 yx4 yx5 yx6 yS hy hI hV
      exact m_b_readData_210 (is yx2 yx3 yx4 yx5 yx6 yS hI) hV k_R106 (fun a0 a1 a2 a3 a4 a5 hR hz => ih a0 a1 a2 a3 a4 a5 (Nat.lt_of_lt_of_le hR.2 (Nat.le_of_lt_succ hy)) hR.1 hz) k_K
  exact go _ x2 x3 x4 x5 x6 S (Nat.lt_succ_self _) i0 hf
set_option maxHeartbeats 1000000 in
theorem m_b_readData_207 {lo : Int} {x2 : Int32} {x3 : Int32} {x4 : Int32} {x5 : Int32} {S : ms} {R106 : Int32 → Int32 → Int32 → ms → Prop} {K : ms → Prop} (h : b_readData_207 x2 x3 x4 x5 S R106 K) (hf : mon lo S) {Q : Prop} (k_R106 : ∀ (a0 : Int32) (a1 : Int32) (a2 : Int32) (a3 : ms), R106 a0 a1 a2 a3 → mon lo a3 → Q) (k_K : ∀ (a0 : ms), K a0 → mon lo a0 → Q) : Q := by
  unfold b_readData_207 at h
  exact m_e_readData_210 h hf k_R106 k_K
set_option maxHeartbeats 1000000 in
theorem m_b_readData_148 {lo : Int} {x2 : Int32} {x3 : Int32} {x4 : Int32} {s0 : Int32} {S : ms} {R106 : Int32 → Int32 → Int32 → ms → Prop} {K : ms → Prop} (h : b_readData_148 x2 x3 x4 s0 S R106 K) (hf : mon lo S) {Q : Prop} (k_R106 : ∀ (a0 : Int32) (a1 : Int32) (a2 : Int32) (a3 : ms), R106 a0 a1 a2 a3 → mon lo a3 → Q) (k_K : ∀ (a0 : ms), K a0 → mon lo a0 → Q) : Q := by
  unfold b_readData_148 at h
  refine dt_p h (fun c_1 h_2 => ?_) (fun c_1 h_2 => ?_)
  ·
    exact m_b_readData_207 h_2 hf k_R106 k_K
  ·
    refine m_p_readMark h_2 (mo_u hf (by decide) (by decide)) (fun v161 S161 h_7 f_8 => ?_)
    refine dt_n h_7 (fun c_9 h_10 => ?_) (fun c_9 h_10 => ?_)
    ·
      exact m_b_readData_207 h_10 f_8 k_R106 k_K
    ·
      refine dt_p (And.right h_10) (fun c_15 h_16 => ?_) (fun c_15 h_16 => ?_)
      ·
        exact m_b_readData_207 h_16 f_8 k_R106 k_K
      ·
        refine m_p_fail h_16 f_8 (fun v202 S202 h_21 f_22 => ?_)
        exact m_b_readData_207 h_21 f_22 k_R106 k_K
set_option maxHeartbeats 1000000 in
theorem m_b_readData_147 {lo : Int} {x2 : Int32} {x3 : Int32} {x4 : Int32} {S : ms} {R106 : Int32 → Int32 → Int32 → ms → Prop} {K : ms → Prop} (h : b_readData_147 x2 x3 x4 S R106 K) (hf : mon lo S) {Q : Prop} (k_R106 : ∀ (a0 : Int32) (a1 : Int32) (a2 : Int32) (a3 : ms), R106 a0 a1 a2 a3 → mon lo a3 → Q) (k_K : ∀ (a0 : ms), K a0 → mon lo a0 → Q) : Q := by
  unfold b_readData_147 at h
  exact m_b_readData_148 h hf k_R106 k_K
set_option maxHeartbeats 1000000 in
theorem m_b_readData_106 {lo : Int} {x2 : Int32} {x3 : Int32} {x4 : Int32} {S : ms} {R106 : Int32 → Int32 → Int32 → ms → Prop} {K : ms → Prop} (h : b_readData_106 x2 x3 x4 S R106 K) (hf : mon lo S) {Q : Prop} (k_R106 : ∀ (a0 : Int32) (a1 : Int32) (a2 : Int32) (a3 : ms), R106 a0 a1 a2 a3 → mon lo a3 → Q) (k_K : ∀ (a0 : ms), K a0 → mon lo a0 → Q) : Q := by
  unfold b_readData_106 at h
  refine dt_p h (fun c_1 h_2 => ?_) (fun c_1 h_2 => ?_)
  ·
    exact m_b_readData_260 h_2 hf k_K
  ·
    refine dt_n h_2 (fun c_5 h_6 => ?_) (fun c_5 h_6 => ?_)
    ·
      exact m_b_readData_260 h_6 hf k_K
    ·
      refine dt_p h_6 (fun c_9 h_10 => ?_) (fun c_9 h_10 => ?_)
      ·
        exact m_b_readData_147 h_10 hf k_R106 k_K
      ·
        refine dt_p h_10 (fun c_15 h_16 => ?_) (fun c_15 h_16 => ?_)
        ·
          exact m_b_readData_147 h_16 hf k_R106 k_K
        ·
          refine dt_n (And.right h_16) (fun c_21 h_22 => ?_) (fun c_21 h_22 => ?_)
          ·
            exact m_b_readData_147 h_22 hf k_R106 k_K
          ·
            exact m_b_readData_148 h_22 hf k_R106 k_K
theorem m_e_readData_106 {lo : Int} {x2 : Int32} {x3 : Int32} {x4 : Int32} {S : ms} {K : ms → Prop} (h : e_readData_106 x2 x3 x4 S K) (hf : mon lo S) {Q : Prop} (k_K : ∀ (a0 : ms), K a0 → mon lo a0 → Q) : Q := by
  obtain ⟨I, μ, i0, is⟩ := h
  have go : ∀ (n : Nat) (yx2 : Int32) (yx3 : Int32) (yx4 : Int32) (yS : ms), μ yx2 yx3 yx4 yS < n → I yx2 yx3 yx4 yS → mon lo yS → Q := by
    intro n
    induction n with
    | zero => intro yx2 yx3 yx4 yS hy; exact absurd hy (Nat.not_lt_zero _)
    | succ n ih =>
      intro yx2 yx3 yx4 yS hy hI hV
      exact m_b_readData_106 (is yx2 yx3 yx4 yS hI) hV (fun a0 a1 a2 a3 hR hz => ih a0 a1 a2 a3 (Nat.lt_of_lt_of_le hR.2 (Nat.le_of_lt_succ hy)) hR.1 hz) k_K
  exact go _ x2 x3 x4 S (Nat.lt_succ_self _) i0 hf
set_option maxHeartbeats 1000000 in
theorem m_b_readData_97 {lo : Int} {x2 : Int32} {s0 : Int32} {S : ms} {K : ms → Prop} (h : b_readData_97 x2 s0 S K) (hf : mon lo S) {Q : Prop} (k_K : ∀ (a0 : ms), K a0 → mon lo a0 → Q) : Q := by
  unfold b_readData_97 at h
  exact m_e_readData_106 h (mo_u hf (by decide) (by decide)) k_K
set_option maxHeartbeats 1000000 in
theorem m_b_readData_55 {lo : Int} {x1 : Int32} {s0 : Int32} {S : ms} {K : ms → Prop} (h : b_readData_55 x1 s0 S K) (hf : mon lo S) {Q : Prop} (k_K : ∀ (a0 : ms), K a0 → mon lo a0 → Q) : Q := by
  unfold b_readData_55 at h
  refine dt_p h (fun c_1 h_2 => ?_) (fun c_1 h_2 => ?_)
  ·
    refine m_p_greatest (And.right h_2) hf (fun v90 S90 h_3 f_4 => ?_)
    refine d_p_upward h_3 (fun v94 h_5 _ => ?_)
    exact m_b_readData_97 h_5 f_4 k_K
  ·
    refine m_p_layerHigh (And.right h_2) hf (fun v68 S68 h_8 f_9 => ?_)
    refine d_p_upward h_8 (fun v73 h_10 _ => ?_)
    exact m_b_readData_97 h_10 f_9 k_K
set_option maxHeartbeats 1000000 in
theorem m_b_readData_13 {lo : Int} {s0 : Int32} {S : ms} {K : ms → Prop} (h : b_readData_13 s0 S K) (hf : mon lo S) {Q : Prop} (k_K : ∀ (a0 : ms), K a0 → mon lo a0 → Q) : Q := by
  unfold b_readData_13 at h
  refine dt_p h (fun c_1 h_2 => ?_) (fun c_1 h_2 => ?_)
  ·
    refine m_p_greatest (And.right h_2) hf (fun v48 S48 h_3 f_4 => ?_)
    refine d_p_upward h_3 (fun v52 h_5 _ => ?_)
    exact m_b_readData_55 h_5 f_4 k_K
  ·
    refine m_p_layerWide (And.right h_2) hf (fun v26 S26 h_8 f_9 => ?_)
    refine d_p_upward h_8 (fun v31 h_10 _ => ?_)
    exact m_b_readData_55 h_10 f_9 k_K
set_option maxHeartbeats 1000000 in
theorem m_p_readData {lo : Int} {S : ms} {K : ms → Prop} (h : p_readData S K) (hf : mon lo S) {Q : Prop} (k_K : ∀ (a0 : ms), K a0 → mon lo a0 → Q) : Q := by
  unfold p_readData at h
  refine dt_n h (fun c_1 h_2 => ?_) (fun c_1 h_2 => ?_)
  ·
    exact m_b_readData_13 h_2 hf k_K
  ·
    exact m_b_readData_13 h_2 hf k_K
