theorem t0_le {g : Nat → Int32} {v : Int32} {A B : Prop} (h0 : v ≤ 0 → A) (h1 : ¬ v ≤ 0 → B) : (upd g 0 v 0 ≤ 0 → A) ∧ (¬ (upd g 0 v 0 ≤ 0) → B) := ⟨h0, h1⟩
theorem q_thrown {S : ms} {K : Int32 → ms → Prop} (h : K (S.1 0) S) : p_thrown S K := h
theorem q_size {S : ms} {K : Int32 → ms → Prop} (h : K (S.1 9) (upd S.1 0 0, S.2.1, S.2.2)) : p_size S K := h
theorem q_place {S : ms} {K : Int32 → ms → Prop} (h : K (S.1 10) (upd S.1 0 0, S.2.1, S.2.2)) : p_place S K := h
theorem i_lt {x y : Int32} {n : Nat} (h0 : ¬ x < 0) (h1 : x < y) (h2 : y.toInt ≤ n) : vp_in x n := by
  rw [vp_in_iff]
  have a1 : ¬ x.toInt < 0 := fun h => h0 (by rw [Int32.lt_iff_toInt_lt, Int32.toInt_zero]; exact h)
  have a2 := Int32.lt_iff_toInt_lt.mp h1
  omega
theorem q_out {i : Int32} {S : ms} {K : Int32 → ms → Prop} (hm : (S.1 9).toInt ≤ 65536) (hb : (i < 0 ∨ ¬ i < S.1 9) → K 0 (upd S.1 0 1, S.2.1, S.2.2)) (hg : ¬ i < 0 → i < S.1 9 → K (S.2.1 8 i.toNatClampNeg) (upd S.1 0 0, S.2.1, S.2.2)) : p_out i S K :=
  ⟨fun c => t0_le (fun h => absurd h (by decide)) (fun _ => hb (.inl c)), fun c => ⟨fun d => t0_le (fun _ => ⟨i_lt c d hm, hg c d⟩) (fun h => absurd (by decide) h), fun d => t0_le (fun h => absurd h (by decide)) (fun _ => hb (.inr d))⟩⟩
theorem q_end {n : Int32} {S : ms} {K : ms → Prop} (hb : (n < 0 ∨ ¬ n ≤ S.1 7) → K (upd (upd S.1 0 1) 7 (S.1 7), S.2.1, S.2.2)) (hg : ¬ n < 0 → n ≤ S.1 7 → K (upd (upd S.1 0 0) 7 n, S.2.1, S.2.2)) : p_end n S K :=
  ⟨fun c => t0_le (fun h => absurd h (by decide)) (fun _ => hb (.inl c)), fun c => ⟨fun d => t0_le (fun _ => hg c d) (fun h => absurd (by decide) h), fun d => t0_le (fun h => absurd h (by decide)) (fun _ => hb (.inr d))⟩⟩
theorem q_change {i b : Int32} {S : ms} {K : Int32 → ms → Prop} (hm : (S.1 7).toInt ≤ 32768) (hb1 : (i < 0 ∨ ¬ i < S.1 7) → K 0 (upd S.1 0 1, S.2.1, S.2.2)) (hb2 : ¬ i < 0 → i < S.1 7 → (b < 0 ∨ ¬ b ≤ 255) → K 0 (upd S.1 0 2, S.2.1, S.2.2))
    (hg : ¬ i < 0 → i < S.1 7 → ¬ b < 0 → b ≤ 255 → K ((S.2.1 6 i.toNatClampNeg) ^^^ b) (upd S.1 0 0, va_up S.2.1 6 (upd (S.2.1 6) i.toNatClampNeg ((S.2.1 6 i.toNatClampNeg) ^^^ b)), S.2.2)) : p_change i b S K := by
  refine ⟨fun c => t0_le (fun h => absurd h (by decide)) (fun _ => hb1 (.inl c)), fun c => ⟨fun d => ⟨fun e => t0_le (fun h => absurd h (by decide)) (fun _ => hb2 c d (.inl e)), fun e => ⟨fun f => t0_le (fun _ => ?_) (fun h => absurd (by decide) h), fun f => t0_le (fun h => absurd h (by decide)) (fun _ => hb2 c d (.inr f))⟩⟩, fun d => t0_le (fun h => absurd h (by decide)) (fun _ => hb1 (.inr d))⟩⟩
  have hv := i_lt c d hm
  refine ⟨hv, hv, hv, ?_⟩
  rw [va_up_at]
  simp only [upd, if_true]
  exact hg c d e f
theorem q_about {w : Int32} {S : ms} {K : Int32 → ms → Prop} (hb1 : (w < 0 ∨ ¬ w ≤ 2) → K 0 (upd S.1 0 1, S.2.1, S.2.2)) (hb2 : ¬ w < 0 → w ≤ 2 → S.2.1 11 1 = 0 → K 0 (upd S.1 0 2, S.2.1, S.2.2))
    (hg : ¬ w < 0 → w ≤ 2 → ¬ S.2.1 11 1 = 0 → K (if w = 0 then S.2.1 12 1 else if w = 1 then S.2.1 13 1 else S.2.1 14 1) (upd S.1 0 0, S.2.1, S.2.2)) : p_about w S K := by
  have h13 : vp_in 1 3 := vp_in_nI (n := 1) (by decide) (by decide)
  refine ⟨fun c => t0_le (fun h => absurd h (by decide)) (fun _ => hb1 (.inl c)), fun c => ⟨fun d => ⟨h13, fun e => t0_le (fun h => absurd h (by decide)) (fun _ => hb2 c d e), fun e => t0_le (fun _ => ?_) (fun h => absurd (by decide) h)⟩, fun d => t0_le (fun h => absurd h (by decide)) (fun _ => hb1 (.inr d))⟩⟩
  have hk := hg c d e
  refine ⟨fun a1 => ⟨fun a2 => ⟨h13, ?_⟩, fun a2 => ⟨h13, ?_⟩⟩, fun a1 => ⟨h13, ?_⟩⟩
  · rw [if_neg a1, if_neg a2] at hk; exact hk
  · rw [if_neg a1, if_pos a2] at hk; exact hk
  · rw [if_pos a1] at hk; exact hk
