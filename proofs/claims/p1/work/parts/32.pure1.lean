/-! pure rows of the model: what its predicates come to -/
def zf (f : Nat → Int32) (n : Nat) (v : Int32) : Nat → Int32 := fun j => if j < n then v else f j
theorem zf_0 (f : Nat → Int32) (v : Int32) : zf f 0 v = f := by funext j; simp [zf]
theorem zf_s (f : Nat → Int32) (n : Nat) (v : Int32) : upd (zf f n v) n v = zf f (n + 1) v := by
  funext j
  unfold upd zf
  by_cases e : j = n
  · subst e; simp
  · by_cases h : j < n
    · simp [e, h, Nat.lt_succ_of_lt h]
    · have : ¬ j < n + 1 := by omega
      simp [e, h, this]
theorem va_up_id {α : Type} (f : Nat → α) (k : Nat) : va_up f k (f k) = f := by
  funext j
  unfold va_up
  by_cases e : j = k
  · subst e; simp
  · simp [e]
theorem va_up_up {α : Type} (f : Nat → α) (k : Nat) (a b : α) : va_up (va_up f k a) k b = va_up f k b := by
  funext j
  unfold va_up
  by_cases e : j = k <;> simp [e]
theorem va_up_at {α : Type} (f : Nat → α) (k : Nat) (a : α) : va_up f k a k = a := by simp [va_up]
theorem q_cell {x y p : Int32} {K : Int32 → Prop} (h : K (3 * (64 * y + x) + p)) : p_cell x y p K := h
theorem q_canvas_67 {S : ms} {K : ms → Prop} (h : K (S.1, va_up S.2.1 4 (zf (S.2.1 4) 12288 0), S.2.2)) : e_canvas_67 0 S K := by
  refine tr_2 (P := fun x S R => b_canvas_67 x S R K) (fun i => nI i) (fun i => (S.1, va_up S.2.1 4 (zf (S.2.1 4) i 0), S.2.2)) 12288 nI_0 ?_ (fun R => ?_) (fun i hi R hR => ?_)
  · rw [zf_0, va_up_id]
  · exact ⟨fun _ => h, fun hc => absurd (by decide) hc⟩
  · refine ⟨fun hc => absurd hc (nI_ge hi (by decide)), fun _ => ⟨vp_in_nI hi (by decide), ?_⟩⟩
    dsimp only
    rw [nI_clamp (by omega), va_up_at, va_up_up, zf_s, nI_1]
    exact hR
theorem q_canvas {w h n : Int32} {S : ms} {K : ms → Prop} (hb : (w < 1 ∨ 64 < w ∨ h < 1 ∨ 64 < h ∨ (¬ n = 1 ∧ ¬ n = 3)) → K (upd S.1 0 1, S.2.1, S.2.2))
    (hg : ¬ (w < 1 ∨ 64 < w ∨ h < 1 ∨ 64 < h ∨ (¬ n = 1 ∧ ¬ n = 3)) → K (upd (upd (upd (upd S.1 0 0) 1 w) 2 h) 3 n, va_up S.2.1 4 (zf (S.2.1 4) 12288 0), S.2.2)) : p_canvas w h n S K := by
  have bad : (w < 1 ∨ 64 < w ∨ h < 1 ∨ 64 < h ∨ (¬ n = 1 ∧ ¬ n = 3)) → b_canvas_33 w h n S K := fun hc => by
    refine ⟨fun h9 => absurd h9 (by simp [upd]), fun _ => hb hc⟩
  have good : ¬ (w < 1 ∨ 64 < w ∨ h < 1 ∨ 64 < h ∨ (¬ n = 1 ∧ ¬ n = 3)) → b_canvas_37 w h n S K := fun hc => by
    refine ⟨fun _ => q_canvas_67 (hg hc), fun h9 => absurd (by simp [upd]) h9⟩
  refine ⟨fun c1 => bad (.inl c1), fun c1 => ⟨fun c2 => bad (.inr (.inl c2)), fun c2 => ⟨fun c3 => bad (.inr (.inr (.inl c3))), fun c3 => ⟨fun c4 => bad (.inr (.inr (.inr (.inl c4)))), fun c4 => ⟨fun c5 => good ?_, fun c5 => ⟨fun c6 => good ?_, fun c6 => bad (.inr (.inr (.inr (.inr ⟨c5, c6⟩))))⟩⟩⟩⟩⟩⟩
  · rintro (q | q | q | q | q)
    · exact c1 q
    · exact c2 q
    · exact c3 q
    · exact c4 q
    · exact q.1 c5
  · rintro (q | q | q | q | q)
    · exact c1 q
    · exact c2 q
    · exact c3 q
    · exact c4 q
    · exact q.2 c6
