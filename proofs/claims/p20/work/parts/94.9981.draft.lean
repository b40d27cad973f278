/-! UNPACK: a layer of a frame -/
section FL
variable {S : ms} {F : cF} {L : cL} {a b : Bool} {P : Nat → Nat → Nat} {K0 : ms → Prop} {KC : cs → Prop} {T2 : Nat → cs → Prop} {G : Prop} {q : Nat} {x2 x3 x4 : Int32} {R192 : Int32 → Int32 → Int32 → Int32 → ms → Prop}
/-- is the name fresh -/
theorem q_fresh (hq : q < 3) (h : e_readFrame_223 x2 x3 x4 (nI q) 1 0 S R192 K0) : ∃ s : Int32, ((s = 1 ∧ ∀ k, k < q → ¬ S.2.1 44 k = S.2.1 44 q) ∨ (s = 0 ∧ ∃ k, k < q ∧ S.2.1 44 k = S.2.1 44 q)) ∧ p_must s ((S.1 34) - 1) S (fun S274 => (¬ (S274.1 35) = 0 → (b_readFrame_292 x2 x3 x4 (nI q) 0 (S274.1, S274.2.1, S274.2.2) R192 K0)) ∧ ((S274.1 35) = 0 → (p_next (S274.1, S274.2.1, S274.2.2) (fun v285 S285 => b_readFrame_292 x2 x3 x4 (nI q) v285 (S285.1, S285.2.1, S285.2.2) R192 K0)))) := by
  have hh := h
  have cq : (nI q).toNatClampNeg = q := nI_clamp (by omega)
  have go : ∀ d k (s : Int32), q - k = d → k ≤ q → ((s = 1 ∧ ∀ j, j < k → ¬ S.2.1 44 j = S.2.1 44 q) ∨ (s = 0 ∧ ∃ j, j < k ∧ S.2.1 44 j = S.2.1 44 q)) → e_readFrame_223 x2 x3 x4 (nI q) s (nI k) S R192 K0 → ∃ s : Int32, ((s = 1 ∧ ∀ k, k < q → ¬ S.2.1 44 k = S.2.1 44 q) ∨ (s = 0 ∧ ∃ k, k < q ∧ S.2.1 44 k = S.2.1 44 q)) ∧ p_must s ((S.1 34) - 1) S (fun S274 => (¬ (S274.1 35) = 0 → (b_readFrame_292 x2 x3 x4 (nI q) 0 (S274.1, S274.2.1, S274.2.2) R192 K0)) ∧ ((S274.1 35) = 0 → (p_next (S274.1, S274.2.1, S274.2.2) (fun v285 S285 => b_readFrame_292 x2 x3 x4 (nI q) v285 (S285.1, S285.2.1, S285.2.2) R192 K0)))) := by
    intro d
    induction d with
    | zero =>
      intro k s hd hk hs h
      obtain rfl : k = q := by omega
      have h := r_e_readFrame_223 h
      unfold b_readFrame_223 at h
      exact ⟨s, hs, h.1 (Int32.le_refl _)⟩
    | succ d ih =>
      intro k s hd hk hs h
      have h := r_e_readFrame_223 h
      unfold b_readFrame_223 b_readFrame_256 b_readFrame_257 at h
      have h := h.2 (nI_ge (by omega) (by omega))
      rcases hs with ⟨rfl, hs⟩ | ⟨rfl, j, j1, j2⟩
      · obtain ⟨-, -, h⟩ := h.2 (by decide)
        rw [cq, nI_clamp (show k < 2 ^ 31 by omega), nI_1] at h
        by_cases e : S.2.1 44 k = S.2.1 44 q
        · exact ih (k + 1) 0 (by omega) (by omega) (Or.inr ⟨rfl, k, by omega, e⟩) (h.1 e)
        · refine ih (k + 1) 1 (by omega) (by omega) (Or.inl ⟨rfl, fun j hj => ?_⟩) (h.2 e)
          by_cases ej : j = k
          · rw [ej]; exact e
          · exact hs j (by omega)
      · have h := h.1 rfl
        rw [nI_1] at h
        exact ih (k + 1) 0 (by omega) (by omega) (Or.inr ⟨rfl, j, by omega, j2⟩) h
  exact go _ 0 1 rfl (Nat.zero_le _) (Or.inl ⟨rfl, fun j hj => absurd hj (Nat.not_lt_zero _)⟩) hh
theorem q_uniq {v : Int32} (hq : q < 3) (h : e_Un_readFrameLayer_10 UL 59 (nI q) v 0 (F, L, PC a b P) KC T2) : ((∀ k, k < q → ¬ F 101 k = v) ∧ p_Re_read UL 60 (F, L, PC a b P) (fun v52 S52 => p_B_isWithin (v52 / 16) 1 2 (fun v62 => (v62 = 0 → (b_Un_readFrameLayer_80 UL 59 (nI q) v v52 S52 KC T2)) ∧ (¬ (v62 = 0) → (p_B_isWithin (v52 - v52 / 16 * 16) 1 2 (fun v74 => (¬ v74 = 0 → (b_Un_readFrameLayer_97 UL 59 (nI q) v v52 S52 KC T2)) ∧ (v74 = 0 → (b_Un_readFrameLayer_80 UL 59 (nI q) v v52 S52 KC T2))))))) T2) ∨ ((∃ k, k < q ∧ F 101 k = v) ∧ ∃ F', T2 13 (F', L, PC a b P)) := by
  have hh := h
  have go : ∀ d k, q - k = d → k ≤ q → (∀ j, j < k → ¬ F 101 j = v) → e_Un_readFrameLayer_10 UL 59 (nI q) v (nI k) (F, L, PC a b P) KC T2 → ((∀ k, k < q → ¬ F 101 k = v) ∧ p_Re_read UL 60 (F, L, PC a b P) (fun v52 S52 => p_B_isWithin (v52 / 16) 1 2 (fun v62 => (v62 = 0 → (b_Un_readFrameLayer_80 UL 59 (nI q) v v52 S52 KC T2)) ∧ (¬ (v62 = 0) → (p_B_isWithin (v52 - v52 / 16 * 16) 1 2 (fun v74 => (¬ v74 = 0 → (b_Un_readFrameLayer_97 UL 59 (nI q) v v52 S52 KC T2)) ∧ (v74 = 0 → (b_Un_readFrameLayer_80 UL 59 (nI q) v v52 S52 KC T2))))))) T2) ∨ ((∃ k, k < q ∧ F 101 k = v) ∧ ∃ F', T2 13 (F', L, PC a b P)) := by
    intro d
    induction d with
    | zero =>
      intro k hd hk hs h
      obtain rfl : k = q := by omega
      have h := r_e_Un_readFrameLayer_10 h
      unfold b_Un_readFrameLayer_10 at h
      obtain ⟨-, -, h⟩ := h.1 (Int32.le_refl _)
      exact Or.inl ⟨hs, h⟩
    | succ d ih =>
      intro k hd hk hs h
      have h := r_e_Un_readFrameLayer_10 h
      unfold b_Un_readFrameLayer_10 b_Un_readFrameLayer_42 at h
      obtain ⟨-, -, -, h⟩ := h.2 (nI_ge (by omega) (by omega))
      have h : (¬ F 101 (nI k).toNatClampNeg = v → e_Un_readFrameLayer_10 UL 59 (nI q) v (nI k + 1) (F, L, PC a b P) KC T2) ∧ (F 101 (nI k).toNatClampNeg = v → _ ∧ _ ∧ _ ∧ p_Re_fail UL 60 5 (F 60 1 - 1) (F, L, PC a b P) _ T2) := h
      rw [nI_clamp (show k < 2 ^ 31 by omega), nI_1] at h
      by_cases e : F 101 k = v
      · obtain ⟨-, -, -, h⟩ := h.2 e
        obtain ⟨F', -, -, h⟩ := q_Rfail h
        exact Or.inr ⟨⟨k, by omega, e⟩, F', h⟩
      · refine ih (k + 1) (by omega) (by omega) (fun j hj => ?_) (h.1 e)
        by_cases ej : j = k
        · rw [ej]; exact e
        · exact hs j (by omega)
  exact go _ 0 rfl (Nat.zero_le _) (fun j hj => absurd hj (Nat.not_lt_zero _)) hh
/-- factors that may be -/
def vf (w : Nat) : Prop := (w / 16 = 1 ∨ w / 16 = 2) ∧ (w % 16 = 1 ∨ w % 16 = 2)
theorem q_292 {w : Nat} {x5 : Int32} (hw : w ≤ 255) (h : b_readFrame_292 x2 x3 x4 x5 (nI w) S R192 K0) : ∃ s : Int32, ((s = 1 ∧ vf w) ∨ (s = 0 ∧ ¬ vf w)) ∧ b_readFrame_334 x2 x3 x4 x5 (nI w) s S R192 K0 := by
  unfold b_readFrame_292 b_readFrame_311 b_readFrame_329 b_readFrame_333 at h
  rw [n_shr4 hw, n_and15 hw] at h
  have E : ∀ (m k : Nat), m ≤ 255 → k ≤ 255 → (nI m = nI k ↔ m = k) := fun m k h1 h2 => nI_eq (by omega) (by omega)
  have e1 : ∀ m : Nat, m ≤ 255 → (nI m = (1 : Int32) ↔ m = 1) := fun m hm => E m 1 hm (by decide)
  have e2 : ∀ m : Nat, m ≤ 255 → (nI m = (2 : Int32) ↔ m = 2) := fun m hm => E m 2 hm (by decide)
  have in3 : (((nI (w % 16) : Int32) = 1 → b_readFrame_334 x2 x3 x4 x5 (nI w) 1 S R192 K0) ∧ (¬ ((nI (w % 16) : Int32) = 1) → ((¬ (nI (w % 16) : Int32) = 2 → b_readFrame_334 x2 x3 x4 x5 (nI w) 0 S R192 K0) ∧ ((nI (w % 16) : Int32) = 2 → b_readFrame_334 x2 x3 x4 x5 (nI w) 1 S R192 K0)))) → (w / 16 = 1 ∨ w / 16 = 2) → ∃ s : Int32, ((s = 1 ∧ vf w) ∨ (s = 0 ∧ ¬ vf w)) ∧ b_readFrame_334 x2 x3 x4 x5 (nI w) s S R192 K0 := by
    intro h hd
    refine dt_p h (fun c h => ⟨1, Or.inl ⟨rfl, hd, Or.inl ((e1 _ (by omega)).mp c)⟩, h⟩) (fun c h => ?_)
    refine dt_n h (fun c2 h => ⟨0, Or.inr ⟨rfl, fun q => ?_⟩, h⟩) (fun c2 h => ⟨1, Or.inl ⟨rfl, hd, Or.inr ((e2 _ (by omega)).mp c2)⟩, h⟩)
    rcases q.2 with e | e
    · exact c ((e1 _ (by omega)).mpr e)
    · exact c2 ((e2 _ (by omega)).mpr e)
  refine dt_p h (fun c h => in3 h (Or.inl ((e1 _ (by omega)).mp c))) (fun c h => ?_)
  refine dt_n h (fun c2 h => ⟨0, Or.inr ⟨rfl, fun q => ?_⟩, h⟩) (fun c2 h => in3 h (Or.inr ((e2 _ (by omega)).mp c2)))
  rcases q.1 with e | e
  · exact c ((e1 _ (by omega)).mpr e)
  · exact c2 ((e2 _ (by omega)).mpr e)
/-- the class's test of the factors -/
theorem q_facs {w : Nat} {v : Int32} (hw : w ≤ 255) (h : p_B_isWithin (nI w / 16) 1 2 (fun v62 => (v62 = 0 → (b_Un_readFrameLayer_80 UL 59 (nI q) v (nI w) (F, L, PC a b P) KC T2)) ∧ (¬ (v62 = 0) → (p_B_isWithin (nI w - nI w / 16 * 16) 1 2 (fun v74 => (¬ v74 = 0 → (b_Un_readFrameLayer_97 UL 59 (nI q) v (nI w) (F, L, PC a b P) KC T2)) ∧ (v74 = 0 → (b_Un_readFrameLayer_80 UL 59 (nI q) v (nI w) (F, L, PC a b P) KC T2))))))) : (vf w ∧ b_Un_readFrameLayer_97 UL 59 (nI q) v (nI w) (F, L, PC a b P) KC T2) ∨ (¬ vf w ∧ ∃ F', T2 13 (F', L, PC a b P)) := by
  have e16 : (nI w - nI w / 16 * 16 : Int32) = nI (w % 16) := pk_rem (d := 16) (by omega) (by decide) (by decide)
  have d16 : (nI w / 16 : Int32) = nI (w / 16) := pk_div (d := 16) (by omega) (by decide) (by decide)
  have o1 : (1 : Int32).toInt = 1 := by decide
  have o2 : (2 : Int32).toInt = 2 := by decide
  have fl : b_Un_readFrameLayer_80 UL 59 (nI q) v (nI w) (F, L, PC a b P) KC T2 → ∃ F', T2 13 (F', L, PC a b P) := by
    intro h
    unfold b_Un_readFrameLayer_80 at h
    obtain ⟨-, -, -, h⟩ := h
    have h : p_Re_fail UL 60 _ _ (F, L, PC a b P) _ T2 := h
    obtain ⟨F', -, -, h⟩ := q_Rfail h
    exact ⟨F', h⟩
  rw [e16, d16] at h
  rcases q_isWithin h with ⟨i1, i2, h⟩ | ⟨i1, h⟩
  · rw [o1, nI_toInt (by omega)] at i1
    rw [o2, nI_toInt (by omega)] at i2
    rcases q_isWithin (h.2 (by decide)) with ⟨j1, j2, h⟩ | ⟨j1, h⟩
    · rw [o1, nI_toInt (by omega)] at j1
      rw [o2, nI_toInt (by omega)] at j2
      exact Or.inl ⟨⟨by omega, by omega⟩, h.1 (by decide)⟩
    · rw [o1, o2, nI_toInt (by omega)] at j1
      exact Or.inr ⟨fun q => by have := q.2; omega, fl (h.2 rfl)⟩
  · rw [o1, o2, nI_toInt (by omega)] at i1
    exact Or.inr ⟨fun q => by have := q.1; omega, fl (h.1 rfl)⟩
end FL

/-! UNPACK: the layers of a frame, both sides -/
theorem mx_congr {A B' : Nat → Nat} : ∀ n, (∀ l, l < n → B' l = A l) → mx B' n = mx A n
  | 0, _ => rfl
  | n + 1, h => by
    show max (mx B' n) (B' n) = max (mx A n) (A n)
    rw [mx_congr n (fun l hl => h l (by omega)), h n (by omega)]
def isU (u : Nat) : Prop := u = 63 ∨ u = 105
theorem isU_p {u : Nat} (h : isU u) : isPic u := Or.inr h
/-- what reading layers of a frame leaves alone on the class's side -/
def fzC (u : Nat) (F G : cF) : Prop := (∀ w, OB w = false → w ≠ u + 1 → w ≠ u + 2 → w ≠ 101 → w ≠ 102 → w ≠ 103 → G w = F w) ∧ (∀ w k, OB w = true → w ≠ 60 → w ≠ u → k < 100 → G w k = F w k) ∧ ∀ k, k ≠ 5 → k ≠ 6 → k < 100 → G u k = F u k
section FZ
variable {u : Nat} {F G H : cF}
theorem fz_refl : fzC u F F := ⟨fun _ _ _ _ _ _ _ => rfl, fun _ _ _ _ _ _ => rfl, fun _ _ _ _ => rfl⟩
theorem fz_tr (h : fzC u F G) (h' : fzC u G H) : fzC u F H := ⟨fun w o a1 a2 a3 a4 a5 => (h'.1 w o a1 a2 a3 a4 a5).trans (h.1 w o a1 a2 a3 a4 a5), fun w k o a1 a2 a3 => (h'.2.1 w k o a1 a2 a3).trans (h.2.1 w k o a1 a2 a3), fun k a1 a2 a3 => (h'.2.2 k a1 a2 a3).trans (h.2.2 k a1 a2 a3)⟩
theorem fu_o (h : fuC F G) {w k : Nat} (o : OB w = true) (hw : w ≠ 60) (hk : k < 100) : G w k = F w k := by
  refine h.1 w k o ?_
  simp only [List.contains_cons, List.contains_nil, Bool.or_false, Bool.or_eq_false_iff, beq_eq_false_iff_ne]
  exact ⟨by omega, by omega, by omega⟩
theorem fz_fu (hu : isU u) (h : fuC F G) : fzC u F G := by
  refine ⟨fun w o _ _ _ _ _ => h.2 w o rfl, fun w k o h1 _ hk => fu_o h o h1 hk, fun k _ _ hk => ?_⟩
  rcases hu with rfl | rfl <;> exact fu_o h rfl (by decide) hk
theorem fz_row {w : Nat} {x : Nat → Int32} (hu : isU u) (hw : w = 101 ∨ w = 102 ∨ w = 103) : fzC u F (va_up F w x) := by
  have o : OB w = false := by rcases hw with rfl | rfl | rfl <;> rfl
  have ou : OB u = true := by rcases hu with rfl | rfl <;> rfl
  refine ⟨fun v _ _ _ h3 h4 h5 => vu_ne (by omega), fun v k ov _ _ _ => ?_, fun k _ _ _ => ?_⟩
  · rw [vu_ne (fun e => by rw [e, o] at ov; exact absurd ov (by decide))]
  · rw [vu_ne (fun e => by rw [e, o] at ou; exact absurd ou (by decide))]
theorem fz_set {l : Nat} {x2 x3 : Int32} (hu : isU u) (z1 : ∀ v, v ≠ u → v ≠ u + 1 → v ≠ u + 2 → G v = F v) (z2 : G u = upd (upd (F u) 5 x2) 6 x3) : fzC u F G := by
  have o1 : OB (u + 1) = false ∧ OB (u + 2) = false ∧ OB u = true := by rcases hu with rfl | rfl <;> exact ⟨rfl, rfl, rfl⟩
  refine ⟨fun v ov h1 h2 _ _ _ => z1 v (fun e => by rw [e, o1.2.2] at ov; exact absurd ov (by decide)) h1 h2, fun v k ov _ h2 _ => ?_, fun k k5 k6 _ => ?_⟩
  · rw [z1 v h2 (fun e => by rw [e, o1.1] at ov; exact absurd ov (by decide)) (fun e => by rw [e, o1.2.1] at ov; exact absurd ov (by decide))]
  · rw [z2, upd_ne k6, upd_ne k5]
end FZ
/-- q layers of a frame, both sides -/
def frL (u q : Nat) (A D tt : Nat → Nat) (M : ms) (F : cF) : Prop :=
  F u 5 = nI (mx A q) ∧ F u 6 = nI (mx D q) ∧ (∀ i j, i < q → j < q → M.2.1 44 i = M.2.1 44 j → i = j) ∧ ∀ l, l < q → F 101 l = M.2.1 44 l ∧ F (u + 1) l = nI (A l) ∧ F (u + 2) l = nI (D l) ∧ M.2.1 15 (6 + l) = nI (A l) ∧ M.2.1 16 (6 + l) = nI (D l) ∧ (A l = 1 ∨ A l = 2) ∧ (D l = 1 ∨ D l = 2) ∧ F 102 l = nI (tt l) ∧ M.2.1 45 l = nI (tt l) ∧ tt l < 4 ∧ F 103 l = 0
section FL2
variable {S : ms} {F : cF} {L : cL} {a b : Bool} {P : Nat → Nat → Nat} {K0 : ms → Prop} {KC : cs → Prop} {T2 : Nat → cs → Prop} {G : Prop} {u q : Nat} {x2 x3 x4 : Int32} {R192 : Int32 → Int32 → Int32 → Int32 → ms → Prop} {A D tt : Nat → Nat}
theorem y_layer (hu : isU u) (hpu : PC a b P 59 1 = u) (hq3 : q < 3) (hq : rq S F) (hf : frL u q A D tt S F)
    (bR : ∀ y2 y3 y4 y5 M' F', R192 y2 y3 y4 y5 M' → flt M' → T2 13 (F', L, PC a b P) → G) (bK : ∀ M' F', K0 M' → flt M' → T2 13 (F', L, PC a b P) → G)
    (h1 : p_next S (fun v213 S213 => vp_in (nI q) 3 ∧ (e_readFrame_223 x2 x3 x4 (nI q) 1 0 (S213.1, va_up S213.2.1 44 (upd (S213.2.1 44) (nI q).toNatClampNeg v213), S213.2.2) R192 K0))) (h2 : p_Un_readFrameLayer UL 59 (nI q) (F, L, PC a b P) KC T2)
    (ok : ∀ M' F' A' D' tt', ag [10, 34, 35] [15, 16, 44, 45] S M' → (∀ k, k < 6 → M'.2.1 15 k = S.2.1 15 k ∧ M'.2.1 16 k = S.2.1 16 k) → fzC u F F' → (S.1 34).toInt ≤ (M'.1 34).toInt → rq M' F' → frL u (q + 1) A' D' tt' M' F' → R192 x2 x3 x4 (nI q + 1) M' → KC (F', L, PC a b P) → G) : G := by
  have cq : (nI q).toNatClampNeg = q := nI_clamp (by omega)
  rw [cq] at h1
  unfold p_Un_readFrameLayer at h2
  obtain ⟨-, -, h2⟩ := h2
  have h2 : p_Re_read UL 60 (F, L, PC a b P) _ T2 := h2
  have f223 : ∀ (y6 y7 : Int32) (M1 : ms) (F1 : cF), e_readFrame_223 x2 x3 x4 (nI q) y6 y7 M1 R192 K0 → flt M1 → T2 13 (F1, L, PC a b P) → G := fun y6 y7 M1 F1 h hf ht => f_e_readFrame_223 h hf (fun _ _ _ _ M' hk hf => bR _ _ _ _ M' F1 hk hf ht) (fun M' hk hf => bK M' F1 hk hf ht)
  have f292 : ∀ (v : Int32) (M1 : ms) (F1 : cF), b_readFrame_292 x2 x3 x4 (nI q) v M1 R192 K0 → flt M1 → T2 13 (F1, L, PC a b P) → G := fun v M1 F1 h hf ht => f_b_readFrame_292 h hf (fun _ _ _ _ M' hk hf => bR _ _ _ _ M' F1 hk hf ht) (fun M' hk hf => bK M' F1 hk hf ht)
  refine x_read hq.1 h1 h2 (fun v M1 F1 a1 a2 a3 a4 a5 a6 a7 h1 h2 => ?_) (fun v M1 F1 f1 _ _ h1 h2 => f223 _ _ _ F1 h1.2 f1 h2)
  obtain ⟨-, h1⟩ := h1
  have st := rq_s hq a1 a2 a4 a5 a6
  -- the name stands in the reference's row
  have qM : rq (M1.1, va_up M1.2.1 44 (upd (M1.2.1 44) q v), M1.2.2) F1 := rq_m st.1 (by decide) (by decide)
  have n44 : ∀ k, k < q → va_up M1.2.1 44 (upd (M1.2.1 44) q v) 44 k = F 101 k := fun k hk => by
    rw [vu_at, upd_ne (by omega), a1.2 44 rfl]
    exact ((hf.2.2.2 k hk).1).symm
  have f101 : F1 101 = F 101 := a5.2 101 rfl rfl
  obtain ⟨s, hs, h1⟩ := q_fresh hq3 h1
  have e44 : va_up M1.2.1 44 (upd (M1.2.1 44) q v) 44 q = v := by rw [vu_at, upd_at]
  have hs : (s = 1 ∧ ∀ k, k < q → ¬ F 101 k = v) ∨ (s = 0 ∧ ∃ k, k < q ∧ F 101 k = v) := by
    rcases hs with ⟨e, hs⟩ | ⟨e, k, k1, k2⟩
    · refine Or.inl ⟨e, fun k hk e2 => hs k hk ?_⟩
      show va_up M1.2.1 44 (upd (M1.2.1 44) q v) 44 k = va_up M1.2.1 44 (upd (M1.2.1 44) q v) 44 q
      rw [n44 k hk, e44, e2]
    · refine Or.inr ⟨e, k, k1, ?_⟩
      have k2 : va_up M1.2.1 44 (upd (M1.2.1 44) q v) 44 k = va_up M1.2.1 44 (upd (M1.2.1 44) q v) 44 q := k2
      rw [n44 k k1, e44] at k2
      exact k2
  rcases q_uniq hq3 h2 with ⟨un, h2⟩ | ⟨⟨k, k1, k2⟩, F2, h2⟩
  · rw [f101] at un
    have s1 : s = 1 := by
      rcases hs with ⟨e, -⟩ | ⟨-, k, k1, k2⟩
      · exact e
      · exact absurd k2 (un k k1)
    subst s1
    have h1 := q_must1 (by decide) h1
    have h1 := h1.2 a3
    refine x_read (S := (M1.1, va_up M1.2.1 44 (upd (M1.2.1 44) q v), M1.2.2)) qM.1 h1 h2 (fun z M2 F2 b1 b2 b3 b4 b5 b6 b7 h1 h2 => ?_) (fun z M2 F2 f1 _ _ h1 h2 => f292 _ _ F2 h1 f1 h2)
    have st2 := rq_s qM b1 b2 b4 b5 b6
    have bv := qM.2.2.2.1 (M1.1 34).toNatClampNeg
    have b7' : z = va_up M1.2.1 44 (upd (M1.2.1 44) q v) 6 (M1.1 34).toNatClampNeg := b7
    have bv : B 0 255 z := by rw [b7']; exact bv
    obtain ⟨w, rfl, hw⟩ := b16 bv
    obtain ⟨s, hs, h1⟩ := q_292 hw h1
    rcases q_facs hw h2 with ⟨vfw, h2⟩ | ⟨nvf, F3, h2⟩
    · have s1 : s = 1 := by
        rcases hs with ⟨e, -⟩ | ⟨-, e⟩
        · exact e
        · exact absurd vfw e
      subst s1
      unfold b_readFrame_334 at h1
      have h1 := q_must1 (by decide) h1
      obtain ⟨-, -, h1⟩ := h1
      have h1 := h1.2 b3
      rw [show (6 + nI q : Int32) = nI (6 + q) from nI_add 6 q, nI_clamp (show 6 + q < 2 ^ 31 by omega), n_shr4 hw, n_and15 hw] at h1
      unfold b_Un_readFrameLayer_97 at h2
      obtain ⟨-, -, -, -, -, h2⟩ := h2
      have h2 : p_Pi_setFactors UL (PC a b P 59 1) (nI q) (nI w / 16) (nI w - nI w / 16 * 16) (va_up F2 101 (upd (F2 101) (nI q).toNatClampNeg v), L, PC a b P) (fun S117 => ¬ S117.2.2 59 8 = NU ∧ (p_Un_readWithin UL 59 0 3 S117 (fun v128 S128 => c_cl UL (S117.2.2 59 8) = 902 ∧ (vp_in (nI q) (c_ln UL (S117.2.2 59 8)) ∧ (¬ S128.2.2 59 9 = NU ∧ (c_cl UL (S128.2.2 59 9) = 903 ∧ (vp_in (nI q) (c_ln UL (S128.2.2 59 9)) ∧ (KC (va_up (va_up S128.1 (S117.2.2 59 8) (upd (S128.1 (S117.2.2 59 8)) (nI q).toNatClampNeg v128)) (S128.2.2 59 9) (upd ((va_up S128.1 (S117.2.2 59 8) (upd (S128.1 (S117.2.2 59 8)) (nI q).toNatClampNeg v128)) (S128.2.2 59 9)) (nI q).toNatClampNeg (vp_nar .boolean 0)), S128.2.1, S128.2.2))))))) T2)) := h2
      rw [hpu, cq, show (nI w - nI w / 16 * 16 : Int32) = nI (w % 16) from pk_rem (d := 16) (by omega) (by decide) (by decide), show (nI w / 16 : Int32) = nI (w / 16) from pk_div (d := 16) (by omega) (by decide) (by decide)] at h2
      obtain ⟨Z, z1, z2, z3, z4, h2⟩ := q_PsetFactors (isU_p hu) hq3 h2
      obtain ⟨-, h2⟩ := h2
      have h2 : p_Un_readWithin UL 59 0 3 (Z, L, PC a b P) _ T2 := h2
      have uu : u ≠ 59 ∧ u ≠ 60 ∧ u ≠ 61 ∧ u ≠ 62 ∧ u + 1 ≠ 59 ∧ u + 1 ≠ 60 ∧ u + 1 ≠ 61 ∧ u + 1 ≠ 62 ∧ u + 2 ≠ 59 ∧ u + 2 ≠ 60 ∧ u + 2 ≠ 61 ∧ u + 2 ≠ 62 ∧ u ≠ 101 ∧ u + 1 ≠ 101 ∧ u + 2 ≠ 101 ∧ u ≠ 102 ∧ u + 1 ≠ 102 ∧ u + 2 ≠ 102 ∧ u ≠ 103 ∧ u + 1 ≠ 103 ∧ u + 2 ≠ 103 := by
        rcases hu with rfl | rfl <;> decide
      obtain ⟨u1, u2, u3, u4, u5, u6, u7, u8, u9, u10, u11, u12, u13, u14, u15, u16, u17, u18, u19, u20, u21⟩ := uu
      have q3 : rq (M2.1, va_up (va_up M2.2.1 15 (upd (M2.2.1 15) (6 + q) (nI (w / 16)))) 16 (upd ((va_up M2.2.1 15 (upd (M2.2.1 15) (6 + q) (nI (w / 16)))) 16) (6 + q) (nI (w % 16))), M2.2.2) Z := by
        have t1 : rq M2 Z := rq_w (rq_c (w := 101) (x := upd (F2 101) q v) st2.1 (by decide) (by decide) (by decide) (by decide)) (z1 59 (Ne.symm u1) (Ne.symm u5) (Ne.symm u9)) (z1 60 (Ne.symm u2) (Ne.symm u6) (Ne.symm u10)) (z1 61 (Ne.symm u3) (Ne.symm u7) (Ne.symm u11)) (z1 62 (Ne.symm u4) (Ne.symm u8) (Ne.symm u12))
        exact rq_m (M := (M2.1, va_up M2.2.1 15 (upd (M2.2.1 15) (6 + q) (nI (w / 16))), M2.2.2)) (rq_m t1 (by decide) (by decide)) (by decide) (by decide)
      have f393 : ∀ (s2 : Int32) (M3 : ms) (F3 : cF), b_readFrame_393 x2 x3 x4 (nI q) (nI q) s2 M3 R192 K0 → flt M3 → T2 13 (F3, L, PC a b P) → G := fun s2 M3 F3 h hf ht => f_b_readFrame_393 h hf (fun _ _ _ _ M' hk hf => bR _ _ _ _ M' F3 hk hf ht) (fun M' hk hf => bK M' F3 hk hf ht)
      have z0 : (0 : Int32).toInt = 0 := by decide
      have z33 : (3 : Int32).toInt = 3 := by decide
      refine x_readW q3.1 h1 h2 (fun y M3 F3 c1 c2 c3 c4 c5 c6 c7 i1 i2 h1 h2 => ?_) (fun y M3 F3 c1 c3 c7 i1 h1 h2 => ?_) (fun y M3 F3 f1 h1 h2 => f393 _ _ F3 h1 f1 h2)
      · rw [z0] at i1
        rw [z33] at i2
        obtain ⟨t, rfl, ht4⟩ : ∃ t : Nat, y = nI t ∧ t < 4 := ⟨y.toInt.toNat, nI_i i1, by omega⟩
        have st3 := rq_s q3 c1 c2 c4 c5 c6
        unfold b_readFrame_393 at h1
        obtain ⟨-, -, h1⟩ := h1
        rw [cq, vu_at, upd_at] at h1
        have h1 := h1.2 (nI_ge (b := 4) ht4 (by decide))
        unfold b_readFrame_411 at h1
        have h1 := q_must1 (by decide) h1
        obtain ⟨-, -, -, -, -, h2⟩ := h2
        have h2 : KC (va_up (va_up F3 102 (upd (F3 102) q (nI t))) 103 (upd ((va_up F3 102 (upd (F3 102) q (nI t))) 103) q 0), L, PC a b P) := h2
        generalize hY : va_up (va_up F3 102 (upd (F3 102) q (nI t))) 103 (upd ((va_up F3 102 (upd (F3 102) q (nI t))) 103) q 0) = Y at h2
        have c15 : M3.2.1 15 = upd (M1.2.1 15) (6 + q) (nI (w / 16)) := by
          rw [c1.2 15 rfl]
          dsimp only
          rw [vu_ne (show (15 : Nat) ≠ 16 by decide), vu_at, b1.2 15 rfl]
          dsimp only
          rw [vu_ne (show (15 : Nat) ≠ 44 by decide)]
        have c16 : M3.2.1 16 = upd (M1.2.1 16) (6 + q) (nI (w % 16)) := by
          rw [c1.2 16 rfl]
          dsimp only
          rw [vu_at, vu_ne (show (16 : Nat) ≠ 15 by decide), b1.2 16 rfl]
          dsimp only
          rw [vu_ne (show (16 : Nat) ≠ 44 by decide)]
        have c44 : M3.2.1 44 = upd (M1.2.1 44) q v := by
          rw [c1.2 44 rfl]
          dsimp only
          rw [vu_ne (show (44 : Nat) ≠ 16 by decide), vu_ne (show (44 : Nat) ≠ 15 by decide), b1.2 44 rfl]
          dsimp only
          rw [vu_at]
        have c45 : M3.2.1 45 = M1.2.1 45 := by
          rw [c1.2 45 rfl]
          dsimp only
          rw [vu_ne (show (45 : Nat) ≠ 16 by decide), vu_ne (show (45 : Nat) ≠ 15 by decide), b1.2 45 rfl]
          dsimp only
          rw [vu_ne (show (45 : Nat) ≠ 44 by decide)]
        have y102 : Y 102 = upd (F 102) q (nI t) := by
          rw [← hY, vu_ne (show (102 : Nat) ≠ 103 by decide), vu_at, c5.2 102 rfl rfl, z1 102 (Ne.symm u16) (Ne.symm u17) (Ne.symm u18), vu_ne (show (102 : Nat) ≠ 101 by decide), b5.2 102 rfl rfl, a5.2 102 rfl rfl]
        have y103 : Y 103 = upd (F 103) q 0 := by
          rw [← hY, vu_at, vu_ne (show (103 : Nat) ≠ 102 by decide), c5.2 103 rfl rfl, z1 103 (Ne.symm u19) (Ne.symm u20) (Ne.symm u21), vu_ne (show (103 : Nat) ≠ 101 by decide), b5.2 103 rfl rfl, a5.2 103 rfl rfl]
        have yk : ∀ w, w ≠ 102 → w ≠ 103 → Y w = F3 w := fun w h1 h2 => by rw [← hY, vu_ne h2, vu_ne h1]
        have y101 : Y 101 = upd (F 101) q v := by
          rw [yk 101 (by decide) (by decide), c5.2 101 rfl rfl, z1 101 (Ne.symm u13) (Ne.symm u14) (Ne.symm u15), vu_at, b5.2 101 rfl rfl, a5.2 101 rfl rfl]
        have ou : OB (u + 1) = false ∧ OB (u + 2) = false ∧ OB u = true := by rcases hu with rfl | rfl <;> exact ⟨rfl, rfl, rfl⟩
        have n100 : u + 1 ≠ 101 ∧ u + 2 ≠ 101 := ⟨u14, u15⟩
        have yu1 : Y (u + 1) = upd (F (u + 1)) q (nI (w / 16)) := by
          rw [yk _ u17 u20, c5.2 _ ou.1 rfl, z3, vu_ne u14, b5.2 _ ou.1 rfl, a5.2 _ ou.1 rfl]
        have yu2 : Y (u + 2) = upd (F (u + 2)) q (nI (w % 16)) := by
          rw [yk _ u18 u21, c5.2 _ ou.2.1 rfl, z4, vu_ne u15, b5.2 _ ou.2.1 rfl, a5.2 _ ou.2.1 rfl]
        have fu5 : F2 u 5 = F u 5 ∧ F2 u 6 = F u 6 := ⟨(fu_o b5 ou.2.2 u2 (by decide)).trans (fu_o a5 ou.2.2 u2 (by decide)), (fu_o b5 ou.2.2 u2 (by decide)).trans (fu_o a5 ou.2.2 u2 (by decide))⟩
        have m2 : mx A q ≤ 2 ∧ mx D q ≤ 2 := by
          have t1 := mx_12 q (fun l hl => (hf.2.2.2 l hl).2.2.2.2.2.1)
          have t2 := mx_12 q (fun l hl => (hf.2.2.2 l hl).2.2.2.2.2.2.1)
          omega
        have w2 : w / 16 ≤ 2 ∧ w % 16 ≤ 2 := by have := vfw.1; have := vfw.2; omega
        have yu : Y u 5 = nI (mx (fun l => if l = q then w / 16 else A l) (q + 1)) ∧ Y u 6 = nI (mx (fun l => if l = q then w % 16 else D l) (q + 1)) := by
          rw [yk u u16 u19, fu_o c5 ou.2.2 u2 (by decide), fu_o c5 ou.2.2 u2 (by decide), z2, upd_ne (show (5 : Nat) ≠ 6 by decide), upd_at, upd_at, vu_ne u13, fu5.1, fu5.2, hf.1, hf.2.1, imx_n (by omega) (by omega), imx_n (by omega) (by omega)]
          show _ = nI (max (mx _ q) (if q = q then w / 16 else A q)) ∧ _ = nI (max (mx _ q) (if q = q then w % 16 else D q))
          rw [if_pos rfl, if_pos rfl, mx_congr (A := A) q (fun l hl => if_neg (by omega)), mx_congr (A := D) q (fun l hl => if_neg (by omega))]
          exact ⟨rfl, rfl⟩
        refine ok (M3.1, va_up M3.2.1 45 (upd (M3.2.1 45) q (nI t)), M3.2.2) Y (fun l => if l = q then w / 16 else A l) (fun l => if l = q then w % 16 else D l) (fun l => if l = q then t else tt l) ?_ ?_ ?_ ?_ ?_ ⟨yu.1, yu.2, fun i j hi hj e => ?_, fun l hl => ?_⟩ h1 h2
        · have e1 : ag [10, 34, 35] [15, 16, 44, 45] S M2 := ag_tr (ag_r (ag_tr (ag_refl (fs := [10, 34, 35]) (rs := [15, 16, 44, 45])) a1 rfl rfl) rfl) b1 rfl rfl
          have e2 : ag [10, 34, 35] [15, 16, 44, 45] S M3 := ag_tr (ag_r (T := (M2.1, va_up M2.2.1 15 (upd (M2.2.1 15) (6 + q) (nI (w / 16))), M2.2.2)) (ag_r e1 rfl) rfl) c1 rfl rfl
          exact ag_r e2 rfl
        · intro k hk
          show va_up M3.2.1 45 (upd (M3.2.1 45) q (nI t)) 15 k = _ ∧ va_up M3.2.1 45 (upd (M3.2.1 45) q (nI t)) 16 k = _
          rw [vu_ne (show (15 : Nat) ≠ 45 by decide), vu_ne (show (16 : Nat) ≠ 45 by decide), c15, c16, upd_ne (by omega), upd_ne (by omega), a1.2 15 rfl, a1.2 16 rfl]
          exact ⟨rfl, rfl⟩
        · have g1 : fzC u F F2 := fz_tr (fz_fu hu a5) (fz_fu hu b5)
          have g2 : fzC u F Z := fz_tr (fz_tr g1 (fz_row (x := upd (F2 101) q v) hu (Or.inl rfl))) (fz_set (l := q) hu z1 z2)
          have g3 : fzC u F F3 := fz_tr g2 (fz_fu hu c5)
          rw [← hY]
          exact fz_tr (fz_tr g3 (fz_row hu (Or.inr (Or.inl rfl)))) (fz_row hu (Or.inr (Or.inr rfl)))
        · show _ ≤ (M3.1 34).toInt
          have t1 := st.2.1
          have t2 : (M2.1 34).toInt = (M1.1 34).toInt + 1 := st2.2.1
          have t3 : (M3.1 34).toInt = (M2.1 34).toInt + 1 := st3.2.1
          omega
        · have t1 : rq M3 Y := rq_w st3.1 (yk 59 (by decide) (by decide)) (yk 60 (by decide) (by decide)) (yk 61 (by decide) (by decide)) (yk 62 (by decide) (by decide))
          exact rq_m t1 (by decide) (by decide)
        · have e : va_up M3.2.1 45 (upd (M3.2.1 45) q (nI t)) 44 i = va_up M3.2.1 45 (upd (M3.2.1 45) q (nI t)) 44 j := e
          rw [vu_ne (show (44 : Nat) ≠ 45 by decide), c44] at e
          have m44 : ∀ k, k < q → M1.2.1 44 k = F 101 k := fun k hk => by rw [a1.2 44 rfl]; exact ((hf.2.2.2 k hk).1).symm
          by_cases ei : i = q
          · by_cases ej : j = q
            · omega
            · rw [ei, upd_at, upd_ne ej, m44 j (by omega)] at e
              exact absurd e.symm (un j (by omega))
          · by_cases ej : j = q
            · rw [ej, upd_at, upd_ne ei, m44 i (by omega)] at e
              exact absurd e (un i (by omega))
            · rw [upd_ne ei, upd_ne ej, a1.2 44 rfl] at e
              exact hf.2.2.1 i j (by omega) (by omega) e
        · show Y 101 l = va_up M3.2.1 45 (upd (M3.2.1 45) q (nI t)) 44 l ∧ Y (u + 1) l = _ ∧ Y (u + 2) l = _ ∧ va_up M3.2.1 45 (upd (M3.2.1 45) q (nI t)) 15 (6 + l) = _ ∧ va_up M3.2.1 45 (upd (M3.2.1 45) q (nI t)) 16 (6 + l) = _ ∧ _ ∧ _ ∧ Y 102 l = _ ∧ va_up M3.2.1 45 (upd (M3.2.1 45) q (nI t)) 45 l = _ ∧ _ ∧ Y 103 l = 0
          rw [y101, y102, y103, yu1, yu2, vu_ne (show (44 : Nat) ≠ 45 by decide), vu_ne (show (15 : Nat) ≠ 45 by decide), vu_ne (show (16 : Nat) ≠ 45 by decide), vu_at, c44, c15, c16, c45]
          dsimp only
          by_cases e : l = q
          · subst e
            rw [upd_at, upd_at, upd_at, upd_at, upd_at, upd_at, upd_at, upd_at, upd_at, if_pos rfl, if_pos rfl, if_pos rfl]
            exact ⟨rfl, rfl, rfl, rfl, rfl, vfw.1, vfw.2, rfl, rfl, ht4, rfl⟩
          · rw [upd_ne e, upd_ne e, upd_ne e, upd_ne e, upd_ne e, upd_ne e, upd_ne e, upd_ne (show 6 + l ≠ 6 + q by omega), upd_ne (show 6 + l ≠ 6 + q by omega), if_neg e, if_neg e, if_neg e, a1.2 44 rfl, a1.2 45 rfl, a1.2 15 rfl, a1.2 16 rfl]
            exact hf.2.2.2 l (by omega)
      · have tb := q3.2.2.2.1 (M2.1 34).toNatClampNeg
        have tb : B 0 255 y := by rw [show y = _ from c7]; exact tb
        obtain ⟨t, rfl, ht⟩ := b16 tb
        rw [z0, z33, nI_toInt (by omega)] at i1
        unfold b_readFrame_393 at h1
        obtain ⟨-, -, h1⟩ := h1
        rw [cq, vu_at, upd_at] at h1
        have h1 := h1.1 (nI_le (a := 4) (by omega) (by omega))
        unfold b_readFrame_411 at h1
        obtain ⟨Y, hf', h1⟩ := q_must0 (S := (M3.1, va_up M3.2.1 45 (upd (M3.2.1 45) q (nI t)), M3.2.2)) c3 h1
        exact bR _ _ _ _ _ F3 h1 hf' h2
    · have s0 : s = 0 := by
        rcases hs with ⟨-, e⟩ | ⟨e, -⟩
        · exact absurd e nvf
        · exact e
      subst s0
      unfold b_readFrame_334 at h1
      obtain ⟨Y, hf', h1⟩ := q_must0 (S := M2) b3 h1
      obtain ⟨-, -, h1⟩ := h1
      have h1 := h1.1 (flt_n hf')
      exact f_b_readFrame_393 h1 hf' (fun _ _ _ _ M' hk hf => bR _ _ _ _ M' F3 hk hf h2) (fun M' hk hf => bK M' F3 hk hf h2)
  · rw [f101] at k2
    have s0 : s = 0 := by
      rcases hs with ⟨-, e⟩ | ⟨e, -⟩
      · exact absurd k2 (e k k1)
      · exact e
    subst s0
    obtain ⟨Y, hf', h1⟩ := q_must0 (S := (M1.1, va_up M1.2.1 44 (upd (M1.2.1 44) q v), M1.2.2)) a3 h1
    exact f292 _ _ F2 (h1.1 (flt_n hf')) hf' h2
end FL2

/-! UNPACK: a frame, both sides -/
section TWO
variable {S : ms} {F : cF} {L : cL} {a b : Bool} {P : Nat → Nat → Nat} {K0 : ms → Prop} {K1 : Int32 → ms → Prop} {K2 : Int32 → cs → Prop} {T2 : Nat → cs → Prop} {G : Prop}
theorem y_two (hq : rq S F) (h1 : p_nextTwo S K1) (h2 : p_Re_readTwo UL 60 (F, L, PC a b P) K2 T2)
    (ok : ∀ (w : Nat) M' F', fuR S M' → fuC F F' → rq M' F' → (M'.1 34).toInt = (S.1 34).toInt + 2 → w ≤ 65535 → K1 (nI w) M' → K2 (nI w) (F', L, PC a b P) → G)
    (bad : ∀ v M' F', flt M' → K1 v M' → T2 13 (F', L, PC a b P) → G) : G := by
  unfold p_nextTwo at h1
  unfold p_Re_readTwo at h2
  refine x_read hq.1 h1 h2 (fun v M1 F1 a1 a2 a3 a4 a5 a6 a7 h1 h2 => ?_) (fun v M1 F1 b1 b2 b3 h1 h2 => ?_)
  · have st := rq_s hq a1 a2 a4 a5 a6
    have bv := hq.2.2.2.1 (S.1 34).toNatClampNeg
    rw [← a7] at bv
    obtain ⟨x, rfl, hx⟩ := b16 bv
    refine x_read (S := (M1.1, M1.2.1, M1.2.2)) a6 h1 h2 (fun z M2 F2 c1 c2 c3 c4 c5 c6 c7 h1 h2 => ?_) (fun z M2 F2 d1 d2 d3 h1 h2 => bad _ M2 F2 d1 h1 h2)
    have st2 := rq_s (S := (M1.1, M1.2.1, M1.2.2)) st.1 c1 c2 c4 c5 c6
    have bz : B 0 255 z := by
      have t := st.1.2.2.2.1 (M1.1 34).toNatClampNeg
      rw [show z = _ from c7]
      exact t
    obtain ⟨y, rfl, hy⟩ := b16 bz
    have e : ((256 * nI x) + nI y : Int32) = nI (256 * x + y) := by rw [show (256 * nI x : Int32) = nI (256 * x) from pk_mul 256 x, nI_add]
    rw [e] at h1 h2
    refine ok (256 * x + y) M2 F2 (ag_tr a1 c1 rfl rfl) (agc_tr a5 c5 rfl rfl) st2.1 ?_ (by omega) h1 h2
    have t1 := st.2.1
    have t2 : (M2.1 34).toInt = (M1.1 34).toInt + 1 := st2.2.1
    omega
  · exact f_p_next h1 b1 (fun z M2 hk hf => bad _ _ F1 hf hk h2)
theorem y_side (hq : rq S F) (h1 : p_nextTwo S K1) (h2 : p_Un_readSide UL 59 (F, L, PC a b P) K2 T2)
    (ok : ∀ (w : Nat) M' F', fuR S M' → fuC F F' → rq M' F' → (S.1 34).toInt ≤ (M'.1 34).toInt → 1 ≤ w → w ≤ 64 → K1 (nI w) M' → K2 (nI w) (F', L, PC a b P) → G)
    (out : ∀ (w : Nat) M' F', M'.1 35 = 0 → w ≤ 65535 → ¬ (1 ≤ w ∧ w ≤ 64) → K1 (nI w) M' → T2 13 (F', L, PC a b P) → G)
    (bad : ∀ v M' F', flt M' → K1 v M' → T2 13 (F', L, PC a b P) → G) : G := by
  unfold p_Un_readSide b_Un_readSide_35 at h2
  obtain ⟨-, -, h2⟩ := h2
  have h2 : p_Re_readTwo UL 60 (F, L, PC a b P) _ T2 := h2
  refine y_two hq h1 h2 (fun w M' F' a1 a2 a3 a4 a5 h1 h2 => ?_) bad
  have o1 : (1 : Int32).toInt = 1 := by decide
  have o64 : (64 : Int32).toInt = 64 := by decide
  rcases q_isWithin h2 with ⟨i1, i2, h2⟩ | ⟨i1, h2⟩
  · rw [o1, nI_toInt (by omega)] at i1
    rw [o64, nI_toInt (by omega)] at i2
    exact ok w M' F' a1 a2 a3 (by omega) (by omega) (by omega) h1 (h2.1 (by decide))
  · rw [o1, o64, nI_toInt (by omega)] at i1
    obtain ⟨-, -, -, h2⟩ := h2.2 rfl
    have h2 : p_Re_fail UL 60 _ _ (F', L, PC a b P) _ T2 := h2
    obtain ⟨F2, -, -, h2⟩ := q_Rfail h2
    exact out w M' F2 a3.1.1 a5 (by omega) h1 h2
theorem q_41 {w : Nat} (hw : w ≤ 65535) (h : b_readFrame_41 (nI w) S K0) : ∃ s : Int32, ((s = 1 ∧ 1 ≤ w ∧ w ≤ 64) ∨ (s = 0 ∧ ¬ (1 ≤ w ∧ w ≤ 64))) ∧ b_readFrame_58 (nI w) s S K0 := by
  unfold b_readFrame_41 b_readFrame_57 at h
  by_cases w0 : w = 0
  · exact ⟨0, Or.inr ⟨rfl, by omega⟩, h.1 (by rw [w0]; decide)⟩
  · have h := h.2 (nI_nle (by omega) (by omega))
    by_cases w65 : 65 ≤ w
    · exact ⟨0, Or.inr ⟨rfl, by omega⟩, h.1 (nI_le (a := 65) w65 (by omega))⟩
    · exact ⟨1, Or.inl ⟨rfl, by omega, by omega⟩, h.2 (nI_ge (b := 65) (by omega) (by decide))⟩
theorem q_82 {w : Nat} {x2 : Int32} (hw : w ≤ 65535) (h : b_readFrame_82 x2 (nI w) S K0) : ∃ s : Int32, ((s = 1 ∧ 1 ≤ w ∧ w ≤ 64) ∨ (s = 0 ∧ ¬ (1 ≤ w ∧ w ≤ 64))) ∧ b_readFrame_99 x2 (nI w) s S K0 := by
  unfold b_readFrame_82 b_readFrame_98 at h
  by_cases w0 : w = 0
  · exact ⟨0, Or.inr ⟨rfl, by omega⟩, h.1 (by rw [w0]; decide)⟩
  · have h := h.2 (nI_nle (by omega) (by omega))
    by_cases w65 : 65 ≤ w
    · exact ⟨0, Or.inr ⟨rfl, by omega⟩, h.1 (nI_le (a := 65) w65 (by omega))⟩
    · exact ⟨1, Or.inl ⟨rfl, by omega, by omega⟩, h.2 (nI_ge (b := 65) (by omega) (by decide))⟩
end TWO
/-- what reading a frame leaves alone on the class's side -/
def ffC (u : Nat) (F G : cF) : Prop := (∀ w, OB w = false → ¬ (u + 1 ≤ w ∧ w ≤ u + 7) → w ≠ 101 → w ≠ 102 → w ≠ 103 → G w = F w) ∧ (∀ w k, OB w = true → w ≠ 60 → w ≠ u → k < 100 → (w = 59 → k ≠ 6) → G w k = F w k)
theorem ff_fz {u : Nat} {F G : cF} (h : fzC u F G) : ffC u F G := ⟨fun w o h1 h2 h3 h4 => h.1 w o (by omega) (by omega) h2 h3 h4, fun w k o h1 h2 h3 _ => h.2.1 w k o h1 h2 h3⟩
theorem ff_tr {u : Nat} {F G H : cF} (h : ffC u F G) (h' : ffC u G H) : ffC u F H := ⟨fun w o a1 a2 a3 a4 => (h'.1 w o a1 a2 a3 a4).trans (h.1 w o a1 a2 a3 a4), fun w k o a1 a2 a3 a4 => (h'.2 w k o a1 a2 a3 a4).trans (h.2 w k o a1 a2 a3 a4)⟩
section FRAME
variable {S : ms} {F : cF} {L : cL} {a b : Bool} {P : Nat → Nat → Nat} {K0 : ms → Prop} {KC : cs → Prop} {T2 : Nat → cs → Prop} {G : Prop} {u : Nat}
/-- the layers, and what comes behind them -/
theorem y_layers {n W H : Nat} (hu : isU u) (hpu : PC a b P 59 1 = u) (hn : n = 1 ∨ n = 3) (hW : 1 ≤ W ∧ W ≤ 64) (hH : 1 ≤ H ∧ H ≤ 64)
    (bK : ∀ M' F', K0 M' → flt M' → T2 13 (F', L, PC a b P) → G) :
    ∀ d q (S : ms) (F : cF) (A D tt : Nat → Nat), n - q = d → q ≤ n → rq S F → frL u q A D tt S F → F u 0 = nI W → F u 1 = nI H → F u 2 = nI n → F u 16 = 0 → (∀ k, k < 12288 → F (u + 7) k = 0) → e_readFrame_192 (nI H) (nI W) (nI n) (nI q) S K0 → e_Un_readFrame_83 UL 59 (nI n) (nI q) (F, L, PC a b P) KC T2 →
    (∀ M' F' A D tt, ag [10, 34, 35, 43] [12, 13, 14, 15, 16, 17, 18, 19, 44, 45] S M' → (∀ r k, (r = 12 ∨ r = 13 ∨ r = 14) → k < 2 → M'.2.1 r k = S.2.1 r k) → (∀ r k, (r = 15 ∨ r = 16 ∨ r = 17 ∨ r = 18) → k < 6 → M'.2.1 r k = S.2.1 r k) → (∀ k, k < 24576 → M'.2.1 19 k = S.2.1 19 k) → (S.1 34).toInt ≤ (M'.1 34).toInt → rq M' F' → M'.1 43 = 1 → F' 59 6 = 1 → gR 2 M' n W H A D → gG2 2 M' n W H A D → gC u F' n W H A D → gM u F' n W H A D → frL u n A D tt M' F' → rLw u M' F' → F' u 16 = 0 → ffC u F F' → K0 M' → KC (F', L, PC a b P) → G) → G := by
  intro d
  have uu : u ≠ 59 ∧ u ≠ 60 ∧ u ≠ 61 ∧ u ≠ 62 ∧ u ≠ 101 ∧ u ≠ 102 ∧ u ≠ 103 := by rcases hu with rfl | rfl <;> decide
  have ou : OB u = true ∧ OB (u + 1) = false ∧ OB (u + 2) = false ∧ OB (u + 7) = false ∧ OB (u + 3) = false ∧ OB (u + 4) = false ∧ OB (u + 5) = false ∧ OB (u + 6) = false := by rcases hu with rfl | rfl <;> exact ⟨rfl, rfl, rfl, rfl, rfl, rfl, rfl, rfl⟩
  induction d with
  | zero =>
    intro q S F A D tt hd hqn hq hf f0 f1 f2 f16 f7 h1 h2 ok
    obtain rfl : q = n := by omega
    have h1 := r_e_readFrame_192 h1
    unfold b_readFrame_192 b_readFrame_426 b_readFrame_465 at h1
    obtain ⟨-, -, -, h1⟩ := (h1.1 (Int32.le_refl _)).2 hq.1.1
    have h2 := r_e_Un_readFrame_83 h2
    unfold b_Un_readFrame_83 at h2
    obtain ⟨-, -, h2⟩ := h2.1 (Int32.le_refl _)
    have h2 : p_Pi_measure UL (PC a b P 59 1) (F, L, PC a b P) (fun S105 => KC (va_up S105.1 59 (upd (S105.1 59) 6 1), S105.2.1, S105.2.2)) := h2
    rw [hpu] at h2
    have gc : gC u F q W H A D := ⟨f0, f1, f2, hf.1, hf.2.1, hn, hW, hH, fun l hl => ⟨(hf.2.2.2 l hl).2.1, (hf.2.2.2 l hl).2.2.1, (hf.2.2.2 l hl).2.2.2.2.2.1, (hf.2.2.2 l hl).2.2.2.2.2.2.1⟩⟩
    obtain ⟨Z, z1, z2, z3, h2⟩ := q_Pmeasure (isU_p hu) gc h2
    have c2 : (2 : Int32).toNatClampNeg = 2 := rfl
    rw [c2] at h1
    generalize hX : ((upd S.1 43 1, va_up (va_up (va_up S.2.1 12 (upd (S.2.1 12) 2 (nI W))) 13 (upd ((va_up S.2.1 12 (upd (S.2.1 12) 2 (nI W))) 13) 2 (nI H))) 14 (upd ((va_up (va_up S.2.1 12 (upd (S.2.1 12) 2 (nI W))) 13 (upd ((va_up S.2.1 12 (upd (S.2.1 12) 2 (nI W))) 13) 2 (nI H))) 14) 2 (nI q)), S.2.2) : ms) = X at h1
    have x12 : X.2.1 12 = upd (S.2.1 12) 2 (nI W) := by rw [← hX]; dsimp only; rw [vu_ne (show (12 : Nat) ≠ 14 by decide), vu_ne (show (12 : Nat) ≠ 13 by decide), vu_at]
    have x13 : X.2.1 13 = upd (S.2.1 13) 2 (nI H) := by rw [← hX]; dsimp only; rw [vu_ne (show (13 : Nat) ≠ 14 by decide), vu_at, vu_ne (show (13 : Nat) ≠ 12 by decide)]
    have x14 : X.2.1 14 = upd (S.2.1 14) 2 (nI q) := by rw [← hX]; dsimp only; rw [vu_at, vu_ne (show (14 : Nat) ≠ 13 by decide), vu_ne (show (14 : Nat) ≠ 12 by decide)]
    have xk : ∀ r, r ≠ 12 → r ≠ 13 → r ≠ 14 → X.2.1 r = S.2.1 r := fun r h1 h2 h3 => by rw [← hX]; dsimp only; rw [vu_ne h3, vu_ne h2, vu_ne h1]
    have x1 : X.1 = upd S.1 43 1 := by rw [← hX]
    have gr : gR 2 X q W H A D := by
      refine ⟨by rw [x12, upd_at], by rw [x13, upd_at], by rw [x14, upd_at], hn, hW, hH, fun l hl => ?_⟩
      rw [xk 15 (by decide) (by decide) (by decide), xk 16 (by decide) (by decide) (by decide)]
      exact ⟨(hf.2.2.2 l hl).2.2.2.1, (hf.2.2.2 l hl).2.2.2.2.1, (hf.2.2.2 l hl).2.2.2.2.2.1, (hf.2.2.2 l hl).2.2.2.2.2.2.1⟩
    obtain ⟨Y, y1, y2, y3, y4, h1⟩ := q_makeGrids (q := 2) (by decide) gr h1
    have aX : ag [10, 34, 35, 43] [12, 13, 14, 15, 16, 17, 18, 19, 44, 45] S X := by
      rw [← hX]
      exact ag_r (T := (upd S.1 43 1, va_up (va_up S.2.1 12 (upd (S.2.1 12) 2 (nI W))) 13 (upd ((va_up S.2.1 12 (upd (S.2.1 12) 2 (nI W))) 13) 2 (nI H)), S.2.2)) (ag_r (T := (upd S.1 43 1, va_up S.2.1 12 (upd (S.2.1 12) 2 (nI W)), S.2.2)) (ag_r (T := (upd S.1 43 1, S.2.1, S.2.2)) (ag_f ag_refl rfl) rfl) rfl) rfl
    have aY : ag [10, 34, 35, 43] [12, 13, 14, 15, 16, 17, 18, 19, 44, 45] S Y := ag_tr aX y1 rfl rfl
    have zz : ∀ w, w ≠ u → ¬ (u + 3 ≤ w ∧ w ≤ u + 6) → Z w = F w := fun w h1 h2 => z1 w h1 (by omega) (by omega) (by omega) (by omega)
    have rqY : rq Y (va_up Z 59 (upd (Z 59) 6 1)) := by
      obtain ⟨r1, r2, r3, r4, r5⟩ := hq
      have e6 : Y.2.1 6 = S.2.1 6 := aY.2 6 rfl
      have e22 : Y.2.1 22 = S.2.1 22 := aY.2 22 rfl
      have yf : ∀ k, k ≠ 43 → Y.1 k = S.1 k := fun k hk => by rw [y1.1 k rfl, x1, upd_ne hk]
      have z60 : Z 60 = F 60 := zz 60 (Ne.symm uu.2.1) (by rcases hu with rfl | rfl <;> decide)
      have z61 : Z 61 = F 61 := zz 61 (Ne.symm uu.2.2.1) (by rcases hu with rfl | rfl <;> decide)
      have z62 : Z 62 = F 62 := zz 62 (Ne.symm uu.2.2.2.1) (by rcases hu with rfl | rfl <;> decide)
      have z59 : Z 59 = F 59 := zz 59 (Ne.symm uu.1) (by rcases hu with rfl | rfl <;> decide)
      refine ⟨rd_b r1 (yf 35 (by decide)) (yf 34 (by decide)) (yf 7 (by decide)) e6 (by rw [vu_ne (by decide), z60]) (by rw [vu_ne (by decide), z61]) (by rw [vu_ne (by decide), z62]), rl_k r2 (yf 36 (by decide)) (yf 37 (by decide)) (by rw [vu_at, upd_ne (by decide), z59]) (by rw [vu_at, upd_ne (by decide), z59]), by unfold od; rw [e22]; exact r3, by unfold tBy; rw [e6]; exact r4, by unfold atI; rw [yf 34 (by decide), yf 7 (by decide)]; exact r5⟩
    have v59 : ∀ w, w ≠ 59 → va_up Z 59 (upd (Z 59) 6 1) w = Z w := fun w hw => vu_ne hw
    have gcZ : gC u (va_up Z 59 (upd (Z 59) 6 1)) q W H A D := gC_k gc (fun k hk => by rw [v59 u uu.1]; exact z2 k (by omega) (by omega)) (by rw [v59 (u + 1) (by rcases hu with rfl | rfl <;> decide)]; exact zz _ (by omega) (by omega)) (by rw [v59 (u + 2) (by rcases hu with rfl | rfl <;> decide)]; exact zz _ (by omega) (by omega))
    have gmZ : gM u (va_up Z 59 (upd (Z 59) 6 1)) q W H A D := gM_k z3 (by rw [v59 u uu.1]) (by rw [v59 u uu.1]) (v59 _ (by rcases hu with rfl | rfl <;> decide)) (v59 _ (by rcases hu with rfl | rfl <;> decide)) (v59 _ (by rcases hu with rfl | rfl <;> decide)) (v59 _ (by rcases hu with rfl | rfl <;> decide))
    have z7 : va_up Z 59 (upd (Z 59) 6 1) (u + 7) = F (u + 7) := by rw [v59 (u + 7) (by rcases hu with rfl | rfl <;> decide)]; exact zz _ (by omega) (by omega)
    have r44 : Y.2.1 44 = S.2.1 44 ∧ Y.2.1 45 = S.2.1 45 ∧ Y.2.1 15 = S.2.1 15 ∧ Y.2.1 16 = S.2.1 16 := ⟨by rw [y1.2 44 rfl, xk 44 (by decide) (by decide) (by decide)], by rw [y1.2 45 rfl, xk 45 (by decide) (by decide) (by decide)], by rw [y1.2 15 rfl, xk 15 (by decide) (by decide) (by decide)], by rw [y1.2 16 rfl, xk 16 (by decide) (by decide) (by decide)]⟩
    have zu : ∀ w, (w = 101 ∨ w = 102 ∨ w = 103 ∨ w = u + 1 ∨ w = u + 2) → va_up Z 59 (upd (Z 59) 6 1) w = F w := fun w hw => by
      rw [v59 w (by rcases hu with rfl | rfl <;> omega)]
      exact zz w (by rcases hu with rfl | rfl <;> omega) (by rcases hu with rfl | rfl <;> omega)
    refine ok Y (va_up Z 59 (upd (Z 59) 6 1)) A D tt aY ?_ ?_ ?_ ?_ rqY ?_ ?_ ?_ y2 gcZ gmZ ?_ ?_ ?_ ?_ h1 h2
    · intro r k hr hk
      rcases hr with rfl | rfl | rfl
      · rw [y1.2 12 rfl, x12, upd_ne (by omega)]
      · rw [y1.2 13 rfl, x13, upd_ne (by omega)]
      · rw [y1.2 14 rfl, x14, upd_ne (by omega)]
    · intro r k hr hk
      rcases hr with rfl | rfl | rfl | rfl
      · rw [r44.2.2.1]
      · rw [r44.2.2.2]
      · rw [y3 17 k (Or.inl rfl) (by omega), xk 17 (by decide) (by decide) (by decide)]
      · rw [y3 18 k (Or.inr rfl) (by omega), xk 18 (by decide) (by decide) (by decide)]
    · intro k hk
      rw [y4 k, if_neg (by omega), xk 19 (by decide) (by decide) (by decide)]
    · rw [y1.1 34 rfl, x1, upd_ne (by decide)]
      exact Int.le_refl _
    · rw [y1.1 43 rfl, x1, upd_at]
    · rw [vu_at, upd_at]
    · exact gR_k gr y1 rfl rfl rfl rfl rfl
    · unfold frL
      rw [r44.1, r44.2.1, r44.2.2.1, r44.2.2.2, zu 101 (Or.inl rfl), zu 102 (Or.inr (Or.inl rfl)), zu 103 (Or.inr (Or.inr (Or.inl rfl))), zu (u + 1) (Or.inr (Or.inr (Or.inr (Or.inl rfl)))), zu (u + 2) (Or.inr (Or.inr (Or.inr (Or.inr rfl)))), v59 u uu.1, z2 5 (by decide) (by decide), z2 6 (by decide) (by decide)]
      exact hf
    · intro k hk
      rw [z7, f7 k hk, y4 (24576 + k), if_pos (by omega)]
      exact ⟨rfl, by decide, by decide⟩
    · rw [v59 u uu.1, z2 16 (by decide) (by decide)]
      exact f16
    · refine ⟨fun w o h1 _ _ _ => ?_, fun w k o h1 h2 h3 h4 => ?_⟩
      · rw [v59 w (fun e => by rw [e] at o; exact absurd o (by decide))]
        exact zz w (fun e => by rw [e, ou.1] at o; exact absurd o (by decide)) (by omega)
      · have hz : Z w = F w := zz w h2 (fun e => by
          have : w = u + 3 ∨ w = u + 4 ∨ w = u + 5 ∨ w = u + 6 := by omega
          rcases this with e | e | e | e
          · rw [e, ou.2.2.2.2.1] at o; exact absurd o (by decide)
          · rw [e, ou.2.2.2.2.2.1] at o; exact absurd o (by decide)
          · rw [e, ou.2.2.2.2.2.2.1] at o; exact absurd o (by decide)
          · rw [e, ou.2.2.2.2.2.2.2] at o; exact absurd o (by decide))
        by_cases e : w = 59
        · subst e
          rw [vu_at, upd_ne (h4 rfl), hz]
        · rw [v59 w e, hz]
  | succ d ih =>
    intro q S F A D tt hd hqn hq hf f0 f1 f2 f16 f7 h1 h2 ok
    have qn : q < n := by omega
    have h1 := r_e_readFrame_192 h1
    unfold b_readFrame_192 at h1
    have h1 := (h1.2 (nI_ge qn (by omega))).2 hq.1.1
    have h2 := r_e_Un_readFrame_83 h2
    unfold b_Un_readFrame_83 at h2
    have h2 := h2.2 (nI_ge qn (by omega))
    refine y_layer hu hpu (by omega) hq hf (fun y2 y3 y4 y5 M' F' hk hf ht => f_e_readFrame_192 hk hf (fun M' hk hf => bK M' F' hk hf ht)) bK h1 h2 (fun M1 F1 A' D' tt' c1 c2 c3 c4 c5 c6 h1 h2 => ?_)
    rw [nI_1] at h1 h2
    have u100 : ∀ k, k ≠ 5 → k ≠ 6 → k < 100 → F1 u k = F u k := c3.2.2
    refine ih (q + 1) M1 F1 A' D' tt' (by omega) (by omega) c5 c6 ((u100 0 (by decide) (by decide) (by decide)).trans f0) ((u100 1 (by decide) (by decide) (by decide)).trans f1) ((u100 2 (by decide) (by decide) (by decide)).trans f2) ((u100 16 (by decide) (by decide) (by decide)).trans f16) (fun k hk => by rw [c3.1 (u + 7) ou.2.2.2.1 (by omega) (by omega) (by rcases hu with rfl | rfl <;> decide) (by rcases hu with rfl | rfl <;> decide) (by rcases hu with rfl | rfl <;> decide)]; exact f7 k hk) h1 h2 (fun M' F' A'' D'' tt'' e1 e2 e3 e4 e5 e6 e7 e8 e9 e10 e11 e12 e13 e14 e15 e16 h1 h2 => ok M' F' A'' D'' tt'' (ag_tr (ag_tr (ag_refl (fs := [10, 34, 35, 43]) (rs := [12, 13, 14, 15, 16, 17, 18, 19, 44, 45])) c1 rfl rfl) e1 rfl rfl) ?_ ?_ ?_ (by omega) e6 e7 e8 e9 e10 e11 e12 e13 e14 e15 (ff_tr (ff_fz c3) e16) h1 h2)
    · intro r k hr hk
      rw [e2 r k hr hk]
      rcases hr with rfl | rfl | rfl
      · rw [c1.2 12 rfl]
      · rw [c1.2 13 rfl]
      · rw [c1.2 14 rfl]
    · intro r k hr hk
      rw [e3 r k hr hk]
      rcases hr with rfl | rfl | rfl | rfl
      · exact (c2 k hk).1
      · exact (c2 k hk).2
      · rw [c1.2 17 rfl]
      · rw [c1.2 18 rfl]
    · intro k hk
      rw [e4 k hk, c1.2 19 rfl]
end FRAME

/-! UNPACK: a frame, all of it -/
theorem i_sub {x y z : Int32} (h : x + y = z) : z - x = y := by
  rw [← h, Int32.add_comm]
  exact Int32.add_sub_cancel y x
/-- a frame has been read on both sides -/
def frD (u n W H : Nat) (A D tt : Nat → Nat) (M : ms) (F : cF) : Prop := M.1 43 = 1 ∧ F 59 6 = 1 ∧ gR 2 M n W H A D ∧ gG2 2 M n W H A D ∧ gC u F n W H A D ∧ gM u F n W H A D ∧ frL u n A D tt M F ∧ rLw u M F ∧ F u 16 = 0
section FRM
variable {S : ms} {F : cF} {L : cL} {a b : Bool} {P : Nat → Nat → Nat} {K0 : ms → Prop} {KC : cs → Prop} {T2 : Nat → cs → Prop} {G : Prop} {u : Nat}
theorem y_frame (hu : isU u) (hpu : PC a b P 59 1 = u) (hq : rq S F) (h1 : p_readFrame S K0) (h2 : p_Un_readFrame UL 59 (F, L, PC a b P) KC T2)
    (bad : ∀ M' F', K0 M' → flt M' → T2 13 (F', L, PC a b P) → G)
    (ok : ∀ M' F' n W H A D tt, ag [10, 34, 35, 43] [12, 13, 14, 15, 16, 17, 18, 19, 44, 45] S M' → (∀ r k, (r = 12 ∨ r = 13 ∨ r = 14) → k < 2 → M'.2.1 r k = S.2.1 r k) → (∀ r k, (r = 15 ∨ r = 16 ∨ r = 17 ∨ r = 18) → k < 6 → M'.2.1 r k = S.2.1 r k) → (∀ k, k < 24576 → M'.2.1 19 k = S.2.1 19 k) → (S.1 34).toInt ≤ (M'.1 34).toInt → rq M' F' → frD u n W H A D tt M' F' → ffC u F F' → K0 M' → KC (F', L, PC a b P) → G) : G := by
  unfold p_readFrame at h1
  unfold p_Un_readFrame at h2
  have f17 : ∀ (s : Int32) (M1 : ms) (F1 : cF), b_readFrame_17 s M1 K0 → flt M1 → T2 13 (F1, L, PC a b P) → G := fun s M1 F1 h hf ht => f_b_readFrame_17 h hf (fun M' hk hf => bad M' F1 hk hf ht)
  have f41 : ∀ (s : Int32) (M1 : ms) (F1 : cF), b_readFrame_41 s M1 K0 → flt M1 → T2 13 (F1, L, PC a b P) → G := fun s M1 F1 h hf ht => f_b_readFrame_41 h hf (fun M' hk hf => bad M' F1 hk hf ht)
  have f82 : ∀ (x s : Int32) (M1 : ms) (F1 : cF), b_readFrame_82 x s M1 K0 → flt M1 → T2 13 (F1, L, PC a b P) → G := fun x s M1 F1 h hf ht => f_b_readFrame_82 h hf (fun M' hk hf => bad M' F1 hk hf ht)
  have f123 : ∀ (x y s : Int32) (M1 : ms) (F1 : cF), b_readFrame_123 x y s M1 K0 → flt M1 → T2 13 (F1, L, PC a b P) → G := fun x y s M1 F1 h hf ht => f_b_readFrame_123 h hf (fun M' hk hf => bad M' F1 hk hf ht)
  have f189 : ∀ (x y s : Int32) (M1 : ms) (F1 : cF), b_readFrame_189 x y s M1 K0 → flt M1 → T2 13 (F1, L, PC a b P) → G := fun x y s M1 F1 h hf ht => f_b_readFrame_189 h hf (fun M' hk hf => bad M' F1 hk hf ht)
  have z8 : (8 : Int32).toInt = 8 := by decide
  have z1 : (1 : Int32).toInt = 1 := by decide
  have z3 : (3 : Int32).toInt = 3 := by decide
  refine x_readW hq.1 h1 h2 (fun v M1 F1 a1 a2 a3 a4 a5 a6 a7 i1 i2 h1 h2 => ?_) (fun v M1 F1 a1 a3 a7 i1 h1 h2 => ?_) (fun v M1 F1 f1 h1 h2 => dt_n h1 (fun _ h1 => f17 _ _ F1 h1 f1 h2) (fun _ h1 => f17 _ _ F1 h1 f1 h2))
  · have e8 : v = 8 := Int32.toInt.inj (by omega)
    have h1 := h1.2 e8
    unfold b_readFrame_17 at h1
    have h1 := (q_must1 (by decide) h1).2 a3
    have st := rq_s hq a1 a2 a4 a5 a6
    refine y_side (S := (M1.1, M1.2.1, M1.2.2)) st.1 h1 h2 (fun hh M2 F2 b1 b2 b3 b4 b5 b6 h1 h2 => ?_) (fun w M2 F2 b1 b2 b3 h1 h2 => ?_) (fun v M2 F2 f1 h1 h2 => f41 _ _ F2 h1 f1 h2)
    · obtain ⟨s, hs, h1⟩ := q_41 (by omega) h1
      have s1 : s = 1 := by
        rcases hs with ⟨e, -⟩ | ⟨-, e⟩
        · exact e
        · exact absurd ⟨b5, b6⟩ e
      subst s1
      unfold b_readFrame_58 at h1
      have h1 := (q_must1 (by decide) h1).2 b3.1.1
      refine y_side (S := (M2.1, M2.2.1, M2.2.2)) b3 h1 h2 (fun ww M3 F3 c1 c2 c3 c4 c5 c6 h1 h2 => ?_) (fun w M3 F3 c1 c2 c3 h1 h2 => ?_) (fun v M3 F3 f1 h1 h2 => f82 _ _ _ F3 h1 f1 h2)
      · obtain ⟨s, hs, h1⟩ := q_82 (by omega) h1
        have s1 : s = 1 := by
          rcases hs with ⟨e, -⟩ | ⟨-, e⟩
          · exact e
          · exact absurd ⟨c5, c6⟩ e
        subst s1
        unfold b_readFrame_99 at h1
        have h1 := (q_must1 (by decide) h1).2 c3.1.1
        refine x_readW (S := (M3.1, M3.2.1, M3.2.2)) c3.1 h1 h2 (fun v M4 F4 d1 d2 d3 d4 d5 d6 d7 i1 i2 h1 h2 => ?_) (fun v M4 F4 d1 d3 d7 i1 h1 h2 => ?_) (fun v M4 F4 f1 h1 h2 => f123 _ _ _ _ F4 h1 f1 h2)
        · have st4 := rq_s (S := (M3.1, M3.2.1, M3.2.2)) c3 d1 d2 d4 d5 d6
          rw [z1] at i1
          rw [z3] at i2
          obtain ⟨n, rfl, hn1, hn3⟩ : ∃ n : Nat, v = nI n ∧ 1 ≤ n ∧ n ≤ 3 := ⟨v.toInt.toNat, nI_i (by omega), by omega, by omega⟩
          unfold b_readFrame_123 b_readFrame_138 at h1
          by_cases n2 : n = 2
          · subst n2
            have h1 := (h1.2 (by decide)).1 (by decide)
            unfold b_readFrame_143 at h1
            obtain ⟨Y, hf, h1⟩ := q_must0 (S := M4) d3 h1
            obtain ⟨-, -, -, h2⟩ := h2.2 rfl
            have h2 : p_Re_fail UL 60 _ _ (F4, L, PC a b P) _ T2 := h2
            obtain ⟨F5, -, -, h2⟩ := q_Rfail h2
            exact f189 _ _ _ _ F5 (h1.1 (flt_n hf)) hf h2
          · have hn : n = 1 ∨ n = 3 := by omega
            have h1 : b_readFrame_143 (nI hh) (nI ww) (nI n) 1 M4 K0 := by
              rcases hn with rfl | rfl
              · exact h1.1 rfl
              · exact (h1.2 (by decide)).2 rfl
            unfold b_readFrame_143 at h1
            have h1 := (q_must1 (by decide) h1).2 d3
            have h2 := h2.1 (fun q => n2 ((nI_eq (a := n) (b := 2) (by omega) (by decide)).mp q))
            unfold b_Un_readFrame_48 at h2
            have h2 : (¬ F4 59 13 = (8 + (3 * nI n)) → b_Un_readFrame_67 UL 59 (nI hh) (nI ww) (nI n) 0 (F4, L, PC a b P) KC T2) ∧ (F4 59 13 = (8 + (3 * nI n)) → b_Un_readFrame_67 UL 59 (nI hh) (nI ww) (nI n) 1 (F4, L, PC a b P) KC T2) := h2
            have el : M4.1 36 - M4.1 37 = F4 59 13 := by
              rw [← st4.1.2.1.1]
              exact i_sub st4.1.2.1.2
            have h1 : (M4.1 36 - M4.1 37 = (8 + (3 * nI n)) → b_readFrame_189 (nI hh) (nI ww) (nI n) M4 K0) ∧ (¬ M4.1 36 - M4.1 37 = (8 + (3 * nI n)) → _) := h1
            rw [el] at h1
            by_cases len : F4 59 13 = (8 + (3 * nI n) : Int32)
            · have h1 := h1.1 len
              have h2 := h2.2 len
              unfold b_readFrame_189 at h1
              unfold b_Un_readFrame_67 at h2
              have h2 := q_wantLen1 (by decide) h2
              obtain ⟨-, -, h2⟩ := h2
              have h2 : p_Pi_begin UL (PC a b P 59 1) (nI ww) (nI hh) (nI n) (F4, L, PC a b P) (fun S77 => e_Un_readFrame_83 UL 59 (nI n) 0 S77 KC T2) := h2
              rw [hpu] at h2
              obtain ⟨Z, y1, y2, y3, h2⟩ := q_Pbegin (isU_p hu) h2
              have uu : u ≠ 59 ∧ u ≠ 60 ∧ u ≠ 61 ∧ u ≠ 62 ∧ u + 7 ≠ 59 ∧ u + 7 ≠ 60 ∧ u + 7 ≠ 61 ∧ u + 7 ≠ 62 := by rcases hu with rfl | rfl <;> decide
              obtain ⟨w1, w2, w3, w4, w5, w6, w7, w8⟩ := uu
              have ou : OB u = true ∧ OB (u + 7) = false := by rcases hu with rfl | rfl <;> exact ⟨rfl, rfl⟩
              have qZ : rq M4 Z := rq_w st4.1 (y1 59 (Ne.symm w1) (Ne.symm w5)) (y1 60 (Ne.symm w2) (Ne.symm w6)) (y1 61 (Ne.symm w3) (Ne.symm w7)) (y1 62 (Ne.symm w4) (Ne.symm w8))
              have fl0 : frL u 0 (fun _ => 1) (fun _ => 1) (fun _ => 0) M4 Z := by
                refine ⟨?_, ?_, fun i j hi => absurd hi (Nat.not_lt_zero _), fun l hl => absurd hl (Nat.not_lt_zero _)⟩
                · rw [y2, upd_ne (by decide), upd_ne (by decide), upd_at]; rfl
                · rw [y2, upd_ne (by decide), upd_at]; rfl
              have ffZ : ffC u F Z := by
                have g4 : ffC u F F4 := ff_tr (ff_tr (ff_tr (ff_fz (fz_fu hu a5)) (ff_fz (fz_fu hu b2))) (ff_fz (fz_fu hu c2))) (ff_fz (fz_fu hu d5))
                refine ff_tr g4 ⟨fun w o h1 _ _ _ => y1 w (fun e => by rw [e, ou.1] at o; exact absurd o (by decide)) (by omega), fun w k o _ h2 _ _ => ?_⟩
                rw [y1 w h2 (fun e => by rw [e, ou.2] at o; exact absurd o (by decide))]
              have aS : ag [10, 34, 35] [] S M4 := ag_tr (ag_tr (ag_tr a1 b1 rfl rfl) c1 rfl rfl) d1 rfl rfl
              refine y_layers hu hpu hn ⟨c5, c6⟩ ⟨b5, b6⟩ bad n 0 M4 Z (fun _ => 1) (fun _ => 1) (fun _ => 0) rfl (Nat.zero_le _) qZ fl0 ?_ ?_ ?_ ?_ y3 h1 h2 (fun M' F' A D tt e1 e2 e3 e4 e5 e6 e7 e8 e9 e10 e11 e12 e13 e14 e15 e16 h1 h2 => ok M' F' n ww hh A D tt (ag_tr (ag_tr (ag_refl (fs := [10, 34, 35, 43]) (rs := [12, 13, 14, 15, 16, 17, 18, 19, 44, 45])) aS rfl rfl) e1 rfl rfl) (fun r k hr hk => (e2 r k hr hk).trans ?_) (fun r k hr hk => (e3 r k hr hk).trans ?_) (fun k hk => (e4 k hk).trans ?_) ?_ e6 ⟨e7, e8, e9, e10, e11, e12, e13, e14, e15⟩ (ff_tr ffZ e16) h1 h2)
              · rw [y2, upd_ne (by decide), upd_ne (by decide), upd_ne (by decide), upd_ne (by decide), upd_ne (by decide), upd_at]
              · rw [y2, upd_ne (by decide), upd_ne (by decide), upd_ne (by decide), upd_ne (by decide), upd_at]
              · rw [y2, upd_ne (by decide), upd_ne (by decide), upd_ne (by decide), upd_at]
              · rw [y2, upd_at]
              · rw [aS.2 r rfl]
              · rw [aS.2 r rfl]
              · rw [aS.2 19 rfl]
              · have t1 := st.2.1
                have t2 : (M1.1 34).toInt ≤ (M2.1 34).toInt := b4
                have t3 : (M2.1 34).toInt ≤ (M3.1 34).toInt := c4
                have t4 : (M4.1 34).toInt = (M3.1 34).toInt + 1 := st4.2.1
                omega
            · obtain ⟨Y, hf, h1⟩ := q_fail1 (by decide) d3 (h1.2 len)
              have h2 := h2.1 len
              unfold b_Un_readFrame_67 at h2
              obtain ⟨F5, h2⟩ := q_wantLen0 h2
              exact f189 _ _ _ _ F5 h1 hf h2
        · rw [z1, z3] at i1
          have tb : B 0 255 v := by
            have t := c3.2.2.2.1 (M3.1 34).toNatClampNeg
            rw [show v = _ from d7]
            exact t
          obtain ⟨n, rfl, hn⟩ := b16 tb
          rw [nI_toInt (by omega)] at i1
          unfold b_readFrame_123 at h1
          have h1 := (h1.2 (fun q => by have := (nI_eq (a := n) (b := 1) (by omega) (by decide)).mp q; omega)).1 (fun q => by have := (nI_eq (a := n) (b := 3) (by omega) (by decide)).mp q; omega)
          unfold b_readFrame_143 at h1
          obtain ⟨Y, hf, h1⟩ := q_must0 (S := M4) d3 h1
          exact f189 _ _ _ _ F4 (h1.1 (flt_n hf)) hf h2
      · obtain ⟨s, hs, h1⟩ := q_82 c2 h1
        have s0 : s = 0 := by
          rcases hs with ⟨-, e⟩ | ⟨e, -⟩
          · exact absurd e c3
          · exact e
        subst s0
        unfold b_readFrame_99 at h1
        obtain ⟨Y, hf, h1⟩ := q_must0 (S := M3) c1 h1
        exact f123 _ _ _ _ F3 (h1.1 (flt_n hf)) hf h2
    · obtain ⟨s, hs, h1⟩ := q_41 b2 h1
      have s0 : s = 0 := by
        rcases hs with ⟨-, e⟩ | ⟨e, -⟩
        · exact absurd e b3
        · exact e
      subst s0
      unfold b_readFrame_58 at h1
      obtain ⟨Y, hf, h1⟩ := q_must0 (S := M2) b1 h1
      exact f82 _ _ _ F2 (h1.1 (flt_n hf)) hf h2
  · have h1 := h1.1 (fun e => by rw [e, z8] at i1; omega)
    unfold b_readFrame_17 at h1
    obtain ⟨Y, hf, h1⟩ := q_must0 (S := M1) a3 h1
    exact f41 _ _ F1 (h1.1 (flt_n hf)) hf h2
end FRM
/-! the class alone: it reads, or it fails -/
section CR
variable {F : cF} {L : cL} {a b : Bool} {P : Nat → Nat → Nat} {K2 : Int32 → cs → Prop} {KC : cs → Prop} {T2 : Nat → cs → Prop} {lo hi : Int32}
theorem q_cr (h : p_Re_read UL 60 (F, L, PC a b P) K2 T2) : (∃ v F', fuC F F' ∧ K2 v (F', L, PC a b P)) ∨ ∃ F', T2 13 (F', L, PC a b P) := by
  unfold p_Re_read at h
  obtain ⟨-, -, h⟩ := h
  refine dt_p h (fun _ h => ?_) (fun _ h => ?_)
  · obtain ⟨-, -, -, -, h⟩ := h
    exact Or.inl ⟨_, _, agc_f agc_refl rfl rfl, h⟩
  · exact Or.inr ⟨_, h.2⟩
theorem q_crW (h : p_Un_readWithin UL 59 lo hi (F, L, PC a b P) K2 T2) : (∃ v F', fuC F F' ∧ lo.toInt ≤ v.toInt ∧ v.toInt ≤ hi.toInt ∧ K2 v (F', L, PC a b P)) ∨ ∃ F', T2 13 (F', L, PC a b P) := by
  unfold p_Un_readWithin b_Un_readWithin_34 at h
  obtain ⟨-, -, h⟩ := h
  have h : p_Re_read UL 60 (F, L, PC a b P) _ T2 := h
  rcases q_cr h with ⟨v, F', g, h⟩ | h
  · rcases q_isWithin h with ⟨i1, i2, h⟩ | ⟨i1, h⟩
    · exact Or.inl ⟨v, F', g, i1, i2, h.1 (by decide)⟩
    · obtain ⟨-, -, -, h⟩ := h.2 rfl
      have h : p_Re_fail UL 60 _ _ (F', L, PC a b P) _ T2 := h
      obtain ⟨F2, -, -, h⟩ := q_Rfail h
      exact Or.inr ⟨F2, h⟩
  · exact Or.inr h
theorem q_crS (h : p_Un_readSide UL 59 (F, L, PC a b P) K2 T2) : (∃ v F', fuC F F' ∧ K2 v (F', L, PC a b P)) ∨ ∃ F', T2 13 (F', L, PC a b P) := by
  unfold p_Un_readSide b_Un_readSide_35 at h
  obtain ⟨-, -, h⟩ := h
  have h : p_Re_readTwo UL 60 (F, L, PC a b P) _ T2 := h
  unfold p_Re_readTwo at h
  rcases q_cr h with ⟨v, F1, g1, h⟩ | h
  · rcases q_cr h with ⟨w, F2, g2, h⟩ | h
    · rcases q_isWithin h with ⟨i1, i2, h⟩ | ⟨i1, h⟩
      · exact Or.inl ⟨_, F2, agc_tr g1 g2 rfl rfl, h.1 (by decide)⟩
      · obtain ⟨-, -, -, h⟩ := h.2 rfl
        have h : p_Re_fail UL 60 _ _ (F2, L, PC a b P) _ T2 := h
        obtain ⟨F3, -, -, h⟩ := q_Rfail h
        exact Or.inr ⟨F3, h⟩
    · exact Or.inr h
  · exact Or.inr h
/-- a frame whose LENGTH is too small: the class always fails -/
theorem q_frameT {w : Nat} (hw : w < 2) (h13 : F 59 13 = nI w) (h : p_Un_readFrame UL 59 (F, L, PC a b P) KC T2) : ∃ F', T2 13 (F', L, PC a b P) := by
  unfold p_Un_readFrame at h
  rcases q_crW h with ⟨v1, F1, g1, -, -, h⟩ | h
  · rcases q_crS h with ⟨v2, F2, g2, h⟩ | h
    · rcases q_crS h with ⟨v3, F3, g3, h⟩ | h
      · rcases q_crW h with ⟨v4, F4, g4, i1, i2, h⟩ | h
        · have z1 : (1 : Int32).toInt = 1 := by decide
          have z3 : (3 : Int32).toInt = 3 := by decide
          obtain ⟨n, rfl, hn⟩ : ∃ n : Nat, v4 = nI n ∧ n ≤ 3 := ⟨v4.toInt.toNat, nI_i (by omega), by omega⟩
          refine dt_n h (fun _ h => ?_) (fun _ h => ?_)
          · unfold b_Un_readFrame_48 at h
            have h := h.1 (by
              show ¬ F4 59 13 = (8 + (3 * nI n))
              rw [g4.1 59 13 rfl rfl, g3.1 59 13 rfl rfl, g2.1 59 13 rfl rfl, g1.1 59 13 rfl rfl, h13, show (8 + (3 * nI n) : Int32) = nI (8 + 3 * n) from by rw [show (3 * nI n : Int32) = nI (3 * n) from pk_mul 3 n]; exact nI_add 8 _]
              exact fun q => by have := (nI_eq (a := w) (b := 8 + 3 * n) (by omega) (by omega)).mp q; omega)
            unfold b_Un_readFrame_67 at h
            exact q_wantLen0 h
          · obtain ⟨-, -, -, h⟩ := h
            have h : p_Re_fail UL 60 _ _ (F4, L, PC a b P) _ T2 := h
            obtain ⟨F5, -, -, h⟩ := q_Rfail h
            exact ⟨F5, h⟩
        · exact h
      · exact h
    · exact h
  · exact h
theorem q_scanT {w n u : Nat} (hw : w < 2) (hpu : PC a b P 59 1 = u) (hn : n ≤ 3) (hl : F u 2 = nI n) (h13 : F 59 13 = nI w) (h : p_Un_readScan UL 59 (F, L, PC a b P) KC T2) : ∃ F', T2 13 (F', L, PC a b P) := by
  unfold p_Un_readScan at h
  obtain ⟨-, -, -, -, h⟩ := h
  have h : p_Un_readWithin UL 59 1 (F (PC a b P 59 1) 2) (F, L, PC a b P) (fun v17 S17 => (¬ (S17.1 59 13) = (6 + (2 * v17)) → (b_Un_readScan_40 UL 59 (F 60 1) v17 0 S17 KC T2)) ∧ ((S17.1 59 13) = (6 + (2 * v17)) → (b_Un_readScan_40 UL 59 (F 60 1) v17 1 S17 KC T2))) T2 := h
  rw [hpu, hl] at h
  rcases q_crW h with ⟨v, F1, g1, i1, i2, h⟩ | h
  · have z1 : (1 : Int32).toInt = 1 := by decide
    rw [nI_toInt (by omega)] at i2
    obtain ⟨m, rfl, hm⟩ : ∃ m : Nat, v = nI m ∧ m ≤ 3 := ⟨v.toInt.toNat, nI_i (by omega), by omega⟩
    have h := h.1 (by
      show ¬ F1 59 13 = (6 + (2 * nI m))
      rw [g1.1 59 13 rfl rfl, h13, show (6 + (2 * nI m) : Int32) = nI (6 + 2 * m) from by rw [show (2 * nI m : Int32) = nI (2 * m) from pk_mul 2 m]; exact nI_add 6 _]
      exact fun q => by have := (nI_eq (a := w) (b := 6 + 2 * m) (by omega) (by omega)).mp q; omega)
    unfold b_Un_readScan_40 at h
    exact q_wantLen0 h
  · exact h
end CR

/-! a frame that is read leaves the pictures 0 and 1 -/
section KF
variable {S0 S : ms} {K : ms → Prop} {K2 : Int32 → ms → Prop} {Q : Prop} {x1 x2 x3 x4 s : Int32} {R192 : Int32 → Int32 → Int32 → Int32 → ms → Prop}
theorem kf_next (h : p_next S K2) (hf : kp S0 S) (k : ∀ v M, K2 v M → kp S0 M → Q) : Q := rk_p_next (S0 := S) h rk_refl (fun v M hk hr => k v M hk (kp_tr hf (kp_rk hr)))
theorem kf_two (h : p_nextTwo S K2) (hf : kp S0 S) (k : ∀ v M, K2 v M → kp S0 M → Q) : Q := rk_p_nextTwo (S0 := S) h rk_refl (fun v M hk hr => k v M hk (kp_tr hf (kp_rk hr)))
theorem kf_fail (h : p_fail x1 x2 S K2) (hf : kp S0 S) (k : ∀ v M, K2 v M → kp S0 M → Q) : Q := rk_p_fail (S0 := S) h rk_refl (fun v M hk hr => k v M hk (kp_tr hf (kp_rk hr)))
theorem kf_must (h : p_must x1 x2 S K) (hf : kp S0 S) (k : ∀ M, K M → kp S0 M → Q) : Q := rk_p_must (S0 := S) h rk_refl (fun M hk hr => k M hk (kp_tr hf (kp_rk hr)))
theorem kf_109 (h : e_makeGrids_109 2 0 S K) (hf : kp S0 S) (k : ∀ M, K M → kp S0 M → Q) : Q := by
  refine v_e_makeGrids_109 h (fun y4 T => kp S0 T ∧ ∃ q : Nat, y4 = nI q ∧ q ≤ 12288) ⟨hf, 0, rfl, by decide⟩ ?_
  rintro y4 T R ⟨ht, q, rfl, hq⟩ hb
  unfold b_makeGrids_109 at hb
  by_cases e : q = 12288
  · right
    subst e
    exact k T (hb.1 (Int32.le_refl _)) ht
  · left
    obtain ⟨-, hb⟩ := hb.2 (nI_ge (b := 12288) (by omega) (by decide))
    rw [show (12288 * 2 + nI q : Int32) = nI (24576 + q) from nI_add 24576 q, nI_clamp (by omega), nI_1] at hb
    refine ⟨_, _, hb, kp_row ht (Or.inr (Or.inr (Or.inl ⟨rfl, fun j hj => ?_⟩))), q + 1, rfl, by omega⟩
    rw [upd_ne (by omega)]
theorem kf_17 (h : e_makeGrids_17 2 x2 x3 0 S K) (hf : kp S0 S) (k : ∀ M, K M → kp S0 M → Q) : Q := by
  refine v_e_makeGrids_17 h (fun y4 T => kp S0 T ∧ ∃ q : Nat, y4 = nI q ∧ q ≤ 3) ⟨hf, 0, rfl, by decide⟩ ?_
  rintro y4 T R ⟨ht, q, rfl, hq⟩ hb
  unfold b_makeGrids_17 at hb
  obtain ⟨-, hb⟩ := hb
  refine dt_p hb (fun _ hb => Or.inr (kf_109 hb ht k)) (fun _ hb => Or.inl ?_)
  obtain ⟨hv, -, hb⟩ := hb
  have e6 : (3 * 2 + nI q : Int32) = nI (6 + q) := nI_add 6 q
  rw [e6] at hv hb
  obtain ⟨t, ht9, et⟩ := vp_in_of hv (by decide)
  have et := (nI_eq (by omega) (by omega)).mp et
  refine d_p_upward hb (fun v59 hb _ => ?_)
  obtain ⟨-, -, -, hb⟩ := hb
  refine d_p_upward hb (fun v95 hb _ => ?_)
  obtain ⟨-, hb⟩ := hb
  rw [nI_clamp (by omega), nI_1] at hb
  refine ⟨_, _, hb, kp_row (M := (T.1, va_up T.2.1 17 _, T.2.2)) (kp_row ht (Or.inr (Or.inl ⟨by decide, by decide, fun j hj => ?_⟩))) (Or.inr (Or.inl ⟨by decide, by decide, fun j hj => ?_⟩)), q + 1, rfl, by omega⟩
  · rw [upd_ne (by omega)]
  · rw [upd_ne (by omega)]
theorem kf_grids (h : p_makeGrids 2 S K) (hf : kp S0 S) (k : ∀ M, K M → kp S0 M → Q) : Q := by
  unfold p_makeGrids at h
  refine rk_p_greatest (S0 := S) h rk_refl (fun v3 M3 h r3 => ?_)
  refine rk_p_greatest (S0 := S) h r3 (fun v10 M10 h r10 => ?_)
  exact kf_17 h (kp_tr hf (kp_rk r10)) k
theorem kf_426 (h : b_readFrame_426 x2 x3 x4 S K) (hf : kp S0 S) (k : ∀ M, K M → kp S0 M → Q) : Q := by
  unfold b_readFrame_426 b_readFrame_465 at h
  refine dt_n h (fun _ h => k _ h hf) (fun _ h => ?_)
  obtain ⟨-, -, -, h⟩ := h
  rw [show (2 : Int32).toNatClampNeg = 2 from rfl] at h
  refine kf_grids h ?_ k
  refine kp_row (M := (S.1, va_up (va_up S.2.1 12 _) 13 _, S.2.2)) (kp_row (M := (S.1, va_up S.2.1 12 _, S.2.2)) (kp_row hf (Or.inl ⟨by decide, by decide, fun j hj => ?_⟩)) (Or.inl ⟨by decide, by decide, fun j hj => ?_⟩)) (Or.inl ⟨by decide, by decide, fun j hj => ?_⟩)
  all_goals rw [upd_ne (by omega)]
theorem kf_334 {x7 : Int32} {q : Nat} (hq : q < 3) (h : b_readFrame_334 x2 x3 x4 (nI q) x7 s S R192 K) (hf : kp S0 S) (k : ∀ M, R192 x2 x3 x4 (nI q + 1) M → kp S0 M → Q) : Q := by
  unfold b_readFrame_334 at h
  refine kf_must h hf (fun M h hm => ?_)
  obtain ⟨-, -, h⟩ := h
  rw [show (6 + nI q : Int32) = nI (6 + q) from nI_add 6 q, nI_clamp (by omega)] at h
  have h16 : ∀ (a b : Int32), kp S0 (M.1, va_up (va_up M.2.1 15 (upd (M.2.1 15) (6 + q) a)) 16 (upd (va_up M.2.1 15 (upd (M.2.1 15) (6 + q) a) 16) (6 + q) b), M.2.2) := fun a b => by
    refine kp_row (M := (M.1, va_up M.2.1 15 _, M.2.2)) (kp_row hm (Or.inr (Or.inl ⟨by decide, by decide, fun j hj => ?_⟩))) (Or.inr (Or.inl ⟨by decide, by decide, fun j hj => ?_⟩))
    all_goals rw [upd_ne (by omega)]
  have go : ∀ (s2 : Int32) (V : ms), b_readFrame_393 x2 x3 x4 (nI q) (nI q) s2 V R192 K → kp S0 V → Q := by
    intro s2 V h hv
    unfold b_readFrame_393 b_readFrame_411 at h
    obtain ⟨-, -, h⟩ := h
    refine dt_p h (fun _ h => ?_) (fun _ h => ?_)
    · exact kf_must h (kp_row hv (Or.inr (Or.inr (Or.inr (Or.inr (by decide)))))) (fun M h hm => k _ h hm)
    · exact kf_must h (kp_row hv (Or.inr (Or.inr (Or.inr (Or.inr (by decide)))))) (fun M h hm => k _ h hm)
  refine dt_n h (fun _ h => go _ _ h (h16 _ _)) (fun _ h => kf_next h (h16 _ _) (fun v M h hm => go _ _ h hm))
theorem kf_292 {s0 : Int32} {q : Nat} (hq : q < 3) (h : b_readFrame_292 x2 x3 x4 (nI q) s0 S R192 K) (hf : kp S0 S) (k : ∀ M, R192 x2 x3 x4 (nI q + 1) M → kp S0 M → Q) : Q := by
  unfold b_readFrame_292 at h
  have in2 : b_readFrame_311 x2 x3 x4 (nI q) s0 S R192 K → Q := by
    intro h
    unfold b_readFrame_311 b_readFrame_329 b_readFrame_333 at h
    exact dt_p h (fun _ h => kf_334 hq h hf k) (fun _ h => dt_n h (fun _ h => kf_334 hq h hf k) (fun _ h => kf_334 hq h hf k))
  refine dt_p h (fun _ h => in2 h) (fun _ h => dt_n h (fun _ h => ?_) (fun _ h => in2 h))
  unfold b_readFrame_333 at h
  exact kf_334 hq h hf k
theorem kf_192 (h : e_readFrame_192 x2 x3 x4 0 S K) (hf : kp S0 S) (k : ∀ M, K M → kp S0 M → Q) : Q := by
  refine v_e_readFrame_192 h (fun y5 T => kp S0 T ∧ ∃ q : Nat, y5 = nI q ∧ q ≤ 3) ⟨hf, 0, rfl, by decide⟩ ?_
  rintro y5 T R ⟨ht, q, rfl, hq⟩ hb
  unfold b_readFrame_192 at hb
  refine dt_p hb (fun _ hb => Or.inr (kf_426 hb ht k)) (fun _ hb => ?_)
  refine dt_n hb (fun _ hb => Or.inr (kf_426 hb ht k)) (fun _ hb => ?_)
  refine kf_next hb ht (fun v M hb hm => ?_)
  obtain ⟨hv, hb⟩ := hb
  obtain ⟨t, ht9, et⟩ := vp_in_of hv (by decide)
  have et := (nI_eq (by omega) (by omega)).mp et
  have hq3 : q < 3 := by omega
  have hz : kp S0 (M.1, va_up M.2.1 44 (upd (M.2.1 44) (nI q).toNatClampNeg v), M.2.2) := kp_row hm (Or.inr (Or.inr (Or.inr (Or.inr (by decide)))))
  obtain ⟨s, -, hb⟩ := q_fresh hq3 hb
  have fin : ∀ V, R x2 x3 x4 (nI q + 1) V → kp S0 V → (∃ (zx5 : Int32) (zS : ms), R x2 x3 x4 zx5 zS ∧ (kp S0 zS ∧ ∃ q : Nat, zx5 = nI q ∧ q ≤ 3)) ∨ Q := fun V hR hV => Or.inl ⟨_, V, hR, hV, q + 1, nI_1 q, by omega⟩
  refine kf_must hb hz (fun M hb hm => ?_)
  refine dt_n hb (fun _ hb => kf_292 hq3 hb hm fin) (fun _ hb => ?_)
  exact kf_next hb hm (fun v M hb hm => kf_292 hq3 hb hm fin)
theorem kf_143 (h : b_readFrame_143 x2 x3 x4 s S K) (hf : kp S0 S) (k : ∀ M, K M → kp S0 M → Q) : Q := by
  unfold b_readFrame_143 b_readFrame_189 at h
  refine kf_must h hf (fun M h hm => ?_)
  refine dt_n h (fun _ h => kf_192 h hm k) (fun _ h => ?_)
  refine dt_p h (fun _ h => kf_192 h hm k) (fun _ h => ?_)
  exact kf_fail h hm (fun v M h hm => kf_192 h hm k)
theorem kf_123 (h : b_readFrame_123 x2 x3 s S K) (hf : kp S0 S) (k : ∀ M, K M → kp S0 M → Q) : Q := by
  unfold b_readFrame_123 b_readFrame_138 at h
  exact dt_p h (fun _ h => kf_143 h hf k) (fun _ h => dt_n h (fun _ h => kf_143 h hf k) (fun _ h => kf_143 h hf k))
theorem kf_99 (h : b_readFrame_99 x2 x3 s S K) (hf : kp S0 S) (k : ∀ M, K M → kp S0 M → Q) : Q := by
  unfold b_readFrame_99 at h
  refine kf_must h hf (fun M h hm => ?_)
  exact dt_n h (fun _ h => kf_123 h hm k) (fun _ h => kf_next h hm (fun v M h hm => kf_123 h hm k))
theorem kf_82 (h : b_readFrame_82 x2 s S K) (hf : kp S0 S) (k : ∀ M, K M → kp S0 M → Q) : Q := by
  unfold b_readFrame_82 b_readFrame_98 at h
  exact dt_p h (fun _ h => kf_99 h hf k) (fun _ h => dt_p h (fun _ h => kf_99 h hf k) (fun _ h => kf_99 h hf k))
theorem kf_58 (h : b_readFrame_58 x2 s S K) (hf : kp S0 S) (k : ∀ M, K M → kp S0 M → Q) : Q := by
  unfold b_readFrame_58 at h
  refine kf_must h hf (fun M h hm => ?_)
  exact dt_n h (fun _ h => kf_82 h hm k) (fun _ h => kf_two h hm (fun v M h hm => kf_82 h hm k))
theorem kf_41 (h : b_readFrame_41 s S K) (hf : kp S0 S) (k : ∀ M, K M → kp S0 M → Q) : Q := by
  unfold b_readFrame_41 b_readFrame_57 at h
  exact dt_p h (fun _ h => kf_58 h hf k) (fun _ h => dt_p h (fun _ h => kf_58 h hf k) (fun _ h => kf_58 h hf k))
theorem kf_17b (h : b_readFrame_17 s S K) (hf : kp S0 S) (k : ∀ M, K M → kp S0 M → Q) : Q := by
  unfold b_readFrame_17 at h
  refine kf_must h hf (fun M h hm => ?_)
  exact dt_n h (fun _ h => kf_41 h hm k) (fun _ h => kf_two h hm (fun v M h hm => kf_41 h hm k))
theorem kf_frame (h : p_readFrame S K) (hf : kp S0 S) (k : ∀ M, K M → kp S0 M → Q) : Q := by
  unfold p_readFrame at h
  refine kf_next h hf (fun v M h hm => ?_)
  exact dt_n h (fun _ h => kf_17b h hm k) (fun _ h => kf_17b h hm k)
/-- every section but that of a scan leaves the pictures 0 and 1 -/
theorem kf_section {x : Int32} (hx : ¬ x = 218) (h : p_readSection x S K) : p_readSection x S (fun M => K M ∧ kp S M) := by
  refine d_p_readSection h (fun Z hk hi => (hi _).mpr ⟨hk, ?_⟩)
  have h : p_readSection x S (fun M => M = Z) := (hi _).mpr rfl
  unfold p_readSection b_readSection_157 at h
  have fin : ∀ M, M = Z → kp S M → kp S Z := fun M e hm => e ▸ hm
  refine rk_p_readLength (S0 := S) h rk_refl (fun M h r => ?_)
  have hm : kp S M := kp_rk r
  refine dt_p h (fun _ h => ?_) (fun _ h => fin _ h hm)
  refine dt_n h (fun _ h => ?_) (fun _ h => rk_p_readTables (S0 := S) h r (fun M h r => fin _ h (kp_rk r)))
  refine dt_n h (fun _ h => ?_) (fun _ h => rk_p_readCodes (S0 := S) h r (fun M h r => fin _ h (kp_rk r)))
  refine dt_n h (fun _ h => ?_) (fun _ h => kf_frame h hm (fun M h r => fin _ h r))
  refine dt_n h (fun _ h => ?_) (fun _ h => ?_)
  · exact rk_e_readSection_131 (S0 := S) (h.1 hx) r (fun M h r => fin _ h (kp_rk r))
  · refine dt_p h (fun _ h => ?_) (fun _ h => ?_)
    · exact rk_b_readSection_84 (S0 := S) h r (fun M h r => fin _ h (kp_rk r))
    · refine rk_p_fail (S0 := S) h r (fun v M h r => ?_)
      exact rk_b_readSection_84 (S0 := S) h r (fun M h r => fin _ h (kp_rk r))
end KF

/-! UNPACK: which layer a name has -/
/-- what stays of a frame: names and tables -/
def frN (n : Nat) (tt : Nat → Nat) (M : ms) (F : cF) : Prop := (∀ i j, i < n → j < n → M.2.1 44 i = M.2.1 44 j → i = j) ∧ ∀ l, l < n → F 101 l = M.2.1 44 l ∧ F 102 l = nI (tt l) ∧ M.2.1 45 l = nI (tt l) ∧ tt l < 4
section NAM
variable {S : ms} {F : cF} {L : cL} {a b : Bool} {P : Nat → Nat → Nat} {T2 : Nat → cs → Prop} {n u : Nat}
theorem q_named {v : Int32} {K : Int32 → ms → Prop} (hn : n ≤ 3) (h14 : S.2.1 14 2 = nI n) (h : p_layerNamed v S K) : ∃ r, K r S ∧ ((r = -1 ∧ ∀ l, l < n → ¬ S.2.1 44 l = v) ∨ ∃ l, l < n ∧ r = nI l ∧ S.2.1 44 l = v) := by
  unfold p_layerNamed at h
  refine v_e_layerNamed_4 h (fun y2 y3 T => T = S ∧ ∃ k, y3 = nI k ∧ k ≤ n ∧ ((y2 = -1 ∧ ∀ l, l < k → ¬ S.2.1 44 l = v) ∨ ∃ l, l < k ∧ y2 = nI l ∧ S.2.1 44 l = v)) ⟨rfl, 0, rfl, Nat.zero_le _, Or.inl ⟨rfl, fun l hl => absurd hl (Nat.not_lt_zero _)⟩⟩ ?_
  rintro y2 y3 T R ⟨rfl, k, rfl, hk, hc⟩ hb
  unfold b_layerNamed_4 b_layerNamed_29 at hb
  obtain ⟨-, hb⟩ := hb
  rw [show (2 : Int32).toNatClampNeg = 2 from rfl, h14] at hb
  by_cases e : k = n
  · right
    subst e
    exact ⟨y2, hb.1 (Int32.le_refl _), hc⟩
  · left
    obtain ⟨-, hb⟩ := hb.2 (nI_ge (by omega) (by omega))
    rw [nI_clamp (show k < 2 ^ 31 by omega), nI_1] at hb
    by_cases ev : T.2.1 44 k = v
    · exact ⟨_, _, _, hb.2 ev, rfl, k + 1, rfl, by omega, Or.inr ⟨k, by omega, rfl, ev⟩⟩
    · refine ⟨_, _, _, hb.1 ev, rfl, k + 1, rfl, by omega, ?_⟩
      rcases hc with ⟨e1, hc⟩ | ⟨l, l1, l2, l3⟩
      · refine Or.inl ⟨e1, fun l hl => ?_⟩
        by_cases el : l = k
        · rw [el]; exact ev
        · exact hc l (by omega)
      · exact Or.inr ⟨l, by omega, l2, l3⟩
/-- the class's way on with layer l -/
def slR (l : Nat) (x1 : Int32) (F : cF) (L : cL) (a b : Bool) (P : Nat → Nat → Nat) (K : Int32 → cs → Prop) (T2 : Nat → cs → Prop) : Prop :=
  (F 103 l = 0 → ((¬ F 79 (F 102 l).toNatClampNeg = 0 → b_Un_readScanLayer_114 UL 59 (nI l) (F 102 l) (F, L, PC a b P) K T2) ∧ (F 79 (F 102 l).toNatClampNeg = 0 → ∃ F', T2 13 (F', L, PC a b P)))) ∧ (¬ F 103 l = 0 → ∃ F', T2 13 (F', L, PC a b P))
theorem q_find {lst : Nat} {v : Int32} {K : Int32 → cs → Prop} (hpu : PC a b P 59 1 = u) (hn : n ≤ 3) (hl : lst ≤ n) (h2 : F u 2 = nI n) (h : e_Un_readScanLayer_13 UL 59 (nI lst) v (-1) (nI lst) (F, L, PC a b P) K T2) :
    ((∀ i, lst ≤ i → i < n → ¬ F 101 i = v) ∧ ∃ F', T2 13 (F', L, PC a b P)) ∨ ∃ l, lst ≤ l ∧ l < n ∧ F 101 l = v ∧ slR l (nI lst) F L a b P K T2 := by
  have f59 : b_Un_readScanLayer_59 UL 59 (nI lst) (F, L, PC a b P) K T2 → ∃ F', T2 13 (F', L, PC a b P) := by
    intro h
    unfold b_Un_readScanLayer_59 at h
    obtain ⟨-, -, -, h⟩ := h
    have h : p_Re_fail UL 60 _ _ (F, L, PC a b P) _ T2 := h
    obtain ⟨F', -, -, h⟩ := q_Rfail h
    exact ⟨F', h⟩
  refine v_e_Un_readScanLayer_13 h (fun y3 y4 V => V = (F, L, PC a b P) ∧ ∃ k, y4 = nI k ∧ lst ≤ k ∧ k ≤ n ∧ ((y3 = -1 ∧ ∀ i, lst ≤ i → i < k → ¬ F 101 i = v) ∨ ∃ l, lst ≤ l ∧ l < k ∧ y3 = nI l ∧ F 101 l = v)) ⟨rfl, lst, rfl, Nat.le_refl _, hl, Or.inl ⟨rfl, fun i h1 h2 => absurd h2 (by omega)⟩⟩ ?_
  rintro y3 y4 V R ⟨rfl, k, rfl, hk1, hk, hc⟩ hb
  unfold b_Un_readScanLayer_13 b_Un_readScanLayer_39 at hb
  obtain ⟨-, -, hb⟩ := hb
  have hb : (F (PC a b P 59 1) 2 ≤ nI k → _) ∧ (¬ F (PC a b P 59 1) 2 ≤ nI k → _ ∧ _ ∧ _ ∧ ((¬ F 101 (nI k).toNatClampNeg = v → R (nI lst) v y3 (nI k + 1) (F, L, PC a b P)) ∧ (F 101 (nI k).toNatClampNeg = v → R (nI lst) v (nI k) (nI k + 1) (F, L, PC a b P)))) := hb
  rw [hpu, h2] at hb
  by_cases e : k = n
  · right
    subst e
    have hb := hb.1 (Int32.le_refl _)
    rcases hc with ⟨rfl, hc⟩ | ⟨l, l1, l2, rfl, l4⟩
    · exact Or.inl ⟨hc, f59 (hb.1 rfl)⟩
    · obtain ⟨-, -, -, hb⟩ := hb.2 (fun q => by
        have : (nI l).toInt = (-1 : Int32).toInt := by rw [q]
        rw [nI_toInt (by omega)] at this
        have : (-1 : Int32).toInt = -1 := by decide
        omega)
      have cl : (nI l).toNatClampNeg = l := nI_clamp (by omega)
      have hb : (F 103 (nI l).toNatClampNeg = 0 → _ ∧ _ ∧ _ ∧ _ ∧ _ ∧ _ ∧ ((¬ F 79 (F 102 (nI l).toNatClampNeg).toNatClampNeg = 0 → b_Un_readScanLayer_114 UL 59 (nI l) (F 102 (nI l).toNatClampNeg) (F, L, PC a b P) K T2) ∧ (F 79 (F 102 (nI l).toNatClampNeg).toNatClampNeg = 0 → _ ∧ _ ∧ _ ∧ p_Re_fail UL 60 6 (F 60 1 - 1) (F, L, PC a b P) _ T2))) ∧ (¬ F 103 (nI l).toNatClampNeg = 0 → b_Un_readScanLayer_59 UL 59 (nI lst) (F, L, PC a b P) K T2) := hb
      rw [cl] at hb
      refine Or.inr ⟨l, l1, l2, l4, fun q => ?_, fun q => f59 (hb.2 q)⟩
      obtain ⟨-, -, -, -, -, -, hb⟩ := hb.1 q
      refine ⟨hb.1, fun q2 => ?_⟩
      obtain ⟨-, -, -, hb⟩ := hb.2 q2
      obtain ⟨F', -, -, h⟩ := q_Rfail hb
      exact ⟨F', h⟩
  · left
    obtain ⟨-, -, -, hb⟩ := hb.2 (nI_ge (by omega) (by omega))
    rw [nI_clamp (show k < 2 ^ 31 by omega), nI_1] at hb
    by_cases ev : F 101 k = v
    · exact ⟨_, _, _, hb.2 ev, rfl, k + 1, rfl, by omega, by omega, Or.inr ⟨k, hk1, by omega, rfl, ev⟩⟩
    · refine ⟨_, _, _, hb.1 ev, rfl, k + 1, rfl, by omega, by omega, ?_⟩
      rcases hc with ⟨e1, hc⟩ | ⟨l, l1, l2, l3, l4⟩
      · refine Or.inl ⟨e1, fun i i1 i2 => ?_⟩
        by_cases ei : i = k
        · rw [ei]; exact ev
        · exact hc i i1 (by omega)
      · exact Or.inr ⟨l, l1, by omega, l3, l4⟩
end NAM

/-! UNPACK: a layer of a scan, both sides -/
theorem offs_congr {A D ly ly' : Nat → Nat} : ∀ k, (∀ i, i < k → ly' i = ly i) → offs A D ly' k = offs A D ly k
  | 0, _ => rfl
  | k + 1, h => by
    show offs A D ly' k + A (ly' k) * D (ly' k) = offs A D ly k + A (ly k) * D (ly k)
    rw [offs_congr k (fun i hi => h i (by omega)), h k (by omega)]
def skI (u n k lst : Nat) (ly cs cr tt : Nat → Nat) (E0 : Nat → Int32) (M : ms) (F : cF) : Prop :=
  F 73 0 = nI k ∧ (k ≤ lst ∧ lst ≤ n) ∧ (∀ i, i < k → ly i < lst ∧ cs i < 2 ∧ (cr i = 2 ∨ cr i = 3) ∧ M.2.1 50 i = nI (ly i) ∧ M.2.1 51 i = nI (cs i) ∧ M.2.1 52 i = nI (cr i) ∧ F 74 i = nI (ly i) ∧ F 75 (ly i) = nI (cs i) ∧ F 76 (ly i) = nI (cr i) ∧ ¬ M.2.1 42 (cs i) = 0 ∧ ¬ M.2.1 42 (cr i) = 0 ∧ F 103 (ly i) = 1 ∧ ¬ M.2.1 39 (tt (ly i)) = 0 ∧ ∀ j, j < 64 → F (u + 8) (64 * ly i + j) = F 78 (64 * tt (ly i) + j)) ∧
  (∀ i j, i < j → j < k → ly i < ly j) ∧ ∀ l, l < n → (∀ i, i < k → ly i ≠ l) → F 103 l = M.2.1 47 l ∧ ∀ j, j < 64 → F (u + 8) (64 * l + j) = E0 (64 * l + j)
def fsC (u : Nat) (F G : cF) : Prop := (∀ w, OB w = false → w ≠ 74 → w ≠ 75 → w ≠ 76 → w ≠ 103 → w ≠ u + 8 → G w = F w) ∧ ∀ w k, OB w = true → w ≠ 60 → k < 100 → (w = 73 → k ≠ 0) → G w k = F w k
theorem fs_tr {u : Nat} {F G H : cF} (h : fsC u F G) (h' : fsC u G H) : fsC u F H := ⟨fun w o a1 a2 a3 a4 a5 => (h'.1 w o a1 a2 a3 a4 a5).trans (h.1 w o a1 a2 a3 a4 a5), fun w k o a1 a2 a3 => (h'.2 w k o a1 a2 a3).trans (h.2 w k o a1 a2 a3)⟩
theorem fs_refl {u : Nat} {F : cF} : fsC u F F := ⟨fun _ _ _ _ _ _ _ => rfl, fun _ _ _ _ _ _ => rfl⟩
theorem fs_fu {u : Nat} {F G : cF} (h : fuC F G) : fsC u F G := ⟨fun w o _ _ _ _ _ => h.2 w o rfl, fun w k o h1 h2 _ => fu_o h o h1 h2⟩
theorem n_and1 {w : Nat} (h : w ≤ 255) : (nI w &&& 1 : Int32) = nI (w % 2) := by
  have : ∀ j : Fin 256, (nI j.val &&& 1 : Int32) = nI (j.val % 2) := by decide +kernel
  exact this ⟨w, by omega⟩
section SL
variable {S : ms} {F : cF} {L : cL} {a b : Bool} {P : Nat → Nat → Nat} {K0 : ms → Prop} {K2 : Int32 → cs → Prop} {T2 : Nat → cs → Prop} {G : Prop} {u n k m lst : Nat} {ly cs cr tt A D : Nat → Nat} {E0 : Nat → Int32} {x2 : Int32} {R79 : Int32 → Int32 → Int32 → Int32 → Int32 → ms → Prop}
theorem y_sl (hu : isU u) (hpu : PC a b P 59 1 = u) (hq : rq S F) (hN : frN n tt S F) (hT : tbR S F) (hC : coR S F) (hn : n ≤ 3) (h14 : S.2.1 14 2 = nI n) (f2 : F u 2 = nI n) (hAD : ∀ l, l < n → S.2.1 15 (6 + l) = nI (A l) ∧ S.2.1 16 (6 + l) = nI (D l) ∧ A l ≤ 2 ∧ D l ≤ 2) (hk : skI u n k lst ly cs cr tt E0 S F)
    (bR : ∀ y1 y2 y3 y4 y5 M' F', R79 y1 y2 y3 y4 y5 M' → flt M' → T2 13 (F', L, PC a b P) → G) (bK : ∀ M' F', K0 M' → flt M' → T2 13 (F', L, PC a b P) → G) {x3 : Int32} (hx3 : x3.toInt = (lst : Int) - 1)
    (h1 : p_next S (fun v93 S93 => (¬ (S93.1 35) = 0 → (b_readScanHead_115 (nI m) x2 x3 (nI (offs A D ly k)) (nI k) (-1) (S93.1, S93.2.1, S93.2.2) R79 K0)) ∧ ((S93.1 35) = 0 → (p_layerNamed v93 (S93.1, S93.2.1, S93.2.2) (fun v108 S108 => b_readScanHead_115 (nI m) x2 x3 (nI (offs A D ly k)) (nI k) v108 (S108.1, S108.2.1, S108.2.2) R79 K0))))) (h2 : p_Un_readScanLayer UL 59 (nI lst) (F, L, PC a b P) K2 T2)
    (ok : ∀ M' F' l ly' cs' cr', ag [10, 34, 35] [50, 51, 52] S M' → fsC u F F' → (S.1 34).toInt ≤ (M'.1 34).toInt → rq M' F' → skI u n (k + 1) (l + 1) ly' cs' cr' tt E0 M' F' → l < n → R79 (nI m) x2 (nI l) (nI (offs A D ly' (k + 1))) (nI k + 1) M' → K2 (nI l) (F', L, PC a b P) → G) : G := by
  have fb115 : ∀ (s : Int32) (M1 : ms) (F1 : cF), b_readScanHead_115 (nI m) x2 x3 (nI (offs A D ly k)) (nI k) s M1 R79 K0 → flt M1 → T2 13 (F1, L, PC a b P) → G := fun s M1 F1 h hf ht => f_b_readScanHead_115 h hf (fun _ _ _ _ _ M' hk hf => bR _ _ _ _ _ M' F1 hk hf ht) (fun M' hk hf => bK M' F1 hk hf ht)
  have fb193 : ∀ (x7 : Int32) (M1 : ms) (F1 : cF), b_readScanHead_193 (nI m) x2 x3 (nI (offs A D ly k)) (nI k) x7 M1 R79 K0 → flt M1 → T2 13 (F1, L, PC a b P) → G := fun x7 M1 F1 h hf ht => f_b_readScanHead_193 h hf (fun _ _ _ _ _ M' hk hf => bR _ _ _ _ _ M' F1 hk hf ht) (fun M' hk hf => bK M' F1 hk hf ht)
  have fb208 : ∀ (x7 s : Int32) (M1 : ms) (F1 : cF), b_readScanHead_208 (nI m) x2 x3 (nI (offs A D ly k)) (nI k) x7 s M1 R79 K0 → flt M1 → T2 13 (F1, L, PC a b P) → G := fun x7 s M1 F1 h hf ht => f_b_readScanHead_208 h hf (fun _ _ _ _ _ M' hk hf => bR _ _ _ _ _ M' F1 hk hf ht) (fun M' hk hf => bK M' F1 hk hf ht)
  have fb297 : ∀ (x7 s : Int32) (M1 : ms) (F1 : cF), b_readScanHead_297 (nI m) x2 x3 (nI (offs A D ly k)) (nI k) x7 s M1 R79 K0 → flt M1 → T2 13 (F1, L, PC a b P) → G := fun x7 s M1 F1 h hf ht => f_b_readScanHead_297 h hf (fun _ _ _ _ _ M' hk hf => bR _ _ _ _ _ M' F1 hk hf ht) (fun M' hk hf => bK M' F1 hk hf ht)
  -- the reference refuses the layer
  have no147 : ∀ (x7 : Int32) (M1 : ms) (F1 : cF), M1.1 35 = 0 → b_readScanHead_147 (nI m) x2 x3 (nI (offs A D ly k)) (nI k) x7 M1 R79 K0 → T2 13 (F1, L, PC a b P) → G := by
    intro x7 M1 F1 e35 h ht
    unfold b_readScanHead_147 b_readScanHead_148 at h
    obtain ⟨Y, hf, h⟩ := q_must0 (S := M1) e35 h
    exact fb193 _ _ F1 (h.1 (flt_n hf)) hf ht
  obtain ⟨k0, ⟨k1a, k1b⟩, k2, k3, k4⟩ := hk
  have m1i : (-1 : Int32).toInt = -1 := by decide
  have z0 : (0 : Int32).toInt = 0 := by decide
  have z17 : (17 : Int32).toInt = 17 := by decide
  unfold p_Un_readScanLayer at h2
  obtain ⟨-, -, h2⟩ := h2
  have h2 : p_Re_read UL 60 (F, L, PC a b P) _ T2 := h2
  refine x_read hq.1 h1 h2 (fun v M1 F1 a1 a2 a3 a4 a5 a6 a7 h1 h2 => ?_) (fun v M1 F1 f1 _ _ h1 h2 => fb115 _ _ F1 (h1.1 (flt_n f1)) f1 h2)
  have st := rq_s hq a1 a2 a4 a5 a6
  have h1 := h1.2 a3
  have f101 : F1 101 = F 101 := a5.2 101 rfl rfl
  have f102 : F1 102 = F 102 := a5.2 102 rfl rfl
  have f103 : F1 103 = F 103 := a5.2 103 rfl rfl
  have f79 : F1 79 = F 79 := a5.2 79 rfl rfl
  have m44 : M1.2.1 44 = S.2.1 44 := a1.2 44 rfl
  have ou : OB u = true ∧ u ≠ 60 ∧ u ≠ 59 := by rcases hu with rfl | rfl <;> exact ⟨rfl, by decide, by decide⟩
  obtain ⟨r, h1, hr⟩ := q_named (S := (M1.1, M1.2.1, M1.2.2)) hn (by show M1.2.1 14 2 = _; rw [a1.2 14 rfl]; exact h14) h1
  have hr : (r = -1 ∧ ∀ l, l < n → ¬ S.2.1 44 l = v) ∨ ∃ l, l < n ∧ r = nI l ∧ S.2.1 44 l = v := by
    rw [← m44]
    exact hr
  rcases q_find hpu hn k1b ((fu_o a5 ou.1 ou.2.1 (by decide)).trans f2) h2 with ⟨nf, F2, h2⟩ | ⟨l, l1, l2, l3, h2⟩
  · -- no such layer
    rw [f101] at nf
    unfold b_readScanHead_115 at h1
    have h1 := h1.1 (by
      refine Int32.le_iff_toInt_le.mpr ?_
      rcases hr with ⟨rfl, -⟩ | ⟨l, l1, rfl, l3⟩
      · omega
      · rw [nI_toInt (by omega)]
        have : ¬ lst ≤ l := fun q => nf l q l1 (by rw [(hN.2 l l1).1]; exact l3)
        omega)
    exact no147 _ _ F2 a3 h1 h2
  · rw [f101] at l3
    have er : r = nI l := by
      rcases hr with ⟨-, hr⟩ | ⟨l', l1', l2', l3'⟩
      · exact absurd (by rw [← (hN.2 l l2).1]; exact l3) (hr l l2)
      · rw [l2', hN.1 l' l l1' l2 (by rw [l3', ← (hN.2 l l2).1, l3])]
    subst er
    have cl : (nI l).toNatClampNeg = l := nI_clamp (by omega)
    unfold b_readScanHead_115 at h1
    have h1 := (h1.2 (fun q => by have q := i_le q; rw [nI_toInt (by omega)] at q; omega)).1 (Int32.le_iff_toInt_le.mpr (by rw [nI_toInt (by omega), z0]; omega))
    unfold b_readScanHead_139 at h1
    obtain ⟨-, h1⟩ := h1
    have h1 : (¬ M1.2.1 47 (nI l).toNatClampNeg = 0 → b_readScanHead_147 (nI m) x2 x3 (nI (offs A D ly k)) (nI k) (nI l) M1 R79 K0) ∧ (M1.2.1 47 (nI l).toNatClampNeg = 0 → b_readScanHead_148 (nI m) x2 x3 (nI (offs A D ly k)) (nI k) (nI l) 1 M1 R79 K0) := h1
    have nly : ∀ i, i < k → ly i ≠ l := fun i hi => by have := (k2 i hi).1; omega
    have e47 : F 103 l = S.2.1 47 l := (k4 l l2 nly).1
    rw [cl, a1.2 47 rfl, ← e47] at h1
    unfold slR at h2
    rw [f103, f102, f79] at h2
    obtain ⟨-, t1, t2, t3⟩ := hN.2 l l2
    rw [t1, nI_clamp (show tt l < 2 ^ 31 by omega)] at h2
    by_cases sc : F 103 l = 0
    · have h1 := h1.2 sc
      have h2 := h2.1 sc
      unfold b_readScanHead_148 at h1
      have h1 := q_must1 (by decide) h1
      obtain ⟨-, -, h1⟩ := h1.2 a3
      have h1 : (¬ M1.2.1 39 (M1.2.1 45 (nI l).toNatClampNeg).toNatClampNeg = 0 → b_readScanHead_193 (nI m) x2 x3 (nI (offs A D ly k)) (nI k) (nI l) M1 R79 K0) ∧ (M1.2.1 39 (M1.2.1 45 (nI l).toNatClampNeg).toNatClampNeg = 0 → _) := h1
      rw [cl, a1.2 45 rfl, t2, nI_clamp (show tt l < 2 ^ 31 by omega), a1.2 39 rfl] at h1
      have tb := hT (tt l) t3
      rw [tb.1] at h2
      by_cases told : S.2.1 39 (tt l) = 0
      · obtain ⟨F2, h2⟩ := h2.2 told
        obtain ⟨Y, hf, h1⟩ := q_fail1 (by decide) a3 (h1.2 told)
        exact fb193 _ _ F2 h1 hf h2
      · have h1 := h1.1 told
        have h2 := h2.1 told
        unfold b_readScanHead_193 at h1
        have h1 := h1.2 a3
        unfold b_Un_readScanLayer_114 at h2
        obtain ⟨-, -, -, -, -, -, -, -, -, -, -, h2⟩ := h2
        have p14 : PC a b P u 14 = u + 8 := pp14 (isU_p hu)
        have h2 : p_Un_readWithin UL 59 0 17 (va_up F1 (PC a b P (PC a b P 59 1) 14) (va_cpy (F1 78) (F1 (PC a b P (PC a b P 59 1) 14)) (64 * nI (tt l) : Int32).toNatClampNeg (64 * nI l : Int32).toNatClampNeg 64), L, PC a b P) _ T2 := h2
        rw [hpu, p14, show (64 * nI (tt l) : Int32) = nI (64 * tt l) from pk_mul 64 _, show (64 * nI l : Int32) = nI (64 * l) from pk_mul 64 _, nI_clamp (show 64 * tt l < 2 ^ 31 by omega), nI_clamp (show 64 * l < 2 ^ 31 by omega)] at h2
        have u8 : 59 ≠ u + 8 ∧ 60 ≠ u + 8 ∧ 61 ≠ u + 8 ∧ 62 ≠ u + 8 ∧ u + 8 ≠ 73 ∧ u + 8 ≠ 74 ∧ u + 8 ≠ 75 ∧ u + 8 ≠ 76 ∧ u + 8 ≠ 103 ∧ u + 8 ≠ 78 ∧ OB (u + 8) = false ∧ (∀ c, c < 4 → co c ≠ u + 8) := by
          rcases hu with rfl | rfl <;> exact ⟨by decide, by decide, by decide, by decide, by decide, by decide, by decide, by decide, by decide, by decide, rfl, fun c hc => by show 81 + 5 * c ≠ _; omega⟩
        obtain ⟨v59, v60, v61, v62, v73, v74, v75, v76, v103, v78, vO, vco⟩ := u8
        have q1 : rq M1 (va_up F1 (u + 8) (va_cpy (F1 78) (F1 (u + 8)) (64 * tt l) (64 * l) 64)) := rq_c st.1 v59 v60 v61 v62
        refine x_readW q1.1 h1 h2 (fun z M2 F2 b1 b2 b3 b4 b5 b6 b7 i1 i2 h1 h2 => ?_) (fun z M2 F2 b1 b3 b7 i1 h1 h2 => ?_) (fun z M2 F2 f1 h1 h2 => fb208 _ _ _ F2 h1 f1 h2)
        · rw [z0] at i1
          rw [z17] at i2
          obtain ⟨w, rfl, hw⟩ : ∃ w : Nat, z = nI w ∧ w ≤ 17 := ⟨z.toInt.toNat, nI_i i1, by omega⟩
          have st2 := rq_s q1 b1 b2 b4 b5 b6
          have e16 : (nI w - nI w / 16 * 16 : Int32) = nI (w % 16) := pk_rem (d := 16) (by omega) (by decide) (by decide)
          have d16 : (nI w / 16 : Int32) = nI (w / 16) := pk_div (d := 16) (by omega) (by decide) (by decide)
          rw [e16] at h2
          unfold b_readScanHead_208 b_readScanHead_236 at h1
          have E : ∀ x : Nat, x ≤ 255 → (nI w = nI x ↔ w = x) := fun x hx => nI_eq (by omega) (by omega)
          by_cases val : w = 0 ∨ w = 1 ∨ w = 16 ∨ w = 17
          · have h1 : b_readScanHead_241 (nI m) x2 x3 (nI (offs A D ly k)) (nI k) (nI l) (nI w) 1 M2 R79 K0 := by
              by_cases w0 : w = 0
              · exact h1.1 ((E 0 (by decide)).mpr w0)
              · have h1 := h1.2 (fun q => w0 ((E 0 (by decide)).mp q))
                by_cases w1 : w = 1
                · exact h1.1 ((E 1 (by decide)).mpr w1)
                · have h1 := h1.2 (fun q => w1 ((E 1 (by decide)).mp q))
                  by_cases w16 : w = 16
                  · exact h1.1 ((E 16 (by decide)).mpr w16)
                  · exact (h1.2 (fun q => w16 ((E 16 (by decide)).mp q))).2 ((E 17 (by decide)).mpr (by omega))
            unfold b_readScanHead_241 at h1
            have h1 := q_must1 (by decide) h1
            obtain ⟨-, h1⟩ := h1.2 b3
            have h1 : (M2.2.1 42 (nI w >>> (4 &&& 31 : Int32) : Int32).toNatClampNeg = 0 → b_readScanHead_283 (nI m) x2 x3 (nI (offs A D ly k)) (nI k) (nI l) (nI w) M2 R79 K0) ∧ (¬ M2.2.1 42 (nI w >>> (4 &&& 31 : Int32) : Int32).toNatClampNeg = 0 → _ ∧ ((¬ M2.2.1 42 (2 + (nI w &&& 1) : Int32).toNatClampNeg = 0 → b_readScanHead_297 (nI m) x2 x3 (nI (offs A D ly k)) (nI k) (nI l) (nI w) M2 R79 K0) ∧ (M2.2.1 42 (2 + (nI w &&& 1) : Int32).toNatClampNeg = 0 → b_readScanHead_283 (nI m) x2 x3 (nI (offs A D ly k)) (nI k) (nI l) (nI w) M2 R79 K0))) := h1
            have e2w : (2 + (nI w &&& 1) : Int32) = nI (2 + w % 16) := by
              rw [n_and1 (by omega), show w % 2 = w % 16 by omega]
              exact nI_add 2 _
            have m42 : M2.2.1 42 = S.2.1 42 := by rw [b1.2 42 rfl, a1.2 42 rfl]
            rw [n_shr4 (by omega), e2w, nI_clamp (show w / 16 < 2 ^ 31 by omega), nI_clamp (show 2 + w % 16 < 2 ^ 31 by omega), m42] at h1
            have h2 := h2.1 (nI_le (b := 1) (by omega) (by decide))
            unfold b_Un_readScanLayer_174 at h2
            obtain ⟨-, -, -, -, -, h2⟩ := h2
            have e2c : (2 + nI (w % 16) : Int32) = nI (2 + w % 16) := nI_add 2 _
            have fco : ∀ c, c < 4 → F2 (co c) 0 = S.2.1 42 c := fun c hc => by
              have o : OB (co c) = true ∧ co c ≠ 60 := by
                have q : c = 0 ∨ c = 1 ∨ c = 2 ∨ c = 3 := by omega
                rcases q with rfl | rfl | rfl | rfl <;> exact ⟨rfl, by decide⟩
              rw [fu_o b5 o.1 o.2 (by decide), vu_ne (vco c hc), fu_o a5 o.1 o.2 (by decide)]
              exact (hC c hc).1
            have f208 : b_Un_readScanLayer_208 UL 59 (nI l) (nI w) (F2, L, PC a b P) K2 T2 → ∃ F', T2 13 (F', L, PC a b P) := by
              intro h
              unfold b_Un_readScanLayer_208 at h
              obtain ⟨-, -, -, h⟩ := h
              have h : p_Re_fail UL 60 _ _ (F2, L, PC a b P) _ T2 := h
              obtain ⟨F', -, -, h⟩ := q_Rfail h
              exact ⟨F', h⟩
            have h2 : (F2 (PC a b P 80 (nI w / 16 : Int32).toNatClampNeg) 0 = 0 → b_Un_readScanLayer_208 UL 59 (nI l) (nI w) (F2, L, PC a b P) K2 T2) ∧ (¬ F2 (PC a b P 80 (nI w / 16 : Int32).toNatClampNeg) 0 = 0 → _ ∧ _ ∧ _ ∧ _ ∧ ((¬ F2 (PC a b P 80 (2 + (nI w - nI w / 16 * 16) : Int32).toNatClampNeg) 0 = 0 → b_Un_readScanLayer_226 UL 59 (nI l) (nI w) (F2, L, PC a b P) K2 T2) ∧ (F2 (PC a b P 80 (2 + (nI w - nI w / 16 * 16) : Int32).toNatClampNeg) 0 = 0 → b_Un_readScanLayer_208 UL 59 (nI l) (nI w) (F2, L, PC a b P) K2 T2))) := h2
            rw [e16, d16, e2c, nI_clamp (show w / 16 < 2 ^ 31 by omega), nI_clamp (show 2 + w % 16 < 2 ^ 31 by omega), co_p (by omega), co_p (by omega), fco _ (by omega), fco _ (by omega)] at h2
            have no283 : b_readScanHead_283 (nI m) x2 x3 (nI (offs A D ly k)) (nI k) (nI l) (nI w) M2 R79 K0 → (∃ F', T2 13 (F', L, PC a b P)) → G := by
              rintro h ⟨F', ht⟩
              unfold b_readScanHead_283 at h
              obtain ⟨Y, hf, h⟩ := q_fail1 (by decide) b3 h
              exact fb297 _ _ _ F' h hf ht
            by_cases c1 : S.2.1 42 (w / 16) = 0
            · exact no283 (h1.1 c1) (f208 (h2.1 c1))
            · obtain ⟨-, h1⟩ := h1.2 c1
              obtain ⟨-, -, -, -, h2⟩ := h2.2 c1
              by_cases c2 : S.2.1 42 (2 + w % 16) = 0
              · exact no283 (h1.2 c2) (f208 (h2.2 c2))
              · have h1 := h1.1 c2
                have h2 := h2.1 c2
                unfold b_readScanHead_297 b_readScanHead_366 at h1
                obtain ⟨-, -, -, -, -, h1⟩ := h1.2 b3
                have c6l : (6 + nI l : Int32).toNatClampNeg = 6 + l := by rw [show (6 + nI l : Int32) = nI (6 + l) from nI_add 6 l, nI_clamp (by omega)]
                have ck : (nI k).toNatClampNeg = k := nI_clamp (by omega)
                rw [c6l, ck, n_shr4 (by omega), e2w] at h1
                rw [vu_ne (show (15 : Nat) ≠ 52 by decide), vu_ne (show (15 : Nat) ≠ 51 by decide), vu_ne (show (15 : Nat) ≠ 50 by decide), vu_ne (show (16 : Nat) ≠ 52 by decide), vu_ne (show (16 : Nat) ≠ 51 by decide), vu_ne (show (16 : Nat) ≠ 50 by decide), b1.2 15 rfl, a1.2 15 rfl, b1.2 16 rfl, a1.2 16 rfl, (hAD l l2).1, (hAD l l2).2.1, pk_mul, nI_add] at h1
                unfold b_Un_readScanLayer_226 at h2
                obtain ⟨-, -, h2⟩ := h2
                have h2 : p_Sc_addLayer UL 73 (nI l) (nI w / 16) (2 + (nI w - nI w / 16 * 16)) (F2, L, PC a b P) (fun S243 => ¬ S243.2.2 59 9 = NU ∧ (c_cl UL (S243.2.2 59 9) = 903 ∧ (vp_in (nI l) (c_ln UL (S243.2.2 59 9)) ∧ (K2 (nI l) (va_up S243.1 (S243.2.2 59 9) (upd (S243.1 (S243.2.2 59 9)) (nI l).toNatClampNeg (vp_nar .boolean 1)), S243.2.1, S243.2.2))))) := h2
                rw [e16, d16, e2c, cl] at h2
                have F73 : F2 73 0 = nI k := by rw [fu_o b5 (show OB 73 = true from rfl) (by decide) (by decide), vu_ne (Ne.symm v73), fu_o a5 (show OB 73 = true from rfl) (by decide) (by decide)]; exact k0
                obtain ⟨Z, y1, y2, y3, y4, y5, h2⟩ := q_addLayer (m := k) (l := l) (Or.inr rfl) F73 (by omega) (by omega) h2
                obtain ⟨-, -, -, h2⟩ := h2
                have h2 : K2 (nI l) (va_up Z 103 (upd (Z 103) l 1), L, PC a b P) := h2
                -- the class's rows now
                have g : ∀ w, w ≠ 60 → OB w = false → F2 w = va_up F1 (u + 8) (va_cpy (F1 78) (F1 (u + 8)) (64 * tt l) (64 * l) 64) w := fun w _ o => b5.2 w o rfl
                have r74 : va_up Z 103 (upd (Z 103) l 1) 74 = upd (F 74) k (nI l) := by
                  rw [vu_ne (by decide), show Z 74 = _ from y3, show F2 (73 + 1) = _ from g 74 (by decide) rfl, vu_ne (Ne.symm v74), a5.2 74 rfl rfl]
                have r75 : va_up Z 103 (upd (Z 103) l 1) 75 = upd (F 75) l (nI (w / 16)) := by
                  rw [vu_ne (by decide), show Z 75 = _ from y4, show F2 (73 + 2) = _ from g 75 (by decide) rfl, vu_ne (Ne.symm v75), a5.2 75 rfl rfl]
                have r76 : va_up Z 103 (upd (Z 103) l 1) 76 = upd (F 76) l (nI (2 + w % 16)) := by
                  rw [vu_ne (by decide), show Z 76 = _ from y5, show F2 (73 + 3) = _ from g 76 (by decide) rfl, vu_ne (Ne.symm v76), a5.2 76 rfl rfl]
                have r103 : va_up Z 103 (upd (Z 103) l 1) 103 = upd (F 103) l 1 := by
                  rw [vu_at, y1 103 (by decide) (by decide) (by decide) (by decide), g 103 (by decide) rfl, vu_ne (Ne.symm v103), f103]
                have r78 : va_up Z 103 (upd (Z 103) l 1) 78 = F 78 := by
                  rw [vu_ne (by decide), y1 78 (by decide) (by decide) (by decide) (by decide), g 78 (by decide) rfl, vu_ne (Ne.symm v78), a5.2 78 rfl rfl]
                have r8 : va_up Z 103 (upd (Z 103) l 1) (u + 8) = va_cpy (F 78) (F (u + 8)) (64 * tt l) (64 * l) 64 := by
                  rw [vu_ne v103, y1 (u + 8) v73 v74 v75 v76, g (u + 8) (Ne.symm v60) vO, vu_at, a5.2 78 rfl rfl, a5.2 (u + 8) vO rfl]
                have r73 : va_up Z 103 (upd (Z 103) l 1) 73 0 = nI (k + 1) := by rw [vu_ne (by decide), y2, upd_at]
                refine ok _ (va_up Z 103 (upd (Z 103) l 1)) l (fun i => if i = k then l else ly i) (fun i => if i = k then w / 16 else cs i) (fun i => if i = k then 2 + w % 16 else cr i) (ag_r (T := (M2.1, va_up (va_up M2.2.1 50 (upd (M2.2.1 50) k (nI l))) 51 (upd ((va_up M2.2.1 50 (upd (M2.2.1 50) k (nI l))) 51) k (nI (w / 16))), M2.2.2)) (ag_r (T := (M2.1, va_up M2.2.1 50 (upd (M2.2.1 50) k (nI l)), M2.2.2)) (ag_r (ag_tr (ag_tr (ag_refl (fs := [10, 34, 35]) (rs := [50, 51, 52])) a1 rfl rfl) b1 rfl rfl) rfl) rfl) rfl) ?_ ?_ ?_ ⟨r73, ⟨by omega, by omega⟩, fun i hi => ?_, fun i j hij hj => ?_, fun l' hl' hni => ?_⟩ l2 (by
                  show R79 (nI m) x2 (nI l) (nI (offs A D (fun i => if i = k then l else ly i) k + A (if k = k then l else ly k) * D (if k = k then l else ly k))) (nI k + 1) _
                  rw [if_pos rfl, offs_congr (ly := ly) k (fun i hi => if_neg (by omega))]
                  exact h1) h2
                · refine fs_tr (fs_tr (fs_fu a5) ?_) (fs_tr (fs_fu b5) ?_)
                  · refine ⟨fun w _ _ _ _ _ h8 => vu_ne h8, fun w k o _ _ _ => ?_⟩
                    rw [vu_ne (fun e => by rw [e, vO] at o; exact absurd o (by decide))]
                  · refine ⟨fun w o h4 h5 h6 h3 _ => ?_, fun w j o _ _ h73 => ?_⟩
                    · rw [vu_ne h3, y1 w (fun e => by rw [e] at o; exact absurd o (by decide)) h4 h5 h6]
                    · rw [vu_ne (fun e => by rw [e] at o; exact absurd o (by decide))]
                      by_cases e : w = 73
                      · subst e
                        rw [y2, upd_ne (h73 rfl)]
                      · rw [y1 w e (fun e => by rw [e] at o; exact absurd o (by decide)) (fun e => by rw [e] at o; exact absurd o (by decide)) (fun e => by rw [e] at o; exact absurd o (by decide))]
                · show _ ≤ (M2.1 34).toInt
                  have t1 := st.2.1
                  have t2 : (M2.1 34).toInt = (M1.1 34).toInt + 1 := st2.2.1
                  omega
                · have t1 : rq M2 (va_up Z 103 (upd (Z 103) l 1)) := rq_w st2.1 (by rw [vu_ne (by decide), y1 59 (by decide) (by decide) (by decide) (by decide)]) (by rw [vu_ne (by decide), y1 60 (by decide) (by decide) (by decide) (by decide)]) (by rw [vu_ne (by decide), y1 61 (by decide) (by decide) (by decide) (by decide)]) (by rw [vu_ne (by decide), y1 62 (by decide) (by decide) (by decide) (by decide)])
                  exact rq_m (M := (M2.1, va_up (va_up M2.2.1 50 (upd (M2.2.1 50) k (nI l))) 51 (upd ((va_up M2.2.1 50 (upd (M2.2.1 50) k (nI l))) 51) k (nI (w / 16))), M2.2.2)) (rq_m (M := (M2.1, va_up M2.2.1 50 (upd (M2.2.1 50) k (nI l)), M2.2.2)) (rq_m t1 (by decide) (by decide)) (by decide) (by decide)) (by decide) (by decide)
                · dsimp only
                  rw [r74, r75, r76, r103, r78, r8, vu_ne (show (50 : Nat) ≠ 52 by decide), vu_ne (show (50 : Nat) ≠ 51 by decide), vu_at, vu_ne (show (51 : Nat) ≠ 52 by decide), vu_at, vu_at, vu_ne (show (51 : Nat) ≠ 50 by decide), vu_ne (show (52 : Nat) ≠ 51 by decide), vu_ne (show (52 : Nat) ≠ 50 by decide), vu_ne (show (42 : Nat) ≠ 52 by decide), vu_ne (show (42 : Nat) ≠ 51 by decide), vu_ne (show (42 : Nat) ≠ 50 by decide), vu_ne (show (39 : Nat) ≠ 52 by decide), vu_ne (show (39 : Nat) ≠ 51 by decide), vu_ne (show (39 : Nat) ≠ 50 by decide), m42, b1.2 39 rfl, a1.2 39 rfl]
                  by_cases e : i = k
                  · subst e
                    rw [if_pos rfl, if_pos rfl, if_pos rfl, upd_at, upd_at, upd_at, upd_at, upd_at, upd_at, upd_at]
                    refine ⟨by omega, by omega, by omega, rfl, rfl, rfl, rfl, rfl, rfl, c1, c2, rfl, told, fun j hj => ?_⟩
                    rw [pk_cpy_in (by omega) (by omega), show 64 * l + j - 64 * l = j by omega]
                  · obtain ⟨q1, q2, q3, q4, q5, q6, q7, q8, q9, q10, q11, q12, q13, q14⟩ := k2 i (by omega)
                    have nl := nly i (by omega)
                    rw [if_neg e, if_neg e, if_neg e, upd_ne e, upd_ne e, upd_ne e, upd_ne e, upd_ne nl, upd_ne nl, upd_ne nl, b1.2 50 rfl, a1.2 50 rfl, b1.2 51 rfl, a1.2 51 rfl, b1.2 52 rfl, a1.2 52 rfl]
                    refine ⟨by omega, q2, q3, q4, q5, q6, q7, q8, q9, q10, q11, q12, q13, fun j hj => ?_⟩
                    rw [pk_cpy_out (by omega)]
                    exact q14 j hj
                · dsimp only
                  by_cases ej : j = k
                  · rw [if_pos ej, if_neg (by omega)]
                    have := (k2 i (by omega)).1
                    omega
                  · rw [if_neg ej, if_neg (by omega)]
                    exact k3 i j hij (by omega)
                · have nl : l' ≠ l := fun e => hni k (by omega) (by dsimp only; rw [if_pos rfl, e])
                  have ni2 : ∀ i, i < k → ly i ≠ l' := fun i hi => by
                    have := hni i (by omega)
                    dsimp only at this
                    rw [if_neg (by omega)] at this
                    exact this
                  dsimp only
                  rw [r103, r8, upd_ne nl, vu_ne (show (47 : Nat) ≠ 52 by decide), vu_ne (show (47 : Nat) ≠ 51 by decide), vu_ne (show (47 : Nat) ≠ 50 by decide), b1.2 47 rfl, a1.2 47 rfl]
                  obtain ⟨q1, q2⟩ := k4 l' hl' ni2
                  refine ⟨q1, fun j hj => ?_⟩
                  rw [pk_cpy_out (by omega)]
                  exact q2 j hj
          · have h1 : b_readScanHead_241 (nI m) x2 x3 (nI (offs A D ly k)) (nI k) (nI l) (nI w) 0 M2 R79 K0 := by
              have h1 := h1.2 (fun q => by have := (E 0 (by decide)).mp q; omega)
              have h1 := h1.2 (fun q => by have := (E 1 (by decide)).mp q; omega)
              have h1 := h1.2 (fun q => by have := (E 16 (by decide)).mp q; omega)
              exact h1.1 (fun q => by have := (E 17 (by decide)).mp q; omega)
            unfold b_readScanHead_241 at h1
            obtain ⟨Y, hf, h1⟩ := q_must0 (S := M2) b3 h1
            obtain ⟨-, -, -, h2⟩ := h2.2 (nI_ge (a := 1) (by omega) (by omega))
            have h2 : p_Re_fail UL 60 _ _ (F2, L, PC a b P) _ T2 := h2
            obtain ⟨F3, -, -, h2⟩ := q_Rfail h2
            exact fb297 _ _ _ F3 (h1.1 (flt_n hf)) hf h2
        · have tb' : B 0 255 z := by
            have t := st.1.2.2.2.1 (M1.1 34).toNatClampNeg
            rw [show z = _ from b7]
            exact t
          obtain ⟨w, rfl, hw⟩ := b16 tb'
          rw [z0, z17, nI_toInt (by omega)] at i1
          unfold b_readScanHead_208 b_readScanHead_236 at h1
          have E : ∀ x : Nat, x ≤ 255 → (nI w = nI x ↔ w = x) := fun x hx => nI_eq (by omega) (by omega)
          have h1 := h1.2 (fun q => by have := (E 0 (by decide)).mp q; omega)
          have h1 := h1.2 (fun q => by have := (E 1 (by decide)).mp q; omega)
          have h1 := h1.2 (fun q => by have := (E 16 (by decide)).mp q; omega)
          have h1 := h1.1 (fun q => by have := (E 17 (by decide)).mp q; omega)
          unfold b_readScanHead_241 at h1
          obtain ⟨Y, hf, h1⟩ := q_must0 (S := M2) b3 h1
          exact fb297 _ _ _ F2 (h1.1 (flt_n hf)) hf h2
    · obtain ⟨F2, h2⟩ := h2.2 sc
      exact no147 _ _ F2 a3 (h1.1 sc) h2
end SL

/-! UNPACK: the head of a scan, both sides -/
/-- layers that were scanned, both sides: the table that they go by -/
def scR (u n : Nat) (M : ms) (F : cF) : Prop := ∀ l, l < n → F 103 l = M.2.1 47 l ∧ (¬ M.2.1 47 l = 0 → ∀ k, k < 64 → F (u + 8) (64 * l + k) = M.2.1 46 (64 * l + sl k))
section CPY
variable {S : ms} {K0 : ms → Prop} {m : Nat} {ly tt : Nat → Nat}
theorem q_497 {x1 : Int32} {i : Nat} {R468 : Int32 → Int32 → ms → Prop} (hi : i < 3) (hl : ly i < 3) (ht : tt (ly i) < 4) (h50 : S.2.1 50 i = nI (ly i)) (h45 : S.2.1 45 (ly i) = nI (tt (ly i))) (h : e_readScanHead_497 x1 (nI i) 0 S R468 K0) : ∃ Z, ag [] [46] S Z ∧ (∀ k, Z.2.1 46 k = if 64 * ly i ≤ k ∧ k < 64 * ly i + 64 then S.2.1 38 (64 * tt (ly i) + (k - 64 * ly i)) else S.2.1 46 k) ∧ R468 x1 (nI i + 1) Z := by
  refine v_e_readScanHead_497 h (fun y6 T => ∃ q, y6 = nI q ∧ q ≤ 64 ∧ ag [] [46] S T ∧ ∀ k, T.2.1 46 k = if 64 * ly i ≤ k ∧ k < 64 * ly i + q then S.2.1 38 (64 * tt (ly i) + (k - 64 * ly i)) else S.2.1 46 k) ⟨0, rfl, by decide, ag_refl, fun k => by rw [if_neg (by omega)]⟩ ?_
  rintro y6 T R ⟨q, rfl, hq, ha, hc⟩ hb
  unfold b_readScanHead_497 at hb
  by_cases e : q = 64
  · right
    subst e
    exact ⟨T, ha, hc, hb.1 (Int32.le_refl _)⟩
  · left
    obtain ⟨-, -, -, -, -, hR⟩ := hb.2 (nI_ge (b := 64) (by omega) (by decide))
    have ci : (nI i).toNatClampNeg = i := nI_clamp (by omega)
    rw [ci, ha.2 50 rfl, h50, nI_clamp (show ly i < 2 ^ 31 by omega), ha.2 45 rfl, h45, show ((64 * nI (ly i)) + nI q : Int32) = nI (64 * ly i + q) from by rw [show (64 * nI (ly i) : Int32) = nI (64 * ly i) from pk_mul 64 _, nI_add], show ((64 * nI (tt (ly i))) + nI q : Int32) = nI (64 * tt (ly i) + q) from by rw [show (64 * nI (tt (ly i)) : Int32) = nI (64 * tt (ly i)) from pk_mul 64 _, nI_add], nI_clamp (show 64 * ly i + q < 2 ^ 31 by omega), nI_clamp (show 64 * tt (ly i) + q < 2 ^ 31 by omega), ha.2 38 rfl] at hR
    refine ⟨_, _, hR, q + 1, nI_1 q, by omega, ag_r ha rfl, fun k => ?_⟩
    dsimp only
    rw [vu_at]
    by_cases ek : k = 64 * ly i + q
    · rw [ek, upd_at, if_pos (by omega), show 64 * ly i + q - 64 * ly i = q by omega]
    · rw [upd_ne ek, hc k]
      by_cases e2 : 64 * ly i ≤ k ∧ k < 64 * ly i + q
      · rw [if_pos e2, if_pos (by omega)]
      · rw [if_neg e2, if_neg (by omega)]
theorem q_468 (hm : m ≤ 3) (h0 : S.1 35 = 0) (hly : ∀ i, i < m → ly i < 3 ∧ tt (ly i) < 4 ∧ S.2.1 50 i = nI (ly i) ∧ S.2.1 45 (ly i) = nI (tt (ly i))) (hinj : ∀ i j, i < j → j < m → ly i < ly j) (h : e_readScanHead_468 (nI m) 0 S K0) :
    ∃ Z, ag [] [46, 47] S Z ∧ (∀ i, i < m → Z.2.1 47 (ly i) = 1 ∧ ∀ j, j < 64 → Z.2.1 46 (64 * ly i + j) = S.2.1 38 (64 * tt (ly i) + j)) ∧ (∀ l, (∀ i, i < m → ly i ≠ l) → Z.2.1 47 l = S.2.1 47 l ∧ ∀ j, j < 64 → Z.2.1 46 (64 * l + j) = S.2.1 46 (64 * l + j)) ∧ K0 Z := by
  refine v_e_readScanHead_468 h (fun y5 T => ∃ q, y5 = nI q ∧ q ≤ m ∧ ag [] [46, 47] S T ∧ (∀ i, i < q → T.2.1 47 (ly i) = 1 ∧ ∀ j, j < 64 → T.2.1 46 (64 * ly i + j) = S.2.1 38 (64 * tt (ly i) + j)) ∧ ∀ l, (∀ i, i < q → ly i ≠ l) → T.2.1 47 l = S.2.1 47 l ∧ ∀ j, j < 64 → T.2.1 46 (64 * l + j) = S.2.1 46 (64 * l + j)) ⟨0, rfl, Nat.zero_le _, ag_refl, fun i hi => absurd hi (Nat.not_lt_zero _), fun l _ => ⟨rfl, fun _ _ => rfl⟩⟩ ?_
  rintro y5 T R ⟨q, rfl, hq, ha, hc, ho⟩ hb
  unfold b_readScanHead_468 b_readScanHead_557 at hb
  by_cases e : q = m
  · right
    subst e
    exact ⟨T, ha, hc, ho, hb.1 (Int32.le_refl _)⟩
  · left
    obtain ⟨-, -, hb⟩ := (hb.2 (nI_ge (by omega) (by omega))).2 (by rw [ha.1 35 rfl]; exact h0)
    obtain ⟨l1, l2, l3, l4⟩ := hly q (by omega)
    have cq : (nI q).toNatClampNeg = q := nI_clamp (by omega)
    have hb : e_readScanHead_497 (nI m) (nI q) 0 (T.1, va_up T.2.1 47 (upd (T.2.1 47) (T.2.1 50 (nI q).toNatClampNeg).toNatClampNeg 1), T.2.2) R K0 := hb
    rw [cq, ha.2 50 rfl, l3, nI_clamp (show ly q < 2 ^ 31 by omega)] at hb
    obtain ⟨Z, z1, z2, hR⟩ := q_497 (S := (T.1, va_up T.2.1 47 (upd (T.2.1 47) (ly q) 1), T.2.2)) (i := q) (by omega) l1 l2 (by dsimp only; rw [vu_ne (show (50 : Nat) ≠ 47 by decide), ha.2 50 rfl]; exact l3) (by dsimp only; rw [vu_ne (show (45 : Nat) ≠ 47 by decide), ha.2 45 rfl]; exact l4) hb
    have e47 : Z.2.1 47 = upd (T.2.1 47) (ly q) 1 := by
      rw [z1.2 47 rfl]
      dsimp only
      rw [vu_at]
    have z2 : ∀ k, Z.2.1 46 k = if 64 * ly q ≤ k ∧ k < 64 * ly q + 64 then S.2.1 38 (64 * tt (ly q) + (k - 64 * ly q)) else T.2.1 46 k := fun k => by
      rw [z2 k]
      dsimp only
      rw [vu_ne (show (38 : Nat) ≠ 47 by decide), vu_ne (show (46 : Nat) ≠ 47 by decide), ha.2 38 rfl]
    refine ⟨_, _, hR, q + 1, nI_1 q, by omega, ag_tr (ag_r ha rfl) z1 rfl rfl, fun i hi => ?_, fun l hl => ?_⟩
    · rw [e47]
      by_cases ei : i = q
      · subst ei
        refine ⟨upd_at, fun j hj => ?_⟩
        rw [z2, if_pos (by omega), show 64 * ly i + j - 64 * ly i = j by omega]
      · have lt := hinj i q (by omega) (by omega)
        obtain ⟨c1, c2⟩ := hc i (by omega)
        refine ⟨by rw [upd_ne (by omega)]; exact c1, fun j hj => ?_⟩
        rw [z2, if_neg (by omega)]
        exact c2 j hj
    · have nl := hl q (by omega)
      obtain ⟨c1, c2⟩ := ho l (fun i hi => hl i (by omega))
      rw [e47]
      refine ⟨by rw [upd_ne (fun e => nl e.symm)]; exact c1, fun j hj => ?_⟩
      rw [z2, if_neg (by omega)]
      exact c2 j hj
end CPY
theorem q_must_f {S : ms} {K0 : ms → Prop} {x1 x2 : Int32} (hf : flt S) (h : p_must x1 x2 S K0) : K0 S := by
  unfold p_must b_must_18 at h
  exact h.1 (flt_n hf)
section HEAD
variable {S : ms} {F : cF} {L : cL} {a b : Bool} {P : Nat → Nat → Nat} {K0 : ms → Prop} {KC : cs → Prop} {T2 : Nat → cs → Prop} {G : Prop} {x1 x2 x4 : Int32}
/-- one of the three bytes that are always the same -/
theorem y_byte {k : Nat} {c : Int32} {K2 : Int32 → cs → Prop} (hk : k < 3) (hc : c = if k = 1 then 63 else 0) (hq : rq S F) (h1 : e_readScanHead_375 x1 x2 x4 (nI k) S K0) (h2 : p_Un_readWithin UL 59 c c (F, L, PC a b P) K2 T2)
    (ok : ∀ v M' F', fuR S M' → fuC F F' → rq M' F' → (S.1 34).toInt ≤ (M'.1 34).toInt → e_readScanHead_375 x1 x2 x4 (nI (k + 1)) M' K0 → K2 v (F', L, PC a b P) → G)
    (bad : ∀ M' F', K0 M' → flt M' → T2 13 (F', L, PC a b P) → G) : G := by
  have fe : ∀ (y1 y2 y4 y5 : Int32) (M1 : ms) (F1 : cF), e_readScanHead_375 y1 y2 y4 y5 M1 K0 → flt M1 → T2 13 (F1, L, PC a b P) → G := fun _ _ _ _ M1 F1 h hf ht => f_e_readScanHead_375 h hf (fun M' hk hf => bad M' F1 hk hf ht)
  have h1 := r_e_readScanHead_375 h1
  unfold b_readScanHead_375 at h1
  have h1 := (h1.2 (nI_ge (b := 3) hk (by decide))).2 hq.1.1
  have h1 : p_next S (fun v389 S389 => b_readScanHead_409 x1 x2 x4 (nI k) v389 c (S389.1, S389.2.1, S389.2.2) (fun zx1 zx2 zx4 zx5 zS => e_readScanHead_375 zx1 zx2 zx4 zx5 zS K0) K0) := by
    refine d_p_next h1 (fun v Z hk2 hi => (hi _).mpr ?_)
    rw [hc]
    by_cases e : k = 1
    · rw [if_pos e]
      exact hk2.2 (by rw [e]; rfl)
    · rw [if_neg e]
      exact hk2.1 (fun q => e ((nI_eq (a := k) (b := 1) (by omega) (by decide)).mp q))
  refine x_readW hq.1 h1 h2 (fun v M1 F1 a1 a2 a3 a4 a5 a6 a7 i1 i2 h1 h2 => ?_) (fun v M1 F1 a1 a3 a7 i1 h1 h2 => ?_) (fun v M1 F1 f1 h1 h2 => ?_)
  · have e : v = c := Int32.toInt.inj (by omega)
    have st := rq_s hq a1 a2 a4 a5 a6
    unfold b_readScanHead_409 at h1
    have h1 := h1.2 e
    unfold b_readScanHead_417 at h1
    have h1 := q_must1 (by decide) h1
    rw [nI_1] at h1
    exact ok v M1 F1 a1 a5 st.1 (by have := st.2.1; omega) h1 h2
  · unfold b_readScanHead_409 at h1
    have h1 := h1.1 (fun e => by rw [e] at i1; omega)
    unfold b_readScanHead_417 at h1
    obtain ⟨Y, hf, h1⟩ := q_must0 (S := M1) a3 h1
    exact fe _ _ _ _ _ F1 h1 hf h2
  · unfold b_readScanHead_409 b_readScanHead_417 at h1
    exact dt_n h1 (fun _ h => fe _ _ _ _ _ F1 (q_must_f f1 h) f1 h2) (fun _ h => fe _ _ _ _ _ F1 (q_must_f f1 h) f1 h2)
end HEAD

/-! UNPACK: the head of a scan, all of it -/
/-- a scan that was told, both sides -/
def snI (u n m : Nat) (W H : Nat) (A D ly cs cr : Nat → Nat) (M : ms) (F : cF) : Prop :=
  M.1 49 = nI m ∧ (1 ≤ m ∧ m ≤ n) ∧ (∀ i, i < m → ly i < n ∧ cs i < 2 ∧ (cr i = 2 ∨ cr i = 3) ∧ M.2.1 50 i = nI (ly i) ∧ M.2.1 51 i = nI (cs i) ∧ M.2.1 52 i = nI (cr i) ∧ F 75 (ly i) = nI (cs i) ∧ F 76 (ly i) = nI (cr i) ∧ ¬ M.2.1 42 (cs i) = 0 ∧ ¬ M.2.1 42 (cr i) = 0) ∧ (∀ i j, i < j → j < m → ly i < ly j) ∧
  (m = 1 → arO 73 F (up (up (H * D (ly 0)) (mx D n)) 8 * up (up (W * A (ly 0)) (mx A n)) 8) 1 (fun t => 64 * ly 0 + (t / up (up (W * A (ly 0)) (mx A n)) 8 * (A (ly 0) * up W (8 * mx A n)) + t % up (up (W * A (ly 0)) (mx A n)) 8))) ∧
  (2 ≤ m → offs A D ly m ≤ 10 ∧ ∃ ov, arO 73 F (up H (8 * mx D n) * up W (8 * mx A n)) (offs A D ly m) ov ∧ ∀ j, j < up H (8 * mx D n) * up W (8 * mx A n) → ∀ i, i < m → ∀ k, k < A (ly i) * D (ly i) → ov (j * offs A D ly m + (offs A D ly i + k)) = bkv A D (fun l => A l * up W (8 * mx A n)) (ly i) (j % up W (8 * mx A n)) (j / up W (8 * mx A n)) k)
/-- what a scan's head leaves alone on the class's side -/
def fhC (u : Nat) (F G : cF) : Prop := (∀ w, OB w = false → w ≠ 74 → w ≠ 75 → w ≠ 76 → w ≠ 77 → w ≠ 103 → w ≠ u + 8 → G w = F w) ∧ ∀ w k, OB w = true → w ≠ 60 → w ≠ 73 → k < 100 → G w k = F w k
theorem fh_fs {u : Nat} {F G : cF} (h : fsC u F G) : fhC u F G := ⟨fun w o a1 a2 a3 _ a5 a6 => h.1 w o a1 a2 a3 a5 a6, fun w k o a1 a2 a3 => h.2 w k o a1 a3 (fun e => absurd e a2)⟩
theorem fh_tr {u : Nat} {F G H : cF} (h : fhC u F G) (h' : fhC u G H) : fhC u F H := ⟨fun w o a1 a2 a3 a4 a5 a6 => (h'.1 w o a1 a2 a3 a4 a5 a6).trans (h.1 w o a1 a2 a3 a4 a5 a6), fun w k o a1 a2 a3 => (h'.2 w k o a1 a2 a3).trans (h.2 w k o a1 a2 a3)⟩
theorem tbR_k {M M' : ms} {F F' : cF} (h : tbR M F) (e38 : M'.2.1 38 = M.2.1 38) (e39 : M'.2.1 39 = M.2.1 39) (f78 : F' 78 = F 78) (f79 : F' 79 = F 79) : tbR M' F' := by
  unfold tbR
  rw [e38, e39, f78, f79]
  exact h
theorem coR_k {M M' : ms} {F F' : cF} (h : coR M F) (e40 : M'.2.1 40 = M.2.1 40) (e41 : M'.2.1 41 = M.2.1 41) (e42 : M'.2.1 42 = M.2.1 42) (f0 : ∀ c, c < 4 → F' (co c) 0 = F (co c) 0) (fk : ∀ c k, c < 4 → 1 ≤ k → k ≤ 4 → F' (co c + k) = F (co c + k)) : coR M' F' := by
  intro c hc
  rw [e42, f0 c hc]
  exact ⟨(h c hc).1, fun hne => cdR_o ((h c hc).2 hne) (fun n _ => by rw [e40]) (fun j _ => by rw [e41]) (fun k k1 k2 => fk c k hc k1 k2)⟩
theorem co_fs {u c : Nat} {F G : cF} (hu : isU u) (h : fsC u F G) (hc : c < 4) : G (co c) 0 = F (co c) 0 ∧ ∀ k, 1 ≤ k → k ≤ 4 → G (co c + k) = F (co c + k) := by
  have q : c = 0 ∨ c = 1 ∨ c = 2 ∨ c = 3 := by omega
  refine ⟨?_, fun k k1 k4 => ?_⟩
  · rcases q with rfl | rfl | rfl | rfl <;> exact h.2 _ 0 rfl (by decide) (by decide) (fun e => absurd e (by decide))
  · have q2 : k = 1 ∨ k = 2 ∨ k = 3 ∨ k = 4 := by omega
    rcases hu with rfl | rfl <;> rcases q with rfl | rfl | rfl | rfl <;> rcases q2 with rfl | rfl | rfl | rfl <;> exact h.1 _ rfl (by decide) (by decide) (by decide) (by decide) (by decide)
section SCAN
variable {S : ms} {F : cF} {L : cL} {a b : Bool} {P : Nat → Nat → Nat} {K0 : ms → Prop} {KC : cs → Prop} {T2 : Nat → cs → Prop} {G : Prop} {u n W H : Nat} {A D tt : Nat → Nat}
/-- all that a scan's head needs -/
def shI (u n W H : Nat) (A D tt : Nat → Nat) (M : ms) (F : cF) : Prop := gR 2 M n W H A D ∧ gC u F n W H A D ∧ gM u F n W H A D ∧ frN n tt M F ∧ tbR M F ∧ coR M F
theorem shI_s {M : ms} {F' : cF} (hu : isU u) (h : shI u n W H A D tt S F) (ha : ag [10, 34, 35] [50, 51, 52] S M) (hg : fsC u F F') : shI u n W H A D tt M F' := by
  obtain ⟨h1, h2, h3, h4, h5, h6⟩ := h
  have ou : OB u = true ∧ u ≠ 60 ∧ u ≠ 73 := by rcases hu with rfl | rfl <;> exact ⟨rfl, by decide, by decide⟩
  have row : ∀ w, OB w = false → w ≠ 74 → w ≠ 75 → w ≠ 76 → w ≠ 103 → w ≠ u + 8 → F' w = F w := hg.1
  have uk : ∀ k, k < 100 → F' u k = F u k := fun k hk => hg.2 u k ou.1 ou.2.1 hk (fun e => absurd e ou.2.2)
  have r : ∀ d, 1 ≤ d → d ≤ 7 → F' (u + d) = F (u + d) := fun d d1 d7 => by
    have q : d = 1 ∨ d = 2 ∨ d = 3 ∨ d = 4 ∨ d = 5 ∨ d = 6 ∨ d = 7 := by omega
    rcases hu with rfl | rfl <;> rcases q with rfl | rfl | rfl | rfl | rfl | rfl | rfl <;> exact row _ rfl (by decide) (by decide) (by decide) (by decide) (by decide)
  have n8 : ∀ w, w = 101 ∨ w = 102 ∨ w = 78 ∨ w = 79 → w ≠ u + 8 := fun w hw => by rcases hu with rfl | rfl <;> omega
  refine ⟨gR_k h1 ha rfl rfl rfl rfl rfl, gC_k h2 (fun k hk => uk k (by omega)) (r 1 (by decide) (by decide)) (r 2 (by decide) (by decide)), gM_k h3 (uk 7 (by decide)) (uk 8 (by decide)) (r 3 (by decide) (by decide)) (r 4 (by decide) (by decide)) (r 5 (by decide) (by decide)) (r 6 (by decide) (by decide)), ?_, tbR_k h5 (ha.2 38 rfl) (ha.2 39 rfl) (row 78 rfl (by decide) (by decide) (by decide) (by decide) (n8 78 (by decide))) (row 79 rfl (by decide) (by decide) (by decide) (by decide) (n8 79 (by decide))), coR_k h6 (ha.2 40 rfl) (ha.2 41 rfl) (ha.2 42 rfl) (fun c hc => (co_fs hu hg hc).1) (fun c k hc k1 k2 => (co_fs hu hg hc).2 k k1 k2)⟩
  unfold frN
  rw [ha.2 44 rfl, ha.2 45 rfl, row 101 rfl (by decide) (by decide) (by decide) (by decide) (n8 101 (by decide)), row 102 rfl (by decide) (by decide) (by decide) (by decide) (n8 102 (by decide))]
  exact h4
/-- the layers of a scan -/
theorem y_sls {m : Nat} {x1 x2 : Int32} {E0 : Nat → Int32} (hu : isU u) (hpu : PC a b P 59 1 = u) (hmn : m ≤ n)
    (bad : ∀ M' F', K0 M' → flt M' → T2 13 (F', L, PC a b P) → G) :
    ∀ d k lst (S : ms) (F : cF) (ly cs cr : Nat → Nat) (x3 : Int32), m - k = d → k ≤ m → rq S F → shI u n W H A D tt S F → skI u n k lst ly cs cr tt E0 S F → x3.toInt = (lst : Int) - 1 → e_readScanHead_79 (nI m) x2 x3 (nI (offs A D ly k)) (nI k) S K0 → e_Un_readScan_56 UL 59 x1 (nI m) (nI lst) (nI k) (F, L, PC a b P) KC T2 →
    (∀ M' F' ly cs cr lst, ag [10, 34, 35] [50, 51, 52] S M' → fsC u F F' → (S.1 34).toInt ≤ (M'.1 34).toInt → rq M' F' → shI u n W H A D tt M' F' → skI u n m lst ly cs cr tt E0 M' F' → e_readScanHead_375 (nI m) x2 (nI (offs A D ly m)) 0 M' K0 → p_Un_readWithin UL 59 0 0 (F', L, PC a b P) (fun v79 S79 => p_Un_readWithin UL 59 63 63 S79 (fun v88 S88 => p_Un_readWithin UL 59 0 0 S88 (fun v95 S95 => (nI m ≤ 1 → (b_Un_readScan_130 UL 59 S95 KC T2)) ∧ (¬ (nI m ≤ 1) → (¬ S95.2.2 59 2 = NU ∧ (¬ S95.2.2 59 1 = NU ∧ (c_cl UL (S95.2.2 59 2) = 10 ∧ (p_Sc_blocksTogether UL (S95.2.2 59 2) (S95.2.2 59 1) S95 (fun v112 S112 => (v112 ≤ 10 → (b_Un_readScan_130 UL 59 S112 KC T2)) ∧ (¬ (v112 ≤ 10) → (¬ S112.2.2 59 0 = NU ∧ (c_cl UL (S112.2.2 59 0) = 8 ∧ (p_Re_fail UL (S112.2.2 59 0) 6 x1 S112 (fun S127 => b_Un_readScan_130 UL 59 S127 KC T2) T2))))))))))) T2) T2) T2 → G) → G := by
  intro d
  induction d with
  | zero =>
    intro k lst S F ly cs cr x3 hd hk hq hs hk1 hx3 h1 h2 ok
    obtain rfl : k = m := by omega
    have h1 := r_e_readScanHead_79 h1
    unfold b_readScanHead_79 b_readScanHead_372 at h1
    have h2 := r_e_Un_readScan_56 h2
    unfold b_Un_readScan_56 at h2
    exact ok S F ly cs cr lst ag_refl fs_refl (Int.le_refl _) hq hs hk1 (h1.1 (Int32.le_refl _)) (h2.1 (Int32.le_refl _))
  | succ d ih =>
    intro k lst S F ly cs cr x3 hd hk hq hs hk1 hx3 h1 h2 ok
    have km : k < m := by omega
    have n3 := hs.1.n3
    have h1 := r_e_readScanHead_79 h1
    unfold b_readScanHead_79 at h1
    have h1 := (h1.2 (nI_ge km (by omega))).2 hq.1.1
    have h2 := r_e_Un_readScan_56 h2
    unfold b_Un_readScan_56 at h2
    have h2 := h2.2 (nI_ge km (by omega))
    have g := hs.1
    refine y_sl (A := A) (D := D) hu hpu hq hs.2.2.2.1 hs.2.2.2.2.1 hs.2.2.2.2.2 n3 g.2.2.1 hs.2.1.2.2.1 (fun l hl => ⟨(g.2.2.2.2.2.2 l hl).1, (g.2.2.2.2.2.2 l hl).2.1, by have := (g.2.2.2.2.2.2 l hl).2.2.1; omega, by have := (g.2.2.2.2.2.2 l hl).2.2.2; omega⟩) hk1 (fun y1 y2 y3 y4 y5 M' F' hk hf ht => f_e_readScanHead_79 hk hf (fun M' hk hf => bad M' F' hk hf ht)) bad hx3 h1 h2 (fun M1 F1 l ly' cs' cr' c1 c2 c3 c4 c5 c6 h1 h2 => ?_)
    rw [nI_1] at h1
    rw [nI_1, nI_1] at h2
    exact ih (k + 1) (l + 1) M1 F1 ly' cs' cr' (nI l) (by omega) (by omega) c4 (shI_s hu hs c1 c2) c5 (by rw [nI_toInt (by omega)]; omega) h1 h2 (fun M' F' ly2 cs2 cr2 lst2 e1 e2 e3 e4 e5 e6 h1 h2 => ok M' F' ly2 cs2 cr2 lst2 (ag_tr c1 e1 rfl rfl) (fs_tr c2 e2) (by omega) e4 e5 e6 h1 h2)
theorem y_scan (hu : isU u) (hpu : PC a b P 59 1 = u) (hq : rq S F) (hs : shI u n W H A D tt S F) (hsc : scR u n S F) (h1 : p_readScanHead S K0) (h2 : p_Un_readScan UL 59 (F, L, PC a b P) KC T2)
    (bad : ∀ M' F', K0 M' → flt M' → T2 13 (F', L, PC a b P) → G)
    (ok : ∀ M' F' m ly cs cr, ag [10, 34, 35, 49] [46, 47, 50, 51, 52] S M' → fhC u F F' → (S.1 34).toInt ≤ (M'.1 34).toInt → rq M' F' → snI u n m W H A D ly cs cr M' F' → scR u n M' F' → K0 M' → KC (F', L, PC a b P) → G) : G := by
  have n3 := hs.1.n3
  have n1 := hs.1.2.2.2.1
  have z1 : (1 : Int32).toInt = 1 := by decide
  have f71 : ∀ (x y : Int32) (M1 : ms) (F1 : cF), b_readScanHead_71 x y M1 K0 → flt M1 → T2 13 (F1, L, PC a b P) → G := fun x y M1 F1 h hf ht => f_b_readScanHead_71 h hf (fun M' hk hf => bad M' F1 hk hf ht)
  have f32 : ∀ (x y s : Int32) (M1 : ms) (F1 : cF), b_readScanHead_32 x y s M1 K0 → flt M1 → T2 13 (F1, L, PC a b P) → G := fun x y s M1 F1 h hf ht => f_b_readScanHead_32 h hf (fun M' hk hf => bad M' F1 hk hf ht)
  have f460 : ∀ (x : Int32) (M1 : ms) (F1 : cF), b_readScanHead_460 x M1 K0 → flt M1 → T2 13 (F1, L, PC a b P) → G := fun x M1 F1 h hf ht => f_b_readScanHead_460 h hf (fun M' hk hf => bad M' F1 hk hf ht)
  unfold p_readScanHead b_readScanHead_31 at h1
  unfold p_Un_readScan at h2
  obtain ⟨-, -, -, -, h2⟩ := h2
  have h2 : p_Un_readWithin UL 59 1 (F (PC a b P 59 1) 2) (F, L, PC a b P) (fun v17 S17 => (¬ (S17.1 59 13) = (6 + (2 * v17)) → (b_Un_readScan_40 UL 59 (F 60 1) v17 0 S17 KC T2)) ∧ ((S17.1 59 13) = (6 + (2 * v17)) → (b_Un_readScan_40 UL 59 (F 60 1) v17 1 S17 KC T2))) T2 := h2
  rw [hpu, hs.2.1.2.2.1] at h2
  refine x_readW hq.1 h1 h2 (fun v M1 F1 a1 a2 a3 a4 a5 a6 a7 i1 i2 h1 h2 => ?_) (fun v M1 F1 a1 a3 a7 i1 h1 h2 => ?_) (fun v M1 F1 f1 h1 h2 => ?_)
  · rw [z1] at i1
    rw [nI_toInt (by omega)] at i2
    obtain ⟨m, rfl, hm1, hmn⟩ : ∃ m : Nat, v = nI m ∧ 1 ≤ m ∧ m ≤ n := ⟨v.toInt.toNat, nI_i (by omega), by omega, by omega⟩
    have st := rq_s hq a1 a2 a4 a5 a6
    obtain ⟨-, h1⟩ := h1.2 (nI_nle (by omega) (by omega))
    have h1 := h1.2 (by show ¬ M1.2.1 14 2 < nI m; rw [a1.2 14 rfl, hs.1.2.2.1]; exact nI_nlt hmn (by omega))
    unfold b_readScanHead_32 at h1
    have h1 := (q_must1 (by decide) h1).2 a3
    have el : M1.1 36 - M1.1 37 = F1 59 13 := by
      rw [← st.1.2.1.1]
      exact i_sub st.1.2.1.2
    have h1 : (M1.1 36 - M1.1 37 = (6 + (2 * nI m)) → b_readScanHead_71 (nI m) (M1.1 34 - 1) M1 K0) ∧ (¬ M1.1 36 - M1.1 37 = (6 + (2 * nI m)) → _) := h1
    rw [el] at h1
    by_cases len : F1 59 13 = (6 + (2 * nI m) : Int32)
    · have h1 := h1.1 len
      have h2 := h2.2 len
      unfold b_readScanHead_71 at h1
      unfold b_Un_readScan_40 at h2
      have h2 := q_wantLen1 (by decide) h2
      obtain ⟨-, -, h2⟩ := h2
      have h2 : e_Un_readScan_56 UL 59 (F 60 1) (nI m) 0 0 (va_up F1 73 (upd (F1 73) 0 0), L, PC a b P) KC T2 := h2
      have fs1 : fsC u F (va_up F1 73 (upd (F1 73) 0 0)) := by
        refine fs_tr (fs_fu a5) ⟨fun w o _ _ _ _ _ => vu_ne (fun e => by rw [e] at o; exact absurd o (by decide)), fun w k o _ _ h73 => ?_⟩
        by_cases e : w = 73
        · subst e
          rw [vu_at, upd_ne (h73 rfl)]
        · rw [vu_ne e]
      have q1 : rq M1 (va_up F1 73 (upd (F1 73) 0 0)) := rq_c st.1 (by decide) (by decide) (by decide) (by decide)
      have sh1 : shI u n W H A D tt M1 (va_up F1 73 (upd (F1 73) 0 0)) := shI_s hu hs (ag_tr (ag_refl (fs := [10, 34, 35]) (rs := [50, 51, 52])) a1 rfl rfl) fs1
      have u8 : u + 8 ≠ 73 ∧ OB (u + 8) = false := by rcases hu with rfl | rfl <;> exact ⟨by decide, rfl⟩
      have e103 : va_up F1 73 (upd (F1 73) 0 0) 103 = F 103 := by rw [vu_ne (by decide), a5.2 103 rfl rfl]
      have sk0 : skI u n 0 0 (fun _ => 0) (fun _ => 0) (fun _ => 0) tt (F (u + 8)) M1 (va_up F1 73 (upd (F1 73) 0 0)) := by
        refine ⟨by rw [vu_at, upd_at]; rfl, ⟨Nat.le_refl _, Nat.zero_le _⟩, fun i hi => absurd hi (Nat.not_lt_zero _), fun i j _ hj => absurd hj (Nat.not_lt_zero _), fun l hl _ => ⟨?_, fun j _ => ?_⟩⟩
        · rw [e103, a1.2 47 rfl]
          exact (hsc l hl).1
        · rw [vu_ne u8.1, a5.2 (u + 8) u8.2 rfl]
      refine y_sls (x1 := F 60 1) (x2 := M1.1 34 - 1) hu hpu hmn bad m 0 0 M1 _ (fun _ => 0) (fun _ => 0) (fun _ => 0) (-1) rfl (Nat.zero_le _) q1 sh1 sk0 (by decide) h1 h2 (fun M2 F2 ly cs cr lst b1 b2 b3 b4 b5 b6 h1 h2 => ?_)
      refine y_byte (k := 0) (c := 0) (by decide) rfl b4 h1 h2 (fun v3 M3 F3 c1 c2 c3 c4 h1 h2 => ?_) bad
      refine y_byte (k := 1) (c := 63) (by decide) rfl c3 h1 h2 (fun v4 M4 F4 d1 d2 d3 d4 h1 h2 => ?_) bad
      refine y_byte (k := 2) (c := 0) (by decide) rfl d3 h1 h2 (fun v5 M5 F5 e1 e2 e3 e4 h1 h2 => ?_) bad
      have aM : ag [10, 34, 35] [] M2 M5 := ag_tr (ag_tr c1 d1 rfl rfl) e1 rfl rfl
      have gF : fuC F2 F5 := agc_tr (agc_tr c2 d2 rfl rfl) e2 rfl rfl
      have sh5 : shI u n W H A D tt M5 F5 := shI_s hu b5 (ag_tr (ag_refl (fs := [10, 34, 35]) (rs := [50, 51, 52])) aM rfl rfl) (fs_fu gF)
      have fsF5 : fsC u F F5 := fs_tr (fs_tr fs1 b2) (fs_fu gF)
      have aM5 : ag [10, 34, 35] [50, 51, 52] S M5 := ag_tr (ag_tr (ag_tr (ag_refl (fs := [10, 34, 35]) (rs := [50, 51, 52])) a1 rfl rfl) b1 rfl rfl) aM rfl rfl
      obtain ⟨k0, ⟨k1a, k1b⟩, k2, k3, k4⟩ := b6
      have h1 := r_e_readScanHead_375 h1
      unfold b_readScanHead_375 at h1
      have h1 := h1.1 (by decide)
      have r74 : ∀ w, w = 74 ∨ w = 75 ∨ w = 76 ∨ w = 103 ∨ w = 78 → F5 w = F2 w := fun w hw => by rcases hw with rfl | rfl | rfl | rfl | rfl <;> exact gF.2 _ rfl rfl
      have r8 : F5 (u + 8) = F2 (u + 8) := gF.2 (u + 8) u8.2 rfl
      have f73 : F5 73 0 = nI m := by rw [gF.1 73 0 rfl rfl]; exact k0
      -- behind the test of the blocks
      have fin : b_readScanHead_460 (nI m) M5 K0 → (2 ≤ m → offs A D ly m ≤ 10) → b_Un_readScan_130 UL 59 (F5, L, PC a b P) KC T2 → G := by
        intro h1 h10 h2
        unfold b_readScanHead_460 at h1
        obtain ⟨Z, z1, z2, z3, h1⟩ := q_468 (S := (upd M5.1 49 (nI m), M5.2.1, M5.2.2)) (ly := ly) (tt := tt) (by omega) (by show upd M5.1 49 (nI m) 35 = 0; rw [upd_ne (by decide)]; exact e3.1.1) (fun i hi => by
          obtain ⟨q1, -, -, q4, -⟩ := k2 i hi
          have t := sh5.2.2.2.1.2 (ly i) (by omega)
          exact ⟨by omega, t.2.2.2, by show M5.2.1 50 i = _; rw [aM.2 50 rfl]; exact q4, t.2.2.1⟩) k3 h1
        have z2 : ∀ i, i < m → Z.2.1 47 (ly i) = 1 ∧ ∀ j, j < 64 → Z.2.1 46 (64 * ly i + j) = M5.2.1 38 (64 * tt (ly i) + j) := z2
        have z3 : ∀ l, (∀ i, i < m → ly i ≠ l) → Z.2.1 47 l = M5.2.1 47 l ∧ ∀ j, j < 64 → Z.2.1 46 (64 * l + j) = M5.2.1 46 (64 * l + j) := z3
        unfold b_Un_readScan_130 at h2
        obtain ⟨-, -, -, h2⟩ := h2
        have h2 : p_Sc_arrange UL 73 (PC a b P 59 1) (F5, L, PC a b P) (fun S138 => KC S138) := h2
        rw [hpu] at h2
        have aZ : ag [10, 34, 35, 49] [46, 47, 50, 51, 52] S Z := ag_tr (ag_f (T := M5) (ag_tr (ag_refl (fs := [10, 34, 35, 49]) (rs := [46, 47, 50, 51, 52])) aM5 rfl rfl) rfl) z1 rfl rfl
        have zf : ∀ k, k ≠ 49 → Z.1 k = M5.1 k := fun k hk => by rw [z1.1 k rfl]; exact upd_ne hk
        have zr : ∀ r, r ≠ 46 → r ≠ 47 → Z.2.1 r = M5.2.1 r := fun r r1 r2 => by rw [z1.2 r (by simp only [List.contains_cons, List.contains_nil, Bool.or_false, Bool.or_eq_false_iff, beq_eq_false_iff_ne]; exact ⟨r1, r2⟩)]
        -- arranged
        have ar : ∃ Y, (∀ w, w ≠ 73 → w ≠ 77 → Y w = F5 w) ∧ (m = 1 → arO 73 Y (up (up (H * D (ly 0)) (mx D n)) 8 * up (up (W * A (ly 0)) (mx A n)) 8) 1 (fun t => 64 * ly 0 + (t / up (up (W * A (ly 0)) (mx A n)) 8 * (A (ly 0) * up W (8 * mx A n)) + t % up (up (W * A (ly 0)) (mx A n)) 8))) ∧ (2 ≤ m → ∃ ov, arO 73 Y (up H (8 * mx D n) * up W (8 * mx A n)) (offs A D ly m) ov ∧ ∀ j, j < up H (8 * mx D n) * up W (8 * mx A n) → ∀ i, i < m → ∀ k, k < A (ly i) * D (ly i) → ov (j * offs A D ly m + (offs A D ly i + k)) = bkv A D (fun l => A l * up W (8 * mx A n)) (ly i) (j % up W (8 * mx A n)) (j / up W (8 * mx A n)) k) ∧ KC (Y, L, PC a b P) := by
          by_cases m1 : m = 1
          · obtain ⟨Y, y1, -, y3, h2⟩ := q_arrange1 (ly := ly) (Or.inr rfl) (isU_p hu) sh5.2.1 sh5.2.2.1 (by rw [f73, m1]) (by show F5 74 0 = _; rw [r74 74 (Or.inl rfl)]; exact (k2 0 (by omega)).2.2.2.2.2.2.1) (by have := (k2 0 (by omega)).1; omega) h2
            exact ⟨Y, y1, fun _ => y3, fun q => absurd q (by omega), h2⟩
          · obtain ⟨Y, ov, y1, -, y3, y4, h2⟩ := q_arrangeN (m := m) (ly := ly) (Or.inr rfl) (isU_p hu) sh5.2.1 sh5.2.2.1 ⟨by omega, by omega⟩ f73 (fun i hi => ⟨by show F5 74 i = _; rw [r74 74 (Or.inl rfl)]; exact (k2 i hi).2.2.2.2.2.2.1, by have := (k2 i hi).1; omega⟩) (fun i j hi hj e => by
              rcases Nat.lt_trichotomy i j with q | q | q
              · have := k3 i j q hj; omega
              · exact q
              · have := k3 j i q hi; omega) h2
            exact ⟨Y, y1, fun q => absurd q m1, fun _ => ⟨ov, y3, y4⟩, h2⟩
        obtain ⟨Y, y1, y2, y3, h2⟩ := ar
        have y59 : Y 59 = F5 59 := y1 59 (by decide) (by decide)
        have y60 : Y 60 = F5 60 := y1 60 (by decide) (by decide)
        have qY : rq Z Y := by
          obtain ⟨r1, r2, r3, r4, r5⟩ := e3
          exact ⟨rd_b r1 (zf 35 (by decide)) (zf 34 (by decide)) (zf 7 (by decide)) (zr 6 (by decide) (by decide)) (by rw [y60]) (by rw [y1 61 (by decide) (by decide)]) (y1 62 (by decide) (by decide)), rl_k r2 (zf 36 (by decide)) (zf 37 (by decide)) (by rw [y59]) (by rw [y59]), by unfold od; rw [zr 22 (by decide) (by decide)]; exact r3, by unfold tBy; rw [zr 6 (by decide) (by decide)]; exact r4, by unfold atI; rw [zf 34 (by decide), zf 7 (by decide)]; exact r5⟩
        have u77 : u + 8 ≠ 77 := by rcases hu with rfl | rfl <;> decide
        refine ok Z Y m ly cs cr aZ (fh_tr (fh_fs fsF5) ⟨fun w o _ _ _ h77 _ _ => y1 w (fun e => by rw [e] at o; exact absurd o (by decide)) h77, fun w k o _ h73 _ => by rw [y1 w h73 (fun e => by rw [e] at o; exact absurd o (by decide))]⟩) ?_ qY ⟨?_, ⟨hm1, hmn⟩, fun i hi => ?_, k3, y2, fun q => ⟨h10 q, y3 q⟩⟩ (fun l hl => ?_) h1 h2
        · have t0 : (Z.1 34).toInt = (M5.1 34).toInt := by rw [zf 34 (by decide)]
          have t1 := st.2.1
          omega
        · rw [z1.1 49 rfl]
          show upd M5.1 49 (nI m) 49 = _
          rw [upd_at]
        · obtain ⟨q1, q2, q3, q4, q5, q6, q7, q8, q9, q10, q11, q12, q13, q14⟩ := k2 i hi
          rw [zr 50 (by decide) (by decide), zr 51 (by decide) (by decide), zr 52 (by decide) (by decide), zr 42 (by decide) (by decide), aM.2 50 rfl, aM.2 51 rfl, aM.2 52 rfl, aM.2 42 rfl, y1 75 (by decide) (by decide), y1 76 (by decide) (by decide), r74 75 (by decide), r74 76 (by decide)]
          exact ⟨by omega, q2, q3, q4, q5, q6, q8, q9, q10, q11⟩
        · rw [y1 103 (by decide) (by decide), r74 103 (by decide), y1 (u + 8) u8.1 u77, r8]
          by_cases ch : ∃ i, i < m ∧ ly i = l
          · obtain ⟨i, hi, rfl⟩ := ch
            obtain ⟨q1, q2, q3, q4, q5, q6, q7, q8, q9, q10, q11, q12, q13, q14⟩ := k2 i hi
            obtain ⟨w1, w2⟩ := z2 i hi
            rw [w1]
            refine ⟨q12, fun _ k hk => ?_⟩
            have tl := (sh5.2.2.2.1.2 (ly i) hl).2.2.2
            rw [q14 k hk, w2 (sl k) (sl_lt k)]
            have tb := (sh5.2.2.2.2.1 (tt (ly i)) tl).2 (by rw [aM.2 39 rfl]; exact q13) k hk
            rw [r74 78 (by decide)] at tb
            exact tb
          · have ni : ∀ i, i < m → ly i ≠ l := fun i hi e => ch ⟨i, hi, e⟩
            obtain ⟨w1, w2⟩ := z3 l ni
            obtain ⟨v1, v2⟩ := k4 l hl ni
            rw [w1, aM.2 47 rfl]
            refine ⟨v1, fun hne k hk => ?_⟩
            rw [v2 k hk, w2 (sl k) (sl_lt k), aM.2 46 rfl, b1.2 46 rfl, a1.2 46 rfl]
            refine (hsc l hl).2 ?_ k hk
            rw [b1.2 47 rfl, a1.2 47 rfl] at hne
            exact hne
      unfold b_readScanHead_432 at h1
      have h1 := h1.2 e3.1.1
      by_cases m1 : m = 1
      · exact fin (h1.1 (by rw [m1]; decide)) (fun q => absurd q (by omega)) (h2.1 (by rw [m1]; decide))
      · have h1 := h1.2 (nI_ge (a := 1) (by omega) (by omega))
        obtain ⟨-, -, -, h2⟩ := h2.2 (nI_ge (a := 1) (by omega) (by omega))
        have h2 : p_Sc_blocksTogether UL 73 (PC a b P 59 1) (F5, L, PC a b P) (fun v112 S112 => (v112 ≤ 10 → (b_Un_readScan_130 UL 59 S112 KC T2)) ∧ (¬ (v112 ≤ 10) → (¬ S112.2.2 59 0 = NU ∧ (c_cl UL (S112.2.2 59 0) = 8 ∧ (p_Re_fail UL (S112.2.2 59 0) 6 (F 60 1) S112 (fun S127 => b_Un_readScan_130 UL 59 S127 KC T2) T2))))) := h2
        rw [hpu] at h2
        have gc := sh5.2.1
        have gm := sh5.2.2.1
        have h2 := q_blocksT (A := A) (D := D) (gw := fun l => A l * up W (8 * mx A n)) (ly := ly) (n := n) (m := m) (Or.inr rfl) (isU_p hu) ⟨f73, by omega, fun i hi => ⟨by show F5 74 i = _; rw [r74 74 (Or.inl rfl)]; exact (k2 i hi).2.2.2.2.2.2.1, by have := (k2 i hi).1; omega⟩, n3, fun l hl => ⟨(gc.2.2.2.2.2.2.2.2 l hl).1, (gc.2.2.2.2.2.2.2.2 l hl).2.1, (gc.2.2.2.2.2.2.2.2 l hl).2.2.1, (gc.2.2.2.2.2.2.2.2 l hl).2.2.2, (gm.2.2 l hl).2.2.1⟩⟩ h2
        have ob : offs A D ly m ≤ 12 := by
          have pr : ∀ i, i ≤ m → offs A D ly i ≤ 4 * i := by
            intro i
            induction i with
            | zero => intro _; exact Nat.le_refl _
            | succ i ihi =>
              intro hi
              have t := ihi (by omega)
              have tl := gc.2.2.2.2.2.2.2.2 (ly i) (by have := (k2 i (by omega)).1; omega)
              have : A (ly i) * D (ly i) ≤ 4 := by rcases tl.2.2.1 with e | e <;> rcases tl.2.2.2 with d | d <;> rw [e, d] <;> decide
              show offs A D ly i + A (ly i) * D (ly i) ≤ 4 * (i + 1)
              omega
          have := pr m (Nat.le_refl _)
          omega
        by_cases b10 : offs A D ly m ≤ 10
        · exact fin (h1.1 (nI_le (b := 10) b10 (by decide))) (fun _ => b10) (h2.1 (nI_le (b := 10) b10 (by decide)))
        · obtain ⟨Y, hf, h1⟩ := q_fail1 (by decide) e3.1.1 (h1.2 (nI_ge (a := 10) (by omega) (by omega)))
          obtain ⟨-, -, h2⟩ := h2.2 (nI_ge (a := 10) (by omega) (by omega))
          have h2 : p_Re_fail UL 60 _ _ (F5, L, PC a b P) _ T2 := h2
          obtain ⟨F6, -, -, h2⟩ := q_Rfail h2
          exact f460 _ _ F6 h1 hf h2
    · obtain ⟨Y, hf, h1⟩ := q_fail1 (by decide) a3 (h1.2 len)
      have h2 := h2.1 len
      unfold b_Un_readScan_40 at h2
      obtain ⟨F5, h2⟩ := q_wantLen0 h2
      exact f71 _ _ _ F5 h1 hf h2
  · have tb : B 0 255 v := by
      have t := hq.2.2.2.1 (S.1 34).toNatClampNeg
      rw [← a7] at t
      exact t
    obtain ⟨w, rfl, hw⟩ := b16 tb
    rw [z1, nI_toInt (by omega), nI_toInt (by omega)] at i1
    have h1 : b_readScanHead_32 (nI w) (M1.1 34 - 1) 0 M1 K0 := by
      by_cases w0 : w = 0
      · exact h1.1 (by rw [w0]; decide)
      · exact (h1.2 (nI_nle (by omega) (by omega))).2.1 (by show M1.2.1 14 2 < nI w; rw [a1.2 14 rfl, hs.1.2.2.1]; exact nI_lt (by omega) (by omega))
    unfold b_readScanHead_32 at h1
    obtain ⟨Y, hf, h1⟩ := q_must0 (S := M1) a3 h1
    exact f71 _ _ _ F1 (h1.1 (flt_n hf)) hf h2
  · refine dt_p h1 (fun _ h => f32 _ _ _ _ F1 h f1 h2) (fun _ h => ?_)
    exact dt_p h.2 (fun _ h => f32 _ _ _ _ F1 h f1 h2) (fun _ h => f32 _ _ _ _ F1 h f1 h2)
end SCAN

