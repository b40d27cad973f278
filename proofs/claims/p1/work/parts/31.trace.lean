/-! LOOPS BY THEIR TRACES: the states at the head, one by one, give invariant and measure -/
/-- the greatest place up to n at which s stands in the trace t -/
noncomputable def tr_g {σ : Type} (t : Nat → σ) (s : σ) : Nat → Nat
  | 0 => 0
  | n + 1 => @ite _ (t (n + 1) = s) (Classical.propDecidable _) (n + 1) (tr_g t s n)
theorem tr_g_le {σ : Type} (t : Nat → σ) (s : σ) : ∀ n, tr_g t s n ≤ n
  | 0 => Nat.le_refl 0
  | n + 1 => by
    unfold tr_g
    split
    · exact Nat.le_refl _
    · exact Nat.le_succ_of_le (tr_g_le t s n)
theorem tr_g_at {σ : Type} (t : Nat → σ) (s : σ) : ∀ n, (∃ i, i ≤ n ∧ t i = s) → t (tr_g t s n) = s
  | 0, ⟨i, hi, h⟩ => by
    have e : i = 0 := by omega
    subst e; exact h
  | n + 1, ⟨i, hi, h⟩ => by
    unfold tr_g
    split
    · assumption
    · rename_i hne
      refine tr_g_at t s n ⟨i, ?_, h⟩
      by_cases e : i = n + 1
      · subst e; exact absurd h hne
      · omega
theorem tr_g_ge {σ : Type} (t : Nat → σ) (s : σ) : ∀ n i, i ≤ n → t i = s → i ≤ tr_g t s n
  | 0, i, hi, _ => by omega
  | n + 1, i, hi, h => by
    unfold tr_g
    split
    · exact hi
    · rename_i hne
      refine tr_g_ge t s n i ?_ h
      by_cases e : i = n + 1
      · subst e; exact absurd h hne
      · omega
theorem tr_loop {σ : Type} (B : σ → (σ → Prop) → Prop) (t : Nat → σ) (N : Nat) (hx : ∀ R, B (t N) R) (hs : ∀ i, i < N → ∀ R : σ → Prop, R (t (i + 1)) → B (t i) R) : ∃ (I : σ → Prop) (μ : σ → Nat), I (t 0) ∧ ∀ s, I s → B s (fun s' => I s' ∧ μ s' < μ s) := by
  refine ⟨fun s => ∃ i, i ≤ N ∧ t i = s, fun s => N - tr_g t s N, ⟨0, Nat.zero_le N, rfl⟩, fun s hI => ?_⟩
  have h1 := tr_g_at t s N hI
  have h2 := tr_g_le t s N
  rcases Nat.lt_or_ge (tr_g t s N) N with h3 | h3
  · have h4 := hs _ h3 (fun s' => (∃ i, i ≤ N ∧ t i = s') ∧ N - tr_g t s' N < N - tr_g t s N) ⟨⟨_, h3, rfl⟩, by
      have := tr_g_ge t (t (tr_g t s N + 1)) N _ h3 rfl
      omega⟩
    rw [h1] at h4
    exact h4
  · have h5 : tr_g t s N = N := by omega
    have h6 := hx (fun s' => (∃ i, i ≤ N ∧ t i = s') ∧ N - tr_g t s' N < N - tr_g t s N)
    rw [h5] at h1
    rw [h1] at h6
    exact h6
theorem tr_1 {A1 : Type} {P : A1 → (A1 → Prop) → Prop} {x1 : A1} (a1 : Nat → A1) (N : Nat) (hx1 : a1 0 = x1) (hx : ∀ R, P (a1 N) R) (hs : ∀ i, i < N → ∀ R : A1 → Prop, R (a1 (i + 1)) → P (a1 i) R) : ∃ (I : A1 → Prop) (μ : A1 → Nat), I x1 ∧ ∀ y1, I y1 → P y1 (fun z1 => I z1 ∧ μ z1 < μ y1) := by
  obtain ⟨I, μ, h0, h⟩ := tr_loop (σ := A1) (fun s R => P s (fun z1 => R (z1))) (fun i => (a1 i)) N (fun R => hx _) (fun i hi R hR => hs i hi _ hR)
  refine ⟨fun y1 => I (y1), fun y1 => μ (y1), ?_, fun y1 hI => h (y1) hI⟩
  subst hx1;
  exact h0
theorem tr_2 {A1 A2 : Type} {P : A1 → A2 → (A1 → A2 → Prop) → Prop} {x1 : A1} {x2 : A2} (a1 : Nat → A1) (a2 : Nat → A2) (N : Nat) (hx1 : a1 0 = x1) (hx2 : a2 0 = x2) (hx : ∀ R, P (a1 N) (a2 N) R) (hs : ∀ i, i < N → ∀ R : A1 → A2 → Prop, R (a1 (i + 1)) (a2 (i + 1)) → P (a1 i) (a2 i) R) : ∃ (I : A1 → A2 → Prop) (μ : A1 → A2 → Nat), I x1 x2 ∧ ∀ y1 y2, I y1 y2 → P y1 y2 (fun z1 z2 => I z1 z2 ∧ μ z1 z2 < μ y1 y2) := by
  obtain ⟨I, μ, h0, h⟩ := tr_loop (σ := A1 × A2) (fun s R => P (s.1) (s.2) (fun z1 z2 => R (z1, z2))) (fun i => (a1 i, a2 i)) N (fun R => hx _) (fun i hi R hR => hs i hi _ hR)
  refine ⟨fun y1 y2 => I (y1, y2), fun y1 y2 => μ (y1, y2), ?_, fun y1 y2 hI => h (y1, y2) hI⟩
  subst hx1; subst hx2;
  exact h0
theorem tr_3 {A1 A2 A3 : Type} {P : A1 → A2 → A3 → (A1 → A2 → A3 → Prop) → Prop} {x1 : A1} {x2 : A2} {x3 : A3} (a1 : Nat → A1) (a2 : Nat → A2) (a3 : Nat → A3) (N : Nat) (hx1 : a1 0 = x1) (hx2 : a2 0 = x2) (hx3 : a3 0 = x3) (hx : ∀ R, P (a1 N) (a2 N) (a3 N) R) (hs : ∀ i, i < N → ∀ R : A1 → A2 → A3 → Prop, R (a1 (i + 1)) (a2 (i + 1)) (a3 (i + 1)) → P (a1 i) (a2 i) (a3 i) R) : ∃ (I : A1 → A2 → A3 → Prop) (μ : A1 → A2 → A3 → Nat), I x1 x2 x3 ∧ ∀ y1 y2 y3, I y1 y2 y3 → P y1 y2 y3 (fun z1 z2 z3 => I z1 z2 z3 ∧ μ z1 z2 z3 < μ y1 y2 y3) := by
  obtain ⟨I, μ, h0, h⟩ := tr_loop (σ := A1 × A2 × A3) (fun s R => P (s.1) (s.2.1) (s.2.2) (fun z1 z2 z3 => R (z1, z2, z3))) (fun i => (a1 i, a2 i, a3 i)) N (fun R => hx _) (fun i hi R hR => hs i hi _ hR)
  refine ⟨fun y1 y2 y3 => I (y1, y2, y3), fun y1 y2 y3 => μ (y1, y2, y3), ?_, fun y1 y2 y3 hI => h (y1, y2, y3) hI⟩
  subst hx1; subst hx2; subst hx3;
  exact h0
theorem tr_4 {A1 A2 A3 A4 : Type} {P : A1 → A2 → A3 → A4 → (A1 → A2 → A3 → A4 → Prop) → Prop} {x1 : A1} {x2 : A2} {x3 : A3} {x4 : A4} (a1 : Nat → A1) (a2 : Nat → A2) (a3 : Nat → A3) (a4 : Nat → A4) (N : Nat) (hx1 : a1 0 = x1) (hx2 : a2 0 = x2) (hx3 : a3 0 = x3) (hx4 : a4 0 = x4) (hx : ∀ R, P (a1 N) (a2 N) (a3 N) (a4 N) R) (hs : ∀ i, i < N → ∀ R : A1 → A2 → A3 → A4 → Prop, R (a1 (i + 1)) (a2 (i + 1)) (a3 (i + 1)) (a4 (i + 1)) → P (a1 i) (a2 i) (a3 i) (a4 i) R) : ∃ (I : A1 → A2 → A3 → A4 → Prop) (μ : A1 → A2 → A3 → A4 → Nat), I x1 x2 x3 x4 ∧ ∀ y1 y2 y3 y4, I y1 y2 y3 y4 → P y1 y2 y3 y4 (fun z1 z2 z3 z4 => I z1 z2 z3 z4 ∧ μ z1 z2 z3 z4 < μ y1 y2 y3 y4) := by
  obtain ⟨I, μ, h0, h⟩ := tr_loop (σ := A1 × A2 × A3 × A4) (fun s R => P (s.1) (s.2.1) (s.2.2.1) (s.2.2.2) (fun z1 z2 z3 z4 => R (z1, z2, z3, z4))) (fun i => (a1 i, a2 i, a3 i, a4 i)) N (fun R => hx _) (fun i hi R hR => hs i hi _ hR)
  refine ⟨fun y1 y2 y3 y4 => I (y1, y2, y3, y4), fun y1 y2 y3 y4 => μ (y1, y2, y3, y4), ?_, fun y1 y2 y3 y4 hI => h (y1, y2, y3, y4) hI⟩
  subst hx1; subst hx2; subst hx3; subst hx4;
  exact h0
theorem tr_5 {A1 A2 A3 A4 A5 : Type} {P : A1 → A2 → A3 → A4 → A5 → (A1 → A2 → A3 → A4 → A5 → Prop) → Prop} {x1 : A1} {x2 : A2} {x3 : A3} {x4 : A4} {x5 : A5} (a1 : Nat → A1) (a2 : Nat → A2) (a3 : Nat → A3) (a4 : Nat → A4) (a5 : Nat → A5) (N : Nat) (hx1 : a1 0 = x1) (hx2 : a2 0 = x2) (hx3 : a3 0 = x3) (hx4 : a4 0 = x4) (hx5 : a5 0 = x5) (hx : ∀ R, P (a1 N) (a2 N) (a3 N) (a4 N) (a5 N) R) (hs : ∀ i, i < N → ∀ R : A1 → A2 → A3 → A4 → A5 → Prop, R (a1 (i + 1)) (a2 (i + 1)) (a3 (i + 1)) (a4 (i + 1)) (a5 (i + 1)) → P (a1 i) (a2 i) (a3 i) (a4 i) (a5 i) R) : ∃ (I : A1 → A2 → A3 → A4 → A5 → Prop) (μ : A1 → A2 → A3 → A4 → A5 → Nat), I x1 x2 x3 x4 x5 ∧ ∀ y1 y2 y3 y4 y5, I y1 y2 y3 y4 y5 → P y1 y2 y3 y4 y5 (fun z1 z2 z3 z4 z5 => I z1 z2 z3 z4 z5 ∧ μ z1 z2 z3 z4 z5 < μ y1 y2 y3 y4 y5) := by
  obtain ⟨I, μ, h0, h⟩ := tr_loop (σ := A1 × A2 × A3 × A4 × A5) (fun s R => P (s.1) (s.2.1) (s.2.2.1) (s.2.2.2.1) (s.2.2.2.2) (fun z1 z2 z3 z4 z5 => R (z1, z2, z3, z4, z5))) (fun i => (a1 i, a2 i, a3 i, a4 i, a5 i)) N (fun R => hx _) (fun i hi R hR => hs i hi _ hR)
  refine ⟨fun y1 y2 y3 y4 y5 => I (y1, y2, y3, y4, y5), fun y1 y2 y3 y4 y5 => μ (y1, y2, y3, y4, y5), ?_, fun y1 y2 y3 y4 y5 hI => h (y1, y2, y3, y4, y5) hI⟩
  subst hx1; subst hx2; subst hx3; subst hx4; subst hx5;
  exact h0
theorem tr_6 {A1 A2 A3 A4 A5 A6 : Type} {P : A1 → A2 → A3 → A4 → A5 → A6 → (A1 → A2 → A3 → A4 → A5 → A6 → Prop) → Prop} {x1 : A1} {x2 : A2} {x3 : A3} {x4 : A4} {x5 : A5} {x6 : A6} (a1 : Nat → A1) (a2 : Nat → A2) (a3 : Nat → A3) (a4 : Nat → A4) (a5 : Nat → A5) (a6 : Nat → A6) (N : Nat) (hx1 : a1 0 = x1) (hx2 : a2 0 = x2) (hx3 : a3 0 = x3) (hx4 : a4 0 = x4) (hx5 : a5 0 = x5) (hx6 : a6 0 = x6) (hx : ∀ R, P (a1 N) (a2 N) (a3 N) (a4 N) (a5 N) (a6 N) R) (hs : ∀ i, i < N → ∀ R : A1 → A2 → A3 → A4 → A5 → A6 → Prop, R (a1 (i + 1)) (a2 (i + 1)) (a3 (i + 1)) (a4 (i + 1)) (a5 (i + 1)) (a6 (i + 1)) → P (a1 i) (a2 i) (a3 i) (a4 i) (a5 i) (a6 i) R) : ∃ (I : A1 → A2 → A3 → A4 → A5 → A6 → Prop) (μ : A1 → A2 → A3 → A4 → A5 → A6 → Nat), I x1 x2 x3 x4 x5 x6 ∧ ∀ y1 y2 y3 y4 y5 y6, I y1 y2 y3 y4 y5 y6 → P y1 y2 y3 y4 y5 y6 (fun z1 z2 z3 z4 z5 z6 => I z1 z2 z3 z4 z5 z6 ∧ μ z1 z2 z3 z4 z5 z6 < μ y1 y2 y3 y4 y5 y6) := by
  obtain ⟨I, μ, h0, h⟩ := tr_loop (σ := A1 × A2 × A3 × A4 × A5 × A6) (fun s R => P (s.1) (s.2.1) (s.2.2.1) (s.2.2.2.1) (s.2.2.2.2.1) (s.2.2.2.2.2) (fun z1 z2 z3 z4 z5 z6 => R (z1, z2, z3, z4, z5, z6))) (fun i => (a1 i, a2 i, a3 i, a4 i, a5 i, a6 i)) N (fun R => hx _) (fun i hi R hR => hs i hi _ hR)
  refine ⟨fun y1 y2 y3 y4 y5 y6 => I (y1, y2, y3, y4, y5, y6), fun y1 y2 y3 y4 y5 y6 => μ (y1, y2, y3, y4, y5, y6), ?_, fun y1 y2 y3 y4 y5 y6 hI => h (y1, y2, y3, y4, y5, y6) hI⟩
  subst hx1; subst hx2; subst hx3; subst hx4; subst hx5; subst hx6;
  exact h0
theorem tr_7 {A1 A2 A3 A4 A5 A6 A7 : Type} {P : A1 → A2 → A3 → A4 → A5 → A6 → A7 → (A1 → A2 → A3 → A4 → A5 → A6 → A7 → Prop) → Prop} {x1 : A1} {x2 : A2} {x3 : A3} {x4 : A4} {x5 : A5} {x6 : A6} {x7 : A7} (a1 : Nat → A1) (a2 : Nat → A2) (a3 : Nat → A3) (a4 : Nat → A4) (a5 : Nat → A5) (a6 : Nat → A6) (a7 : Nat → A7) (N : Nat) (hx1 : a1 0 = x1) (hx2 : a2 0 = x2) (hx3 : a3 0 = x3) (hx4 : a4 0 = x4) (hx5 : a5 0 = x5) (hx6 : a6 0 = x6) (hx7 : a7 0 = x7) (hx : ∀ R, P (a1 N) (a2 N) (a3 N) (a4 N) (a5 N) (a6 N) (a7 N) R) (hs : ∀ i, i < N → ∀ R : A1 → A2 → A3 → A4 → A5 → A6 → A7 → Prop, R (a1 (i + 1)) (a2 (i + 1)) (a3 (i + 1)) (a4 (i + 1)) (a5 (i + 1)) (a6 (i + 1)) (a7 (i + 1)) → P (a1 i) (a2 i) (a3 i) (a4 i) (a5 i) (a6 i) (a7 i) R) : ∃ (I : A1 → A2 → A3 → A4 → A5 → A6 → A7 → Prop) (μ : A1 → A2 → A3 → A4 → A5 → A6 → A7 → Nat), I x1 x2 x3 x4 x5 x6 x7 ∧ ∀ y1 y2 y3 y4 y5 y6 y7, I y1 y2 y3 y4 y5 y6 y7 → P y1 y2 y3 y4 y5 y6 y7 (fun z1 z2 z3 z4 z5 z6 z7 => I z1 z2 z3 z4 z5 z6 z7 ∧ μ z1 z2 z3 z4 z5 z6 z7 < μ y1 y2 y3 y4 y5 y6 y7) := by
  obtain ⟨I, μ, h0, h⟩ := tr_loop (σ := A1 × A2 × A3 × A4 × A5 × A6 × A7) (fun s R => P (s.1) (s.2.1) (s.2.2.1) (s.2.2.2.1) (s.2.2.2.2.1) (s.2.2.2.2.2.1) (s.2.2.2.2.2.2) (fun z1 z2 z3 z4 z5 z6 z7 => R (z1, z2, z3, z4, z5, z6, z7))) (fun i => (a1 i, a2 i, a3 i, a4 i, a5 i, a6 i, a7 i)) N (fun R => hx _) (fun i hi R hR => hs i hi _ hR)
  refine ⟨fun y1 y2 y3 y4 y5 y6 y7 => I (y1, y2, y3, y4, y5, y6, y7), fun y1 y2 y3 y4 y5 y6 y7 => μ (y1, y2, y3, y4, y5, y6, y7), ?_, fun y1 y2 y3 y4 y5 y6 y7 hI => h (y1, y2, y3, y4, y5, y6, y7) hI⟩
  subst hx1; subst hx2; subst hx3; subst hx4; subst hx5; subst hx6; subst hx7;
  exact h0
theorem tr_8 {A1 A2 A3 A4 A5 A6 A7 A8 : Type} {P : A1 → A2 → A3 → A4 → A5 → A6 → A7 → A8 → (A1 → A2 → A3 → A4 → A5 → A6 → A7 → A8 → Prop) → Prop} {x1 : A1} {x2 : A2} {x3 : A3} {x4 : A4} {x5 : A5} {x6 : A6} {x7 : A7} {x8 : A8} (a1 : Nat → A1) (a2 : Nat → A2) (a3 : Nat → A3) (a4 : Nat → A4) (a5 : Nat → A5) (a6 : Nat → A6) (a7 : Nat → A7) (a8 : Nat → A8) (N : Nat) (hx1 : a1 0 = x1) (hx2 : a2 0 = x2) (hx3 : a3 0 = x3) (hx4 : a4 0 = x4) (hx5 : a5 0 = x5) (hx6 : a6 0 = x6) (hx7 : a7 0 = x7) (hx8 : a8 0 = x8) (hx : ∀ R, P (a1 N) (a2 N) (a3 N) (a4 N) (a5 N) (a6 N) (a7 N) (a8 N) R) (hs : ∀ i, i < N → ∀ R : A1 → A2 → A3 → A4 → A5 → A6 → A7 → A8 → Prop, R (a1 (i + 1)) (a2 (i + 1)) (a3 (i + 1)) (a4 (i + 1)) (a5 (i + 1)) (a6 (i + 1)) (a7 (i + 1)) (a8 (i + 1)) → P (a1 i) (a2 i) (a3 i) (a4 i) (a5 i) (a6 i) (a7 i) (a8 i) R) : ∃ (I : A1 → A2 → A3 → A4 → A5 → A6 → A7 → A8 → Prop) (μ : A1 → A2 → A3 → A4 → A5 → A6 → A7 → A8 → Nat), I x1 x2 x3 x4 x5 x6 x7 x8 ∧ ∀ y1 y2 y3 y4 y5 y6 y7 y8, I y1 y2 y3 y4 y5 y6 y7 y8 → P y1 y2 y3 y4 y5 y6 y7 y8 (fun z1 z2 z3 z4 z5 z6 z7 z8 => I z1 z2 z3 z4 z5 z6 z7 z8 ∧ μ z1 z2 z3 z4 z5 z6 z7 z8 < μ y1 y2 y3 y4 y5 y6 y7 y8) := by
  obtain ⟨I, μ, h0, h⟩ := tr_loop (σ := A1 × A2 × A3 × A4 × A5 × A6 × A7 × A8) (fun s R => P (s.1) (s.2.1) (s.2.2.1) (s.2.2.2.1) (s.2.2.2.2.1) (s.2.2.2.2.2.1) (s.2.2.2.2.2.2.1) (s.2.2.2.2.2.2.2) (fun z1 z2 z3 z4 z5 z6 z7 z8 => R (z1, z2, z3, z4, z5, z6, z7, z8))) (fun i => (a1 i, a2 i, a3 i, a4 i, a5 i, a6 i, a7 i, a8 i)) N (fun R => hx _) (fun i hi R hR => hs i hi _ hR)
  refine ⟨fun y1 y2 y3 y4 y5 y6 y7 y8 => I (y1, y2, y3, y4, y5, y6, y7, y8), fun y1 y2 y3 y4 y5 y6 y7 y8 => μ (y1, y2, y3, y4, y5, y6, y7, y8), ?_, fun y1 y2 y3 y4 y5 y6 y7 y8 hI => h (y1, y2, y3, y4, y5, y6, y7, y8) hI⟩
  subst hx1; subst hx2; subst hx3; subst hx4; subst hx5; subst hx6; subst hx7; subst hx8;
  exact h0
theorem tr_9 {A1 A2 A3 A4 A5 A6 A7 A8 A9 : Type} {P : A1 → A2 → A3 → A4 → A5 → A6 → A7 → A8 → A9 → (A1 → A2 → A3 → A4 → A5 → A6 → A7 → A8 → A9 → Prop) → Prop} {x1 : A1} {x2 : A2} {x3 : A3} {x4 : A4} {x5 : A5} {x6 : A6} {x7 : A7} {x8 : A8} {x9 : A9} (a1 : Nat → A1) (a2 : Nat → A2) (a3 : Nat → A3) (a4 : Nat → A4) (a5 : Nat → A5) (a6 : Nat → A6) (a7 : Nat → A7) (a8 : Nat → A8) (a9 : Nat → A9) (N : Nat) (hx1 : a1 0 = x1) (hx2 : a2 0 = x2) (hx3 : a3 0 = x3) (hx4 : a4 0 = x4) (hx5 : a5 0 = x5) (hx6 : a6 0 = x6) (hx7 : a7 0 = x7) (hx8 : a8 0 = x8) (hx9 : a9 0 = x9) (hx : ∀ R, P (a1 N) (a2 N) (a3 N) (a4 N) (a5 N) (a6 N) (a7 N) (a8 N) (a9 N) R) (hs : ∀ i, i < N → ∀ R : A1 → A2 → A3 → A4 → A5 → A6 → A7 → A8 → A9 → Prop, R (a1 (i + 1)) (a2 (i + 1)) (a3 (i + 1)) (a4 (i + 1)) (a5 (i + 1)) (a6 (i + 1)) (a7 (i + 1)) (a8 (i + 1)) (a9 (i + 1)) → P (a1 i) (a2 i) (a3 i) (a4 i) (a5 i) (a6 i) (a7 i) (a8 i) (a9 i) R) : ∃ (I : A1 → A2 → A3 → A4 → A5 → A6 → A7 → A8 → A9 → Prop) (μ : A1 → A2 → A3 → A4 → A5 → A6 → A7 → A8 → A9 → Nat), I x1 x2 x3 x4 x5 x6 x7 x8 x9 ∧ ∀ y1 y2 y3 y4 y5 y6 y7 y8 y9, I y1 y2 y3 y4 y5 y6 y7 y8 y9 → P y1 y2 y3 y4 y5 y6 y7 y8 y9 (fun z1 z2 z3 z4 z5 z6 z7 z8 z9 => I z1 z2 z3 z4 z5 z6 z7 z8 z9 ∧ μ z1 z2 z3 z4 z5 z6 z7 z8 z9 < μ y1 y2 y3 y4 y5 y6 y7 y8 y9) := by
  obtain ⟨I, μ, h0, h⟩ := tr_loop (σ := A1 × A2 × A3 × A4 × A5 × A6 × A7 × A8 × A9) (fun s R => P (s.1) (s.2.1) (s.2.2.1) (s.2.2.2.1) (s.2.2.2.2.1) (s.2.2.2.2.2.1) (s.2.2.2.2.2.2.1) (s.2.2.2.2.2.2.2.1) (s.2.2.2.2.2.2.2.2) (fun z1 z2 z3 z4 z5 z6 z7 z8 z9 => R (z1, z2, z3, z4, z5, z6, z7, z8, z9))) (fun i => (a1 i, a2 i, a3 i, a4 i, a5 i, a6 i, a7 i, a8 i, a9 i)) N (fun R => hx _) (fun i hi R hR => hs i hi _ hR)
  refine ⟨fun y1 y2 y3 y4 y5 y6 y7 y8 y9 => I (y1, y2, y3, y4, y5, y6, y7, y8, y9), fun y1 y2 y3 y4 y5 y6 y7 y8 y9 => μ (y1, y2, y3, y4, y5, y6, y7, y8, y9), ?_, fun y1 y2 y3 y4 y5 y6 y7 y8 y9 hI => h (y1, y2, y3, y4, y5, y6, y7, y8, y9) hI⟩
  subst hx1; subst hx2; subst hx3; subst hx4; subst hx5; subst hx6; subst hx7; subst hx8; subst hx9;
  exact h0
theorem tr_10 {A1 A2 A3 A4 A5 A6 A7 A8 A9 A10 : Type} {P : A1 → A2 → A3 → A4 → A5 → A6 → A7 → A8 → A9 → A10 → (A1 → A2 → A3 → A4 → A5 → A6 → A7 → A8 → A9 → A10 → Prop) → Prop} {x1 : A1} {x2 : A2} {x3 : A3} {x4 : A4} {x5 : A5} {x6 : A6} {x7 : A7} {x8 : A8} {x9 : A9} {x10 : A10} (a1 : Nat → A1) (a2 : Nat → A2) (a3 : Nat → A3) (a4 : Nat → A4) (a5 : Nat → A5) (a6 : Nat → A6) (a7 : Nat → A7) (a8 : Nat → A8) (a9 : Nat → A9) (a10 : Nat → A10) (N : Nat) (hx1 : a1 0 = x1) (hx2 : a2 0 = x2) (hx3 : a3 0 = x3) (hx4 : a4 0 = x4) (hx5 : a5 0 = x5) (hx6 : a6 0 = x6) (hx7 : a7 0 = x7) (hx8 : a8 0 = x8) (hx9 : a9 0 = x9) (hx10 : a10 0 = x10) (hx : ∀ R, P (a1 N) (a2 N) (a3 N) (a4 N) (a5 N) (a6 N) (a7 N) (a8 N) (a9 N) (a10 N) R) (hs : ∀ i, i < N → ∀ R : A1 → A2 → A3 → A4 → A5 → A6 → A7 → A8 → A9 → A10 → Prop, R (a1 (i + 1)) (a2 (i + 1)) (a3 (i + 1)) (a4 (i + 1)) (a5 (i + 1)) (a6 (i + 1)) (a7 (i + 1)) (a8 (i + 1)) (a9 (i + 1)) (a10 (i + 1)) → P (a1 i) (a2 i) (a3 i) (a4 i) (a5 i) (a6 i) (a7 i) (a8 i) (a9 i) (a10 i) R) : ∃ (I : A1 → A2 → A3 → A4 → A5 → A6 → A7 → A8 → A9 → A10 → Prop) (μ : A1 → A2 → A3 → A4 → A5 → A6 → A7 → A8 → A9 → A10 → Nat), I x1 x2 x3 x4 x5 x6 x7 x8 x9 x10 ∧ ∀ y1 y2 y3 y4 y5 y6 y7 y8 y9 y10, I y1 y2 y3 y4 y5 y6 y7 y8 y9 y10 → P y1 y2 y3 y4 y5 y6 y7 y8 y9 y10 (fun z1 z2 z3 z4 z5 z6 z7 z8 z9 z10 => I z1 z2 z3 z4 z5 z6 z7 z8 z9 z10 ∧ μ z1 z2 z3 z4 z5 z6 z7 z8 z9 z10 < μ y1 y2 y3 y4 y5 y6 y7 y8 y9 y10) := by
  obtain ⟨I, μ, h0, h⟩ := tr_loop (σ := A1 × A2 × A3 × A4 × A5 × A6 × A7 × A8 × A9 × A10) (fun s R => P (s.1) (s.2.1) (s.2.2.1) (s.2.2.2.1) (s.2.2.2.2.1) (s.2.2.2.2.2.1) (s.2.2.2.2.2.2.1) (s.2.2.2.2.2.2.2.1) (s.2.2.2.2.2.2.2.2.1) (s.2.2.2.2.2.2.2.2.2) (fun z1 z2 z3 z4 z5 z6 z7 z8 z9 z10 => R (z1, z2, z3, z4, z5, z6, z7, z8, z9, z10))) (fun i => (a1 i, a2 i, a3 i, a4 i, a5 i, a6 i, a7 i, a8 i, a9 i, a10 i)) N (fun R => hx _) (fun i hi R hR => hs i hi _ hR)
  refine ⟨fun y1 y2 y3 y4 y5 y6 y7 y8 y9 y10 => I (y1, y2, y3, y4, y5, y6, y7, y8, y9, y10), fun y1 y2 y3 y4 y5 y6 y7 y8 y9 y10 => μ (y1, y2, y3, y4, y5, y6, y7, y8, y9, y10), ?_, fun y1 y2 y3 y4 y5 y6 y7 y8 y9 y10 hI => h (y1, y2, y3, y4, y5, y6, y7, y8, y9, y10) hI⟩
  subst hx1; subst hx2; subst hx3; subst hx4; subst hx5; subst hx6; subst hx7; subst hx8; subst hx9; subst hx10;
  exact h0
theorem tr_11 {A1 A2 A3 A4 A5 A6 A7 A8 A9 A10 A11 : Type} {P : A1 → A2 → A3 → A4 → A5 → A6 → A7 → A8 → A9 → A10 → A11 → (A1 → A2 → A3 → A4 → A5 → A6 → A7 → A8 → A9 → A10 → A11 → Prop) → Prop} {x1 : A1} {x2 : A2} {x3 : A3} {x4 : A4} {x5 : A5} {x6 : A6} {x7 : A7} {x8 : A8} {x9 : A9} {x10 : A10} {x11 : A11} (a1 : Nat → A1) (a2 : Nat → A2) (a3 : Nat → A3) (a4 : Nat → A4) (a5 : Nat → A5) (a6 : Nat → A6) (a7 : Nat → A7) (a8 : Nat → A8) (a9 : Nat → A9) (a10 : Nat → A10) (a11 : Nat → A11) (N : Nat) (hx1 : a1 0 = x1) (hx2 : a2 0 = x2) (hx3 : a3 0 = x3) (hx4 : a4 0 = x4) (hx5 : a5 0 = x5) (hx6 : a6 0 = x6) (hx7 : a7 0 = x7) (hx8 : a8 0 = x8) (hx9 : a9 0 = x9) (hx10 : a10 0 = x10) (hx11 : a11 0 = x11) (hx : ∀ R, P (a1 N) (a2 N) (a3 N) (a4 N) (a5 N) (a6 N) (a7 N) (a8 N) (a9 N) (a10 N) (a11 N) R) (hs : ∀ i, i < N → ∀ R : A1 → A2 → A3 → A4 → A5 → A6 → A7 → A8 → A9 → A10 → A11 → Prop, R (a1 (i + 1)) (a2 (i + 1)) (a3 (i + 1)) (a4 (i + 1)) (a5 (i + 1)) (a6 (i + 1)) (a7 (i + 1)) (a8 (i + 1)) (a9 (i + 1)) (a10 (i + 1)) (a11 (i + 1)) → P (a1 i) (a2 i) (a3 i) (a4 i) (a5 i) (a6 i) (a7 i) (a8 i) (a9 i) (a10 i) (a11 i) R) : ∃ (I : A1 → A2 → A3 → A4 → A5 → A6 → A7 → A8 → A9 → A10 → A11 → Prop) (μ : A1 → A2 → A3 → A4 → A5 → A6 → A7 → A8 → A9 → A10 → A11 → Nat), I x1 x2 x3 x4 x5 x6 x7 x8 x9 x10 x11 ∧ ∀ y1 y2 y3 y4 y5 y6 y7 y8 y9 y10 y11, I y1 y2 y3 y4 y5 y6 y7 y8 y9 y10 y11 → P y1 y2 y3 y4 y5 y6 y7 y8 y9 y10 y11 (fun z1 z2 z3 z4 z5 z6 z7 z8 z9 z10 z11 => I z1 z2 z3 z4 z5 z6 z7 z8 z9 z10 z11 ∧ μ z1 z2 z3 z4 z5 z6 z7 z8 z9 z10 z11 < μ y1 y2 y3 y4 y5 y6 y7 y8 y9 y10 y11) := by
  obtain ⟨I, μ, h0, h⟩ := tr_loop (σ := A1 × A2 × A3 × A4 × A5 × A6 × A7 × A8 × A9 × A10 × A11) (fun s R => P (s.1) (s.2.1) (s.2.2.1) (s.2.2.2.1) (s.2.2.2.2.1) (s.2.2.2.2.2.1) (s.2.2.2.2.2.2.1) (s.2.2.2.2.2.2.2.1) (s.2.2.2.2.2.2.2.2.1) (s.2.2.2.2.2.2.2.2.2.1) (s.2.2.2.2.2.2.2.2.2.2) (fun z1 z2 z3 z4 z5 z6 z7 z8 z9 z10 z11 => R (z1, z2, z3, z4, z5, z6, z7, z8, z9, z10, z11))) (fun i => (a1 i, a2 i, a3 i, a4 i, a5 i, a6 i, a7 i, a8 i, a9 i, a10 i, a11 i)) N (fun R => hx _) (fun i hi R hR => hs i hi _ hR)
  refine ⟨fun y1 y2 y3 y4 y5 y6 y7 y8 y9 y10 y11 => I (y1, y2, y3, y4, y5, y6, y7, y8, y9, y10, y11), fun y1 y2 y3 y4 y5 y6 y7 y8 y9 y10 y11 => μ (y1, y2, y3, y4, y5, y6, y7, y8, y9, y10, y11), ?_, fun y1 y2 y3 y4 y5 y6 y7 y8 y9 y10 y11 hI => h (y1, y2, y3, y4, y5, y6, y7, y8, y9, y10, y11) hI⟩
  subst hx1; subst hx2; subst hx3; subst hx4; subst hx5; subst hx6; subst hx7; subst hx8; subst hx9; subst hx10; subst hx11;
  exact h0
theorem tr_12 {A1 A2 A3 A4 A5 A6 A7 A8 A9 A10 A11 A12 : Type} {P : A1 → A2 → A3 → A4 → A5 → A6 → A7 → A8 → A9 → A10 → A11 → A12 → (A1 → A2 → A3 → A4 → A5 → A6 → A7 → A8 → A9 → A10 → A11 → A12 → Prop) → Prop} {x1 : A1} {x2 : A2} {x3 : A3} {x4 : A4} {x5 : A5} {x6 : A6} {x7 : A7} {x8 : A8} {x9 : A9} {x10 : A10} {x11 : A11} {x12 : A12} (a1 : Nat → A1) (a2 : Nat → A2) (a3 : Nat → A3) (a4 : Nat → A4) (a5 : Nat → A5) (a6 : Nat → A6) (a7 : Nat → A7) (a8 : Nat → A8) (a9 : Nat → A9) (a10 : Nat → A10) (a11 : Nat → A11) (a12 : Nat → A12) (N : Nat) (hx1 : a1 0 = x1) (hx2 : a2 0 = x2) (hx3 : a3 0 = x3) (hx4 : a4 0 = x4) (hx5 : a5 0 = x5) (hx6 : a6 0 = x6) (hx7 : a7 0 = x7) (hx8 : a8 0 = x8) (hx9 : a9 0 = x9) (hx10 : a10 0 = x10) (hx11 : a11 0 = x11) (hx12 : a12 0 = x12) (hx : ∀ R, P (a1 N) (a2 N) (a3 N) (a4 N) (a5 N) (a6 N) (a7 N) (a8 N) (a9 N) (a10 N) (a11 N) (a12 N) R) (hs : ∀ i, i < N → ∀ R : A1 → A2 → A3 → A4 → A5 → A6 → A7 → A8 → A9 → A10 → A11 → A12 → Prop, R (a1 (i + 1)) (a2 (i + 1)) (a3 (i + 1)) (a4 (i + 1)) (a5 (i + 1)) (a6 (i + 1)) (a7 (i + 1)) (a8 (i + 1)) (a9 (i + 1)) (a10 (i + 1)) (a11 (i + 1)) (a12 (i + 1)) → P (a1 i) (a2 i) (a3 i) (a4 i) (a5 i) (a6 i) (a7 i) (a8 i) (a9 i) (a10 i) (a11 i) (a12 i) R) : ∃ (I : A1 → A2 → A3 → A4 → A5 → A6 → A7 → A8 → A9 → A10 → A11 → A12 → Prop) (μ : A1 → A2 → A3 → A4 → A5 → A6 → A7 → A8 → A9 → A10 → A11 → A12 → Nat), I x1 x2 x3 x4 x5 x6 x7 x8 x9 x10 x11 x12 ∧ ∀ y1 y2 y3 y4 y5 y6 y7 y8 y9 y10 y11 y12, I y1 y2 y3 y4 y5 y6 y7 y8 y9 y10 y11 y12 → P y1 y2 y3 y4 y5 y6 y7 y8 y9 y10 y11 y12 (fun z1 z2 z3 z4 z5 z6 z7 z8 z9 z10 z11 z12 => I z1 z2 z3 z4 z5 z6 z7 z8 z9 z10 z11 z12 ∧ μ z1 z2 z3 z4 z5 z6 z7 z8 z9 z10 z11 z12 < μ y1 y2 y3 y4 y5 y6 y7 y8 y9 y10 y11 y12) := by
  obtain ⟨I, μ, h0, h⟩ := tr_loop (σ := A1 × A2 × A3 × A4 × A5 × A6 × A7 × A8 × A9 × A10 × A11 × A12) (fun s R => P (s.1) (s.2.1) (s.2.2.1) (s.2.2.2.1) (s.2.2.2.2.1) (s.2.2.2.2.2.1) (s.2.2.2.2.2.2.1) (s.2.2.2.2.2.2.2.1) (s.2.2.2.2.2.2.2.2.1) (s.2.2.2.2.2.2.2.2.2.1) (s.2.2.2.2.2.2.2.2.2.2.1) (s.2.2.2.2.2.2.2.2.2.2.2) (fun z1 z2 z3 z4 z5 z6 z7 z8 z9 z10 z11 z12 => R (z1, z2, z3, z4, z5, z6, z7, z8, z9, z10, z11, z12))) (fun i => (a1 i, a2 i, a3 i, a4 i, a5 i, a6 i, a7 i, a8 i, a9 i, a10 i, a11 i, a12 i)) N (fun R => hx _) (fun i hi R hR => hs i hi _ hR)
  refine ⟨fun y1 y2 y3 y4 y5 y6 y7 y8 y9 y10 y11 y12 => I (y1, y2, y3, y4, y5, y6, y7, y8, y9, y10, y11, y12), fun y1 y2 y3 y4 y5 y6 y7 y8 y9 y10 y11 y12 => μ (y1, y2, y3, y4, y5, y6, y7, y8, y9, y10, y11, y12), ?_, fun y1 y2 y3 y4 y5 y6 y7 y8 y9 y10 y11 y12 hI => h (y1, y2, y3, y4, y5, y6, y7, y8, y9, y10, y11, y12) hI⟩
  subst hx1; subst hx2; subst hx3; subst hx4; subst hx5; subst hx6; subst hx7; subst hx8; subst hx9; subst hx10; subst hx11; subst hx12;
  exact h0
