/-! LINES OF THINGS BY WEIGHT: the first m of a merged line weigh no more than any m that are firsts of its two rows -/
def ts (l : List Nat) (m : Nat) : Nat := (l.take m).sum
def srt (l : List Nat) : Prop := l.Pairwise (· ≤ ·)
def mrg : List Nat → List Nat → List Nat
  | [], b => b
  | a, [] => a
  | x :: a, y :: b => if x ≤ y then x :: mrg a (y :: b) else y :: mrg (x :: a) b
def prs : List Nat → List Nat
  | x :: y :: l => (x + y) :: prs l
  | _ => []
theorem ts_0 (l : List Nat) : ts l 0 = 0 := rfl
theorem ts_c (x : Nat) (l : List Nat) (m : Nat) : ts (x :: l) (m + 1) = x + ts l m := by
  unfold ts
  rw [List.take_succ_cons, List.sum_cons]
theorem ts_n (m : Nat) : ts [] m = 0 := by
  unfold ts
  rw [List.take_nil]
  rfl
theorem ts_ge {x : Nat} : ∀ (l : List Nat) (m : Nat), m < l.length → (∀ y ∈ l, x ≤ y) → x + ts l m ≤ ts l (m + 1)
  | [], m, h, _ => absurd h (Nat.not_lt_zero _)
  | y :: l, 0, _, hx => by
    rw [ts_0, ts_c, ts_0]
    have := hx y List.mem_cons_self
    omega
  | y :: l, m + 1, h, hx => by
    rw [ts_c, ts_c]
    have := ts_ge (x := x) l m (Nat.lt_of_succ_lt_succ h) (fun z hz => hx z (List.mem_cons_of_mem _ hz))
    omega
theorem mrg_le : ∀ (a b : List Nat), srt a → srt b → ∀ (i j : Nat), i ≤ a.length → j ≤ b.length → ts (mrg a b) (i + j) ≤ ts a i + ts b j
  | [], b, _, _, i, j, hi, _ => by
    have e : i = 0 := Nat.le_zero.mp hi
    subst e
    rw [Nat.zero_add, ts_0, Nat.zero_add]
    unfold mrg
    exact Nat.le_refl _
  | x :: a, [], _, _, i, j, _, hj => by
    have e : j = 0 := Nat.le_zero.mp hj
    subst e
    rw [Nat.add_zero, ts_0, Nat.add_zero]
    unfold mrg
    exact Nat.le_refl _
  | x :: a, y :: b, ha, hb, i, j, hi, hj => by
    have ha' := List.pairwise_cons.mp ha
    have hb' := List.pairwise_cons.mp hb
    by_cases hxy : x ≤ y
    · have e : mrg (x :: a) (y :: b) = x :: mrg a (y :: b) := by rw [mrg]; exact if_pos hxy
      rw [e]
      cases i with
      | succ i =>
        rw [show i + 1 + j = (i + j) + 1 by omega, ts_c, ts_c]
        have := mrg_le a (y :: b) ha'.2 hb i j (Nat.le_of_succ_le_succ hi) hj
        omega
      | zero =>
        cases j with
        | zero => rw [Nat.zero_add, ts_0, ts_0, ts_0]; exact Nat.le_refl _
        | succ j =>
          rw [show 0 + (j + 1) = (0 + j) + 1 by omega, ts_c, ts_0]
          have h1 := mrg_le a (y :: b) ha'.2 hb 0 j (Nat.zero_le _) (Nat.le_of_succ_le hj)
          have h2 := ts_ge (x := x) (y :: b) j (Nat.lt_of_succ_le hj) (fun z hz => by
            rcases List.mem_cons.mp hz with h | h
            · rw [h]; exact hxy
            · exact Nat.le_trans hxy (hb'.1 z h))
          rw [ts_0] at h1
          omega
    · have e : mrg (x :: a) (y :: b) = y :: mrg (x :: a) b := by rw [mrg]; exact if_neg hxy
      have hyx : y ≤ x := Nat.le_of_not_le hxy
      rw [e]
      cases j with
      | succ j =>
        rw [show i + (j + 1) = (i + j) + 1 by omega, ts_c, ts_c]
        have := mrg_le (x :: a) b ha hb'.2 i j hi (Nat.le_of_succ_le_succ hj)
        omega
      | zero =>
        cases i with
        | zero => rw [Nat.zero_add, ts_0, ts_0, ts_0]; exact Nat.le_refl _
        | succ i =>
          show ts (y :: mrg (x :: a) b) (i + 1) ≤ ts (x :: a) (i + 1) + ts (y :: b) 0
          rw [ts_c y, ts_0]
          have h1 : ts (mrg (x :: a) b) i ≤ ts (x :: a) i + ts b 0 := mrg_le (x :: a) b ha hb'.2 i 0 (Nat.le_of_succ_le hi) (Nat.zero_le _)
          have h2 := ts_ge (x := y) (x :: a) i (Nat.lt_of_succ_le hi) (fun z hz => by
            rcases List.mem_cons.mp hz with h | h
            · rw [h]; exact hyx
            · exact Nat.le_trans hyx (ha'.1 z h))
          rw [ts_0] at h1
          omega
theorem prs_ts : ∀ (l : List Nat) (q : Nat), 2 * q ≤ l.length → ts (prs l) q = ts l (2 * q)
  | l, 0, _ => by rw [Nat.mul_zero, ts_0, ts_0]
  | [], q + 1, h => absurd h (by simp only [List.length_nil]; omega)
  | [x], q + 1, h => absurd h (by simp only [List.length_cons, List.length_nil]; omega)
  | x :: y :: l, q + 1, h => by
    have e : prs (x :: y :: l) = (x + y) :: prs l := rfl
    rw [e, ts_c, prs_ts l q (by simp only [List.length_cons] at h; omega), show 2 * (q + 1) = (2 * q + 1) + 1 by omega, ts_c, ts_c]
    omega
