/-! BOUNDS OF NUMBERS: for the safety of every call in every state -/
def B (lo hi : Int) (x : Int32) : Prop := lo ≤ x.toInt ∧ x.toInt ≤ hi
section BB
variable {x y : Int32} {a b c d : Int}
theorem B_any (x : Int32) : B (-2147483648) 2147483647 x := by
  have h1 := Int32.le_toInt x
  have h2 := Int32.toInt_lt x
  simp only [Int.reducePow, Int.reduceNeg] at h1 h2
  exact ⟨h1, by omega⟩
theorem B_w (h : B a b x) (h1 : c ≤ a) (h2 : b ≤ d) : B c d x := ⟨Int.le_trans h1 h.1, Int.le_trans h.2 h2⟩
theorem bm_id {z : Int} (h1 : -2147483648 ≤ z) (h2 : z ≤ 2147483647) : z.bmod 4294967296 = z := by
  rw [Int.bmod_def]
  split <;> omega
theorem t_add (hx : B a b x) (hy : B c d y) (h1 : -2147483648 ≤ a + c) (h2 : b + d ≤ 2147483647) : (x + y).toInt = x.toInt + y.toInt := by
  rw [Int32.toInt_add]
  exact bm_id (by have := hx.1; have := hy.1; omega) (by have := hx.2; have := hy.2; omega)
theorem B_add (hx : B a b x) (hy : B c d y) (h1 : -2147483648 ≤ a + c) (h2 : b + d ≤ 2147483647) : B (a + c) (b + d) (x + y) := by
  unfold B
  rw [t_add hx hy h1 h2]
  exact ⟨by have := hx.1; have := hy.1; omega, by have := hx.2; have := hy.2; omega⟩
theorem t_sub (hx : B a b x) (hy : B c d y) (h1 : -2147483648 ≤ a - d) (h2 : b - c ≤ 2147483647) : (x - y).toInt = x.toInt - y.toInt := by
  rw [Int32.toInt_sub]
  exact bm_id (by have := hx.1; have := hy.2; omega) (by have := hx.2; have := hy.1; omega)
theorem B_sub (hx : B a b x) (hy : B c d y) (h1 : -2147483648 ≤ a - d) (h2 : b - c ≤ 2147483647) : B (a - d) (b - c) (x - y) := by
  unfold B
  rw [t_sub hx hy h1 h2]
  exact ⟨by have := hx.1; have := hy.2; omega, by have := hx.2; have := hy.1; omega⟩
theorem t_mul (hx : B a b x) (hy : B c d y) (ha : 0 ≤ a) (hc : 0 ≤ c) (h2 : b * d ≤ 2147483647) : (x * y).toInt = x.toInt * y.toInt := by
  rw [Int32.toInt_mul]
  have hx0 : 0 ≤ x.toInt := Int.le_trans ha hx.1
  have hy0 : 0 ≤ y.toInt := Int.le_trans hc hy.1
  have h3 : 0 ≤ x.toInt * y.toInt := Int.mul_nonneg hx0 hy0
  have h4 : x.toInt * y.toInt ≤ b * d := Int.mul_le_mul hx.2 hy.2 hy0 (Int.le_trans hx0 hx.2)
  exact bm_id (by omega) (by omega)
theorem B_mul (hx : B a b x) (hy : B c d y) (ha : 0 ≤ a) (hc : 0 ≤ c) (h2 : b * d ≤ 2147483647) : B (a * c) (b * d) (x * y) := by
  unfold B
  rw [t_mul hx hy ha hc h2]
  have hx0 : 0 ≤ x.toInt := Int.le_trans ha hx.1
  have hy0 : 0 ≤ y.toInt := Int.le_trans hc hy.1
  exact ⟨Int.mul_le_mul hx.1 hy.1 hc hx0, Int.mul_le_mul hx.2 hy.2 hy0 (Int.le_trans hx0 hx.2)⟩
theorem t_div (hx : B a b x) (hy : B c d y) (ha : 0 ≤ a) (hc : 1 ≤ c) : (x / y).toInt = x.toInt / y.toInt := by
  have hx0 : 0 ≤ x.toInt := Int.le_trans ha hx.1
  have hy0 : 1 ≤ y.toInt := Int.le_trans hc hy.1
  have hb := (B_any x).2
  rw [Int32.toInt_div, Int.tdiv_eq_ediv_of_nonneg hx0]
  have h3 : 0 ≤ x.toInt / y.toInt := Int.ediv_nonneg hx0 (by omega)
  have h4 : x.toInt / y.toInt ≤ x.toInt := Int.ediv_le_self _ hx0
  exact bm_id (by omega) (by omega)
theorem B_div (hx : B a b x) (hy : B c d y) (ha : 0 ≤ a) (hc : 1 ≤ c) : B 0 (b / c) (x / y) := by
  unfold B
  rw [t_div hx hy ha hc]
  have hx0 : 0 ≤ x.toInt := Int.le_trans ha hx.1
  have hy0 : 1 ≤ y.toInt := Int.le_trans hc hy.1
  refine ⟨Int.ediv_nonneg hx0 (by omega), ?_⟩
  have h1 : x.toInt / y.toInt ≤ x.toInt / c := by
    apply Int.le_ediv_of_mul_le (by omega)
    have h5 := Int.ediv_mul_le x.toInt (show y.toInt ≠ 0 by omega)
    have h6 : 0 ≤ x.toInt / y.toInt := Int.ediv_nonneg hx0 (by omega)
    exact Int.le_trans (Int.mul_le_mul_of_nonneg_left hy.1 h6) h5
  exact Int.le_trans h1 (Int.ediv_le_ediv (by omega) hx.2)
theorem t_rem (hx : B a b x) (hy : B c d y) (ha : 0 ≤ a) (hc : 1 ≤ c) : (x - x / y * y).toInt = x.toInt % y.toInt := by
  have hx0 : 0 ≤ x.toInt := Int.le_trans ha hx.1
  have hy0 : 1 ≤ y.toInt := Int.le_trans hc hy.1
  have hb := (B_any x).2
  have hq := t_div hx hy ha hc
  have h3 : 0 ≤ x.toInt / y.toInt := Int.ediv_nonneg hx0 (by omega)
  have h5 := Int.ediv_mul_le x.toInt (show y.toInt ≠ 0 by omega)
  have h6 : 0 ≤ x.toInt / y.toInt * y.toInt := Int.mul_nonneg h3 (by omega)
  have hm : (x / y * y).toInt = x.toInt / y.toInt * y.toInt := by
    rw [Int32.toInt_mul, hq]
    exact bm_id (by omega) (by omega)
  rw [Int32.toInt_sub, hm]
  have h7 : x.toInt % y.toInt = x.toInt - x.toInt / y.toInt * y.toInt := by
    have := Int.emod_add_ediv_mul x.toInt y.toInt
    omega
  rw [h7]
  exact bm_id (by omega) (by omega)
theorem B_rem (hx : B a b x) (hy : B c d y) (ha : 0 ≤ a) (hc : 1 ≤ c) : B 0 (d - 1) (x - x / y * y) := by
  unfold B
  rw [t_rem hx hy ha hc]
  have hy0 : 1 ≤ y.toInt := Int.le_trans hc hy.1
  have h1 := Int.emod_nonneg x.toInt (show y.toInt ≠ 0 by omega)
  have h2 := Int.emod_lt_of_pos x.toInt (show 0 < y.toInt by omega)
  exact ⟨h1, by have := hy.2; omega⟩
theorem B_num {n : Nat} (h : n < 2147483648) : B n n (Int32.ofNat n) := by
  unfold B
  rw [Int32.toInt_ofNat_of_lt h]
  exact ⟨Int.le_refl _, Int.le_refl _⟩
theorem B_ltL (hx : B a b x) (hy : B c d y) (h : x < y) : B a (d - 1) x := by
  have := Int32.lt_iff_toInt_lt.mp h
  exact ⟨hx.1, by have := hy.2; omega⟩
theorem B_ltR (hx : B a b x) (hy : B c d y) (h : x < y) : B (a + 1) d y := by
  have := Int32.lt_iff_toInt_lt.mp h
  exact ⟨by have := hx.1; omega, hy.2⟩
theorem B_leL (hx : B a b x) (hy : B c d y) (h : x ≤ y) : B a d x := by
  have := Int32.le_iff_toInt_le.mp h
  exact ⟨hx.1, by have := hy.2; omega⟩
theorem B_leR (hx : B a b x) (hy : B c d y) (h : x ≤ y) : B a d y := by
  have := Int32.le_iff_toInt_le.mp h
  exact ⟨by have := hx.1; omega, hy.2⟩
theorem nlt_le (h : ¬ x < y) : y ≤ x := by
  rw [Int32.lt_iff_toInt_lt] at h
  rw [Int32.le_iff_toInt_le]
  omega
theorem nle_lt (h : ¬ x ≤ y) : y < x := by
  rw [Int32.le_iff_toInt_le] at h
  rw [Int32.lt_iff_toInt_lt]
  omega
theorem vp_B {n : Nat} (h : B a b x) (ha : 0 ≤ a) (hb : b < n) : vp_in x n := by
  have h0 : 0 ≤ x.toInt := Int.le_trans ha h.1
  intro hc
  rcases hc with hc | hc
  · have : x.toInt < 0 := Int32.lt_iff_toInt_lt.mp hc
    omega
  · have e : (x.toNatClampNeg : Int) = x.toInt := by
      show ((x.toInt.toNat : Nat) : Int) = x.toInt
      omega
    have := h.2
    omega
theorem B_nz (h : B a b x) (h1 : 0 < a ∨ b < 0) : ¬ x = 0 := by
  intro e
  subst e
  have h2 : (0 : Int32).toInt = 0 := by decide
  have h3 := h.1
  have h4 := h.2
  omega
theorem B_eq (h : x = y) (hy : B c d y) : B c d x := by
  rw [h]
  exact hy
theorem B_dis (hx : B a b x) (hy : B c d y) (h : x = y) (h1 : b < c ∨ d < a) : False := by
  subst h
  have h2 := hx.1
  have h3 := hx.2
  have h4 := hy.1
  have h5 := hy.2
  omega
theorem B_same (hx : B a a x) (hy : B a a y) : x = y := by
  have h2 := hx.1
  have h3 := hx.2
  have h4 := hy.1
  have h5 := hy.2
  exact Int32.toInt.inj (by omega)
theorem B_z (hx : B 0 0 x) : x = 0 := B_same hx (show B 0 0 (0 : Int32) from ⟨by decide, by decide⟩)
theorem B_n0 (hx : B 0 b x) (h : ¬ x = 0) : B 1 b x := by
  refine ⟨?_, hx.2⟩
  have h1 := hx.1
  by_cases e : x.toInt = 0
  · exact absurd (B_z ⟨by omega, by omega⟩) h
  · omega
theorem B_dead_lt (hx : B a b x) (hy : B c d y) (h : x < y) (h1 : d ≤ a) : False := by
  have h2 := Int32.lt_iff_toInt_lt.mp h
  have h3 := hx.1
  have h4 := hy.2
  omega
theorem B_dead_le (hx : B a b x) (hy : B c d y) (h : x ≤ y) (h1 : d < a) : False := by
  have h2 := Int32.le_iff_toInt_le.mp h
  have h3 := hx.1
  have h4 := hy.2
  omega
theorem inc_lt {m : Int} (hx : B a b x) (hm : m ≤ x.toInt) (h1 : 0 < y.toInt) (h2 : b + y.toInt ≤ 2147483647) : m < (x + y).toInt := by
  have h3 := (B_any x).1
  have h4 := hx.2
  rw [Int32.toInt_add, bm_id (by omega) (by omega)]
  omega
theorem dec_lt {m : Int} (hx : B a b x) (hm : x.toInt ≤ m) (h1 : -2147483648 < a) : (x + -1).toInt < m := by
  have h3 : ((-1 : Int32)).toInt = -1 := by decide
  have h4 := hx.1
  have h5 := (B_any x).2
  rw [Int32.toInt_add, h3, bm_id (by omega) (by omega)]
  omega
theorem B_nar (hx : B a b x) (h1 : 0 ≤ a) (h2 : b ≤ 1) : narrow .boolean (.int x) = .int x := by
  have h3 := hx.1
  have h4 := hx.2
  have h5 : x = 0 ∨ x = 1 := by
    by_cases e : x.toInt = 0
    · exact Or.inl (B_z ⟨by omega, by omega⟩)
    · exact Or.inr (B_same (a := 1) ⟨by omega, by omega⟩ (show B 1 1 (1 : Int32) from ⟨by decide, by decide⟩))
  rcases h5 with h5 | h5 <;> subst h5 <;> rfl
end BB
