/-! packing: what is gathered, steps, rounding -/
def gb (n : Int) : Int := if n = 1 then 1 else if n = 2 then 3 else if n = 3 then 7 else if n = 4 then 15 else if n = 5 then 31 else if n = 6 then 63 else if n = 7 then 127 else 0
theorem gb_v (n : Int) : (n = 0 → gb n = 0) ∧ (n = 1 → gb n = 1) ∧ (n = 2 → gb n = 3) ∧ (n = 3 → gb n = 7) ∧ (n = 4 → gb n = 15) ∧ (n = 5 → gb n = 31) ∧ (n = 6 → gb n = 63) ∧ (n = 7 → gb n = 127) := by
  refine ⟨?_, ?_, ?_, ?_, ?_, ?_, ?_, ?_⟩ <;> (intro h; subst h; decide)
theorem gb_7 (n : Int) : gb n ≤ 127 := by
  unfold gb
  repeat' split
  all_goals decide
theorem gb_s {n m : Int} (h : m = n + 1) (h0 : 0 ≤ n) (h6 : n ≤ 6) : gb m = 2 * gb n + 1 := by
  have : n = 0 ∨ n = 1 ∨ n = 2 ∨ n = 3 ∨ n = 4 ∨ n = 5 ∨ n = 6 := by omega
  subst h
  rcases this with h | h | h | h | h | h | h <;> subst h <;> decide
theorem st_mul {x y : Int32} (hx : B 1 2 x) (hy : B 1 2 y) : (x.toInt = 1 → (x * y).toInt = y.toInt) ∧ (x.toInt = 2 → (x * y).toInt = 2 * y.toInt) ∧ (x.toInt = 1 ∨ x.toInt = 2) ∧ (y.toInt = 1 ∨ y.toInt = 2) := by
  have e := t_mul hx hy (by decide) (by decide) (by decide)
  have h1 := hx.1
  have h2 := hx.2
  have h3 := hy.1
  have h4 := hy.2
  refine ⟨fun h => ?_, fun h => ?_, by omega, by omega⟩
  · rw [e, h]; omega
  · rw [e, h]
theorem dv_255 {x y : Int32} {a b c d : Int} (hx : B a b x) (hy : B c d y) (ha : 0 ≤ a) (hc : 1 ≤ c) (h : x.toInt < 256 * y.toInt) : B 0 255 (x / y) := by
  have e := t_div hx hy ha hc
  have x0 : 0 ≤ x.toInt := Int.le_trans ha hx.1
  have y0 : 1 ≤ y.toInt := Int.le_trans hc hy.1
  unfold B
  rw [e]
  refine ⟨Int.ediv_nonneg x0 (by omega), ?_⟩
  have : x.toInt / y.toInt < 256 := Int.ediv_lt_of_lt_mul (by omega) h
  omega
theorem rd_B {a e : Int32} {m : Int} (ha : B 0 m a) (he : B 1 255 e) (hm : m ≤ 1048576) : B 0 m ((a + e / 2) / e) := by
  have a0 := ha.1
  have a1 := ha.2
  have e0 := he.1
  have e1 := he.2
  have h2 : (e / 2).toInt = e.toInt / 2 := t_div he (show B 2 2 (2 : Int32) from ⟨by decide, by decide⟩) (by decide) (by decide)
  have hb : B 0 127 (e / 2) := ⟨by omega, by omega⟩
  have h3 : (a + e / 2).toInt = a.toInt + e.toInt / 2 := by
    rw [t_add (a := 0) (b := 1048576) ⟨a0, by omega⟩ hb (by decide) (by decide), h2]
  have hc : B 0 1048703 (a + e / 2) := ⟨by omega, by omega⟩
  have h4 := t_div hc he (by decide) (by decide)
  unfold B
  rw [h4, h3]
  refine ⟨Int.ediv_nonneg (by omega) (by omega), ?_⟩
  have h5 : (a.toInt + e.toInt / 2) / e.toInt < a.toInt + 1 := by
    apply Int.ediv_lt_of_lt_mul (by omega)
    have h6 : a.toInt * 1 ≤ a.toInt * e.toInt := Int.mul_le_mul_of_nonneg_left e0 a0
    have h7 : (a.toInt + 1) * e.toInt = a.toInt * e.toInt + e.toInt := by rw [Int.add_mul, Int.one_mul]
    omega
  omega
/-! long numbers -/
def BL (lo hi : Int) (x : Int64) : Prop := lo ≤ x.toInt ∧ x.toInt ≤ hi
theorem bm_64 {z : Int} (h1 : -9223372036854775808 ≤ z) (h2 : z ≤ 9223372036854775807) : z.bmod 18446744073709551616 = z := by
  rw [Int.bmod_def]
  split <;> omega
theorem l_add {x y : Int64} (h1 : -9223372036854775808 ≤ x.toInt + y.toInt) (h2 : x.toInt + y.toInt ≤ 9223372036854775807) : (x + y).toInt = x.toInt + y.toInt := by
  rw [Int64.toInt_add]
  exact bm_64 h1 h2
theorem l_mul {x y : Int64} {m n : Int} (hx : BL (-m) m x) (hy : BL (-n) n y) (h : m * n ≤ 9223372036854775807) : (x * y).toInt = x.toInt * y.toInt ∧ BL (-(m * n)) (m * n) (x * y) := by
  have e := ab_mul hx.1 hx.2 hy.1 hy.2
  have e2 : (x * y).toInt = x.toInt * y.toInt := by
    rw [Int64.toInt_mul]
    exact bm_64 (by omega) (by omega)
  refine ⟨e2, ?_⟩
  unfold BL
  rw [e2]
  exact e
theorem l_shr {x s : Int64} {k : Nat} (hs : (s.toBitVec.smod 64).toNat = k) : (x >>> s).toInt = x.toInt / 2 ^ k := by
  show (x.toBitVec.sshiftRight (s.toBitVec.smod 64).toNat).toInt = _
  rw [hs, BitVec.toInt_sshiftRight, Int.shiftRight_eq_div_pow]
  rfl
theorem l_i32 {x : Int64} {lo hi : Int} (hx : BL lo hi x) (h1 : -2147483648 ≤ lo) (h2 : hi ≤ 2147483647) : B lo hi x.toInt32 := by
  have e : x.toInt32.toInt = x.toInt := by
    rw [Int64.toInt_toInt32]
    have := hx.1
    have := hx.2
    exact bm_id (by omega) (by omega)
  unfold B
  rw [e]
  exact hx
theorem l_of {x : Int32} {lo hi : Int} (hx : B lo hi x) : BL lo hi x.toInt64 := by
  unfold BL
  rw [Int32.toInt_toInt64]
  exact hx
/-! how many bits a number has -/
def bl (n : Nat) : Nat := if n = 0 then 0 else n.log2 + 1
def bf (x : Int32) : Int32 := nI (bl x.toInt.natAbs)
theorem bl_le {n k : Nat} : bl n ≤ k ↔ n < 2 ^ k := by
  unfold bl
  split
  · next h =>
    subst h
    exact ⟨fun _ => Nat.two_pow_pos k, fun _ => Nat.zero_le _⟩
  · next h =>
    rw [Nat.succ_le_iff]
    exact Nat.log2_lt h
theorem sh_c : ∀ n, n < 32 → ((nI n &&& 31).toBitVec.smod 32).toNat = n := by decide
theorem bf_B {x : Int32} {m : Nat} (h : x.toInt.natAbs < 2 ^ m) (hm : m < 32) : B 0 m (bf x) := by
  have h1 := bl_le.mpr h
  unfold bf B
  rw [nI_toInt (by omega)]
  omega
theorem h_bitsOf {x0 : Int32} {K : Int32 → Prop} (b_x0 : B (-8191) 8191 x0) (hK : K (bf x0)) : p_bitsOf x0 K := by
  have q1 := b_x0.1
  have q2 := b_x0.2
  have z0 : (0 : Int32).toInt = 0 := by decide
  have go : ∀ s0 : Int32, B 0 8191 s0 → K (nI (bl s0.toInt.natAbs)) → b_bitsOf_10 s0 K := by
    intro s0 hs hk
    have s1 := hs.1
    have s2 := hs.2
    have hb13 : bl s0.toInt.natAbs ≤ 13 := bl_le.mpr (by omega)
    unfold b_bitsOf_10
    refine ⟨fun y1 y2 => s0 = y1 ∧ ∃ k, y2 = nI k ∧ k ≤ bl s0.toInt.natAbs, fun _ y2 => bl s0.toInt.natAbs - y2.toNatClampNeg, ⟨rfl, 0, rfl, Nat.zero_le _⟩, ?_⟩
    rintro _ _ ⟨rfl, k, rfl, hk2⟩
    have e : (s0 >>> (nI k &&& 31 : Int32) : Int32).toInt = s0.toInt / 2 ^ k := t_shr (sh_c k (by omega))
    have e2 : s0.toInt / 2 ^ k = ((s0.toInt.natAbs / 2 ^ k : Nat) : Int) := by
      have : s0.toInt = ((s0.toInt.natAbs : Nat) : Int) := by omega
      rw [this]
      simp
    unfold b_bitsOf_13
    refine ⟨fun hc => ?_, fun hc => ?_⟩
    · have hc := i_le hc
      rw [e, e2, z0] at hc
      have h3 : s0.toInt.natAbs / 2 ^ k = 0 := by
        revert hc
        generalize s0.toInt.natAbs / 2 ^ k = q
        intro hc
        omega
      have h4 : s0.toInt.natAbs < 2 ^ k := by
        rcases Nat.div_eq_zero_iff.mp h3 with h5 | h5
        · exact absurd h5 (Nat.ne_of_gt (Nat.two_pow_pos k))
        · exact h5
      have h6 := bl_le.mpr h4
      have h7 : k = bl s0.toInt.natAbs := by omega
      rw [h7]
      exact hk
    · have hc := i_lt (nle_lt hc)
      rw [e, e2, z0] at hc
      have h4 : ¬ bl s0.toInt.natAbs ≤ k := fun h => by
        have := bl_le.mp h
        have : s0.toInt.natAbs / 2 ^ k = 0 := Nat.div_eq_of_lt this
        omega
      refine ⟨⟨rfl, k + 1, nI_1 k, by omega⟩, ?_⟩
      show bl s0.toInt.natAbs - (nI k + 1).toNatClampNeg < bl s0.toInt.natAbs - (nI k).toNatClampNeg
      rw [nI_1, nI_clamp (by omega), nI_clamp (by omega)]
      omega
  unfold p_bitsOf
  refine ⟨fun hc => ?_, fun hc => ?_⟩
  · have hc := i_le hc
    exact go x0 ⟨by omega, by omega⟩ hK
  · have hc := i_lt (nle_lt hc)
    have e := t_neg b_x0 (by decide)
    refine go (-x0) ⟨by omega, by omega⟩ ?_
    rw [e, Int.natAbs_neg]
    exact hK
