/-! RUNNING ON KNOWN STATES: numbers as codes (Nat), rows as one large number each (33 bits a place; 2^32 and more: not known), units in a tree; all in continuation style, so that the kernel forces what it makes -/
noncomputable def frc (n : Nat) (k : Nat → Bool) : Bool := Nat.rec (k 0) (fun m _ => k (Nat.succ m)) n
theorem frc_ok {n : Nat} {k : Nat → Bool} (h : frc n k = true) : k n = true := by
  cases n <;> exact h
theorem x_pos {c b1 b2 : Bool} (h : cond c b1 b2 = true) (hc : c = true) : b1 = true := by rw [hc] at h; exact h
theorem x_neg {c b1 b2 : Bool} (h : cond c b1 b2 = true) (hc : ¬ c = true) : b2 = true := by
  cases c
  · exact h
  · exact absurd rfl hc
theorem x_and {c b1 : Bool} (h : cond c b1 false = true) : c = true ∧ b1 = true := by
  cases c
  · exact absurd h Bool.false_ne_true
  · exact ⟨rfl, h⟩
/-! numbers -/
def w_add (a b : Nat) : Nat := Nat.mod (Nat.add a b) 4294967296
def w_sub (a b : Nat) : Nat := Nat.mod (Nat.add a (Nat.sub 4294967296 (Nat.mod b 4294967296))) 4294967296
def w_mul (a b : Nat) : Nat := Nat.mod (Nat.mul a b) 4294967296
def w_neg (a : Nat) : Nat := w_sub 0 a
def sI (a : Nat) : Int := cond (Nat.blt (Nat.mod a 4294967296) 2147483648) (Int.ofNat (Nat.mod a 4294967296)) (Int.negSucc (Nat.sub 4294967295 (Nat.mod a 4294967296)))
noncomputable def tN (z : Int) : Nat := Int.rec (fun n => Nat.mod n 4294967296) (fun n => Nat.sub 4294967295 (Nat.mod n 4294967296)) z
noncomputable def w_div (a b : Nat) : Nat := tN (Int.tdiv (sI a) (sI b))
noncomputable def w_shr (a b : Nat) : Nat := tN (Int.shiftRight (sI a) (Nat.land b 31))
def w_shl (a b : Nat) : Nat := Nat.mod (Nat.shiftLeft a (Nat.land b 31)) 4294967296
def w_lt (a b : Nat) : Bool := Nat.blt (Nat.mod (Nat.add a 2147483648) 4294967296) (Nat.mod (Nat.add b 2147483648) 4294967296)
def w_eq (a b : Nat) : Bool := Nat.beq (Nat.mod a 4294967296) (Nat.mod b 4294967296)
def w_max (a b : Nat) : Nat := cond (w_lt a b) b a
def w_min (a b : Nat) : Nat := cond (w_lt b a) b a
theorem n_mod (a : Nat) : Int32.ofNat (a % 4294967296) = Int32.ofNat a := by
  apply Int32.toBitVec_inj.mp
  show BitVec.ofNat 32 (a % 4294967296) = BitVec.ofNat 32 a
  apply BitVec.eq_of_toNat_eq
  simp
section XN
variable {x y : Int32} {a b : Nat}
theorem n_add (hx : x = Int32.ofNat a) (hy : y = Int32.ofNat b) : x + y = Int32.ofNat (w_add a b) := by
  rw [hx, hy, ← Int32.ofNat_add]; exact (n_mod _).symm
theorem n_mul (hx : x = Int32.ofNat a) (hy : y = Int32.ofNat b) : x * y = Int32.ofNat (w_mul a b) := by
  rw [hx, hy, ← Int32.ofNat_mul]; exact (n_mod _).symm
theorem n_sub (hx : x = Int32.ofNat a) (hy : y = Int32.ofNat b) : x - y = Int32.ofNat (w_sub a b) := by
  have h1 : b % 4294967296 < 4294967296 := Nat.mod_lt _ (by decide)
  have e : a + (4294967296 - b % 4294967296) = (a + 4294967296) - b % 4294967296 := by omega
  show x - y = Int32.ofNat ((a + (4294967296 - b % 4294967296)) % 4294967296)
  rw [n_mod, e, Int32.ofNat_sub _ _ (by omega), Int32.ofNat_add, n_mod, hx, hy]
  show Int32.ofNat a - Int32.ofNat b = Int32.ofNat a + 0 - Int32.ofNat b
  rw [Int32.add_zero]
theorem n_neg (hx : x = Int32.ofNat a) : -x = Int32.ofNat (w_neg a) := by
  have h := n_sub (x := 0) (a := 0) rfl hx
  rw [Int32.zero_sub] at h
  exact h
theorem n_sI (hx : x = Int32.ofNat a) : x.toInt = sI a := by
  rw [hx, ← n_mod]
  have h1 : a % 4294967296 < 4294967296 := Nat.mod_lt _ (by decide)
  unfold sI
  have e0 : Nat.mod a 4294967296 = a % 4294967296 := rfl
  rw [e0]
  generalize a % 4294967296 = c at h1
  by_cases h : c < 2147483648
  · have e : Nat.blt c 2147483648 = true := Nat.ble_eq_true_of_le h
    rw [e, Int32.toInt_ofNat_of_lt h]
    first | done | rfl
  · have e : Nat.blt c 2147483648 = false := by
      cases hb : Nat.blt c 2147483648
      · rfl
      · exact absurd (Nat.le_of_ble_eq_true hb) h
    rw [e]
    show (Int32.ofNat c).toInt = Int.negSucc (4294967295 - c)
    have e2 : Int32.ofNat c = Int32.ofInt (c : Int) := (Int32.ofInt_eq_ofNat).symm
    rw [e2, Int32.toInt_ofInt, Int.negSucc_eq]
    show (c : Int).bmod 4294967296 = _
    rw [Int.bmod_def]
    split <;> omega
theorem n_tN (z : Int) : Int32.ofInt z = Int32.ofNat (tN z) := by
  apply Int32.toInt_inj.mp
  rw [n_sI rfl, Int32.toInt_ofInt]
  show z.bmod 4294967296 = _
  have hs : ∀ c : Nat, c < 4294967296 → sI c = (c : Int).bmod 4294967296 := by
    intro c hc
    have h := n_sI (x := Int32.ofNat c) (a := c) rfl
    rw [← h, (Int32.ofInt_eq_ofNat).symm, Int32.toInt_ofInt]
    first | done | rfl
  cases z with
  | ofNat n =>
    show (n : Int).bmod 4294967296 = sI (n % 4294967296)
    rw [hs _ (Nat.mod_lt _ (by decide))]
    have e : ((n % 4294967296 : Nat) : Int) = (n : Int) % 4294967296 := by omega
    rw [e]
    exact (Int.emod_bmod (x := (n : Int)) (n := 4294967296)).symm
  | negSucc n =>
    show (Int.negSucc n).bmod 4294967296 = sI (4294967295 - n % 4294967296)
    have h1 : n % 4294967296 < 4294967296 := Nat.mod_lt _ (by decide)
    rw [hs _ (by omega)]
    have e : ((4294967295 - n % 4294967296 : Nat) : Int) = (Int.negSucc n) % 4294967296 := by
      rw [Int.negSucc_eq]
      omega
    rw [e]
    exact (Int.emod_bmod (x := Int.negSucc n) (n := 4294967296)).symm
theorem n_div (hx : x = Int32.ofNat a) (hy : y = Int32.ofNat b) : x / y = Int32.ofNat (w_div a b) := by
  show x / y = Int32.ofNat (tN ((sI a).tdiv (sI b)))
  rw [← n_tN, ← n_sI hx, ← n_sI hy]
  apply Int32.toInt_inj.mp
  rw [Int32.toInt_div, Int32.toInt_ofInt]
  first | done | rfl
theorem n_and (hx : x = Int32.ofNat a) (hy : y = Int32.ofNat b) : x &&& y = Int32.ofNat (Nat.land a b) := by
  rw [hx, hy]
  apply Int32.toBitVec_inj.mp
  show BitVec.ofNat 32 a &&& BitVec.ofNat 32 b = BitVec.ofNat 32 (a &&& b)
  exact BitVec.ofNat_and.symm
theorem n_or (hx : x = Int32.ofNat a) (hy : y = Int32.ofNat b) : x ||| y = Int32.ofNat (Nat.lor a b) := by
  rw [hx, hy]
  apply Int32.toBitVec_inj.mp
  show BitVec.ofNat 32 a ||| BitVec.ofNat 32 b = BitVec.ofNat 32 (a ||| b)
  exact BitVec.ofNat_or.symm
theorem n_xor (hx : x = Int32.ofNat a) (hy : y = Int32.ofNat b) : x ^^^ y = Int32.ofNat (Nat.xor a b) := by
  rw [hx, hy]
  apply Int32.toBitVec_inj.mp
  show BitVec.ofNat 32 a ^^^ BitVec.ofNat 32 b = BitVec.ofNat 32 (a ^^^ b)
  exact BitVec.ofNat_xor.symm
theorem n_31 (hy : y = Int32.ofNat b) : (y &&& 31).toBitVec.smod 32 = BitVec.ofNat 32 (Nat.land b 31) := by
  have h1 : y &&& 31 = Int32.ofNat (Nat.land b 31) := n_and hy rfl
  have h2 : Nat.land b 31 < 32 := Nat.lt_of_le_of_lt (Nat.and_le_right) (by decide)
  rw [h1]
  generalize Nat.land b 31 = c at h2
  have h3 : ∀ c : Fin 32, (Int32.ofNat c.val).toBitVec.smod 32 = BitVec.ofNat 32 c.val := by decide +kernel
  exact h3 ⟨c, h2⟩
theorem n_shl (hx : x = Int32.ofNat a) (hy : y = Int32.ofNat b) : (x <<< (y &&& 31 : Int32) : Int32) = Int32.ofNat (w_shl a b) := by
  have h2 : Nat.land b 31 < 32 := Nat.lt_of_le_of_lt (Nat.and_le_right) (by decide)
  show _ = Int32.ofNat ((Nat.shiftLeft a (Nat.land b 31)) % 4294967296)
  rw [n_mod]
  apply Int32.toBitVec_inj.mp
  rw [Int32.toBitVec_shiftLeft, n_31 hy, hx]
  generalize Nat.land b 31 = c at h2
  show (BitVec.ofNat 32 a) <<< (BitVec.ofNat 32 c) = BitVec.ofNat 32 (a <<< c)
  apply BitVec.eq_of_toNat_eq
  rw [BitVec.shiftLeft_eq', BitVec.toNat_shiftLeft, BitVec.toNat_ofNat, BitVec.toNat_ofNat, BitVec.toNat_ofNat, Nat.mod_eq_of_lt (show c < 2 ^ 32 by omega), Nat.shiftLeft_eq, Nat.shiftLeft_eq, Nat.mod_mul_mod]
theorem n_shr (hx : x = Int32.ofNat a) (hy : y = Int32.ofNat b) : (x >>> (y &&& 31 : Int32) : Int32) = Int32.ofNat (w_shr a b) := by
  have h2 : Nat.land b 31 < 32 := Nat.lt_of_le_of_lt (Nat.and_le_right) (by decide)
  show _ = Int32.ofNat (tN ((sI a).shiftRight (Nat.land b 31)))
  rw [← n_tN, ← n_sI hx]
  apply Int32.toInt_inj.mp
  rw [Int32.toInt_ofInt]
  show (x >>> (y &&& 31)).toBitVec.toInt = _
  rw [Int32.toBitVec_shiftRight, n_31 hy]
  generalize Nat.land b 31 = c at h2
  rw [BitVec.sshiftRight_eq', BitVec.toInt_sshiftRight, BitVec.toNat_ofNat, Nat.mod_eq_of_lt (show c < 2 ^ 32 by omega)]
  show x.toInt >>> c = (x.toInt >>> c).bmod 4294967296
  have h3 := Int32.le_toInt x
  have h4 := Int32.toInt_lt x
  have h5 : -2147483648 ≤ x.toInt >>> c ∧ x.toInt >>> c < 2147483648 := by
    rw [Int.shiftRight_eq_div_pow]
    have hp : (0 : Int) < ((2 ^ c : Nat) : Int) := by
      have := Nat.two_pow_pos c
      omega
    constructor
    · apply Int.le_ediv_of_mul_le hp
      have : (1 : Int) ≤ ((2 ^ c : Nat) : Int) := by omega
      simp only [Int.reducePow] at h3
      omega
    · apply Int.ediv_lt_of_lt_mul hp
      have : (1 : Int) ≤ ((2 ^ c : Nat) : Int) := by omega
      simp only [Int.reducePow] at h4
      omega
  rw [Int.bmod_def]
  split <;> omega
theorem c_lt' (hx : x = Int32.ofNat a) (hy : y = Int32.ofNat b) : x < y ↔ w_lt a b = true := by
  rw [Int32.lt_iff_toInt_lt, n_sI hx, n_sI hy]
  have ha : a % 4294967296 < 4294967296 := Nat.mod_lt _ (by decide)
  have hb : b % 4294967296 < 4294967296 := Nat.mod_lt _ (by decide)
  have e : w_lt a b = Nat.blt ((a + 2147483648) % 4294967296) ((b + 2147483648) % 4294967296) := rfl
  have es : ∀ c : Nat, sI c = if c % 4294967296 < 2147483648 then ((c % 4294967296 : Nat) : Int) else ((c % 4294967296 : Nat) : Int) - 4294967296 := by
    intro c
    have hc : c % 4294967296 < 4294967296 := Nat.mod_lt _ (by decide)
    unfold sI
    have e0 : Nat.mod c 4294967296 = c % 4294967296 := rfl
    rw [e0]
    generalize c % 4294967296 = q at hc
    by_cases h : q < 2147483648
    · have e : Nat.blt q 2147483648 = true := Nat.ble_eq_true_of_le h
      rw [e, if_pos h]
      rfl
    · have e : Nat.blt q 2147483648 = false := by
        cases hb : Nat.blt q 2147483648
        · rfl
        · exact absurd (Nat.le_of_ble_eq_true hb) h
      rw [e, if_neg h]
      show Int.negSucc (4294967295 - q) = _
      rw [Int.negSucc_eq]
      omega
  rw [e, es a, es b]
  constructor
  · intro h
    apply Nat.ble_eq_true_of_le
    split at h <;> split at h <;> omega
  · intro h
    have := Nat.le_of_ble_eq_true h
    split <;> split <;> omega
theorem c_eq' (hx : x = Int32.ofNat a) (hy : y = Int32.ofNat b) : x = y ↔ w_eq a b = true := by
  have e : w_eq a b = Nat.beq (a % 4294967296) (b % 4294967296) := rfl
  rw [e, hx, hy]
  constructor
  · intro h
    have h1 : (Int32.ofNat a).toBitVec.toNat = (Int32.ofNat b).toBitVec.toNat := by rw [h]
    have h2 : a % 2 ^ 32 = b % 2 ^ 32 := h1
    exact Nat.beq_eq ▸ h2
  · intro h
    have h2 := Nat.eq_of_beq_eq_true h
    rw [← n_mod a, ← n_mod b, h2]
theorem c_le' (hx : x = Int32.ofNat a) (hy : y = Int32.ofNat b) : x ≤ y ↔ (!(w_lt b a)) = true := by
  have h := c_lt' hy hx
  have h1 : x ≤ y ↔ ¬ y < x := by rw [Int32.le_iff_toInt_le, Int32.lt_iff_toInt_lt]; omega
  rw [h1, h]
  cases w_lt b a <;> simp
theorem n_max (hx : x = Int32.ofNat a) (hy : y = Int32.ofNat b) : i_max x y = Int32.ofNat (w_max a b) := by
  have h := c_lt' hx hy
  unfold i_max w_max
  by_cases hc : x < y
  · rw [if_pos hc, h.mp hc]; exact hy
  · rw [if_neg hc]
    cases hb : w_lt a b
    · exact hx
    · exact absurd (h.mpr hb) hc
theorem n_min (hx : x = Int32.ofNat a) (hy : y = Int32.ofNat b) : i_min x y = Int32.ofNat (w_min a b) := by
  have h := c_lt' hy hx
  unfold i_min w_min
  by_cases hc : y < x
  · rw [if_pos hc, h.mp hc]; exact hy
  · rw [if_neg hc]
    cases hb : w_lt b a
    · exact hx
    · exact absurd (h.mpr hb) hc
def w_abs (a : Nat) : Nat := cond (w_lt a 0) (w_sub 0 a) a
theorem n_abs (hx : x = Int32.ofNat a) : i_abs x = Int32.ofNat (w_abs a) := by
  have h := c_lt' (y := 0) (b := 0) hx rfl
  have h1 : (0 : Int32) ≤ x ↔ ¬ x < 0 := by rw [Int32.le_iff_toInt_le, Int32.lt_iff_toInt_lt]; omega
  unfold i_abs w_abs
  by_cases hc : x < 0
  · rw [if_neg (fun q => (h1.mp q) hc), h.mp hc]; exact n_sub rfl hx
  · rw [if_pos (h1.mpr hc)]
    cases hb : w_lt a 0
    · exact hx
    · exact absurd (h.mpr hb) hc
theorem n_idx (hx : x = Int32.ofNat a) (h : a < 2147483648) : x.toNatClampNeg = a := by
  rw [hx]; exact Int32.toNatClampNeg_ofNat_of_lt h
theorem n_vp {n : Nat} (hx : x = Int32.ofNat a) (h : Nat.blt a n = true) (hn : n ≤ 2147483648) : vp_in x n := by
  have h1 : a < n := Nat.le_of_ble_eq_true h
  intro hc
  have e := n_idx hx (by omega)
  rcases hc with hc | hc
  · rw [hx, Int32.lt_iff_toInt_lt, Int32.toInt_ofNat_of_lt (by omega)] at hc
    exact absurd hc (by simp)
  · rw [e] at hc
    omega
end XN

/-! long numbers -/
def v_add (a b : Nat) : Nat := Nat.mod (Nat.add a b) 18446744073709551616
def v_mul (a b : Nat) : Nat := Nat.mod (Nat.mul a b) 18446744073709551616
def sL (a : Nat) : Int := cond (Nat.blt (Nat.mod a 18446744073709551616) 9223372036854775808) (Int.ofNat (Nat.mod a 18446744073709551616)) (Int.negSucc (Nat.sub 18446744073709551615 (Nat.mod a 18446744073709551616)))
noncomputable def tL (z : Int) : Nat := Int.rec (fun n => Nat.mod n 18446744073709551616) (fun n => Nat.sub 18446744073709551615 (Nat.mod n 18446744073709551616)) z
noncomputable def v_i2l (a : Nat) : Nat := tL (sI a)
noncomputable def v_l2i (a : Nat) : Nat := tN (sL a)
noncomputable def v_shr (a b : Nat) : Nat := tL (Int.shiftRight (sL a) (Nat.land b 63))
theorem m_mod (a : Nat) : Int64.ofNat (a % 18446744073709551616) = Int64.ofNat a := by
  apply Int64.toBitVec_inj.mp
  show BitVec.ofNat 64 (a % 18446744073709551616) = BitVec.ofNat 64 a
  apply BitVec.eq_of_toNat_eq
  simp
section XL
variable {x y : Int64} {a b : Nat}
theorem m_add (hx : x = Int64.ofNat a) (hy : y = Int64.ofNat b) : x + y = Int64.ofNat (v_add a b) := by
  rw [hx, hy, ← Int64.ofNat_add]; exact (m_mod _).symm
theorem m_mul (hx : x = Int64.ofNat a) (hy : y = Int64.ofNat b) : x * y = Int64.ofNat (v_mul a b) := by
  rw [hx, hy, ← Int64.ofNat_mul]; exact (m_mod _).symm
theorem m_sL (hx : x = Int64.ofNat a) : x.toInt = sL a := by
  rw [hx, ← m_mod]
  have h1 : a % 18446744073709551616 < 18446744073709551616 := Nat.mod_lt _ (by decide)
  unfold sL
  have e0 : Nat.mod a 18446744073709551616 = a % 18446744073709551616 := rfl
  rw [e0]
  generalize a % 18446744073709551616 = c at h1
  by_cases h : c < 9223372036854775808
  · have e : Nat.blt c 9223372036854775808 = true := Nat.ble_eq_true_of_le h
    rw [e, Int64.toInt_ofNat_of_lt h]
    first | done | rfl
  · have e : Nat.blt c 9223372036854775808 = false := by
      cases hb : Nat.blt c 9223372036854775808
      · rfl
      · exact absurd (Nat.le_of_ble_eq_true hb) h
    rw [e]
    show (Int64.ofNat c).toInt = Int.negSucc (18446744073709551615 - c)
    have e2 : Int64.ofNat c = Int64.ofInt (c : Int) := (Int64.ofInt_eq_ofNat).symm
    rw [e2, Int64.toInt_ofInt, Int.negSucc_eq]
    show (c : Int).bmod 18446744073709551616 = _
    rw [Int.bmod_def]
    split <;> omega
theorem m_tL (z : Int) : Int64.ofInt z = Int64.ofNat (tL z) := by
  apply Int64.toInt_inj.mp
  rw [m_sL rfl, Int64.toInt_ofInt]
  show z.bmod 18446744073709551616 = _
  have hs : ∀ c : Nat, c < 18446744073709551616 → sL c = (c : Int).bmod 18446744073709551616 := by
    intro c hc
    have h := m_sL (x := Int64.ofNat c) (a := c) rfl
    rw [← h, (Int64.ofInt_eq_ofNat).symm, Int64.toInt_ofInt]
    first | done | rfl
  cases z with
  | ofNat n =>
    show (n : Int).bmod 18446744073709551616 = sL (n % 18446744073709551616)
    rw [hs _ (Nat.mod_lt _ (by decide))]
    have e : ((n % 18446744073709551616 : Nat) : Int) = (n : Int) % 18446744073709551616 := by omega
    rw [e]
    exact (Int.emod_bmod (x := (n : Int)) (n := 18446744073709551616)).symm
  | negSucc n =>
    show (Int.negSucc n).bmod 18446744073709551616 = sL (18446744073709551615 - n % 18446744073709551616)
    have h1 : n % 18446744073709551616 < 18446744073709551616 := Nat.mod_lt _ (by decide)
    rw [hs _ (by omega)]
    have e : ((18446744073709551615 - n % 18446744073709551616 : Nat) : Int) = (Int.negSucc n) % 18446744073709551616 := by
      rw [Int.negSucc_eq]
      omega
    rw [e]
    exact (Int.emod_bmod (x := Int.negSucc n) (n := 18446744073709551616)).symm
theorem m_i2l {w : Int32} (hx : w = Int32.ofNat a) : w.toInt64 = Int64.ofNat (v_i2l a) := by
  show _ = Int64.ofNat (tL (sI a))
  rw [← m_tL, ← n_sI hx]
  apply Int64.toInt_inj.mp
  rw [Int64.toInt_ofInt, Int32.toInt_toInt64]
  have h3 := Int32.le_toInt w
  have h4 := Int32.toInt_lt w
  show w.toInt = (w.toInt).bmod 18446744073709551616
  rw [Int.bmod_def]
  simp only [Int.reducePow, Int.reduceNeg] at h3 h4
  split <;> omega
theorem m_l2i (hx : x = Int64.ofNat a) : x.toInt32 = Int32.ofNat (v_l2i a) := by
  show _ = Int32.ofNat (tN (sL a))
  rw [← n_tN, ← m_sL hx]
  apply Int32.toInt_inj.mp
  rw [Int32.toInt_ofInt, Int64.toInt_toInt32]
  first | done | rfl
theorem m_63 {w : Int32} (hy : w = Int32.ofNat b) : (w.toInt64 &&& 63).toBitVec.smod 64 = BitVec.ofNat 64 (Nat.land b 63) := by
  have h0 : w.toInt64 = Int64.ofNat (v_i2l b) := m_i2l hy
  have h1 : w.toInt64 &&& 63 = Int64.ofNat (Nat.land (v_i2l b) 63) := by
    rw [h0]
    apply Int64.toBitVec_inj.mp
    show BitVec.ofNat 64 (v_i2l b) &&& BitVec.ofNat 64 63 = BitVec.ofNat 64 (v_i2l b &&& 63)
    exact BitVec.ofNat_and.symm
  have h5 : Nat.land (v_i2l b) 63 = Nat.land b 63 := by
    show v_i2l b &&& 63 = b &&& 63
    rw [show (63 : Nat) = 2 ^ 6 - 1 from rfl, Nat.and_two_pow_sub_one_eq_mod, Nat.and_two_pow_sub_one_eq_mod]
    show tL (sI b) % 64 = b % 64
    unfold sI
    have e0 : Nat.mod b 4294967296 = b % 4294967296 := rfl
    rw [e0]
    cases Nat.blt (b % 4294967296) 2147483648
    · show (18446744073709551615 - (4294967295 - b % 4294967296) % 18446744073709551616) % 64 = b % 64
      omega
    · show (b % 4294967296) % 18446744073709551616 % 64 = b % 64
      omega
  have h2 : Nat.land b 63 < 64 := Nat.lt_of_le_of_lt (Nat.and_le_right) (by decide)
  rw [h1, h5]
  generalize Nat.land b 63 = c at h2
  have h3 : ∀ c : Fin 64, (Int64.ofNat c.val).toBitVec.smod 64 = BitVec.ofNat 64 c.val := by decide +kernel
  exact h3 ⟨c, h2⟩
theorem m_shr {w : Int32} (hx : x = Int64.ofNat a) (hy : w = Int32.ofNat b) : (x >>> (w.toInt64 &&& 63 : Int64) : Int64) = Int64.ofNat (v_shr a b) := by
  have h2 : Nat.land b 63 < 64 := Nat.lt_of_le_of_lt (Nat.and_le_right) (by decide)
  show _ = Int64.ofNat (tL ((sL a).shiftRight (Nat.land b 63)))
  rw [← m_tL, ← m_sL hx]
  apply Int64.toInt_inj.mp
  rw [Int64.toInt_ofInt]
  show (x >>> (w.toInt64 &&& 63)).toBitVec.toInt = _
  rw [Int64.toBitVec_shiftRight, m_63 hy]
  generalize Nat.land b 63 = c at h2
  rw [BitVec.sshiftRight_eq', BitVec.toInt_sshiftRight, BitVec.toNat_ofNat, Nat.mod_eq_of_lt (show c < 2 ^ 64 by omega)]
  show x.toInt >>> c = (x.toInt >>> c).bmod 18446744073709551616
  have h3 := Int64.le_toInt x
  have h4 := Int64.toInt_lt x
  have h5 : -9223372036854775808 ≤ x.toInt >>> c ∧ x.toInt >>> c < 9223372036854775808 := by
    rw [Int.shiftRight_eq_div_pow]
    have hp : (0 : Int) < ((2 ^ c : Nat) : Int) := by
      have := Nat.two_pow_pos c
      omega
    constructor
    · apply Int.le_ediv_of_mul_le hp
      have : (1 : Int) ≤ ((2 ^ c : Nat) : Int) := by omega
      simp only [Int.reducePow] at h3
      omega
    · apply Int.ediv_lt_of_lt_mul hp
      have : (1 : Int) ≤ ((2 ^ c : Nat) : Int) := by omega
      simp only [Int.reducePow] at h4
      omega
  rw [Int.bmod_def]
  split <;> omega
end XL
/-! places of a row -/
def gv (n k : Nat) : Nat := Nat.mod (Nat.shiftRight n (Nat.mul 33 k)) 8589934592
def sv (n k v : Nat) : Nat := Nat.xor n (Nat.shiftLeft (Nat.xor (gv n k) v) (Nat.mul 33 k))
theorem gv_lt (n k : Nat) : gv n k < 8589934592 := Nat.mod_lt _ (by decide)
theorem gv_sv {n k j v : Nat} (hv : v < 8589934592) : gv (sv n k v) j = if j = k then v else gv n j := by
  apply Nat.eq_of_testBit_eq
  intro i
  have e1 : ∀ n j i, (gv n j).testBit i = (decide (i < 33) && n.testBit (33 * j + i)) := by
    intro n j i
    show ((n >>> (33 * j)) % 2 ^ 33).testBit i = _
    rw [Nat.testBit_mod_two_pow, Nat.testBit_shiftRight]
  have hb : ∀ c : Nat, c < 8589934592 → ∀ i, 33 ≤ i → c.testBit i = false := fun c hc i hi => Nat.testBit_lt_two_pow (Nat.lt_of_lt_of_le hc (show 2 ^ 33 ≤ 2 ^ i from Nat.pow_le_pow_right (by decide) hi))
  rw [e1]
  show (decide (i < 33) && (n ^^^ ((gv n k ^^^ v) <<< (33 * k))).testBit (33 * j + i)) = _
  rw [Nat.testBit_xor, Nat.testBit_shiftLeft, Nat.testBit_xor]
  by_cases hi : i < 33
  · by_cases hj : j = k
    · subst hj
      rw [if_pos rfl, e1]
      have h1 : 33 * j + i - 33 * j = i := by omega
      simp [hi, h1]
    · rw [if_neg hj, e1 n j i]
      by_cases hl : j < k
      · have h1 : ¬ (33 * j + i ≥ 33 * k) := by omega
        simp [hi, h1]
      · have h1 : 33 ≤ 33 * j + i - 33 * k := by omega
        rw [hb _ (gv_lt n k) _ h1, hb _ hv _ h1]
        simp [hi]
  · have h1 : (if j = k then v else gv n j).testBit i = false := by
      split
      · exact hb _ hv _ (by omega)
      · exact hb _ (gv_lt n j) _ (by omega)
    rw [h1]
    simp [hi]
/-! places of a row -/
def gvL (n k : Nat) : Nat := Nat.mod (Nat.shiftRight n (Nat.mul 65 k)) 36893488147419103232
def svL (n k v : Nat) : Nat := Nat.xor n (Nat.shiftLeft (Nat.xor (gvL n k) v) (Nat.mul 65 k))
theorem gvL_lt (n k : Nat) : gvL n k < 36893488147419103232 := Nat.mod_lt _ (by decide)
theorem gvL_svL {n k j v : Nat} (hv : v < 36893488147419103232) : gvL (svL n k v) j = if j = k then v else gvL n j := by
  apply Nat.eq_of_testBit_eq
  intro i
  have e1 : ∀ n j i, (gvL n j).testBit i = (decide (i < 65) && n.testBit (65 * j + i)) := by
    intro n j i
    show ((n >>> (65 * j)) % 2 ^ 65).testBit i = _
    rw [Nat.testBit_mod_two_pow, Nat.testBit_shiftRight]
  have hb : ∀ c : Nat, c < 36893488147419103232 → ∀ i, 65 ≤ i → c.testBit i = false := fun c hc i hi => Nat.testBit_lt_two_pow (Nat.lt_of_lt_of_le hc (show 2 ^ 65 ≤ 2 ^ i from Nat.pow_le_pow_right (by decide) hi))
  rw [e1]
  show (decide (i < 65) && (n ^^^ ((gvL n k ^^^ v) <<< (65 * k))).testBit (65 * j + i)) = _
  rw [Nat.testBit_xor, Nat.testBit_shiftLeft, Nat.testBit_xor]
  by_cases hi : i < 65
  · by_cases hj : j = k
    · subst hj
      rw [if_pos rfl, e1]
      have h1 : 65 * j + i - 65 * j = i := by omega
      simp [hi, h1]
    · rw [if_neg hj, e1 n j i]
      by_cases hl : j < k
      · have h1 : ¬ (65 * j + i ≥ 65 * k) := by omega
        simp [hi, h1]
      · have h1 : 65 ≤ 65 * j + i - 65 * k := by omega
        rw [hb _ (gvL_lt n k) _ h1, hb _ hv _ h1]
        simp [hi]
  · have h1 : (if j = k then v else gvL n j).testBit i = false := by
      split
      · exact hb _ hv _ (by omega)
      · exact hb _ (gvL_lt n j) _ (by omega)
    rw [h1]
    simp [hi]
/-! places of a row -/
def gr (n k : Nat) : Nat := Nat.mod (Nat.shiftRight n (Nat.mul 11 k)) 2048
def sr (n k v : Nat) : Nat := Nat.xor n (Nat.shiftLeft (Nat.xor (gr n k) v) (Nat.mul 11 k))
theorem gr_lt (n k : Nat) : gr n k < 2048 := Nat.mod_lt _ (by decide)
theorem gr_sr {n k j v : Nat} (hv : v < 2048) : gr (sr n k v) j = if j = k then v else gr n j := by
  apply Nat.eq_of_testBit_eq
  intro i
  have e1 : ∀ n j i, (gr n j).testBit i = (decide (i < 11) && n.testBit (11 * j + i)) := by
    intro n j i
    show ((n >>> (11 * j)) % 2 ^ 11).testBit i = _
    rw [Nat.testBit_mod_two_pow, Nat.testBit_shiftRight]
  have hb : ∀ c : Nat, c < 2048 → ∀ i, 11 ≤ i → c.testBit i = false := fun c hc i hi => Nat.testBit_lt_two_pow (Nat.lt_of_lt_of_le hc (show 2 ^ 11 ≤ 2 ^ i from Nat.pow_le_pow_right (by decide) hi))
  rw [e1]
  show (decide (i < 11) && (n ^^^ ((gr n k ^^^ v) <<< (11 * k))).testBit (11 * j + i)) = _
  rw [Nat.testBit_xor, Nat.testBit_shiftLeft, Nat.testBit_xor]
  by_cases hi : i < 11
  · by_cases hj : j = k
    · subst hj
      rw [if_pos rfl, e1]
      have h1 : 11 * j + i - 11 * j = i := by omega
      simp [hi, h1]
    · rw [if_neg hj, e1 n j i]
      by_cases hl : j < k
      · have h1 : ¬ (11 * j + i ≥ 11 * k) := by omega
        simp [hi, h1]
      · have h1 : 11 ≤ 11 * j + i - 11 * k := by omega
        rw [hb _ (gr_lt n k) _ h1, hb _ hv _ h1]
        simp [hi]
  · have h1 : (if j = k then v else gr n j).testBit i = false := by
      split
      · exact hb _ hv _ (by omega)
      · exact hb _ (gr_lt n j) _ (by omega)
    rw [h1]
    simp [hi]
/-! trees -/
abbrev X0 := Nat
abbrev X1 := X0 × X0
abbrev X2 := X1 × X1
abbrev X3 := X2 × X2
abbrev X4 := X3 × X3
abbrev X5 := X4 × X4
abbrev X6 := X5 × X5
abbrev X7 := X6 × X6
abbrev X8 := X7 × X7
def l0 (t : X0) (_ : Nat) : Nat := t
def u0 (_ : X0) (_ v : Nat) : X0 := v
def l1 (t : X1) (u : Nat) : Nat := cond (Nat.ble 1 u) (l0 t.2 (Nat.sub u 1)) (l0 t.1 u)
def u1 (t : X1) (u v : Nat) : X1 := cond (Nat.ble 1 u) (t.1, u0 t.2 (Nat.sub u 1) v) (u0 t.1 u v, t.2)
noncomputable def g1 (t : X1) (u : Nat) (k : Nat → Bool) : Bool := Prod.rec (fun a b => cond (Nat.ble 1 u) (k b) (k a)) t
noncomputable def s1 (t : X1) (u v : Nat) (k : X1 → Bool) : Bool := Prod.rec (fun a b => cond (Nat.ble 1 u) (k (a, v)) (k (v, b))) t
theorem g1_ok (t : X1) (u : Nat) (k : Nat → Bool) : g1 t u k = k (l1 t u) := by
  obtain ⟨a, b⟩ := t
  show cond (Nat.ble 1 u) (k b) (k a) = k (cond (Nat.ble 1 u) b a)
  cases Nat.ble 1 u <;> rfl
theorem s1_ok (t : X1) (u v : Nat) (k : X1 → Bool) : s1 t u v k = k (u1 t u v) := by
  obtain ⟨a, b⟩ := t
  show cond (Nat.ble 1 u) (k (a, v)) (k (v, b)) = k (cond (Nat.ble 1 u) (a, v) (v, b))
  cases Nat.ble 1 u <;> rfl
set_option maxRecDepth 10000 in
theorem lu1 (t : X1) {u w v : Nat} (hu : u < 2) (hw : w < 2) : l1 (u1 t u v) w = if w = u then v else l1 t w := by
  obtain ⟨a, b⟩ := t
  have e1 : ∀ (x : X1), l1 x w = cond (Nat.ble 1 w) (l0 x.2 (Nat.sub w 1)) (l0 x.1 w) := fun _ => rfl
  have e2 : u1 (a, b) u v = cond (Nat.ble 1 u) (a, u0 b (Nat.sub u 1) v) (u0 a u v, b) := rfl
  have n1 : Nat.sub u 1 = u - 1 := rfl
  have n2 : Nat.sub w 1 = w - 1 := rfl
  rw [e1, e2, e1]
  cases hub : Nat.ble 1 u with
  | false =>
    have hu' : u < 1 := Nat.lt_of_not_le (fun q => by rw [Nat.ble_eq_true_of_le q] at hub; cases hub)
    cases hwb : Nat.ble 1 w with
    | false =>
      have hw' : w < 1 := Nat.lt_of_not_le (fun q => by rw [Nat.ble_eq_true_of_le q] at hwb; cases hwb)
      show l0 (u0 a u v) w = if w = u then v else l0 a w
      rw [if_pos (by omega)]; rfl
    | true =>
      have hw' := Nat.le_of_ble_eq_true hwb
      show l0 b (Nat.sub w 1) = if w = u then v else l0 b (Nat.sub w 1)
      rw [if_neg (by omega)]
  | true =>
    have hu' := Nat.le_of_ble_eq_true hub
    cases hwb : Nat.ble 1 w with
    | false =>
      have hw' : w < 1 := Nat.lt_of_not_le (fun q => by rw [Nat.ble_eq_true_of_le q] at hwb; cases hwb)
      show l0 a w = if w = u then v else l0 a w
      rw [if_neg (by omega)]
    | true =>
      have hw' := Nat.le_of_ble_eq_true hwb
      show l0 (u0 b (Nat.sub u 1) v) (Nat.sub w 1) = if w = u then v else l0 b (Nat.sub w 1)
      rw [if_pos (by omega)]; rfl
def l2 (t : X2) (u : Nat) : Nat := cond (Nat.ble 2 u) (l1 t.2 (Nat.sub u 2)) (l1 t.1 u)
def u2 (t : X2) (u v : Nat) : X2 := cond (Nat.ble 2 u) (t.1, u1 t.2 (Nat.sub u 2) v) (u1 t.1 u v, t.2)
noncomputable def g2 (t : X2) (u : Nat) (k : Nat → Bool) : Bool := Prod.rec (fun a b => cond (Nat.ble 2 u) (g1 b (Nat.sub u 2) k) (g1 a u k)) t
noncomputable def s2 (t : X2) (u v : Nat) (k : X2 → Bool) : Bool := Prod.rec (fun a b => cond (Nat.ble 2 u) (s1 b (Nat.sub u 2) v (fun c => k (a, c))) (s1 a u v (fun c => k (c, b)))) t
set_option maxRecDepth 10000 in
theorem g2_ok (t : X2) (u : Nat) (k : Nat → Bool) : g2 t u k = k (l2 t u) := by
  obtain ⟨a, b⟩ := t
  show cond (Nat.ble 2 u) (g1 b (Nat.sub u 2) k) (g1 a u k) = k (cond (Nat.ble 2 u) (l1 b (Nat.sub u 2)) (l1 a u))
  cases Nat.ble 2 u
  · exact g1_ok a u k
  · exact g1_ok b _ k
set_option maxRecDepth 10000 in
theorem s2_ok (t : X2) (u v : Nat) (k : X2 → Bool) : s2 t u v k = k (u2 t u v) := by
  obtain ⟨a, b⟩ := t
  show cond (Nat.ble 2 u) (s1 b (Nat.sub u 2) v (fun c => k (a, c))) (s1 a u v (fun c => k (c, b))) = k (cond (Nat.ble 2 u) (a, u1 b (Nat.sub u 2) v) (u1 a u v, b))
  cases Nat.ble 2 u
  · exact s1_ok a u v (fun c => k (c, b))
  · exact s1_ok b _ v (fun c => k (a, c))
set_option maxRecDepth 10000 in
theorem lu2 (t : X2) {u w v : Nat} (hu : u < 4) (hw : w < 4) : l2 (u2 t u v) w = if w = u then v else l2 t w := by
  obtain ⟨a, b⟩ := t
  have e1 : ∀ (x : X2), l2 x w = cond (Nat.ble 2 w) (l1 x.2 (Nat.sub w 2)) (l1 x.1 w) := fun _ => rfl
  have e2 : u2 (a, b) u v = cond (Nat.ble 2 u) (a, u1 b (Nat.sub u 2) v) (u1 a u v, b) := rfl
  have n1 : Nat.sub u 2 = u - 2 := rfl
  have n2 : Nat.sub w 2 = w - 2 := rfl
  rw [e1, e2, e1]
  cases hub : Nat.ble 2 u with
  | false =>
    have hu' : u < 2 := Nat.lt_of_not_le (fun q => by rw [Nat.ble_eq_true_of_le q] at hub; cases hub)
    cases hwb : Nat.ble 2 w with
    | false =>
      have hw' : w < 2 := Nat.lt_of_not_le (fun q => by rw [Nat.ble_eq_true_of_le q] at hwb; cases hwb)
      show l1 (u1 a u v) w = if w = u then v else l1 a w
      exact lu1 a hu' hw'
    | true =>
      have hw' := Nat.le_of_ble_eq_true hwb
      show l1 b (Nat.sub w 2) = if w = u then v else l1 b (Nat.sub w 2)
      rw [if_neg (by omega)]
  | true =>
    have hu' := Nat.le_of_ble_eq_true hub
    cases hwb : Nat.ble 2 w with
    | false =>
      have hw' : w < 2 := Nat.lt_of_not_le (fun q => by rw [Nat.ble_eq_true_of_le q] at hwb; cases hwb)
      show l1 a w = if w = u then v else l1 a w
      rw [if_neg (by omega)]
    | true =>
      have hw' := Nat.le_of_ble_eq_true hwb
      show l1 (u1 b (Nat.sub u 2) v) (Nat.sub w 2) = if w = u then v else l1 b (Nat.sub w 2)
      rw [lu1 b (by omega) (by omega)]
      by_cases e : w = u
      · rw [if_pos e, if_pos (by omega)]
      · rw [if_neg e, if_neg (by omega)]
def l3 (t : X3) (u : Nat) : Nat := cond (Nat.ble 4 u) (l2 t.2 (Nat.sub u 4)) (l2 t.1 u)
def u3 (t : X3) (u v : Nat) : X3 := cond (Nat.ble 4 u) (t.1, u2 t.2 (Nat.sub u 4) v) (u2 t.1 u v, t.2)
noncomputable def g3 (t : X3) (u : Nat) (k : Nat → Bool) : Bool := Prod.rec (fun a b => cond (Nat.ble 4 u) (g2 b (Nat.sub u 4) k) (g2 a u k)) t
noncomputable def s3 (t : X3) (u v : Nat) (k : X3 → Bool) : Bool := Prod.rec (fun a b => cond (Nat.ble 4 u) (s2 b (Nat.sub u 4) v (fun c => k (a, c))) (s2 a u v (fun c => k (c, b)))) t
set_option maxRecDepth 10000 in
theorem g3_ok (t : X3) (u : Nat) (k : Nat → Bool) : g3 t u k = k (l3 t u) := by
  obtain ⟨a, b⟩ := t
  show cond (Nat.ble 4 u) (g2 b (Nat.sub u 4) k) (g2 a u k) = k (cond (Nat.ble 4 u) (l2 b (Nat.sub u 4)) (l2 a u))
  cases Nat.ble 4 u
  · exact g2_ok a u k
  · exact g2_ok b _ k
set_option maxRecDepth 10000 in
theorem s3_ok (t : X3) (u v : Nat) (k : X3 → Bool) : s3 t u v k = k (u3 t u v) := by
  obtain ⟨a, b⟩ := t
  show cond (Nat.ble 4 u) (s2 b (Nat.sub u 4) v (fun c => k (a, c))) (s2 a u v (fun c => k (c, b))) = k (cond (Nat.ble 4 u) (a, u2 b (Nat.sub u 4) v) (u2 a u v, b))
  cases Nat.ble 4 u
  · exact s2_ok a u v (fun c => k (c, b))
  · exact s2_ok b _ v (fun c => k (a, c))
set_option maxRecDepth 10000 in
theorem lu3 (t : X3) {u w v : Nat} (hu : u < 8) (hw : w < 8) : l3 (u3 t u v) w = if w = u then v else l3 t w := by
  obtain ⟨a, b⟩ := t
  have e1 : ∀ (x : X3), l3 x w = cond (Nat.ble 4 w) (l2 x.2 (Nat.sub w 4)) (l2 x.1 w) := fun _ => rfl
  have e2 : u3 (a, b) u v = cond (Nat.ble 4 u) (a, u2 b (Nat.sub u 4) v) (u2 a u v, b) := rfl
  have n1 : Nat.sub u 4 = u - 4 := rfl
  have n2 : Nat.sub w 4 = w - 4 := rfl
  rw [e1, e2, e1]
  cases hub : Nat.ble 4 u with
  | false =>
    have hu' : u < 4 := Nat.lt_of_not_le (fun q => by rw [Nat.ble_eq_true_of_le q] at hub; cases hub)
    cases hwb : Nat.ble 4 w with
    | false =>
      have hw' : w < 4 := Nat.lt_of_not_le (fun q => by rw [Nat.ble_eq_true_of_le q] at hwb; cases hwb)
      show l2 (u2 a u v) w = if w = u then v else l2 a w
      exact lu2 a hu' hw'
    | true =>
      have hw' := Nat.le_of_ble_eq_true hwb
      show l2 b (Nat.sub w 4) = if w = u then v else l2 b (Nat.sub w 4)
      rw [if_neg (by omega)]
  | true =>
    have hu' := Nat.le_of_ble_eq_true hub
    cases hwb : Nat.ble 4 w with
    | false =>
      have hw' : w < 4 := Nat.lt_of_not_le (fun q => by rw [Nat.ble_eq_true_of_le q] at hwb; cases hwb)
      show l2 a w = if w = u then v else l2 a w
      rw [if_neg (by omega)]
    | true =>
      have hw' := Nat.le_of_ble_eq_true hwb
      show l2 (u2 b (Nat.sub u 4) v) (Nat.sub w 4) = if w = u then v else l2 b (Nat.sub w 4)
      rw [lu2 b (by omega) (by omega)]
      by_cases e : w = u
      · rw [if_pos e, if_pos (by omega)]
      · rw [if_neg e, if_neg (by omega)]
def l4 (t : X4) (u : Nat) : Nat := cond (Nat.ble 8 u) (l3 t.2 (Nat.sub u 8)) (l3 t.1 u)
def u4 (t : X4) (u v : Nat) : X4 := cond (Nat.ble 8 u) (t.1, u3 t.2 (Nat.sub u 8) v) (u3 t.1 u v, t.2)
noncomputable def g4 (t : X4) (u : Nat) (k : Nat → Bool) : Bool := Prod.rec (fun a b => cond (Nat.ble 8 u) (g3 b (Nat.sub u 8) k) (g3 a u k)) t
noncomputable def s4 (t : X4) (u v : Nat) (k : X4 → Bool) : Bool := Prod.rec (fun a b => cond (Nat.ble 8 u) (s3 b (Nat.sub u 8) v (fun c => k (a, c))) (s3 a u v (fun c => k (c, b)))) t
set_option maxRecDepth 10000 in
theorem g4_ok (t : X4) (u : Nat) (k : Nat → Bool) : g4 t u k = k (l4 t u) := by
  obtain ⟨a, b⟩ := t
  show cond (Nat.ble 8 u) (g3 b (Nat.sub u 8) k) (g3 a u k) = k (cond (Nat.ble 8 u) (l3 b (Nat.sub u 8)) (l3 a u))
  cases Nat.ble 8 u
  · exact g3_ok a u k
  · exact g3_ok b _ k
set_option maxRecDepth 10000 in
theorem s4_ok (t : X4) (u v : Nat) (k : X4 → Bool) : s4 t u v k = k (u4 t u v) := by
  obtain ⟨a, b⟩ := t
  show cond (Nat.ble 8 u) (s3 b (Nat.sub u 8) v (fun c => k (a, c))) (s3 a u v (fun c => k (c, b))) = k (cond (Nat.ble 8 u) (a, u3 b (Nat.sub u 8) v) (u3 a u v, b))
  cases Nat.ble 8 u
  · exact s3_ok a u v (fun c => k (c, b))
  · exact s3_ok b _ v (fun c => k (a, c))
set_option maxRecDepth 10000 in
theorem lu4 (t : X4) {u w v : Nat} (hu : u < 16) (hw : w < 16) : l4 (u4 t u v) w = if w = u then v else l4 t w := by
  obtain ⟨a, b⟩ := t
  have e1 : ∀ (x : X4), l4 x w = cond (Nat.ble 8 w) (l3 x.2 (Nat.sub w 8)) (l3 x.1 w) := fun _ => rfl
  have e2 : u4 (a, b) u v = cond (Nat.ble 8 u) (a, u3 b (Nat.sub u 8) v) (u3 a u v, b) := rfl
  have n1 : Nat.sub u 8 = u - 8 := rfl
  have n2 : Nat.sub w 8 = w - 8 := rfl
  rw [e1, e2, e1]
  cases hub : Nat.ble 8 u with
  | false =>
    have hu' : u < 8 := Nat.lt_of_not_le (fun q => by rw [Nat.ble_eq_true_of_le q] at hub; cases hub)
    cases hwb : Nat.ble 8 w with
    | false =>
      have hw' : w < 8 := Nat.lt_of_not_le (fun q => by rw [Nat.ble_eq_true_of_le q] at hwb; cases hwb)
      show l3 (u3 a u v) w = if w = u then v else l3 a w
      exact lu3 a hu' hw'
    | true =>
      have hw' := Nat.le_of_ble_eq_true hwb
      show l3 b (Nat.sub w 8) = if w = u then v else l3 b (Nat.sub w 8)
      rw [if_neg (by omega)]
  | true =>
    have hu' := Nat.le_of_ble_eq_true hub
    cases hwb : Nat.ble 8 w with
    | false =>
      have hw' : w < 8 := Nat.lt_of_not_le (fun q => by rw [Nat.ble_eq_true_of_le q] at hwb; cases hwb)
      show l3 a w = if w = u then v else l3 a w
      rw [if_neg (by omega)]
    | true =>
      have hw' := Nat.le_of_ble_eq_true hwb
      show l3 (u3 b (Nat.sub u 8) v) (Nat.sub w 8) = if w = u then v else l3 b (Nat.sub w 8)
      rw [lu3 b (by omega) (by omega)]
      by_cases e : w = u
      · rw [if_pos e, if_pos (by omega)]
      · rw [if_neg e, if_neg (by omega)]
def l5 (t : X5) (u : Nat) : Nat := cond (Nat.ble 16 u) (l4 t.2 (Nat.sub u 16)) (l4 t.1 u)
def u5 (t : X5) (u v : Nat) : X5 := cond (Nat.ble 16 u) (t.1, u4 t.2 (Nat.sub u 16) v) (u4 t.1 u v, t.2)
noncomputable def g5 (t : X5) (u : Nat) (k : Nat → Bool) : Bool := Prod.rec (fun a b => cond (Nat.ble 16 u) (g4 b (Nat.sub u 16) k) (g4 a u k)) t
noncomputable def s5 (t : X5) (u v : Nat) (k : X5 → Bool) : Bool := Prod.rec (fun a b => cond (Nat.ble 16 u) (s4 b (Nat.sub u 16) v (fun c => k (a, c))) (s4 a u v (fun c => k (c, b)))) t
set_option maxRecDepth 10000 in
theorem g5_ok (t : X5) (u : Nat) (k : Nat → Bool) : g5 t u k = k (l5 t u) := by
  obtain ⟨a, b⟩ := t
  show cond (Nat.ble 16 u) (g4 b (Nat.sub u 16) k) (g4 a u k) = k (cond (Nat.ble 16 u) (l4 b (Nat.sub u 16)) (l4 a u))
  cases Nat.ble 16 u
  · exact g4_ok a u k
  · exact g4_ok b _ k
set_option maxRecDepth 10000 in
theorem s5_ok (t : X5) (u v : Nat) (k : X5 → Bool) : s5 t u v k = k (u5 t u v) := by
  obtain ⟨a, b⟩ := t
  show cond (Nat.ble 16 u) (s4 b (Nat.sub u 16) v (fun c => k (a, c))) (s4 a u v (fun c => k (c, b))) = k (cond (Nat.ble 16 u) (a, u4 b (Nat.sub u 16) v) (u4 a u v, b))
  cases Nat.ble 16 u
  · exact s4_ok a u v (fun c => k (c, b))
  · exact s4_ok b _ v (fun c => k (a, c))
set_option maxRecDepth 10000 in
theorem lu5 (t : X5) {u w v : Nat} (hu : u < 32) (hw : w < 32) : l5 (u5 t u v) w = if w = u then v else l5 t w := by
  obtain ⟨a, b⟩ := t
  have e1 : ∀ (x : X5), l5 x w = cond (Nat.ble 16 w) (l4 x.2 (Nat.sub w 16)) (l4 x.1 w) := fun _ => rfl
  have e2 : u5 (a, b) u v = cond (Nat.ble 16 u) (a, u4 b (Nat.sub u 16) v) (u4 a u v, b) := rfl
  have n1 : Nat.sub u 16 = u - 16 := rfl
  have n2 : Nat.sub w 16 = w - 16 := rfl
  rw [e1, e2, e1]
  cases hub : Nat.ble 16 u with
  | false =>
    have hu' : u < 16 := Nat.lt_of_not_le (fun q => by rw [Nat.ble_eq_true_of_le q] at hub; cases hub)
    cases hwb : Nat.ble 16 w with
    | false =>
      have hw' : w < 16 := Nat.lt_of_not_le (fun q => by rw [Nat.ble_eq_true_of_le q] at hwb; cases hwb)
      show l4 (u4 a u v) w = if w = u then v else l4 a w
      exact lu4 a hu' hw'
    | true =>
      have hw' := Nat.le_of_ble_eq_true hwb
      show l4 b (Nat.sub w 16) = if w = u then v else l4 b (Nat.sub w 16)
      rw [if_neg (by omega)]
  | true =>
    have hu' := Nat.le_of_ble_eq_true hub
    cases hwb : Nat.ble 16 w with
    | false =>
      have hw' : w < 16 := Nat.lt_of_not_le (fun q => by rw [Nat.ble_eq_true_of_le q] at hwb; cases hwb)
      show l4 a w = if w = u then v else l4 a w
      rw [if_neg (by omega)]
    | true =>
      have hw' := Nat.le_of_ble_eq_true hwb
      show l4 (u4 b (Nat.sub u 16) v) (Nat.sub w 16) = if w = u then v else l4 b (Nat.sub w 16)
      rw [lu4 b (by omega) (by omega)]
      by_cases e : w = u
      · rw [if_pos e, if_pos (by omega)]
      · rw [if_neg e, if_neg (by omega)]
def l6 (t : X6) (u : Nat) : Nat := cond (Nat.ble 32 u) (l5 t.2 (Nat.sub u 32)) (l5 t.1 u)
def u6 (t : X6) (u v : Nat) : X6 := cond (Nat.ble 32 u) (t.1, u5 t.2 (Nat.sub u 32) v) (u5 t.1 u v, t.2)
noncomputable def g6 (t : X6) (u : Nat) (k : Nat → Bool) : Bool := Prod.rec (fun a b => cond (Nat.ble 32 u) (g5 b (Nat.sub u 32) k) (g5 a u k)) t
noncomputable def s6 (t : X6) (u v : Nat) (k : X6 → Bool) : Bool := Prod.rec (fun a b => cond (Nat.ble 32 u) (s5 b (Nat.sub u 32) v (fun c => k (a, c))) (s5 a u v (fun c => k (c, b)))) t
set_option maxRecDepth 10000 in
theorem g6_ok (t : X6) (u : Nat) (k : Nat → Bool) : g6 t u k = k (l6 t u) := by
  obtain ⟨a, b⟩ := t
  show cond (Nat.ble 32 u) (g5 b (Nat.sub u 32) k) (g5 a u k) = k (cond (Nat.ble 32 u) (l5 b (Nat.sub u 32)) (l5 a u))
  cases Nat.ble 32 u
  · exact g5_ok a u k
  · exact g5_ok b _ k
set_option maxRecDepth 10000 in
theorem s6_ok (t : X6) (u v : Nat) (k : X6 → Bool) : s6 t u v k = k (u6 t u v) := by
  obtain ⟨a, b⟩ := t
  show cond (Nat.ble 32 u) (s5 b (Nat.sub u 32) v (fun c => k (a, c))) (s5 a u v (fun c => k (c, b))) = k (cond (Nat.ble 32 u) (a, u5 b (Nat.sub u 32) v) (u5 a u v, b))
  cases Nat.ble 32 u
  · exact s5_ok a u v (fun c => k (c, b))
  · exact s5_ok b _ v (fun c => k (a, c))
set_option maxRecDepth 10000 in
theorem lu6 (t : X6) {u w v : Nat} (hu : u < 64) (hw : w < 64) : l6 (u6 t u v) w = if w = u then v else l6 t w := by
  obtain ⟨a, b⟩ := t
  have e1 : ∀ (x : X6), l6 x w = cond (Nat.ble 32 w) (l5 x.2 (Nat.sub w 32)) (l5 x.1 w) := fun _ => rfl
  have e2 : u6 (a, b) u v = cond (Nat.ble 32 u) (a, u5 b (Nat.sub u 32) v) (u5 a u v, b) := rfl
  have n1 : Nat.sub u 32 = u - 32 := rfl
  have n2 : Nat.sub w 32 = w - 32 := rfl
  rw [e1, e2, e1]
  cases hub : Nat.ble 32 u with
  | false =>
    have hu' : u < 32 := Nat.lt_of_not_le (fun q => by rw [Nat.ble_eq_true_of_le q] at hub; cases hub)
    cases hwb : Nat.ble 32 w with
    | false =>
      have hw' : w < 32 := Nat.lt_of_not_le (fun q => by rw [Nat.ble_eq_true_of_le q] at hwb; cases hwb)
      show l5 (u5 a u v) w = if w = u then v else l5 a w
      exact lu5 a hu' hw'
    | true =>
      have hw' := Nat.le_of_ble_eq_true hwb
      show l5 b (Nat.sub w 32) = if w = u then v else l5 b (Nat.sub w 32)
      rw [if_neg (by omega)]
  | true =>
    have hu' := Nat.le_of_ble_eq_true hub
    cases hwb : Nat.ble 32 w with
    | false =>
      have hw' : w < 32 := Nat.lt_of_not_le (fun q => by rw [Nat.ble_eq_true_of_le q] at hwb; cases hwb)
      show l5 a w = if w = u then v else l5 a w
      rw [if_neg (by omega)]
    | true =>
      have hw' := Nat.le_of_ble_eq_true hwb
      show l5 (u5 b (Nat.sub u 32) v) (Nat.sub w 32) = if w = u then v else l5 b (Nat.sub w 32)
      rw [lu5 b (by omega) (by omega)]
      by_cases e : w = u
      · rw [if_pos e, if_pos (by omega)]
      · rw [if_neg e, if_neg (by omega)]
def l7 (t : X7) (u : Nat) : Nat := cond (Nat.ble 64 u) (l6 t.2 (Nat.sub u 64)) (l6 t.1 u)
def u7 (t : X7) (u v : Nat) : X7 := cond (Nat.ble 64 u) (t.1, u6 t.2 (Nat.sub u 64) v) (u6 t.1 u v, t.2)
noncomputable def g7 (t : X7) (u : Nat) (k : Nat → Bool) : Bool := Prod.rec (fun a b => cond (Nat.ble 64 u) (g6 b (Nat.sub u 64) k) (g6 a u k)) t
noncomputable def s7 (t : X7) (u v : Nat) (k : X7 → Bool) : Bool := Prod.rec (fun a b => cond (Nat.ble 64 u) (s6 b (Nat.sub u 64) v (fun c => k (a, c))) (s6 a u v (fun c => k (c, b)))) t
set_option maxRecDepth 10000 in
theorem g7_ok (t : X7) (u : Nat) (k : Nat → Bool) : g7 t u k = k (l7 t u) := by
  obtain ⟨a, b⟩ := t
  show cond (Nat.ble 64 u) (g6 b (Nat.sub u 64) k) (g6 a u k) = k (cond (Nat.ble 64 u) (l6 b (Nat.sub u 64)) (l6 a u))
  cases Nat.ble 64 u
  · exact g6_ok a u k
  · exact g6_ok b _ k
set_option maxRecDepth 10000 in
theorem s7_ok (t : X7) (u v : Nat) (k : X7 → Bool) : s7 t u v k = k (u7 t u v) := by
  obtain ⟨a, b⟩ := t
  show cond (Nat.ble 64 u) (s6 b (Nat.sub u 64) v (fun c => k (a, c))) (s6 a u v (fun c => k (c, b))) = k (cond (Nat.ble 64 u) (a, u6 b (Nat.sub u 64) v) (u6 a u v, b))
  cases Nat.ble 64 u
  · exact s6_ok a u v (fun c => k (c, b))
  · exact s6_ok b _ v (fun c => k (a, c))
set_option maxRecDepth 10000 in
theorem lu7 (t : X7) {u w v : Nat} (hu : u < 128) (hw : w < 128) : l7 (u7 t u v) w = if w = u then v else l7 t w := by
  obtain ⟨a, b⟩ := t
  have e1 : ∀ (x : X7), l7 x w = cond (Nat.ble 64 w) (l6 x.2 (Nat.sub w 64)) (l6 x.1 w) := fun _ => rfl
  have e2 : u7 (a, b) u v = cond (Nat.ble 64 u) (a, u6 b (Nat.sub u 64) v) (u6 a u v, b) := rfl
  have n1 : Nat.sub u 64 = u - 64 := rfl
  have n2 : Nat.sub w 64 = w - 64 := rfl
  rw [e1, e2, e1]
  cases hub : Nat.ble 64 u with
  | false =>
    have hu' : u < 64 := Nat.lt_of_not_le (fun q => by rw [Nat.ble_eq_true_of_le q] at hub; cases hub)
    cases hwb : Nat.ble 64 w with
    | false =>
      have hw' : w < 64 := Nat.lt_of_not_le (fun q => by rw [Nat.ble_eq_true_of_le q] at hwb; cases hwb)
      show l6 (u6 a u v) w = if w = u then v else l6 a w
      exact lu6 a hu' hw'
    | true =>
      have hw' := Nat.le_of_ble_eq_true hwb
      show l6 b (Nat.sub w 64) = if w = u then v else l6 b (Nat.sub w 64)
      rw [if_neg (by omega)]
  | true =>
    have hu' := Nat.le_of_ble_eq_true hub
    cases hwb : Nat.ble 64 w with
    | false =>
      have hw' : w < 64 := Nat.lt_of_not_le (fun q => by rw [Nat.ble_eq_true_of_le q] at hwb; cases hwb)
      show l6 a w = if w = u then v else l6 a w
      rw [if_neg (by omega)]
    | true =>
      have hw' := Nat.le_of_ble_eq_true hwb
      show l6 (u6 b (Nat.sub u 64) v) (Nat.sub w 64) = if w = u then v else l6 b (Nat.sub w 64)
      rw [lu6 b (by omega) (by omega)]
      by_cases e : w = u
      · rw [if_pos e, if_pos (by omega)]
      · rw [if_neg e, if_neg (by omega)]
def l8 (t : X8) (u : Nat) : Nat := cond (Nat.ble 128 u) (l7 t.2 (Nat.sub u 128)) (l7 t.1 u)
def u8 (t : X8) (u v : Nat) : X8 := cond (Nat.ble 128 u) (t.1, u7 t.2 (Nat.sub u 128) v) (u7 t.1 u v, t.2)
noncomputable def g8 (t : X8) (u : Nat) (k : Nat → Bool) : Bool := Prod.rec (fun a b => cond (Nat.ble 128 u) (g7 b (Nat.sub u 128) k) (g7 a u k)) t
noncomputable def s8 (t : X8) (u v : Nat) (k : X8 → Bool) : Bool := Prod.rec (fun a b => cond (Nat.ble 128 u) (s7 b (Nat.sub u 128) v (fun c => k (a, c))) (s7 a u v (fun c => k (c, b)))) t
set_option maxRecDepth 10000 in
theorem g8_ok (t : X8) (u : Nat) (k : Nat → Bool) : g8 t u k = k (l8 t u) := by
  obtain ⟨a, b⟩ := t
  show cond (Nat.ble 128 u) (g7 b (Nat.sub u 128) k) (g7 a u k) = k (cond (Nat.ble 128 u) (l7 b (Nat.sub u 128)) (l7 a u))
  cases Nat.ble 128 u
  · exact g7_ok a u k
  · exact g7_ok b _ k
set_option maxRecDepth 10000 in
theorem s8_ok (t : X8) (u v : Nat) (k : X8 → Bool) : s8 t u v k = k (u8 t u v) := by
  obtain ⟨a, b⟩ := t
  show cond (Nat.ble 128 u) (s7 b (Nat.sub u 128) v (fun c => k (a, c))) (s7 a u v (fun c => k (c, b))) = k (cond (Nat.ble 128 u) (a, u7 b (Nat.sub u 128) v) (u7 a u v, b))
  cases Nat.ble 128 u
  · exact s7_ok a u v (fun c => k (c, b))
  · exact s7_ok b _ v (fun c => k (a, c))
set_option maxRecDepth 10000 in
theorem lu8 (t : X8) {u w v : Nat} (hu : u < 256) (hw : w < 256) : l8 (u8 t u v) w = if w = u then v else l8 t w := by
  obtain ⟨a, b⟩ := t
  have e1 : ∀ (x : X8), l8 x w = cond (Nat.ble 128 w) (l7 x.2 (Nat.sub w 128)) (l7 x.1 w) := fun _ => rfl
  have e2 : u8 (a, b) u v = cond (Nat.ble 128 u) (a, u7 b (Nat.sub u 128) v) (u7 a u v, b) := rfl
  have n1 : Nat.sub u 128 = u - 128 := rfl
  have n2 : Nat.sub w 128 = w - 128 := rfl
  rw [e1, e2, e1]
  cases hub : Nat.ble 128 u with
  | false =>
    have hu' : u < 128 := Nat.lt_of_not_le (fun q => by rw [Nat.ble_eq_true_of_le q] at hub; cases hub)
    cases hwb : Nat.ble 128 w with
    | false =>
      have hw' : w < 128 := Nat.lt_of_not_le (fun q => by rw [Nat.ble_eq_true_of_le q] at hwb; cases hwb)
      show l7 (u7 a u v) w = if w = u then v else l7 a w
      exact lu7 a hu' hw'
    | true =>
      have hw' := Nat.le_of_ble_eq_true hwb
      show l7 b (Nat.sub w 128) = if w = u then v else l7 b (Nat.sub w 128)
      rw [if_neg (by omega)]
  | true =>
    have hu' := Nat.le_of_ble_eq_true hub
    cases hwb : Nat.ble 128 w with
    | false =>
      have hw' : w < 128 := Nat.lt_of_not_le (fun q => by rw [Nat.ble_eq_true_of_le q] at hwb; cases hwb)
      show l7 a w = if w = u then v else l7 a w
      rw [if_neg (by omega)]
    | true =>
      have hw' := Nat.le_of_ble_eq_true hwb
      show l7 (u7 b (Nat.sub u 128) v) (Nat.sub w 128) = if w = u then v else l7 b (Nat.sub w 128)
      rw [lu7 b (by omega) (by omega)]
      by_cases e : w = u
      · rw [if_pos e, if_pos (by omega)]
      · rw [if_neg e, if_neg (by omega)]
def z0 : X0 := 0
def z1 : X1 := (z0, z0)
def z2 : X2 := (z1, z1)
def z3 : X3 := (z2, z2)
def z4 : X4 := (z3, z3)
def z5 : X5 := (z4, z4)
def z6 : X6 := (z5, z5)
def z7 : X7 := (z6, z6)
def z8 : X8 := (z7, z7)
