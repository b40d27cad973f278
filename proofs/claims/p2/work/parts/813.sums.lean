/-! sums of counts of codes -/
def csum (g : Nat → Int32) (a : Nat) : Nat → Int
  | 0 => 0
  | n + 1 => csum g a n + (g (a + n)).toInt
theorem cs_s (g : Nat → Int32) (a n : Nat) : csum g a (n + 1) = csum g a n + (g (a + n)).toInt := rfl
theorem cs_nn {g : Nat → Int32} (h : ∀ j, 0 ≤ (g j).toInt) (a : Nat) : ∀ n, 0 ≤ csum g a n
  | 0 => Int.le_refl _
  | n + 1 => by
    rw [cs_s]
    have h1 := cs_nn h a n
    have h2 := h (a + n)
    omega
theorem cs_mono {g : Nat → Int32} (h : ∀ j, 0 ≤ (g j).toInt) (a n : Nat) : ∀ d, csum g a n ≤ csum g a (n + d)
  | 0 => Int.le_refl _
  | d + 1 => by
    have h1 := cs_mono h a n d
    have h2 := h (a + (n + d))
    rw [← Nat.add_assoc, cs_s]
    omega
theorem cs_le {g : Nat → Int32} (h : ∀ j, 0 ≤ (g j).toInt) {a n m : Nat} (hn : n ≤ m) : csum g a n ≤ csum g a m := by
  obtain ⟨d, rfl⟩ := Nat.le.dest hn
  exact cs_mono h a n d
theorem cs_off {g : Nat → Int32} {a i : Nat} {v : Int32} : ∀ n, (i < a ∨ a + n ≤ i) → csum (upd g i v) a n = csum g a n
  | 0, _ => rfl
  | n + 1, h => by
    rw [cs_s, cs_s, cs_off n (by omega)]
    congr 2
    unfold upd
    exact if_neg (by omega)
theorem cs_app {g : Nat → Int32} {a n m i : Nat} {v : Int32} (hi : i = a + n) (hm : m = n + 1) : csum (upd g i v) a m = csum g a n + v.toInt := by
  subst hm
  rw [cs_s, cs_off n (by omega)]
  congr 2
  unfold upd
  exact if_pos hi.symm
theorem pw_le {n : Nat} (h : n ≤ 16) : (2 : Int) ^ n ≤ 65536 := by
  have : (2 : Nat) ^ n ≤ 2 ^ 16 := Nat.pow_le_pow_right (by decide) h
  have e : ((2 ^ n : Nat) : Int) = (2 : Int) ^ n := by simp
  omega
