/-! lines of things by weight, over rows -/
def sz (n : Nat) : Nat → Nat
  | 0 => n
  | l + 1 => n + sz n l / 2
theorem sz_le {n : Nat} (h1 : 1 ≤ n) : ∀ l, sz n l ≤ 2 * n - 1
  | 0 => by unfold sz; omega
  | l + 1 => by
    have := sz_le h1 l
    unfold sz
    omega
theorem sz_ge {n : Nat} : ∀ l, n ≤ sz n l
  | 0 => Nat.le_refl _
  | l + 1 => by unfold sz; omega
theorem sz_15 : ∀ n, n < 258 → 2 * n - 2 ≤ sz n 15 := by decide +kernel
theorem upd_at {g : Nat → Int32} {i : Nat} {v : Int32} : upd g i v i = v := by
  unfold upd
  rw [if_pos rfl]
theorem upd_ne {g : Nat → Int32} {i j : Nat} {v : Int32} (h : j ≠ i) : upd g i v j = g j := by
  unfold upd
  rw [if_neg h]
/-- a symbol's weight: 256 stands for none -/
def owf (c : Nat) (f : Nat → Int32) (m : Nat) : Int := if m = 256 then 0 else (f (257 * c + m)).toInt
/-- what stands at a place of line l: a symbol, or a pair of line l - 1 -/
def MFk (c : Nat) (f W M : Nat → Int32) (n l k : Nat) : Prop :=
  (∃ m, m ≤ 256 ∧ M (520 * l + k) = nI m ∧ (m = 256 ∨ 0 < (f (257 * c + m)).toInt) ∧ (W (520 * l + k)).toInt = owf c f m) ∨
  (∃ p l', l = l' + 1 ∧ 2 * p + 1 < sz n l' ∧ (M (520 * l + k)).toInt = -1 - p ∧ (W (520 * l + k)).toInt = (W (520 * l' + 2 * p)).toInt + (W (520 * l' + (2 * p + 1))).toInt)
def LNf (c : Nat) (f W M : Nat → Int32) (n l q : Nat) : Prop :=
  (∀ k, k < q → 0 ≤ (W (520 * l + k)).toInt ∧ (W (520 * l + k)).toInt ≤ 20000 * 2 ^ l) ∧
  (∀ k, k + 1 < q → (W (520 * l + k)).toInt ≤ (W (520 * l + (k + 1))).toInt) ∧
  (∀ k, k < q → MFk c f W M n l k)
def OPT (W : Nat → Int32) (n l : Nat) : Prop := ∀ i p, i ≤ n → p ≤ sz n l / 2 → csum W (520 * (l + 1)) (i + p) ≤ csum W 0 i + csum W (520 * l) (2 * p)
theorem cs_mono2 {W : Nat → Int32} {a q : Nat} (h : ∀ k, k < q → 0 ≤ (W (a + k)).toInt) : ∀ m m', m ≤ m' → m' ≤ q → csum W a m ≤ csum W a m' := by
  intro m m' h1 h2
  induction m' with
  | zero =>
    have : m = 0 := by omega
    subst this
    exact Int.le_refl _
  | succ m' ih =>
    by_cases e : m = m' + 1
    · subst e; exact Int.le_refl _
    · have := ih (by omega) (by omega)
      have h3 := h m' (by omega)
      rw [cs_s]
      omega
/-- the first 2 n - 2 of line 15: at most eight times the whole -/
theorem opt_8 {W : Nat → Int32} {n : Nat} (hn : n ≤ 256) (hO : ∀ l, l < 15 → OPT W n l) (h0 : ∀ k, k < n → 0 ≤ (W (0 + k)).toInt) : ∀ d l m : Nat, l < 15 → d ≤ l → m ≤ sz n (l + 1) → m ≤ 2 * n → 256 ≤ (2 * n - m) * 2 ^ d → csum W (520 * (l + 1)) m ≤ ((d + 1 : Nat) : Int) * csum W 0 n := by
  have hS : ∀ m, m ≤ n → csum W 0 m ≤ csum W 0 n := fun m h => cs_mono2 h0 m n h (Nat.le_refl _)
  have hS0 : 0 ≤ csum W 0 n := cs_mono2 h0 0 n (Nat.zero_le _) (Nat.le_refl _)
  intro d
  induction d with
  | zero =>
    intro l m hl _ hm h2 h3
    have h4 : csum W (520 * (l + 1)) m ≤ csum W 0 m + csum W (520 * l) (2 * 0) := hO l hl m 0 (by omega) (Nat.zero_le _)
    have h5 := hS m (by omega)
    have e : csum W (520 * l) (2 * 0) = 0 := rfl
    rw [e] at h4
    show _ ≤ ((0 + 1 : Nat) : Int) * _
    omega
  | succ d ih =>
    intro l m hl hd hm h2 h3
    by_cases e : m ≤ n
    · have h4 : csum W (520 * (l + 1)) m ≤ csum W 0 m + csum W (520 * l) (2 * 0) := hO l hl m 0 e (Nat.zero_le _)
      have h5 := hS m e
      have e0 : csum W (520 * l) (2 * 0) = 0 := rfl
      rw [e0] at h4
      have h6 : 1 * csum W 0 n ≤ ((d + 1 + 1 : Nat) : Int) * csum W 0 n := Int.mul_le_mul_of_nonneg_right (by omega) hS0
      omega
    · have hp : m - n ≤ sz n l / 2 := by
        have : sz n (l + 1) = n + sz n l / 2 := rfl
        omega
      have h4 := hO l hl n (m - n) (Nat.le_refl _) hp
      have em : n + (m - n) = m := by omega
      rw [em] at h4
      obtain ⟨l', rfl⟩ : ∃ l', l = l' + 1 := ⟨l - 1, by omega⟩
      have h7 : (2 * n - 2 * (m - n)) * 2 ^ d = (2 * n - m) * 2 ^ (d + 1) := by
        rw [show 2 * n - 2 * (m - n) = (2 * n - m) * 2 by omega, Nat.mul_assoc, Nat.pow_succ, Nat.mul_comm 2 (2 ^ d)]
      have h5 := ih l' (2 * (m - n)) (by omega) (by omega) (by omega) (by omega) (by rw [h7]; exact h3)
      have h6 : ((d + 1 + 1 : Nat) : Int) * csum W 0 n = ((d + 1 : Nat) : Int) * csum W 0 n + csum W 0 n := by
        rw [Int.natCast_add (d + 1) 1, Int.add_mul]
        simp
      omega
/-- a line that is being merged: i symbols and p pairs stand in it -/
def PM (c : Nat) (f : Nat → Int32) (n l : Nat) (W M : Nat → Int32) (i p : Nat) : Prop :=
  i ≤ n ∧ p ≤ sz n l / 2 ∧ (∀ l', l' ≤ l → LNf c f W M n l' (sz n l')) ∧ (∀ l', l' < l → OPT W n l') ∧ LNf c f W M n (l + 1) (i + p) ∧
  (∀ i' p', i' ≤ n → p' ≤ sz n l / 2 → i' + p' ≤ i + p → csum W (520 * (l + 1)) (i' + p') ≤ csum W 0 i' + csum W (520 * l) (2 * p')) ∧
  (∀ q, q + 1 = i + p → (i < n → (W (520 * (l + 1) + q)).toInt ≤ (W i).toInt) ∧ (p < sz n l / 2 → (W (520 * (l + 1) + q)).toInt ≤ (W (520 * l + 2 * p)).toInt + (W (520 * l + (2 * p + 1))).toInt))
section PMS
variable {c : Nat} {f : Nat → Int32} {n l : Nat} {W M : Nat → Int32} {i p : Nat}
theorem pair_srt (h : LNf c f W M n l (sz n l)) : ∀ d p, p + d < sz n l / 2 → (W (520 * l + 2 * p)).toInt + (W (520 * l + (2 * p + 1))).toInt ≤ (W (520 * l + 2 * (p + d))).toInt + (W (520 * l + (2 * (p + d) + 1))).toInt := by
  intro d
  induction d with
  | zero => intro p _; exact Int.le_refl _
  | succ d ih =>
    intro p hp
    have h1 := ih p (by omega)
    have h2 := h.2.1 (2 * (p + d)) (by omega)
    have h3 := h.2.1 (2 * (p + d) + 1) (by omega)
    have h4 := h.2.1 (2 * (p + d) + 2) (by omega)
    have e1 : 2 * (p + (d + 1)) = 2 * (p + d) + 2 := by omega
    rw [e1]
    have e2 : 2 * (p + d) + 1 + 1 = 2 * (p + d) + 2 := rfl
    rw [e2] at h3
    have e3 : 2 * (p + d) + 2 + 1 = 2 * (p + d) + 2 + 1 := rfl
    omega
theorem sym_srt (h : LNf c f W M n 0 n) : ∀ d i, i + d < n → (W i).toInt ≤ (W (i + d)).toInt := by
  intro d
  induction d with
  | zero => intro i _; exact Int.le_refl _
  | succ d ih =>
    intro i hi
    have h1 := ih i (by omega)
    have h2 := h.2.1 (i + d) (by omega)
    rw [Nat.mul_zero, Nat.zero_add, Nat.zero_add] at h2
    have e : i + (d + 1) = i + d + 1 := rfl
    rw [e]
    omega
/-- one thing more -/
theorem PM_step {v m : Int32} {i1 p1 : Nat} (hn1 : 1 ≤ n) (hn : n ≤ 257) (hl : l < 15) (h : PM c f n l W M i p) (h1 : (i1 = i + 1 ∧ p1 = p ∧ i < n ∧ (W i).toInt = v.toInt) ∨ (i1 = i ∧ p1 = p + 1 ∧ p < sz n l / 2 ∧ (W (520 * l + 2 * p)).toInt + (W (520 * l + (2 * p + 1))).toInt = v.toInt))
    (hi : i < n → v.toInt ≤ (W i).toInt) (hp : p < sz n l / 2 → v.toInt ≤ (W (520 * l + 2 * p)).toInt + (W (520 * l + (2 * p + 1))).toInt)
    (hm : MFk c f (upd W (520 * (l + 1) + (i + p)) v) (upd M (520 * (l + 1) + (i + p)) m) n (l + 1) (i + p)) : PM c f n l (upd W (520 * (l + 1) + (i + p)) v) (upd M (520 * (l + 1) + (i + p)) m) i1 p1 := by
  obtain ⟨b1, b2, b3, b4, b5, b6, b7⟩ := h
  have hz : ∀ l', sz n l' ≤ 513 := fun l' => by have := sz_le hn1 l'; omega
  have zl := hz l
  have e1 : i1 + p1 = i + p + 1 := by rcases h1 with ⟨h, h', _⟩ | ⟨h, h', _⟩ <;> omega
  have hx : ∀ l' k, l' ≤ l → k < 520 → 520 * l' + k ≠ 520 * (l + 1) + (i + p) := fun l' k h h' => by
    have : 520 * l' ≤ 520 * l := Nat.mul_le_mul_left _ h
    omega
  have lo : ∀ (g : Nat → Int32) (v : Int32) l' k, l' ≤ l → k < 520 → upd g (520 * (l + 1) + (i + p)) v (520 * l' + k) = g (520 * l' + k) := fun g v l' k h h' => upd_ne (hx l' k h h')
  have lo0 : ∀ (g : Nat → Int32) (v : Int32) k, k < 520 → upd g (520 * (l + 1) + (i + p)) v k = g k := fun g v k h' => upd_ne (by omega)
  have cu : ∀ (g : Nat → Int32) (v : Int32) k, k < i + p → upd g (520 * (l + 1) + (i + p)) v (520 * (l + 1) + k) = g (520 * (l + 1) + k) := fun g v k h' => upd_ne (by omega)
  have mfl : ∀ l' k, l' ≤ l → k < 520 → MFk c f W M n l' k → MFk c f (upd W (520 * (l + 1) + (i + p)) v) (upd M (520 * (l + 1) + (i + p)) m) n l' k := by
    intro l' k h h' hh
    unfold MFk at hh ⊢
    rw [lo W v l' k h h', lo M m l' k h h']
    rcases hh with hh | ⟨q, l2, h2, h3, h4, h5⟩
    · exact Or.inl hh
    · refine Or.inr ⟨q, l2, h2, h3, h4, ?_⟩
      have z2 := hz l2
      rw [lo W v l2 (2 * q) (by omega) (by omega), lo W v l2 (2 * q + 1) (by omega) (by omega)]
      exact h5
  have lnl : ∀ l', l' ≤ l → LNf c f (upd W (520 * (l + 1) + (i + p)) v) (upd M (520 * (l + 1) + (i + p)) m) n l' (sz n l') := by
    intro l' h
    obtain ⟨a1, a2, a3⟩ := b3 l' h
    have z2 := hz l'
    refine ⟨fun k hk => ?_, fun k hk => ?_, fun k hk => mfl l' k h (by omega) (a3 k hk)⟩
    · rw [lo W v l' k h (by omega)]; exact a1 k hk
    · rw [lo W v l' k h (by omega), lo W v l' (k + 1) h (by omega)]; exact a2 k hk
  have csl : ∀ l' q, l' ≤ l → q ≤ 520 → csum (upd W (520 * (l + 1) + (i + p)) v) (520 * l') q = csum W (520 * l') q := fun l' q h hq => cs_off q (Or.inr (by
    have : 520 * l' ≤ 520 * l := Nat.mul_le_mul_left _ h
    omega))
  have cs0 : ∀ q, q ≤ 520 → csum (upd W (520 * (l + 1) + (i + p)) v) 0 q = csum W 0 q := fun q hq => cs_off q (Or.inr (by omega))
  have csn : ∀ q, q ≤ i + p → csum (upd W (520 * (l + 1) + (i + p)) v) (520 * (l + 1)) q = csum W (520 * (l + 1)) q := fun q hq => cs_off q (Or.inr (by omega))
  obtain ⟨d1, d2, d3⟩ := b5
  have n520 : n ≤ 520 := by omega
  -- the new value's bounds
  have hv : 0 ≤ v.toInt ∧ v.toInt ≤ 20000 * 2 ^ (l + 1) := by
    have p2 : (2 : Int) ^ (l + 1) = 2 * 2 ^ l := by rw [Int.pow_succ, Int.mul_comm]
    have p0 : (0 : Int) < 2 ^ l := Int.pow_pos (by decide)
    rcases h1 with ⟨_, _, h3, h4⟩ | ⟨_, _, h3, h4⟩
    · have q := (b3 0 (Nat.zero_le _)).1 i h3
      rw [Nat.mul_zero, Nat.zero_add] at q
      have q2 : (2 : Int) ^ 0 = 1 := rfl
      rw [q2] at q
      omega
    · have q := (b3 l (Nat.le_refl _)).1 (2 * p) (by omega)
      have q2 := (b3 l (Nat.le_refl _)).1 (2 * p + 1) (by omega)
      omega
  refine ⟨by rcases h1 with ⟨h, h', _⟩ | ⟨h, h', _⟩ <;> omega, by rcases h1 with ⟨h, h', _⟩ | ⟨h, h', _⟩ <;> omega, lnl, fun l' hl' => ?_, ⟨fun k hk => ?_, fun k hk => ?_, fun k hk => ?_⟩, fun i' p' hi' hp' hip => ?_, fun q hq => ?_⟩
  · intro i' p' hi' hp'
    have z2 := hz l'
    rw [cs0 i' (by omega), csl l' (2 * p') (by omega) (by omega)]
    have : csum (upd W (520 * (l + 1) + (i + p)) v) (520 * (l' + 1)) (i' + p') = csum W (520 * (l' + 1)) (i' + p') := csl (l' + 1) (i' + p') (by omega) (by omega)
    rw [this]
    exact b4 l' hl' i' p' hi' hp'
  · by_cases e : k = i + p
    · subst e
      rw [upd_at]
      exact hv
    · rw [cu W v k (by omega)]
      exact d1 k (by omega)
  · by_cases e : k + 1 = i + p
    · have b7 := b7 k e
      rw [cu W v k (by omega), e, upd_at]
      rcases h1 with ⟨_, _, h3, h4⟩ | ⟨_, _, h3, h4⟩
      · rw [← h4]; exact b7.1 h3
      · rw [← h4]; exact b7.2 h3
    · rw [cu W v k (by omega), cu W v (k + 1) (by omega)]
      exact d2 k (by omega)
  · by_cases e : k = i + p
    · subst e
      exact hm
    · have hh := d3 k (by omega)
      unfold MFk at hh ⊢
      rw [cu W v k (by omega), cu M m k (by omega)]
      rcases hh with hh | ⟨q, l2, h2, h3, h4, h5⟩
      · exact Or.inl hh
      · refine Or.inr ⟨q, l2, h2, h3, h4, ?_⟩
        have z2 := hz l2
        rw [lo W v l2 (2 * q) (by omega) (by omega), lo W v l2 (2 * q + 1) (by omega) (by omega)]
        exact h5
  · rw [cs0 i' (by omega), csl l (2 * p') (Nat.le_refl _) (by omega)]
    by_cases e : i' + p' = i + p + 1
    · rw [e, cs_s, csn (i + p) (Nat.le_refl _), upd_at]
      by_cases hii : i + 1 ≤ i'
      · obtain ⟨j, rfl⟩ : ∃ j, i' = j + 1 := ⟨i' - 1, by omega⟩
        have k1 := b6 j p' (by omega) hp' (by omega)
        have e2 : j + p' = i + p := by omega
        rw [e2] at k1
        rw [cs_s, Nat.zero_add]
        have k2 := sym_srt (b3 0 (Nat.zero_le _)) (j - i) i (by omega)
        have e3 : i + (j - i) = j := by omega
        rw [e3] at k2
        have k3 := hi (by omega)
        omega
      · obtain ⟨j, rfl⟩ : ∃ j, p' = j + 1 := ⟨p' - 1, by omega⟩
        have k1 := b6 i' j hi' (by omega) (by omega)
        have e2 : i' + j = i + p := by omega
        rw [e2] at k1
        have e4 : 2 * (j + 1) = 2 * j + 1 + 1 := by omega
        rw [e4, cs_s, cs_s]
        have k2 := pair_srt (b3 l (Nat.le_refl _)) (j - p) p (by omega)
        have e3 : p + (j - p) = j := by omega
        rw [e3] at k2
        have k3 := hp (by omega)
        omega
    · rw [csn (i' + p') (by omega)]
      exact b6 i' p' hi' hp' (by omega)
  · have eq : q = i + p := by omega
    subst eq
    rw [upd_at]
    refine ⟨fun h2 => ?_, fun h2 => ?_⟩
    · rw [lo0 W v i1 (by omega)]
      rcases h1 with ⟨rfl, rfl, h3, h4⟩ | ⟨rfl, rfl, h3, h4⟩
      · have k2 := sym_srt (b3 0 (Nat.zero_le _)) 1 i (by omega)
        omega
      · exact hi h2
    · rw [lo W v l (2 * p1) (Nat.le_refl _) (by omega), lo W v l (2 * p1 + 1) (Nat.le_refl _) (by omega)]
      rcases h1 with ⟨rfl, rfl, h3, h4⟩ | ⟨rfl, rfl, h3, h4⟩
      · exact hp h2
      · have k2 := pair_srt (b3 l (Nat.le_refl _)) 1 p (by omega)
        omega
/-- a whole line -/
theorem PM_end (h : PM c f n l W M n (sz n l / 2)) : (∀ l', l' ≤ l + 1 → LNf c f W M n l' (sz n l')) ∧ ∀ l', l' < l + 1 → OPT W n l' := by
  obtain ⟨b1, b2, b3, b4, b5, b6, b7⟩ := h
  refine ⟨fun l' hl' => ?_, fun l' hl' => ?_⟩
  · by_cases e : l' = l + 1
    · subst e; exact b5
    · exact b3 l' (by omega)
  · by_cases e : l' = l
    · subst e
      exact fun i p hi hp => b6 i p hi hp (by omega)
    · exact b4 l' (by omega)
theorem PM_0 (b3 : ∀ l', l' ≤ l → LNf c f W M n l' (sz n l')) (b4 : ∀ l', l' < l → OPT W n l') : PM c f n l W M 0 0 := by
  refine ⟨Nat.zero_le _, Nat.zero_le _, b3, b4, ⟨fun k hk => by omega, fun k hk => by omega, fun k hk => by omega⟩, fun i' p' _ _ h => ?_, fun q hq => by omega⟩
  have e1 : i' = 0 := by omega
  have e2 : p' = 0 := by omega
  subst e1 e2
  exact Int.le_refl _
end PMS
