/-! more bounds, and frames -/
def ag (fs rs : List Nat) (S S' : ms) : Prop := (∀ k, fs.contains k = false → S'.1 k = S.1 k) ∧ (∀ r, rs.contains r = false → S'.2.1 r = S.2.1 r)
section AG
variable {fs rs fs' rs' : List Nat} {S T V : ms}
theorem ag_refl : ag fs rs S S := ⟨fun _ _ => rfl, fun _ _ => rfl⟩
theorem ag_f {k : Nat} {v : Int32} (h : ag fs rs S T) (hk : fs.contains k = true) : ag fs rs S (upd T.1 k v, T.2.1, T.2.2) := by
  refine ⟨fun j hj => ?_, h.2⟩
  show upd T.1 k v j = _
  unfold upd
  by_cases e : j = k
  · rw [e, hk] at hj; exact absurd hj (by decide)
  · rw [if_neg e]; exact h.1 j hj
theorem ag_r {r : Nat} {w : Nat → Int32} (h : ag fs rs S T) (hr : rs.contains r = true) : ag fs rs S (T.1, va_up T.2.1 r w, T.2.2) := by
  refine ⟨h.1, fun j hj => ?_⟩
  show va_up T.2.1 r w j = _
  by_cases e : j = r
  · rw [e, hr] at hj; exact absurd hj (by decide)
  · rw [up_ne e]; exact h.2 j hj
theorem ag_l {h : Nat → Nat → Int64} (h0 : ag fs rs S T) : ag fs rs S (T.1, T.2.1, h) := h0
theorem al_f {l l' : List Nat} (h : l'.all l.contains = true) {k : Nat} (hk : l.contains k = false) : l'.contains k = false := by
  rw [Bool.eq_false_iff]
  intro hc
  have h1 := List.all_eq_true.mp h k (List.contains_iff_mem.mp hc)
  rw [hk] at h1
  exact absurd h1 (by decide)
theorem ag_tr (h : ag fs rs S T) (h' : ag fs' rs' T V) (hf : fs'.all fs.contains = true) (hr : rs'.all rs.contains = true) : ag fs rs S V :=
  ⟨fun k hk => (h'.1 k (al_f hf hk)).trans (h.1 k hk), fun r hk => (h'.2 r (al_f hr hk)).trans (h.2 r hk)⟩
end AG
section B2
variable {x y : Int32} {a b c d : Int}
theorem i_le (h : x ≤ y) : x.toInt ≤ y.toInt := Int32.le_iff_toInt_le.mp h
theorem i_lt (h : x < y) : x.toInt < y.toInt := Int32.lt_iff_toInt_lt.mp h
theorem i_ne (h : ¬ x = y) : x.toInt ≠ y.toInt := fun e => h (Int32.toInt.inj e)
theorem vp_om {n : Nat} (h0 : 0 ≤ x.toInt) (h1 : x.toInt < n) : vp_in x n := vp_B (a := 0) (b := n - 1) ⟨h0, by omega⟩ (by decide) (by omega)
theorem nz_om (h : x.toInt ≠ 0) : ¬ x = 0 := fun e => h (by rw [e]; decide)
theorem t_neg (hx : B a b x) (h : -2147483648 < a) : (-x).toInt = -x.toInt := by
  rw [Int32.toInt_neg]
  have := hx.1
  have := (B_any x).2
  exact bm_id (by omega) (by omega)
theorem B_neg (hx : B a b x) (h : -2147483648 < a) : B (-b) (-a) (-x) := by
  unfold B
  rw [t_neg hx h]
  exact ⟨by have := hx.2; omega, by have := hx.1; omega⟩
theorem ab_mul {m n p q : Int} (h1 : -m ≤ p) (h2 : p ≤ m) (h3 : -n ≤ q) (h4 : q ≤ n) : -(m * n) ≤ p * q ∧ p * q ≤ m * n := by
  have hm : 0 ≤ m := by omega
  have hn : 0 ≤ n := by omega
  have e1 : p.natAbs ≤ m.natAbs := by omega
  have e2 : q.natAbs ≤ n.natAbs := by omega
  have e3 : (p * q).natAbs ≤ (m * n).natAbs := by
    rw [Int.natAbs_mul, Int.natAbs_mul]
    exact Nat.mul_le_mul e1 e2
  have e4 : 0 ≤ m * n := Int.mul_nonneg hm hn
  omega
theorem t_mulS {m n : Int} (hx : B (-m) m x) (hy : B (-n) n y) (h : m * n ≤ 2147483647) : (x * y).toInt = x.toInt * y.toInt := by
  have e := ab_mul hx.1 hx.2 hy.1 hy.2
  rw [Int32.toInt_mul]
  exact bm_id (by omega) (by omega)
theorem B_mulS {m n : Int} (hx : B (-m) m x) (hy : B (-n) n y) (h : m * n ≤ 2147483647) : B (-(m * n)) (m * n) (x * y) := by
  unfold B
  rw [t_mulS hx hy h]
  exact ab_mul hx.1 hx.2 hy.1 hy.2
theorem B_and {k : Nat} {m : Int32} (hm : m.toBitVec.toNat = 2 ^ k - 1) (hk : k ≤ 31) : B 0 (2 ^ k - 1 : Nat) (x &&& m) := by
  rw [pk_and x k hm]
  have h1 : x.toBitVec.toNat % 2 ^ k < 2 ^ k := Nat.mod_lt _ (Nat.two_pow_pos k)
  have h2 : 2 ^ k ≤ 2 ^ 31 := Nat.pow_le_pow_right (by decide) hk
  have h3 : (nI (x.toBitVec.toNat % 2 ^ k)).toInt = ((x.toBitVec.toNat % 2 ^ k : Nat) : Int) := Int32.toInt_ofNat_of_lt (by omega)
  unfold B
  rw [h3]
  omega
theorem t_shr {s : Int32} {k : Nat} (hs : (s.toBitVec.smod 32).toNat = k) : (x >>> s).toInt = x.toInt / 2 ^ k := by
  rw [pk_shr x s k hs, Int.shiftRight_eq_div_pow]
  rfl
theorem B_shr {s : Int32} {k : Nat} (hs : (s.toBitVec.smod 32).toNat = k) (hx : B a b x) : B (a / 2 ^ k) (b / 2 ^ k) (x >>> s) := by
  unfold B
  rw [t_shr hs]
  have hp : (0 : Int) < 2 ^ k := Int.pow_pos (by decide)
  exact ⟨Int.ediv_le_ediv hp hx.1, Int.ediv_le_ediv hp hx.2⟩
theorem B_div2 {e f : Int} (hx : B a b x) (hy : B c d y) (ha : 0 ≤ a) (hc : 1 ≤ c) (he : e ≤ a / d) (hf : b / c ≤ f) : B e f (x / y) := by
  have h0 := B_div hx hy ha hc
  refine ⟨?_, Int.le_trans h0.2 hf⟩
  rw [t_div hx hy ha hc]
  have hy0 : 1 ≤ y.toInt := Int.le_trans hc hy.1
  have hx0 : 0 ≤ x.toInt := Int.le_trans ha hx.1
  have hd : 1 ≤ d := Int.le_trans hy0 hy.2
  have h1 : a / d ≤ x.toInt / d := Int.ediv_le_ediv (by omega) hx.1
  have h2 : x.toInt / d ≤ x.toInt / y.toInt := by
    apply Int.le_ediv_of_mul_le (by omega)
    have h5 := Int.ediv_mul_le x.toInt (show d ≠ 0 by omega)
    have h6 : 0 ≤ x.toInt / d := Int.ediv_nonneg hx0 (by omega)
    exact Int.le_trans (Int.mul_le_mul_of_nonneg_left hy.2 h6) h5
  omega
theorem sp_12 (h : B 1 2 x) : x = 1 ∨ x = 2 := by
  have h1 := h.1
  have h2 := h.2
  by_cases e : x.toInt = 1
  · exact Or.inl (Int32.toInt.inj (by rw [e]; decide))
  · exact Or.inr (Int32.toInt.inj (by rw [show x.toInt = 2 by omega]; decide))
theorem B_xor (hx : B 0 255 x) (hy : B 0 255 y) : B 0 255 (x ^^^ y) := by
  have e1 : x = nI x.toInt.toNat := Int32.toInt.inj (by rw [nI_toInt (by have := hx.1; have := hx.2; omega)]; have := hx.1; omega)
  have e2 : y = nI y.toInt.toNat := Int32.toInt.inj (by rw [nI_toInt (by have := hy.1; have := hy.2; omega)]; have := hy.1; omega)
  have h1 : x.toInt.toNat < 2 ^ 8 := by have := hx.2; omega
  have h2 : y.toInt.toNat < 2 ^ 8 := by have := hy.2; omega
  have h3 := Nat.xor_lt_two_pow h1 h2
  have h4 : x ^^^ y = nI (x.toInt.toNat ^^^ y.toInt.toNat) := by
    rw [e1, e2, nI_toInt (by omega), nI_toInt (by omega)]
    apply Int32.toBitVec.inj
    simp [nI, Int32.toBitVec_ofNat', BitVec.ofNat_xor]
  rw [h4]
  unfold B
  rw [nI_toInt (by omega)]
  omega
theorem ru_at {f : Nat → Nat → Int32} {g : Nat → Int32} {r i : Nat} {v : Int32} : va_up f r (upd g i v) r i = v := by
  rw [up_at]
  unfold upd
  exact if_pos rfl
end B2
/-! what holds of a stretch of a row -/
def qf (g : Nat → Int32) (a : Nat) (b lo hi : Int) : Prop := ∀ j : Nat, a ≤ j → (j : Int) < b → B lo hi (g j)
section QF
variable {g g' : Nat → Int32} {a : Nat} {b b' lo hi lo' hi' : Int} {x v : Int32}
theorem cl_i (h : 0 ≤ x.toInt) : (x.toNatClampNeg : Int) = x.toInt := by
  show ((x.toInt.toNat : Nat) : Int) = x.toInt
  omega
theorem qf_0 (h : b ≤ a) : qf g a b lo hi := fun j h1 h2 => by omega
theorem qf_eq (e : g' = g) (h : qf g a b lo hi) : qf g' a b lo hi := by rw [e]; exact h
theorem qf_le (h : qf g a b lo hi) (hb : b' ≤ b ∨ b' ≤ (a : Int)) (h1 : lo' ≤ lo) (h2 : hi ≤ hi') : qf g a b' lo' hi' := fun j ha hj => B_w (h j ha (by omega)) h1 h2
theorem qf_at (h : qf g a b lo hi) (h0 : (a : Int) ≤ x.toInt) (h1 : x.toInt < b) : B lo hi (g x.toNatClampNeg) := by
  have := cl_i (x := x) (by omega)
  exact h _ (by omega) (by omega)
theorem qf_up (h : qf g a b lo hi) (hv : ((a : Int) ≤ x.toInt ∧ x.toInt < b) → B lo hi v) (h0 : 0 ≤ x.toInt) : qf (upd g x.toNatClampNeg v) a b lo hi := fun j ha hj => by
  have := cl_i h0
  unfold upd
  by_cases e : j = x.toNatClampNeg
  · rw [if_pos e]; exact hv ⟨by omega, by omega⟩
  · rw [if_neg e]; exact h j ha hj
theorem qf_ext (h : qf g a b lo hi) (hv : x.toInt < b' → B lo hi v) (h0 : b < b' → (x.toInt = b ∨ b' ≤ (a : Int))) (h1 : b' ≤ b + 1 ∨ b' ≤ (a : Int)) (h2 : 0 ≤ x.toInt) : qf (upd g x.toNatClampNeg v) a b' lo hi := fun j ha hj => by
  have hc := cl_i h2
  unfold upd
  by_cases e : j = x.toNatClampNeg
  · rw [if_pos e]; exact hv (by omega)
  · rw [if_neg e]
    by_cases hx : (j : Int) < b
    · exact h j ha hx
    · have := h0 (by omega)
      omega
end QF
theorem sl_B {p q i w : Int32} (hp : B 0 255 p) (hq : B 0 255 q) (hi : 0 ≤ i.toInt) (hw : i.toInt < w.toInt) (h64 : w.toInt ≤ 64) : B 0 255 (p + ((q - p) * i) / w) := by
  have p1 := hp.1
  have p2 := hp.2
  have q1 := hq.1
  have q2 := hq.2
  have e1 : (q - p).toInt = q.toInt - p.toInt := t_sub hq hp (by decide) (by decide)
  have hd : B (-255) 255 (q - p) := ⟨by omega, by omega⟩
  have e2 : ((q - p) * i).toInt = (q - p).toInt * i.toInt := t_mulS (m := 255) (n := 64) hd ⟨by omega, by omega⟩ (by decide)
  have h3 := ab_mul (m := 255) (n := 64) hd.1 hd.2 (q := i.toInt) (by omega) (by omega)
  have hwp : 0 < w.toInt := by omega
  have e3 : (((q - p) * i) / w).toInt = ((q - p).toInt * i.toInt).tdiv w.toInt := by
    rw [Int32.toInt_div, e2]
    apply bm_id
    · have := Int.natAbs_tdiv_le_natAbs ((q - p).toInt * i.toInt) w.toInt
      omega
    · have := Int.natAbs_tdiv_le_natAbs ((q - p).toInt * i.toInt) w.toInt
      omega
  have h5 : 0 ≤ p.toInt + ((q - p).toInt * i.toInt).tdiv w.toInt ∧ p.toInt + ((q - p).toInt * i.toInt).tdiv w.toInt ≤ 255 := by
    rw [e1]
    by_cases hs : p.toInt ≤ q.toInt
    · have h6 : 0 ≤ (q.toInt - p.toInt) * i.toInt := Int.mul_nonneg (by omega) hi
      have h7 : (q.toInt - p.toInt) * i.toInt ≤ (q.toInt - p.toInt) * w.toInt := Int.mul_le_mul_of_nonneg_left (by omega) (by omega)
      rw [Int.tdiv_eq_ediv_of_nonneg h6]
      have h8 : 0 ≤ (q.toInt - p.toInt) * i.toInt / w.toInt := Int.ediv_nonneg h6 (by omega)
      have h9 : (q.toInt - p.toInt) * i.toInt / w.toInt ≤ q.toInt - p.toInt := Int.ediv_le_of_le_mul hwp h7
      omega
    · have e6 : (q.toInt - p.toInt) * i.toInt = -((p.toInt - q.toInt) * i.toInt) := by
        rw [← Int.neg_mul]
        congr 1
        omega
      rw [e6, Int.neg_tdiv]
      have h6 : 0 ≤ (p.toInt - q.toInt) * i.toInt := Int.mul_nonneg (by omega) hi
      have h7 : (p.toInt - q.toInt) * i.toInt ≤ (p.toInt - q.toInt) * w.toInt := Int.mul_le_mul_of_nonneg_left (by omega) (by omega)
      rw [Int.tdiv_eq_ediv_of_nonneg h6]
      have h8 : 0 ≤ (p.toInt - q.toInt) * i.toInt / w.toInt := Int.ediv_nonneg h6 (by omega)
      have h9 : (p.toInt - q.toInt) * i.toInt / w.toInt ≤ p.toInt - q.toInt := Int.ediv_le_of_le_mul hwp h7
      omega
  have e4 : (p + ((q - p) * i) / w).toInt = p.toInt + ((q - p).toInt * i.toInt).tdiv w.toInt := by
    rw [Int32.toInt_add, e3]
    exact bm_id (by omega) (by omega)
  unfold B
  rw [e4]
  exact h5
theorem dv_lt {x w h : Int32} {a b c d e f : Int} (hx : B a b x) (hw : B c d w) (hh : B e f h) (hlt : x.toInt < (w * h).toInt) (ha : 0 ≤ a) (hc : 0 ≤ c) (hm : 0 ≤ e ∧ d * f ≤ 2147483647) : B 0 (f - 1) (x / w) := by
  have e1 : (w * h).toInt = w.toInt * h.toInt := t_mul hw hh hc hm.1 hm.2
  have x0 : 0 ≤ x.toInt := Int.le_trans ha hx.1
  have w0 : 0 ≤ w.toInt := Int.le_trans hc hw.1
  have h0 : 0 ≤ h.toInt := Int.le_trans hm.1 hh.1
  have w1 : 1 ≤ w.toInt := by
    by_cases e : w.toInt = 0
    · rw [e1, e, Int.zero_mul] at hlt
      omega
    · omega
  have e2 : (x / w).toInt = x.toInt / w.toInt := t_div (c := 1) hx ⟨w1, hw.2⟩ ha (by decide)
  unfold B
  rw [e2]
  refine ⟨Int.ediv_nonneg x0 w0, ?_⟩
  have h3 : x.toInt / w.toInt < h.toInt := by
    apply Int.ediv_lt_of_lt_mul (by omega)
    rw [Int.mul_comm]
    omega
  have := hh.2
  omega
theorem lg_B {x : Int64} (h1 : 0 ≤ lg_cmp x 0) (h2 : lg_cmp x 255 ≤ 0) : B 0 255 x.toInt32 := by
  have z0 : (0 : Int64).toInt = 0 := by decide
  have z1 : (255 : Int64).toInt = 255 := by decide
  have a1 : 0 ≤ x.toInt := by
    unfold lg_cmp at h1
    split at h1
    · next h => have := Int64.lt_iff_toInt_lt.mp h; omega
    · split at h1
      · next h => rw [h, z0]; decide
      · exact absurd h1 (by decide)
  have a2 : x.toInt ≤ 255 := by
    unfold lg_cmp at h2
    split at h2
    · exact absurd h2 (by decide)
    · next h =>
      have h3 : ¬ (255 : Int64).toInt < x.toInt := fun hh => h (Int64.lt_iff_toInt_lt.mpr hh)
      omega
  have e : x.toInt32.toInt = x.toInt := by
    rw [Int64.toInt_toInt32]
    exact bm_id (by omega) (by omega)
  unfold B
  rw [e]
  exact ⟨a1, a2⟩
