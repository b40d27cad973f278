/-! sums of counts of codes -/
def csum (g : Nat → Int32) (a : Nat) : Nat → Int
  | 0 => 0
  | n + 1 => csum g a n + (g (a + n)).toInt
theorem cs_s (g : Nat → Int32) (a n : Nat) : csum g a (n + 1) = csum g a n + (g (a + n)).toInt := rfl
theorem cs_nn {g : Nat → Int32} (h : ∀ j, 0 ≤ (g j).toInt) (a : Nat) : ∀ n, 0 ≤ csum g a n
  | 0 => Int.le_refl _
  | n + 1 => by
    rw [cs_s]
    have h1 := cs_nn h a n
    have h2 := h (a + n)
    omega
theorem cs_mono {g : Nat → Int32} (h : ∀ j, 0 ≤ (g j).toInt) (a n : Nat) : ∀ d, csum g a n ≤ csum g a (n + d)
  | 0 => Int.le_refl _
  | d + 1 => by
    have h1 := cs_mono h a n d
    have h2 := h (a + (n + d))
    rw [← Nat.add_assoc, cs_s]
    omega
theorem cs_le {g : Nat → Int32} (h : ∀ j, 0 ≤ (g j).toInt) {a n m : Nat} (hn : n ≤ m) : csum g a n ≤ csum g a m := by
  obtain ⟨d, rfl⟩ := Nat.le.dest hn
  exact cs_mono h a n d
theorem cs_off {g : Nat → Int32} {a i : Nat} {v : Int32} : ∀ n, (i < a ∨ a + n ≤ i) → csum (upd g i v) a n = csum g a n
  | 0, _ => rfl
  | n + 1, h => by
    rw [cs_s, cs_s, cs_off n (by omega)]
    congr 2
    unfold upd
    exact if_neg (by omega)
theorem cs_app {g : Nat → Int32} {a n m i : Nat} {v : Int32} (hi : i = a + n) (hm : m = n + 1) : csum (upd g i v) a m = csum g a n + v.toInt := by
  subst hm
  rw [cs_s, cs_off n (by omega)]
  congr 2
  unfold upd
  exact if_pos hi.symm
theorem pw_le {n : Nat} (h : n ≤ 16) : (2 : Int) ^ n ≤ 65536 := by
  have : (2 : Nat) ^ n ≤ 2 ^ 16 := Nat.pow_le_pow_right (by decide) h
  have e : ((2 ^ n : Nat) : Int) = (2 : Int) ^ n := by simp
  omega
/-- every code that was told has at most 256 symbols -/
def cA (S : ms) : Prop := (S.1 35).toInt = 0 → ∀ c : Int32, B 0 3 c → ¬ S.2.1 42 c.toNatClampNeg = 0 → csum (S.2.1 40) (16 * c.toInt).toNat 16 ≤ 256
/-- the same for all codes but c -/
def cB (c : Int32) (S : ms) : Prop := (S.1 35).toInt = 0 → ∀ d : Int32, B 0 3 d → ¬ d = c → ¬ S.2.1 42 d.toNatClampNeg = 0 → csum (S.2.1 40) (16 * d.toInt).toNat 16 ≤ 256
/-- the codes of the first n layers of a scan -/
def cSn (n : Int) (S : ms) : Prop := (S.1 35).toInt = 0 → ∀ x : Int32, 0 ≤ x.toInt → x.toInt < n → csum (S.2.1 40) (16 * (S.2.1 51 x.toNatClampNeg).toInt).toNat 16 ≤ 256 ∧ csum (S.2.1 40) (16 * (S.2.1 52 x.toNatClampNeg).toInt).toNat 16 ≤ 256
section CAB
variable {S T : ms} {c : Int32} {n n' : Int}
theorem cA_tr (h : cA S) (e40 : T.2.1 40 = S.2.1 40) (e42 : T.2.1 42 = S.2.1 42) (hf : (T.1 35).toInt = 0 → (S.1 35).toInt = 0) : cA T := by
  intro h0 d hd hn
  rw [e40]
  rw [e42] at hn
  exact h (hf h0) d hd hn
theorem cB_tr (h : cB c S) (e40 : T.2.1 40 = S.2.1 40) (e42 : T.2.1 42 = S.2.1 42) (hf : (T.1 35).toInt = 0 → (S.1 35).toInt = 0) : cB c T := by
  intro h0 d hd hc hn
  rw [e40]
  rw [e42] at hn
  exact h (hf h0) d hd hc hn
theorem cB_of (h : cA S) (e40 : T.2.1 40 = S.2.1 40) (e42 : T.2.1 42 = S.2.1 42) (hf : (T.1 35).toInt = 0 → (S.1 35).toInt = 0) : cB c T := fun h0 d hd _ hn => cA_tr h e40 e42 hf h0 d hd hn
theorem cSn_tr (h : cSn n S) (e40 : T.2.1 40 = S.2.1 40) (e51 : T.2.1 51 = S.2.1 51) (e52 : T.2.1 52 = S.2.1 52) (hf : (T.1 35).toInt = 0 → (S.1 35).toInt = 0) (hn : (T.1 35).toInt = 0 → n' ≤ n) : cSn n' T := by
  intro h0 x hx hl
  rw [e40, e51, e52]
  have := hn h0
  exact h (hf h0) x hx (by omega)
theorem cB_up {x y v : Int32} (h : cB c S) (e40 : T.2.1 40 = upd (S.2.1 40) x.toNatClampNeg v) (e42 : T.2.1 42 = S.2.1 42) (hf : (T.1 35).toInt = 0 → ((S.1 35).toInt = 0 ∧ 0 ≤ c.toInt ∧ c.toInt ≤ 3 ∧ x.toInt = 16 * c.toInt + y.toInt ∧ 0 ≤ y.toInt ∧ y.toInt ≤ 15)) : cB c T := by
  intro h0 d hd hc hn
  rw [e42] at hn
  have hq := hf h0
  have h1 := h hq.1 d hd hc hn
  rw [e40, cs_off]
  · exact h1
  · have h2 := cl_i (x := x) (by omega)
    have h3 := hd.1
    have h4 : d.toInt ≠ c.toInt := fun e => hc (Int32.toInt.inj e)
    omega
theorem cA_fin {v : Int32} (h : cB c S) (e40 : T.2.1 40 = S.2.1 40) (e42 : T.2.1 42 = upd (S.2.1 42) c.toNatClampNeg v) (hf : (T.1 35).toInt = 0 → ((S.1 35).toInt = 0 ∧ 0 ≤ c.toInt ∧ csum (S.2.1 40) (16 * c.toInt).toNat 16 ≤ 256)) : cA T := by
  intro h0 d hd hn
  have hq := hf h0
  rw [e40]
  by_cases e : d = c
  · rw [e]; exact hq.2.2
  · refine h hq.1 d hd e ?_
    rw [e42] at hn
    unfold upd at hn
    rwa [if_neg] at hn
    intro e2
    have h1 := cl_i hd.1
    have h2 := cl_i hq.2.1
    exact e (Int32.toInt.inj (by omega))
theorem cA_0 (h : qf (S.2.1 42) 0 4 0 0) : cA S := by
  intro _ d hd hn
  have h2 := qf_at h (x := d) (by have := hd.1; omega) (by have := hd.2; omega)
  exact absurd (B_z h2) hn
theorem cSn_ext {x y z : Int32} (h : cSn n S) (e40 : T.2.1 40 = S.2.1 40) (e51 : T.2.1 51 = upd (S.2.1 51) x.toNatClampNeg y) (e52 : T.2.1 52 = upd (S.2.1 52) x.toNatClampNeg z) (hf : (T.1 35).toInt = 0 → ((S.1 35).toInt = 0 ∧ 0 ≤ x.toInt ∧ x.toInt = n ∧ n' ≤ n + 1 ∧ csum (S.2.1 40) (16 * y.toInt).toNat 16 ≤ 256 ∧ csum (S.2.1 40) (16 * z.toInt).toNat 16 ≤ 256)) : cSn n' T := by
  intro h0 w hw hl
  have hq := hf h0
  rw [e40, e51, e52]
  unfold upd
  by_cases e : w.toNatClampNeg = x.toNatClampNeg
  · rw [if_pos e, if_pos e]
    exact hq.2.2.2.2
  · rw [if_neg e, if_neg e]
    have h1 := cl_i hw
    have h2 := cl_i hq.2.1
    exact h hq.1 w hw (by omega)
end CAB
