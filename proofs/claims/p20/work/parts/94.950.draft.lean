/-! BITS that are written: both sides at once -/
section PUT
variable {M : ms} {F : cF} {L : cL} {a b : Bool} {P : Nat → Nat → Nat} {K1 : ms → Prop} {K2 : cs → Prop}
theorem x_put {x x' : Int32} (ho : rOut M F) (hx : x' &&& 255 = x) (h1 : p_put x M K1) (h2 : p_Ro_add UL 5 x' (F, L, PC a b P) K2) :
    ∃ M' F', ag [9] [8] M M' ∧ M'.1 = upd M.1 9 (M'.1 9) ∧ agc [501] [6] F F' ∧ rOut M' F' ∧ K1 M' ∧ K2 (F', L, PC a b P) := by
  have hR : isRow 5 6 65536 := Or.inr ⟨rfl, rfl, rfl⟩
  unfold p_put at h1
  obtain ⟨hv, h1⟩ := h1
  obtain ⟨s, hs, es⟩ := vp_in_of hv (by decide)
  obtain ⟨Z, z1, z2, z3, h2⟩ := q_add hR h2 (ho.1.trans es) hs
  refine ⟨_, Z, ag_r (T := (upd M.1 9 (M.1 9 + 1), M.2.1, M.2.2)) (ag_f ag_refl rfl) rfl, ?_, z1, ⟨?_, fun k hk => ?_⟩, h1, h2⟩
  · show upd M.1 9 (M.1 9 + 1) = upd M.1 9 (upd M.1 9 (M.1 9 + 1) 9)
    rw [upd_at]
  · show Z 5 1 = upd M.1 9 (M.1 9 + 1) 9
    rw [upd_at, z2, es, nI_1]
  · show Z 6 k = va_up M.2.1 8 (upd (M.2.1 8) (M.1 9).toNatClampNeg x) 8 k
    have hk : (k : Int) < (upd M.1 9 (M.1 9 + 1) 9).toInt := hk
    rw [upd_at, es, nI_1, nI_toInt (by omega)] at hk
    rw [z3 k, vu_at, es, nI_clamp (by omega)]
    by_cases e : k = s
    · rw [e, if_pos rfl, upd_at, hx]
    · rw [if_neg e, upd_ne e]
      exact ho.2 k (by rw [es, nI_toInt (by omega)]; omega)
end PUT
/-- the writers: OUT, and the bits that wait for their byte -/
def wr (M : ms) (F : cF) : Prop := rOut M F ∧ ∃ c g : Nat, c < 8 ∧ g < 2 ^ c ∧ M.1 32 = nI c ∧ M.1 33 = nI g ∧ F 4 11 = nI c ∧ (F 4 10).toInt % 2 ^ c = g
theorem b2 {v : Int32} {k : Nat} (hk : k ≤ 16) : ((v >>> (nI k &&& 31 : Int32) : Int32) &&& 1).toInt = v.toInt / 2 ^ k % 2 := by
  have hs : ((nI k &&& 31 : Int32).toBitVec.smod 32).toNat = k := by
    have : ∀ j : Fin 17, ((nI j.val &&& 31 : Int32).toBitVec.smod 32).toNat = j.val := by decide +kernel
    exact this ⟨k, by omega⟩
  have e : (v >>> (nI k &&& 31 : Int32) : Int32).toInt = v.toInt / 2 ^ k := t_shr hs
  have e2 : ∀ w : Int32, (w &&& 1).toInt = w.toInt % 2 := by
    intro w
    have h1 := B_and (x := w) (k := 1) (m := 1) (by decide) (by decide)
    have hq : (w &&& 1).toBitVec = w.toBitVec &&& 1#32 := rfl
    have hn : (w &&& 1).toBitVec.toNat = w.toBitVec.toNat % 2 := by
      rw [hq, BitVec.toNat_and]
      exact Nat.and_one_is_mod _
    have p1 : (w &&& 1).toInt = ((w &&& 1).toBitVec.toNat : Int) := by
      show (w &&& 1).toBitVec.toInt = _
      rw [BitVec.toInt_eq_toNat_of_lt]
      rw [hn]
      have := Nat.mod_lt w.toBitVec.toNat (show 0 < 2 by decide)
      omega
    have p2 : w.toInt % 2 = (w.toBitVec.toNat : Int) % 2 := by
      show w.toBitVec.toInt % 2 = _
      rw [BitVec.toInt_eq_toNat_cond]
      split
      · rfl
      · show ((w.toBitVec.toNat : Int) - ((2 ^ 32 : Nat) : Int)) % 2 = _
        omega
    rw [p1, hn, p2]
    omega
  rw [e2, e]
/-- the byte that both write -/
theorem by_h {x : Int32} {k : Nat} (hk : k ≤ 16) : ((x >>> (nI k &&& 31 : Int32) : Int32) &&& 255).toInt = x.toInt / 2 ^ k % 256 := by
  have hs : ((nI k &&& 31 : Int32).toBitVec.smod 32).toNat = k := by
    have : ∀ j : Fin 17, ((nI j.val &&& 31 : Int32).toBitVec.smod 32).toNat = j.val := by decide +kernel
    exact this ⟨k, by omega⟩
  have e : (x >>> (nI k &&& 31 : Int32) : Int32).toInt = x.toInt / 2 ^ k := t_shr hs
  have e2 : ∀ w : Int32, (w &&& 255).toInt = w.toInt % 256 := by
    intro w
    have hq : (w &&& 255).toBitVec = w.toBitVec &&& 255#32 := rfl
    have hn : (w &&& 255).toBitVec.toNat = w.toBitVec.toNat % 256 := by
      rw [hq, BitVec.toNat_and]
      exact Nat.and_two_pow_sub_one_eq_mod _ 8
    have p1 : (w &&& 255).toInt = ((w &&& 255).toBitVec.toNat : Int) := by
      show (w &&& 255).toBitVec.toInt = _
      rw [BitVec.toInt_eq_toNat_of_lt]
      rw [hn]
      have := Nat.mod_lt w.toBitVec.toNat (show 0 < 256 by decide)
      omega
    have p2 : w.toInt % 256 = (w.toBitVec.toNat : Int) % 256 := by
      show w.toBitVec.toInt % 256 = _
      rw [BitVec.toInt_eq_toNat_cond]
      split
      · rfl
      · show ((w.toBitVec.toNat : Int) - ((2 ^ 32 : Nat) : Int)) % 256 = _
        omega
    rw [p1, hn, p2]
    omega
  rw [e2, e]
theorem and_and {x : Int32} : (x &&& 255) &&& 255 = x &&& 255 := by
  apply and255
  have h := B_and (x := x) (k := 8) (m := 255) (by decide) (by decide)
  exact ⟨h.1, Int.le_trans h.2 (by decide)⟩
/-- shifted and or-ed: the new bits stand below the old ones -/
theorem shl_or {x v : Int32} {n : Nat} (hn : n ≤ 16) (h0 : 0 ≤ v.toInt) (h1 : v.toInt < 2 ^ n) {m : Nat} (hm : m ≤ 23) (hmn : n ≤ m) : (((x <<< (nI n &&& 31 : Int32) : Int32) ||| v).toInt) % 2 ^ m = (x.toInt * 2 ^ n + v.toInt) % 2 ^ m := by
  have hs : ((nI n &&& 31 : Int32).toBitVec.smod 32).toNat = n := by
    have : ∀ j : Fin 17, ((nI j.val &&& 31 : Int32).toBitVec.smod 32).toNat = j.val := by decide +kernel
    exact this ⟨n, by omega⟩
  have ev : (v.toBitVec.toNat : Int) = v.toInt := by
    show _ = v.toBitVec.toInt
    rw [BitVec.toInt_eq_toNat_cond]
    split
    · rfl
    · next hc =>
      have h0 : 0 ≤ v.toBitVec.toInt := h0
      rw [BitVec.toInt_eq_toNat_cond, if_neg hc] at h0
      have := v.toBitVec.isLt
      omega
  have vlt : v.toBitVec.toNat < 2 ^ n := by
    have : ((v.toBitVec.toNat : Nat) : Int) < ((2 ^ n : Nat) : Int) := by rw [ev]; push_cast; exact h1
    exact Int.ofNat_lt.mp this
  have eb : ((x <<< (nI n &&& 31 : Int32) : Int32) ||| v).toBitVec = (x.toBitVec <<< n) ||| v.toBitVec := by
    show (x.toBitVec <<< ((nI n &&& 31 : Int32).toBitVec.smod 32).toNat) ||| v.toBitVec = _
    rw [hs]
  have p232 : ∀ w : Int32, ∃ q : Int, w.toInt = (w.toBitVec.toNat : Int) + q * 4294967296 := by
    intro w
    show ∃ q : Int, w.toBitVec.toInt = _
    rw [BitVec.toInt_eq_toNat_cond]
    split
    · exact ⟨0, by omega⟩
    · exact ⟨-1, by
        show (w.toBitVec.toNat : Int) - ((2 ^ 32 : Nat) : Int) = _
        omega⟩
  have eo : ((x.toBitVec <<< n) ||| v.toBitVec).toNat = (x.toBitVec.toNat * 2 ^ n) % 2 ^ 32 + v.toBitVec.toNat := by
    rw [BitVec.toNat_or, BitVec.toNat_shiftLeft, Nat.shiftLeft_eq]
    have d : (x.toBitVec.toNat * 2 ^ n) % 2 ^ 32 = ((x.toBitVec.toNat * 2 ^ n) % 2 ^ 32 / 2 ^ n) * 2 ^ n := by
      have e : (2 ^ 32 : Nat) = 2 ^ n * 2 ^ (32 - n) := by rw [← Nat.pow_add]; congr 1; omega
      rw [Nat.mul_comm x.toBitVec.toNat, e, Nat.mul_mod_mul_left, Nat.mul_div_cancel_left _ (Nat.pow_pos (by decide)), Nat.mul_comm]
    rw [d, Nat.mul_comm _ (2 ^ n)]
    exact (Nat.two_pow_add_eq_or_of_lt vlt _).symm
  obtain ⟨q1, e1⟩ := p232 ((x <<< (nI n &&& 31 : Int32) : Int32) ||| v)
  obtain ⟨q2, e2⟩ := p232 x
  rw [eb, eo] at e1
  have e3 : ∃ q3 : Int, (((x.toBitVec.toNat * 2 ^ n) % 2 ^ 32 : Nat) : Int) = (x.toBitVec.toNat : Int) * 2 ^ n + q3 * 4294967296 := by
    have ce : (x.toBitVec.toNat : Int) * 2 ^ n = ((x.toBitVec.toNat * 2 ^ n : Nat) : Int) := by
      rw [Int.natCast_mul, Int.natCast_pow]
      rfl
    rw [ce]
    generalize x.toBitVec.toNat * 2 ^ n = a
    have p : (2 : Nat) ^ 32 = 4294967296 := by decide
    rw [p]
    exact ⟨-((a / 4294967296 : Nat) : Int), by omega⟩
  obtain ⟨q3, e3⟩ := e3
  have e5 : ∃ q5 : Int, (4294967296 : Int) = 2 ^ m * q5 := by
    refine ⟨2 ^ (32 - m), ?_⟩
    rw [← Int.pow_add, show m + (32 - m) = 32 by omega]
    decide
  obtain ⟨q5, e5⟩ := e5
  have e4 : (((x <<< (nI n &&& 31 : Int32) : Int32) ||| v).toInt) = x.toInt * 2 ^ n + v.toInt + 2 ^ m * (q5 * (q1 + q3 - q2 * 2 ^ n)) := by
    rw [e1, e2, Int.natCast_add, e3, ev, e5]
    simp only [Int.add_mul, Int.mul_add, Int.mul_sub, Int.sub_mul]
    have r1 : q3 * (2 ^ m * q5) = 2 ^ m * (q5 * q3) := by rw [Int.mul_comm q3, Int.mul_assoc]
    have r2 : q1 * (2 ^ m * q5) = 2 ^ m * (q5 * q1) := by rw [Int.mul_comm q1, Int.mul_assoc]
    have r3 : q2 * (2 ^ m * q5) * 2 ^ n = 2 ^ m * (q5 * (q2 * 2 ^ n)) := by rw [Int.mul_comm q2, Int.mul_assoc, Int.mul_assoc]
    rw [r1, r2, r3]
    omega
  rw [e4, Int.add_mul_emod_self_left]
theorem agc_f2 {fs rs : List Nat} {F G : cF} {u k k' : Nat} {v v' : Int32} (h : agc fs rs F G) (ho : OB u = true) (hk : fs.contains (100 * u + k) = true) (hk' : fs.contains (100 * u + k') = true) : agc fs rs F (va_up G u (upd (upd (G u) k v) k' v')) := by
  have q := agc_f (v := v') (agc_f (v := v) h ho hk) ho hk'
  rw [vu_vu, vu_at] at q
  exact q
section BITS
variable {M : ms} {F : cF} {L : cL} {a b : Bool} {P : Nat → Nat → Nat} {K1 : ms → Prop} {K2 : cs → Prop}
theorem pw_pos (k : Nat) : (0 : Int) < 2 ^ k := Int.pow_pos (by decide)
/-- n bits of v -/
theorem x_bits {v : Int32} {n : Nat} (hn : n ≤ 16) (h0 : 0 ≤ v.toInt) (hlt : v.toInt < 2 ^ n) (hw : wr M F) (h1 : p_putBits v (nI n) M K1) (h2 : p_Pa_writeBits UL 4 v (nI n) (F, L, PC a b P) K2) :
    ∃ M' F', ag [9, 32, 33] [8] M M' ∧ agc [410, 411, 501] [6] F F' ∧ wr M' F' ∧ K1 M' ∧ K2 (F', L, PC a b P) := by
  obtain ⟨ho, c0, g0, hc0, hg0, m32, m33, f11, f10⟩ := hw
  unfold p_Pa_writeBits at h2
  have h2 : e_Pa_writeBits_22 UL 4 (va_up (va_up F 4 (upd (F 4) 10 ((F 4 10 <<< (nI n &&& 31 : Int32) : Int32) ||| v))) 4 (upd ((va_up F 4 (upd (F 4) 10 ((F 4 10 <<< (nI n &&& 31 : Int32) : Int32) ||| v))) 4) 11 ((va_up F 4 (upd (F 4) 10 ((F 4 10 <<< (nI n &&& 31 : Int32) : Int32) ||| v))) 4 11 + nI n)), L, PC a b P) K2 := h2
  rw [vu_vu, vu_at, upd_ne (show (11 : Nat) ≠ 10 by decide), f11, nI_add] at h2
  unfold p_putBits at h1
  have e1 : (nI n - 1 : Int32) = nI n + (-1) := by rw [Int32.sub_eq_add_neg]
  refine v_e_putBits_4 h1 (fun y3 T => ∃ k c g G, y3 = nI k + (-1) ∧ k ≤ n ∧ c < 8 ∧ g < 2 ^ c ∧ T.1 32 = nI c ∧ T.1 33 = nI g ∧ rOut T G ∧ ag [9, 32, 33] [8] M T ∧ agc [410, 411, 501] [6] F G ∧ G 4 11 = nI (c + k) ∧ (G 4 10).toInt % 2 ^ (c + k) = g * 2 ^ k + v.toInt % 2 ^ k ∧ e_Pa_writeBits_22 UL 4 (G, L, PC a b P) K2) ⟨n, c0, g0, _, e1, Nat.le_refl _, hc0, hg0, m32, m33, ?_, ag_refl, agc_f2 agc_refl rfl rfl rfl, ?_, ?_, h2⟩ ?_
  · refine ⟨?_, fun k hk => ?_⟩
    · rw [vu_ne (by decide)]
      exact ho.1
    · rw [vu_ne (by decide)]
      exact ho.2 k hk
  · rw [vu_at, upd_at]
  · rw [vu_at, upd_ne (by decide), upd_at, shl_or hn h0 hlt (by omega) (by omega), Int.emod_eq_of_lt h0 hlt]
    have q1 := Int.emod_add_mul_ediv (F 4 10).toInt (2 ^ c0)
    rw [f10] at q1
    have q2 : (F 4 10).toInt * 2 ^ n + v.toInt = g0 * 2 ^ n + v.toInt + 2 ^ (c0 + n) * ((F 4 10).toInt / 2 ^ c0) := by
      rw [← q1, Int.pow_add]
      rw [q1]
      have : ((g0 : Int) + 2 ^ c0 * ((F 4 10).toInt / 2 ^ c0)) * 2 ^ n = g0 * 2 ^ n + 2 ^ c0 * 2 ^ n * ((F 4 10).toInt / 2 ^ c0) := by
        rw [Int.add_mul, Int.mul_assoc, Int.mul_comm ((F 4 10).toInt / 2 ^ c0), Int.mul_assoc]
      rw [← q1, this]
      rw [q1]
      omega
    rw [q2, Int.add_mul_emod_self_left]
    refine Int.emod_eq_of_lt (Int.add_nonneg (Int.mul_nonneg (by omega) (Int.le_of_lt (pw_pos n))) h0) ?_
    have : (g0 : Int) + 1 ≤ 2 ^ c0 := by
      have : ((g0 + 1 : Nat) : Int) ≤ ((2 ^ c0 : Nat) : Int) := Int.ofNat_le.mpr hg0
      push_cast at this
      exact this
    have h3 := Int.mul_le_mul_of_nonneg_right this (Int.le_of_lt (pw_pos n))
    rw [Int.add_mul, Int.one_mul, ← Int.pow_add] at h3
    omega
  · rintro y3 T R ⟨k, c, g, G, rfl, hk, hc, hg, t32, t33, ht, ha, hga, g11, g10, h2⟩ hb
    unfold b_putBits_4 at hb
    by_cases e : k = 0
    · right
      subst e
      have h2 := r_e_Pa_writeBits_22 h2
      unfold b_Pa_writeBits_22 at h2
      have h2 := h2.1 (by show G 4 11 < 8; rw [g11]; exact nI_lt (b := 8) (by omega) (by decide))
      refine ⟨T, G, ha, hga, ⟨ht, c, g, hc, hg, t32, t33, g11, ?_⟩, hb.1 (by decide), h2⟩
      rw [Nat.add_zero] at g10
      rw [g10, Int.pow_zero, Int.emod_one]
      omega
    · left
      obtain ⟨k', rfl⟩ : ∃ k', k = k' + 1 := ⟨k - 1, by omega⟩
      rw [pk_m1] at hb
      have hb := hb.2 (nI_pos (by omega))
      rw [upd_at, upd_ne (show (32 : Nat) ≠ 33 by decide), t32, t33, nI_1] at hb
      have vb := b2 (v := v) (k := k') (by omega)
      have bb : ∃ bt : Nat, bt < 2 ∧ ((v >>> (nI k' &&& 31 : Int32) : Int32) &&& 1) = nI bt ∧ (bt : Int) = v.toInt / 2 ^ k' % 2 := by
        have z := Int.emod_nonneg (v.toInt / 2 ^ k') (show (2 : Int) ≠ 0 by decide)
        have z2 := Int.emod_lt_of_pos (v.toInt / 2 ^ k') (show (0 : Int) < 2 by decide)
        refine ⟨(v.toInt / 2 ^ k' % 2).toNat, by omega, ?_, by omega⟩
        rw [← vb]
        exact nI_i (by omega)
      obtain ⟨bt, hbt, ebt, eb2⟩ := bb
      rw [ebt, show (2 : Int32) = nI 2 from rfl, pk_mul, nI_add] at hb
      have gB : 2 * g + bt < 2 ^ (c + 1) := by rw [Nat.pow_succ]; omega
      have c256 : 2 ^ (c + 1) ≤ 256 := Nat.le_trans (Nat.pow_le_pow_right (by decide) (show c + 1 ≤ 8 by omega)) (by decide)
      have vs : v.toInt % 2 ^ (k' + 1) = (v.toInt / 2 ^ k' % 2) * 2 ^ k' + v.toInt % 2 ^ k' := by
        have q1 := Int.emod_add_mul_ediv v.toInt (2 ^ k')
        have q2 := Int.emod_add_mul_ediv (v.toInt / 2 ^ k') 2
        have q3 : v.toInt = (v.toInt / 2 ^ k' % 2) * 2 ^ k' + v.toInt % 2 ^ k' + 2 ^ (k' + 1) * (v.toInt / 2 ^ k' / 2) := by
          rw [Int.pow_succ]
          have : (2 ^ k' : Int) * (v.toInt / 2 ^ k') = (v.toInt / 2 ^ k' % 2) * 2 ^ k' + 2 ^ k' * 2 * (v.toInt / 2 ^ k' / 2) := by
            rw [Int.mul_assoc, Int.mul_comm (v.toInt / 2 ^ k' % 2), ← Int.mul_add, q2]
          omega
        have z := Int.emod_nonneg v.toInt (Int.ne_of_gt (pw_pos k'))
        have z2 := Int.emod_lt_of_pos v.toInt (pw_pos k')
        have z3 := Int.emod_nonneg (v.toInt / 2 ^ k') (show (2 : Int) ≠ 0 by decide)
        have z4 := Int.emod_lt_of_pos (v.toInt / 2 ^ k') (show (0 : Int) < 2 by decide)
        have zz : (v.toInt / 2 ^ k' % 2) * 2 ^ k' + v.toInt % 2 ^ k' < 2 ^ (k' + 1) := by
          rw [Int.pow_succ]
          have : (v.toInt / 2 ^ k' % 2) * 2 ^ k' ≤ 1 * 2 ^ k' := Int.mul_le_mul_of_nonneg_right (by omega) (Int.le_of_lt (pw_pos k'))
          omega
        have zn : 0 ≤ (v.toInt / 2 ^ k' % 2) * 2 ^ k' := Int.mul_nonneg z3 (Int.le_of_lt (pw_pos k'))
        rw [q3, Int.add_mul_emod_self_left]
        rw [← q3]
        exact Int.emod_eq_of_lt (by omega) zz
      have g10' : (G 4 10).toInt % 2 ^ (c + (k' + 1)) = ((2 * g + bt : Nat) : Int) * 2 ^ k' + v.toInt % 2 ^ k' := by
        rw [g10, vs, ← eb2, Int.pow_succ]
        push_cast
        rw [Int.add_mul, Int.mul_comm (2 ^ k' : Int) 2, ← Int.mul_assoc, Int.mul_comm (g : Int) 2]
        omega
      by_cases e8 : c + 1 = 8
      · -- a byte is full
        have hb := hb.2 (by rw [e8]; decide)
        rw [upd_ne (show (33 : Nat) ≠ 32 by decide), upd_at] at hb
        have h2 := r_e_Pa_writeBits_22 h2
        unfold b_Pa_writeBits_22 at h2
        obtain ⟨-, -, h2⟩ := h2.2 (by show ¬ G 4 11 < 8; rw [g11]; exact nI_nlt (b := 8) (by omega) (by omega))
        have h2 : p_Ro_add UL 5 ((((va_up G 4 (upd (G 4) 11 (G 4 11 - 8))) 4 10) >>> (((va_up G 4 (upd (G 4) 11 (G 4 11 - 8))) 4 11) &&& 31 : Int32) : Int32) &&& 255) (va_up G 4 (upd (G 4) 11 (G 4 11 - 8)), L, PC a b P) (fun S61 => (¬ ((((va_up G 4 (upd (G 4) 11 (G 4 11 - 8))) 4 10) >>> (((va_up G 4 (upd (G 4) 11 (G 4 11 - 8))) 4 11) &&& 31 : Int32) : Int32) &&& 255) = 255 → (b_Pa_writeBits_79 UL 4 S61 (fun zS => e_Pa_writeBits_22 UL 4 zS K2) K2)) ∧ (((((va_up G 4 (upd (G 4) 11 (G 4 11 - 8))) 4 10) >>> (((va_up G 4 (upd (G 4) 11 (G 4 11 - 8))) 4 11) &&& 31 : Int32) : Int32) &&& 255) = 255 → (¬ S61.2.2 4 0 = NU ∧ (c_cl UL (S61.2.2 4 0) = 9 ∧ (p_Ro_add UL (S61.2.2 4 0) 0 S61 (fun S76 => b_Pa_writeBits_79 UL 4 S76 (fun zS => e_Pa_writeBits_22 UL 4 zS K2) K2)))))) := h2
        have ek : (nI (c + (k' + 1)) - 8 : Int32) = nI k' := by
          rw [show (8 : Int32) = nI 8 from rfl, pk_sub (by omega), show c + (k' + 1) - 8 = k' by omega]
        rw [vu_at, upd_at, upd_ne (show (10 : Nat) ≠ 11 by decide), g11, ek] at h2
        have byv : ((G 4 10 >>> (nI k' &&& 31 : Int32) : Int32) &&& 255) = nI (2 * g + bt) := by
          apply Int32.toInt.inj
          rw [by_h (by omega), nI_toInt (by omega)]
          have q1 := Int.emod_add_mul_ediv (G 4 10).toInt (2 ^ (c + (k' + 1)))
          rw [g10', show c + (k' + 1) = k' + 8 by omega, Int.pow_add] at q1
          have z := Int.emod_nonneg v.toInt (Int.ne_of_gt (pw_pos k'))
          have z2 := Int.emod_lt_of_pos v.toInt (pw_pos k')
          have q2 : (G 4 10).toInt / 2 ^ k' = ((2 * g + bt : Nat) : Int) + 256 * ((G 4 10).toInt / (2 ^ k' * 2 ^ 8)) := by
            generalize (G 4 10).toInt / (2 ^ k' * 2 ^ 8) = Y at q1 ⊢
            have q5 : (G 4 10).toInt = v.toInt % 2 ^ k' + 2 ^ k' * (((2 * g + bt : Nat) : Int) + 2 ^ 8 * Y) := by
              rw [Int.mul_add, Int.mul_comm (2 ^ k' : Int) ((2 * g + bt : Nat) : Int), ← Int.mul_assoc]
              omega
            rw [q5, Int.add_mul_ediv_left _ _ (Int.ne_of_gt (pw_pos k')), Int.ediv_eq_zero_of_lt z z2]
            omega
          rw [q2, Int.add_mul_emod_self_left]
          exact Int.emod_eq_of_lt (by omega) (by omega)
        rw [byv] at h2
        have hrG : rOut (upd (upd T.1 33 (nI (2 * g + bt))) 32 (nI (c + 1)), T.2.1, T.2.2) (va_up G 4 (upd (G 4) 11 (nI k'))) := by
          refine ⟨?_, fun j hj => ?_⟩
          · show va_up G 4 (upd (G 4) 11 (nI k')) 5 1 = upd (upd T.1 33 (nI (2 * g + bt))) 32 (nI (c + 1)) 9
            rw [vu_ne (by decide), upd_ne (by decide), upd_ne (by decide)]
            exact ht.1
          · have hj : (j : Int) < (upd (upd T.1 33 (nI (2 * g + bt))) 32 (nI (c + 1)) 9).toInt := hj
            rw [upd_ne (by decide), upd_ne (by decide)] at hj
            rw [vu_ne (by decide)]
            exact ht.2 j hj
        obtain ⟨T2, G2, a1, a2, a3, a4, hb, h2⟩ := x_put hrG (and255 ⟨by rw [nI_toInt (by omega)]; omega, by rw [nI_toInt (by omega)]; omega⟩) hb h2
        have f33 : T2.1 33 = nI (2 * g + bt) := by
          rw [a1.1 33 rfl]
          show upd (upd T.1 33 (nI (2 * g + bt))) 32 (nI (c + 1)) 33 = _
          rw [upd_ne (by decide), upd_at]
        rw [f33] at hb
        have agT : ag [9, 32, 33] [8] M T2 := ag_tr (ag_f (T := (upd T.1 33 (nI (2 * g + bt)), T.2.1, T.2.2)) (ag_f ha rfl) rfl) a1 rfl rfl
        have agG : agc [410, 411, 501] [6] F G2 := agc_tr (agc_f hga rfl rfl) a3 rfl rfl
        have hG11 : G2 4 11 = nI k' := by rw [a3.1 4 11 rfl rfl, vu_at, upd_at]
        have hG10 : G2 4 10 = G 4 10 := by rw [a3.1 4 10 rfl rfl, vu_at, upd_ne (by decide)]
        have h10 : (G2 4 10).toInt % 2 ^ (0 + k') = ((0 : Nat) : Int) * 2 ^ k' + v.toInt % 2 ^ k' := by
          rw [hG10, Nat.zero_add]
          have q1 := Int.emod_add_mul_ediv (G 4 10).toInt (2 ^ (c + (k' + 1)))
          rw [g10', show c + (k' + 1) = k' + 8 by omega, Int.pow_add] at q1
          have z := Int.emod_nonneg v.toInt (Int.ne_of_gt (pw_pos k'))
          have z2 := Int.emod_lt_of_pos v.toInt (pw_pos k')
          have q2 : (G 4 10).toInt = v.toInt % 2 ^ k' + 2 ^ k' * (((2 * g + bt : Nat) : Int) + 2 ^ 8 * ((G 4 10).toInt / (2 ^ k' * 2 ^ 8))) := by
            rw [Int.mul_add, Int.mul_comm (2 ^ k' : Int) ((2 * g + bt : Nat) : Int), ← Int.mul_assoc]
            omega
          rw [q2, Int.add_mul_emod_self_left, Int.emod_eq_of_lt z z2]
          omega
        refine dt_n hb (fun c9 hb => ?_) (fun c9 hb => ?_)
        · have h2 := h2.1 c9
          unfold b_Pa_writeBits_79 at h2
          unfold b_putBits_66 b_putBits_76 at hb
          refine ⟨_, _, hb, k', 0, 0, G2, rfl, by omega, by decide, by decide, ?_, ?_, ?_, ag_f (T := (upd T2.1 32 0, T2.2.1, T2.2.2)) (ag_f agT rfl) rfl, agG, by rw [Nat.zero_add]; exact hG11, h10, h2⟩
          · show upd (upd T2.1 32 0) 33 0 32 = nI 0
            rw [upd_ne (by decide), upd_at]
            rfl
          · show upd (upd T2.1 32 0) 33 0 33 = nI 0
            rw [upd_at]
            rfl
          · refine ⟨?_, fun j hj => ?_⟩
            · show G2 5 1 = upd (upd T2.1 32 0) 33 0 9
              rw [upd_ne (by decide), upd_ne (by decide)]
              exact a4.1
            · have hj : (j : Int) < (upd (upd T2.1 32 0) 33 0 9).toInt := hj
              rw [upd_ne (by decide), upd_ne (by decide)] at hj
              exact a4.2 j hj
        · obtain ⟨-, -, h2⟩ := h2.2 c9
          have h2 : p_Ro_add UL 5 0 (G2, L, PC a b P) _ := h2
          obtain ⟨T3, G3, d1, d2, d3, d4, hb, h2⟩ := x_put (x := 0) (M := (T2.1, T2.2.1, T2.2.2)) a4 (by decide) hb h2
          unfold b_Pa_writeBits_79 at h2
          unfold b_putBits_66 b_putBits_76 at hb
          refine ⟨_, _, hb, k', 0, 0, G3, rfl, by omega, by decide, by decide, ?_, ?_, ?_, ag_f (T := (upd T3.1 32 0, T3.2.1, T3.2.2)) (ag_f (ag_tr agT d1 rfl rfl) rfl) rfl, agc_tr agG d3 rfl rfl, by rw [Nat.zero_add, d3.1 4 11 rfl rfl]; exact hG11, by rw [d3.1 4 10 rfl rfl]; exact h10, h2⟩
          · show upd (upd T3.1 32 0) 33 0 32 = nI 0
            rw [upd_ne (by decide), upd_at]
            rfl
          · show upd (upd T3.1 32 0) 33 0 33 = nI 0
            rw [upd_at]
            rfl
          · refine ⟨?_, fun j hj => ?_⟩
            · show G3 5 1 = upd (upd T3.1 32 0) 33 0 9
              rw [upd_ne (by decide), upd_ne (by decide)]
              exact d4.1
            · have hj : (j : Int) < (upd (upd T3.1 32 0) 33 0 9).toInt := hj
              rw [upd_ne (by decide), upd_ne (by decide)] at hj
              exact d4.2 j hj
      · have hb := hb.1 (fun q => e8 (by have := (nI_eq (a := c + 1) (b := 8) (by omega) (by decide)).mp q; omega))
        unfold b_putBits_76 at hb
        refine ⟨_, _, hb, k', c + 1, 2 * g + bt, G, rfl, by omega, by omega, gB, ?_, ?_, ?_, ag_f (T := (upd T.1 33 (nI (2 * g + bt)), T.2.1, T.2.2)) (ag_f ha rfl) rfl, hga, by rw [g11]; congr 1; omega, ?_, h2⟩
        · show upd (upd T.1 33 (nI (2 * g + bt))) 32 (nI (c + 1)) 32 = _
          rw [upd_at]
        · show upd (upd T.1 33 (nI (2 * g + bt))) 32 (nI (c + 1)) 33 = _
          rw [upd_ne (by decide), upd_at]
        · refine ⟨?_, fun j hj => ?_⟩
          · show G 5 1 = upd (upd T.1 33 (nI (2 * g + bt))) 32 (nI (c + 1)) 9
            rw [upd_ne (by decide), upd_ne (by decide)]
            exact ht.1
          · have hj : (j : Int) < (upd (upd T.1 33 (nI (2 * g + bt))) 32 (nI (c + 1)) 9).toInt := hj
            rw [upd_ne (by decide), upd_ne (by decide)] at hj
            exact ht.2 j hj
        · rw [show c + 1 + k' = c + (k' + 1) by omega]
          exact g10'
end BITS

/-! SYMBOLS and numbers: both sides at once -/
theorem q_bitsOf {x : Int32} {K : Int32 → Prop} (hb : B (-8191) 8191 x) (h : p_bitsOf x K) : K (bf x) :=
  d_p_bitsOf h (fun w hk hi => by
    have e : w = bf x := (hi (fun w => w = bf x)).mp (h_bitsOf hb rfl)
    rw [e] at hk
    exact hk)
theorem ab_n {x : Int32} (hb : B (-8191) 8191 x) : i_abs x = nI x.toInt.natAbs := by
  have h1 := hb.1
  have h2 := hb.2
  have z0 : (0 : Int32).toInt = 0 := by decide
  unfold i_abs
  by_cases c : 0 ≤ x
  · rw [if_pos c]
    have c := i_le c
    have e := nI_i (x := x) (by omega)
    rw [show x.toInt.natAbs = x.toInt.toNat by omega]
    exact e
  · rw [if_neg c, zsub]
    have c := i_lt (nle_lt c)
    apply Int32.toInt.inj
    rw [t_neg hb (by decide), nI_toInt (by omega)]
    omega
theorem q_Pbits {x : Int32} {K : Int32 → Prop} (hb : B (-8191) 8191 x) (h : p_Pa_bitsOf x K) : K (bf x) := by
  have h1 := hb.1
  have h2 := hb.2
  unfold p_Pa_bitsOf at h
  rw [ab_n hb] at h
  have hN : x.toInt.natAbs ≤ 8191 := by omega
  refine v_e_Pa_bitsOf_7 h (fun y1 y2 => ∃ j, y1 = nI j ∧ y2 = nI (x.toInt.natAbs / 2 ^ j) ∧ j ≤ 14 ∧ (j = 0 ∨ 2 ^ (j - 1) ≤ x.toInt.natAbs)) ⟨0, rfl, by rw [Nat.pow_zero, Nat.div_one], by decide, Or.inl rfl⟩ ?_
  rintro y1 y2 R ⟨j, rfl, rfl, hj, hc⟩ hb
  have dl : x.toInt.natAbs / 2 ^ j ≤ x.toInt.natAbs := Nat.div_le_self _ _
  unfold b_Pa_bitsOf_7 at hb
  by_cases e : x.toInt.natAbs / 2 ^ j = 0
  · right
    have hb := hb.1 (by rw [e]; decide)
    have lt : x.toInt.natAbs < 2 ^ j := by
      rcases (Nat.div_eq_zero_iff).mp e with q | q
      · exact absurd q (Nat.ne_of_gt (Nat.pow_pos (by decide)))
      · exact q
    have b1 : bl x.toInt.natAbs ≤ j := bl_le.mpr lt
    have b2 : j ≤ bl x.toInt.natAbs := by
      rcases hc with rfl | hc
      · exact Nat.zero_le _
      · refine Classical.byContradiction fun q => ?_
        have : bl x.toInt.natAbs ≤ j - 1 := by omega
        have := bl_le.mp this
        omega
    show K (nI (bl x.toInt.natAbs))
    rw [show bl x.toInt.natAbs = j by omega]
    exact hb
  · left
    have hb := hb.2 (nI_nle (Nat.pos_of_ne_zero e) (Nat.lt_of_le_of_lt dl (by omega)))
    rw [show (2 : Int32) = nI 2 from rfl, pk_div (Nat.lt_of_le_of_lt dl (by omega)) (by decide) (by decide), Nat.div_div_eq_div_mul, ← Nat.pow_succ] at hb
    have ge : 2 ^ j ≤ x.toInt.natAbs := by
      refine Classical.byContradiction fun q => e (Nat.div_eq_of_lt (by omega))
    refine ⟨_, _, hb, j + 1, nI_1 j, rfl, ?_, Or.inr ge⟩
    refine Classical.byContradiction fun q => ?_
    have : j = 14 := by omega
    rw [this] at ge
    have : (2 : Nat) ^ 14 = 16384 := by decide
    omega
/-- which unit of the class has the reference's code c (0: starts 0, 1: rests 0, 2: starts 1, 3: rests 1) -/
def oc (c : Nat) : Nat := if c = 0 then 33 else if c = 1 then 46 else if c = 2 then 39 else 52
theorem oc_4 {c : Nat} (hc : c ≤ 3) : oc c = 33 ∨ oc c = 46 ∨ oc c = 39 ∨ oc c = 52 := by
  have : c = 0 ∨ c = 1 ∨ c = 2 ∨ c = 3 := by omega
  rcases this with rfl | rfl | rfl | rfl
  · exact Or.inl rfl
  · exact Or.inr (Or.inl rfl)
  · exact Or.inr (Or.inr (Or.inl rfl))
  · exact Or.inr (Or.inr (Or.inr rfl))
section OC
variable {a b : Bool} {P : Nat → Nat → Nat} {v : Nat}
def isOc (v : Nat) : Prop := v = 33 ∨ v = 46 ∨ v = 39 ∨ v = 52
theorem op0 (hv : isOc v) : PC a b P v 0 = v + 1 := by rcases hv with rfl | rfl | rfl | rfl <;> rfl
theorem op1 (hv : isOc v) : PC a b P v 1 = v + 2 := by rcases hv with rfl | rfl | rfl | rfl <;> rfl
theorem op2 (hv : isOc v) : PC a b P v 2 = v + 3 := by rcases hv with rfl | rfl | rfl | rfl <;> rfl
theorem op3 (hv : isOc v) : PC a b P v 3 = v + 4 := by rcases hv with rfl | rfl | rfl | rfl <;> rfl
theorem op5 (hv : isOc v) : PC a b P v 5 = v + 5 := by rcases hv with rfl | rfl | rfl | rfl <;> rfl
end OC
/-- how often, so far -/
def rCnt (m : Nat) (M : ms) (F : cF) : Prop := ∀ c s, (c < m ∧ c ≤ 3) → s < 257 → F (oc c + 1) s = M.2.1 26 (257 * c + s)
/-- codes of both sides are the same, and none has more bits than its length -/
def rCod (m : Nat) (M : ms) (F : cF) : Prop := ∀ c s, c < m → s < 256 → F (oc c + 2) s = M.2.1 27 (257 * c + s) ∧ 0 ≤ (M.2.1 27 (257 * c + s)).toInt ∧ (M.2.1 27 (257 * c + s)).toInt ≤ 16 ∧ (0 < (M.2.1 27 (257 * c + s)).toInt → F (oc c + 3) s = M.2.1 28 (257 * c + s) ∧ 0 ≤ (M.2.1 28 (257 * c + s)).toInt ∧ (M.2.1 28 (257 * c + s)).toInt < 2 ^ (M.2.1 27 (257 * c + s)).toInt.toNat)
section NUM
variable {M : ms} {F : cF} {L : cL} {a b : Bool} {P : Nat → Nat → Nat} {K1 : ms → Prop} {K2 : cs → Prop}
theorem one_shl {n : Nat} (h : n ≤ 16) : ((1 : Int32) <<< (nI n &&& 31 : Int32) : Int32) = nI (2 ^ n) := by
  have : ∀ j : Fin 17, ((1 : Int32) <<< (nI j.val &&& 31 : Int32) : Int32) = nI (2 ^ j.val) := by decide +kernel
  exact this ⟨n, by omega⟩
/-- the bits of a number -/
def nbv (x : Int32) : Int32 := if 0 ≤ x then x else (x + ((1 : Int32) <<< (bf x &&& 31 : Int32) : Int32)) - 1
theorem nbv_B {x : Int32} (hb : B (-8191) 8191 x) : 0 ≤ (nbv x).toInt ∧ (nbv x).toInt < 2 ^ blx x ∧ blx x ≤ 13 := by
  have h1 := hb.1
  have h2 := hb.2
  have z0 : (0 : Int32).toInt = 0 := by decide
  have b13 : blx x ≤ 13 := blx_le (m := 13) (by show x.toInt.natAbs < 8192; omega)
  have lt : x.toInt.natAbs < 2 ^ blx x := bl_le.mp (Nat.le_refl _)
  have ltI : ((x.toInt.natAbs : Nat) : Int) < 2 ^ blx x := by
    have : ((x.toInt.natAbs : Nat) : Int) < ((2 ^ blx x : Nat) : Int) := Int.ofNat_lt.mpr lt
    push_cast at this
    exact this
  refine ⟨?_, ?_, b13⟩ <;> unfold nbv <;> by_cases c : 0 ≤ x
  · rw [if_pos c]
    have := i_le c
    omega
  · have c2 := i_lt (nle_lt c)
    have p13 : 2 ^ blx x ≤ 8192 := Nat.le_trans (Nat.pow_le_pow_right (by decide) b13) (by decide)
    have eI : (nI (2 ^ blx x)).toInt = ((2 ^ blx x : Nat) : Int) := nI_toInt (by omega)
    rw [if_neg c, bf_n, one_shl (by omega), t_sub (a := -8191) (b := 16383) (c := 1) (d := 1) ?_ ⟨by decide, by decide⟩ (by decide) (by decide), t_add (c := 0) (d := 8192) hb ⟨by rw [eI]; omega, by rw [eI]; omega⟩ (by decide) (by decide), eI]
    · have : (1 : Int32).toInt = 1 := by decide
      rw [this]
      push_cast
      omega
    · refine B_w (B_add (c := 0) (d := 8192) hb ⟨by rw [eI]; omega, by rw [eI]; omega⟩ (by decide) (by decide)) (by decide) (by decide)
  · rw [if_pos c]
    have := i_le c
    omega
  · have c2 := i_lt (nle_lt c)
    have p13 : 2 ^ blx x ≤ 8192 := Nat.le_trans (Nat.pow_le_pow_right (by decide) b13) (by decide)
    have eI : (nI (2 ^ blx x)).toInt = ((2 ^ blx x : Nat) : Int) := nI_toInt (by omega)
    rw [if_neg c, bf_n, one_shl (by omega), t_sub (a := -8191) (b := 16383) (c := 1) (d := 1) ?_ ⟨by decide, by decide⟩ (by decide) (by decide), t_add (c := 0) (d := 8192) hb ⟨by rw [eI]; omega, by rw [eI]; omega⟩ (by decide) (by decide), eI]
    · have : (1 : Int32).toInt = 1 := by decide
      rw [this]
      push_cast
      omega
    · refine B_w (B_add (c := 0) (d := 8192) hb ⟨by rw [eI]; omega, by rw [eI]; omega⟩ (by decide) (by decide)) (by decide) (by decide)
/-- number(false, x, bitsOf(x)) -/
theorem q_number0 {x : Int32} (h : p_number 0 x (bf x) M K1) : p_putBits (nbv x) (nI (blx x)) M K1 := by
  unfold p_number at h
  have h := h.2 rfl
  unfold nbv
  by_cases c : 0 ≤ x
  · rw [if_pos c]
    have h := h.1 c
    unfold b_number_20 b_number_24 at h
    exact h
  · rw [if_neg c]
    have h := h.2 c
    unfold b_number_20 b_number_24 at h
    exact h
theorem q_number1 {x w : Int32} (h : p_number 1 x w M K1) : K1 M := by
  unfold p_number at h
  have h := h.1 (by decide)
  unfold b_number_24 at h
  exact h
theorem put0 (h : K1 M) : p_putBits 0 (nI 0) M K1 := by
  unfold p_putBits
  refine ⟨fun _ y3 T => y3 = -1 ∧ T = M, fun _ _ _ => 0, ⟨by decide, rfl⟩, ?_⟩
  rintro _ _ _ ⟨rfl, rfl⟩
  unfold b_putBits_4
  exact ⟨fun _ => h, fun q => absurd (by decide) q⟩
/-- writing nothing leaves all as it was, but for bits that don't count -/
theorem q_w0 {M : ms} (hw : wr M F) (h2 : p_Pa_writeBits UL 4 0 (nI 0) (F, L, PC a b P) K2) : ∃ F', agc [410, 411, 501] [6] F F' ∧ wr M F' ∧ K2 (F', L, PC a b P) := by
  obtain ⟨M', F', -, h3, h4, rfl, h6⟩ := x_bits (K1 := fun M' => M' = M) (n := 0) (by decide) (by decide) (by decide) hw (put0 rfl) h2
  exact ⟨F', h3, h4, h6⟩
theorem n257 {c s : Nat} : ((257 * nI c) + nI s : Int32) = nI (257 * c + s) := by
  rw [show (257 : Int32) = nI 257 from rfl, pk_mul, nI_add]
/-- what stands in the counting walk: a symbol -/
theorem x_sym1 {m c s : Nat} {x : Int32} (hc : c ≤ 3) (hs : s < 256) (hr : rCnt m M F) (h9 : ¬ F 4 9 = 0) (h1 : p_symbol 1 (nI c) (nI s) M K1) (h2 : p_Pa_writeSymbol UL 4 (oc c) (nI s) x (F, L, PC a b P) K2) :
    ∃ M' F', ag [] [26] M M' ∧ (∀ v, v ≠ oc c + 1 → F' v = F v) ∧ rCnt m M' F' ∧ K1 M' ∧ K2 (F', L, PC a b P) := by
  have ho : isOc (oc c) := oc_4 hc
  unfold p_symbol at h1
  obtain ⟨-, -, h1⟩ := h1.2 (by decide)
  unfold b_symbol_51 at h1
  rw [n257, nI_clamp (by omega)] at h1
  unfold p_Pa_writeSymbol at h2
  rcases q_isWithin h2 with ⟨-, -, h2⟩ | ⟨d, -⟩
  · have h2 := h2.1 (by decide)
    obtain ⟨-, -, -, -, -, h2⟩ := h2.2 h9
    dsimp only at h2
    rw [op0 ho, nI_clamp (by omega)] at h2
    refine ⟨_, _, ag_r ag_refl rfl, fun v hv => vu_ne hv, fun c' s' hc' hs' => ?_, h1, h2⟩
    show va_up F (oc c + 1) (upd (F (oc c + 1)) s (F (oc c + 1) s + 1)) (oc c' + 1) s' = va_up M.2.1 26 (upd (M.2.1 26) (257 * c + s) (M.2.1 26 (257 * c + s) + 1)) 26 (257 * c' + s')
    rw [vu_at]
    by_cases e : c' = c
    · subst e
      rw [vu_at]
      by_cases e2 : s' = s
      · subst e2
        rw [upd_at, upd_at, hr c' s' hc' hs']
      · rw [upd_ne e2, upd_ne (by omega)]
        exact hr c' s' hc' hs'
    · rw [upd_ne (by omega), vu_ne ?_]
      · exact hr c' s' hc' hs'
      · have q1 : c = 0 ∨ c = 1 ∨ c = 2 ∨ c = 3 := by omega
        have q2 : c' = 0 ∨ c' = 1 ∨ c' = 2 ∨ c' = 3 := by omega
        rcases q1 with rfl | rfl | rfl | rfl <;> rcases q2 with rfl | rfl | rfl | rfl <;> first | decide | exact absurd rfl e
  · have z0 : (0 : Int32).toInt = 0 := by decide
    have z1 : (255 : Int32).toInt = 255 := by decide
    rw [nI_toInt (by omega)] at d
    omega
/-- in the writing walk: a symbol and its number -/
theorem x_sym0 {m c s : Nat} {x : Int32} (hc : c < m) (hm : m ≤ 4) (hs : s < 256) (hw : wr M F) (hr : rCod m M F) (hb : B (-8191) 8191 x) (hbl : blx x = s % 16) (hl : 0 < (M.2.1 27 (257 * c + s)).toInt) (h9 : F 4 9 = 0) (h1 : p_symbol 0 (nI c) (nI s) M (fun Z => p_putBits (nbv x) (nI (blx x)) Z K1)) (h2 : p_Pa_writeSymbol UL 4 (oc c) (nI s) x (F, L, PC a b P) K2) :
    ∃ M' F', ag [9, 32, 33] [8] M M' ∧ agc [410, 411, 501] [6] F F' ∧ wr M' F' ∧ K1 M' ∧ K2 (F', L, PC a b P) := by
  have ho : isOc (oc c) := oc_4 (by omega)
  obtain ⟨r1, r2, r3, r4⟩ := hr c s hc hs
  obtain ⟨r5, r6, r7⟩ := r4 hl
  unfold p_symbol at h1
  obtain ⟨-, -, h1⟩ := h1.1 rfl
  unfold b_symbol_51 at h1
  rw [n257, nI_clamp (by omega), nI_i r2] at h1
  unfold p_Pa_writeSymbol at h2
  rcases q_isWithin h2 with ⟨-, -, h2⟩ | ⟨d, -⟩
  · have h2 := h2.1 (by decide)
    obtain ⟨-, -, -, -, -, -, -, h2⟩ := h2.1 h9
    dsimp only at h2
    rw [op1 ho, op2 ho, nI_clamp (by omega), r1, r5, nI_i r2] at h2
    obtain ⟨Z, G, a1, a2, a3, h1, h2⟩ := x_bits (by omega) r6 r7 hw h1 h2
    have es : (nI s - nI s / 16 * 16 : Int32) = nI (s % 16) := pk_rem (d := 16) (by omega) (by decide) (by decide)
    rw [es, ← hbl] at h2
    have h2 : p_Pa_writeBits UL 4 (nbv x) (nI (blx x)) (G, L, PC a b P) (fun S71 => K2 S71) := by
      unfold nbv
      by_cases c9 : 0 ≤ x
      · rw [if_pos c9]
        have h2 := h2.1 c9
        unfold b_Pa_writeSymbol_69 at h2
        exact h2
      · rw [if_neg c9]
        have h2 := h2.2 c9
        unfold b_Pa_writeSymbol_69 at h2
        exact h2
    obtain ⟨q1, q2, q3⟩ := nbv_B hb
    obtain ⟨Z2, G2, d1, d2, d3, h1, h2⟩ := x_bits (by omega) q1 q2 a3 h1 h2
    exact ⟨Z2, G2, ag_tr a1 d1 rfl rfl, agc_tr a2 d2 rfl rfl, d3, h1, h2⟩
  · have z0 : (0 : Int32).toInt = 0 := by decide
    have z1 : (255 : Int32).toInt = 255 := by decide
    rw [nI_toInt (by omega)] at d
    omega
/-- a symbol that has no number (0 and 240) -/
theorem x_symz {m c s : Nat} (hc : c < m) (hm : m ≤ 4) (hs : s < 256) (hs0 : s % 16 = 0) (hw : wr M F) (hr : rCod m M F) (hl : 0 < (M.2.1 27 (257 * c + s)).toInt) (h9 : F 4 9 = 0) (h1 : p_symbol 0 (nI c) (nI s) M K1) (h2 : p_Pa_writeSymbol UL 4 (oc c) (nI s) 0 (F, L, PC a b P) K2) :
    ∃ M' F', ag [9, 32, 33] [8] M M' ∧ agc [410, 411, 501] [6] F F' ∧ wr M' F' ∧ K1 M' ∧ K2 (F', L, PC a b P) := by
  have b0 : blx 0 = 0 := by decide
  refine x_sym0 (x := 0) hc hm hs hw hr ⟨by decide, by decide⟩ (by rw [b0, hs0]) hl h9 ?_ h2
  have e : (fun Z => p_putBits (nbv 0) (nI (blx 0)) Z K1) = fun Z => p_putBits 0 (nI 0) Z K1 := by
    funext Z
    rw [b0]
    rfl
  rw [e]
  refine d_p_symbol h1 (fun Z hk hi => (hi _).mpr (put0 hk))
end NUM

/-! a block's symbols are counted: both sides at once -/
/-- all symbols of the rests of a block are Q's: m levels are left, z zeros came before them -/
def acQ (Q : Nat → Prop) (h : Nat → Int32) : Nat → Nat → Prop
  | 0, z => 0 < z → Q 0
  | m + 1, z => if h (63 - m) = 0 then acQ Q h m (z + 1) else (16 ≤ z → Q 240) ∧ Q (16 * (z % 16) + blx (h (63 - m))) ∧ acQ Q h m 0
theorem acQ_z {Q : Nat → Prop} {h : Nat → Int32} {k z : Nat} (hk : k < 64) (h0 : h k = 0) : acQ Q h (64 - k) z = acQ Q h (64 - (k + 1)) (z + 1) := by
  rw [show 64 - k = (63 - k) + 1 by omega, show 64 - (k + 1) = 63 - k by omega]
  show (if h (63 - (63 - k)) = 0 then _ else _) = _
  rw [show 63 - (63 - k) = k by omega, if_pos h0]
theorem acQ_n {Q : Nat → Prop} {h : Nat → Int32} {k z : Nat} (hk : k < 64) (h0 : ¬ h k = 0) : acQ Q h (64 - k) z = ((16 ≤ z → Q 240) ∧ Q (16 * (z % 16) + blx (h k)) ∧ acQ Q h (64 - (k + 1)) 0) := by
  rw [show 64 - k = (63 - k) + 1 by omega, show 64 - (k + 1) = 63 - k by omega]
  show (if h (63 - (63 - k)) = 0 then _ else _) = _
  rw [show 63 - (63 - k) = k by omega, if_neg h0]
/-- the units that the walks over the blocks leave alone -/
def fwk (F G : cF) : Prop := (∀ v, OB v = false → v ≠ 6 → v ≠ 58 → v ≠ 34 → v ≠ 47 → v ≠ 40 → v ≠ 53 → G v = F v) ∧ (∀ v k, OB v = true → v ≠ 4 → v ≠ 5 → k < 100 → G v k = F v k) ∧ ∀ k, k ≠ 10 → k ≠ 11 → k < 100 → G 4 k = F 4 k
theorem fwk_refl {F : cF} : fwk F F := ⟨fun _ _ _ _ _ _ _ _ => rfl, fun _ _ _ _ _ _ => rfl, fun _ _ _ _ => rfl⟩
theorem fwk_tr {F G H : cF} (h : fwk F G) (h' : fwk G H) : fwk F H := ⟨fun v o a1 a2 a3 a4 a5 a6 => (h'.1 v o a1 a2 a3 a4 a5 a6).trans (h.1 v o a1 a2 a3 a4 a5 a6), fun v k o a1 a2 a3 => (h'.2.1 v k o a1 a2 a3).trans (h.2.1 v k o a1 a2 a3), fun k a1 a2 a3 => (h'.2.2 k a1 a2 a3).trans (h.2.2 k a1 a2 a3)⟩
theorem fwk_u {F G : cF} {w : Nat} (hw : w = 6 ∨ w = 58 ∨ w = 34 ∨ w = 47 ∨ w = 40 ∨ w = 53) (h : ∀ v, v ≠ w → G v = F v) : fwk F G := by
  refine ⟨fun v _ a1 a2 a3 a4 a5 a6 => h v (by omega), fun v k o _ _ _ => ?_, fun k _ _ _ => by rw [h 4 (by omega)]⟩
  rw [h v ?_]
  intro e
  rw [e] at o
  rcases hw with rfl | rfl | rfl | rfl | rfl | rfl <;> exact absurd o (by decide)
theorem fwk_o {F G : cF} {c : Nat} (hc : c ≤ 3) (h : ∀ v, v ≠ oc c + 1 → G v = F v) : fwk F G := by
  refine fwk_u ?_ h
  have q : c = 0 ∨ c = 1 ∨ c = 2 ∨ c = 3 := by omega
  rcases q with rfl | rfl | rfl | rfl <;> decide
theorem fwk_w {F G : cF} (h : agc [410, 411, 501] [6] F G) : fwk F G := by
  have no : ∀ n : Nat, n ≠ 410 → n ≠ 411 → n ≠ 501 → [410, 411, 501].contains n = false := fun n h1 h2 h3 => by
    simp only [List.contains_cons, List.contains_nil, Bool.or_false, Bool.or_eq_false_iff, beq_eq_false_iff_ne]
    exact ⟨h1, h2, h3⟩
  refine ⟨fun v o a1 _ _ _ _ _ => h.2 v o ?_, fun v k o a1 a2 a3 => h.1 v k o (no _ (by omega) (by omega) (by omega)), fun k a1 a2 a3 => h.1 4 k rfl (no _ (by omega) (by omega) (by omega))⟩
  simp only [List.contains_cons, List.contains_nil, Bool.or_false, beq_eq_false_iff_ne]
  exact a1
/-- what the counting walk keeps: both sides have counted alike, so far at most n times each -/
def ctI (m n : Nat) (M : ms) (F : cF) : Prop := rCnt m M F ∧ (¬ F 4 9 = 0 ∧ F 4 11 = 0) ∧ ∀ j, 0 ≤ (M.2.1 26 j).toInt ∧ (M.2.1 26 j).toInt ≤ n ∧ (255 ≤ j % 257 ∨ 257 * m ≤ j → (M.2.1 26 j).toInt = 0)
/-- counts only grow -/
def cgr (M M' : ms) : Prop := ∀ j, (M.2.1 26 j).toInt ≤ (M'.2.1 26 j).toInt
theorem cgr_tr {M M' M'' : ms} (h : cgr M M') (h' : cgr M' M'') : cgr M M'' := fun j => Int.le_trans (h j) (h' j)
section COUNT
variable {S : ms} {F : cF} {L : cL} {a b : Bool} {P : Nat → Nat → Nat} {m : Nat}
theorem x_cs {K1 : ms → Prop} {K2 : cs → Prop} {n c s : Nat} {x : Int32} (hc : c ≤ 3) (hcm : c < m) (hs : s < 255) (hn : n < 100000) (hI : ctI m n S F) (h1 : p_symbol 1 (nI c) (nI s) S K1) (h2 : p_Pa_writeSymbol UL 4 (oc c) (nI s) x (F, L, PC a b P) K2) :
    ∃ M' F', ag [] [26] S M' ∧ fwk F F' ∧ F' 58 = F 58 ∧ ctI m (n + 1) M' F' ∧ cgr S M' ∧ 0 < (M'.2.1 26 (257 * c + s)).toInt ∧ K1 M' ∧ K2 (F', L, PC a b P) := by
  obtain ⟨i1, i2, i3⟩ := hI
  have ex : ∃ M', p_symbol 1 (nI c) (nI s) S (fun Z => Z = M' ∧ K1 Z) ∧ M'.2.1 26 = upd (S.2.1 26) (257 * c + s) (S.2.1 26 (257 * c + s) + 1) := by
    unfold p_symbol at h1 ⊢
    have h := h1.2 (by decide)
    obtain ⟨v1, v2, h⟩ := h
    unfold b_symbol_51 at h
    refine ⟨(S.1, va_up S.2.1 26 (upd (S.2.1 26) ((257 * nI c) + nI s : Int32).toNatClampNeg (S.2.1 26 ((257 * nI c) + nI s : Int32).toNatClampNeg + 1)), S.2.2), ⟨fun q => absurd q (by decide), fun _ => ⟨v1, v2, ?_⟩⟩, ?_⟩
    · unfold b_symbol_51
      exact ⟨rfl, h⟩
    · show va_up S.2.1 26 (upd (S.2.1 26) ((257 * nI c) + nI s : Int32).toNatClampNeg (S.2.1 26 ((257 * nI c) + nI s : Int32).toNatClampNeg + 1)) 26 = _
      rw [vu_at, n257, nI_clamp (by omega)]
  obtain ⟨M0, h1, e26⟩ := ex
  obtain ⟨M', F', a1, a2, a3, ⟨rfl, k1⟩, k2⟩ := x_sym1 hc (by omega) i1 i2.1 h1 h2
  have fo := fwk_o hc a2
  have one : ∀ j, (M'.2.1 26 j).toInt = (S.2.1 26 j).toInt + (if j = 257 * c + s then 1 else 0) := by
    intro j
    rw [e26]
    by_cases e : j = 257 * c + s
    · rw [e, upd_at, if_pos rfl]
      have := i3 (257 * c + s)
      rw [t_add (a := 0) (b := 100000) (c := 1) (d := 1) ⟨by omega, by omega⟩ ⟨by decide, by decide⟩ (by decide) (by decide)]
      rfl
    · rw [upd_ne e, if_neg e]
      omega
  have n58 : 58 ≠ oc c + 1 ∧ 4 ≠ oc c + 1 := by
    have q : c = 0 ∨ c = 1 ∨ c = 2 ∨ c = 3 := by omega
    rcases q with q | q | q | q <;> (rw [q]; decide)
  refine ⟨M', F', a1, fo, a2 58 n58.1, ⟨a3, by rw [a2 4 n58.2]; exact i2, fun j => ?_⟩, fun j => ?_, ?_, k1, k2⟩
  · have h1 := one j
    have h2 := i3 j
    split at h1 <;> omega
  · have h1 := one j
    split at h1 <;> omega
  · have h1 := one (257 * c + s)
    rw [if_pos rfl] at h1
    have := i3 (257 * c + s)
    omega
variable {K1 : ms → Prop} {K2 : cs → Prop} {l bk c fs : Nat}
/-- a level that is no zero, and the zeros before it -/
theorem x_run1 {R74 : Int32 → Int32 → Int32 → Int32 → Int32 → Int32 → ms → Prop} {R80 : Int32 → Nat → Int32 → Int32 → cs → Prop} {z k n : Nat} {v : Int32} (hc : c ≤ 2) (hcm : c + 1 < m) (hz : z < 64) (hk : k < 64) (hv : B (-2049) 2049 v) (hn : n + 64 < 100000) (hI : ctI m n S F)
    (h1 : e_tell_107 1 (nI l) (nI bk) (nI c) (nI z) (nI k) v S R74 K1) (h2 : e_Pa_writeBlock_112 UL 4 (nI fs) (oc (c + 1)) (nI z) (nI k) v (F, L, PC a b P) R80 K2) :
    ∃ M' F', ag [] [26] S M' ∧ fwk F F' ∧ F' 58 = F 58 ∧ ctI m (n + z + 1) M' F' ∧ cgr S M' ∧ (16 ≤ z → 0 < (M'.2.1 26 (257 * (c + 1) + 240)).toInt) ∧ 0 < (M'.2.1 26 (257 * (c + 1) + (16 * (z % 16) + blx v))).toInt ∧ R74 1 (nI l) (nI bk) (nI c) 0 (nI k + 1) M' ∧ R80 (nI fs) (oc (c + 1)) 0 (nI k + 1) (F', L, PC a b P) := by
  have hv8 : B (-8191) 8191 v := B_w hv (by decide) (by decide)
  have h12 : blx v ≤ 12 := blx_le (m := 12) (by have := hv.1; have := hv.2; show v.toInt.natAbs < 4096; omega)
  refine v_e_tell_107 h1 (fun y7 T => ∃ q d G, y7 = nI q ∧ q + 16 * d = z ∧ e_Pa_writeBlock_112 UL 4 (nI fs) (oc (c + 1)) (nI q) (nI k) v (G, L, PC a b P) R80 K2 ∧ ag [] [26] S T ∧ fwk F G ∧ G 58 = F 58 ∧ ctI m (n + d) T G ∧ cgr S T ∧ (1 ≤ d → 0 < (T.2.1 26 (257 * (c + 1) + 240)).toInt)) ⟨z, 0, F, rfl, by omega, h2, ag_refl, fwk_refl, rfl, hI, fun _ => Int.le_refl _, fun q => absurd q (by decide)⟩ ?_
  rintro y7 T R ⟨q, d, G, rfl, hq, h2, ha, hf, h58, hI, hg, hd⟩ hb
  unfold b_tell_107 at hb
  have h2 := r_e_Pa_writeBlock_112 h2
  unfold b_Pa_writeBlock_112 at h2
  rw [show (1 : Int32) = nI 1 from rfl, nI_add, show nI 1 = (1 : Int32) from rfl] at hb
  by_cases e : q ≤ 15
  · right
    have hb := q_bitsOf hv8 (hb.1 (nI_le (b := 15) e (by decide)))
    have h2 := q_Pbits hv8 (h2.1 (nI_lt (b := 16) (by omega) (by decide)))
    rw [bf_n, show ((16 * nI q) + nI (blx v) : Int32) = nI (16 * q + blx v) from by rw [show (16 : Int32) = nI 16 from rfl, pk_mul, nI_add]] at hb h2
    obtain ⟨M', F', b1, b2, b3, b4, b5, b6, k1, k2⟩ := x_cs (by omega) hcm (by omega) (by omega) hI hb h2
    have k1 := q_bitsOf hv8 k1
    have k1 := q_number1 k1
    unfold b_tell_167 at k1
    unfold b_Pa_writeBlock_157 at k2
    refine ⟨M', F', ag_tr ha b1 rfl rfl, fwk_tr hf b2, b3.trans h58, ⟨b4.1, b4.2.1, fun j => ?_⟩, cgr_tr hg b5, fun q16 => ?_, ?_, k1, k2⟩
    · have := b4.2.2 j
      omega
    · have := hd (by omega)
      have := b5 (257 * (c + 1) + 240)
      omega
    · rw [show z % 16 = q by omega]
      exact b6
  · left
    have hb := hb.2 (nI_ge (a := 15) (by omega) (by omega))
    have h2 := h2.2 (nI_nlt (b := 16) (by omega) (by omega))
    rw [show (240 : Int32) = nI 240 from rfl] at hb h2
    obtain ⟨M', F', b1, b2, b3, b4, b5, b6, k1, k2⟩ := x_cs (by omega) hcm (by decide) (by omega) hI hb h2
    have e16 : (nI q + (-16) : Int32) = nI (q - 16) := by
      rw [show (-16 : Int32) = -(nI 16) from rfl, ← Int32.sub_eq_add_neg, pk_sub (by omega)]
    rw [e16] at k1 k2
    exact ⟨_, _, k1, q - 16, d + 1, F', rfl, by omega, k2, ag_tr ha b1 rfl rfl, fwk_tr hf b2, b3.trans h58, by rw [← Nat.add_assoc]; exact b4, cgr_tr hg b5, fun _ => b6⟩
/-- the rests of a block -/
theorem x_ac1 {n : Nat} {h : Nat → Int32} (hc : c ≤ 2) (hcm : c + 1 < m) (hl : l < 3) (hbk : bk < 64) (hfs : fs = 64 * (64 * l + bk)) (hn : n + 200 < 100000) (hh : ∀ k, k < 64 → S.2.1 19 (fs + k) = h k ∧ B (-2049) 2049 (h k)) (hF : ∀ k, k < 64 → F 19 (fs + k) = h k) (hI : ctI m n S F)
    (h1 : e_tell_74 1 (nI l) (nI bk) (nI c) 0 1 S K1) (h2 : e_Pa_writeBlock_80 UL 4 (nI fs) (oc (c + 1)) 0 1 (F, L, PC a b P) K2) :
    ∃ M' F', ag [] [26] S M' ∧ fwk F F' ∧ F' 58 = F 58 ∧ ctI m (n + 64) M' F' ∧ cgr S M' ∧ acQ (fun s => 0 < (M'.2.1 26 (257 * (c + 1) + s)).toInt) h 63 0 ∧ K1 M' ∧ K2 (F', L, PC a b P) := by
  refine v_e_tell_74 h1 (fun y7 y8 T => ∃ z k G, y7 = nI z ∧ y8 = nI k ∧ 1 ≤ k ∧ k ≤ 64 ∧ z < k ∧ e_Pa_writeBlock_80 UL 4 (nI fs) (oc (c + 1)) (nI z) (nI k) (G, L, PC a b P) K2 ∧ ag [] [26] S T ∧ fwk F G ∧ G 58 = F 58 ∧ ctI m (n + (k - z - 1)) T G ∧ cgr S T ∧ ∀ Q : Nat → Prop, (∀ s, 0 < (T.2.1 26 (257 * (c + 1) + s)).toInt → Q s) → acQ Q h (64 - k) z → acQ Q h 63 0) ⟨0, 1, F, rfl, rfl, by decide, by decide, by decide, h2, ag_refl, fwk_refl, rfl, hI, fun _ => Int.le_refl _, fun _ _ q => q⟩ ?_
  rintro y7 y8 T R ⟨z, k, G, rfl, rfl, hk1, hk, hz, h2, ha, hf, h58, hI, hg, ht⟩ hb
  unfold b_tell_74 at hb
  have h2 := r_e_Pa_writeBlock_80 h2
  unfold b_Pa_writeBlock_80 at h2
  by_cases e : k = 64
  · right
    subst e
    have hb := hb.1 (Int32.le_refl _)
    have h2 := h2.1 (Int32.le_refl _)
    by_cases e0 : z = 0
    · subst e0
      have hb := hb.1 (by decide)
      have h2 := h2.1 (by decide)
      refine ⟨T, G, ha, hf, h58, ⟨hI.1, hI.2.1, fun j => ?_⟩, hg, ht _ (fun s hs => hs) (fun q => absurd q (by decide)), hb, h2⟩
      have := hI.2.2 j
      omega
    · have hb := hb.2 (nI_nle (by omega) (by omega))
      have h2 := h2.2 (nI_nle (by omega) (by omega))
      rw [show (1 : Int32) = nI 1 from rfl, nI_add, show nI 1 = (1 : Int32) from rfl, show (0 : Int32) = nI 0 from rfl] at hb
      rw [show (0 : Int32) = nI 0 from rfl] at h2
      obtain ⟨M', F', b1, b2, b3, b4, b5, b6, k1, k2⟩ := x_cs (by omega) hcm (by decide) (by omega) hI hb h2
      refine ⟨M', F', ag_tr ha b1 rfl rfl, fwk_tr hf b2, b3.trans h58, ⟨b4.1, b4.2.1, fun j => ?_⟩, cgr_tr hg b5, ht _ (fun s hs => Int.lt_of_lt_of_le hs (b5 _)) (fun _ => b6), k1, k2⟩
      have := b4.2.2 j
      omega
  · left
    have hb := hb.2 (nI_ge (b := 64) (by omega) (by decide))
    unfold p_levelCell at hb
    obtain ⟨-, hb⟩ := hb
    rw [cellN (by omega) (by omega) (by omega), ← hfs, nI_clamp (by omega), show T.2.1 19 = S.2.1 19 from ha.2 19 rfl, (hh k (by omega)).1] at hb
    obtain ⟨-, -, -, -, -, h2⟩ := h2.2 (nI_ge (b := 64) (by omega) (by decide))
    have h2 : (¬ G 19 (nI fs + nI k : Int32).toNatClampNeg = 0 → _) ∧ (G 19 (nI fs + nI k : Int32).toNatClampNeg = 0 → _) := h2
    have g19 : G 19 = F 19 := hf.1 19 rfl (by decide) (by decide) (by decide) (by decide) (by decide) (by decide)
    by_cases e0 : h k = 0
    · have hb := hb.2 e0
      have h2 := h2.2 (by rw [nI_add, nI_clamp (by omega), g19, hF k (by omega)]; exact e0)
      unfold b_tell_167 at hb
      unfold b_Pa_writeBlock_157 at h2
      rw [nI_1] at hb h2
      refine ⟨_, _, _, hb, z + 1, k + 1, G, rfl, nI_1 k, by omega, by omega, by omega, ?_, ha, hf, h58, by rw [show k + 1 - (z + 1) - 1 = k - z - 1 by omega]; exact hI, hg, fun Q hQ q => ht Q hQ ?_⟩
      · rw [← nI_1 k]
        exact h2
      · rw [acQ_z (by omega) e0]
        exact q
    · have hb := hb.1 e0
      have h2 := h2.1 (by rw [nI_add, nI_clamp (by omega), g19, hF k (by omega)]; exact e0)
      have h2 : e_Pa_writeBlock_112 UL 4 (nI fs) (oc (c + 1)) (nI z) (nI k) (G 19 (nI fs + nI k : Int32).toNatClampNeg) (G, L, PC a b P) _ K2 := h2
      rw [nI_add, nI_clamp (by omega), g19, hF k (by omega)] at h2
      obtain ⟨M', F', b1, b2, b3, b4, b5, b6, b7, k1, k2⟩ := x_run1 hc hcm (by omega) (by omega) (hh k (by omega)).2 (by omega) hI hb h2
      refine ⟨_, _, _, k1, 0, k + 1, F', rfl, nI_1 k, by omega, by omega, by omega, ?_, ag_tr ha b1 rfl rfl, fwk_tr hf b2, b3.trans h58, by rw [show n + (k + 1 - 0 - 1) = n + (k - z - 1) + z + 1 by omega]; exact b4, cgr_tr hg b5, fun Q hQ q => ht Q (fun s hs => hQ s (Int.lt_of_lt_of_le hs (b5 _))) ?_⟩
      · rw [← nI_1 k]
        exact k2
      · rw [acQ_n (by omega) e0]
        exact ⟨fun q16 => hQ _ (b6 q16), hQ _ b7, q⟩
end COUNT

/-! a block's symbols are counted, or written: all of the block -/
section BLK
variable {S : ms} {F : cF} {L : cL} {a b : Bool} {P : Nat → Nat → Nat} {K1 : ms → Prop} {K2 : cs → Prop} {l bk : Nat}
/-- the first code of layer l -/
def clz (l : Nat) : Nat := if l = 0 then 0 else 2
theorem oc_st {v : Int32} (h : v = if l = 0 then 0 else 1) : PC a b P 32 v.toNatClampNeg = oc (clz l) ∧ PC a b P 45 v.toNatClampNeg = oc (clz l + 1) := by
  by_cases e : l = 0
  · rw [h, e, if_pos rfl]
    exact ⟨rfl, rfl⟩
  · rw [h, if_neg e]
    unfold clz
    rw [if_neg e]
    exact ⟨rfl, rfl⟩
theorem q_kindOf {K : Int32 → Prop} (hl : l < 3) (h : p_Pa_kindOf (nI l) K) : K (if l = 0 then 0 else 1) := by
  unfold p_Pa_kindOf b_Pa_kindOf_9 at h
  by_cases e : l = 0
  · rw [if_pos e]
    exact h.2 (by rw [e]; rfl)
  · rw [if_neg e]
    exact h.1 (nI_ne0 (by omega) (by omega))
/-- the head of a block on the class's side -/
theorem q_wb (hl : l < 3) (hbk : bk < 64) (hb : B (-8191) 8191 (F 19 (64 * (64 * l + bk)) - F 58 l)) (h : p_Pa_writeBlock UL 4 (nI (64 * l + bk)) (F, L, PC a b P) K2) :
    p_Pa_writeSymbol UL 4 (oc (clz l)) (nI (blx (F 19 (64 * (64 * l + bk)) - F 58 l))) (F 19 (64 * (64 * l + bk)) - F 58 l) (va_up F 58 (upd (F 58) l (F 19 (64 * (64 * l + bk)))), L, PC a b P) (fun S60 => S60.2.2 = PC a b P → e_Pa_writeBlock_80 UL 4 (nI (64 * (64 * l + bk))) (oc (clz l + 1)) 0 1 S60 K2) := by
  have d64 : (nI (64 * l + bk) / 64 : Int32) = nI l := by
    rw [show (64 : Int32) = nI 64 from rfl, pk_div (by omega) (by decide) (by decide), show (64 * l + bk) / 64 = l by omega]
  have m64 : (64 * nI (64 * l + bk) : Int32) = nI (64 * (64 * l + bk)) := by
    rw [show (64 : Int32) = nI 64 from rfl, pk_mul]
  unfold p_Pa_writeBlock at h
  obtain ⟨-, -, -, -, -, -, -, -, -, -, -, -, -, -, h⟩ := h
  rw [d64, m64] at h
  have h := q_kindOf hl h
  obtain ⟨-, -, -, h⟩ := h
  rw [nI_clamp (show 64 * (64 * l + bk) < 2 ^ 31 by omega), nI_clamp (show l < 2 ^ 31 by omega)] at h
  have h := q_Pbits (x := F 19 (64 * (64 * l + bk)) - F 58 l) hb h
  have e1 := (oc_st (a := a) (b := b) (P := P) (l := l) (v := if l = 0 then 0 else 1) rfl)
  have h : p_Pa_writeSymbol UL 4 (PC a b P 32 (if l = 0 then 0 else 1 : Int32).toNatClampNeg) (bf (F 19 (64 * (64 * l + bk)) - F 58 l)) (F 19 (64 * (64 * l + bk)) - F 58 l) (va_up F 58 (upd (F 58) l (F 19 (64 * (64 * l + bk)))), L, PC a b P) _ := h
  rw [e1.1, bf_n] at h
  refine d_p_Pa_writeSymbol h (fun Z hk hi => (hi _).mpr (fun hz => ?_))
  obtain ⟨-, hk⟩ := hk
  have hk := q_kindOf hl hk
  obtain ⟨-, -, -, hk⟩ := hk
  rw [hz] at hk
  have hk : e_Pa_writeBlock_80 UL 4 (nI (64 * (64 * l + bk))) (PC a b P 45 (if l = 0 then 0 else 1 : Int32).toNatClampNeg) 0 1 Z K2 := hk
  rw [e1.2] at hk
  exact hk
/-- the head of a block on the reference's side -/
theorem q_tl {i : Int32} (hl : l < 3) (hbk : bk < 64) (hb : B (-8191) 8191 (S.2.1 19 (64 * (64 * l + bk)) - S.2.1 53 l)) (h : p_tell i (nI l) (nI bk) S K1) :
    p_symbol i (nI (clz l)) (nI (blx (S.2.1 19 (64 * (64 * l + bk)) - S.2.1 53 l))) (S.1, va_up S.2.1 53 (upd (S.2.1 53) l (S.2.1 19 (64 * (64 * l + bk)))), S.2.2) (fun Z => p_number i (S.2.1 19 (64 * (64 * l + bk)) - S.2.1 53 l) (bf (S.2.1 19 (64 * (64 * l + bk)) - S.2.1 53 l)) Z (fun Y => e_tell_74 i (nI l) (nI bk) (nI (clz l)) 0 1 Y K1)) := by
  have go : ∀ w : Nat, w = clz l → b_tell_9 i (nI l) (nI bk) (nI w) S K1 → p_symbol i (nI (clz l)) (nI (blx (S.2.1 19 (64 * (64 * l + bk)) - S.2.1 53 l))) (S.1, va_up S.2.1 53 (upd (S.2.1 53) l (S.2.1 19 (64 * (64 * l + bk)))), S.2.2) (fun Z => p_number i (S.2.1 19 (64 * (64 * l + bk)) - S.2.1 53 l) (bf (S.2.1 19 (64 * (64 * l + bk)) - S.2.1 53 l)) Z (fun Y => e_tell_74 i (nI l) (nI bk) (nI (clz l)) 0 1 Y K1)) := by
    intro w hw h
    unfold b_tell_9 p_levelCell at h
    rw [show (0 : Int32) = nI 0 from rfl] at h
    rw [show (nI 0 : Int32) = 0 from rfl] at h
    have ec : ((64 * ((64 * ((3 * 0) + nI l)) + nI bk)) + 0 : Int32).toNatClampNeg = 64 * (64 * l + bk) := by
      have := cellN (l := l) (b := bk) (k := 0) (by omega) (by omega) (by omega)
      rw [show (0 : Int32) = nI 0 from rfl] at this ⊢
      rw [this, nI_clamp (by omega), Nat.add_zero]
    rw [ec, nI_clamp (show l < 2 ^ 31 by omega)] at h
    obtain ⟨-, -, -, h⟩ := h
    have h := q_bitsOf hb h
    rw [bf_n, hw] at h
    refine d_p_symbol h (fun Z hk hi => (hi _).mpr ?_)
    have hk := q_bitsOf hb hk
    rw [← hw]
    rw [← hw] at hk
    exact hk
  unfold p_tell at h
  by_cases e : l = 0
  · exact go 0 (by unfold clz; rw [if_pos e]) (h.2 (by rw [e]; rfl))
  · exact go 2 (by unfold clz; rw [if_neg e]) (h.1 (nI_ne0 (by omega) (by omega)))
/-- the levels of a block -/
abbrev lv (S : ms) (l bk : Nat) : Nat → Int32 := fun k => S.2.1 19 (64 * (64 * l + bk) + k)
/-- all symbols of a block are Q's (Q c s); s0: the start before it -/
def blkQ (Q : Nat → Nat → Prop) (l : Nat) (h : Nat → Int32) (s0 : Int32) : Prop := Q (clz l) (blx (h 0 - s0)) ∧ acQ (Q (clz l + 1)) h 63 0
def rBef (M : ms) (F : cF) : Prop := ∀ j, j < 3 → F 58 j = M.2.1 53 j
def rLev (M : ms) (F : cF) : Prop := ∀ k, k < 12288 → F 19 k = M.2.1 19 k
def lvBd (M : ms) : Prop := ∀ k, k < 12288 → B (-2049) 2049 (M.2.1 19 k)
def stB (M : ms) : Prop := ∀ j, j < 3 → B (-2049) 2049 (M.2.1 53 j)
theorem dif_B {x y : Int32} (hx : B (-2049) 2049 x) (hy : B (-2049) 2049 y) : B (-8191) 8191 (x - y) := B_w (B_sub hx hy (by decide) (by decide)) (by decide) (by decide)
theorem blx13 {x : Int32} (h : B (-8191) 8191 x) : blx x ≤ 13 := blx_le (m := 13) (by have := h.1; have := h.2; show x.toInt.natAbs < 8192; omega)
theorem ctI_st {m n : Nat} {g g' : Nat → Int32} (h : ctI m n S F) : ctI m n (S.1, va_up S.2.1 53 g, S.2.2) (va_up F 58 g') := by
  obtain ⟨h1, h2, h3⟩ := h
  refine ⟨fun c s hc hs => ?_, by rw [vu_ne (by decide)]; exact h2, fun j => ?_⟩
  · show va_up F 58 g' (oc c + 1) s = va_up S.2.1 53 g 26 (257 * c + s)
    have n58 : oc c + 1 ≠ 58 := by
      have q : c = 0 ∨ c = 1 ∨ c = 2 ∨ c = 3 := by omega
      rcases q with q | q | q | q <;> (rw [q]; decide)
    rw [vu_ne n58, vu_ne (show (26 : Nat) ≠ 53 by decide)]
    exact h1 c s hc hs
  · show 0 ≤ (va_up S.2.1 53 g 26 j).toInt ∧ _
    rw [vu_ne (by decide)]
    exact h3 j
theorem fwk_st {g : Nat → Int32} : fwk F (va_up F 58 g) := fwk_u (w := 58) (Or.inr (Or.inl rfl)) (fun v h => vu_ne h)
theorem rBef_st (h : rBef S F) {x : Int32} : rBef (S.1, va_up S.2.1 53 (upd (S.2.1 53) l x), S.2.2) (va_up F 58 (upd (F 58) l x)) := by
  intro j hj
  show va_up F 58 (upd (F 58) l x) 58 j = va_up S.2.1 53 (upd (S.2.1 53) l x) 53 j
  rw [vu_at, vu_at]
  by_cases e : j = l
  · rw [e, upd_at, upd_at]
  · rw [upd_ne e, upd_ne e]
    exact h j hj
/-- one block is counted -/
theorem x_tell1 {m n : Nat} (hcm : clz l + 1 < m) (hl : l < 3) (hbk : bk < 64) (hn : n + 400 < 100000) (hL : rLev S F) (hB : lvBd S) (hst : stB S) (hbf : rBef S F) (hI : ctI m n S F) (h1 : p_tell 1 (nI l) (nI bk) S K1) (h2 : p_Pa_writeBlock UL 4 (nI (64 * l + bk)) (F, L, PC a b P) K2) :
    ∃ M' F', ag [] [26, 53] S M' ∧ M'.2.1 53 = upd (S.2.1 53) l (lv S l bk 0) ∧ fwk F F' ∧ rBef M' F' ∧ ctI m (n + 65) M' F' ∧ cgr S M' ∧ blkQ (fun c s => 0 < (M'.2.1 26 (257 * c + s)).toInt) l (lv S l bk) (S.2.1 53 l) ∧ K1 M' ∧ K2 (F', L, PC a b P) := by
  have e19 : F 19 (64 * (64 * l + bk)) = S.2.1 19 (64 * (64 * l + bk)) := hL _ (by omega)
  have e58 : F 58 l = S.2.1 53 l := hbf l hl
  have bd := dif_B (hB (64 * (64 * l + bk)) (by omega)) (hst l hl)
  have c2 : clz l ≤ 2 := by unfold clz; split <;> decide
  have b13 := blx13 bd
  have h1 := q_tl hl hbk bd h1
  have h2 := q_wb hl hbk (by rw [e19, e58]; exact bd) h2
  rw [e19, e58] at h2
  obtain ⟨Z, G, a1, a2, a3, a4, a5, a6, h1, h2⟩ := x_cs (by omega) (by omega) (by omega) (by omega) (ctI_st hI) h1 h2
  have h1 := q_number1 h1
  have h2 := h2 rfl
  have sz : ∀ r, r ≠ 26 → r ≠ 53 → Z.2.1 r = S.2.1 r := fun r q1 q2 => by
    rw [a1.2 r (by simp only [List.contains_cons, List.contains_nil, Bool.or_false]; exact beq_eq_false_iff_ne.mpr q1)]
    exact vu_ne q2
  have g19 : G 19 = F 19 := by
    rw [a2.1 19 rfl (by decide) (by decide) (by decide) (by decide) (by decide) (by decide)]
    exact vu_ne (by decide)
  obtain ⟨M', F', b1, b2, b3, b4, b5, b6, k1, k2⟩ := x_ac1 (h := lv S l bk) (fs := 64 * (64 * l + bk)) c2 hcm hl hbk rfl (by omega) (fun k hk => ⟨by rw [sz 19 (by decide) (by decide)], hB _ (by omega)⟩) (fun k hk => by rw [g19]; exact hL _ (by omega)) a4 h1 h2
  have r53 : M'.2.1 53 = upd (S.2.1 53) l (lv S l bk 0) := by
    rw [b1.2 53 rfl, a1.2 53 rfl]
    show va_up S.2.1 53 (upd (S.2.1 53) l (S.2.1 19 (64 * (64 * l + bk)))) 53 = _
    exact vu_at
  refine ⟨M', F', ?_, r53, fwk_tr fwk_st (fwk_tr a2 b2), ?_, ⟨b4.1, b4.2.1, fun j => ?_⟩, fun j => ?_, ⟨?_, b6⟩, k1, k2⟩
  · exact ag_tr (ag_tr (ag_r ag_refl rfl) a1 rfl rfl) b1 rfl rfl
  · intro j hj
    rw [b3, a3, r53, vu_at]
    by_cases e : j = l
    · rw [e, upd_at, upd_at]
      rfl
    · rw [upd_ne e, upd_ne e]
      exact hbf j hj
  · have := b4.2.2 j
    omega
  · refine Int.le_trans ?_ (b5 j)
    refine Int.le_trans ?_ (a5 j)
    show (S.2.1 26 j).toInt ≤ (va_up S.2.1 53 (upd (S.2.1 53) l (S.2.1 19 (64 * (64 * l + bk)))) 26 j).toInt
    rw [vu_ne (show (26 : Nat) ≠ 53 by decide)]
    exact Int.le_refl _
  · exact Int.lt_of_lt_of_le a6 (b5 _)
end BLK

/-! a block's symbols are written: both sides at once -/
/-- what the writing walk keeps -/
def wtI (m : Nat) (M : ms) (F : cF) : Prop := wr M F ∧ rCod m M F ∧ F 4 9 = 0
section WRITE
variable {S : ms} {F : cF} {L : cL} {a b : Bool} {P : Nat → Nat → Nat} {m : Nat}
theorem rCod_k {M M' : ms} {G : cF} (h : rCod m M F) (hm : m ≤ 4) (e27 : M'.2.1 27 = M.2.1 27) (e28 : M'.2.1 28 = M.2.1 28) (hf : fwk F G) : rCod m M' G := by
  intro c s hc hs
  have q : c = 0 ∨ c = 1 ∨ c = 2 ∨ c = 3 := by omega
  have f2 : G (oc c + 2) = F (oc c + 2) := by
    rcases q with rfl | rfl | rfl | rfl <;> exact hf.1 _ rfl (by decide) (by decide) (by decide) (by decide) (by decide) (by decide)
  have f3 : G (oc c + 3) = F (oc c + 3) := by
    rcases q with rfl | rfl | rfl | rfl <;> exact hf.1 _ rfl (by decide) (by decide) (by decide) (by decide) (by decide) (by decide)
  rw [f2, f3, e27, e28]
  exact h c s hc hs
theorem wtI_w {M M' : ms} {G : cF} (h : wtI m M F) (hm : m ≤ 4) (hw : wr M' G) (ha : ag [9, 32, 33] [8] M M') (hg : agc [410, 411, 501] [6] F G) : wtI m M' G :=
  ⟨hw, rCod_k h.2.1 hm (ha.2 27 rfl) (ha.2 28 rfl) (fwk_w hg), (hg.1 4 9 rfl rfl).trans h.2.2⟩
/-- a symbol that the code has -/
abbrev inC (M : ms) (c s : Nat) : Prop := 0 < (M.2.1 27 (257 * c + s)).toInt
variable {K1 : ms → Prop} {K2 : cs → Prop} {l bk c fs : Nat}
theorem x_run0 {R74 : Int32 → Int32 → Int32 → Int32 → Int32 → Int32 → ms → Prop} {R80 : Int32 → Nat → Int32 → Int32 → cs → Prop} {z k : Nat} {v : Int32} (hc : c ≤ 2) (hcm : c + 1 < m) (hm : m ≤ 4) (hz : z < 64) (hk : k < 64) (hv : B (-2049) 2049 v) (hI : wtI m S F) (q240 : 16 ≤ z → inC S (c + 1) 240) (qs : inC S (c + 1) (16 * (z % 16) + blx v))
    (h1 : e_tell_107 0 (nI l) (nI bk) (nI c) (nI z) (nI k) v S R74 K1) (h2 : e_Pa_writeBlock_112 UL 4 (nI fs) (oc (c + 1)) (nI z) (nI k) v (F, L, PC a b P) R80 K2) :
    ∃ M' F', ag [9, 32, 33] [8] S M' ∧ agc [410, 411, 501] [6] F F' ∧ wtI m M' F' ∧ R74 0 (nI l) (nI bk) (nI c) 0 (nI k + 1) M' ∧ R80 (nI fs) (oc (c + 1)) 0 (nI k + 1) (F', L, PC a b P) := by
  have hv8 : B (-8191) 8191 v := B_w hv (by decide) (by decide)
  have h12 : blx v ≤ 12 := blx_le (m := 12) (by have := hv.1; have := hv.2; show v.toInt.natAbs < 4096; omega)
  refine v_e_tell_107 h1 (fun y7 T => ∃ q d G, y7 = nI q ∧ q + 16 * d = z ∧ e_Pa_writeBlock_112 UL 4 (nI fs) (oc (c + 1)) (nI q) (nI k) v (G, L, PC a b P) R80 K2 ∧ ag [9, 32, 33] [8] S T ∧ agc [410, 411, 501] [6] F G ∧ wtI m T G) ⟨z, 0, F, rfl, by omega, h2, ag_refl, agc_refl, hI⟩ ?_
  rintro y7 T R ⟨q, d, G, rfl, hq, h2, ha, hf, hI⟩ hb
  have e27 : T.2.1 27 = S.2.1 27 := ha.2 27 rfl
  unfold b_tell_107 at hb
  have h2 := r_e_Pa_writeBlock_112 h2
  unfold b_Pa_writeBlock_112 at h2
  rw [show (1 : Int32) = nI 1 from rfl, nI_add] at hb
  by_cases e : q ≤ 15
  · right
    have hb := q_bitsOf hv8 (hb.1 (nI_le (b := 15) e (by decide)))
    have h2 := q_Pbits hv8 (h2.1 (nI_lt (b := 16) (by omega) (by decide)))
    rw [bf_n, show ((16 * nI q) + nI (blx v) : Int32) = nI (16 * q + blx v) from by rw [show (16 : Int32) = nI 16 from rfl, pk_mul, nI_add]] at hb h2
    have hb : p_symbol 0 (nI (c + 1)) (nI (16 * q + blx v)) T (fun Z => p_putBits (nbv v) (nI (blx v)) Z (fun Y => R74 0 (nI l) (nI bk) (nI c) 0 (nI k + 1) Y)) := by
      refine d_p_symbol hb (fun Z hk hi => (hi _).mpr ?_)
      have hk := q_bitsOf hv8 hk
      have hk := q_number0 hk
      exact hk
    obtain ⟨M', F', b1, b2, b3, k1, k2⟩ := x_sym0 (m := m) (c := c + 1) (s := 16 * q + blx v) (x := v) hcm hm (by omega) hI.1 hI.2.1 hv8 (by omega) (by rw [e27, show q = z % 16 by omega]; exact qs) hI.2.2 hb h2
    unfold b_Pa_writeBlock_157 at k2
    exact ⟨M', F', ag_tr ha b1 rfl rfl, agc_tr hf b2 rfl rfl, wtI_w hI hm b3 b1 b2, k1, k2⟩
  · left
    have hb := hb.2 (nI_ge (a := 15) (by omega) (by omega))
    have h2 := h2.2 (nI_nlt (b := 16) (by omega) (by omega))
    rw [show (240 : Int32) = nI 240 from rfl] at hb h2
    obtain ⟨M', F', b1, b2, b3, k1, k2⟩ := x_symz (m := m) (c := c + 1) (s := 240) hcm hm (by decide) (by decide) hI.1 hI.2.1 (by rw [e27]; exact q240 (by omega)) hI.2.2 hb h2
    have e16 : (nI q + (-16) : Int32) = nI (q - 16) := by
      rw [show (-16 : Int32) = -(nI 16) from rfl, ← Int32.sub_eq_add_neg, pk_sub (by omega)]
    rw [e16] at k1 k2
    exact ⟨_, _, k1, q - 16, d + 1, F', rfl, by omega, k2, ag_tr ha b1 rfl rfl, agc_tr hf b2 rfl rfl, wtI_w hI hm b3 b1 b2⟩
theorem x_ac0 {h : Nat → Int32} (hc : c ≤ 2) (hcm : c + 1 < m) (hm : m ≤ 4) (hl : l < 3) (hbk : bk < 64) (hfs : fs = 64 * (64 * l + bk)) (hh : ∀ k, k < 64 → S.2.1 19 (fs + k) = h k ∧ B (-2049) 2049 (h k)) (hF : ∀ k, k < 64 → F 19 (fs + k) = h k) (hI : wtI m S F) (hQ : acQ (inC S (c + 1)) h 63 0)
    (h1 : e_tell_74 0 (nI l) (nI bk) (nI c) 0 1 S K1) (h2 : e_Pa_writeBlock_80 UL 4 (nI fs) (oc (c + 1)) 0 1 (F, L, PC a b P) K2) :
    ∃ M' F', ag [9, 32, 33] [8] S M' ∧ agc [410, 411, 501] [6] F F' ∧ wtI m M' F' ∧ K1 M' ∧ K2 (F', L, PC a b P) := by
  refine v_e_tell_74 h1 (fun y7 y8 T => ∃ z k G, y7 = nI z ∧ y8 = nI k ∧ 1 ≤ k ∧ k ≤ 64 ∧ z < k ∧ e_Pa_writeBlock_80 UL 4 (nI fs) (oc (c + 1)) (nI z) (nI k) (G, L, PC a b P) K2 ∧ ag [9, 32, 33] [8] S T ∧ agc [410, 411, 501] [6] F G ∧ wtI m T G ∧ acQ (inC S (c + 1)) h (64 - k) z) ⟨0, 1, F, rfl, rfl, by decide, by decide, by decide, h2, ag_refl, agc_refl, hI, (show (63 : Nat) = 64 - 1 from rfl) ▸ hQ⟩ ?_
  rintro y7 y8 T R ⟨z, k, G, rfl, rfl, hk1, hk, hz, h2, ha, hf, hI, ht⟩ hb
  have e27 : T.2.1 27 = S.2.1 27 := ha.2 27 rfl
  unfold b_tell_74 at hb
  have h2 := r_e_Pa_writeBlock_80 h2
  unfold b_Pa_writeBlock_80 at h2
  by_cases e : k = 64
  · right
    subst e
    have hb := hb.1 (Int32.le_refl _)
    have h2 := h2.1 (Int32.le_refl _)
    by_cases e0 : z = 0
    · subst e0
      exact ⟨T, G, ha, hf, hI, hb.1 (by decide), h2.1 (by decide)⟩
    · have hb := hb.2 (nI_nle (by omega) (by omega))
      have h2 := h2.2 (nI_nle (by omega) (by omega))
      have hb : p_symbol 0 (nI c + 1) 0 T _ := hb
      rw [show (nI c + 1 : Int32) = nI (c + 1) from nI_1 c, show p_symbol 0 (nI (c + 1)) 0 T = p_symbol 0 (nI (c + 1)) (nI 0) T from rfl] at hb
      have h2 : p_Pa_writeSymbol UL 4 (oc (c + 1)) (nI 0) 0 (G, L, PC a b P) _ := h2
      obtain ⟨M', F', b1, b2, b3, k1, k2⟩ := x_symz (m := m) (c := c + 1) (s := 0) hcm hm (by decide) (by decide) hI.1 hI.2.1 (by rw [e27]; exact ht (by omega)) hI.2.2 hb h2
      exact ⟨M', F', ag_tr ha b1 rfl rfl, agc_tr hf b2 rfl rfl, wtI_w hI hm b3 b1 b2, k1, k2⟩
  · left
    have hb := hb.2 (nI_ge (b := 64) (by omega) (by decide))
    unfold p_levelCell at hb
    obtain ⟨-, hb⟩ := hb
    rw [cellN (by omega) (by omega) (by omega), ← hfs, nI_clamp (by omega), show T.2.1 19 = S.2.1 19 from ha.2 19 rfl, (hh k (by omega)).1] at hb
    obtain ⟨-, -, -, -, -, h2⟩ := h2.2 (nI_ge (b := 64) (by omega) (by decide))
    have h2 : (¬ G 19 (nI fs + nI k : Int32).toNatClampNeg = 0 → _) ∧ (G 19 (nI fs + nI k : Int32).toNatClampNeg = 0 → _) := h2
    have g19 : G 19 = F 19 := hf.2 19 rfl rfl
    by_cases e0 : h k = 0
    · have hb := hb.2 e0
      have h2 := h2.2 (by rw [nI_add, nI_clamp (by omega), g19, hF k (by omega)]; exact e0)
      unfold b_tell_167 at hb
      unfold b_Pa_writeBlock_157 at h2
      rw [nI_1] at hb h2
      refine ⟨_, _, _, hb, z + 1, k + 1, G, rfl, nI_1 k, by omega, by omega, by omega, ?_, ha, hf, hI, ?_⟩
      · rw [← nI_1 k]
        exact h2
      · rw [← acQ_z (by omega) e0]
        exact ht
    · have hb := hb.1 e0
      have h2 := h2.1 (by rw [nI_add, nI_clamp (by omega), g19, hF k (by omega)]; exact e0)
      have h2 : e_Pa_writeBlock_112 UL 4 (nI fs) (oc (c + 1)) (nI z) (nI k) (G 19 (nI fs + nI k : Int32).toNatClampNeg) (G, L, PC a b P) _ K2 := h2
      rw [nI_add, nI_clamp (by omega), g19, hF k (by omega)] at h2
      rw [acQ_n (by omega) e0] at ht
      obtain ⟨M', F', b1, b2, b3, k1, k2⟩ := x_run0 hc hcm hm (by omega) (by omega) (hh k (by omega)).2 hI (by unfold inC; rw [e27]; exact ht.1) (by unfold inC; rw [e27]; exact ht.2.1) hb h2
      refine ⟨_, _, _, k1, 0, k + 1, F', rfl, nI_1 k, by omega, by omega, by omega, ?_, ag_tr ha b1 rfl rfl, agc_tr hf b2 rfl rfl, b3, ht.2.2⟩
      rw [← nI_1 k]
      exact k2
theorem wtI_st {g g' : Nat → Int32} (hm : m ≤ 4) (h : wtI m S F) : wtI m (S.1, va_up S.2.1 53 g, S.2.2) (va_up F 58 g') := by
  obtain ⟨⟨⟨o1, o2⟩, c, g0, h3, h4, h5, h6, h7, h8⟩, hr, h9⟩ := h
  refine ⟨⟨⟨?_, fun k hk => ?_⟩, c, g0, h3, h4, h5, h6, ?_, ?_⟩, rCod_k hr hm (show va_up S.2.1 53 g 27 = S.2.1 27 from vu_ne (by decide)) (show va_up S.2.1 53 g 28 = S.2.1 28 from vu_ne (by decide)) fwk_st, ?_⟩
  · rw [vu_ne (by decide)]
    exact o1
  · show va_up F 58 g' 6 k = va_up S.2.1 53 g 8 k
    rw [vu_ne (by decide), vu_ne (by decide)]
    exact o2 k hk
  · rw [vu_ne (by decide)]
    exact h7
  · rw [vu_ne (by decide)]
    exact h8
  · rw [vu_ne (by decide)]
    exact h9
/-- one block is written -/
theorem x_tell0 (hcm : clz l + 1 < m) (hm : m ≤ 4) (hl : l < 3) (hbk : bk < 64) (hL : rLev S F) (hB : lvBd S) (hst : stB S) (hbf : rBef S F) (hI : wtI m S F) (hQ : blkQ (inC S) l (lv S l bk) (S.2.1 53 l)) (h1 : p_tell 0 (nI l) (nI bk) S K1) (h2 : p_Pa_writeBlock UL 4 (nI (64 * l + bk)) (F, L, PC a b P) K2) :
    ∃ M' F', ag [9, 32, 33] [8, 53] S M' ∧ M'.2.1 53 = upd (S.2.1 53) l (lv S l bk 0) ∧ fwk F F' ∧ rBef M' F' ∧ wtI m M' F' ∧ K1 M' ∧ K2 (F', L, PC a b P) := by
  have e19 : F 19 (64 * (64 * l + bk)) = S.2.1 19 (64 * (64 * l + bk)) := hL _ (by omega)
  have e58 : F 58 l = S.2.1 53 l := hbf l hl
  have bd := dif_B (hB (64 * (64 * l + bk)) (by omega)) (hst l hl)
  have c2 : clz l ≤ 2 := by unfold clz; split <;> decide
  have b13 := blx13 bd
  have h1 := q_tl hl hbk bd h1
  have h2 := q_wb hl hbk (by rw [e19, e58]; exact bd) h2
  rw [e19, e58] at h2
  have h1 : p_symbol 0 (nI (clz l)) (nI (blx (S.2.1 19 (64 * (64 * l + bk)) - S.2.1 53 l))) (S.1, va_up S.2.1 53 (upd (S.2.1 53) l (S.2.1 19 (64 * (64 * l + bk)))), S.2.2) (fun Z => p_putBits (nbv (S.2.1 19 (64 * (64 * l + bk)) - S.2.1 53 l)) (nI (blx (S.2.1 19 (64 * (64 * l + bk)) - S.2.1 53 l))) Z (fun Y => e_tell_74 0 (nI l) (nI bk) (nI (clz l)) 0 1 Y K1)) :=
    d_p_symbol h1 (fun Z hk hi => (hi _).mpr (q_number0 hk))
  have hI2 := wtI_st (g := upd (S.2.1 53) l (S.2.1 19 (64 * (64 * l + bk)))) (g' := upd (F 58) l (S.2.1 19 (64 * (64 * l + bk)))) hm hI
  obtain ⟨Z, G, a1, a2, a3, h1, h2⟩ := x_sym0 (m := m) (c := clz l) (s := blx (S.2.1 19 (64 * (64 * l + bk)) - S.2.1 53 l)) (by omega) hm (by omega) hI2.1 hI2.2.1 bd (Nat.mod_eq_of_lt (by omega)).symm (by show 0 < (va_up S.2.1 53 (upd (S.2.1 53) l (S.2.1 19 (64 * (64 * l + bk)))) 27 (257 * clz l + blx (S.2.1 19 (64 * (64 * l + bk)) - S.2.1 53 l))).toInt; rw [vu_ne (show (27 : Nat) ≠ 53 by decide)]; exact hQ.1) hI2.2.2 h1 h2
  have h2 := h2 rfl
  have z27 : Z.2.1 27 = S.2.1 27 := (a1.2 27 rfl).trans (show va_up S.2.1 53 (upd (S.2.1 53) l (S.2.1 19 (64 * (64 * l + bk)))) 27 = S.2.1 27 from vu_ne (by decide))
  have z19 : Z.2.1 19 = S.2.1 19 := (a1.2 19 rfl).trans (show va_up S.2.1 53 (upd (S.2.1 53) l (S.2.1 19 (64 * (64 * l + bk)))) 19 = S.2.1 19 from vu_ne (by decide))
  have g19 : G 19 = F 19 := (a2.2 19 rfl rfl).trans (show va_up F 58 (upd (F 58) l (S.2.1 19 (64 * (64 * l + bk)))) 19 = F 19 from vu_ne (by decide))
  obtain ⟨M', F', b1, b2, b3, k1, k2⟩ := x_ac0 (h := lv S l bk) (fs := 64 * (64 * l + bk)) c2 hcm hm hl hbk rfl (fun k hk => ⟨by rw [z19], hB _ (by omega)⟩) (fun k hk => by rw [g19]; exact hL _ (by omega)) (wtI_w hI2 hm a3 a1 a2) (by unfold inC; rw [z27]; exact hQ.2) h1 h2
  have r53 : M'.2.1 53 = upd (S.2.1 53) l (lv S l bk 0) := by
    rw [b1.2 53 rfl, a1.2 53 rfl]
    show va_up S.2.1 53 (upd (S.2.1 53) l (S.2.1 19 (64 * (64 * l + bk)))) 53 = _
    exact vu_at
  refine ⟨M', F', ag_tr (ag_tr (ag_r ag_refl rfl) a1 rfl rfl) b1 rfl rfl, r53, fwk_tr fwk_st (fwk_tr (fwk_w a2) (fwk_w b2)), ?_, b3, k1, k2⟩
  intro j hj
  rw [b2.2 58 rfl rfl, a2.2 58 rfl rfl, r53, vu_at]
  by_cases e : j = l
  · rw [e, upd_at, upd_at]
    rfl
  · rw [upd_ne e, upd_ne e]
    exact hbf j hj
end WRITE

/-! the walk over all blocks, in lockstep; what it does with a block is given (rl: before a block, re: behind one) -/
/-- a pause stands before unit n -/
def pau (e n : Nat) : Prop := 0 < e ∧ 0 < n ∧ n % e = 0
/-- how blocks are taken: i counts or writes; block T is ov T -/
def WK (a b : Bool) (P : Nat → Nat → Nat) (i : Int32) (e pu NT : Nat) (ov : Nat → Nat) (rl re : Nat → ms → cF → Prop) : Prop :=
  (∀ {T : Nat} {S : ms} {F : cF} {L : cL} {K1 : ms → Prop} {K2 : cs → Prop}, T < NT → rl T S F → p_tell i (nI (ov T / 64)) (nI (ov T % 64)) S K1 → p_Pa_writeBlock UL 4 (nI (ov T)) (F, L, PC a b P) K2 → ∃ M' F', re (T + 1) M' F' ∧ ag [9, 32, 33] [8, 26, 53] S M' ∧ fwk F F' ∧ K1 M' ∧ K2 (F', L, PC a b P)) ∧
  (∀ {n t : Nat} {S : ms} {F : cF}, t < pu → (t = 0 → ¬ pau e n) → re (n * pu + t) S F → rl (n * pu + t) S F) ∧
  (∀ {n : Nat} {x3 x6 x7 : Int32} {S : ms} {F : cF} {L : cL} {R122 : Int32 → Int32 → Int32 → Int32 → Int32 → Int32 → ms → Prop} {K1 : ms → Prop} {K2 : cs → Prop}, pau e n → n < 200 → re (n * pu) S F → (i = 0 → p_fillUp S (fun S153 => ¬ (nI e) = 0 ∧ (p_mark (208 + (((nI n / nI e) - 1) - ((nI n / nI e) - 1) / 8 * 8)) (S153.1, S153.2.1, S153.2.2) (fun S170 => b_units_173 i (nI e) x3 x6 x7 (nI n) (S170.1, S170.2.1, S170.2.2) R122 K1)))) → (¬ i = 0 → b_units_173 i (nI e) x3 x6 x7 (nI n) S R122 K1) → p_Pa_writeAgain UL 4 (208 + (nI (n / e - 1) - nI (n / e - 1) / 8 * 8)) (F, L, PC a b P) K2 →
    ∃ M' F', rl (n * pu) M' F' ∧ ag [9, 32, 33] [8, 26, 53] S M' ∧ fwk F F' ∧ b_units_196 i (nI e) x3 x6 x7 (nI n) M' R122 K1 ∧ K2 (F', L, PC a b P))
section WALK
variable {S : ms} {F : cF} {L : cL} {a b : Bool} {P : Nat → Nat → Nat} {i : Int32} {e pu NT : Nat} {ov : Nat → Nat} {rl re : Nat → ms → cF → Prop} {K1 : ms → Prop} {K2 : cs → Prop}
/-- what the class's walk needs of its scan -/
def scW (F : cF) (N pu : Nat) (ov : Nat → Nat) : Prop := F 22 4 = nI N ∧ F 22 5 = nI pu ∧ ∀ t, t < N * pu → F 26 t = nI (ov t) ∧ ov t < 192
theorem scW_k {G : cF} {N : Nat} (h : scW F N pu ov) (hf : fwk F G) : scW G N pu ov := by
  obtain ⟨h1, h2, h3⟩ := h
  refine ⟨(hf.2.1 22 4 rfl (by decide) (by decide) (by decide)).trans h1, (hf.2.1 22 5 rfl (by decide) (by decide) (by decide)).trans h2, ?_⟩
  rw [hf.1 26 rfl (by decide) (by decide) (by decide) (by decide) (by decide) (by decide)]
  exact h3
theorem x_u261 {N n ux uy l bw bh gw ofs : Nat} {x2 x3 x6 x7 : Int32} {R122 : Int32 → Int32 → Int32 → Int32 → Int32 → Int32 → ms → Prop} {R213 : Int32 → Int32 → Int32 → Int32 → Int32 → Int32 → Int32 → Int32 → Int32 → ms → Prop} {R12 : Int32 → Int32 → Int32 → cs → Prop}
    (H : WK a b P i e pu (N * pu) ov rl re) (hsc : scW F N pu ov) (hn : n < N) (hl : l < 3) (hbw : bw = 1 ∨ bw = 2) (hbh : bh = 1 ∨ bh = 2) (hux : ux ≤ 64) (huy : uy ≤ 64) (hgw : gw ≤ 8) (hN : N ≤ 64) (hpu : pu ≤ 12) (hoff : ofs + bw * bh ≤ pu)
    (hg : S.2.1 17 l = nI gw) (hov : ∀ k, k < bw * bh → ov (n * pu + (ofs + k)) = 64 * l + ((uy * bh + k / bw) * gw + (ux * bw + k % bw)) ∧ (uy * bh + k / bw) * gw + (ux * bw + k % bw) < 64) (h0 : ofs = 0 → rl (n * pu) S F) (hp : 0 < ofs → re (n * pu + ofs) S F)
    (h1 : e_units_261 i (nI e) x3 x6 x7 (nI n) (nI ux) (nI uy) (nI l) (nI bw) (nI bh) 0 S R122 R213 K1) (h2 : e_Pa_writeData_55 UL 4 (nI e) x2 (nI n) (nI ofs) (F, L, PC a b P) R12 K2) :
    ∃ M' F', re (n * pu + (ofs + bw * bh)) M' F' ∧ ag [9, 32, 33] [8, 26, 53] S M' ∧ fwk F F' ∧ R213 i (nI e) x3 x6 x7 (nI n) (nI ux) (nI uy) (nI l + 1) M' ∧ e_Pa_writeData_55 UL 4 (nI e) x2 (nI n) (nI (ofs + bw * bh)) (F', L, PC a b P) R12 K2 := by
  have bb : 1 ≤ bw * bh ∧ bw * bh ≤ 4 := by rcases hbw with e | e <;> rcases hbh with d | d <;> rw [e, d] <;> decide
  refine v_e_units_261 h1 (fun y14 T => ∃ k G, y14 = nI k ∧ k ≤ bw * bh ∧ e_Pa_writeData_55 UL 4 (nI e) x2 (nI n) (nI (ofs + k)) (G, L, PC a b P) R12 K2 ∧ ag [9, 32, 33] [8, 26, 53] S T ∧ fwk F G ∧ (ofs + k = 0 → rl (n * pu) T G) ∧ (0 < ofs + k → re (n * pu + (ofs + k)) T G)) ⟨0, F, rfl, Nat.zero_le _, h2, ag_refl, fwk_refl, fun q => h0 (by omega), fun q => hp (by omega)⟩ ?_
  rintro y14 T R ⟨k, G, rfl, hk, h2, ha, hf, r0, r1⟩ hb
  unfold b_units_261 at hb
  rw [pk_mul] at hb
  by_cases e9 : k = bw * bh
  · right
    subst e9
    exact ⟨T, G, r1 (by omega), ha, hf, hb.1 (Int32.le_refl _), h2⟩
  · left
    obtain ⟨-, -, -, hb⟩ := hb.2 (nI_ge (by omega) (by omega))
    have hv := hov k (by omega)
    have b64 : bw ≤ 2 := by omega
    have h64 : bh ≤ 2 := by omega
    have uyb : uy * bh ≤ 128 := Nat.le_trans (Nat.mul_le_mul huy h64) (by decide)
    have uxb : ux * bw ≤ 128 := Nat.le_trans (Nat.mul_le_mul hux b64) (by decide)
    rw [nI_clamp (show l < 2 ^ 31 by omega), show T.2.1 17 = S.2.1 17 from ha.2 17 rfl, hg, pk_rem (by omega) (by omega) (by omega), pk_div (by omega) (by omega) (by omega), pk_mul, nI_add, pk_mul, pk_mul, nI_add, nI_add] at hb
    have hsg := scW_k hsc hf
    have npu : n * pu + pu ≤ N * pu := by
      rw [← Nat.succ_mul]
      exact Nat.mul_le_mul_right pu (by omega)
    have nb : n * pu ≤ 64 * 12 := Nat.mul_le_mul (by omega) hpu
    have hT := hsg.2.2 (n * pu + (ofs + k)) (by omega)
    have h2 := r_e_Pa_writeData_55 h2
    unfold b_Pa_writeData_55 at h2
    obtain ⟨-, -, h2⟩ := h2
    have h2 : (G 22 5 ≤ nI (ofs + k) → _) ∧ (¬ G 22 5 ≤ nI (ofs + k) → _) := h2
    obtain ⟨-, -, -, -, -, h2⟩ := h2.2 (by rw [hsg.2.1]; exact nI_ge (by omega) (by omega))
    have h2 : p_Pa_writeBlock UL 4 (G 26 ((G 22 5 * nI n) + nI (ofs + k) : Int32).toNatClampNeg) (G, L, PC a b P) (fun S88 => e_Pa_writeData_55 UL 4 (nI e) x2 (nI n) (nI (ofs + k) + 1) S88 R12 K2) := h2
    rw [hsg.2.1, pk_mul, nI_add, Nat.mul_comm pu n, nI_clamp (by omega), hT.1] at h2
    have rlT : rl (n * pu + (ofs + k)) T G := by
      by_cases e0 : ofs + k = 0
      · rw [e0]
        exact r0 e0
      · exact H.2.1 (by omega) (fun q => absurd q e0) (r1 (by omega))
    obtain ⟨M', F', c1, c2, c3, k1, k2⟩ := H.1 (T := n * pu + (ofs + k)) (by omega) rlT (by rw [hv.1, show (64 * l + ((uy * bh + k / bw) * gw + (ux * bw + k % bw))) / 64 = l by omega, show (64 * l + ((uy * bh + k / bw) * gw + (ux * bw + k % bw))) % 64 = (uy * bh + k / bw) * gw + (ux * bw + k % bw) by omega]; exact hb) h2
    rw [nI_1] at k2
    exact ⟨_, _, k1, k + 1, F', nI_1 k, by omega, k2, ag_tr ha c2 rfl rfl, fwk_tr hf c3, fun q => absurd q (by omega), fun _ => c1⟩
end WALK

/-! the walk over all units -/
section WALK2
variable {S : ms} {F : cF} {L : cL} {a b : Bool} {P : Nat → Nat → Nat} {i : Int32} {e pu N : Nat} {ov : Nat → Nat} {rl re : Nat → ms → cF → Prop} {K1 : ms → Prop} {K2 : cs → Prop} {x3 x7 : Int32} {ly : Nat} {A D gw bw bh : Nat → Nat}
/-- the reference's side of a walk: how many layers, how many blocks of each in a unit -/
def rfW (S : ms) (x3 : Int32) (ly : Nat) (bw bh gw : Nat → Nat) : Prop :=
  S.2.1 14 0 = nI ly ∧ ly ≤ 3 ∧ ∀ l, l < ly → S.2.1 17 l = nI (gw l) ∧ gw l ≤ 8 ∧ (bw l = 1 ∨ bw l = 2) ∧ (bh l = 1 ∨ bh l = 2) ∧ (x3 = 0 → S.2.1 15 l = nI (bw l) ∧ S.2.1 16 l = nI (bh l)) ∧ (¬ x3 = 0 → bw l = 1 ∧ bh l = 1)
theorem rfW_k {T : ms} (h : rfW S x3 ly bw bh gw) (ha : ag [9, 32, 33] [8, 26, 53] S T) : rfW T x3 ly bw bh gw := by
  unfold rfW
  rw [ha.2 14 rfl, ha.2 15 rfl, ha.2 16 rfl, ha.2 17 rfl]
  exact h
/-- the k-th block of layer l in unit n, the units being uw in a row -/
def blv (bw bh gw : Nat → Nat) (uw n l k : Nat) : Nat := (n / uw * bh l + k / bw l) * gw l + (n % uw * bw l + k % bw l)
theorem x_u213 {n uw : Nat} {x2 : Int32} {R122 : Int32 → Int32 → Int32 → Int32 → Int32 → Int32 → ms → Prop} {R12 : Int32 → Int32 → Int32 → cs → Prop}
    (H : WK a b P i e pu (N * pu) ov rl re) (hsc : scW F N pu ov) (hrf : rfW S x3 ly bw bh gw) (hly : 1 ≤ ly) (hpu : pu = offs bw bh (fun l => l) ly) (hp12 : pu ≤ 12) (hN : N ≤ 64) (hn : n < N) (huw : 1 ≤ uw)
    (hov : ∀ l, l < ly → ∀ k, k < bw l * bh l → ov (n * pu + (offs bw bh (fun l => l) l + k)) = 64 * l + blv bw bh gw uw n l k ∧ blv bw bh gw uw n l k < 64) (h0 : rl (n * pu) S F)
    (h1 : e_units_213 i (nI e) x3 (nI uw) x7 (nI n) (nI (n % uw)) (nI (n / uw)) 0 S R122 K1) (h2 : e_Pa_writeData_55 UL 4 (nI e) x2 (nI n) 0 (F, L, PC a b P) R12 K2) :
    ∃ M' F', re ((n + 1) * pu) M' F' ∧ ag [9, 32, 33] [8, 26, 53] S M' ∧ fwk F F' ∧ R122 i (nI e) x3 (nI uw) x7 (nI n + 1) M' ∧ R12 (nI e) x2 (nI n + 1) (F', L, PC a b P) := by
  have nu : n / uw ≤ 64 := Nat.le_trans (Nat.div_le_self _ _) (by omega)
  have nm : n % uw ≤ 64 := Nat.le_trans (Nat.mod_le _ _) (by omega)
  refine v_e_units_213 h1 (fun y11 T => ∃ l G, y11 = nI l ∧ l ≤ ly ∧ e_Pa_writeData_55 UL 4 (nI e) x2 (nI n) (nI (offs bw bh (fun l => l) l)) (G, L, PC a b P) R12 K2 ∧ ag [9, 32, 33] [8, 26, 53] S T ∧ fwk F G ∧ (l = 0 → rl (n * pu) T G) ∧ (0 < l → re (n * pu + offs bw bh (fun l => l) l) T G)) ⟨0, F, rfl, Nat.zero_le _, h2, ag_refl, fwk_refl, fun _ => h0, fun q => absurd q (by decide)⟩ ?_
  rintro y11 T R ⟨l, G, rfl, hl, h2, ha, hf, r0, r1⟩ hb
  have hrT := rfW_k hrf ha
  have hsg := scW_k hsc hf
  have l3 := hrT.2.1
  unfold b_units_213 at hb
  obtain ⟨-, hb⟩ := hb
  rw [show (0 : Int32).toNatClampNeg = 0 from rfl, hrT.1] at hb
  by_cases e9 : l = ly
  · right
    subst e9
    have h2 := r_e_Pa_writeData_55 h2
    unfold b_Pa_writeData_55 at h2
    obtain ⟨-, -, h2⟩ := h2
    have h2 := h2.1 (by show G 22 5 ≤ nI (offs bw bh (fun l => l) l); rw [hsg.2.1, hpu]; exact Int32.le_refl _)
    refine ⟨T, G, ?_, ha, hf, hb.1 (Int32.le_refl _), h2⟩
    rw [Nat.succ_mul]
    have := r1 (by omega)
    rw [← hpu] at this
    exact this
  · left
    have g := hrT.2.2 l (by omega)
    have hb := hb.2 (nI_ge (by omega) (by omega))
    have h261 : e_units_261 i (nI e) x3 (nI uw) x7 (nI n) (nI (n % uw)) (nI (n / uw)) (nI l) (nI (bw l)) (nI (bh l)) 0 T R122 R K1 := by
      rw [nI_clamp (show l < 2 ^ 31 by omega)] at hb
      by_cases ex : x3 = 0
      · have hb := (hb.1 ex).2
        rw [(g.2.2.2.2.1 ex).1] at hb
        unfold b_units_239 at hb
        have hb := (hb.1 ex).2
        rw [nI_clamp (show l < 2 ^ 31 by omega), (g.2.2.2.2.1 ex).2] at hb
        unfold b_units_256 at hb
        exact hb
      · have hb := hb.2 ex
        unfold b_units_239 at hb
        have hb := hb.2 ex
        unfold b_units_256 at hb
        rw [(g.2.2.2.2.2 ex).1, (g.2.2.2.2.2 ex).2]
        exact hb
    have ol := offs_le (A := bw) (D := bh) (ly := fun l => l) (i := l + 1) ly (by omega)
    have oe : offs bw bh (fun l => l) (l + 1) = offs bw bh (fun l => l) l + bw l * bh l := rfl
    have o0 : offs bw bh (fun l => l) l = 0 → l = 0 := by
      intro q
      cases l with
      | zero => rfl
      | succ l' =>
        have g' := hrT.2.2 l' (by omega)
        have : offs bw bh (fun l => l) (l' + 1) = offs bw bh (fun l => l) l' + bw l' * bh l' := rfl
        have : 1 ≤ bw l' * bh l' := by rcases g'.2.2.1 with e | e <;> rcases g'.2.2.2.1 with d | d <;> rw [e, d] <;> decide
        omega
    obtain ⟨M', F', c1, c2, c3, k1, k2⟩ := x_u261 (ofs := offs bw bh (fun l => l) l) H hsg hn (by omega) g.2.2.1 g.2.2.2.1 nm nu g.2.1 hN hp12 (by omega) g.1 (fun k hk => hov l (by omega) k hk) (fun q => r0 (o0 q)) (fun q => r1 (by cases l with | zero => exact absurd q (by show ¬ 0 < 0; omega) | succ l' => omega)) h261 h2
    exact ⟨_, _, k1, l + 1, F', nI_1 l, by omega, k2, ag_tr ha c2 rfl rfl, fwk_tr hf c3, fun q => absurd q (by omega), fun _ => c1⟩
/-- how many pauses came before unit n -/
def mkc (e n : Nat) : Nat := (n - 1) / e
theorem mkc_p {e n : Nat} (h : pau e n) : mkc e n = n / e - 1 ∧ mkc e (n + 1) = mkc e n + 1 := by
  obtain ⟨h1, h2, h3⟩ := h
  obtain ⟨q, rfl⟩ : ∃ q, n = e * q := ⟨n / e, by have := Nat.mod_add_div n e; omega⟩
  have q1 : 1 ≤ q := by
    cases q with
    | zero => rw [Nat.mul_zero] at h2; exact absurd h2 (by decide)
    | succ q => omega
  have e1 : e * q / e = q := Nat.mul_div_cancel_left q h1
  have e2 : (e * q - 1) / e = q - 1 := by
    obtain ⟨q', rfl⟩ : ∃ q', q = q' + 1 := ⟨q - 1, by omega⟩
    have : e * (q' + 1) - 1 = e * q' + (e - 1) := by rw [Nat.mul_succ]; omega
    rw [this, Nat.mul_add_div h1, Nat.div_eq_of_lt (by omega)]
    omega
  unfold mkc
  rw [e2, show e * q + 1 - 1 = e * q by omega, e1]
  omega
theorem mkc_n {e n : Nat} (h : ¬ pau e n) : mkc e (n + 1) = mkc e n := by
  unfold mkc
  rw [show n + 1 - 1 = n by omega]
  by_cases h1 : e = 0
  · rw [h1, Nat.div_zero, Nat.div_zero]
  · by_cases h2 : n = 0
    · rw [h2]
    · have h3 : ¬ n % e = 0 := fun q => h ⟨by omega, by omega, q⟩
      obtain ⟨n', rfl⟩ : ∃ n', n = n' + 1 := ⟨n - 1, by omega⟩
      rw [show n' + 1 - 1 = n' by omega, Nat.succ_div, if_neg (fun q => h3 (Nat.mod_eq_zero_of_dvd q)), Nat.add_zero]
theorem x_u122 {uw uh : Nat}
    (H : WK a b P i e pu (N * pu) ov rl re) (hi : i = 0 ∨ i = 1) (he : e ≤ 65535) (hsc : scW F N pu ov) (hrf : rfW S x3 ly bw bh gw) (hly : 1 ≤ ly) (hpu : pu = offs bw bh (fun l => l) ly) (hp12 : pu ≤ 12) (hN : N ≤ 64) (hNu : N = uw * uh) (huw : 1 ≤ uw) (hw8 : uw ≤ 64)
    (hov : ∀ n, n < N → ∀ l, l < ly → ∀ k, k < bw l * bh l → ov (n * pu + (offs bw bh (fun l => l) l + k)) = 64 * l + blv bw bh gw uw n l k ∧ blv bw bh gw uw n l k < 64) (h0 : re 0 S F)
    (h1 : e_units_122 i (nI e) x3 (nI uw) (nI uh) 0 S K1) (h2 : e_Pa_writeData_12 UL 4 (nI e) 0 0 (F, L, PC a b P) K2) :
    ∃ M' F', re (N * pu) M' F' ∧ ag [9, 32, 33] [8, 26, 53] S M' ∧ fwk F F' ∧ K1 M' ∧ p_Pa_fillByte UL 4 (F', L, PC a b P) K2 := by
  have pu1 : 1 ≤ pu := by
    have g' := hrf.2.2 0 (by omega)
    have o1 := offs_le (A := bw) (D := bh) (ly := fun l => l) (i := 1) ly (by omega)
    have o2 : offs bw bh (fun l => l) 1 = 0 + bw 0 * bh 0 := rfl
    have : 1 ≤ bw 0 * bh 0 := by rcases g'.2.2.1 with e | e <;> rcases g'.2.2.2.1 with d | d <;> rw [e, d] <;> decide
    omega
  refine v_e_units_122 h1 (fun y8 T => ∃ n G, y8 = nI n ∧ n ≤ N ∧ e_Pa_writeData_12 UL 4 (nI e) (nI (mkc e n)) (nI n) (G, L, PC a b P) K2 ∧ ag [9, 32, 33] [8, 26, 53] S T ∧ fwk F G ∧ re (n * pu) T G) ⟨0, F, rfl, Nat.zero_le _, by rw [show mkc e 0 = 0 from Nat.zero_div _]; exact h2, ag_refl, fwk_refl, by rw [Nat.zero_mul]; exact h0⟩ ?_
  rintro y8 T R ⟨n, G, rfl, hn, h2, ha, hf, hr⟩ hb
  have hrT := rfW_k hrf ha
  have hsg := scW_k hsc hf
  unfold b_units_122 at hb
  have h2 := r_e_Pa_writeData_12 h2
  unfold b_Pa_writeData_12 at h2
  obtain ⟨-, -, h2⟩ := h2
  rw [pk_mul, ← hNu] at hb
  have h2 : (G 22 4 ≤ nI n → p_Pa_fillByte UL 4 (G, L, PC a b P) (fun S104 => K2 S104)) ∧ (¬ G 22 4 ≤ nI n → _) := h2
  rw [hsg.1] at h2
  by_cases e9 : n = N
  · right
    subst e9
    exact ⟨T, G, hr, ha, hf, hb.1 (Int32.le_refl _), h2.1 (Int32.le_refl _)⟩
  · left
    have hb := hb.2 (nI_ge (by omega) (by omega))
    have h2 := h2.2 (nI_ge (by omega) (by omega))
    have mb : mkc e n ≤ 64 := Nat.le_trans (Nat.div_le_self _ _) (by omega)
    -- a unit, wherever its codes begin anew
    have unit : ∀ (V : ms) (Y : cF) (x2 : Nat), x2 = mkc e (n + 1) → rl (n * pu) V Y → ag [9, 32, 33] [8, 26, 53] T V → fwk G Y → b_units_196 i (nI e) x3 (nI uw) (nI uh) (nI n) V R K1 → b_Pa_writeData_52 UL 4 (nI e) (nI x2) (nI n) (Y, L, PC a b P) (fun zx1 zx2 zx3 zS => e_Pa_writeData_12 UL 4 zx1 zx2 zx3 zS K2) K2 → ∃ (zx8 : Int32) (zS : ms), R i (nI e) x3 (nI uw) (nI uh) zx8 zS ∧ ∃ n G, zx8 = nI n ∧ n ≤ N ∧ e_Pa_writeData_12 UL 4 (nI e) (nI (mkc e n)) (nI n) (G, L, PC a b P) K2 ∧ ag [9, 32, 33] [8, 26, 53] S zS ∧ fwk F G ∧ re (n * pu) zS G := by
      intro V Y x2 hx2 hrl hav hgy hb h2
      unfold b_units_196 at hb
      obtain ⟨-, -, hb⟩ := hb
      rw [pk_rem (by omega) (by omega) (by omega), pk_div (by omega) (by omega) (by omega)] at hb
      unfold b_Pa_writeData_52 at h2
      obtain ⟨M', F', c1, c2, c3, k1, k2⟩ := x_u213 H (scW_k hsg hgy) (rfW_k hrT hav) hly hpu hp12 hN (by omega) huw (hov n (by omega)) hrl hb h2
      rw [nI_1, hx2] at k2
      exact ⟨_, _, k1, n + 1, F', nI_1 n, by omega, k2, ag_tr (ag_tr ha hav rfl rfl) c2 rfl rfl, fwk_tr (fwk_tr hf hgy) c3, c1⟩
    have plain : ¬ pau e n → b_units_196 i (nI e) x3 (nI uw) (nI uh) (nI n) T R K1 → b_Pa_writeData_52 UL 4 (nI e) (nI (mkc e n)) (nI n) (G, L, PC a b P) (fun zx1 zx2 zx3 zS => e_Pa_writeData_12 UL 4 zx1 zx2 zx3 zS K2) K2 → ∃ (zx8 : Int32) (zS : ms), R i (nI e) x3 (nI uw) (nI uh) zx8 zS ∧ ∃ n G, zx8 = nI n ∧ n ≤ N ∧ e_Pa_writeData_12 UL 4 (nI e) (nI (mkc e n)) (nI n) (G, L, PC a b P) K2 ∧ ag [9, 32, 33] [8, 26, 53] S zS ∧ fwk F G ∧ re (n * pu) zS G := by
      intro hnp hb h2
      exact unit T G _ (mkc_n hnp).symm (H.2.1 (t := 0) (by omega) (fun _ => hnp) hr) ag_refl fwk_refl hb h2
    by_cases q1 : e = 0
    · subst q1
      exact plain (fun q => absurd q.1 (by decide)) (hb.1 (by decide)) (h2.1 (by decide))
    · have hb := hb.2 (nI_nle (by omega) (by omega))
      have h2 := h2.2 (nI_nle (by omega) (by omega))
      by_cases q2 : n = 0
      · subst q2
        exact plain (fun q => absurd q.2.1 (by decide)) (hb.1 (by decide)) (h2.1 (by decide))
      · obtain ⟨-, hb⟩ := hb.2 (nI_nle (by omega) (by omega))
        obtain ⟨-, h2⟩ := h2.2 (nI_nle (by omega) (by omega))
        have em : (nI n - nI n / nI e * nI e : Int32) = nI (n % e) := pk_rem (by omega) (by omega) (by omega)
        rw [em] at hb h2
        have eb : n % e ≤ 64 := Nat.le_trans (Nat.mod_le _ _) (by omega)
        by_cases q3 : n % e = 0
        · have hp : pau e n := ⟨by omega, by omega, q3⟩
          have hb := hb.2 (by rw [q3]; rfl)
          have h2 := h2.2 (by rw [q3]; rfl)
          rw [(mkc_p hp).1] at h2
          obtain ⟨M', F', c1, c2, c3, k1, k2⟩ := H.2.2 (x3 := x3) (x6 := nI uw) (x7 := nI uh) hp (by omega) hr (fun q => hb.2 q) (fun q => hb.1 q) h2
          rw [nI_1] at k2
          exact unit M' F' (n / e - 1 + 1) (by rw [(mkc_p hp).2, (mkc_p hp).1]) c1 c2 c3 k1 k2
        · exact plain (fun q => q3 q.2.2) (hb.1 (nI_ne0 (by omega) (by omega))) (h2.1 (nI_ne0 (by omega) (by omega)))
end WALK2

/-! the last byte is filled; marks -/
section FILL
variable {T : ms} {F : cF} {L : cL} {a b : Bool} {P : Nat → Nat → Nat} {K1 : ms → Prop} {K2 : cs → Prop}
/-- the bits are gone: nothing waits -/
def noB (Y Z : ms) : Prop := ag [32, 33] [] Y Z ∧ Z.1 32 = 0 ∧ Z.1 33 = 0
/-- one bit 1 -/
theorem q_put1 {c g : Nat} (hc : c < 8) (hg : g < 2 ^ c) (h32 : T.1 32 = nI c) (h33 : T.1 33 = nI g) (h : p_putBits 1 1 T K1) :
    (c + 1 < 8 ∧ ∃ Z, ag [32, 33] [] T Z ∧ Z.1 32 = nI (c + 1) ∧ Z.1 33 = nI (2 * g + 1) ∧ K1 Z)
    ∨ (c + 1 = 8 ∧ ∃ Z, ag [32, 33] [] T Z ∧ Z.1 33 = nI (2 * g + 1) ∧ p_put (nI (2 * g + 1)) Z (fun Y => (¬ Y.1 33 = 255 → ∃ X, noB Y X ∧ K1 X) ∧ (Y.1 33 = 255 → p_put 0 (Y.1, Y.2.1, Y.2.2) (fun V => ∃ X, noB V X ∧ K1 X)))) := by
  unfold p_putBits at h
  have h := r_e_putBits_4 h
  unfold b_putBits_4 at h
  have h := h.2 (by decide)
  have last : ∀ V : ms, b_putBits_76 1 (1 - 1) V (fun zx1 zx3 zS => e_putBits_4 zx1 zx3 zS K1) K1 → K1 V := by
    intro V hV
    unfold b_putBits_76 at hV
    have hV := r_e_putBits_4 hV
    unfold b_putBits_4 at hV
    exact hV.1 (by decide)
  have l66 : ∀ V : ms, b_putBits_66 1 (1 - 1) V (fun zx1 zx3 zS => e_putBits_4 zx1 zx3 zS K1) K1 → ∃ X, noB V X ∧ K1 X := by
    intro V hV
    unfold b_putBits_66 at hV
    refine ⟨_, ⟨ag_f (T := (upd V.1 32 0, V.2.1, V.2.2)) (ag_f ag_refl rfl) rfl, ?_, ?_⟩, last _ hV⟩
    · show upd (upd V.1 32 0) 33 0 32 = 0
      rw [upd_ne (by decide), upd_at]
    · show upd (upd V.1 32 0) 33 0 33 = 0
      rw [upd_at]
  rw [upd_at, upd_ne (show (32 : Nat) ≠ 33 by decide), h32, h33, nI_1, show (((1 : Int32) >>> ((1 - 1 : Int32) &&& 31 : Int32) : Int32) &&& 1) = nI 1 by decide, show (2 : Int32) = nI 2 from rfl, pk_mul, nI_add] at h
  by_cases e8 : c + 1 = 8
  · right
    refine ⟨e8, (upd (upd T.1 33 (nI (2 * g + 1))) 32 (nI (c + 1)), T.2.1, T.2.2), ag_f (T := (upd T.1 33 (nI (2 * g + 1)), T.2.1, T.2.2)) (ag_f ag_refl rfl) rfl, ?_, ?_⟩
    · show upd (upd T.1 33 (nI (2 * g + 1))) 32 (nI (c + 1)) 33 = _
      rw [upd_ne (by decide), upd_at]
    · have h := h.2 (by rw [e8]; rfl)
      rw [upd_ne (show (33 : Nat) ≠ 32 by decide), upd_at] at h
      refine d_p_put h (fun Y hk hi => (hi _).mpr ⟨fun q => l66 _ (hk.1 q), fun q => ?_⟩)
      exact d_p_put (hk.2 q) (fun V hk hi => (hi _).mpr (l66 _ hk))
  · left
    have h := h.1 (fun q => e8 (by have := (nI_eq (a := c + 1) (b := 8) (by omega) (by decide)).mp q; omega))
    refine ⟨by omega, _, ag_f (T := (upd T.1 33 (nI (2 * g + 1)), T.2.1, T.2.2)) (ag_f ag_refl rfl) rfl, ?_, ?_, last _ h⟩
    · show upd (upd T.1 33 (nI (2 * g + 1))) 32 (nI (c + 1)) 32 = _
      rw [upd_at]
    · show upd (upd T.1 33 (nI (2 * g + 1))) 32 (nI (c + 1)) 33 = _
      rw [upd_ne (by decide), upd_at]
theorem rOut_k {M M' : ms} {F F' : cF} (h : rOut M F) (e9 : M'.1 9 = M.1 9) (e8 : M'.2.1 8 = M.2.1 8) (f5 : F' 5 1 = F 5 1) (f6 : F' 6 = F 6) : rOut M' F' := by
  refine ⟨?_, fun k hk => ?_⟩
  · rw [f5, e9]
    exact h.1
  · rw [e9] at hk
    rw [f6, e8]
    exact h.2 k hk
/-- nothing waits on either side -/
def wr0 (M : ms) (F : cF) : Prop := rOut M F ∧ M.1 32 = 0 ∧ M.1 33 = 0 ∧ F 4 11 = 0
theorem wr0_wr {M : ms} {F : cF} (h : wr0 M F) : wr M F := ⟨h.1, 0, 0, by decide, by decide, h.2.1, h.2.2.1, h.2.2.2, by rw [Int.pow_zero, Int.emod_one]; rfl⟩
theorem x_fillU {M : ms} (hw : wr M F) (h1 : p_fillUp M K1) (h2 : p_Pa_fillByte UL 4 (F, L, PC a b P) K2) :
    ∃ M' F', ag [9, 32, 33] [8] M M' ∧ agc [410, 411, 501] [6] F F' ∧ wr0 M' F' ∧ K1 M' ∧ K2 (F', L, PC a b P) := by
  obtain ⟨ho, c0, g0, hc0, hg0, m32, m33, f11, f10⟩ := hw
  unfold p_fillUp at h1
  unfold p_Pa_fillByte b_Pa_fillByte_29 at h2
  have h2 : (F 4 11 ≤ 0 → K2 (F, L, PC a b P)) ∧ (¬ F 4 11 ≤ 0 → p_Pa_writeBits UL 4 (((1 : Int32) <<< ((8 - F 4 11) &&& 31 : Int32) : Int32) - 1) (8 - F 4 11) (F, L, PC a b P) (fun S26 => K2 S26)) := h2
  rw [f11] at h2
  by_cases z : c0 = 0
  · subst z
    have h1 := r_e_fillUp_0 h1
    unfold b_fillUp_0 at h1
    have g00 : g0 = 0 := by rw [Nat.pow_zero] at hg0; omega
    refine ⟨M, F, ag_refl, agc_refl, ⟨ho, m32, by rw [m33, g00]; rfl, f11⟩, h1.1 (by rw [m32]; decide), h2.1 (by decide)⟩
  · have h2 := h2.2 (nI_nle (by omega) (by omega))
    have e8 : (8 - nI c0 : Int32) = nI (8 - c0) := by rw [show (8 : Int32) = nI 8 from rfl, pk_sub (by omega)]
    have pb : 2 ^ (8 - c0) ≤ 256 := Nat.le_trans (Nat.pow_le_pow_right (by decide) (show 8 - c0 ≤ 8 by omega)) (by decide)
    have pp : 1 ≤ 2 ^ (8 - c0) := Nat.pow_pos (by decide)
    rw [e8, one_shl (by omega), show (1 : Int32) = nI 1 from rfl, pk_sub pp] at h2
    unfold p_Pa_writeBits at h2
    have h2 : e_Pa_writeBits_22 UL 4 (va_up (va_up F 4 (upd (F 4) 10 ((F 4 10 <<< (nI (8 - c0) &&& 31 : Int32) : Int32) ||| nI (2 ^ (8 - c0) - 1)))) 4 (upd ((va_up F 4 (upd (F 4) 10 ((F 4 10 <<< (nI (8 - c0) &&& 31 : Int32) : Int32) ||| nI (2 ^ (8 - c0) - 1)))) 4) 11 ((va_up F 4 (upd (F 4) 10 ((F 4 10 <<< (nI (8 - c0) &&& 31 : Int32) : Int32) ||| nI (2 ^ (8 - c0) - 1)))) 4 11 + nI (8 - c0))), L, PC a b P) (fun S26 => K2 S26) := h2
    rw [vu_vu, vu_at, upd_ne (show (11 : Nat) ≠ 10 by decide), f11, nI_add, show c0 + (8 - c0) = 8 by omega] at h2
    have hv : ((F 4 10 <<< (nI (8 - c0) &&& 31 : Int32) : Int32) ||| nI (2 ^ (8 - c0) - 1)).toInt % 2 ^ 8 = ((g0 * 2 ^ (8 - c0) + (2 ^ (8 - c0) - 1) : Nat) : Int) := by
      have ei : (nI (2 ^ (8 - c0) - 1)).toInt = ((2 ^ (8 - c0) - 1 : Nat) : Int) := nI_toInt (by omega)
      rw [shl_or (n := 8 - c0) (m := 8) (by omega) (by rw [ei]; omega) (by
        rw [ei]
        have : ((2 ^ (8 - c0) - 1 : Nat) : Int) < ((2 ^ (8 - c0) : Nat) : Int) := Int.ofNat_lt.mpr (by omega)
        push_cast at this ⊢
        exact this) (by decide) (by omega), ei]
      have q1 := Int.emod_add_mul_ediv (F 4 10).toInt (2 ^ c0)
      rw [f10] at q1
      have q3 : ((2 : Int) ^ c0) * 2 ^ (8 - c0) = 2 ^ 8 := by rw [← Int.pow_add, show c0 + (8 - c0) = 8 by omega]
      have q2 : (F 4 10).toInt * 2 ^ (8 - c0) + ((2 ^ (8 - c0) - 1 : Nat) : Int) = ((g0 * 2 ^ (8 - c0) + (2 ^ (8 - c0) - 1) : Nat) : Int) + 2 ^ 8 * ((F 4 10).toInt / 2 ^ c0) := by
        have : (F 4 10).toInt * 2 ^ (8 - c0) = (g0 : Int) * 2 ^ (8 - c0) + 2 ^ 8 * ((F 4 10).toInt / 2 ^ c0) := by
          have q4 : (F 4 10).toInt * 2 ^ (8 - c0) = ((g0 : Int) + 2 ^ c0 * ((F 4 10).toInt / 2 ^ c0)) * 2 ^ (8 - c0) := by rw [q1]
          rw [q4, Int.add_mul, Int.mul_assoc, Int.mul_comm ((F 4 10).toInt / 2 ^ c0), ← Int.mul_assoc, q3]
        rw [this]
        push_cast
        omega
      rw [q2, Int.add_mul_emod_self_left]
      refine Int.emod_eq_of_lt (by omega) ?_
      have : g0 * 2 ^ (8 - c0) + 2 ^ (8 - c0) ≤ 2 ^ c0 * 2 ^ (8 - c0) := by
        rw [← Nat.succ_mul]
        exact Nat.mul_le_mul_right _ hg0
      rw [← Nat.pow_add, show c0 + (8 - c0) = 8 by omega] at this
      have h256 : (2 : Nat) ^ 8 = 256 := by decide
      have h256i : (2 : Int) ^ 8 = 256 := by decide
      omega
    refine v_e_fillUp_0 h1 (fun X => ∃ G, ag [9, 32, 33] [8] M X ∧ agc [410, 411, 501] [6] F G ∧ ((wr0 X G ∧ K2 (G, L, PC a b P)) ∨ ∃ c g, 1 ≤ c ∧ c < 8 ∧ g < 2 ^ c ∧ X.1 32 = nI c ∧ X.1 33 = nI g ∧ rOut X G ∧ G 4 11 = nI 8 ∧ (G 4 10).toInt % 2 ^ 8 = ((g * 2 ^ (8 - c) + (2 ^ (8 - c) - 1) : Nat) : Int) ∧ e_Pa_writeBits_22 UL 4 (G, L, PC a b P) (fun S26 => K2 S26))) ⟨_, ag_refl, agc_f2 agc_refl rfl rfl rfl, Or.inr ⟨c0, g0, by omega, hc0, hg0, m32, m33, rOut_k ho rfl rfl (by rw [vu_ne (by decide)]) (vu_ne (by decide)), by rw [vu_at, upd_at], by rw [vu_at, upd_ne (by decide), upd_at]; exact hv, h2⟩⟩ ?_
    rintro X R ⟨G, ha, hg, hX⟩ hb
    unfold b_fillUp_0 at hb
    rcases hX with ⟨w0, k2⟩ | ⟨c, g, hc1, hc, hgl, x32, x33, hr, g11, g10, h2⟩
    · right
      exact ⟨X, G, ha, hg, w0, hb.1 (by rw [w0.2.1]; decide), k2⟩
    · left
      have hb := hb.2 (by rw [x32]; exact nI_nle (by omega) (by omega))
      rcases q_put1 hc hgl x32 x33 hb with ⟨l8, Z, z1, z2, z3, hR⟩ | ⟨e9, Z, z1, z3, hb⟩
      · refine ⟨_, hR, G, ag_tr ha z1 rfl rfl, hg, Or.inr ⟨c + 1, 2 * g + 1, by omega, l8, by rw [Nat.pow_succ]; omega, z2, z3, rOut_k hr (z1.1 9 rfl) (z1.2 8 rfl) rfl rfl, g11, ?_, h2⟩⟩
        rw [g10]
        have : 2 ^ (8 - c) = 2 * 2 ^ (8 - (c + 1)) := by rw [show 8 - c = (8 - (c + 1)) + 1 by omega, Nat.pow_succ, Nat.mul_comm]
        rw [this]
        have q : (2 * g + 1) * 2 ^ (8 - (c + 1)) = g * (2 * 2 ^ (8 - (c + 1))) + 2 ^ (8 - (c + 1)) := by
          rw [Nat.add_mul, Nat.one_mul, Nat.mul_comm 2 g, Nat.mul_assoc]
        rw [q]
        have p1 : 1 ≤ 2 ^ (8 - (c + 1)) := Nat.pow_pos (by decide)
        congr 1
        omega
      · have h2 := r_e_Pa_writeBits_22 h2
        unfold b_Pa_writeBits_22 at h2
        obtain ⟨-, -, h2⟩ := h2.2 (by show ¬ G 4 11 < 8; rw [g11]; decide)
        have h2 : p_Ro_add UL 5 ((((va_up G 4 (upd (G 4) 11 (G 4 11 - 8))) 4 10) >>> (((va_up G 4 (upd (G 4) 11 (G 4 11 - 8))) 4 11) &&& 31 : Int32) : Int32) &&& 255) (va_up G 4 (upd (G 4) 11 (G 4 11 - 8)), L, PC a b P) (fun S61 => (¬ ((((va_up G 4 (upd (G 4) 11 (G 4 11 - 8))) 4 10) >>> (((va_up G 4 (upd (G 4) 11 (G 4 11 - 8))) 4 11) &&& 31 : Int32) : Int32) &&& 255) = 255 → (b_Pa_writeBits_79 UL 4 S61 (fun zS => e_Pa_writeBits_22 UL 4 zS (fun S26 => K2 S26)) (fun S26 => K2 S26))) ∧ (((((va_up G 4 (upd (G 4) 11 (G 4 11 - 8))) 4 10) >>> (((va_up G 4 (upd (G 4) 11 (G 4 11 - 8))) 4 11) &&& 31 : Int32) : Int32) &&& 255) = 255 → (¬ S61.2.2 4 0 = NU ∧ (c_cl UL (S61.2.2 4 0) = 9 ∧ (p_Ro_add UL (S61.2.2 4 0) 0 S61 (fun S76 => b_Pa_writeBits_79 UL 4 S76 (fun zS => e_Pa_writeBits_22 UL 4 zS (fun S26 => K2 S26)) (fun S26 => K2 S26))))))) := h2
        rw [vu_at, upd_at, upd_ne (show (10 : Nat) ≠ 11 by decide), g11, show (nI 8 - 8 : Int32) = nI 0 by decide] at h2
        have c7 : c = 7 := by omega
        have vv : g * 2 ^ (8 - c) + (2 ^ (8 - c) - 1) = 2 * g + 1 := by
          rw [c7]
          show g * 2 ^ 1 + (2 ^ 1 - 1) = _
          omega
        have g128 : g < 128 := by rw [c7] at hgl; exact hgl
        have byv : ((G 4 10 >>> (nI 0 &&& 31 : Int32) : Int32) &&& 255) = nI (2 * g + 1) := by
          apply Int32.toInt.inj
          rw [by_h (k := 0) (by decide), nI_toInt (by omega), Int.pow_zero, Int.ediv_one]
          have := g10
          rw [vv] at this
          exact this
        rw [byv] at h2
        obtain ⟨T2, G2, a1, a2, a3, a4, hb, h2⟩ := x_put (M := Z) (F := va_up G 4 (upd (G 4) 11 (nI 0))) (rOut_k hr (z1.1 9 rfl) (z1.2 8 rfl) (by rw [vu_ne (by decide)]) (vu_ne (by decide))) (and255 ⟨by rw [nI_toInt (by omega)]; omega, by rw [nI_toInt (by omega)]; omega⟩) hb h2
        have t33 : T2.1 33 = nI (2 * g + 1) := (a1.1 33 rfl).trans z3
        rw [t33] at hb
        have agT : ag [9, 32, 33] [8] M T2 := ag_tr (ag_tr ha z1 rfl rfl) a1 rfl rfl
        have agG : agc [410, 411, 501] [6] F G2 := agc_tr (agc_f hg rfl rfl) a3 rfl rfl
        have hG11 : G2 4 11 = 0 := by rw [a3.1 4 11 rfl rfl, vu_at, upd_at]; rfl
        have fin : ∀ (V : ms) (Y : cF), rOut V Y → Y 4 11 = 0 → ag [9, 32, 33] [8] M V → agc [410, 411, 501] [6] F Y → (∃ X, noB V X ∧ R X) → b_Pa_writeBits_79 UL 4 (Y, L, PC a b P) (fun zS => e_Pa_writeBits_22 UL 4 zS (fun S26 => K2 S26)) (fun S26 => K2 S26) → ∃ zS, R zS ∧ ∃ G, ag [9, 32, 33] [8] M zS ∧ agc [410, 411, 501] [6] F G ∧ ((wr0 zS G ∧ K2 (G, L, PC a b P)) ∨ ∃ c g, 1 ≤ c ∧ c < 8 ∧ g < 2 ^ c ∧ zS.1 32 = nI c ∧ zS.1 33 = nI g ∧ rOut zS G ∧ G 4 11 = nI 8 ∧ (G 4 10).toInt % 2 ^ 8 = ((g * 2 ^ (8 - c) + (2 ^ (8 - c) - 1) : Nat) : Int) ∧ e_Pa_writeBits_22 UL 4 (G, L, PC a b P) (fun S26 => K2 S26)) := by
          rintro V Y ro y11 av ay ⟨X, ⟨nx, n32, n33⟩, hR⟩ h2
          unfold b_Pa_writeBits_79 at h2
          have h2 := r_e_Pa_writeBits_22 h2
          unfold b_Pa_writeBits_22 at h2
          have h2 := h2.1 (by show Y 4 11 < 8; rw [y11]; decide)
          exact ⟨X, hR, Y, ag_tr av nx rfl rfl, ay, Or.inl ⟨⟨rOut_k ro (nx.1 9 rfl) (nx.2 8 rfl) rfl rfl, n32, n33, y11⟩, h2⟩⟩
        refine dt_n hb (fun c9 hb => ?_) (fun c9 hb => ?_)
        · exact fin T2 G2 a4 hG11 agT agG hb (h2.1 c9)
        · obtain ⟨-, -, h2⟩ := h2.2 c9
          have h2 : p_Ro_add UL 5 0 (G2, L, PC a b P) _ := h2
          obtain ⟨T3, G3, d1, d2, d3, d4, hb, h2⟩ := x_put (x := 0) (M := (T2.1, T2.2.1, T2.2.2)) a4 (by decide) hb h2
          exact fin T3 G3 d4 (by rw [d3.1 4 11 rfl rfl]; exact hG11) (ag_tr agT d1 rfl rfl) (agc_tr agG d3 rfl rfl) hb h2
theorem x_mark {M : ms} {x : Int32} (hx : B 0 255 x) (ho : rOut M F) (h1 : p_mark x M K1) (h2 : p_Pa_addMark UL 4 x (F, L, PC a b P) K2) :
    ∃ M' F', ag [9] [8] M M' ∧ agc [501] [6] F F' ∧ rOut M' F' ∧ K1 M' ∧ K2 (F', L, PC a b P) := by
  unfold p_mark at h1
  unfold p_Pa_addMark at h2
  obtain ⟨-, -, h2⟩ := h2
  have h2 : p_Ro_add UL 5 255 (F, L, PC a b P) _ := h2
  obtain ⟨T, G, a1, -, a3, a4, h1, h2⟩ := x_put ho (by decide) h1 h2
  obtain ⟨-, -, h2⟩ := h2
  have h2 : p_Ro_add UL 5 x (G, L, PC a b P) _ := h2
  obtain ⟨T2, G2, b1, -, b3, b4, h1, h2⟩ := x_put (M := (T.1, T.2.1, T.2.2)) a4 (and255 hx) h1 h2
  exact ⟨T2, G2, ag_tr a1 b1 rfl rfl, agc_tr a3 b3 rfl rfl, b4, h1, h2⟩
end FILL

/-! the counting walk and the writing walk -/
/-- whether a pause stands before block T -/
def pzb (e pu T : Nat) : Bool := Nat.blt 0 e && Nat.beq (T % pu) 0 && Nat.blt 0 (T / pu) && Nat.beq (T / pu % e) 0
theorem pzb_i {e pu n t : Nat} (hp : 1 ≤ pu) (ht : t < pu) : pzb e pu (n * pu + t) = true ↔ (t = 0 ∧ pau e n) := by
  have e1 : (n * pu + t) % pu = t := by rw [Nat.mul_comm, Nat.mul_add_mod, Nat.mod_eq_of_lt ht]
  have e2 : (n * pu + t) / pu = n := by rw [Nat.mul_comm, Nat.mul_add_div (by omega), Nat.div_eq_of_lt ht, Nat.add_zero]
  unfold pzb pau
  rw [e1, e2, Bool.and_eq_true, Bool.and_eq_true, Bool.and_eq_true]
  constructor
  · rintro ⟨⟨⟨h1, h2⟩, h3⟩, h4⟩
    exact ⟨Nat.eq_of_beq_eq_true h2, Nat.le_of_ble_eq_true h1, Nat.le_of_ble_eq_true h3, Nat.eq_of_beq_eq_true h4⟩
  · rintro ⟨h1, h2, h3, h4⟩
    exact ⟨⟨⟨Nat.ble_eq_true_of_le h2, by rw [h1]; rfl⟩, Nat.ble_eq_true_of_le h3⟩, by rw [h4]; rfl⟩
/-- the starts before block T (behind its pause), and before its pause -/
def ssq (lev : Nat → Int32) (ov : Nat → Nat) (e pu : Nat) : Nat → Nat → Int32
  | 0 => fun _ => 0
  | T + 1 => if pzb e pu (T + 1) = true then fun _ => 0 else upd (ssq lev ov e pu T) (ov T / 64) (lev (64 * ov T))
def seb (lev : Nat → Int32) (ov : Nat → Nat) (e pu : Nat) : Nat → Nat → Int32
  | 0 => fun _ => 0
  | T + 1 => upd (ssq lev ov e pu T) (ov T / 64) (lev (64 * ov T))
theorem ssq_n {lev : Nat → Int32} {ov : Nat → Nat} {e pu T : Nat} (h : ¬ pzb e pu T = true) : ssq lev ov e pu T = seb lev ov e pu T := by
  cases T with
  | zero => rfl
  | succ T =>
    show (if pzb e pu (T + 1) = true then _ else _) = _
    rw [if_neg h]
    rfl
theorem ssq_p {lev : Nat → Int32} {ov : Nat → Nat} {e pu T : Nat} (h : pzb e pu T = true) : ssq lev ov e pu T = fun _ => 0 := by
  cases T with
  | zero => rfl
  | succ T =>
    show (if pzb e pu (T + 1) = true then _ else _) = _
    rw [if_pos h]
/-- the starts are set back -/
theorem q_reset {i x2 x3 x6 x7 x8 : Int32} {S : ms} {R122 : Int32 → Int32 → Int32 → Int32 → Int32 → Int32 → ms → Prop} {K1 : ms → Prop} (h : b_units_173 i x2 x3 x6 x7 x8 S R122 K1) : ∃ Z, ag [] [53] S Z ∧ (∀ j, j < 3 → Z.2.1 53 j = 0) ∧ b_units_196 i x2 x3 x6 x7 x8 Z R122 K1 := by
  unfold b_units_173 at h
  refine v_e_units_176 h (fun y9 T => ∃ q, y9 = nI q ∧ q ≤ 3 ∧ ag [] [53] S T ∧ ∀ j, j < q → T.2.1 53 j = 0) ⟨0, rfl, by decide, ag_refl, fun j hj => absurd hj (Nat.not_lt_zero _)⟩ ?_
  rintro y9 T R ⟨q, rfl, hq, ha, hc⟩ hb
  unfold b_units_176 at hb
  by_cases e : q = 3
  · right
    subst e
    exact ⟨T, ha, hc, hb.1 (Int32.le_refl _)⟩
  · left
    obtain ⟨-, hR⟩ := hb.2 (nI_ge (b := 3) (by omega) (by decide))
    refine ⟨_, _, hR, q + 1, nI_1 q, by omega, ag_r ha rfl, fun j hj => ?_⟩
    show va_up T.2.1 53 (upd (T.2.1 53) (nI q).toNatClampNeg 0) 53 j = 0
    rw [vu_at, nI_clamp (by omega)]
    by_cases e2 : j = q
    · rw [e2, upd_at]
    · rw [upd_ne e2]
      exact hc j (by omega)
section PASS
variable {a b : Bool} {P : Nat → Nat → Nat} {e pu NT m : Nat} {ov : Nat → Nat} {lev ln : Nat → Int32}
/-- what both walks keep beside -/
def wkI (lev : Nat → Int32) (S : ms) (F : cF) : Prop := rBef S F ∧ rLev S F ∧ S.2.1 19 = lev ∧ lvBd S ∧ stB S
theorem wkI_c {S M' : ms} {F F' : cF} (h : wkI lev S F) (hb : rBef M' F') (e19 : M'.2.1 19 = S.2.1 19) (hf : F' 19 = F 19) (hs : stB M') : wkI lev M' F' := by
  obtain ⟨-, h2, h3, h4, -⟩ := h
  refine ⟨hb, fun k hk => ?_, e19.trans h3, fun k hk => ?_, hs⟩
  · rw [hf, e19]
    exact h2 k hk
  · rw [e19]
    exact h4 k hk
theorem stB_up {S M' : ms} {l bk : Nat} (hl : l < 3) (hbk : bk < 64) (hB : lvBd S) (hs : stB S) (h53 : M'.2.1 53 = upd (S.2.1 53) l (lv S l bk 0)) : stB M' := by
  intro j hj
  rw [h53]
  by_cases q : j = l
  · rw [q, upd_at]
    exact hB _ (by omega)
  · rw [upd_ne q]
    exact hs j hj
def coI (m : Nat) (lev : Nat → Int32) (ov : Nat → Nat) (e pu : Nat) (T : Nat) (S : ms) (F : cF) : Prop := wkI lev S F ∧ ctI m (65 * T) S F ∧ ∀ U, U < T → blkQ (fun c s => 0 < (S.2.1 26 (257 * c + s)).toInt) (ov U / 64) (fun k => lev (64 * ov U + k)) (ssq lev ov e pu U (ov U / 64))
theorem acQ_mono {Q Q' : Nat → Prop} {h : Nat → Int32} (hq : ∀ s, Q s → Q' s) : ∀ m z, acQ Q h m z → acQ Q' h m z
  | 0, z, g => fun q => hq _ (g q)
  | m + 1, z, g => by
    unfold acQ at g ⊢
    by_cases c : h (63 - m) = 0
    · rw [if_pos c] at g ⊢
      exact acQ_mono hq m _ g
    · rw [if_neg c] at g ⊢
      exact ⟨fun q => hq _ (g.1 q), hq _ g.2.1, acQ_mono hq m _ g.2.2⟩
theorem blkQ_mono {Q Q' : Nat → Nat → Prop} {l : Nat} {h : Nat → Int32} {s0 : Int32} (hq : ∀ c s, Q c s → Q' c s) (g : blkQ Q l h s0) : blkQ Q' l h s0 := ⟨hq _ _ g.1, acQ_mono (hq _) _ _ g.2⟩
theorem wk1 (hpu : 1 ≤ pu) (hNT : NT ≤ 192) (hov : ∀ T, T < NT → ov T < 192 ∧ clz (ov T / 64) + 1 < m) :
    WK a b P 1 e pu NT ov (fun T S F => coI m lev ov e pu T S F ∧ ∀ j, j < 3 → S.2.1 53 j = ssq lev ov e pu T j) (fun T S F => coI m lev ov e pu T S F ∧ ∀ j, j < 3 → S.2.1 53 j = seb lev ov e pu T j) := by
  refine ⟨?_, ?_, ?_⟩
  · rintro T S F L K1 K2 hT ⟨⟨⟨w1, w2, w3, w4, w5⟩, hI, hq⟩, hs⟩ h1 h2
    have o := hov T hT
    have eo : 64 * (ov T / 64) + ov T % 64 = ov T := by omega
    rw [← eo] at h2
    obtain ⟨M', F', b1, b2, b3, b4, b5, b6, b7, k1, k2⟩ := x_tell1 (m := m) (n := 65 * T) o.2 (by omega) (by omega) (by omega) w2 w4 w5 w1 hI h1 h2
    have e19 : M'.2.1 19 = S.2.1 19 := b1.2 19 rfl
    have f19 : F' 19 = F 19 := b3.1 19 rfl (by decide) (by decide) (by decide) (by decide) (by decide) (by decide)
    have lv0 : lv S (ov T / 64) (ov T % 64) = fun k => lev (64 * ov T + k) := by
      funext k
      show S.2.1 19 _ = _
      rw [eo, w3]
    refine ⟨M', F', ⟨⟨wkI_c ⟨w1, w2, w3, w4, w5⟩ b4 e19 f19 (stB_up (by omega) (by omega) w4 w5 b2), by rw [show 65 * (T + 1) = 65 * T + 65 by omega]; exact b5, fun U hU => ?_⟩, fun j hj => ?_⟩, ag_tr (ag_refl (fs := [9, 32, 33]) (rs := [8, 26, 53])) b1 rfl rfl, b3, k1, k2⟩
    · by_cases q : U = T
      · subst q
        rw [lv0, hs _ (by omega)] at b7
        exact b7
      · exact blkQ_mono (fun c s q => Int.lt_of_lt_of_le q (b6 _)) (hq U (by omega))
    · rw [b2, lv0]
      show _ = upd (ssq lev ov e pu T) (ov T / 64) (lev (64 * ov T)) j
      by_cases q : j = ov T / 64
      · rw [q, upd_at, upd_at]
        rfl
      · rw [upd_ne q, upd_ne q]
        exact hs j hj
  · rintro n t S F ht hnp ⟨h1, h2⟩
    refine ⟨h1, fun j hj => ?_⟩
    rw [ssq_n (fun q => ?_)]
    · exact h2 j hj
    · have := (pzb_i hpu ht).mp q
      exact hnp this.1 this.2
  · rintro n x3 x6 x7 S F L R122 K1 K2 hp hn ⟨⟨w, hI, hq⟩, hs⟩ - h1 h2
    obtain ⟨Z, z1, z2, h1⟩ := q_reset (h1 (by decide))
    unfold p_Pa_writeAgain at h2
    unfold p_Pa_fillByte b_Pa_fillByte_29 at h2
    have h2 := h2.1 (by show F 4 11 ≤ 0; rw [hI.2.1.2]; decide)
    have h2 := h2.1 hI.2.1.1
    unfold b_Pa_writeAgain_16 at h2
    obtain ⟨-, h2⟩ := h2
    have h2 : p_Ar_fillI UL 58 0 (F, L, PC a b P) (fun S21 => K2 S21) := h2
    obtain ⟨Y, y1, y2, -, h2⟩ := q_fillr (N := 3) rfl (by decide) h2
    have fy : fwk F Y := fwk_u (w := 58) (Or.inr (Or.inl rfl)) y1
    have e26 : Z.2.1 26 = S.2.1 26 := z1.2 26 rfl
    refine ⟨Z, Y, ⟨⟨wkI_c w (fun j hj => by rw [y2 j hj, z2 j hj]) (z1.2 19 rfl) (y1 19 (by decide)) (fun j hj => by rw [z2 j hj]; exact ⟨by decide, by decide⟩), ⟨fun c s hc hs => ?_, by rw [y1 4 (by decide)]; exact hI.2.1, by rw [e26]; exact hI.2.2⟩, by rw [e26]; exact hq⟩, fun j hj => ?_⟩, ag_tr (ag_refl (fs := [9, 32, 33]) (rs := [8, 26, 53])) z1 rfl rfl, fy, h1, h2⟩
    · rw [y1 _ ?_, e26]
      · exact hI.1 c s hc hs
      · have q : c = 0 ∨ c = 1 ∨ c = 2 ∨ c = 3 := by omega
        rcases q with rfl | rfl | rfl | rfl <;> decide
    · have := (pzb_i (e := e) (n := n) (t := 0) hpu (by omega)).mpr ⟨rfl, hp⟩
      rw [Nat.add_zero] at this
      rw [z2 j hj, ssq_p this]
def wwI (lev ln cn : Nat → Int32) (m : Nat) (S : ms) (F : cF) : Prop := wkI lev S F ∧ wtI m S F ∧ (S.2.1 27 = ln ∧ S.2.1 26 = cn)
theorem wk0 {cn : Nat → Int32} (hpu : 1 ≤ pu) (hNT : NT ≤ 192) (hm : m ≤ 4) (hov : ∀ T, T < NT → ov T < 192 ∧ clz (ov T / 64) + 1 < m) (hQ : ∀ U, U < NT → blkQ (fun c s => 0 < (ln (257 * c + s)).toInt) (ov U / 64) (fun k => lev (64 * ov U + k)) (ssq lev ov e pu U (ov U / 64))) :
    WK a b P 0 e pu NT ov (fun T S F => wwI lev ln cn m S F ∧ ∀ j, j < 3 → S.2.1 53 j = ssq lev ov e pu T j) (fun T S F => wwI lev ln cn m S F ∧ ∀ j, j < 3 → S.2.1 53 j = seb lev ov e pu T j) := by
  refine ⟨?_, ?_, ?_⟩
  · rintro T S F L K1 K2 hT ⟨⟨⟨w1, w2, w3, w4, w5⟩, hI, e27⟩, hs⟩ h1 h2
    have o := hov T hT
    have eo : 64 * (ov T / 64) + ov T % 64 = ov T := by omega
    rw [← eo] at h2
    have lv0 : lv S (ov T / 64) (ov T % 64) = fun k => lev (64 * ov T + k) := by
      funext k
      show S.2.1 19 _ = _
      rw [eo, w3]
    obtain ⟨M', F', b1, b2, b3, b4, b5, k1, k2⟩ := x_tell0 (m := m) o.2 hm (by omega) (by omega) w2 w4 w5 w1 hI (by rw [lv0, hs _ (by omega)]; unfold inC; rw [e27.1]; exact hQ T hT) h1 h2
    have e19 : M'.2.1 19 = S.2.1 19 := b1.2 19 rfl
    have f19 : F' 19 = F 19 := b3.1 19 rfl (by decide) (by decide) (by decide) (by decide) (by decide) (by decide)
    refine ⟨M', F', ⟨⟨wkI_c ⟨w1, w2, w3, w4, w5⟩ b4 e19 f19 (stB_up (by omega) (by omega) w4 w5 b2), b5, (b1.2 27 rfl).trans e27.1, (b1.2 26 rfl).trans e27.2⟩, fun j hj => ?_⟩, ag_tr (ag_refl (fs := [9, 32, 33]) (rs := [8, 26, 53])) b1 rfl rfl, b3, k1, k2⟩
    rw [b2, lv0]
    show _ = upd (ssq lev ov e pu T) (ov T / 64) (lev (64 * ov T)) j
    by_cases q : j = ov T / 64
    · rw [q, upd_at, upd_at]
      rfl
    · rw [upd_ne q, upd_ne q]
      exact hs j hj
  · rintro n t S F ht hnp ⟨h1, h2⟩
    refine ⟨h1, fun j hj => ?_⟩
    rw [ssq_n (fun q => ?_)]
    · exact h2 j hj
    · have := (pzb_i hpu ht).mp q
      exact hnp this.1 this.2
  · rintro n x3 x6 x7 S F L R122 K1 K2 hp hn ⟨⟨w, hI, e27⟩, hs⟩ h1 - h2
    have h1 := h1 rfl
    unfold p_Pa_writeAgain at h2
    obtain ⟨M1, F1, a1, a2, a3, h1, h2⟩ := x_fillU hI.1 h1 h2
    obtain ⟨-, h1⟩ := h1
    have f9 : F1 4 9 = 0 := (a2.1 4 9 rfl rfl).trans hI.2.2
    have h2 := h2.2 f9
    have ne1 : 1 ≤ n / e := by
      obtain ⟨p1, p2, p3⟩ := hp
      rw [Nat.one_le_div_iff p1]
      exact Nat.le_of_dvd p2 (Nat.dvd_of_mod_eq_zero p3)
    have nb : n / e ≤ 200 := Nat.le_trans (Nat.div_le_self _ _) (by omega)
    have r8 : (n / e - 1) % 8 < 8 := Nat.mod_lt _ (by decide)
    have em : (208 + (nI (n / e - 1) - nI (n / e - 1) / 8 * 8) : Int32) = nI (208 + (n / e - 1) % 8) := by
      rw [show (nI (n / e - 1) - nI (n / e - 1) / 8 * 8 : Int32) = nI ((n / e - 1) % 8) from pk_rem (d := 8) (by omega) (by decide) (by decide), show (208 : Int32) = nI 208 from rfl, nI_add]
    by_cases he : e < 2 ^ 31
    · rw [pk_div (by omega) hp.1 he, show (1 : Int32) = nI 1 from rfl, pk_sub ne1, em] at h1
      rw [em] at h2
      obtain ⟨M2, F2, c1, c2, c3, h1, h2⟩ := x_mark (M := (M1.1, M1.2.1, M1.2.2)) ⟨by rw [nI_toInt (by omega)]; omega, by rw [nI_toInt (by omega)]; omega⟩ a3.1 h1 h2
      obtain ⟨Z, z1, z2, h1⟩ := q_reset h1
      unfold b_Pa_writeAgain_16 at h2
      obtain ⟨-, h2⟩ := h2
      have h2 : p_Ar_fillI UL 58 0 (F2, L, PC a b P) (fun S21 => K2 S21) := h2
      obtain ⟨Y, y1, y2, -, h2⟩ := q_fillr (N := 3) rfl (by decide) h2
      have a2c : agc [410, 411, 501] [6] F F2 := agc_tr a2 c2 rfl rfl
      have fy : fwk F Y := fwk_tr (fwk_w a2c) (fwk_u (w := 58) (Or.inr (Or.inl rfl)) y1)
      have am2 : ag [9, 32, 33] [8, 53] S Z := ag_tr (ag_tr (ag_tr (ag_refl (fs := [9, 32, 33]) (rs := [8, 53])) a1 rfl rfl) c1 rfl rfl) z1 rfl rfl
      have am : ag [9, 32, 33] [8, 26, 53] S Z := ag_tr (ag_tr (ag_tr (ag_refl (fs := [9, 32, 33]) (rs := [8, 26, 53])) a1 rfl rfl) c1 rfl rfl) z1 rfl rfl
      have o3 : rOut Z Y := rOut_k c3 (z1.1 9 rfl) (z1.2 8 rfl) (by rw [y1 5 (by decide)]) (y1 6 (by decide))
      have w0 : wr0 Z Y := ⟨o3, (z1.1 32 rfl).trans ((c1.1 32 rfl).trans a3.2.1), (z1.1 33 rfl).trans ((c1.1 33 rfl).trans a3.2.2.1), by rw [y1 4 (by decide), c2.1 4 11 rfl rfl]; exact a3.2.2.2⟩
      refine ⟨Z, Y, ⟨⟨wkI_c w (fun j hj => by rw [y2 j hj, z2 j hj]) (am.2 19 rfl) (fy.1 19 rfl (by decide) (by decide) (by decide) (by decide) (by decide) (by decide)) (fun j hj => by rw [z2 j hj]; exact ⟨by decide, by decide⟩), ⟨wr0_wr w0, rCod_k hI.2.1 hm (am.2 27 rfl) (am.2 28 rfl) fy, ?_⟩, (am.2 27 rfl).trans e27.1, (am2.2 26 rfl).trans e27.2⟩, fun j hj => ?_⟩, am, fy, h1, h2⟩
      · rw [y1 4 (by decide), c2.1 4 9 rfl rfl]
        exact f9
      · have := (pzb_i (e := e) (n := n) (t := 0) hpu (by omega)).mpr ⟨rfl, hp⟩
        rw [Nat.add_zero] at this
        rw [z2 j hj, ssq_p this]
    · have : n / e = 0 := Nat.div_eq_of_lt (by omega)
      omega
end PASS

/-! units(..) of the reference begins; arrange of the class -/
section UN
variable {S : ms} {K1 : ms → Prop} {n W H e : Nat} {A D : Nat → Nat} {i : Int32}
theorem q_un99 {x3 x6 x7 : Int32} {T : ms} (h : e_units_99 i (nI e) x3 x6 x7 0 T K1) : ∃ Z, ag [] [53] T Z ∧ (∀ j, j < 3 → Z.2.1 53 j = 0) ∧ e_units_122 i (nI e) x3 x6 x7 0 Z K1 := by
  refine v_e_units_99 h (fun y8 X => ∃ q, y8 = nI q ∧ q ≤ 3 ∧ ag [] [53] T X ∧ ∀ j, j < q → X.2.1 53 j = 0) ⟨0, rfl, by decide, ag_refl, fun j hj => absurd hj (Nat.not_lt_zero _)⟩ ?_
  rintro y8 X R ⟨q, rfl, hq, ha, hc⟩ hb
  unfold b_units_99 at hb
  by_cases e9 : q = 3
  · right
    subst e9
    exact ⟨X, ha, hc, hb.1 (Int32.le_refl _)⟩
  · left
    obtain ⟨-, hR⟩ := hb.2 (nI_ge (b := 3) (by omega) (by decide))
    refine ⟨_, _, hR, q + 1, nI_1 q, by omega, ag_r ha rfl, fun j hj => ?_⟩
    show va_up X.2.1 53 (upd (X.2.1 53) (nI q).toNatClampNeg 0) 53 j = 0
    rw [vu_at, nI_clamp (by omega)]
    by_cases e2 : j = q
    · rw [e2, upd_at]
    · rw [upd_ne e2]
      exact hc j (by omega)
theorem q_units (g : gR 0 S n W H A D) (hz : czR S W H) (h : p_units i (nI e) S K1) :
    (n = 1 ∧ ∃ Z, ag [] [53] S Z ∧ (∀ j, j < 3 → Z.2.1 53 j = 0) ∧ e_units_122 i (nI e) 1 (nI (up (up (W * A 0) (mx A n)) 8)) (nI (up (up (H * D 0) (mx D n)) 8)) 0 Z K1)
    ∨ (n = 3 ∧ ∃ Z, ag [] [53] S Z ∧ (∀ j, j < 3 → Z.2.1 53 j = 0) ∧ e_units_122 i (nI e) 0 (nI (up W (8 * mx A n))) (nI (up H (8 * mx D n))) 0 Z K1) := by
  have n3 := g.n3
  have m1 := g.mA
  have m2 := g.mD
  obtain ⟨z1, z2, z3, z4, z5, z6⟩ := hz
  unfold p_units at h
  obtain ⟨-, h⟩ := h
  rw [show (0 : Int32).toNatClampNeg = 0 from rfl, g.2.2.1] at h
  rcases g.2.2.2.1 with hn | hn
  · left
    refine ⟨hn, ?_⟩
    have gl := g.2.2.2.2.2.2 0 (by omega)
    have b1 := lw_b g.2.2.2.2.1 gl.2.2.1 m1 (mx_ge n 0 (by omega))
    have b2 := lw_b g.2.2.2.2.2.1 gl.2.2.2 m2 (mx_ge n 0 (by omega))
    have h := h.2 (by rw [hn]; rfl)
    unfold b_units_15 at h
    have h := q_greatest1 (q := 0) (by decide) n3 g.2.2.1 g.a h
    have h := q_greatest0 (q := 0) (M := (S.1, S.2.1, S.2.2)) (by decide) n3 g.2.2.1 g.d h
    have h := h.2 (by decide)
    have h := q_layerWide (q := 0) (l := 0) (M := (S.1, S.2.1, S.2.2)) (by decide) g (by omega) h
    rw [show (8 : Int32) = nI 8 from rfl] at h
    have h := q_upward (by omega) (by decide) (by decide) h
    unfold b_units_62 at h
    have h := h.2 (by decide)
    have h := q_layerHigh (q := 0) (l := 0) (M := (S.1, S.2.1, S.2.2)) (by decide) g (by omega) h
    rw [show (8 : Int32) = nI 8 from rfl] at h
    have h := q_upward (by omega) (by decide) (by decide) h
    unfold b_units_94 at h
    exact q_un99 h
  · right
    refine ⟨hn, ?_⟩
    have h := h.1 (by rw [hn]; decide)
    unfold b_units_15 at h
    have h := q_greatest1 (q := 0) (by decide) n3 g.2.2.1 g.a h
    have h := q_greatest0 (q := 0) (M := (S.1, S.2.1, S.2.2)) (by decide) n3 g.2.2.1 g.d h
    have h := h.1 rfl
    have h : p_upward (S.1 1) (8 * nI (mx A n)) _ := h
    rw [z1, show (8 * nI (mx A n) : Int32) = nI (8 * mx A n) from pk_mul 8 _] at h
    have h := q_upward (by omega) (by omega) (by omega) h
    unfold b_units_62 at h
    have h := h.1 rfl
    have h : p_upward (S.1 2) (8 * nI (mx D n)) _ := h
    rw [z2, show (8 * nI (mx D n) : Int32) = nI (8 * mx D n) from pk_mul 8 _] at h
    have h := q_upward (by omega) (by omega) (by omega) h
    unfold b_units_94 at h
    exact q_un99 h
end UN
section ARR
variable {u v : Nat} {a b : Bool} {P : Nat → Nat → Nat} {F : cF} {L : cL} {K : cs → Prop} {n W H m : Nat} {A D ly : Nat → Nat}
/-- the order of the scan's blocks, what arrange leaves: N units of pu blocks; block (l, k) of unit j stands at j pu + its offset -/
def arO (v : Nat) (F : cF) (N pu : Nat) (ov : Nat → Nat) : Prop := F v 4 = nI N ∧ F v 5 = nI pu ∧ F v 6 = nI (N * pu) ∧ ∀ t, t < N * pu → F (v + 4) t = nI (ov t)
theorem up_le {x k : Nat} (hx : x ≤ 64) (hk : 8 ≤ k) : up x k ≤ 8 := by
  unfold up
  have : (x + k - 1) / k ≤ (x + k - 1) / 8 := Nat.div_le_div_left hk (by decide)
  by_cases c : k ≤ 64
  · refine Nat.le_trans (Nat.le_of_lt_succ (Nat.div_lt_of_lt_mul ?_)) (show 8 ≤ 8 from Nat.le_refl _)
    have : 8 * k ≤ k * 9 := by omega
    omega
  · have h2 : (x + k - 1) / k ≤ 1 := Nat.le_of_lt_succ (Nat.div_lt_of_lt_mul (by omega))
    omega
theorem up_ge {x k : Nat} (hx : 1 ≤ x) (hk : 1 ≤ k) : 1 ≤ up x k := by
  unfold up
  exact (Nat.one_le_div_iff (by omega)).mpr (by omega)
/-- arrange with one layer -/
theorem q_arrange1 (hv : isSc v) (hu : isPic u) (g : gC u F n W H A D) (gm : gM u F n W H A D) (h0 : F v 0 = nI 1) (hl : F (v + 1) 0 = nI (ly 0)) (hln : ly 0 < n) (h : p_Sc_arrange UL v u (F, L, PC a b P) K) :
    ∃ Z, (∀ w, w ≠ v → w ≠ v + 4 → Z w = F w) ∧ (∀ k, k ≠ 4 → k ≠ 5 → k ≠ 6 → Z v k = F v k) ∧ arO v Z (up (up (H * D (ly 0)) (mx D n)) 8 * up (up (W * A (ly 0)) (mx A n)) 8) 1 (fun t => 64 * ly 0 + (t / up (up (W * A (ly 0)) (mx A n)) 8 * (A (ly 0) * up W (8 * mx A n)) + t % up (up (W * A (ly 0)) (mx A n)) 8)) ∧ K (Z, L, PC a b P) := by
  have fr := far hv hu
  obtain ⟨g0, g1, g2, g5, g6, gn, gW, gH, gl0⟩ := g
  have gl := gl0 (ly 0) hln
  have gml := gm.2.2 (ly 0) hln
  have m1 : mx A n = 1 ∨ mx A n = 2 := mx_12 n (fun l hl => (gl0 l hl).2.2.1)
  have m2 : mx D n = 1 ∨ mx D n = 2 := mx_12 n (fun l hl => (gl0 l hl).2.2.2)
  have b1 := lw_b gW gl.2.2.1 m1 (mx_ge n (ly 0) hln)
  have b2 := lw_b gH gl.2.2.2 m2 (mx_ge n (ly 0) hln)
  have u1 := up_le (x := up (W * A (ly 0)) (mx A n)) (k := 8) b1.2 (by decide)
  have u2 := up_le (x := up (H * D (ly 0)) (mx D n)) (k := 8) b2.2 (by decide)
  have uu : up (up (H * D (ly 0)) (mx D n)) 8 * up (up (W * A (ly 0)) (mx A n)) 8 ≤ 64 := Nat.le_trans (Nat.mul_le_mul u2 u1) (by decide)
  unfold p_Sc_arrange at h
  dsimp only at h
  rw [vu_at, upd_ne (show (0 : Nat) ≠ 6 by decide), h0] at h
  obtain ⟨-, -, -, h⟩ := h.2 rfl
  rw [sp1 hv, vu_vu, vu_ne (show v + 1 ≠ v by omega), show (0 : Int32).toNatClampNeg = 0 from rfl, hl] at h
  have fu : ∀ w, w ≠ v → va_up F v (upd (upd (F v) 6 0) 5 1) w = F w := fun w hw => vu_ne hw
  obtain ⟨Z, z1, h⟩ := q_alone hv hu (by omega) h (lw := up (W * A (ly 0)) (mx A n)) (lh := up (H * D (ly 0)) (mx D n)) (gw := A (ly 0) * up W (8 * mx A n)) (by rw [fu _ (by omega)]; exact gml.1) b1.2 b1.1 (by rw [fu _ (by omega)]; exact gml.2.1) b2.2 b2.1 (by rw [fu _ (by omega)]; exact gml.2.2.1) (by rw [vu_at, upd_ne (by decide), upd_at]; rfl)
  unfold b_Sc_arrange_46 at h
  dsimp only at h
  have z5 : Z v 5 = nI 1 := by rw [z1.2.1 5 (by decide), vu_at, upd_at]; rfl
  rw [z5, z1.2.2.1, Nat.zero_add] at h
  obtain ⟨-, h⟩ := h.1 (by decide)
  unfold b_Sc_arrange_68 at h
  dsimp only at h
  rw [pk_div (by omega) (by decide) (by decide), Nat.div_one] at h
  refine ⟨_, fun w h1 h2 => ?_, fun k h1 h2 h3 => ?_, ⟨?_, ?_, ?_, fun t ht => ?_⟩, h⟩
  · rw [vu_ne h1, z1.1 w h1 h2]
    exact fu w h1
  · rw [vu_at, upd_ne h1, z1.2.1 k h3, vu_at, upd_ne h2, upd_ne h3]
  · rw [vu_at, upd_at]
  · rw [vu_at, upd_ne (by decide)]
    exact z5
  · rw [vu_at, upd_ne (by decide), z1.2.2.1, Nat.zero_add, Nat.mul_one]
  · rw [vu_ne (show v + 4 ≠ v by omega), z1.2.2.2 t, if_pos (by rw [Nat.mul_one] at ht; omega), Nat.sub_zero]
/-- arrange with several layers -/
theorem q_arrangeN (hv : isSc v) (hu : isPic u) (g : gC u F n W H A D) (gm : gM u F n W H A D) (hm : 2 ≤ m ∧ m ≤ 3) (h0 : F v 0 = nI m) (hl : ∀ i, i < m → F (v + 1) i = nI (ly i) ∧ ly i < n) (hinj : ∀ i j, i < m → j < m → ly i = ly j → i = j) (h : p_Sc_arrange UL v u (F, L, PC a b P) K) :
    ∃ Z ov, (∀ w, w ≠ v → w ≠ v + 4 → Z w = F w) ∧ (∀ k, k ≠ 4 → k ≠ 5 → k ≠ 6 → Z v k = F v k) ∧ arO v Z (up H (8 * mx D n) * up W (8 * mx A n)) (offs A D ly m) ov ∧ (∀ j, j < up H (8 * mx D n) * up W (8 * mx A n) → ∀ i, i < m → ∀ k, k < A (ly i) * D (ly i) → ov (j * offs A D ly m + (offs A D ly i + k)) = bkv A D (fun l => A l * up W (8 * mx A n)) (ly i) (j % up W (8 * mx A n)) (j / up W (8 * mx A n)) k) ∧ K (Z, L, PC a b P) := by
  have fr := far hv hu
  have g' := g
  obtain ⟨g0, g1, g2, g5, g6, gn, gW, gH, gl0⟩ := g
  have m1 : mx A n = 1 ∨ mx A n = 2 := mx_12 n (fun l hl => (gl0 l hl).2.2.1)
  have m2 : mx D n = 1 ∨ mx D n = 2 := mx_12 n (fun l hl => (gl0 l hl).2.2.2)
  have s1 := up_ge (x := W) (k := 8 * mx A n) gW.1 (by omega)
  have s2 := up_ge (x := H) (k := 8 * mx D n) gH.1 (by omega)
  have t1 := up_le (x := W) (k := 8 * mx A n) gW.2 (by omega)
  have t2 := up_le (x := H) (k := 8 * mx D n) gH.2 (by omega)
  -- A l times the stretches: at most 8
  have a8 : ∀ l, l < n → A l * up W (8 * mx A n) ≤ 8 := fun l hl => by
    have ma := mx_ge (A := A) n l hl
    have gg := (gl0 l hl).2.2.1
    unfold up
    rcases gg with e | e <;> rcases m1 with d | d <;> rw [e, d] <;> omega
  have d8 : ∀ l, l < n → D l * up H (8 * mx D n) ≤ 8 := fun l hl => by
    have ma := mx_ge (A := D) n l hl
    have gg := (gl0 l hl).2.2.2
    unfold up
    rcases gg with e | e <;> rcases m2 with d | d <;> rw [e, d] <;> omega
  have tot : ∀ i, i ≤ m → up H (8 * mx D n) * (up W (8 * mx A n) * offs A D ly i) ≤ 64 * i := by
    intro i
    induction i with
    | zero => intro _; show up H (8 * mx D n) * (up W (8 * mx A n) * 0) ≤ 0; rw [Nat.mul_zero, Nat.mul_zero]; exact Nat.le_refl _
    | succ i ih =>
      intro hi
      have q := ih (by omega)
      have lq := hl i (by omega)
      have qa := a8 (ly i) lq.2
      have qd := d8 (ly i) lq.2
      show up H (8 * mx D n) * (up W (8 * mx A n) * (offs A D ly i + A (ly i) * D (ly i))) ≤ 64 * (i + 1)
      rw [Nat.mul_add, Nat.mul_add]
      have : up H (8 * mx D n) * (up W (8 * mx A n) * (A (ly i) * D (ly i))) = (D (ly i) * up H (8 * mx D n)) * (A (ly i) * up W (8 * mx A n)) := by
        rw [Nat.mul_comm (D (ly i)), Nat.mul_assoc, Nat.mul_comm (A (ly i)) (up W (8 * mx A n)), ← Nat.mul_assoc (D (ly i)), Nat.mul_comm (D (ly i)) (up W (8 * mx A n)), Nat.mul_assoc (up W (8 * mx A n)), Nat.mul_comm (D (ly i))]
      rw [this]
      have := Nat.mul_le_mul qd qa
      omega
  have scI0 : ∀ G : cF, (∀ w, w ≠ v → G w = F w) → G v 0 = nI m → scI u v G n m A D (fun l => A l * up W (8 * mx A n)) ly := by
    intro G hG hG0
    refine ⟨hG0, hm.2, fun i hi => ?_, by rcases gn with e | e <;> omega, fun l hl => ?_⟩
    · rw [hG (v + 1) (by omega)]
      exact hl i hi
    · rw [hG (u + 1) (by omega), hG (u + 2) (by omega), hG (u + 5) (by omega)]
      exact ⟨(gl0 l hl).1, (gl0 l hl).2.1, (gl0 l hl).2.2.1, (gl0 l hl).2.2.2, (gm.2.2 l hl).2.2.1⟩
  have o12 : offs A D ly m ≤ 12 := by
    have one : ∀ i, i ≤ m → offs A D ly i ≤ 4 * i := by
      intro i
      induction i with
      | zero => intro _; exact Nat.le_refl _
      | succ i ih =>
        intro hi
        have q := ih (by omega)
        have gg := gl0 (ly i) (hl i (by omega)).2
        show offs A D ly i + A (ly i) * D (ly i) ≤ 4 * (i + 1)
        have : A (ly i) * D (ly i) ≤ 4 := by rcases gg.2.2.1 with e | e <;> rcases gg.2.2.2 with d | d <;> rw [e, d] <;> decide
        omega
    have := one m (Nat.le_refl _)
    omega
  have o1 : 1 ≤ offs A D ly m := by
    have q := offs_le (A := A) (D := D) (ly := ly) (i := 1) m (by omega)
    have q2 : offs A D ly 1 = 0 + A (ly 0) * D (ly 0) := rfl
    have gg := gl0 (ly 0) (hl 0 (by omega)).2
    have : 1 ≤ A (ly 0) * D (ly 0) := by rcases gg.2.2.1 with e | e <;> rcases gg.2.2.2 with d | d <;> rw [e, d] <;> decide
    omega
  unfold p_Sc_arrange at h
  dsimp only at h
  rw [vu_at, upd_ne (show (0 : Nat) ≠ 6 by decide), h0] at h
  have h := h.1 (fun q => by have := (nI_eq (a := m) (b := 1) (by omega) (by decide)).mp q; omega)
  have h := q_blocksT hv hu (scI0 _ (fun w hw => vu_ne hw) (by rw [vu_at, upd_ne (by decide)]; exact h0)) h
  dsimp only at h
  rw [vu_vu, vu_at] at h
  have fu : ∀ w, w ≠ v → va_up F v (upd (upd (F v) 6 0) 5 (nI (offs A D ly m))) w = F w := fun w hw => vu_ne hw
  obtain ⟨Z, f, z1, zf, h⟩ := q_tog (sa := up W (8 * mx A n)) (sd := up H (8 * mx D n)) hv hu (scI0 _ fu (by rw [vu_at, upd_ne (by decide), upd_ne (by decide)]; exact h0)) h (by rw [fu _ (by omega)]; exact gm.1) s1 t1 (by rw [fu _ (by omega)]; exact gm.2.1) t2 (by rw [vu_at, upd_ne (by decide), upd_at]; rfl) (by have := tot m (Nat.le_refl _); omega)
  have tb := tot m (Nat.le_refl _)
  unfold b_Sc_arrange_46 at h
  dsimp only at h
  have z5 : Z v 5 = nI (offs A D ly m) := by rw [z1.2.1 5 (by decide), vu_at, upd_at]
  rw [z5, z1.2.2.1, Nat.zero_add] at h
  obtain ⟨-, h⟩ := h.1 (nI_le (a := 1) o1 (by omega))
  unfold b_Sc_arrange_68 at h
  dsimp only at h
  rw [pk_div (by omega) o1 (by omega), ← Nat.mul_assoc, Nat.mul_div_cancel _ o1] at h
  refine ⟨_, fun t => (f t).toInt.toNat, fun w h1 h2 => ?_, fun k h1 h2 h3 => ?_, ⟨?_, ?_, ?_, fun t ht => ?_⟩, fun j hj i hi k hk => ?_, h⟩
  · rw [vu_ne h1, z1.1 w h1 h2]
    exact fu w h1
  · rw [vu_at, upd_ne h1, z1.2.1 k h3, vu_at, upd_ne h2, upd_ne h3]
  · rw [vu_at, upd_at]
  · rw [vu_at, upd_ne (by decide)]
    exact z5
  · rw [vu_at, upd_ne (by decide), z1.2.2.1, Nat.zero_add, Nat.mul_assoc]
  · rw [vu_ne (show v + 4 ≠ v by omega), z1.2.2.2 t, if_pos (by rw [Nat.mul_assoc] at ht; omega), Nat.sub_zero]
    -- every place of the order is one of the blocks'
    have hd : ∃ j i k, j < up H (8 * mx D n) * up W (8 * mx A n) ∧ i < m ∧ k < A (ly i) * D (ly i) ∧ t = j * offs A D ly m + (offs A D ly i + k) := by
      have hj : t / offs A D ly m < up H (8 * mx D n) * up W (8 * mx A n) := Nat.div_lt_of_lt_mul (by rw [Nat.mul_comm]; exact ht)
      have hr : t % offs A D ly m < offs A D ly m := Nat.mod_lt _ (by omega)
      have hi : ∀ M r, r < offs A D ly M → ∃ i k, i < M ∧ k < A (ly i) * D (ly i) ∧ r = offs A D ly i + k := by
        intro M
        induction M with
        | zero => intro r hr; exact absurd hr (Nat.not_lt_zero _)
        | succ M ih =>
          intro r hr
          have oe : offs A D ly (M + 1) = offs A D ly M + A (ly M) * D (ly M) := rfl
          by_cases c : r < offs A D ly M
          · obtain ⟨i, k, q1, q2, q3⟩ := ih r c
            exact ⟨i, k, by omega, q2, q3⟩
          · exact ⟨M, r - offs A D ly M, by omega, by omega, by omega⟩
      obtain ⟨i, k, q1, q2, q3⟩ := hi m _ hr
      refine ⟨t / offs A D ly m, i, k, hj, q1, q2, ?_⟩
      rw [← q3, Nat.mul_comm]
      exact (Nat.div_add_mod t _).symm
    obtain ⟨j, i, k, q1, q2, q3, rfl⟩ := hd
    show _ = nI (f (j * offs A D ly m + (offs A D ly i + k))).toInt.toNat
    rw [zf j q1 i q2 k q3]
    apply (nI_i _)
    have : bkv A D (fun l => A l * up W (8 * mx A n)) (ly i) (j % up W (8 * mx A n)) (j / up W (8 * mx A n)) k < 2 ^ 31 := by
      have lq := hl i q2
      have gg := gl0 (ly i) lq.2
      have b3 : j % up W (8 * mx A n) ≤ 8 := Nat.le_trans (Nat.le_of_lt (Nat.mod_lt _ (by omega))) t1
      have b4 : j / up W (8 * mx A n) ≤ 8 := Nat.le_trans (Nat.le_of_lt (Nat.div_lt_of_lt_mul (by rw [Nat.mul_comm]; exact q1))) t2
      have a2 : A (ly i) ≤ 2 := by omega
      have d2 : D (ly i) ≤ 2 := by omega
      have k4 : k ≤ 4 := by
        have : A (ly i) * D (ly i) ≤ 4 := Nat.mul_le_mul a2 d2
        omega
      have qa := a8 (ly i) lq.2
      unfold bkv
      have e1 : j / up W (8 * mx A n) * D (ly i) ≤ 8 * 2 := Nat.mul_le_mul b4 d2
      have e2 : k / A (ly i) ≤ 4 := Nat.le_trans (Nat.div_le_self _ _) k4
      have e3 : (j / up W (8 * mx A n) * D (ly i) + k / A (ly i)) * (A (ly i) * up W (8 * mx A n)) ≤ 20 * 8 := Nat.mul_le_mul (by omega) qa
      have e4 : j % up W (8 * mx A n) * A (ly i) ≤ 8 * 2 := Nat.mul_le_mul b3 a2
      have e5 : k % A (ly i) ≤ 4 := Nat.le_trans (Nat.mod_le _ _) k4
      have n3 : n ≤ 3 := by rcases gn with e | e <;> omega
      have lb := lq.2
      dsimp only
      omega
    rw [nI_toInt this]
    omega
  · show (f (j * offs A D ly m + (offs A D ly i + k))).toInt.toNat = _
    rw [zf j hj i hi k hk]
    have : bkv A D (fun l => A l * up W (8 * mx A n)) (ly i) (j % up W (8 * mx A n)) (j / up W (8 * mx A n)) k < 2 ^ 31 := by
      have lq := hl i hi
      have gg := gl0 (ly i) lq.2
      have b3 : j % up W (8 * mx A n) ≤ 8 := Nat.le_trans (Nat.le_of_lt (Nat.mod_lt _ (by omega))) t1
      have b4 : j / up W (8 * mx A n) ≤ 8 := Nat.le_trans (Nat.le_of_lt (Nat.div_lt_of_lt_mul (by rw [Nat.mul_comm]; exact hj))) t2
      have a2 : A (ly i) ≤ 2 := by omega
      have d2 : D (ly i) ≤ 2 := by omega
      have k4 : k ≤ 4 := by
        have : A (ly i) * D (ly i) ≤ 4 := Nat.mul_le_mul a2 d2
        omega
      have qa := a8 (ly i) lq.2
      unfold bkv
      have e1 : j / up W (8 * mx A n) * D (ly i) ≤ 8 * 2 := Nat.mul_le_mul b4 d2
      have e2 : k / A (ly i) ≤ 4 := Nat.le_trans (Nat.div_le_self _ _) k4
      have e3 : (j / up W (8 * mx A n) * D (ly i) + k / A (ly i)) * (A (ly i) * up W (8 * mx A n)) ≤ 20 * 8 := Nat.mul_le_mul (by omega) qa
      have e4 : j % up W (8 * mx A n) * A (ly i) ≤ 8 * 2 := Nat.mul_le_mul b3 a2
      have e5 : k % A (ly i) ≤ 4 := Nat.le_trans (Nat.mod_le _ _) k4
      have n3 : n ≤ 3 := by rcases gn with e | e <;> omega
      have lb := lq.2
      dsimp only
      omega
    rw [nI_toInt this]
    omega
end ARR

/-! CODES: the symbols that are used, by how often they come; both sides at once -/
/-- n symbols stand in order: in the reference's rows 29, 30 and the class's row 28; wt: how often -/
def srt (wt : Nat → Int32) (n s : Nat) (W M C : Nat → Int32) : Prop :=
  (∀ k, k < n → ∃ m, m < s ∧ m ≤ 256 ∧ M k = nI m ∧ C k = nI m ∧ W k = wt m ∧ (m = 256 ∨ 0 < (wt m).toInt)) ∧
  (∀ k, k + 1 < n → (W k).toInt ≤ (W (k + 1)).toInt) ∧
  (∀ k j, k < n → j < n → M k = M j → k = j) ∧
  (∀ m, m < s → (m = 256 ∨ 0 < (wt m).toInt) → ∃ k, k < n ∧ M k = nI m)
theorem srt_ins {wt W M C W' M' C' : Nat → Int32} {n s j : Nat} (h : srt wt n s W M C) (hs : s ≤ 256) (hu : s = 256 ∨ 0 < (wt s).toInt) (hj : j ≤ n)
    (w1 : ∀ k, k < j → W' k = W k ∧ M' k = M k ∧ C' k = C k) (w2 : W' j = wt s ∧ M' j = nI s ∧ C' j = nI s) (w3 : ∀ k, j ≤ k → k < n → W' (k + 1) = W k ∧ M' (k + 1) = M k ∧ C' (k + 1) = C k)
    (hlo : ∀ k, k + 1 = j → (W k).toInt ≤ (wt s).toInt) (hhi : ∀ k, j ≤ k → k < n → (wt s).toInt < (W k).toInt) : srt wt (n + 1) (s + 1) W' M' C' := by
  obtain ⟨b1, b2, b3, b4⟩ := h
  -- where the k-th of the new ones stood before
  have old : ∀ k, k < n + 1 → k ≠ j → ∃ q, q < n ∧ W' k = W q ∧ M' k = M q ∧ C' k = C q ∧ ((k < j ∧ q = k) ∨ (j < k ∧ q + 1 = k)) := by
    intro k hk hkj
    by_cases e : k < j
    · obtain ⟨x1, x2, x3⟩ := w1 k e
      exact ⟨k, by omega, x1, x2, x3, Or.inl ⟨e, rfl⟩⟩
    · obtain ⟨q, rfl⟩ : ∃ q, k = q + 1 := ⟨k - 1, by omega⟩
      obtain ⟨x1, x2, x3⟩ := w3 q (by omega) (by omega)
      exact ⟨q, by omega, x1, x2, x3, Or.inr ⟨by omega, rfl⟩⟩
  refine ⟨fun k hk => ?_, fun k hk => ?_, fun k i hk hi e => ?_, fun m hm hmu => ?_⟩
  · by_cases e : k = j
    · subst e
      exact ⟨s, by omega, hs, w2.2.1, w2.2.2, w2.1, hu⟩
    · obtain ⟨q, hq, x1, x2, x3, -⟩ := old k hk e
      obtain ⟨m, m1, m2, m3, m4, m5, m6⟩ := b1 q hq
      exact ⟨m, by omega, m2, x2.trans m3, x3.trans m4, x1.trans m5, m6⟩
  · by_cases e : k = j
    · subst e
      obtain ⟨x1, -, -⟩ := w3 k (Nat.le_refl _) (by omega)
      rw [w2.1, x1]
      exact Int.le_of_lt (hhi k (Nat.le_refl _) (by omega))
    · by_cases e2 : k + 1 = j
      · rw [e2, w2.1, (w1 k (by omega)).1]
        exact hlo k e2
      · by_cases e3 : k < j
        · rw [(w1 k e3).1, (w1 (k + 1) (by omega)).1]
          exact b2 k (by omega)
        · obtain ⟨q, rfl⟩ : ∃ q, k = q + 1 := ⟨k - 1, by omega⟩
          rw [(w3 q (by omega) (by omega)).1, (w3 (q + 1) (by omega) (by omega)).1]
          exact b2 q (by omega)
  · have fresh : ∀ q, q < n → M q ≠ nI s := by
      intro q hq ee
      obtain ⟨m, m1, m2, m3, -⟩ := b1 q hq
      rw [m3] at ee
      have := (nI_eq (a := m) (b := s) (by omega) (by omega)).mp ee
      omega
    by_cases e1 : k = j
    · by_cases e2 : i = j
      · omega
      · obtain ⟨q, hq, -, x2, -, -⟩ := old i hi e2
        rw [e1, w2.2.1, x2] at e
        exact absurd e.symm (fresh q hq)
    · obtain ⟨q, hq, -, x2, -, xq⟩ := old k hk e1
      by_cases e2 : i = j
      · rw [e2, w2.2.1, x2] at e
        exact absurd e (fresh q hq)
      · obtain ⟨q', hq', -, x2', -, xq'⟩ := old i hi e2
        rw [x2, x2'] at e
        have := b3 q q' hq hq' e
        omega
  · by_cases e : m = s
    · subst e
      exact ⟨j, by omega, w2.2.1⟩
    · obtain ⟨k, hk, ek⟩ := b4 m (by omega) hmu
      by_cases e2 : k < j
      · exact ⟨k, by omega, (w1 k e2).2.1.trans ek⟩
      · exact ⟨k + 1, by omega, (w3 k (by omega) hk).2.1.trans ek⟩
theorem srt_skip {wt W M C : Nat → Int32} {n s : Nat} (h : srt wt n s W M C) (hu : ¬ (s = 256 ∨ 0 < (wt s).toInt)) : srt wt n (s + 1) W M C := by
  obtain ⟨b1, b2, b3, b4⟩ := h
  refine ⟨fun k hk => ?_, b2, b3, fun m hm hmu => ?_⟩
  · obtain ⟨m, m1, m2⟩ := b1 k hk
    exact ⟨m, by omega, m2⟩
  · by_cases e : m = s
    · subst e
      exact absurd hmu hu
    · exact b4 m (by omega) hmu
section SORT
variable {S : ms} {F : cF} {L : cL} {a b : Bool} {P : Nat → Nat → Nat} {K1 : ms → Prop} {K2 : cs → Prop} {c v : Nat}
theorem m1_n {j : Nat} (h : 1 ≤ j) : (nI j - 1 : Int32) = nI (j - 1) := by rw [show (1 : Int32) = nI 1 from rfl, pk_sub h]
/-- a symbol comes to its place -/
theorem x_ins {n s : Nat} {R4 : Int32 → Int32 → Int32 → ms → Prop} {R7 : Nat → Int32 → cs → Prop} (hn : n ≤ 256) (hs : s ≤ 256) (hv : isOc v) (hu : s = 256 ∨ 0 < (F (v + 1) s).toInt) (h : srt (F (v + 1)) n s (S.2.1 29) (S.2.1 30) (F 28)) (hc : F 27 1 = nI n)
    (h1 : e_makeCode_74 (nI c) (nI n) (nI s) (nI n) (F (v + 1) s) S R4 K1) (h2 : e_Li_sortSymbols_32 UL 27 (v + 1) (nI s) (nI n) (F, L, PC a b P) R7 K2) :
    ∃ M' F', ag [] [29, 30] S M' ∧ (∀ w, w ≠ 27 → w ≠ 28 → F' w = F w) ∧ (∀ k, k ≠ 1 → F' 27 k = F 27 k) ∧ F' 27 1 = nI (n + 1) ∧ srt (F (v + 1)) (n + 1) (s + 1) (M'.2.1 29) (M'.2.1 30) (F' 28) ∧ R4 (nI c) (nI n + 1) (nI s + 1) M' ∧ R7 (v + 1) (nI s + 1) (F', L, PC a b P) := by
  have v27 : v + 1 ≠ 27 ∧ v + 1 ≠ 28 := by rcases hv with rfl | rfl | rfl | rfl <;> decide
  refine v_e_makeCode_74 h1 (fun y2 y4 T => y2 = nI n ∧ ∃ j G, y4 = nI j ∧ j ≤ n ∧ e_Li_sortSymbols_32 UL 27 (v + 1) (nI s) (nI j) (G, L, PC a b P) R7 K2 ∧ ag [] [29, 30] S T ∧ (∀ w, w ≠ 28 → G w = F w) ∧ (∀ k, k < j → T.2.1 29 k = S.2.1 29 k ∧ T.2.1 30 k = S.2.1 30 k ∧ G 28 k = F 28 k) ∧ (∀ k, j ≤ k → k < n → T.2.1 29 (k + 1) = S.2.1 29 k ∧ T.2.1 30 (k + 1) = S.2.1 30 k ∧ G 28 (k + 1) = F 28 k) ∧ ∀ k, j ≤ k → k < n → (F (v + 1) s).toInt < (S.2.1 29 k).toInt) ⟨rfl, n, F, rfl, Nat.le_refl _, h2, ag_refl, fun _ _ => rfl, fun _ _ => ⟨rfl, rfl, rfl⟩, fun k q1 q2 => absurd q2 (by omega), fun k q1 q2 => absurd q2 (by omega)⟩ ?_
  rintro y2 y4 T R ⟨rfl, j, G, rfl, hj, h2, ha, hg, w1, w3, hhi⟩ hb
  have gv : G (v + 1) = F (v + 1) := hg _ v27.2
  have cj : (nI j).toNatClampNeg = j := nI_clamp (by omega)
  have cs' : (nI s).toNatClampNeg = s := nI_clamp (by omega)
  have p0 : (PC a b P) 27 0 = 28 := rfl
  unfold b_makeCode_74 at hb
  have h2 := r_e_Li_sortSymbols_32 h2
  unfold b_Li_sortSymbols_32 at h2
  have put : (∀ k, k + 1 = j → (S.2.1 29 k).toInt ≤ (F (v + 1) s).toInt) → b_makeCode_131 (nI c) (nI n) (nI s) (nI j) (F (v + 1) s) T R4 K1 → b_Li_sortSymbols_72 UL 27 (v + 1) (nI s) (nI j) (G, L, PC a b P) R7 K2 → ∃ M' F', ag [] [29, 30] S M' ∧ (∀ w, w ≠ 27 → w ≠ 28 → F' w = F w) ∧ (∀ k, k ≠ 1 → F' 27 k = F 27 k) ∧ F' 27 1 = nI (n + 1) ∧ srt (F (v + 1)) (n + 1) (s + 1) (M'.2.1 29) (M'.2.1 30) (F' 28) ∧ R4 (nI c) (nI n + 1) (nI s + 1) M' ∧ R7 (v + 1) (nI s + 1) (F', L, PC a b P) := by
    intro hlo hb h2
    unfold b_makeCode_131 b_makeCode_151 at hb
    obtain ⟨-, -, hb⟩ := hb
    rw [cj] at hb
    unfold b_Li_sortSymbols_72 b_Li_sortSymbols_89 at h2
    obtain ⟨-, -, -, h2⟩ := h2
    have h2 : R7 (v + 1) (nI s + 1) (va_up (va_up G 28 (upd (G 28) (nI j).toNatClampNeg (nI s))) 27 (upd ((va_up G 28 (upd (G 28) (nI j).toNatClampNeg (nI s))) 27) 1 ((va_up G 28 (upd (G 28) (nI j).toNatClampNeg (nI s))) 27 1 + 1)), L, PC a b P) := h2
    rw [cj] at h2
    refine ⟨_, _, ag_r (T := (T.1, va_up T.2.1 29 (upd (T.2.1 29) j (F (v + 1) s)), T.2.2)) (ag_r ha rfl) rfl, ?_, ?_, ?_, ?_, hb, h2⟩
    · intro w q1 q2
      rw [vu_ne q1, vu_ne q2]
      exact hg w q2
    · intro k hk
      rw [vu_at, upd_ne hk, vu_ne (by decide), hg 27 (by decide)]
    · rw [vu_at, upd_at, vu_ne (by decide), hg 27 (by decide), hc, nI_1]
    · have r29 : (T.1, va_up (va_up T.2.1 29 (upd (T.2.1 29) j (F (v + 1) s))) 30 (upd ((va_up T.2.1 29 (upd (T.2.1 29) j (F (v + 1) s))) 30) j (nI s)), T.2.2).2.1 29 = upd (T.2.1 29) j (F (v + 1) s) := by
        dsimp only
        rw [vu_ne (by decide), vu_at]
      have r30 : (T.1, va_up (va_up T.2.1 29 (upd (T.2.1 29) j (F (v + 1) s))) 30 (upd ((va_up T.2.1 29 (upd (T.2.1 29) j (F (v + 1) s))) 30) j (nI s)), T.2.2).2.1 30 = upd (T.2.1 30) j (nI s) := by
        dsimp only
        rw [vu_at, vu_ne (by decide)]
      rw [r29, r30, vu_ne (show (28 : Nat) ≠ 27 by decide), vu_at]
      refine srt_ins h hs hu hj (fun k hk => ?_) ⟨upd_at, upd_at, upd_at⟩ (fun k q1 q2 => ?_) hlo hhi
      · rw [upd_ne (by omega), upd_ne (by omega), upd_ne (by omega)]
        exact w1 k hk
      · rw [upd_ne (by omega), upd_ne (by omega), upd_ne (by omega)]
        exact w3 k q1 q2
  by_cases e0 : j = 0
  · right
    subst e0
    exact put (fun k q => absurd q (by omega)) (hb.1 (by decide)) (h2.1 (by decide))
  · obtain ⟨-, hb⟩ := hb.2 (nI_nle (by omega) (by omega))
    obtain ⟨-, -, -, -, -, -, h2⟩ := h2.2 (nI_nle (by omega) (by omega))
    have cj1 : (nI (j - 1)).toNatClampNeg = j - 1 := nI_clamp (by omega)
    rw [m1_n (by omega), cj1] at hb
    have wj := w1 (j - 1) (by omega)
    obtain ⟨m, q1, q2, q3, q4, q5, q6⟩ := h.1 (j - 1) (by omega)
    have g28 : G 28 (j - 1) = nI m := wj.2.2.trans q4
    have h2 : (G (v + 1) (G 28 (nI j - 1 : Int32).toNatClampNeg).toNatClampNeg ≤ G (v + 1) (nI s).toNatClampNeg → b_Li_sortSymbols_72 UL 27 (v + 1) (nI s) (nI j) (G, L, PC a b P) R7 K2) ∧ (¬ G (v + 1) (G 28 (nI j - 1 : Int32).toNatClampNeg).toNatClampNeg ≤ G (v + 1) (nI s).toNatClampNeg → _ ∧ _ ∧ _ ∧ _ ∧ e_Li_sortSymbols_32 UL 27 (v + 1) (nI s) (nI j + (-1)) (va_up G 28 (upd (G 28) (nI j).toNatClampNeg (G 28 (nI j - 1 : Int32).toNatClampNeg)), L, PC a b P) R7 K2) := h2
    rw [m1_n (by omega), cj1, g28, nI_clamp (show m < 2 ^ 31 by omega), cs', cj, gv] at h2
    rw [wj.1, q5] at hb
    by_cases ew : F (v + 1) m ≤ F (v + 1) s
    · right
      refine put (fun k hk => ?_) (hb.1 ew) (h2.1 ew)
      obtain rfl : k = j - 1 := by omega
      rw [q5]
      exact i_le ew
    · left
      obtain ⟨-, -, -, -, hR⟩ := hb.2 ew
      obtain ⟨-, -, -, -, h2⟩ := h2.2 ew
      have ej : (nI j + (-1) : Int32) = nI (j - 1) := by
        obtain ⟨j', rfl⟩ : ∃ j', j = j' + 1 := ⟨j - 1, by omega⟩
        exact pk_m1 j'
      rw [cj] at hR
      rw [ej] at h2
      refine ⟨_, _, _, hR, rfl, j - 1, _, ej, by omega, h2, ag_r (T := (T.1, va_up T.2.1 29 (upd (T.2.1 29) j (F (v + 1) m)), T.2.2)) (ag_r ha rfl) rfl, fun w hw => (vu_ne hw).trans (hg w hw), fun k hk => ?_, fun k k1 k2 => ?_, fun k k1 k2 => ?_⟩
      · dsimp only
        rw [vu_ne (show (29 : Nat) ≠ 30 by decide), vu_at, vu_at, vu_at, vu_ne (show (30 : Nat) ≠ 29 by decide), upd_ne (by omega), upd_ne (by omega), upd_ne (by omega)]
        exact w1 k (by omega)
      · dsimp only
        rw [vu_ne (show (29 : Nat) ≠ 30 by decide), vu_at, vu_at, vu_at, vu_ne (show (30 : Nat) ≠ 29 by decide)]
        by_cases ek : k + 1 = j
        · have ek' : k = j - 1 := by omega
          rw [ek, upd_at, upd_at, upd_at, ek', q5, q4]
          exact ⟨rfl, wj.2.1, rfl⟩
        · rw [upd_ne ek, upd_ne ek, upd_ne ek]
          exact w3 k (by omega) k2
      · by_cases ek : k + 1 = j
        · obtain rfl : k = j - 1 := by omega
          rw [q5]
          exact i_lt (nle_lt ew)
        · exact hhi k (by omega) k2
/-- all symbols -/
theorem x_sort (hc3 : c ≤ 3) (hv : isOc v) (hof : ∀ s, s < 256 → F (v + 1) s = S.2.1 26 (257 * c + s)) (h256 : F (v + 1) 256 = 0) (h255 : ¬ 0 < (F (v + 1) 255).toInt) (h1 : p_makeCode (nI c) S K1) (h2 : p_Li_sortSymbols UL 27 (v + 1) (F, L, PC a b P) K2) :
    ∃ M' F' n, ag [] [27, 29, 30] S M' ∧ (∀ j, M'.2.1 27 j = if 257 * c ≤ j ∧ j < 257 * c + 257 then 0 else S.2.1 27 j) ∧ (∀ w, w ≠ 27 → w ≠ 28 → F' w = F w) ∧ (∀ k, k ≠ 1 → F' 27 k = F 27 k) ∧ F' 27 1 = nI n ∧ 1 ≤ n ∧ n ≤ 256 ∧ srt (F (v + 1)) n 257 (M'.2.1 29) (M'.2.1 30) (F' 28) ∧ e_makeCode_162 (nI c) (nI n) (nI n) 1 M' K1 ∧ K2 (F', L, PC a b P) := by
  have v27 : v + 1 ≠ 27 ∧ v + 1 ≠ 28 := by rcases hv with rfl | rfl | rfl | rfl <;> decide
  unfold p_makeCode at h1
  unfold p_Li_sortSymbols at h2
  have h2 : e_Li_sortSymbols_7 UL 27 (v + 1) 0 (va_up F 27 (upd (F 27) 1 0), L, PC a b P) K2 := h2
  refine v_e_makeCode_4 h1 (fun y2 y3 T => ∃ n s G, y2 = nI n ∧ y3 = nI s ∧ s ≤ 257 ∧ n ≤ s ∧ (256 ≤ s → n + 1 ≤ s) ∧ e_Li_sortSymbols_7 UL 27 (v + 1) (nI s) (G, L, PC a b P) K2 ∧ ag [] [27, 29, 30] S T ∧ (∀ j, T.2.1 27 j = if 257 * c ≤ j ∧ j < 257 * c + s then 0 else S.2.1 27 j) ∧ (∀ w, w ≠ 27 → w ≠ 28 → G w = F w) ∧ (∀ k, k ≠ 1 → G 27 k = F 27 k) ∧ G 27 1 = nI n ∧ srt (F (v + 1)) n s (T.2.1 29) (T.2.1 30) (G 28)) ⟨0, 0, _, rfl, rfl, by decide, Nat.le_refl _, fun q => absurd q (by decide), h2, ag_refl, fun j => by rw [if_neg (by omega)], fun w q _ => vu_ne q, fun k hk => by rw [vu_at, upd_ne hk], by rw [vu_at, upd_at]; rfl, ⟨fun k hk => absurd hk (by omega), fun k hk => absurd hk (by omega), fun k j hk => absurd hk (by omega), fun m hm => absurd hm (by omega)⟩⟩ ?_
  rintro y2 y3 T R ⟨n, s, G, rfl, rfl, hs, hns, hn6, h2, ha, h27, hg, hg2, hg1, hsr⟩ hb
  have gv : G (v + 1) = F (v + 1) := hg _ v27.1 v27.2
  unfold b_makeCode_4 at hb
  have h2 := r_e_Li_sortSymbols_7 h2
  unfold b_Li_sortSymbols_7 at h2
  by_cases e : s = 257
  · right
    subst e
    obtain ⟨k, hk, -⟩ := hsr.2.2.2 256 (by decide) (Or.inl rfl)
    refine ⟨T, G, n, ha, h27, hg, hg2, hg1, by omega, by have := hn6 (by decide); omega, hsr, hb.1 (by decide), h2.1 (Int32.le_refl _)⟩
  · left
    have cs' : (nI s).toNatClampNeg = s := nI_clamp (by omega)
    obtain ⟨-, hb⟩ := hb.2 (nI_nlt (a := 256) (by omega) (by omega))
    obtain ⟨-, -, h2⟩ := h2.2 (nI_ge (b := 257) (by omega) (by decide))
    have h2 : (0 < G (v + 1) (nI s).toNatClampNeg → e_Li_sortSymbols_32 UL 27 (v + 1) (nI s) (G 27 1) (G, L, PC a b P) (fun zx1 zx2 zS => e_Li_sortSymbols_7 UL 27 zx1 zx2 zS K2) K2) ∧ (¬ 0 < G (v + 1) (nI s).toNatClampNeg → (¬ nI s = 256 → e_Li_sortSymbols_7 UL 27 (v + 1) (nI s + 1) (G, L, PC a b P) K2) ∧ (nI s = 256 → e_Li_sortSymbols_32 UL 27 (v + 1) (nI s) (G 27 1) (G, L, PC a b P) (fun zx1 zx2 zS => e_Li_sortSymbols_7 UL 27 zx1 zx2 zS K2) K2)) := h2
    rw [cs', gv, hg1] at h2
    rw [n257, nI_clamp (show 257 * c + s < 2 ^ 31 by omega), vu_ne (show (26 : Nat) ≠ 27 by decide)] at hb
    have e26 : T.2.1 26 = S.2.1 26 := ha.2 26 rfl
    have z0 : (0 : Int32).toInt = 0 := by decide
    -- the state behind lengths[..] = 0
    have aU : ag [] [27, 29, 30] S (T.1, va_up T.2.1 27 (upd (T.2.1 27) (257 * c + s) 0), T.2.2) := ag_r ha rfl
    have u27 : ∀ j, va_up T.2.1 27 (upd (T.2.1 27) (257 * c + s) 0) 27 j = if 257 * c ≤ j ∧ j < 257 * c + (s + 1) then 0 else S.2.1 27 j := by
      intro j
      rw [vu_at]
      by_cases ej : j = 257 * c + s
      · rw [ej, upd_at, if_pos (by omega)]
      · rw [upd_ne ej, h27 j]
        by_cases e2 : 257 * c ≤ j ∧ j < 257 * c + s
        · rw [if_pos e2, if_pos (by omega)]
        · rw [if_neg e2, if_neg (by omega)]
    have sU : srt (F (v + 1)) n s (va_up T.2.1 27 (upd (T.2.1 27) (257 * c + s) 0) 29) (va_up T.2.1 27 (upd (T.2.1 27) (257 * c + s) 0) 30) (G 28) := by
      rw [vu_ne (by decide), vu_ne (by decide)]
      exact hsr
    have go : (s = 256 ∨ 0 < (F (v + 1) s).toInt) → e_makeCode_74 (nI c) (nI n) (nI s) (nI n) (F (v + 1) s) (T.1, va_up T.2.1 27 (upd (T.2.1 27) (257 * c + s) 0), T.2.2) R K1 → e_Li_sortSymbols_32 UL 27 (v + 1) (nI s) (nI n) (G, L, PC a b P) (fun zx1 zx2 zS => e_Li_sortSymbols_7 UL 27 zx1 zx2 zS K2) K2 → ∃ (zx2 zx3 : Int32) (zS : ms), R (nI c) zx2 zx3 zS ∧ ∃ n s G, zx2 = nI n ∧ zx3 = nI s ∧ s ≤ 257 ∧ n ≤ s ∧ (256 ≤ s → n + 1 ≤ s) ∧ e_Li_sortSymbols_7 UL 27 (v + 1) (nI s) (G, L, PC a b P) K2 ∧ ag [] [27, 29, 30] S zS ∧ (∀ j, zS.2.1 27 j = if 257 * c ≤ j ∧ j < 257 * c + s then 0 else S.2.1 27 j) ∧ (∀ w, w ≠ 27 → w ≠ 28 → G w = F w) ∧ (∀ k, k ≠ 1 → G 27 k = F 27 k) ∧ G 27 1 = nI n ∧ srt (F (v + 1)) n s (zS.2.1 29) (zS.2.1 30) (G 28) := by
      intro hu hb h2
      have n256 : n ≤ 256 := by omega
      obtain ⟨M', F', x1, x2, x3, x4, x5, k1, k2⟩ := x_ins (c := c) (v := v) (S := (T.1, va_up T.2.1 27 (upd (T.2.1 27) (257 * c + s) 0), T.2.2)) (F := G) (n := n) (s := s) n256 (by omega) hv (by rw [gv]; exact hu) (by rw [gv]; exact sU) hg1 (by rw [gv]; exact hb) h2
      rw [nI_1] at k2
      refine ⟨_, _, _, k1, n + 1, s + 1, F', nI_1 n, nI_1 s, by omega, by omega, fun q => ?_, k2, ag_tr aU x1 rfl rfl, fun j => ?_, fun w q1 q2 => (x2 w q1 q2).trans (hg w q1 q2), fun k hk => (x3 k hk).trans (hg2 k hk), x4, by rw [gv] at x5; exact x5⟩
      · by_cases e5 : s = 255
        · subst e5
          rcases hu with hu | hu
          · exact absurd hu (by decide)
          · exact absurd hu h255
        · have := hn6 (by omega)
          omega
      · rw [x1.2 27 rfl]
        exact u27 j
    by_cases e6 : s = 256
    · subst e6
      have hb := hb.1 rfl
      unfold b_makeCode_46 at hb
      have hb := hb.2 rfl
      unfold b_makeCode_72 at hb
      refine go (Or.inl rfl) (by rw [h256]; exact hb) ?_
      exact (h2.2 (by rw [h256]; decide)).2 rfl
    · have ne6 : ¬ nI s = 256 := fun q => e6 ((nI_eq (a := s) (b := 256) (by omega) (by decide)).mp q)
      obtain ⟨-, hb⟩ := hb.2 ne6
      rw [e26, ← hof s (by omega)] at hb
      by_cases ew : F (v + 1) s ≤ 0
      · have hb := hb.1 ew
        have h2 := (h2.2 (fun q => by have := i_le ew; have := i_lt q; omega)).1 ne6
        unfold b_makeCode_151 at hb
        rw [nI_1] at h2
        refine ⟨_, _, _, hb, n, s + 1, G, rfl, nI_1 s, by omega, by omega, fun q => by omega, h2, aU, u27, hg, hg2, hg1, srt_skip sU (fun q => ?_)⟩
        have := i_le ew
        rcases q with q | q <;> omega
      · have hb := hb.2 ew
        unfold b_makeCode_46 at hb
        obtain ⟨-, hb⟩ := hb.1 ne6
        unfold b_makeCode_72 at hb
        have hb : e_makeCode_74 (nI c) (nI n) (nI s) (nI n) (va_up T.2.1 27 (upd (T.2.1 27) (257 * c + s) 0) 26 ((257 * nI c) + nI s : Int32).toNatClampNeg) (T.1, va_up T.2.1 27 (upd (T.2.1 27) (257 * c + s) 0), T.2.2) R K1 := hb
        rw [n257, nI_clamp (show 257 * c + s < 2 ^ 31 by omega), vu_ne (show (26 : Nat) ≠ 27 by decide), e26, ← hof s (by omega)] at hb
        have pw := i_lt (nle_lt ew)
        exact go (Or.inr (by omega)) hb (h2.1 (nle_lt ew))
end SORT

/-! CODES: the lines; both sides at once -/
/-- how many pairs stand among the first k things of a line -/
def pcn (M : Nat → Int32) (o : Nat) : Nat → Nat
  | 0 => 0
  | k + 1 => pcn M o k + (if (M (o + k)).toInt < 0 then 1 else 0)
theorem pcn_le {M : Nat → Int32} {o : Nat} : ∀ k, pcn M o k ≤ k
  | 0 => Nat.le_refl _
  | k + 1 => by
    have := pcn_le (M := M) (o := o) k
    show pcn M o k + _ ≤ k + 1
    split <;> omega
theorem pcn_congr {M M' : Nat → Int32} {o : Nat} : ∀ k, (∀ j, j < k → M' (o + j) = M (o + j)) → pcn M' o k = pcn M o k
  | 0, _ => rfl
  | k + 1, h => by
    show pcn M' o k + _ = pcn M o k + _
    rw [pcn_congr k (fun j hj => h j (by omega)), h k (by omega)]
/-- the k-th thing of line l1: a symbol in its turn, or a pair in its turn -/
def STk (n : Nat) (W M : Nat → Int32) (l1 k : Nat) : Prop :=
  ((M (520 * l1 + k)).toInt < 0 ∧ (M (520 * l1 + k)).toInt = -1 - (pcn M (520 * l1) k : Nat) ∧ (k - pcn M (520 * l1) k < n → (W (520 * l1 + k)).toInt < (W (k - pcn M (520 * l1) k)).toInt)) ∨
  (0 ≤ (M (520 * l1 + k)).toInt ∧ M (520 * l1 + k) = M (k - pcn M (520 * l1) k) ∧ W (520 * l1 + k) = W (k - pcn M (520 * l1) k) ∧ k - pcn M (520 * l1) k < n)
/-- line l1 on both sides, its first q things -/
def LSq (n : Nat) (W M tw : Nat → Int32) (l1 q : Nat) : Prop := ∀ k, k < q → STk n W M l1 k ∧ tw (514 * l1 + k) = if (M (520 * l1 + k)).toInt < 0 then 1 else 0
theorem STk_congr {n : Nat} {W M W' M' : Nat → Int32} {l1 k : Nat} (hn : n ≤ 257) (hk : k < 520) (h1 : 1 ≤ l1) (h0 : ∀ j, j < 520 → W' j = W j ∧ M' j = M j) (hl : ∀ j, j ≤ k → W' (520 * l1 + j) = W (520 * l1 + j) ∧ M' (520 * l1 + j) = M (520 * l1 + j)) (h : STk n W M l1 k) : STk n W' M' l1 k := by
  unfold STk
  have e := pcn_congr (M := M) (M' := M') (o := 520 * l1) k (fun j hj => (hl j (by omega)).2)
  have q := pcn_le (M := M) (o := 520 * l1) k
  rw [e, (hl k (Nat.le_refl _)).1, (hl k (Nat.le_refl _)).2, (h0 (k - pcn M (520 * l1) k) (by omega)).1, (h0 (k - pcn M (520 * l1) k) (by omega)).2]
  exact h
def ltu (b : Bool) : Nat := bif b then 31 else 30
def nxu (b : Bool) : Nat := bif b then 30 else 31
section LINES
variable {S : ms} {F : cF} {L : cL} {a b : Bool} {P : Nat → Nat → Nat} {K1 : ms → Prop} {K2 : cs → Prop} {c v n : Nat}
theorem lt3 : PC a b P 27 3 = ltu b := by cases b <;> rfl
theorem nx4 : PC a b P 27 4 = nxu b := by cases b <;> rfl
theorem lt_nx : ltu b ≠ nxu b ∧ ltu b ≠ 27 ∧ ltu b ≠ 28 ∧ ltu b ≠ 29 ∧ nxu b ≠ 27 ∧ nxu b ≠ 28 ∧ nxu b ≠ 29 ∧ (ltu b = 30 ∨ ltu b = 31) ∧ (nxu b = 30 ∨ nxu b = 31) := by cases b <;> decide
theorem lt_not : ltu (!b) = nxu b ∧ nxu (!b) = ltu b := by cases b <;> exact ⟨rfl, rfl⟩
/-- lines 1 .. l are there on both sides -/
def LNR (c n l : Nat) (b : Bool) (S : ms) (F : cF) : Prop :=
  (∀ l', l' ≤ l → LNf c (S.2.1 26) (S.2.1 29) (S.2.1 30) n l' (sz n l')) ∧ (∀ l', l' < l → OPT (S.2.1 29) n l') ∧
  (∀ l', 1 ≤ l' → l' ≤ l → LSq n (S.2.1 29) (S.2.1 30) (F 29) l' (sz n l') ∧ pcn (S.2.1 30) (520 * l') (sz n l') = sz n (l' - 1) / 2) ∧
  ∀ k, k < sz n l → F (ltu b) k = S.2.1 29 (520 * l + k)
theorem nar1 (x : Int32) (h : x = 0 ∨ x = 1) : vp_nar .boolean x = x := by rcases h with rfl | rfl <;> rfl
theorem nlo {a b k : Nat} (h : k < a) : k ≠ a + b := by omega
theorem nlo2 {a b k : Nat} (h : k < b) : a + k ≠ a + b := by omega
/-- one line more -/
theorem x_line {l : Nat} {R162 : Int32 → Int32 → Int32 → Int32 → ms → Prop} {K2' : Int32 → cs → Prop} (hn1 : 1 ≤ n) (hn : n ≤ 256) (hl : l < 15) (hv : isOc v) (hcn : F 27 1 = nI n) (hsr : srt (F (v + 1)) n 257 (S.2.1 29) (S.2.1 30) (F 28)) (hI : LNR c n l b S F)
    (h1 : e_makeCode_190 (nI c) (nI n) (nI (l + 1)) (nI (sz n l / 2)) 0 0 (nI (520 * l)) S R162 K1) (h2 : p_Li_makeLine UL 27 (nI (l + 1)) (nI (sz n l / 2)) (v + 1) (F, L, PC a b P) K2') :
    ∃ M' F', ag [] [29, 30] S M' ∧ (∀ k, k < 520 → M'.2.1 29 k = S.2.1 29 k ∧ M'.2.1 30 k = S.2.1 30 k) ∧ (∀ w, w ≠ 29 → w ≠ 30 → w ≠ 31 → F' w = F w) ∧ (∀ k, k < 514 → F' 29 k = F 29 k) ∧ LNR c n (l + 1) (!b) M' F' ∧ R162 (nI c) (nI n) (nI (sz n (l + 1))) (nI (l + 1) + 1) M' ∧ K2' (nI (sz n (l + 1))) (F', L, PC a (!b) P) := by
  have v27 : v + 1 ≠ 27 ∧ v + 1 ≠ 28 ∧ v + 1 ≠ 29 ∧ v + 1 ≠ 30 ∧ v + 1 ≠ 31 := by rcases hv with rfl | rfl | rfl | rfl <;> decide
  obtain ⟨q1, q2, q3, q4, q5, q6, q7, q8, q9⟩ := lt_nx (b := b)
  have szl := sz_le hn1 l
  have sz1 : sz n (l + 1) = n + sz n l / 2 := rfl
  have hsz : ∀ l', sz n l' ≤ 513 := fun l' => by have := sz_le hn1 l'; omega
  unfold p_Li_makeLine at h2
  refine v_e_makeCode_190 h1 (fun y6 y7 T => ∃ i p G, y6 = nI i ∧ y7 = nI p ∧ PM c (S.2.1 26) n l (T.2.1 29) (T.2.1 30) i p ∧ e_Li_makeLine_9 UL 27 (nI (l + 1)) (nI (sz n l / 2)) (v + 1) (nI i) (nI p) (nI (i + p)) (G, L, PC a b P) K2' ∧ ag [] [29, 30] S T ∧ (∀ k, k < 520 * (l + 1) → T.2.1 29 k = S.2.1 29 k ∧ T.2.1 30 k = S.2.1 30 k) ∧ (∀ w, w ≠ 29 → w ≠ nxu b → G w = F w) ∧ (∀ k, k < 514 * (l + 1) → G 29 k = F 29 k) ∧ LSq n (T.2.1 29) (T.2.1 30) (G 29) (l + 1) (i + p) ∧ pcn (T.2.1 30) (520 * (l + 1)) (i + p) = p ∧ ∀ k, k < i + p → G (nxu b) k = T.2.1 29 (520 * (l + 1) + k)) ⟨0, 0, F, rfl, rfl, PM_0 hI.1 hI.2.1, h2, ag_refl, fun _ _ => ⟨rfl, rfl⟩, fun _ _ _ => rfl, fun _ _ => rfl, fun k hk => absurd hk (by omega), rfl, fun k hk => absurd hk (by omega)⟩ ?_
  rintro y6 y7 T R ⟨i, p, G, rfl, rfl, hPM, h2, ha, hlow, hg, hg29, hLS, hpc, hnx⟩ hb
  have hi : i ≤ n := hPM.1
  have hp : p ≤ sz n l / 2 := hPM.2.1
  have g27 : G 27 = F 27 := hg 27 (by decide) (by intro e; exact absurd e.symm (by omega))
  have g28 : G 28 = F 28 := hg 28 (by decide) (by omega)
  have gv : G (v + 1) = F (v + 1) := hg _ (by omega) (by omega)
  have glt : G (ltu b) = F (ltu b) := hg _ q4 q1
  have cnt : (F 27 1 : Int32) = nI n := hcn
  -- the weights of symbols and of the line before
  have wi : ∀ k, k < n → T.2.1 29 k = S.2.1 29 k ∧ ∃ m, m ≤ 256 ∧ G 28 k = nI m ∧ G (v + 1) m = T.2.1 29 k ∧ T.2.1 30 k = nI m := by
    intro k hk
    have lo := hlow k (by omega)
    obtain ⟨m, -, m2, m3, m4, m5, -⟩ := hsr.1 k hk
    refine ⟨lo.1, m, m2, by rw [g28]; exact m4, by rw [gv, lo.1]; exact m5.symm, by rw [lo.2]; exact m3⟩
  have wl : ∀ k, k < sz n l → G (ltu b) k = T.2.1 29 (520 * l + k) := by
    intro k hk
    have := hsz l
    rw [glt, hI.2.2.2 k hk, (hlow (520 * l + k) (by omega)).1]
  unfold b_makeCode_190 at hb
  have h2 := r_e_Li_makeLine_9 h2
  unfold b_Li_makeLine_9 at h2
  have h2 : (G 27 1 + nI (sz n l / 2) ≤ nI (i + p) → _ ∧ _ ∧ _ ∧ _ ∧ K2' (G 27 1 + nI (sz n l / 2)) (G, L, va_up (va_up (PC a b P) 27 (va_up (PC a b P 27) 3 (PC a b P 27 4))) 27 (va_up ((va_up (PC a b P) 27 (va_up (PC a b P 27) 3 (PC a b P 27 4))) 27) 4 (PC a b P 27 3)))) ∧ (¬ G 27 1 + nI (sz n l / 2) ≤ nI (i + p) → _) := h2
  rw [g27, hcn, nI_add] at h2
  by_cases e : i + p = n + sz n l / 2
  · right
    have ei : i = n := by omega
    have ep : p = sz n l / 2 := by omega
    subst ei
    have hb := (hb.2 (nI_nlt (by omega) (by omega))).1 (by rw [ep]; exact Int32.le_refl _)
    obtain ⟨-, -, -, -, h2⟩ := h2.1 (by rw [e]; exact Int32.le_refl _)
    rw [pc_swap] at h2
    rw [nI_add] at hb
    rw [ep] at hPM hLS hpc hnx
    obtain ⟨r1, r2⟩ := PM_end hPM
    have e26 : T.2.1 26 = S.2.1 26 := ha.2 26 rfl
    refine ⟨T, G, ha, fun k hk => hlow k (by omega), fun w w1 w2 w3 => hg w w1 (by omega), fun k hk => hg29 k (by omega), ⟨by rw [e26]; exact r1, r2, fun l' h1' h2' => ?_, fun k hk => ?_⟩, hb, h2⟩
    · by_cases el : l' = l + 1
      · subst el
        exact ⟨hLS, hpc⟩
      · obtain ⟨s1, s2⟩ := hI.2.2.1 l' h1' (by omega)
        have zl' := hsz l'
        have low' : ∀ j, j < 520 → T.2.1 29 (520 * l' + j) = S.2.1 29 (520 * l' + j) ∧ T.2.1 30 (520 * l' + j) = S.2.1 30 (520 * l' + j) := fun j hj => hlow _ (by
          have : 520 * l' ≤ 520 * l := Nat.mul_le_mul_left _ (by omega)
          omega)
        refine ⟨fun k hk => ?_, ?_⟩
        · obtain ⟨t1, t2⟩ := s1 k hk
          refine ⟨STk_congr (by omega) (by omega) h1' (fun j hj => hlow j (by omega)) (fun j hj => low' j (by omega)) t1, ?_⟩
          rw [hg29 (514 * l' + k) (by
            have : 514 * l' ≤ 514 * l := Nat.mul_le_mul_left _ (by omega)
            omega), (low' k (by omega)).2]
          exact t2
        · rw [pcn_congr (M := S.2.1 30) _ (fun j hj => (low' j (by omega)).2)]
          exact s2
    · rw [lt_not.1]
      exact hnx k hk
  · left
    have h2 := h2.2 (nI_ge (by omega) (by omega))
    -- what comes next: a symbol (one) or a pair
    have szb := hsz l
    have ip : i + p < 520 := by omega
    have lo2 : p < sz n l / 2 → 520 * l + 2 * p < 520 * (l + 1) ∧ 520 * l + (2 * p + 1) < 520 * (l + 1) := fun q => by omega
    have loi : i < 520 * (l + 1) := by omega
    have fin : ∀ (s1 pr : Nat) (w m tv : Int32) (i1 p1 : Nat), (i1 = i + 1 ∧ p1 = p ∧ i < n ∧ w = T.2.1 29 i ∧ m = T.2.1 30 i ∧ tv = 0 ∧ (p < sz n l / 2 → (T.2.1 29 i).toInt ≤ (T.2.1 29 (520 * l + 2 * p)).toInt + (T.2.1 29 (520 * l + (2 * p + 1))).toInt)) ∨ (i1 = i ∧ p1 = p + 1 ∧ p < sz n l / 2 ∧ w = T.2.1 29 (520 * l + 2 * p) + T.2.1 29 (520 * l + (2 * p + 1)) ∧ m = (-1) - nI p ∧ tv = 1 ∧ (i < n → (T.2.1 29 (520 * l + 2 * p)).toInt + (T.2.1 29 (520 * l + (2 * p + 1))).toInt < (T.2.1 29 i).toInt)) →
        R (nI c) (nI n) (nI (l + 1)) (nI (sz n l / 2)) (nI i1) (nI p1) (nI (520 * l)) (T.1, va_up (va_up T.2.1 29 (upd (T.2.1 29) (520 * (l + 1) + (i + p)) w)) 30 (upd ((va_up T.2.1 29 (upd (T.2.1 29) (520 * (l + 1) + (i + p)) w)) 30) (520 * (l + 1) + (i + p)) m), T.2.2) →
        e_Li_makeLine_9 UL 27 (nI (l + 1)) (nI (sz n l / 2)) (v + 1) (nI i1) (nI p1) (nI (i + p) + 1) (va_up (va_up G 29 (upd (G 29) (514 * (l + 1) + (i + p)) tv)) (nxu b) (upd ((va_up G 29 (upd (G 29) (514 * (l + 1) + (i + p)) tv)) (nxu b)) (i + p) w), L, PC a b P) K2' →
        ∃ (zx6 zx7 : Int32) (zS : ms), R (nI c) (nI n) (nI (l + 1)) (nI (sz n l / 2)) zx6 zx7 (nI (520 * l)) zS ∧ ∃ i p G, zx6 = nI i ∧ zx7 = nI p ∧ PM c (S.2.1 26) n l (zS.2.1 29) (zS.2.1 30) i p ∧ e_Li_makeLine_9 UL 27 (nI (l + 1)) (nI (sz n l / 2)) (v + 1) (nI i) (nI p) (nI (i + p)) (G, L, PC a b P) K2' ∧ ag [] [29, 30] S zS ∧ (∀ k, k < 520 * (l + 1) → zS.2.1 29 k = S.2.1 29 k ∧ zS.2.1 30 k = S.2.1 30 k) ∧ (∀ w, w ≠ 29 → w ≠ nxu b → G w = F w) ∧ (∀ k, k < 514 * (l + 1) → G 29 k = F 29 k) ∧ LSq n (zS.2.1 29) (zS.2.1 30) (G 29) (l + 1) (i + p) ∧ pcn (zS.2.1 30) (520 * (l + 1)) (i + p) = p ∧ ∀ k, k < i + p → G (nxu b) k = zS.2.1 29 (520 * (l + 1) + k) := by
      intro s1 pr w m tv i1 p1 hcase hR h2
      have r29 : (T.1, va_up (va_up T.2.1 29 (upd (T.2.1 29) (520 * (l + 1) + (i + p)) w)) 30 (upd ((va_up T.2.1 29 (upd (T.2.1 29) (520 * (l + 1) + (i + p)) w)) 30) (520 * (l + 1) + (i + p)) m), T.2.2).2.1 29 = upd (T.2.1 29) (520 * (l + 1) + (i + p)) w := by
        dsimp only
        rw [vu_ne (by decide), vu_at]
      have r30 : (T.1, va_up (va_up T.2.1 29 (upd (T.2.1 29) (520 * (l + 1) + (i + p)) w)) 30 (upd ((va_up T.2.1 29 (upd (T.2.1 29) (520 * (l + 1) + (i + p)) w)) 30) (520 * (l + 1) + (i + p)) m), T.2.2).2.1 30 = upd (T.2.1 30) (520 * (l + 1) + (i + p)) m := by
        dsimp only
        rw [vu_at, vu_ne (by decide)]
      have e1 : i1 + p1 = i + p + 1 := by rcases hcase with ⟨x1, x2, -⟩ | ⟨x1, x2, -⟩ <;> omega
      -- how great these are
      have wb : ∀ k, k < sz n l → 0 ≤ (T.2.1 29 (520 * l + k)).toInt ∧ (T.2.1 29 (520 * l + k)).toInt ≤ 655360000 := fun k hk => ⟨((hPM.2.2.1 l (Nat.le_refl _)).1 k hk).1, Int.le_trans ((hPM.2.2.1 l (Nat.le_refl _)).1 k hk).2 (pow_b l (Nat.le_of_lt hl))⟩
      have tsum : p < sz n l / 2 → (T.2.1 29 (520 * l + 2 * p) + T.2.1 29 (520 * l + (2 * p + 1))).toInt = (T.2.1 29 (520 * l + 2 * p)).toInt + (T.2.1 29 (520 * l + (2 * p + 1))).toInt := fun q => by
        have b1 := wb (2 * p) (by omega)
        have b2 := wb (2 * p + 1) (by omega)
        exact t_add (a := 0) (b := 655360000) (c := 0) (d := 655360000) ⟨by omega, by omega⟩ ⟨by omega, by omega⟩ (by decide) (by decide)
      have mneg : ∀ _ : Unit, (((-1) - nI p : Int32)).toInt = -1 - p := fun _ => m1p (by omega)
      have hPM' : PM c (S.2.1 26) n l (upd (T.2.1 29) (520 * (l + 1) + (i + p)) w) (upd (T.2.1 30) (520 * (l + 1) + (i + p)) m) i1 p1 := by
        refine PM_step hn1 (by omega) hl hPM ?_ ?_ ?_ ?_
        · rcases hcase with ⟨x1, x2, x3, x4, -⟩ | ⟨x1, x2, x3, x4, -⟩
          · exact Or.inl ⟨x1, x2, x3, by rw [x4]⟩
          · exact Or.inr ⟨x1, x2, x3, by rw [x4, tsum x3]⟩
        · intro hin
          rcases hcase with ⟨x1, x2, x3, x4, -⟩ | ⟨x1, x2, x3, x4, x5, x6, x7⟩
          · rw [x4]; exact Int.le_refl _
          · rw [x4, tsum x3]
            exact Int.le_of_lt (x7 hin)
        · intro hpn
          rcases hcase with ⟨x1, x2, x3, x4, x5, x6, x7⟩ | ⟨x1, x2, x3, x4, -⟩
          · rw [x4]
            exact x7 hpn
          · rw [x4, tsum x3]
            exact Int.le_refl _
        · unfold MFk
          rw [upd_at, upd_at]
          rcases hcase with ⟨x1, x2, x3, x4, x5, -⟩ | ⟨x1, x2, x3, x4, x5, -⟩
          · left
            have mf := (hPM.2.2.1 0 (Nat.zero_le _)).2.2 i (show i < sz n 0 from x3)
            unfold MFk at mf
            rw [Nat.mul_zero, Nat.zero_add] at mf
            rcases mf with ⟨m', y1, y2, y3, y4⟩ | ⟨p', l', y1, -⟩
            · exact ⟨m', y1, by rw [x5]; exact y2, y3, by rw [x4]; exact y4⟩
            · exact absurd y1 (by omega)
          · right
            refine ⟨p, l, rfl, by omega, by rw [x5]; exact mneg (), ?_⟩
            rw [upd_ne (nlo (lo2 x3).1), upd_ne (nlo (lo2 x3).2), x4, tsum x3]
      have np : ∀ k, k < i + p → upd (T.2.1 30) (520 * (l + 1) + (i + p)) m (520 * (l + 1) + k) = T.2.1 30 (520 * (l + 1) + k) := fun k hk => upd_ne (nlo2 hk)
      have pcS : pcn (upd (T.2.1 30) (520 * (l + 1) + (i + p)) m) (520 * (l + 1)) (i + p) = p := by
        rw [pcn_congr (M := T.2.1 30) _ (fun j hj => np j hj)]
        exact hpc
      have m0 : i < n → 0 ≤ (T.2.1 30 i).toInt := fun q => by
        obtain ⟨-, m', y1, -, -, y2⟩ := wi i q
        rw [y2, nI_toInt (by omega)]
        omega
      refine ⟨_, _, _, hR, i1, p1, _, rfl, rfl, by rw [r29, r30]; exact hPM', by rw [e1, ← nI_1 (i + p)]; exact h2, ag_r (T := (T.1, va_up T.2.1 29 (upd (T.2.1 29) (520 * (l + 1) + (i + p)) w), T.2.2)) (ag_r ha rfl) rfl, fun k hk => ?_, fun w' w1 w2 => ?_, fun k hk => ?_, ?_, ?_, fun k hk => ?_⟩
      · rw [r29, r30, upd_ne (nlo hk), upd_ne (nlo hk)]
        exact hlow k hk
      · rw [vu_ne w2, vu_ne w1]
        exact hg w' w1 w2
      · rw [vu_ne (Ne.symm q7), vu_at, upd_ne (nlo hk)]
        exact hg29 k hk
      · rw [r29, r30, e1, vu_ne (Ne.symm q7), vu_at]
        intro k hk
        by_cases ek : k = i + p
        · subst ek
          refine ⟨?_, ?_⟩
          · unfold STk
            rw [upd_at, upd_at, pcS, Nat.add_sub_cancel]
            rcases hcase with ⟨x1, x2, x3, x4, x5, -⟩ | ⟨x1, x2, x3, x4, x5, x6, x7⟩
            · right
              rw [upd_ne (show i ≠ 520 * (l + 1) + (i + p) from nlo loi), upd_ne (show i ≠ 520 * (l + 1) + (i + p) from nlo loi)]
              exact ⟨by rw [x5]; exact m0 x3, x5, x4, x3⟩
            · left
              rw [upd_ne (show i ≠ 520 * (l + 1) + (i + p) from nlo loi)]
              refine ⟨by rw [x5, mneg ()]; omega, by rw [x5, mneg ()], fun q => ?_⟩
              rw [x4, tsum x3]
              exact x7 q
          · rw [upd_at, upd_at]
            rcases hcase with ⟨x1, x2, x3, x4, x5, x6, -⟩ | ⟨x1, x2, x3, x4, x5, x6, x7⟩
            · rw [x6, if_neg (by rw [x5]; have := m0 x3; omega)]
            · rw [x6, if_pos (by rw [x5, mneg ()]; omega)]
        · clear hcase hPM'
          have kl : k < i + p := by omega
          have k5 : k < 520 := by omega
          have n7 : n ≤ 257 := by omega
          obtain ⟨t1, t2⟩ := hLS k kl
          refine ⟨STk_congr n7 k5 (Nat.le_add_left 1 l) (fun j hj => ⟨upd_ne (nlo (by omega)), upd_ne (nlo (by omega))⟩) (fun j hj => ⟨upd_ne (nlo2 (Nat.lt_of_le_of_lt hj kl)), upd_ne (nlo2 (Nat.lt_of_le_of_lt hj kl))⟩) t1, ?_⟩
          rw [upd_ne (nlo2 kl), upd_ne (nlo2 kl)]
          exact t2
      · rw [r30, e1]
        show pcn _ _ (i + p) + _ = p1
        rw [pcS, upd_at]
        rcases hcase with ⟨x1, x2, x3, x4, x5, -⟩ | ⟨x1, x2, x3, x4, x5, -⟩
        · rw [if_neg (by rw [x5]; have := m0 x3; omega)]
          omega
        · rw [if_pos (by rw [x5, mneg ()]; omega)]
          omega
      · rw [r29, vu_at, vu_ne (show nxu b ≠ 29 from q7)]
        by_cases ek : k = i + p
        · rw [ek, upd_at, upd_at]
        · clear hcase hPM'
          have kl : k < i + p := by omega
          rw [upd_ne ek, upd_ne (nlo2 kl)]
          exact hnx k kl
    have cix : (((520 * nI (l + 1)) + nI i) + nI p : Int32).toNatClampNeg = 520 * (l + 1) + (i + p) := by
      rw [show (520 : Int32) = nI 520 from rfl, pk_mul, nI_add, nI_add, nI_clamp (by omega), Nat.add_assoc]
    have ci : (nI i).toNatClampNeg = i := nI_clamp (by omega)
    -- the reference takes a symbol
    have one1 : ∀ x9 : Int32, b_makeCode_268 (nI c) (nI n) (nI (l + 1)) (nI (sz n l / 2)) (nI i) (nI p) (nI (520 * l)) x9 T R162 R K1 → R (nI c) (nI n) (nI (l + 1)) (nI (sz n l / 2)) (nI (i + 1)) (nI p) (nI (520 * l)) (T.1, va_up (va_up T.2.1 29 (upd (T.2.1 29) (520 * (l + 1) + (i + p)) (T.2.1 29 i))) 30 (upd ((va_up T.2.1 29 (upd (T.2.1 29) (520 * (l + 1) + (i + p)) (T.2.1 29 i))) 30) (520 * (l + 1) + (i + p)) (T.2.1 30 i)), T.2.2) := by
      intro x9 hq
      unfold b_makeCode_268 b_makeCode_273 at hq
      obtain ⟨-, hq⟩ := hq.2 (by decide)
      unfold b_makeCode_308 at hq
      obtain ⟨-, hq⟩ := hq
      obtain ⟨-, hq⟩ := hq.2 (by decide)
      unfold b_makeCode_344 at hq
      obtain ⟨-, hq⟩ := hq
      have hq := hq.2 (by decide)
      unfold b_makeCode_359 at hq
      have hq := hq.2 (by decide)
      unfold b_makeCode_375 at hq
      rw [cix, ci, nI_1] at hq
      have e30 : va_up T.2.1 29 (upd (T.2.1 29) (520 * (l + 1) + (i + p)) (T.2.1 29 i)) 30 i = T.2.1 30 i := by rw [vu_ne (by decide)]
      rw [← e30]
      exact hq
    -- or a pair
    have two1 : ∀ x9 : Int32, b_makeCode_272 (nI c) (nI n) (nI (l + 1)) (nI (sz n l / 2)) (nI i) (nI p) (nI (520 * l)) x9 T R162 R K1 → R (nI c) (nI n) (nI (l + 1)) (nI (sz n l / 2)) (nI i) (nI (p + 1)) (nI (520 * l)) (T.1, va_up (va_up T.2.1 29 (upd (T.2.1 29) (520 * (l + 1) + (i + p)) x9)) 30 (upd ((va_up T.2.1 29 (upd (T.2.1 29) (520 * (l + 1) + (i + p)) x9)) 30) (520 * (l + 1) + (i + p)) ((-1) - nI p)), T.2.2) := by
      intro x9 hq
      unfold b_makeCode_272 b_makeCode_273 at hq
      have hq := hq.1 rfl
      unfold b_makeCode_308 at hq
      obtain ⟨-, hq⟩ := hq
      have hq := hq.1 rfl
      unfold b_makeCode_344 at hq
      obtain ⟨-, hq⟩ := hq
      have hq := hq.1 rfl
      unfold b_makeCode_359 at hq
      have hq := hq.1 rfl
      unfold b_makeCode_375 at hq
      rw [cix, nI_1] at hq
      exact hq
    have cix2 : ((514 * nI (l + 1)) + nI (i + p) : Int32).toNatClampNeg = 514 * (l + 1) + (i + p) := by
      rw [show (514 : Int32) = nI 514 from rfl, pk_mul, nI_add, nI_clamp (by omega)]
    have cip : (nI (i + p)).toNatClampNeg = i + p := nI_clamp (by omega)
    -- the class takes a symbol
    have one2 : i < n → ∀ x7 : Int32, b_Li_makeLine_86 UL 27 (nI (l + 1)) (nI (sz n l / 2)) (v + 1) (nI i) (nI p) (nI (i + p)) x7 (G, L, PC a b P) (fun zx1 zx2 zx3 zx4 zx5 zx6 zS => e_Li_makeLine_9 UL 27 zx1 zx2 zx3 zx4 zx5 zx6 zS K2') K2' → e_Li_makeLine_9 UL 27 (nI (l + 1)) (nI (sz n l / 2)) (v + 1) (nI (i + 1)) (nI p) (nI (i + p) + 1) (va_up (va_up G 29 (upd (G 29) (514 * (l + 1) + (i + p)) 0)) (nxu b) (upd ((va_up G 29 (upd (G 29) (514 * (l + 1) + (i + p)) 0)) (nxu b)) (i + p) (T.2.1 29 i)), L, PC a b P) K2' := by
      intro hin x7 hq
      unfold b_Li_makeLine_86 b_Li_makeLine_87 at hq
      obtain ⟨-, -, -, hq⟩ := hq
      obtain ⟨-, -, -, -, -, -, -, -, hq⟩ := hq.1 rfl
      unfold b_Li_makeLine_143 at hq
      dsimp only at hq
      rw [nx4] at hq
      have hq : e_Li_makeLine_9 UL 27 (nI (l + 1)) (nI (sz n l / 2)) (v + 1) (nI i + 1) (nI p) (nI (i + p) + 1) (va_up (va_up G 29 (upd (G 29) ((514 * nI (l + 1)) + nI (i + p) : Int32).toNatClampNeg 0)) (nxu b) (upd ((va_up G 29 (upd (G 29) ((514 * nI (l + 1)) + nI (i + p) : Int32).toNatClampNeg 0)) (nxu b)) (nI (i + p)).toNatClampNeg ((va_up G 29 (upd (G 29) ((514 * nI (l + 1)) + nI (i + p) : Int32).toNatClampNeg 0)) (v + 1) ((va_up G 29 (upd (G 29) ((514 * nI (l + 1)) + nI (i + p) : Int32).toNatClampNeg 0)) 28 (nI i).toNatClampNeg).toNatClampNeg)), L, PC a b P) K2' := hq
      obtain ⟨-, m, m1, m2, m3, -⟩ := wi i hin
      rw [cix2, cip, ci, vu_ne (show (28 : Nat) ≠ 29 by decide), m2, nI_clamp (show m < 2 ^ 31 by omega), vu_ne (show v + 1 ≠ 29 by omega), m3, nI_1 i] at hq
      exact hq
    -- or a pair
    have two2 : ∀ x7 : Int32, b_Li_makeLine_82 UL 27 (nI (l + 1)) (nI (sz n l / 2)) (v + 1) (nI i) (nI p) (nI (i + p)) x7 (G, L, PC a b P) (fun zx1 zx2 zx3 zx4 zx5 zx6 zS => e_Li_makeLine_9 UL 27 zx1 zx2 zx3 zx4 zx5 zx6 zS K2') K2' → e_Li_makeLine_9 UL 27 (nI (l + 1)) (nI (sz n l / 2)) (v + 1) (nI i) (nI (p + 1)) (nI (i + p) + 1) (va_up (va_up G 29 (upd (G 29) (514 * (l + 1) + (i + p)) 1)) (nxu b) (upd ((va_up G 29 (upd (G 29) (514 * (l + 1) + (i + p)) 1)) (nxu b)) (i + p) x7), L, PC a b P) K2' := by
      intro x7 hq
      unfold b_Li_makeLine_82 b_Li_makeLine_87 at hq
      obtain ⟨-, -, -, hq⟩ := hq
      obtain ⟨-, -, -, hq⟩ := hq.2 (by decide)
      unfold b_Li_makeLine_143 at hq
      dsimp only at hq
      rw [nx4] at hq
      have hq : e_Li_makeLine_9 UL 27 (nI (l + 1)) (nI (sz n l / 2)) (v + 1) (nI i) (nI p + 1) (nI (i + p) + 1) (va_up (va_up G 29 (upd (G 29) ((514 * nI (l + 1)) + nI (i + p) : Int32).toNatClampNeg 1)) (nxu b) (upd ((va_up G 29 (upd (G 29) ((514 * nI (l + 1)) + nI (i + p) : Int32).toNatClampNeg 1)) (nxu b)) (nI (i + p)).toNatClampNeg x7), L, PC a b P) K2' := hq
      rw [cix2, cip, nI_1 p] at hq
      exact hq
    have b203 : b_makeCode_203 (nI c) (nI n) (nI (l + 1)) (nI (sz n l / 2)) (nI i) (nI p) (nI (520 * l)) T R162 R K1 := by
      by_cases ei : i < n
      · exact hb.1 (nI_lt ei (by omega))
      · exact (hb.2 (nI_nlt (by omega) (by omega))).2 (nI_ge (by omega) (by omega))
    unfold b_makeCode_203 at b203
    by_cases ep : p = sz n l / 2
    · have hin : i < n := by omega
      have hq := b203.1 (by rw [ep]; exact Int32.le_refl _)
      unfold b_makeCode_241 at hq
      have hq := one1 _ (hq.1 (by rw [ep]))
      have h2 := h2.1 (by rw [ep]; exact Int32.le_refl _)
      unfold b_Li_makeLine_51 at h2
      have h2 : (nI i = G 27 1 → _) ∧ (¬ nI i = G 27 1 → _) := h2
      have h2 := h2.2 (by rw [g27, hcn]; exact fun q => by have := (nI_eq (a := i) (b := n) (by omega) (by omega)).mp q; omega)
      have h2 := one2 hin _ (h2.1 (by rw [ep]; exact Int32.le_refl _))
      exact fin 0 0 _ _ _ (i + 1) p (Or.inl ⟨rfl, rfl, hin, rfl, rfl, rfl, fun q => absurd q (by omega)⟩) hq h2
    · have hpp : p < sz n l / 2 := by omega
      obtain ⟨-, -, hq⟩ := b203.2 (nI_ge (by omega) (by omega))
      have ca : (nI (520 * l) + (2 * nI p) : Int32) = nI (520 * l + 2 * p) := by rw [show (2 : Int32) = nI 2 from rfl, pk_mul, nI_add]
      rw [ca, nI_1, nI_clamp (by omega), nI_clamp (by omega)] at hq
      unfold b_makeCode_241 at hq
      have hq := hq.2 (fun q => ep ((nI_eq (a := p) (b := sz n l / 2) (by omega) (by omega)).mp q))
      obtain ⟨-, -, -, -, -, h2⟩ := h2.2 (nI_ge (by omega) (by omega))
      dsimp only at h2
      rw [lt3] at h2
      have c2 : (2 * nI p : Int32) = nI (2 * p) := pk_mul 2 p
      rw [c2, nI_1, nI_clamp (show 2 * p < 2 ^ 31 by omega), nI_clamp (show 2 * p + 1 < 2 ^ 31 by omega), wl (2 * p) (by omega), wl (2 * p + 1) (by omega)] at h2
      unfold b_Li_makeLine_51 at h2
      have h2 : (nI i = G 27 1 → _) ∧ (¬ nI i = G 27 1 → _) := h2
      have wb : ∀ k, k < sz n l → 0 ≤ (T.2.1 29 (520 * l + k)).toInt ∧ (T.2.1 29 (520 * l + k)).toInt ≤ 655360000 := fun k hk => ⟨((hPM.2.2.1 l (Nat.le_refl _)).1 k hk).1, Int.le_trans ((hPM.2.2.1 l (Nat.le_refl _)).1 k hk).2 (pow_b l (Nat.le_of_lt hl))⟩
      have tsum : (T.2.1 29 (520 * l + 2 * p) + T.2.1 29 (520 * l + (2 * p + 1))).toInt = (T.2.1 29 (520 * l + 2 * p)).toInt + (T.2.1 29 (520 * l + (2 * p + 1))).toInt := by
        have b1 := wb (2 * p) (by omega)
        have b2 := wb (2 * p + 1) (by omega)
        exact t_add (a := 0) (b := 655360000) (c := 0) (d := 655360000) ⟨by omega, by omega⟩ ⟨by omega, by omega⟩ (by decide) (by decide)
      by_cases ei : i = n
      · have hq := two1 _ (hq.1 (by rw [ei]; exact Int32.le_refl _))
        have h2 := two2 _ (h2.1 (by rw [g27, hcn, ei]))
        exact fin 0 0 _ _ _ i (p + 1) (Or.inr ⟨rfl, rfl, hpp, rfl, rfl, rfl, fun q => absurd q (by omega)⟩) hq h2
      · have hin : i < n := by omega
        obtain ⟨-, hq⟩ := hq.2 (nI_ge (by omega) (by omega))
        rw [ci] at hq
        have h2 := h2.2 (by rw [g27, hcn]; exact fun q => ei ((nI_eq (a := i) (b := n) (by omega) (by omega)).mp q))
        obtain ⟨-, -, -, -, -, h2⟩ := h2.2 (nI_ge (by omega) (by omega))
        obtain ⟨-, m, m1, m2, m3, -⟩ := wi i hin
        have h2 : (G (v + 1) (G 28 (nI i).toNatClampNeg).toNatClampNeg ≤ T.2.1 29 (520 * l + 2 * p) + T.2.1 29 (520 * l + (2 * p + 1)) → _) ∧ (¬ G (v + 1) (G 28 (nI i).toNatClampNeg).toNatClampNeg ≤ T.2.1 29 (520 * l + 2 * p) + T.2.1 29 (520 * l + (2 * p + 1)) → _) := h2
        rw [ci, m2, nI_clamp (show m < 2 ^ 31 by omega), m3] at h2
        by_cases ew : T.2.1 29 i ≤ T.2.1 29 (520 * l + 2 * p) + T.2.1 29 (520 * l + (2 * p + 1))
        · have hq := one1 _ (hq.2 (fun q => absurd (i_le ew) (Int.not_le.mpr (i_lt q))))
          have h2 := one2 hin _ (h2.1 ew)
          exact fin 0 0 _ _ _ (i + 1) p (Or.inl ⟨rfl, rfl, hin, rfl, rfl, rfl, fun _ => by have := i_le ew; rw [tsum] at this; exact this⟩) hq h2
        · have hq := two1 _ (hq.1 (nle_lt ew))
          have h2 := two2 _ (h2.2 ew)
          exact fin 0 0 _ _ _ i (p + 1) (Or.inr ⟨rfl, rfl, hpp, rfl, rfl, rfl, fun _ => by have := i_lt (nle_lt ew); rw [tsum] at this; exact this⟩) hq h2
end LINES

/-! CODES: all lines, and what is taken of them; both sides at once -/
section ALL
variable {S : ms} {F : cF} {L : cL} {a b : Bool} {P : Nat → Nat → Nat} {K1 : ms → Prop} {K2 : cs → Prop} {c v n : Nat}
/-- what the lines need of the symbols -/
def lsI (c v n : Nat) (S : ms) (F : cF) : Prop := F 27 1 = nI n ∧ srt (F (v + 1)) n 257 (S.2.1 29) (S.2.1 30) (F 28) ∧ ∀ k, k < 514 → F 29 k = 0
theorem x_lines (hn1 : 1 ≤ n) (hn : n ≤ 256) (hv : isOc v) (hs : lsI c v n S F) (hI : LNR c n 0 b S F) (h1 : e_makeCode_162 (nI c) (nI n) (nI n) 1 S K1) (h2 : e_Li_setLengths_48 UL 27 v (nI n) 1 (F, L, PC a b P) K2) :
    ∃ M' F' b', ag [] [29, 30] S M' ∧ (∀ k, k < 520 → M'.2.1 29 k = S.2.1 29 k ∧ M'.2.1 30 k = S.2.1 30 k) ∧ (∀ w, w ≠ 29 → w ≠ 30 → w ≠ 31 → F' w = F w) ∧ (∀ k, k < 514 → F' 29 k = F 29 k) ∧ LNR c n 15 b' M' F' ∧ e_makeCode_394 (nI c) (nI n) 0 M' K1 ∧ e_Li_setLengths_86 UL 27 v (nI (2 * n - 2)) 15 (F', L, PC a b' P) K2 := by
  have v27 : v + 1 ≠ 27 ∧ v + 1 ≠ 28 ∧ v + 1 ≠ 29 ∧ v + 1 ≠ 30 ∧ v + 1 ≠ 31 := by rcases hv with rfl | rfl | rfl | rfl <;> decide
  have hsz : ∀ l', sz n l' ≤ 513 := fun l' => by have := sz_le hn1 l'; omega
  refine v_e_makeCode_162 h1 (fun y3 y4 T => ∃ l G b', y3 = nI (sz n l) ∧ y4 = nI (l + 1) ∧ l ≤ 15 ∧ e_Li_setLengths_48 UL 27 v (nI (sz n l)) (nI (l + 1)) (G, L, PC a b' P) K2 ∧ ag [] [29, 30] S T ∧ (∀ k, k < 520 → T.2.1 29 k = S.2.1 29 k ∧ T.2.1 30 k = S.2.1 30 k) ∧ (∀ w, w ≠ 29 → w ≠ 30 → w ≠ 31 → G w = F w) ∧ (∀ k, k < 514 → G 29 k = F 29 k) ∧ LNR c n l b' T G) ⟨0, F, b, rfl, rfl, by decide, h2, ag_refl, fun _ _ => ⟨rfl, rfl⟩, fun _ _ _ _ => rfl, fun _ _ => rfl, hI⟩ ?_
  rintro y3 y4 T R ⟨l, G, b', rfl, rfl, hl, h2, ha, hlow, hg, hg29, hI⟩ hb
  have zl := hsz l
  unfold b_makeCode_162 at hb
  have h2 := r_e_Li_setLengths_48 h2
  unfold b_Li_setLengths_48 at h2
  by_cases e : l = 15
  · right
    subst e
    have hb := hb.1 (Int32.le_refl _)
    have h2 := h2.1 (Int32.le_refl _)
    have h2 : e_Li_setLengths_86 UL 27 v ((2 * G 27 1) - 2) 15 (G, L, PC a b' P) K2 := h2
    rw [hg 27 (by decide) (by decide) (by decide), hs.1, show (2 : Int32) = nI 2 from rfl, pk_mul, pk_sub (by omega)] at h2
    exact ⟨T, G, b', ha, hlow, hg, hg29, hI, hb, h2⟩
  · left
    have hb := hb.2 (nI_ge (b := 16) (by omega) (by decide))
    obtain ⟨-, -, h2⟩ := h2.2 (nI_ge (b := 16) (by omega) (by decide))
    have hd : (nI (sz n l) / 2 : Int32) = nI (sz n l / 2) := pk_div (d := 2) (by omega) (by decide) (by decide)
    rw [hd, show (nI (l + 1) - 1 : Int32) = nI l from nI_pred l, show (520 * nI l : Int32) = nI (520 * l) from pk_mul 520 l] at hb
    dsimp only at h2
    rw [op0 hv, hd] at h2
    have hsr : srt (G (v + 1)) n 257 (T.2.1 29) (T.2.1 30) (G 28) := by
      rw [hg (v + 1) v27.2.2.1 v27.2.2.2.1 v27.2.2.2.2, hg 28 (by decide) (by decide) (by decide)]
      obtain ⟨s1, s2, s3, s4⟩ := hs.2.1
      refine ⟨fun k hk => ?_, fun k hk => ?_, fun k j hk hj => ?_, fun m hm hmu => ?_⟩
      · rw [(hlow k (by omega)).1, (hlow k (by omega)).2]
        exact s1 k hk
      · rw [(hlow k (by omega)).1, (hlow (k + 1) (by omega)).1]
        exact s2 k hk
      · rw [(hlow k (by omega)).2, (hlow j (by omega)).2]
        exact s3 k j hk hj
      · obtain ⟨k, k1, k2⟩ := s4 m hm hmu
        exact ⟨k, k1, by rw [(hlow k (by omega)).2]; exact k2⟩
    obtain ⟨M', F', x1, x2, x3, x4, x5, k1, k2⟩ := x_line hn1 hn (by omega) hv (by rw [hg 27 (by decide) (by decide) (by decide)]; exact hs.1) hsr hI hb h2
    rw [nI_1] at k1 k2
    exact ⟨_, _, _, k1, l + 1, F', !b', rfl, rfl, by omega, k2, ag_tr ha x1 rfl rfl, fun k hk => ⟨(x2 k hk).1.trans (hlow k hk).1, (x2 k hk).2.trans (hlow k hk).2⟩, fun w w1 w2 w3 => (x3 w w1 w2 w3).trans (hg w w1 w2 w3), fun k hk => (x4 k hk).trans (hg29 k hk), x5⟩
/-- taken marks at the start -/
theorem q_394 (hn1 : 1 ≤ n) (hn : n ≤ 256) (h : e_makeCode_394 (nI c) (nI n) 0 S K1) : ∃ Z, ag [] [31] S Z ∧ (∀ k, k < 8320 → Z.2.1 31 k = if 7800 ≤ k ∧ k < 7800 + (2 * n - 2) then 1 else 0) ∧ e_makeCode_446 (nI c) 15 Z K1 := by
  refine v_e_makeCode_394 h (fun y4 T => ∃ q, y4 = nI q ∧ q ≤ 8320 ∧ ag [] [31] S T ∧ ∀ k, k < q → T.2.1 31 k = if 7800 ≤ k ∧ k < 7800 + (2 * n - 2) then 1 else 0) ⟨0, rfl, by decide, ag_refl, fun k hk => absurd hk (Nat.not_lt_zero _)⟩ ?_
  rintro y4 T R ⟨q, rfl, hq, ha, hc⟩ hb
  unfold b_makeCode_394 at hb
  by_cases e : q = 8320
  · right
    subst e
    exact ⟨T, ha, hc, hb.1 (Int32.le_refl _)⟩
  · left
    have hb := hb.2 (nI_ge (b := 8320) (by omega) (by decide))
    have cq : (nI q).toNatClampNeg = q := nI_clamp (by omega)
    have fin : ∀ x : Int32, x = (if 7800 ≤ q ∧ q < 7800 + (2 * n - 2) then 1 else 0) → b_makeCode_435 (nI c) (nI n) (nI q) (nI q) x T R K1 → ∃ (zx4 : Int32) (zS : ms), R (nI c) (nI n) zx4 zS ∧ ∃ q, zx4 = nI q ∧ q ≤ 8320 ∧ ag [] [31] S zS ∧ ∀ k, k < q → zS.2.1 31 k = if 7800 ≤ k ∧ k < 7800 + (2 * n - 2) then 1 else 0 := by
      intro x hx hb
      unfold b_makeCode_435 at hb
      obtain ⟨-, hR⟩ := hb
      rw [cq] at hR
      refine ⟨_, _, hR, q + 1, nI_1 q, by omega, ag_r ha rfl, fun k hk => ?_⟩
      show va_up T.2.1 31 (upd (T.2.1 31) q x) 31 k = _
      rw [vu_at]
      by_cases e2 : k = q
      · rw [e2, upd_at, hx]
      · rw [upd_ne e2]
        exact hc k (by omega)
    by_cases e1 : q < 7800
    · exact fin 0 (by rw [if_neg (by omega)]) (hb.1 (nI_lt (b := 7800) e1 (by decide)))
    · have hb := hb.2 (nI_nlt (b := 7800) (by omega) (by omega))
      have e7 : ((7800 + (2 * nI n)) - 2 : Int32) = nI (7800 + (2 * n - 2)) := by
        rw [show (2 : Int32) = nI 2 from rfl, pk_mul, show (7800 : Int32) = nI 7800 from rfl, nI_add, pk_sub (by omega), show 7800 + 2 * n - 2 = 7800 + (2 * n - 2) by omega]
      rw [e7] at hb
      by_cases e2 : 7800 + (2 * n - 2) ≤ q
      · exact fin 0 (by rw [if_neg (by omega)]) (hb.1 (nI_le e2 (by omega)))
      · exact fin 1 (by rw [if_pos (by omega)]) (hb.2 (nI_ge (by omega) (by omega)))
/-- how many things are taken of line 15 - d, and how many symbols are among them -/
def tq (M : Nat → Int32) (n : Nat) : Nat → Nat
  | 0 => 2 * n - 2
  | d + 1 => 2 * pcn M (520 * (15 - d)) (tq M n d)
def ccn (M : Nat → Int32) (n d : Nat) : Nat := tq M n d - pcn M (520 * (15 - d)) (tq M n d)
/-- how many of the first d lines have the i-th symbol taken -/
def lnn (M : Nat → Int32) (n i : Nat) : Nat → Nat
  | 0 => 0
  | d + 1 => lnn M n i d + (if i < ccn M n d then 1 else 0)
/-- all lines 0 .. 15 on both sides -/
def aLS (n : Nat) (W M tw : Nat → Int32) : Prop := ∀ l, l ≤ 15 → LSq n W M tw l (sz n l) ∧ (1 ≤ l → pcn M (520 * l) (sz n l) = sz n (l - 1) / 2) ∧ (l = 0 → pcn M 0 n = 0)
theorem pcn_0 {M : Nat → Int32} {o : Nat} : ∀ k, (∀ j, j < k → 0 ≤ (M (o + j)).toInt) → pcn M o k = 0
  | 0, _ => rfl
  | k + 1, h => by
    show pcn M o k + _ = 0
    rw [pcn_0 k (fun j hj => h j (by omega)), if_neg (by have := h k (by omega); omega)]
theorem aLS_of (hn1 : 1 ≤ n) (hn : n ≤ 256) (hs : lsI c v n S F) (hI : LNR c n 15 b S F) : aLS n (S.2.1 29) (S.2.1 30) (F 29) := by
  have nn : ∀ j, j < n → 0 ≤ (S.2.1 30 (0 + j)).toInt := fun j hj => by
    obtain ⟨m, -, m2, m3, -⟩ := hs.2.1.1 j hj
    rw [Nat.zero_add, m3, nI_toInt (by omega)]
    omega
  intro l hl
  by_cases e : l = 0
  · subst e
    refine ⟨fun k hk => ?_, fun q => absurd q (by decide), fun _ => pcn_0 n nn⟩
    have hk : k < n := hk
    have z : pcn (S.2.1 30) (520 * 0) k = 0 := pcn_0 k (fun j hj => nn j (by omega))
    have k0 := nn k hk
    refine ⟨Or.inr ?_, ?_⟩
    · rw [z, Nat.mul_zero, Nat.zero_add, Nat.sub_zero]
      rw [Nat.zero_add] at k0
      exact ⟨k0, rfl, rfl, hk⟩
    · rw [Nat.mul_zero, if_neg (by omega), Nat.zero_add]
      exact hs.2.2 k (by omega)
  · obtain ⟨x1, x2⟩ := hI.2.2.1 l (by omega) hl
    exact ⟨x1, fun _ => x2, fun q => absurd q e⟩
theorem pcn_mono {M : Nat → Int32} {o k : Nat} : ∀ j, k ≤ j → pcn M o k ≤ pcn M o j
  | 0, h => by
    obtain rfl : k = 0 := by omega
    exact Nat.le_refl _
  | j + 1, h => by
    by_cases e : k = j + 1
    · rw [e]
      exact Nat.le_refl _
    · exact Nat.le_trans (pcn_mono j (by omega)) (Nat.le_add_right _ _)
theorem tq_le {W M tw : Nat → Int32} (hn1 : 1 ≤ n) (hn : n ≤ 256) (h : aLS n W M tw) : ∀ d, d ≤ 15 → tq M n d ≤ sz n (15 - d)
  | 0, _ => sz_15 n (by omega)
  | d + 1, hd => by
    have q := tq_le hn1 hn h d (by omega)
    have p1 := pcn_mono (M := M) (o := 520 * (15 - d)) (sz n (15 - d)) q
    have p2 := (h (15 - d) (by omega)).2.1 (by omega)
    rw [p2] at p1
    rw [show 15 - d - 1 = 15 - (d + 1) by omega] at p1
    show 2 * pcn M (520 * (15 - d)) (tq M n d) ≤ sz n (15 - (d + 1))
    omega
/-- one line is taken -/
theorem x_take1 {d l : Nat} {R446 : Int32 → Int32 → ms → Prop} {K2' : Int32 → cs → Prop} (hn1 : 1 ≤ n) (hn : n ≤ 256) (hc3 : c ≤ 3) (hv : isOc v) (hd : d ≤ 15) (hl : l = 15 - d) (hs : lsI c v n S F) (hA : aLS n (S.2.1 29) (S.2.1 30) (F 29))
    (hlen : ∀ s, s ≤ 256 → F (v + 2) s = S.2.1 27 (257 * c + s)) (hcnt : ∀ i, i < n → (F (v + 2) (S.2.1 30 i).toNatClampNeg).toInt = ((lnn (S.2.1 30) n i d : Nat) : Int)) (hlb : d ≤ 15)
    (htk : ∀ j, j < 520 → (0 < (S.2.1 31 (520 * l + j)).toInt ↔ j < tq (S.2.1 30) n d)) (hlow : ∀ l' j, l' < l → j < 520 → (S.2.1 31 (520 * l' + j)).toInt = 0)
    (h1 : e_makeCode_454 (nI c) (nI l) 0 S R446 K1) (h2 : p_Li_takeThings UL 27 (nI l) (nI (tq (S.2.1 30) n d)) (v + 2) (F, L, PC a b P) K2') :
    ∃ M' F', ag [] [27, 31] S M' ∧ (∀ j, (j < 257 * c ∨ 257 * c + 257 ≤ j) → M'.2.1 27 j = S.2.1 27 j) ∧ (∀ w, w ≠ v + 2 → F' w = F w) ∧ (∀ s, s ≤ 256 → F' (v + 2) s = M'.2.1 27 (257 * c + s)) ∧ (∀ i, i < n → (F' (v + 2) (S.2.1 30 i).toNatClampNeg).toInt = ((lnn (S.2.1 30) n i (d + 1) : Nat) : Int)) ∧ (∀ s, s ≤ 256 → (∀ i, i < n → S.2.1 30 i ≠ nI s) → F' (v + 2) s = F (v + 2) s) ∧
      (1 ≤ l → ∀ j, j < 520 → (0 < (M'.2.1 31 (520 * (l - 1) + j)).toInt ↔ j < tq (S.2.1 30) n (d + 1))) ∧ (∀ l' j, l' + 1 < l → j < 520 → (M'.2.1 31 (520 * l' + j)).toInt = 0) ∧ R446 (nI c) (nI l + (-1)) M' ∧ K2' (nI (pcn (S.2.1 30) (520 * l) (tq (S.2.1 30) n d))) (F', L, PC a b P) := by
  have vv : v + 2 ≠ 27 ∧ v + 2 ≠ 28 ∧ v + 2 ≠ 29 ∧ v + 2 ≠ v + 1 := by rcases hv with rfl | rfl | rfl | rfl <;> decide
  have szb : sz n l ≤ 513 := by have := sz_le hn1 l; omega
  have tle : tq (S.2.1 30) n d ≤ sz n l := by rw [hl]; exact tq_le hn1 hn hA d hd
  obtain ⟨hL, hL2, -⟩ := hA l (by omega)
  -- the i-th symbol
  have sym : ∀ i, i < n → ∃ m, m ≤ 256 ∧ S.2.1 30 i = nI m ∧ F 28 i = nI m := fun i hi => by
    obtain ⟨m, -, m2, m3, m4, -⟩ := hs.2.1.1 i hi
    exact ⟨m, m2, m3, m4⟩
  unfold p_Li_takeThings at h2
  refine v_e_makeCode_454 h1 (fun y5 T => ∃ k G, y5 = nI k ∧ k ≤ 520 ∧ e_Li_takeThings_6 UL 27 (nI l) (nI (tq (S.2.1 30) n d)) (v + 2) (nI (pcn (S.2.1 30) (520 * l) (min k (tq (S.2.1 30) n d)))) (nI (min k (tq (S.2.1 30) n d))) (G, L, PC a b P) K2' ∧ ag [] [27, 31] S T ∧ (∀ j, (j < 257 * c ∨ 257 * c + 257 ≤ j) → T.2.1 27 j = S.2.1 27 j) ∧ (∀ w, w ≠ v + 2 → G w = F w) ∧ (∀ s, s ≤ 256 → G (v + 2) s = T.2.1 27 (257 * c + s)) ∧ (∀ i, i < n → (G (v + 2) (S.2.1 30 i).toNatClampNeg).toInt = ((lnn (S.2.1 30) n i d + (if i < min k (tq (S.2.1 30) n d) - pcn (S.2.1 30) (520 * l) (min k (tq (S.2.1 30) n d)) then 1 else 0) : Nat) : Int)) ∧ (∀ s, s ≤ 256 → (∀ i, i < n → S.2.1 30 i ≠ nI s) → G (v + 2) s = F (v + 2) s) ∧
      (∀ j, j < 520 → T.2.1 31 (520 * l + j) = S.2.1 31 (520 * l + j)) ∧ (1 ≤ l → ∀ j, j < 520 → (0 < (T.2.1 31 (520 * (l - 1) + j)).toInt ↔ j < 2 * pcn (S.2.1 30) (520 * l) (min k (tq (S.2.1 30) n d)))) ∧ ∀ l' j, l' + 1 < l → j < 520 → (T.2.1 31 (520 * l' + j)).toInt = 0) ⟨0, F, rfl, by decide, ?_, ag_refl, fun _ _ => rfl, fun _ _ => rfl, hlen, fun i hi => ?_, fun _ _ _ => rfl, fun _ _ => rfl, fun hl1 j hj => ?_, fun l' j h1 h2 => hlow l' j (by omega) h2⟩ ?_
  · rw [Nat.zero_min]
    exact h2
  · rw [Nat.zero_min, hcnt i hi, if_neg (by omega), Nat.add_zero]
  · rw [Nat.zero_min]
    have := hlow (l - 1) j (by omega) hj
    constructor
    · intro q; omega
    · intro q
      have q : j < 2 * 0 := q
      omega
  · rintro y5 T R ⟨k, G, rfl, hk, h2, ha, ho, hg, hgl, hgc, hgn, t1, t2, t3⟩ hb
    have e30 : T.2.1 30 = S.2.1 30 := ha.2 30 rfl
    unfold b_makeCode_454 at hb
    by_cases e : k = 520
    · right
      subst e
      have hb := hb.1 (Int32.le_refl _)
      have mt : min 520 (tq (S.2.1 30) n d) = tq (S.2.1 30) n d := by omega
      rw [mt] at h2 hgc t2
      have h2 := r_e_Li_takeThings_6 h2
      unfold b_Li_takeThings_6 at h2
      have h2 := h2.1 (Int32.le_refl _)
      unfold b_Li_takeThings_76 at h2
      refine ⟨T, G, ha, ho, hg, hgl, fun i hi => ?_, hgn, fun hl1 j hj => ?_, t3, hb, h2⟩
      · rw [hgc i hi, hl]
        rfl
      · have := t2 hl1 j hj
        rw [hl] at this ⊢
        exact this
    · left
      have hb := hb.2 (nI_ge (b := 520) (by omega) (by decide))
      obtain ⟨-, hb⟩ := hb
      have ck : ((520 * nI l) + nI k : Int32) = nI (520 * l + k) := by rw [show (520 : Int32) = nI 520 from rfl, pk_mul, nI_add]
      have ckc : (nI (520 * l + k)).toNatClampNeg = 520 * l + k := nI_clamp (by omega)
      rw [ck, ckc, t1 k (by omega), e30] at hb
      by_cases ek : k < tq (S.2.1 30) n d
      · have mk : min k (tq (S.2.1 30) n d) = k := by omega
        have mk1 : min (k + 1) (tq (S.2.1 30) n d) = k + 1 := by omega
        rw [mk] at h2 hgc t2
        have pk := pcn_le (M := S.2.1 30) (o := 520 * l) k
        have tk : 0 < (S.2.1 31 (520 * l + k)).toInt := (htk k (by omega)).mpr ek
        have z0 : (0 : Int32).toInt = 0 := by decide
        obtain ⟨-, hb⟩ := hb.2 (fun q => by have := i_le q; omega)
        have h2 := r_e_Li_takeThings_6 h2
        unfold b_Li_takeThings_6 at h2
        have h2 := h2.2 (nI_ge ek (by omega))
        obtain ⟨-, -, -, h2⟩ := h2.2 (nI_ge (b := 514) (by omega) (by decide))
        have c5 : ((514 * nI l) + nI k : Int32).toNatClampNeg = 514 * l + k := by rw [show (514 : Int32) = nI 514 from rfl, pk_mul, nI_add, nI_clamp (by omega)]
        have h2 : (G 29 ((514 * nI l) + nI k : Int32).toNatClampNeg = 0 → _) ∧ (¬ G 29 ((514 * nI l) + nI k : Int32).toNatClampNeg = 0 → _) := h2
        obtain ⟨st, tw⟩ := hL k (by omega)
        rw [c5, hg 29 (by omega), tw] at h2
        have ps : pcn (S.2.1 30) (520 * l) (k + 1) = pcn (S.2.1 30) (520 * l) k + (if (S.2.1 30 (520 * l + k)).toInt < 0 then 1 else 0) := rfl
        rcases st with ⟨neg, mv, -⟩ | ⟨pos, mv, -, hin⟩
        · -- a pair
          have hb := hb.1 (Int32.lt_iff_toInt_lt.mpr (by omega))
          have h2 := h2.2 (by rw [if_pos neg]; decide)
          unfold b_Li_takeThings_70 at h2
          rw [nI_1, nI_1] at h2
          rw [if_pos neg] at ps
          have l1 : 1 ≤ l := by
            refine Classical.byContradiction fun q => ?_
            have l0 : l = 0 := by omega
            have hkn : k < n := by rw [l0] at tle; have : sz n 0 = n := rfl; omega
            obtain ⟨m, m1, m2, -⟩ := sym k hkn
            rw [l0, Nat.mul_zero, Nat.zero_add, m2, nI_toInt (by omega)] at neg
            omega
          have pm := pcn_mono (M := S.2.1 30) (o := 520 * l) (k := k + 1) (sz n l) (by omega)
          rw [hL2 l1, ps] at pm
          have szm := sz_le hn1 (l - 1)
          unfold b_makeCode_518 at hb
          obtain ⟨-, hb⟩ := hb
          rw [ckc, t1 k (by omega), e30] at hb
          obtain ⟨-, -, -, hb⟩ := hb.2 (fun q => by have := i_le q; omega)
          have pcb : pcn (S.2.1 30) (520 * l) k ≤ 520 := by omega
          have eb : ((520 * (nI l - 1)) + (2 * ((-1) - S.2.1 30 (520 * l + k))) : Int32) = nI (520 * (l - 1) + 2 * pcn (S.2.1 30) (520 * l) k) := by
            have em : ((-1) - S.2.1 30 (520 * l + k) : Int32) = nI (pcn (S.2.1 30) (520 * l) k) := by
              apply Int32.toInt.inj
              rw [t_sub (a := -1) (b := -1) (c := -600) (d := -1) ⟨by decide, by decide⟩ ⟨by omega, by omega⟩ (by decide) (by decide), mv, nI_toInt (by omega), show (-1 : Int32).toInt = -1 by decide]
              omega
            rw [em, m1_n l1, show (520 : Int32) = nI 520 from rfl, show (2 : Int32) = nI 2 from rfl, pk_mul, pk_mul, nI_add]
          rw [eb, nI_1, nI_clamp (by omega), nI_clamp (by omega)] at hb
          unfold b_makeCode_568 at hb
          refine ⟨_, _, hb, k + 1, G, nI_1 k, by omega, by rw [mk1, ps]; exact h2, ?_, ?_, hg, ?_, fun i hi => ?_, hgn, fun j hj => ?_, fun _ j hj => ?_, fun l' j h1' h2' => ?_⟩
          · refine ag_r (T := (T.1, va_up T.2.1 31 (upd (T.2.1 31) (520 * (l - 1) + 2 * pcn (S.2.1 30) (520 * l) k) 1), T.2.2)) (ag_r ha rfl) rfl
          · intro j hj
            dsimp only
            rw [vu_ne (show (27 : Nat) ≠ 31 by decide), vu_ne (show (27 : Nat) ≠ 31 by decide)]
            exact ho j hj
          · intro s hs'
            dsimp only
            rw [vu_ne (show (27 : Nat) ≠ 31 by decide), vu_ne (show (27 : Nat) ≠ 31 by decide)]
            exact hgl s hs'
          · rw [hgc i hi, mk1, ps]
            congr 1
            congr 1
            rw [show k + 1 - (pcn (S.2.1 30) (520 * l) k + 1) = k - pcn (S.2.1 30) (520 * l) k by omega]
          · dsimp only
            rw [vu_at, vu_at, upd_ne (by omega), upd_ne (by omega)]
            exact t1 j hj
          · dsimp only
            rw [vu_at, vu_at, mk1, ps]
            by_cases q1 : j = 2 * pcn (S.2.1 30) (520 * l) k + 1
            · rw [q1, show 520 * (l - 1) + (2 * pcn (S.2.1 30) (520 * l) k + 1) = 520 * (l - 1) + 2 * pcn (S.2.1 30) (520 * l) k + 1 by omega, upd_at]
              exact ⟨fun _ => by omega, fun _ => by decide⟩
            · rw [upd_ne (by omega)]
              by_cases q2 : j = 2 * pcn (S.2.1 30) (520 * l) k
              · rw [q2, upd_at]
                exact ⟨fun _ => by omega, fun _ => by decide⟩
              · rw [upd_ne (by omega), t2 l1 j hj]
                omega
          · dsimp only
            have : 520 * l' + 520 ≤ 520 * (l - 1) := by
              have : 520 * (l' + 1) ≤ 520 * (l - 1) := Nat.mul_le_mul_left _ (by omega)
              omega
            rw [vu_at, vu_at, upd_ne (by omega), upd_ne (by omega)]
            exact t3 l' j h1' h2'
        · -- a symbol
          obtain ⟨-, -, -, hb⟩ := hb.2 (fun q => by have := i_lt q; omega)
          rw [if_neg (by omega)] at ps
          rw [Nat.add_zero] at ps
          have h2 := h2.1 (by rw [if_neg (by omega)])
          have ei : (nI k - nI (pcn (S.2.1 30) (520 * l) k) : Int32) = nI (k - pcn (S.2.1 30) (520 * l) k) := pk_sub pk
          have h2 : (G 27 1 ≤ nI k - nI (pcn (S.2.1 30) (520 * l) k) → _) ∧ (¬ G 27 1 ≤ nI k - nI (pcn (S.2.1 30) (520 * l) k) → _) := h2
          rw [ei, hg 27 (by omega), hs.1] at h2
          obtain ⟨-, -, -, -, -, -, h2⟩ := h2.2 (nI_ge hin (by omega))
          unfold b_Li_takeThings_70 at h2
          obtain ⟨m, m1, m2, m3⟩ := sym _ hin
          have h2 : e_Li_takeThings_6 UL 27 (nI l) (nI (tq (S.2.1 30) n d)) (v + 2) (nI (pcn (S.2.1 30) (520 * l) k)) (nI k + 1) (va_up G (v + 2) (upd (G (v + 2)) (G 28 (nI (k - pcn (S.2.1 30) (520 * l) k)).toNatClampNeg).toNatClampNeg (G (v + 2) (G 28 (nI (k - pcn (S.2.1 30) (520 * l) k)).toNatClampNeg).toNatClampNeg + 1)), L, PC a b P) K2' := h2
          rw [nI_clamp (show k - pcn (S.2.1 30) (520 * l) k < 2 ^ 31 by omega), hg 28 (by omega), m3, nI_clamp (show m < 2 ^ 31 by omega), nI_1] at h2
          rw [mv, m2, n257, nI_clamp (show 257 * c + m < 2 ^ 31 by omega)] at hb
          unfold b_makeCode_568 at hb
          have cm := hgc (k - pcn (S.2.1 30) (520 * l) k) hin
          rw [m2, nI_clamp (show m < 2 ^ 31 by omega), if_neg (Nat.lt_irrefl _), Nat.add_zero] at cm
          have lb : lnn (S.2.1 30) n (k - pcn (S.2.1 30) (520 * l) k) d ≤ d := by
            have : ∀ x, lnn (S.2.1 30) n (k - pcn (S.2.1 30) (520 * l) k) x ≤ x := by
              intro x
              induction x with
              | zero => exact Nat.le_refl _
              | succ x ih =>
                show _ + _ ≤ x + 1
                split <;> omega
            exact this d
          have tp : (G (v + 2) m + 1).toInt = (G (v + 2) m).toInt + 1 := t_add (a := 0) (b := 100) (c := 1) (d := 1) ⟨by omega, by omega⟩ ⟨by decide, by decide⟩ (by decide) (by decide)
          refine ⟨_, _, hb, k + 1, _, nI_1 k, by omega, by rw [mk1, ps]; exact h2, ag_r ha rfl, ?_, ?_, ?_, fun i hi => ?_, fun s hs' hns => ?_, fun j hj => ?_, fun hl1 j hj => ?_, fun l' j h1' h2' => ?_⟩
          · intro j hj
            dsimp only
            rw [vu_at, upd_ne (by omega)]
            exact ho j hj
          · intro w hw
            rw [vu_ne hw]
            exact hg w hw
          · intro s hs'
            show va_up G (v + 2) (upd (G (v + 2)) m (G (v + 2) m + 1)) (v + 2) s = va_up T.2.1 27 (upd (T.2.1 27) (257 * c + m) (T.2.1 27 (257 * c + m) + 1)) 27 (257 * c + s)
            rw [vu_at, vu_at]
            by_cases q : s = m
            · rw [q, upd_at, upd_at, hgl m m1]
            · rw [upd_ne q, upd_ne (by omega)]
              exact hgl s hs'
          · rw [vu_at, mk1, ps]
            obtain ⟨mi, i1, i2, -⟩ := sym i hi
            by_cases q : i = k - pcn (S.2.1 30) (520 * l) k
            · subst q
              rw [m2, nI_clamp (show m < 2 ^ 31 by omega), upd_at, tp, cm, if_pos (by omega)]
              omega
            · have ne : mi ≠ m := by
                intro q2
                apply q
                refine hs.2.1.2.2.1 i _ hi hin ?_
                rw [i2, m2, q2]
              have := hgc i hi
              rw [i2, nI_clamp (show mi < 2 ^ 31 by omega)] at this ⊢
              rw [upd_ne ne, this]
              by_cases q3 : i < k - pcn (S.2.1 30) (520 * l) k
              · rw [if_pos q3, if_pos (by omega)]
              · rw [if_neg q3, if_neg (by omega)]
          · rw [vu_at]
            have : s ≠ m := fun q => hns _ hin (by rw [m2, q])
            rw [upd_ne this]
            exact hgn s hs' hns
          · dsimp only
            rw [vu_ne (show (31 : Nat) ≠ 27 by decide)]
            exact t1 j hj
          · dsimp only
            rw [vu_ne (show (31 : Nat) ≠ 27 by decide), mk1, ps]
            exact t2 hl1 j hj
          · dsimp only
            rw [vu_ne (show (31 : Nat) ≠ 27 by decide)]
            exact t3 l' j h1' h2'
      · have mk : min k (tq (S.2.1 30) n d) = tq (S.2.1 30) n d := by omega
        have mk1 : min (k + 1) (tq (S.2.1 30) n d) = tq (S.2.1 30) n d := by omega
        have z0 : (0 : Int32).toInt = 0 := by decide
        have tk : ¬ 0 < (S.2.1 31 (520 * l + k)).toInt := fun q => ek ((htk k (by omega)).mp q)
        have hb := hb.1 (Int32.le_iff_toInt_le.mpr (by omega))
        unfold b_makeCode_518 at hb
        obtain ⟨-, hb⟩ := hb
        rw [ckc, t1 k (by omega)] at hb
        have hb := hb.1 (Int32.le_iff_toInt_le.mpr (by omega))
        unfold b_makeCode_568 at hb
        rw [mk] at h2 hgc t2
        exact ⟨_, _, hb, k + 1, G, nI_1 k, by omega, by rw [mk1]; exact h2, ha, ho, hg, hgl, by rw [mk1]; exact hgc, hgn, t1, by rw [mk1]; exact t2, t3⟩
end ALL

/-! CODES: the lengths fill the tree: sums -/
section MONO
variable {W M tw f : Nat → Int32} {n c : Nat}
theorem ex_s {o i : Nat} : ∀ t, i < t - pcn M o t → ∃ k, k < t ∧ 0 ≤ (M (o + k)).toInt ∧ k - pcn M o k = i
  | 0, h => absurd h (by omega)
  | t + 1, h => by
    have pl := pcn_le (M := M) (o := o) t
    have e : pcn M o (t + 1) = pcn M o t + (if (M (o + t)).toInt < 0 then 1 else 0) := rfl
    by_cases q : i < t - pcn M o t
    · obtain ⟨k, k1, k2, k3⟩ := ex_s t q
      exact ⟨k, by omega, k2, k3⟩
    · by_cases s : (M (o + t)).toInt < 0
      · rw [if_pos s] at e
        omega
      · rw [if_neg s] at e
        exact ⟨t, by omega, by omega, by omega⟩
theorem ex_p {o p : Nat} : ∀ t, pcn M o t = p + 1 → ∃ k, k < t ∧ (M (o + k)).toInt < 0 ∧ pcn M o k = p
  | 0, h => absurd h (by show ¬ (0 = p + 1); omega)
  | t + 1, h => by
    have e : pcn M o (t + 1) = pcn M o t + (if (M (o + t)).toInt < 0 then 1 else 0) := rfl
    by_cases s : (M (o + t)).toInt < 0
    · rw [if_pos s] at e
      exact ⟨t, by omega, s, by omega⟩
    · rw [if_neg s] at e
      obtain ⟨k, k1, k2, k3⟩ := ex_p (o := o) (p := p) t (by omega)
      exact ⟨k, by omega, k2, k3⟩
theorem srtW {o q : Nat} (h : ∀ k, k + 1 < q → (W (o + k)).toInt ≤ (W (o + (k + 1))).toInt) : ∀ d k, k + d < q → (W (o + k)).toInt ≤ (W (o + (k + d))).toInt
  | 0, k, _ => Int.le_refl _
  | d + 1, k, hk => Int.le_trans (srtW h d k (by omega)) (h (k + d) (by omega))
/-- lower lines have no more symbols taken -/
theorem cc_mono (hn1 : 1 ≤ n) (hn : n ≤ 256) (hA : aLS n W M tw) (hN : ∀ l, l ≤ 15 → LNf c f W M n l (sz n l)) {d : Nat} (hd : d + 1 ≤ 15) : ccn M n (d + 1) ≤ ccn M n d := by
  refine Classical.byContradiction fun hc => ?_
  have t0 := tq_le hn1 hn hA d (by omega)
  have t1 := tq_le hn1 hn hA (d + 1) hd
  have pl := pcn_le (M := M) (o := 520 * (15 - d)) (tq M n d)
  have e1 : tq M n (d + 1) = 2 * pcn M (520 * (15 - d)) (tq M n d) := rfl
  have cd : ccn M n d = tq M n d - pcn M (520 * (15 - d)) (tq M n d) := rfl
  have cd1 : ccn M n (d + 1) = tq M n (d + 1) - pcn M (520 * (15 - (d + 1))) (tq M n (d + 1)) := rfl
  obtain ⟨k, k1, k2, k3⟩ := ex_s (M := M) (o := 520 * (15 - (d + 1))) (i := ccn M n d) (tq M n (d + 1)) (by omega)
  obtain ⟨p, hp⟩ : ∃ p, pcn M (520 * (15 - d)) (tq M n d) = p + 1 := ⟨pcn M (520 * (15 - d)) (tq M n d) - 1, by omega⟩
  obtain ⟨k', q1, q2, q3⟩ := ex_p (M := M) (o := 520 * (15 - d)) (p := p) (tq M n d) hp
  -- the symbol, in the lower line
  have st0 := ((hA (15 - (d + 1)) (by omega)).1 k (by omega)).1
  have wk : (W (520 * (15 - (d + 1)) + k)) = W (ccn M n d) ∧ ccn M n d < n := by
    rcases st0 with ⟨x1, -⟩ | ⟨-, -, x3, x4⟩
    · omega
    · rw [k3] at x3 x4
      exact ⟨x3, x4⟩
  -- the last pair, in the upper one
  have st1 := ((hA (15 - d) (by omega)).1 k' (by omega)).1
  have pk' := pcn_le (M := M) (o := 520 * (15 - d)) k'
  have m' := pcn_mono (M := M) (o := 520 * (15 - d)) (k := k') (tq M n d) (by omega)
  rcases st1 with ⟨-, x2, x3⟩ | ⟨x1, -⟩
  · rw [q3] at x2 x3
    -- symbols before k' are at most ccn M n d
    have sg : ∀ t, k' ≤ t → k' - pcn M (520 * (15 - d)) k' ≤ t - pcn M (520 * (15 - d)) t := by
      intro t
      induction t with
      | zero =>
        intro h
        obtain rfl : k' = 0 := by omega
        exact Nat.le_refl _
      | succ t ih =>
        intro h
        by_cases e : k' = t + 1
        · rw [e]
          exact Nat.le_refl _
        · have := ih (by omega)
          have e2 : pcn M (520 * (15 - d)) (t + 1) = pcn M (520 * (15 - d)) t + (if (M (520 * (15 - d) + t)).toInt < 0 then 1 else 0) := rfl
          have := pcn_le (M := M) (o := 520 * (15 - d)) t
          split at e2 <;> omega
    have sg' := sg (tq M n d) (by omega)
    rw [q3] at sg'
    have lt := x3 (by omega)
    have s0 : (W (k' - p)).toInt ≤ (W (ccn M n d)).toInt := by
      have h0 := (hN 0 (by decide)).2.1
      have := srtW (W := W) (o := 0) (q := n) (fun k hk => by have := h0 k hk; rw [Nat.mul_zero] at this; exact this) (ccn M n d - (k' - p)) (k' - p) (by omega)
      rw [Nat.zero_add, Nat.zero_add, show k' - p + (ccn M n d - (k' - p)) = ccn M n d by omega] at this
      exact this
    -- the pair's weight
    have mf := (hN (15 - d) (by omega)).2.2 k' (by omega)
    have lo := hN (15 - (d + 1)) (by omega)
    have two : (W (520 * (15 - d) + k')).toInt = (W (520 * (15 - (d + 1)) + 2 * p)).toInt + (W (520 * (15 - (d + 1)) + (2 * p + 1))).toInt := by
      rcases mf with ⟨m, y1, y2, -⟩ | ⟨p', l', y1, y2, y3, y4⟩
      · rw [y2, nI_toInt (by omega)] at q2
        omega
      · have : p' = p := by omega
        subst this
        have : l' = 15 - (d + 1) := by omega
        subst this
        exact y4
    have b1 := (lo.1 (2 * p) (by omega)).1
    have srt1 := srtW (W := W) (o := 520 * (15 - (d + 1))) (q := sz n (15 - (d + 1))) lo.2.1 (2 * p + 1 - k) k (by omega)
    rw [show k + (2 * p + 1 - k) = 2 * p + 1 by omega, wk.1] at srt1
    omega
  · omega
end MONO
/-- sums over the first n -/
def smN (f : Nat → Nat) : Nat → Nat
  | 0 => 0
  | n + 1 => smN f n + f n
theorem smN_congr {f g : Nat → Nat} : ∀ n, (∀ i, i < n → f i = g i) → smN f n = smN g n
  | 0, _ => rfl
  | n + 1, h => by
    show smN f n + f n = smN g n + g n
    rw [smN_congr n (fun i hi => h i (by omega)), h n (by omega)]
theorem smN_le {f g : Nat → Nat} : ∀ n, (∀ i, i < n → f i ≤ g i) → smN f n ≤ smN g n
  | 0, _ => Nat.le_refl _
  | n + 1, h => Nat.add_le_add (smN_le n (fun i hi => h i (by omega))) (h n (by omega))
theorem smN_add {f g : Nat → Nat} : ∀ n, smN (fun i => f i + g i) n = smN f n + smN g n
  | 0 => rfl
  | n + 1 => by
    show smN (fun i => f i + g i) n + (f n + g n) = smN f n + f n + (smN g n + g n)
    rw [smN_add n]
    omega
theorem smN_c {k : Nat} : ∀ n, smN (fun _ => k) n = n * k
  | 0 => (Nat.zero_mul k).symm
  | n + 1 => by
    show smN (fun _ => k) n + k = (n + 1) * k
    rw [smN_c n, Nat.succ_mul]
theorem smN_mul {f : Nat → Nat} {k : Nat} : ∀ n, smN (fun i => f i * k) n = smN f n * k
  | 0 => (Nat.zero_mul k).symm
  | n + 1 => by
    show smN (fun i => f i * k) n + f n * k = (smN f n + f n) * k
    rw [smN_mul n, Nat.add_mul]
theorem smN_lt {c : Nat} : ∀ n, smN (fun i => if i < c then 1 else 0) n = min n c
  | 0 => (Nat.zero_min c).symm
  | n + 1 => by
    show smN _ n + (if n < c then 1 else 0) = min (n + 1) c
    rw [smN_lt n]
    split <;> omega
theorem smN_pos {f : Nat → Nat} {j : Nat} : ∀ n, j < n → f j ≤ smN f n
  | 0, h => absurd h (Nat.not_lt_zero _)
  | n + 1, h => by
    show f j ≤ smN f n + f n
    by_cases e : j = n
    · rw [e]
      omega
    · have := smN_pos (f := f) (j := j) n (by omega)
      omega
theorem smN_two {f : Nat → Nat} {j i : Nat} (hij : j < i) : ∀ n, i < n → f j + f i ≤ smN f n
  | 0, h => absurd h (Nat.not_lt_zero _)
  | n + 1, h => by
    show f j + f i ≤ smN f n + f n
    by_cases e : i = n
    · have := smN_pos (f := f) (j := j) n (by omega)
      rw [e]
      omega
    · have := smN_two (f := f) hij n (by omega)
      omega
/-- the order of two sums -/
theorem smN_sw {f : Nat → Nat → Nat} : ∀ n m, smN (fun s => smN (fun i => f s i) m) n = smN (fun i => smN (fun s => f s i) n) m
  | 0, m => by
    show 0 = smN (fun _ => 0) m
    rw [smN_c, Nat.mul_zero]
  | n + 1, m => by
    show smN (fun s => smN (fun i => f s i) m) n + smN (fun i => f n i) m = smN (fun i => smN (fun s => f s i) n + f n i) m
    rw [smN_sw n m, smN_add]
theorem smN_one {x k : Nat} : ∀ n, k < n → smN (fun s => if s = k then x else 0) n = x
  | 0, h => absurd h (Nat.not_lt_zero _)
  | n + 1, h => by
    show smN _ n + (if n = k then x else 0) = x
    by_cases e : n = k
    · subst e
      rw [if_pos rfl, smN_congr (g := fun _ => 0) n (fun i hi => if_neg (by omega)), smN_c, Nat.mul_zero, Nat.zero_add]
    · rw [if_neg e, smN_one n (by omega), Nat.add_zero]
section KRAFT
variable {W M tw f : Nat → Int32} {n c : Nat}
/-- what symbol i has of the lines so far, by their weights -/
def krn (M : Nat → Int32) (n i : Nat) (D : Nat) : Nat := smN (fun d => if i < ccn M n d then 2 ^ (15 - d) else 0) D
theorem lnn_le {i : Nat} : ∀ d, lnn M n i d ≤ d
  | 0 => Nat.le_refl _
  | d + 1 => by
    have := lnn_le (i := i) d
    show _ + _ ≤ d + 1
    split <;> omega
theorem krn_eq (hm : ∀ d, d + 1 ≤ 15 → ccn M n (d + 1) ≤ ccn M n d) {i : Nat} : ∀ D, D ≤ 16 → krn M n i D + 2 ^ (16 - lnn M n i D) = 2 ^ 16 ∧ ((∃ d, d < D ∧ i < ccn M n d → False) ∨ True) ∧ (D = 0 ∨ (i < ccn M n (D - 1) → lnn M n i D = D))
  | 0, _ => ⟨by show 0 + 2 ^ 16 = 2 ^ 16; omega, Or.inr trivial, Or.inl rfl⟩
  | D + 1, h => by
    obtain ⟨h1, -, h3⟩ := krn_eq hm D (by omega)
    have e1 : krn M n i (D + 1) = krn M n i D + (if i < ccn M n D then 2 ^ (15 - D) else 0) := rfl
    have e2 : lnn M n i (D + 1) = lnn M n i D + (if i < ccn M n D then 1 else 0) := rfl
    by_cases q : i < ccn M n D
    · have full : lnn M n i D = D := by
        rcases h3 with rfl | h3
        · rfl
        · by_cases d0 : D = 0
          · subst d0
            rfl
          · obtain ⟨D', rfl⟩ : ∃ D', D = D' + 1 := ⟨D - 1, by omega⟩
            have := hm D' (by omega)
            exact h3 (by rw [show D' + 1 - 1 = D' by omega]; omega)
      rw [if_pos q] at e1 e2
      refine ⟨?_, Or.inr trivial, Or.inr (fun _ => by omega)⟩
      rw [e1, e2, full]
      rw [full] at h1
      have : 2 ^ (16 - D) = 2 ^ (15 - D) + 2 ^ (15 - D) := by
        rw [show 16 - D = (15 - D) + 1 by omega, Nat.pow_succ]
        omega
      rw [show 16 - (D + 1) = 15 - D by omega]
      omega
    · rw [if_neg q] at e1 e2
      rw [e1, e2, Nat.add_zero, Nat.add_zero]
      exact ⟨h1, Or.inr trivial, Or.inr (fun q' => absurd (by rw [show D + 1 - 1 = D by omega] at q'; exact q') q)⟩
/-- all that is taken, by weights -/
theorem tq_sum (hn1 : 1 ≤ n) (hn : n ≤ 256) (hA : aLS n W M tw) : smN (fun d => ccn M n d * 2 ^ (15 - d)) 16 = (n - 1) * 2 ^ 16 := by
  have part : ∀ D, D ≤ 15 → smN (fun d => ccn M n d * 2 ^ (15 - d)) D + tq M n D * 2 ^ (15 - D) = (2 * n - 2) * 2 ^ 15 := by
    intro D
    induction D with
    | zero => intro _; show 0 + (2 * n - 2) * 2 ^ 15 = _; omega
    | succ D ih =>
      intro hD
      have := ih (by omega)
      have pl := pcn_le (M := M) (o := 520 * (15 - D)) (tq M n D)
      have e1 : tq M n (D + 1) = 2 * pcn M (520 * (15 - D)) (tq M n D) := rfl
      have e2 : ccn M n D = tq M n D - pcn M (520 * (15 - D)) (tq M n D) := rfl
      show smN (fun d => ccn M n d * 2 ^ (15 - d)) D + ccn M n D * 2 ^ (15 - D) + tq M n (D + 1) * 2 ^ (15 - (D + 1)) = _
      have p2 : 2 ^ (15 - D) = 2 * 2 ^ (15 - (D + 1)) := by
        rw [show 15 - D = (15 - (D + 1)) + 1 by omega, Nat.pow_succ, Nat.mul_comm]
      have e3 : tq M n (D + 1) * 2 ^ (15 - (D + 1)) = pcn M (520 * (15 - D)) (tq M n D) * 2 ^ (15 - D) := by
        rw [e1, p2, Nat.mul_comm 2 (pcn M (520 * (15 - D)) (tq M n D)), Nat.mul_assoc]
      rw [e3, Nat.add_assoc, ← Nat.add_mul, show ccn M n D + pcn M (520 * (15 - D)) (tq M n D) = tq M n D by omega]
      exact this
  have p := part 15 (Nat.le_refl _)
  show smN (fun d => ccn M n d * 2 ^ (15 - d)) 15 + ccn M n 15 * 2 ^ (15 - 15) = _
  have z : pcn M (520 * (15 - 15)) (tq M n 15) = 0 := by
    have t := tq_le hn1 hn hA 15 (Nat.le_refl _)
    have := (hA 0 (by decide)).2.2 rfl
    have m := pcn_mono (M := M) (o := 0) (k := tq M n 15) n t
    show pcn M 0 (tq M n 15) = 0
    omega
  have c15 : ccn M n 15 = tq M n 15 := by
    show tq M n 15 - pcn M (520 * (15 - 15)) (tq M n 15) = _
    rw [z, Nat.sub_zero]
  rw [c15, p]
  have : (2 * n - 2) = (n - 1) * 2 := by omega
  rw [this, Nat.mul_assoc]
theorem kraft (hn1 : 1 ≤ n) (hn : n ≤ 256) (hA : aLS n W M tw) (hN : ∀ l, l ≤ 15 → LNf c f W M n l (sz n l)) : smN (fun i => 2 ^ (16 - lnn M n i 16)) n = 2 ^ 16 := by
  have hm : ∀ d, d + 1 ≤ 15 → ccn M n (d + 1) ≤ ccn M n d := fun d hd => cc_mono hn1 hn hA hN hd
  have ccle : ∀ d, d ≤ 15 → ccn M n d ≤ n := by
    have top : ∀ d, d ≤ 15 → ccn M n d ≤ ccn M n 0 := by
      intro d
      induction d with
      | zero => intro _; exact Nat.le_refl _
      | succ d ih => intro hd; exact Nat.le_trans (hm d hd) (ih (by omega))
    intro d hd
    refine Nat.le_trans (top d hd) ?_
    -- singles of a line are at most n
    refine Classical.byContradiction fun q => ?_
    have t : tq M n 0 ≤ sz n 15 := tq_le hn1 hn hA 0 (by decide)
    obtain ⟨k, k1, k2, k3⟩ := ex_s (M := M) (o := 520 * (15 - 0)) (i := n) (tq M n 0) (by
      have : ccn M n 0 = tq M n 0 - pcn M (520 * (15 - 0)) (tq M n 0) := rfl
      omega)
    rcases ((hA 15 (Nat.le_refl _)).1 k (by omega)).1 with ⟨x1, -⟩ | ⟨-, -, -, x4⟩
    · have k2 : 0 ≤ (M (520 * 15 + k)).toInt := k2
      omega
    · have k3 : k - pcn M (520 * 15) k = n := k3
      omega
  have s1 : smN (fun i => krn M n i 16) n = (n - 1) * 2 ^ 16 := by
    have sw := smN_sw (f := fun i d => if i < ccn M n d then 2 ^ (15 - d) else 0) n 16
    show smN (fun i => smN (fun d => if i < ccn M n d then 2 ^ (15 - d) else 0) 16) n = _
    rw [sw, ← tq_sum hn1 hn hA]
    refine smN_congr 16 (fun d hd => ?_)
    have e : smN (fun s => if s < ccn M n d then 2 ^ (15 - d) else 0) n = smN (fun s => (if s < ccn M n d then 1 else 0) * 2 ^ (15 - d)) n := smN_congr n (fun s _ => by split <;> simp)
    rw [e, smN_mul, smN_lt, Nat.min_eq_right (ccle d (by omega))]
  have s2 : smN (fun i => krn M n i 16 + 2 ^ (16 - lnn M n i 16)) n = n * 2 ^ 16 := by
    rw [smN_congr (g := fun _ => 2 ^ 16) n (fun i _ => (krn_eq hm (i := i) 16 (Nat.le_refl _)).1), smN_c]
  rw [smN_add, s1] at s2
  have : n * 2 ^ 16 = (n - 1) * 2 ^ 16 + 2 ^ 16 := by
    obtain ⟨n', rfl⟩ : ∃ n', n = n' + 1 := ⟨n - 1, by omega⟩
    rw [Nat.succ_mul, show n' + 1 - 1 = n' by omega]
  omega
/-- every symbol that is used has a length, where there are two or more -/
theorem ln_pos (hn1 : 2 ≤ n) (hn : n ≤ 256) (hk : smN (fun i => 2 ^ (16 - lnn M n i 16)) n = 2 ^ 16) {i : Nat} (hi : i < n) : 1 ≤ lnn M n i 16 := by
  refine Classical.byContradiction fun q => ?_
  have e : lnn M n i 16 = 0 := by omega
  have big : 2 ^ (16 - lnn M n i 16) = 2 ^ 16 := by rw [e]
  have one : ∀ j, 1 ≤ 2 ^ (16 - lnn M n j 16) := fun j => Nat.pow_pos (by decide)
  by_cases i0 : i = 0
  · have := smN_two (f := fun i => 2 ^ (16 - lnn M n i 16)) (j := 0) (i := 1) (by decide) n (by omega)
    have o := one 1
    rw [i0] at big
    omega
  · have := smN_two (f := fun i => 2 ^ (16 - lnn M n i 16)) (j := 0) (i := i) (by omega) n hi
    have o := one 0
    omega
end KRAFT

/-! CODES: lengths of both sides, and the codes themselves -/
section LEN
variable {S : ms} {F : cF} {L : cL} {a b : Bool} {P : Nat → Nat → Nat} {K1 : ms → Prop} {K2 : cs → Prop} {c v n : Nat}
theorem x_takeA (hn1 : 1 ≤ n) (hn : n ≤ 256) (hc3 : c ≤ 3) (hv : isOc v) (hs : lsI c v n S F) (hA : aLS n (S.2.1 29) (S.2.1 30) (F 29)) (hl0 : ∀ s, s ≤ 256 → F (v + 2) s = 0 ∧ S.2.1 27 (257 * c + s) = 0)
    (htk : ∀ k, k < 8320 → S.2.1 31 k = if 7800 ≤ k ∧ k < 7800 + (2 * n - 2) then 1 else 0)
    (h1 : e_makeCode_446 (nI c) 15 S K1) (h2 : e_Li_setLengths_86 UL 27 v (nI (2 * n - 2)) 15 (F, L, PC a b P) K2) :
    ∃ M' F', ag [] [27, 31] S M' ∧ (∀ j, (j < 257 * c ∨ 257 * c + 257 ≤ j) → M'.2.1 27 j = S.2.1 27 j) ∧ (∀ w, w ≠ v + 2 → F' w = F w) ∧ (∀ s, s ≤ 256 → F' (v + 2) s = M'.2.1 27 (257 * c + s)) ∧ (∀ i, i < n → (F' (v + 2) (S.2.1 30 i).toNatClampNeg).toInt = ((lnn (S.2.1 30) n i 16 : Nat) : Int)) ∧ (∀ s, s ≤ 256 → (∀ i, i < n → S.2.1 30 i ≠ nI s) → F' (v + 2) s = 0) ∧ e_makeCode_586 (nI c) 0 1 M' K1 ∧ K2 (F', L, PC a b P) := by
  have vv : v + 2 ≠ 27 ∧ v + 2 ≠ 28 ∧ v + 2 ≠ 29 ∧ v + 1 ≠ v + 2 := by rcases hv with rfl | rfl | rfl | rfl <;> decide
  have o31 : (1 : Int32).toInt = 1 := by decide
  have z31 : (0 : Int32).toInt = 0 := by decide
  refine v_e_makeCode_446 h1 (fun y4 T => ∃ d G, y4 = nI (16 - d) + (-1) ∧ d ≤ 16 ∧ e_Li_setLengths_86 UL 27 v (nI (tq (S.2.1 30) n d)) (nI (16 - d) + (-1)) (G, L, PC a b P) K2 ∧ ag [] [27, 31] S T ∧ (∀ j, (j < 257 * c ∨ 257 * c + 257 ≤ j) → T.2.1 27 j = S.2.1 27 j) ∧ (∀ w, w ≠ v + 2 → G w = F w) ∧ (∀ s, s ≤ 256 → G (v + 2) s = T.2.1 27 (257 * c + s)) ∧ (∀ i, i < n → (G (v + 2) (S.2.1 30 i).toNatClampNeg).toInt = ((lnn (S.2.1 30) n i d : Nat) : Int)) ∧ (∀ s, s ≤ 256 → (∀ i, i < n → S.2.1 30 i ≠ nI s) → G (v + 2) s = 0) ∧ (d ≤ 15 → ∀ j, j < 520 → (0 < (T.2.1 31 (520 * (15 - d) + j)).toInt ↔ j < tq (S.2.1 30) n d)) ∧ ∀ l' j, l' < 15 - d → j < 520 → (T.2.1 31 (520 * l' + j)).toInt = 0) ⟨0, F, by decide, by decide, ?_, ag_refl, fun _ _ => rfl, fun _ _ => rfl, fun s hs' => (hl0 s hs').1.trans (hl0 s hs').2.symm, fun i hi => ?_, fun s hs' _ => (hl0 s hs').1, fun _ j hj => ?_, fun l' j h1 h2 => ?_⟩ ?_
  · exact h2
  · obtain ⟨m, -, m2, m3, -⟩ := hs.2.1.1 i hi
    rw [m3, nI_clamp (by omega), (hl0 m m2).1]
    rfl
  · rw [htk _ (by omega)]
    show 0 < (if _ then (1 : Int32) else 0).toInt ↔ j < 2 * n - 2
    by_cases q : 7800 ≤ 520 * (15 - 0) + j ∧ 520 * (15 - 0) + j < 7800 + (2 * n - 2)
    · rw [if_pos q, o31]
      omega
    · rw [if_neg q, z31]
      omega
  · have : 520 * l' + 520 ≤ 7800 := by
      have : 520 * (l' + 1) ≤ 520 * 15 := Nat.mul_le_mul_left _ (by omega)
      omega
    rw [htk _ (by omega), if_neg (by omega)]
    rfl
  · rintro y4 T R ⟨d, G, rfl, hd, h2, ha, ho, hg, hgl, hgc, hgn, t1, t2⟩ hb
    have e29 : T.2.1 29 = S.2.1 29 := ha.2 29 rfl
    have e30 : T.2.1 30 = S.2.1 30 := ha.2 30 rfl
    unfold b_makeCode_446 at hb
    have h2 := r_e_Li_setLengths_86 h2
    unfold b_Li_setLengths_86 at h2
    by_cases e : d = 16
    · right
      subst e
      have ng : (nI (16 - 16) + (-1) : Int32) < 0 := by decide
      exact ⟨T, G, ha, ho, hg, hgl, hgc, hgn, hb.1 ng, h2.1 ng⟩
    · left
      have ed : (nI (16 - d) + (-1) : Int32) = nI (15 - d) := by
        rw [show 16 - d = (15 - d) + 1 by omega]
        exact pk_m1 _
      rw [ed] at hb h2
      have hb := hb.2 (nI_pos (by omega))
      obtain ⟨-, -, h2⟩ := h2.2 (nI_pos (by omega))
      dsimp only at h2
      rw [op1 hv] at h2
      have lsG : lsI c v n T G := by
        refine ⟨by rw [hg 27 (by omega)]; exact hs.1, ?_, by rw [hg 29 (by omega)]; exact hs.2.2⟩
        rw [e29, e30, hg 28 (by omega), hg (v + 1) vv.2.2.2]
        exact hs.2.1
      rw [← e30] at h2 hgc hgn t1
      obtain ⟨M', F', x1, x2, x3, x4, x5, x6, x7, x8, k1, k2⟩ := x_take1 (d := d) (l := 15 - d) hn1 hn hc3 hv (by omega) rfl lsG (by rw [e29, e30, hg 29 (by omega)]; exact hA) hgl hgc (by omega) (t1 (by omega)) (fun l' j q1 q2 => t2 l' j q1 q2) hb h2
      rw [e30] at k2 x5 x6 x7
      have q2 : (2 * nI (pcn (S.2.1 30) (520 * (15 - d)) (tq (S.2.1 30) n d)) : Int32) = nI (tq (S.2.1 30) n (d + 1)) := pk_mul 2 _
      rw [q2] at k2
      have ed1 : (nI (15 - d) + (-1) : Int32) = nI (16 - (d + 1)) + (-1) := by rw [show 16 - (d + 1) = 15 - d by omega]
      rw [ed1] at k1 k2
      refine ⟨_, _, k1, d + 1, F', rfl, by omega, k2, ag_tr ha x1 rfl rfl, fun j hj => (x2 j hj).trans (ho j hj), fun w hw => (x3 w hw).trans (hg w hw), x4, x5, fun s hs' hns => (x6 s hs' hns).trans (by rw [e30] at hgn; exact hgn s hs' hns), fun hd1 j hj => ?_, fun l' j q1 q2 => x8 l' j (by omega) q2⟩
      have := x7 (by omega) j hj
      rw [show 15 - d - 1 = 15 - (d + 1) by omega] at this
      exact this
/-- the first line's weights -/
theorem x_latest (hn1 : 1 ≤ n) (hn : n ≤ 256) (hv : isOc v) (hc : F 27 1 = nI n) (hsr : srt (F (v + 1)) n 257 (S.2.1 29) (S.2.1 30) (F 28)) (h2 : e_Li_setLengths_15 UL 27 v (nI n) 0 (F, L, PC a b P) K2) :
    ∃ F', (∀ w, w ≠ ltu b → F' w = F w) ∧ (∀ k, k < n → F' (ltu b) k = S.2.1 29 k) ∧ e_Li_setLengths_48 UL 27 v (nI n) 1 (F', L, PC a b P) K2 := by
  have v27 : v + 1 ≠ 30 ∧ v + 1 ≠ 31 := by rcases hv with rfl | rfl | rfl | rfl <;> decide
  obtain ⟨q1, q2, q3, q4, q5, q6, q7, q8, q9⟩ := lt_nx (b := b)
  refine v_e_Li_setLengths_15 h2 (fun y2 y3 V => y2 = nI n ∧ ∃ k G, y3 = nI k ∧ k ≤ n ∧ V = (G, L, PC a b P) ∧ (∀ w, w ≠ ltu b → G w = F w) ∧ ∀ j, j < k → G (ltu b) j = S.2.1 29 j) ⟨rfl, 0, F, rfl, Nat.zero_le _, rfl, fun _ _ => rfl, fun j hj => absurd hj (Nat.not_lt_zero _)⟩ ?_
  rintro y2 y3 V R ⟨rfl, k, G, rfl, hk, rfl, hg, hc'⟩ hb
  unfold b_Li_setLengths_15 at hb
  have hb : (G 27 1 ≤ nI k → e_Li_setLengths_48 UL 27 v (nI n) 1 (G, L, PC a b P) K2) ∧ (¬ G 27 1 ≤ nI k → _) := hb
  rw [hg 27 (by omega), hc] at hb
  by_cases e : k = n
  · right
    subst e
    exact ⟨G, hg, hc', hb.1 (Int32.le_refl _)⟩
  · left
    obtain ⟨-, -, -, -, -, -, -, -, -, -, hR⟩ := hb.2 (nI_ge (by omega) (by omega))
    dsimp only at hR
    rw [lt3, op0 hv] at hR
    obtain ⟨m, -, m2, m3, m4, m5, -⟩ := hsr.1 k (by omega)
    have hR : R v (nI n) (nI k + 1) (va_up G (ltu b) (upd (G (ltu b)) (nI k).toNatClampNeg (G (v + 1) (G 28 (nI k).toNatClampNeg).toNatClampNeg)), L, PC a b P) := hR
    rw [nI_clamp (show k < 2 ^ 31 by omega), hg 28 (by omega), m4, nI_clamp (show m < 2 ^ 31 by omega), hg (v + 1) (by omega), ← m5] at hR
    refine ⟨_, _, _, hR, rfl, k + 1, _, nI_1 k, by omega, rfl, fun w hw => (vu_ne hw).trans (hg w hw), fun j hj => ?_⟩
    rw [vu_at]
    by_cases ej : j = k
    · rw [ej, upd_at]
    · rw [upd_ne ej]
      exact hc' j (by omega)
end LEN
section GIVE
variable {S : ms} {F : cF} {L : cL} {a b : Bool} {P : Nat → Nat → Nat} {K1 : ms → Prop} {K2 : cs → Prop} {c v : Nat}
/-- what symbols of the lengths below x, and those of length x before s, have of the tree -/
def esum (ln : Nat → Nat) (x s : Nat) : Nat := smN (fun t => if 1 ≤ ln t ∧ (ln t < x ∨ (ln t = x ∧ t < s)) then 2 ^ (16 - ln t) else 0) 256
theorem esum_s {ln : Nat → Nat} {x s : Nat} (hs : s < 256) (hx : 1 ≤ x) : esum ln x (s + 1) = esum ln x s + (if ln s = x then 2 ^ (16 - x) else 0) := by
  have one : smN (fun t => if t = s then (if ln s = x then 2 ^ (16 - x) else 0) else 0) 256 = (if ln s = x then 2 ^ (16 - x) else 0) := smN_one 256 hs
  unfold esum
  rw [← one, ← smN_add]
  refine smN_congr 256 (fun t _ => ?_)
  by_cases e : t = s
  · subst e
    rw [if_pos rfl]
    by_cases q : ln t = x
    · rw [if_pos q, if_pos ⟨by omega, by omega⟩, if_neg (by omega), q, Nat.zero_add]
    · rw [if_neg q]
      by_cases q2 : 1 ≤ ln t ∧ (ln t < x ∨ (ln t = x ∧ t < t))
      · rw [if_pos q2, if_pos (by omega)]
        exact (Nat.add_zero _).symm
      · rw [if_neg q2, if_neg (by omega)]
  · rw [if_neg e]
    by_cases q2 : 1 ≤ ln t ∧ (ln t < x ∨ (ln t = x ∧ t < s))
    · rw [if_pos q2, if_pos (by omega)]
      exact (Nat.add_zero _).symm
    · rw [if_neg q2, if_neg (by omega)]
theorem esum_n {ln : Nat → Nat} {x : Nat} : esum ln (x + 1) 0 = esum ln x 256 := by
  unfold esum
  refine smN_congr 256 (fun t ht => ?_)
  by_cases q2 : 1 ≤ ln t ∧ (ln t < x ∨ (ln t = x ∧ t < 256))
  · rw [if_pos q2, if_pos (by omega)]
  · rw [if_neg q2, if_neg (by omega)]
theorem esum_le {ln : Nat → Nat} {x s : Nat} : esum ln x s ≤ smN (fun t => if 1 ≤ ln t then 2 ^ (16 - ln t) else 0) 256 := by
  unfold esum
  refine smN_le 256 (fun t _ => ?_)
  by_cases q2 : 1 ≤ ln t ∧ (ln t < x ∨ (ln t = x ∧ t < s))
  · rw [if_pos q2, if_pos q2.1]
    exact Nat.le_refl _
  · rw [if_neg q2]
    exact Nat.zero_le _
/-- how many symbols have a length from 1 below x, or x and stand before s -/
def ecnt (ln : Nat → Nat) (x s : Nat) : Nat := smN (fun t => if 1 ≤ ln t ∧ (ln t < x ∨ (ln t = x ∧ t < s)) then 1 else 0) 256
theorem ecnt_s {ln : Nat → Nat} {x s : Nat} (hs : s < 256) (hx : 1 ≤ x) : ecnt ln x (s + 1) = ecnt ln x s + (if ln s = x then 1 else 0) := by
  have one : smN (fun t => if t = s then (if ln s = x then 1 else 0) else 0) 256 = (if ln s = x then 1 else 0) := smN_one 256 hs
  unfold ecnt
  rw [← one, ← smN_add]
  refine smN_congr 256 (fun t _ => ?_)
  by_cases e : t = s
  · subst e
    rw [if_pos rfl]
    by_cases q : ln t = x
    · rw [if_pos q, if_pos ⟨by omega, by omega⟩, if_neg (by omega)]
    · rw [if_neg q]
      by_cases q2 : 1 ≤ ln t ∧ (ln t < x ∨ (ln t = x ∧ t < t))
      · rw [if_pos q2, if_pos (by omega)]
      · rw [if_neg q2, if_neg (by omega)]
  · rw [if_neg e]
    by_cases q2 : 1 ≤ ln t ∧ (ln t < x ∨ (ln t = x ∧ t < s))
    · rw [if_pos q2, if_pos (by omega)]
    · rw [if_neg q2, if_neg (by omega)]
theorem ecnt_n {ln : Nat → Nat} {x : Nat} : ecnt ln (x + 1) 0 = ecnt ln x 256 := by
  unfold ecnt
  refine smN_congr 256 (fun t ht => ?_)
  by_cases q2 : 1 ≤ ln t ∧ (ln t < x ∨ (ln t = x ∧ t < 256))
  · rw [if_pos q2, if_pos (by omega)]
  · rw [if_neg q2, if_neg (by omega)]
theorem ecnt_le {ln : Nat → Nat} {x s : Nat} : ecnt ln x s ≤ 256 := by
  unfold ecnt
  refine Nat.le_trans (smN_le (g := fun _ => 1) 256 (fun t _ => by show (if _ then 1 else 0) ≤ 1; split <;> decide)) ?_
  rw [smN_c]
  decide
/-- the codes of the first lengths: on both sides the same, and short enough; the class's order and counts beside -/
def gvI (c v : Nat) (ln : Nat → Nat) (S : ms) (F : cF) (x s : Nat) : Prop :=
  (∀ t, t < 256 → 1 ≤ ln t → (ln t < x ∨ (ln t = x ∧ t < s)) → F (v + 3) t = S.2.1 28 (257 * c + t) ∧ 0 ≤ (S.2.1 28 (257 * c + t)).toInt ∧ (S.2.1 28 (257 * c + t)).toInt < 2 ^ ln t ∧ F (v + 4) (ecnt ln (ln t) t) = nI t) ∧
  F v 4 = nI (ecnt ln x s) ∧ ∀ y, 1 ≤ y → y < x → F (v + 5) y = nI (ecnt ln y 256 - ecnt ln y 0)
theorem x_give602 {ln : Nat → Nat} {x k : Nat} {x3 : Int32} {R586 : Int32 → Int32 → Int32 → ms → Prop} {R9 : Int32 → Int32 → cs → Prop} (hc3 : c ≤ 3) (hv : isOc v) (hx : 1 ≤ x ∧ x ≤ 16) (hT : smN (fun t => if 1 ≤ ln t then 2 ^ (16 - ln t) else 0) 256 ≤ 2 ^ 16) (hl : ∀ t, t < 256 → S.2.1 27 (257 * c + t) = nI (ln t) ∧ F (v + 2) t = nI (ln t) ∧ ln t ≤ 16) (hI : gvI c v ln S F x 0) (hk : k * 2 ^ (16 - x) = esum ln x 0) (h3 : x3 = nI (ecnt ln x 0))
    (h1 : e_makeCode_602 (nI c) (nI k) (nI x) 0 S R586 K1) (h2 : e_Oc_giveOut_23 UL v (nI k) (nI x) x3 0 (F, L, PC a b P) R9 K2) :
    ∃ M' F' k', ag [] [28] S M' ∧ (∀ j, (j < 257 * c ∨ 257 * c + 257 ≤ j) → M'.2.1 28 j = S.2.1 28 j) ∧ (∀ w, w ≠ v → w ≠ v + 3 → w ≠ v + 4 → w ≠ v + 5 → F' w = F w) ∧ (∀ j, j ≠ 4 → F' v j = F v j) ∧ gvI c v ln M' F' (x + 1) 0 ∧ k' * 2 ^ (16 - x) = esum ln x 256 ∧ R586 (nI c) (nI k') (nI x + 1) M' ∧ R9 (nI k' * 2) (nI x + 1) (F', L, PC a b P) := by
  have pos : 1 ≤ 2 ^ (16 - x) := Nat.pow_pos (by decide)
  refine v_e_makeCode_602 h1 (fun y4 y6 T => ∃ k' s G, y4 = nI k' ∧ y6 = nI s ∧ s ≤ 256 ∧ e_Oc_giveOut_23 UL v (nI k') (nI x) x3 (nI s) (G, L, PC a b P) R9 K2 ∧ ag [] [28] S T ∧ (∀ j, (j < 257 * c ∨ 257 * c + 257 ≤ j) → T.2.1 28 j = S.2.1 28 j) ∧ (∀ w, w ≠ v → w ≠ v + 3 → w ≠ v + 4 → w ≠ v + 5 → G w = F w) ∧ (∀ j, j ≠ 4 → G v j = F v j) ∧ gvI c v ln T G x s ∧ k' * 2 ^ (16 - x) = esum ln x s) ⟨k, 0, F, rfl, rfl, by decide, h2, ag_refl, fun _ _ => rfl, fun _ _ _ _ _ => rfl, fun _ _ => rfl, hI, hk⟩ ?_
  rintro y4 y6 T R ⟨k', s, G, rfl, rfl, hs, h2, ha, ho, hg, hgv, hI, hk'⟩ hb
  have kb : k' ≤ 65536 := by
    have := esum_le (ln := ln) (x := x) (s := s)
    have : k' * 2 ^ (16 - x) ≤ 2 ^ 16 := by omega
    have : k' * 1 ≤ k' * 2 ^ (16 - x) := Nat.mul_le_mul_left _ pos
    have h16 : (2 : Nat) ^ 16 = 65536 := by decide
    omega
  unfold b_makeCode_602 at hb
  have h2 := r_e_Oc_giveOut_23 h2
  unfold b_Oc_giveOut_23 at h2
  by_cases e : s = 256
  · right
    subst e
    have hb := hb.1 (Int32.le_refl _)
    obtain ⟨-, -, -, h2⟩ := h2.1 (Int32.le_refl _)
    dsimp only at h2
    rw [op5 hv, nI_clamp (show x < 2 ^ 31 by omega), hI.2.1, h3] at h2
    have ec := ecnt_le (ln := ln) (x := x) (s := 256)
    have em : ecnt ln x 0 ≤ ecnt ln x 256 := smN_le 256 (fun t ht => by
      by_cases q : 1 ≤ ln t ∧ (ln t < x ∨ (ln t = x ∧ t < 0))
      · rw [if_pos q, if_pos (by omega)]
        exact Nat.le_refl _
      · rw [if_neg q]
        exact Nat.zero_le _)
    rw [pk_sub em] at h2
    refine ⟨T, va_up G (v + 5) (upd (G (v + 5)) x (nI (ecnt ln x 256 - ecnt ln x 0))), k', ha, ho, fun w w1 w2 w3 w4 => (vu_ne w4).trans (hg w w1 w2 w3 w4), fun j hj => by rw [vu_ne (by omega)]; exact hgv j hj, ⟨fun t ht h1' h2' => ?_, ?_, fun y y1 y2 => ?_⟩, hk', hb, h2⟩
    · rw [vu_ne (by omega), vu_ne (by omega)]
      exact hI.1 t ht h1' (by omega)
    · rw [vu_ne (by omega), ecnt_n]
      exact hI.2.1
    · rw [vu_at]
      by_cases ey : y = x
      · rw [ey, upd_at]
      · rw [upd_ne ey]
        exact hI.2.2 y y1 (by omega)
  · left
    obtain ⟨-, hb⟩ := hb.2 (nI_ge (b := 256) (by omega) (by decide))
    obtain ⟨-, -, -, h2⟩ := h2.2 (nI_ge (b := 256) (by omega) (by decide))
    have cs' : (nI s).toNatClampNeg = s := nI_clamp (by omega)
    dsimp only at h2
    obtain ⟨l1, l2, l3⟩ := hl s (by omega)
    rw [n257, nI_clamp (show 257 * c + s < 2 ^ 31 by omega), show T.2.1 27 = S.2.1 27 from ha.2 27 rfl, l1] at hb
    rw [op1 hv, cs', hg (v + 2) (by omega) (by omega) (by omega) (by omega), l2] at h2
    have es := esum_s (ln := ln) (x := x) (s := s) (by omega) hx.1
    have ecs := ecnt_s (ln := ln) (x := x) (s := s) (by omega) hx.1
    by_cases q : ln s = x
    · rw [q] at hb h2
      obtain ⟨-, hb⟩ := hb.2 rfl
      obtain ⟨-, -, -, -, -, -, h2⟩ := h2.2 rfl
      unfold b_makeCode_646 at hb
      unfold b_Oc_giveOut_74 at h2
      rw [nI_1, nI_1] at hb
      have ecb := ecnt_le (ln := ln) (x := x) (s := s)
      rw [op2 hv, op3 hv, vu_ne (show v ≠ v + 3 by omega), hI.2.1, nI_clamp (show ecnt ln x s < 2 ^ 31 by omega), nI_1, nI_1] at h2
      rw [if_pos q] at es ecs
      have kk : (k' + 1) * 2 ^ (16 - x) = esum ln x (s + 1) := by rw [Nat.succ_mul, es, hk']
      have kl : k' < 2 ^ x := by
        have e1 := esum_le (ln := ln) (x := x) (s := s + 1)
        have e2 : (k' + 1) * 2 ^ (16 - x) ≤ 2 ^ x * 2 ^ (16 - x) := by
          rw [← Nat.pow_add, show x + (16 - x) = 16 by omega]
          omega
        exact Nat.le_of_mul_le_mul_right e2 pos
      refine ⟨_, _, _, hb, k' + 1, s + 1, _, rfl, rfl, by omega, h2, ag_r ha rfl, fun j hj => ?_, fun w w1 w2 w3 w4 => ?_, fun j hj => ?_, ⟨fun t ht h1' h2' => ?_, ?_, fun y y1 y2 => ?_⟩, kk⟩
      · show va_up T.2.1 28 (upd (T.2.1 28) (257 * c + s) _) 28 j = _
        rw [vu_at, upd_ne (by omega)]
        exact ho j hj
      · rw [vu_ne w1, vu_ne w3, vu_ne w2]
        exact hg w w1 w2 w3 w4
      · rw [vu_at, upd_ne hj, vu_ne (show v ≠ v + 4 by omega), vu_ne (show v ≠ v + 3 by omega)]
        exact hgv j hj
      · dsimp only
        rw [vu_ne (show v + 3 ≠ v by omega), vu_ne (show v + 3 ≠ v + 4 by omega), vu_at, vu_at, vu_ne (show v + 4 ≠ v by omega), vu_at, vu_ne (show v + 4 ≠ v + 3 by omega)]
        by_cases et : t = s
        · subst et
          rw [upd_at, upd_at, nI_toInt (by omega), q, upd_at]
          refine ⟨rfl, by omega, ?_, rfl⟩
          have : ((k' : Nat) : Int) < ((2 ^ x : Nat) : Int) := Int.ofNat_lt.mpr kl
          push_cast at this
          exact this
        · rw [upd_ne et, upd_ne (by omega)]
          obtain ⟨a1, a2, a3, a4⟩ := hI.1 t ht h1' (by omega)
          refine ⟨a1, a2, a3, ?_⟩
          -- its place in the order is another
          have lt : ecnt ln (ln t) t < ecnt ln x s := by
            have s1 := ecnt_s (ln := ln) (x := ln t) (s := t) ht h1'
            rw [if_pos rfl] at s1
            have s2 : ecnt ln (ln t) (t + 1) ≤ ecnt ln x s := smN_le 256 (fun j hj => by
              by_cases q3 : 1 ≤ ln j ∧ (ln j < ln t ∨ (ln j = ln t ∧ j < t + 1))
              · rw [if_pos q3, if_pos (by omega)]
                exact Nat.le_refl _
              · rw [if_neg q3]
                exact Nat.zero_le _)
            omega
          rw [upd_ne (by omega)]
          exact a4
      · rw [vu_at, upd_at, ecs, vu_ne (show v ≠ v + 4 by omega), vu_ne (show v ≠ v + 3 by omega), hI.2.1, nI_1]
      · rw [vu_ne (show v + 5 ≠ v by omega), vu_ne (show v + 5 ≠ v + 4 by omega), vu_ne (show v + 5 ≠ v + 3 by omega)]
        exact hI.2.2 y y1 y2
    · have nq : ¬ nI (ln s) = nI x := fun h => q ((nI_eq (by omega) (by omega)).mp h)
      have hb := hb.1 nq
      have h2 := h2.1 nq
      unfold b_makeCode_646 at hb
      unfold b_Oc_giveOut_74 at h2
      rw [nI_1] at h2
      rw [if_neg q] at es ecs
      have es := es.trans (Nat.add_zero _)
      have ecs := ecs.trans (Nat.add_zero _)
      refine ⟨_, _, _, hb, k', s + 1, G, rfl, nI_1 s, by omega, h2, ha, ho, hg, hgv, ⟨fun t ht h1' h2' => hI.1 t ht h1' ?_, by rw [ecs]; exact hI.2.1, hI.2.2⟩, by rw [es]; exact hk'⟩
      have : t ≠ s ∨ ln t ≠ x := by
        by_cases et : t = s
        · subst et
          exact Or.inr q
        · exact Or.inl et
      omega
theorem x_give {ln : Nat → Nat} (hc3 : c ≤ 3) (hv : isOc v) (hT : smN (fun t => if 1 ≤ ln t then 2 ^ (16 - ln t) else 0) 256 ≤ 2 ^ 16) (hl : ∀ t, t < 256 → S.2.1 27 (257 * c + t) = nI (ln t) ∧ F (v + 2) t = nI (ln t) ∧ ln t ≤ 16) (h1 : e_makeCode_586 (nI c) 0 1 S K1) (h2 : p_Oc_giveOut UL v (F, L, PC a b P) K2) :
    ∃ M' F', ag [] [28] S M' ∧ (∀ j, (j < 257 * c ∨ 257 * c + 257 ≤ j) → M'.2.1 28 j = S.2.1 28 j) ∧ (∀ w, w ≠ v → w ≠ v + 3 → w ≠ v + 4 → w ≠ v + 5 → F' w = F w) ∧ (∀ j, j ≠ 4 → F' v j = F v j) ∧ gvI c v ln M' F' 17 0 ∧ K1 M' ∧ K2 (F', L, PC a b P) := by
  unfold p_Oc_giveOut at h2
  have h2 : e_Oc_giveOut_9 UL v 0 1 (va_up F v (upd (F v) 4 0), L, PC a b P) K2 := h2
  have e0 : esum ln 1 0 = 0 := by
    unfold esum
    rw [smN_congr (g := fun _ => 0) 256 (fun t _ => if_neg (by omega)), smN_c]
  have c0 : ecnt ln 1 0 = 0 := by
    unfold ecnt
    rw [smN_congr (g := fun _ => 0) 256 (fun t _ => if_neg (by omega)), smN_c]
  refine v_e_makeCode_586 h1 (fun y4 y5 T => ∃ k x G, y4 = nI k ∧ y5 = nI x ∧ 1 ≤ x ∧ x ≤ 17 ∧ (x ≤ 16 → 2 * k * 2 ^ (16 - x) = esum ln x 0) ∧ e_Oc_giveOut_9 UL v (nI (2 * k)) (nI x) (G, L, PC a b P) K2 ∧ ag [] [28] S T ∧ (∀ j, (j < 257 * c ∨ 257 * c + 257 ≤ j) → T.2.1 28 j = S.2.1 28 j) ∧ (∀ w, w ≠ v → w ≠ v + 3 → w ≠ v + 4 → w ≠ v + 5 → G w = F w) ∧ (∀ j, j ≠ 4 → G v j = F v j) ∧ gvI c v ln T G x 0) ⟨0, 1, _, rfl, rfl, by decide, by decide, fun _ => by rw [e0, Nat.mul_zero, Nat.zero_mul], h2, ag_refl, fun _ _ => rfl, fun w w1 _ _ _ => vu_ne w1, fun j hj => by rw [vu_at, upd_ne hj], ⟨fun t _ q1 q2 => absurd q2 (by omega), by rw [vu_at, upd_at, c0]; rfl, fun y y1 y2 => absurd y2 (by omega)⟩⟩ ?_
  rintro y4 y5 T R ⟨k, x, G, rfl, rfl, hx1, hx, hk, h2, ha, ho, hg, hgv, hI⟩ hb
  unfold b_makeCode_586 at hb
  have h2 := r_e_Oc_giveOut_9 h2
  unfold b_Oc_giveOut_9 at h2
  by_cases e : x = 17
  · right
    subst e
    exact ⟨T, G, ha, ho, hg, hgv, hI, hb.1 (by decide), h2.1 (by decide)⟩
  · left
    have hb := hb.2 (nI_nlt (b := x) (a := 16) (by omega) (by decide))
    have h2 := h2.2 (nI_nlt (b := x) (a := 16) (by omega) (by decide))
    rw [show (2 : Int32) = nI 2 from rfl, pk_mul] at hb
    have h2 : e_Oc_giveOut_23 UL v (nI (2 * k)) (nI x) (G v 4) 0 (G, L, PC a b P) _ K2 := h2
    obtain ⟨M', F', k', x1, x2, x3, x4, x5, x6, k1, k2⟩ := x_give602 (x := x) (k := 2 * k) hc3 hv ⟨hx1, by omega⟩ hT (fun t ht => by rw [ha.2 27 rfl, hg (v + 2) (by omega) (by omega) (by omega) (by omega)]; exact hl t ht) hI (hk (by omega)) hI.2.1 hb h2
    rw [show (2 : Int32) = nI 2 from rfl, pk_mul, Nat.mul_comm k' 2, nI_1] at k2
    rw [nI_1] at k1
    refine ⟨_, _, _, k1, k', x + 1, F', rfl, rfl, by omega, by omega, fun h16 => ?_, k2, ag_tr ha x1 rfl rfl, fun j hj => (x2 j hj).trans (ho j hj), fun w w1 w2 w3 w4 => (x3 w w1 w2 w3 w4).trans (hg w w1 w2 w3 w4), fun j hj => (x4 j hj).trans (hgv j hj), x5⟩
    rw [esum_n, ← x6, show 16 - x = (16 - (x + 1)) + 1 by omega, Nat.pow_succ, Nat.mul_comm 2 k', Nat.mul_assoc, Nat.mul_comm 2]
end GIVE

/-! CODES: makeCode of the reference against setLengths and giveOut of the class -/
section CODE
variable {S : ms} {F : cF} {L : cL} {a b : Bool} {P : Nat → Nat → Nat} {K1 : ms → Prop} {K2 : cs → Prop} {c v : Nat}
theorem LNR_0 {n : Nat} {M' : ms} {F' : cF} (hn1 : 1 ≤ n) (hn : n ≤ 256) (hof : ∀ s, s < 256 → F (v + 1) s = M'.2.1 26 (257 * c + s)) (h256 : F (v + 1) 256 = 0) (hB : ∀ j, 0 ≤ (M'.2.1 26 j).toInt ∧ (M'.2.1 26 j).toInt ≤ 20000) (hsr : srt (F (v + 1)) n 257 (M'.2.1 29) (M'.2.1 30) (F' 28)) (hlt : ∀ k, k < n → F' (ltu b) k = M'.2.1 29 k) : LNR c n 0 b M' F' := by
  have ow : ∀ m, m ≤ 256 → (F (v + 1) m).toInt = owf c (M'.2.1 26) m := by
    intro m hm
    unfold owf
    by_cases e : m = 256
    · rw [if_pos e, e, h256]
      decide
    · rw [if_neg e, hof m (by omega)]
  refine ⟨fun l' hl' => ?_, fun l' hl' => absurd hl' (Nat.not_lt_zero _), fun l' h1 h2 => absurd h1 (by omega), fun k hk => ?_⟩
  · obtain rfl : l' = 0 := by omega
    refine ⟨fun k hk => ?_, fun k hk => ?_, fun k hk => Or.inl ?_⟩
    · have hk : k < n := hk
      obtain ⟨m, -, m2, -, -, m5, -⟩ := hsr.1 k hk
      rw [Nat.mul_zero, Nat.zero_add, m5, ow m m2]
      unfold owf
      split
      · exact ⟨by decide, by decide⟩
      · have := hB (257 * c + m)
        have e : (20000 * 2 ^ 0 : Int) = 20000 := by decide
        omega
    · rw [Nat.mul_zero, Nat.zero_add, Nat.zero_add]
      exact hsr.2.1 k hk
    · have hk : k < n := hk
      obtain ⟨m, -, m2, m3, -, m5, m6⟩ := hsr.1 k hk
      rw [Nat.mul_zero, Nat.zero_add]
      refine ⟨m, m2, m3, ?_, by rw [m5]; exact ow m m2⟩
      rcases m6 with m6 | m6
      · exact Or.inl m6
      · by_cases e : m = 256
        · exact Or.inl e
        · right
          rw [← hof m (by omega)]
          exact m6
  · rw [Nat.mul_zero, Nat.zero_add]
    exact hlt k hk
theorem x_code (hc3 : c ≤ 3) (hv : isOc v) (hof : ∀ s, s < 256 → F (v + 1) s = S.2.1 26 (257 * c + s)) (h256 : F (v + 1) 256 = 0) (h255 : ¬ 0 < (F (v + 1) 255).toInt) (hB : ∀ j, 0 ≤ (S.2.1 26 j).toInt ∧ (S.2.1 26 j).toInt ≤ 20000) (htw : ∀ k, k < 514 → F 29 k = 0) (hl0 : ∀ s, s ≤ 256 → F (v + 2) s = 0)
    (h1 : p_makeCode (nI c) S K1) (h2 : p_Li_setLengths UL 27 v (F, L, PC a b P) (fun X => X.2.1 = L → (∃ b', X.2.2 = PC a b' P) → p_Oc_giveOut UL v X K2)) :
    ∃ M' F' b' ln, ag [] [27, 28, 29, 30, 31] S M' ∧ (∀ j, (j < 257 * c ∨ 257 * c + 257 ≤ j) → M'.2.1 27 j = S.2.1 27 j ∧ M'.2.1 28 j = S.2.1 28 j) ∧ (∀ w, (w < 27 ∨ 31 < w) → (w < v ∨ v + 5 < w ∨ w = v + 1) → F' w = F w) ∧ (∀ k, k ≠ 1 → F' 27 k = F 27 k) ∧ (∀ j, j ≠ 4 → F' v j = F v j) ∧ (∀ k, k < 514 → F' 29 k = 0) ∧
      (∀ t, t < 256 → M'.2.1 27 (257 * c + t) = nI (ln t) ∧ F' (v + 2) t = nI (ln t) ∧ ln t ≤ 16 ∧ (0 < (S.2.1 26 (257 * c + t)).toInt → 1 ≤ ln t) ∧ (1 ≤ ln t → 0 < (S.2.1 26 (257 * c + t)).toInt)) ∧ gvI c v ln M' F' 17 0 ∧ K1 M' ∧ K2 (F', L, PC a b' P) := by
  have vv : v + 2 ≠ 27 ∧ v + 2 ≠ 28 ∧ v + 2 ≠ 29 ∧ v + 2 ≠ 30 ∧ v + 2 ≠ 31 ∧ v + 1 ≠ 27 ∧ v + 1 ≠ 28 ∧ v + 1 ≠ 29 ∧ v + 1 ≠ 30 ∧ v + 1 ≠ 31 ∧ 32 < v := by rcases hv with rfl | rfl | rfl | rfl <;> decide
  unfold p_Li_setLengths at h2
  obtain ⟨-, -, h2⟩ := h2
  dsimp only at h2
  rw [op0 hv] at h2
  obtain ⟨M1, F1, n, a1, a2, a3, a4, a5, a6, a7, a8, h1, h2⟩ := x_sort hc3 hv hof h256 h255 h1 h2
  have h2 : e_Li_setLengths_15 UL 27 v (F1 27 1) 0 (F1, L, PC a b P) _ := h2
  rw [a5] at h2
  have f1 : F1 (v + 1) = F (v + 1) := a3 _ (by omega) (by omega)
  obtain ⟨F2, b1, b2, h2⟩ := x_latest (S := M1) a6 a7 hv a5 (by rw [f1]; exact a8) h2
  obtain ⟨q1, q2, q3, q4, q5, q6, q7, q8, q9⟩ := lt_nx (b := b)
  have f2 : F2 (v + 1) = F (v + 1) := (b1 _ (by omega)).trans f1
  have f28 : F2 28 = F1 28 := b1 28 (by omega)
  have f29 : F2 29 = F 29 := (b1 29 (by omega)).trans (a3 29 (by decide) (by decide))
  have e26 : M1.2.1 26 = S.2.1 26 := a1.2 26 rfl
  have ls2 : lsI c v n M1 F2 := ⟨by rw [b1 27 (by omega)]; exact a5, by rw [f2, f28]; exact a8, by rw [f29]; exact htw⟩
  have ln0 : LNR c n 0 b M1 F2 := LNR_0 (F := F) a6 a7 (by rw [e26]; exact hof) h256 (by rw [e26]; exact hB) (by rw [f28]; exact a8) b2
  obtain ⟨M3, F3, b3, c1, c2, c3, c4, c5, h1, h2⟩ := x_lines a6 a7 hv ls2 ln0 h1 h2
  obtain ⟨M4, d1, d2, h1⟩ := q_394 a6 a7 h1
  have e29 : M4.2.1 29 = M3.2.1 29 := d1.2 29 rfl
  have e30 : M4.2.1 30 = M3.2.1 30 := d1.2 30 rfl
  have srt3 : srt (F3 (v + 1)) n 257 (M3.2.1 29) (M3.2.1 30) (F3 28) := by
    rw [c3 (v + 1) (by omega) (by omega) (by omega), c3 28 (by decide) (by decide) (by decide), f2, f28]
    obtain ⟨s1, s2, s3, s4⟩ := a8
    refine ⟨fun k hk => ?_, fun k hk => ?_, fun k j hk hj => ?_, fun m hm hmu => ?_⟩
    · rw [(c2 k (by omega)).1, (c2 k (by omega)).2]
      exact s1 k hk
    · rw [(c2 k (by omega)).1, (c2 (k + 1) (by omega)).1]
      exact s2 k hk
    · rw [(c2 k (by omega)).2, (c2 j (by omega)).2]
      exact s3 k j hk hj
    · obtain ⟨k, k1, k2⟩ := s4 m hm hmu
      exact ⟨k, k1, by rw [(c2 k (by omega)).2]; exact k2⟩
  have ls3 : lsI c v n M3 F3 := ⟨by rw [c3 27 (by decide) (by decide) (by decide)]; exact ls2.1, srt3, fun k hk => (c4 k hk).trans (ls2.2.2 k hk)⟩
  have aL := aLS_of a6 a7 ls3 c5
  have ls4 : lsI c v n M4 F3 := ⟨ls3.1, by rw [e29, e30]; exact srt3, ls3.2.2⟩
  have len0 : ∀ s, s ≤ 256 → F3 (v + 2) s = 0 ∧ M4.2.1 27 (257 * c + s) = 0 := by
    intro s hs
    refine ⟨?_, ?_⟩
    · rw [c3 (v + 2) (by omega) (by omega) (by omega), b1 (v + 2) (by omega), a3 (v + 2) (by omega) (by omega)]
      exact hl0 s hs
    · rw [d1.2 27 rfl, c1.2 27 rfl, a2, if_pos (by omega)]
  obtain ⟨M5, F5, g1, g2, g3, g4, g5, g6, h1, h2⟩ := x_takeA a6 a7 hc3 hv ls4 (by rw [e29, e30]; exact aL) len0 d2 h1 h2
  have h2 := h2 rfl ⟨b3, rfl⟩
  -- the lengths
  have lnB : ∀ t, t < 256 → ∃ k : Nat, k ≤ 16 ∧ F5 (v + 2) t = nI k ∧ (1 ≤ k → ∃ i, i < n ∧ M3.2.1 30 i = nI t ∧ k = lnn (M3.2.1 30) n i 16) := by
    intro t ht
    by_cases q : ∃ i, i < n ∧ M3.2.1 30 i = nI t
    · obtain ⟨i, hi, ei⟩ := q
      have := g5 i (by exact hi)
      rw [e30, ei, nI_clamp (show t < 2 ^ 31 by omega)] at this
      have ll := lnn_le (M := M3.2.1 30) (n := n) (i := i) 16
      refine ⟨lnn (M3.2.1 30) n i 16, ll, ?_, fun _ => ⟨i, hi, ei, rfl⟩⟩
      apply Int32.toInt.inj
      rw [this, nI_toInt (by omega)]
    · refine ⟨0, by decide, g6 t (by omega) (fun i hi ei => q ⟨i, hi, by rw [← e30]; exact ei⟩), fun h => absurd h (by decide)⟩
  have lnE : ∃ ln : Nat → Nat, ∀ t, t < 256 → ln t ≤ 16 ∧ F5 (v + 2) t = nI (ln t) ∧ (1 ≤ ln t → ∃ i, i < n ∧ M3.2.1 30 i = nI t ∧ ln t = lnn (M3.2.1 30) n i 16) := by
    refine ⟨fun t => (F5 (v + 2) t).toInt.toNat, fun t ht => ?_⟩
    obtain ⟨k, k1, k2, k3⟩ := lnB t ht
    have e : (F5 (v + 2) t).toInt.toNat = k := by
      rw [k2, nI_toInt (by omega)]
      omega
    show (F5 (v + 2) t).toInt.toNat ≤ 16 ∧ F5 (v + 2) t = nI (F5 (v + 2) t).toInt.toNat ∧ (1 ≤ (F5 (v + 2) t).toInt.toNat → ∃ i, i < n ∧ M3.2.1 30 i = nI t ∧ (F5 (v + 2) t).toInt.toNat = _)
    rw [e]
    exact ⟨k1, k2, k3⟩
  obtain ⟨ln, hln⟩ := lnE
  have kr := kraft a6 a7 aL c5.1
  have hT : smN (fun t => if 1 ≤ ln t then 2 ^ (16 - ln t) else 0) 256 ≤ 2 ^ 16 := by
    have s1 : smN (fun t => if 1 ≤ ln t then 2 ^ (16 - ln t) else 0) 256 ≤ smN (fun t => smN (fun i => if t = (M3.2.1 30 i).toInt.toNat then 2 ^ (16 - lnn (M3.2.1 30) n i 16) else 0) n) 256 := by
      refine smN_le 256 (fun t ht => ?_)
      by_cases q : 1 ≤ ln t
      · rw [if_pos q]
        obtain ⟨i, hi, ei, el⟩ := (hln t ht).2.2 q
        have := smN_pos (f := fun i => if t = (M3.2.1 30 i).toInt.toNat then 2 ^ (16 - lnn (M3.2.1 30) n i 16) else 0) (j := i) n hi
        have e : t = (M3.2.1 30 i).toInt.toNat := by
          rw [ei, nI_toInt (by omega)]
          omega
        rw [if_pos e, ← el] at this
        exact this
      · rw [if_neg q]
        exact Nat.zero_le _
    refine Nat.le_trans s1 ?_
    rw [smN_sw, ← kr]
    refine smN_le n (fun i hi => ?_)
    by_cases q : (M3.2.1 30 i).toInt.toNat < 256
    · rw [smN_one (x := 2 ^ (16 - lnn (M3.2.1 30) n i 16)) (k := (M3.2.1 30 i).toInt.toNat) 256 q]
      exact Nat.le_refl _
    · rw [smN_congr (g := fun _ => 0) 256 (fun t ht => if_neg (by omega)), smN_c, Nat.mul_zero]
      exact Nat.zero_le _
  have hl5 : ∀ t, t < 256 → M5.2.1 27 (257 * c + t) = nI (ln t) ∧ F5 (v + 2) t = nI (ln t) ∧ ln t ≤ 16 := fun t ht => ⟨by rw [← g4 t (by omega)]; exact (hln t ht).2.1, (hln t ht).2.1, (hln t ht).1⟩
  obtain ⟨M6, F6, i1, i2, i3, i4, i5, k1, k2⟩ := x_give hc3 hv hT hl5 h1 h2
  have am : ag [] [27, 28, 29, 30, 31] S M5 := ag_tr (ag_tr (ag_tr (ag_tr (ag_refl (fs := []) (rs := [27, 28, 29, 30, 31])) a1 rfl rfl) c1 rfl rfl) d1 rfl rfl) g1 rfl rfl
  refine ⟨M6, F6, b3, ln, ag_tr am i1 rfl rfl, fun j hj => ⟨?_, ?_⟩, fun w w1 w2 => ?_, fun k hk => ?_, fun j hj => ?_, fun k hk => ?_, fun t ht => ?_, i5, k1, k2⟩
  · rw [i1.2 27 rfl, g2 j hj, d1.2 27 rfl, c1.2 27 rfl, a2, if_neg (by omega)]
  · rw [i2 j hj, g1.2 28 rfl, d1.2 28 rfl, c1.2 28 rfl, a1.2 28 rfl]
  · rw [i3 w (by omega) (by omega) (by omega) (by omega), g3 w (by omega), c3 w (by omega) (by omega) (by omega), b1 w (by omega), a3 w (by omega) (by omega)]
  · rw [i3 27 (by omega) (by omega) (by omega) (by omega), g3 27 (by omega), c3 27 (by decide) (by decide) (by decide), b1 27 (by omega)]
    exact a4 k hk
  · rw [i4 j hj, g3 v (by omega), c3 v (by omega) (by omega) (by omega), b1 v (by omega), a3 v (by omega) (by omega)]
  · rw [i3 29 (by omega) (by omega) (by omega) (by omega), g3 29 (by omega)]
    exact ls3.2.2 k hk
  · refine ⟨?_, ?_, (hl5 t ht).2.2, fun hu => ?_, fun hp => ?_⟩
    · rw [i1.2 27 rfl]
      exact (hl5 t ht).1
    · rw [i3 (v + 2) (by omega) (by omega) (by omega) (by omega)]
      exact (hl5 t ht).2.1
    · -- a used symbol stands in the order, beside the one that never comes
      obtain ⟨i, hi, ei⟩ := srt3.2.2.2 t (by omega) (Or.inr (by rw [c3 (v + 1) (by omega) (by omega) (by omega), f2, hof t ht]; exact hu))
      obtain ⟨j, hj, ej⟩ := srt3.2.2.2 256 (by decide) (Or.inl rfl)
      have ne : i ≠ j := by
        intro e
        rw [e, ej] at ei
        have := (nI_eq (a := 256) (b := t) (by decide) (by omega)).mp ei
        omega
      have lp := ln_pos (M := M3.2.1 30) (n := n) (by omega) a7 kr hi
      have := g5 i hi
      rw [e30, ei, nI_clamp (show t < 2 ^ 31 by omega), (hl5 t ht).2.1, nI_toInt (by have := (hl5 t ht).2.2; omega)] at this
      omega
    · obtain ⟨i, hi, ei, -⟩ := (hln t ht).2.2 hp
      obtain ⟨m, -, m2, m3, -, -, m6⟩ := srt3.1 i hi
      rw [m3] at ei
      have em := (nI_eq (a := m) (b := t) (by omega) (by omega)).mp ei
      rw [em, c3 (v + 1) (by omega) (by omega) (by omega), f2, hof t ht] at m6
      rcases m6 with m6 | m6
      · omega
      · exact m6
end CODE

