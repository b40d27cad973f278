/-! THE FRESH STATES: bounds of all their numbers, and where their pointers lead -/
theorem gv_hi {n m k : Nat} (h : n < 2 ^ (33 * m)) (hk : m ≤ k) : gv n k = 0 := by
  show (n >>> (33 * k)) % 8589934592 = 0
  rw [Nat.shiftRight_eq_div_pow, Nat.div_eq_of_lt (Nat.lt_of_lt_of_le h (Nat.pow_le_pow_right (by decide) (Nat.mul_le_mul_left 33 hk)))]
theorem gr_hi {n m k : Nat} (h : n < 2 ^ (11 * m)) (hk : m ≤ k) : gr n k = 0 := by
  show (n >>> (11 * k)) % 2048 = 0
  rw [Nat.shiftRight_eq_div_pow, Nat.div_eq_of_lt (Nat.lt_of_lt_of_le h (Nat.pow_le_pow_right (by decide) (Nat.mul_le_mul_left 11 hk)))]
def inB (w : Int × Int) (c : Nat) : Bool := Nat.blt c 4294967296 && (decide (w.1 ≤ (Int32.ofNat c).toInt) && decide ((Int32.ofNat c).toInt ≤ w.2))
theorem inB_ok {w : Int × Int} {c : Nat} (h : inB w c = true) : c < 4294967296 ∧ B w.1 w.2 (Int32.ofNat c) := by
  unfold inB at h
  rw [Bool.and_eq_true, Bool.and_eq_true, decide_eq_true_eq, decide_eq_true_eq] at h
  exact ⟨Nat.le_of_ble_eq_true h.1, h.2⟩
def ckc (u k : Nat) : Bool := inB (bC u k) (gv (l8 tB u) k)
set_option maxRecDepth 100000 in
theorem ckc_all : ∀ u : Fin 115, ∀ k : Fin 129, ckc u.val k.val = true := by decide +kernel
set_option maxRecDepth 100000 in
theorem cks_all : ∀ u : Fin 115, l8 tB u.val < 2 ^ (33 * 128) := by decide +kernel
theorem bk {k : Nat} (h : 128 ≤ k) (i : Nat) (hi : i < 128) : Nat.beq k i = false := by
  rw [Bool.eq_false_iff]
  intro e
  have := Nat.eq_of_beq_eq_true e
  omega
theorem bklt {k : Nat} (h : 128 ≤ k) (i : Nat) (hi : i ≤ 128) : Nat.blt k i = false := by
  rw [Bool.eq_false_iff]
  intro e
  have : k < i := Nat.le_of_ble_eq_true e
  omega
set_option maxRecDepth 100000 in
set_option maxHeartbeats 4000000 in
theorem bC_hi {u k : Nat} (h : 128 ≤ k) : bC u k = bC u 128 := by
  unfold bC
  simp only [bk h 0 (by decide), bk h 1 (by decide), bk h 2 (by decide), bk h 3 (by decide), bk h 4 (by decide), bk h 5 (by decide), bk h 6 (by decide), bk h 7 (by decide), bk h 8 (by decide), bk h 9 (by decide), bk h 10 (by decide), bk h 11 (by decide), bk h 12 (by decide), bk h 13 (by decide), bk h 14 (by decide), bk h 15 (by decide), bk h 16 (by decide), bk h 17 (by decide), bk h 18 (by decide), bk h 19 (by decide), bk (Nat.le_refl 128) 0 (by decide), bk (Nat.le_refl 128) 1 (by decide), bk (Nat.le_refl 128) 2 (by decide), bk (Nat.le_refl 128) 3 (by decide), bk (Nat.le_refl 128) 4 (by decide), bk (Nat.le_refl 128) 5 (by decide), bk (Nat.le_refl 128) 6 (by decide), bk (Nat.le_refl 128) 7 (by decide), bk (Nat.le_refl 128) 8 (by decide), bk (Nat.le_refl 128) 9 (by decide), bk (Nat.le_refl 128) 10 (by decide), bk (Nat.le_refl 128) 11 (by decide), bk (Nat.le_refl 128) 12 (by decide), bk (Nat.le_refl 128) 13 (by decide), bk (Nat.le_refl 128) 14 (by decide), bk (Nat.le_refl 128) 15 (by decide), bk (Nat.le_refl 128) 16 (by decide), bk (Nat.le_refl 128) 17 (by decide), bk (Nat.le_refl 128) 18 (by decide), bk (Nat.le_refl 128) 19 (by decide), bklt h 128 (by decide), bklt h 3 (by decide), bklt (Nat.le_refl 128) 128 (by decide), bklt (Nat.le_refl 128) 3 (by decide), cond_false]
theorem bC_115 {u k : Nat} (h : 115 ≤ u) : bC u k = (-2147483648, 2147483647) := by
  unfold bC
  rw [show Nat.blt 114 u = true from Nat.ble_eq_true_of_le h]
  rfl
theorem IMc_fresh {S : cs} (hS : RC S tB) : IMc S.1 := by
  intro u k
  by_cases hu : u < 115
  · by_cases hk : k < 129
    · obtain ⟨h1, h2⟩ := inB_ok (ckc_all ⟨u, hu⟩ ⟨k, hk⟩)
      rw [hS.1 u (by omega) k h1]
      exact h2
    · have h0 : gv (l8 tB u) k = 0 := gv_hi (cks_all ⟨u, hu⟩) (by omega)
      obtain ⟨h1, h2⟩ := inB_ok (ckc_all ⟨u, hu⟩ ⟨128, by decide⟩)
      rw [gv_hi (cks_all ⟨u, hu⟩) (Nat.le_refl 128)] at h2
      have e := hS.1 u (by omega) k (by rw [h0]; decide)
      rw [e, h0, bC_hi (by omega)]
      exact h2
  · rw [bC_115 (by omega)]
    exact B_any _
set_option maxRecDepth 100000 in
theorem prc_all : ∀ u : Fin 115, ∀ k : Fin 20, dr (gr (l8 tB (128 + u.val)) k.val) = PC false false (fun _ _ => 0) u.val k.val := by decide +kernel
set_option maxRecDepth 100000 in
theorem prs_all : ∀ u : Fin 115, l8 tB (128 + u.val) < 2 ^ (11 * 20) := by decide +kernel
theorem u_bl {u : Nat} (h : u < 115) : Nat.blt 114 u = false := by
  rw [Bool.eq_false_iff]
  intro e
  have : 114 < u := Nat.le_of_ble_eq_true e
  omega
theorem PC_P {a b : Bool} {P Q : Nat → Nat → Nat} {u k : Nat} (h : u < 115) : PC a b P u k = PC a b Q u k := by
  unfold PC
  rw [u_bl h]
  rfl
theorem b20 {k : Nat} (h : 20 ≤ k) (i : Nat) (hi : i < 20) : Nat.beq k i = false := by
  rw [Bool.eq_false_iff]
  intro e
  have := Nat.eq_of_beq_eq_true e
  omega
set_option maxRecDepth 100000 in
set_option maxHeartbeats 4000000 in
theorem PC_hi {a b : Bool} {P : Nat → Nat → Nat} {u k : Nat} (hu : u < 115) (h : 20 ≤ k) : PC a b P u k = NU := by
  unfold PC PC1
  simp only [u_bl hu, b20 h 0 (by decide), b20 h 1 (by decide), b20 h 2 (by decide), b20 h 3 (by decide), b20 h 4 (by decide), b20 h 5 (by decide), b20 h 6 (by decide), b20 h 7 (by decide), b20 h 8 (by decide), b20 h 9 (by decide), b20 h 10 (by decide), b20 h 11 (by decide), b20 h 12 (by decide), b20 h 13 (by decide), b20 h 14 (by decide), b20 h 15 (by decide), b20 h 16 (by decide), b20 h 17 (by decide), b20 h 18 (by decide), b20 h 19 (by decide), cond_false, Bool.cond_self]
theorem PC_fresh {S : cs} (hS : RC S tB) : S.2.2 = PC false false S.2.2 := by
  funext u k
  by_cases hu : u < 115
  · rw [hS.2.1 u (by omega) k]
    by_cases hk : k < 20
    · rw [prc_all ⟨u, hu⟩ ⟨k, hk⟩]
      exact PC_P hu
    · rw [gr_hi (prs_all ⟨u, hu⟩) (by omega), PC_hi hu (by omega)]
      rfl
  · unfold PC
    rw [show Nat.blt 114 u = true from Nat.ble_eq_true_of_le (by omega)]
    rfl
/-! the reference -/
def GM (M : ms) : Prop := IM M ∧ qf (M.2.1 15) 3 (3 + (M.2.1 14 (1 : Int32).toNatClampNeg).toInt) 1 2 ∧ qf (M.2.1 16) 3 (3 + (M.2.1 14 (1 : Int32).toNatClampNeg).toInt) 1 2 ∧ ((M.2.1 11 (1 : Int32).toNatClampNeg).toInt = 0 ∨ (M.2.1 14 (1 : Int32).toNatClampNeg).toInt = 1 ∨ (M.2.1 14 (1 : Int32).toNatClampNeg).toInt = 3) ∧ ((M.1 3).toInt = 1 ∨ (M.1 3).toInt = 3) ∧ LZ M
theorem GM_ag {M Z : ms} {fs rs : List Nat} (h : GM M) (hI : IM Z) (g : ag fs rs M Z) (h3 : fs.contains 3 = false) (h11 : rs.contains 11 = false) (h14 : rs.contains 14 = false) (h15 : rs.contains 15 = false) (h16 : rs.contains 16 = false) (h27 : rs.contains 27 = false) : GM Z := by
  obtain ⟨-, a1, a2, a3, a4, a5⟩ := h
  refine ⟨hI, ?_, ?_, ?_, ?_, fun c hc => ?_⟩
  · rw [g.2 15 h15, g.2 14 h14]; exact a1
  · rw [g.2 16 h16, g.2 14 h14]; exact a2
  · rw [g.2 11 h11, g.2 14 h14]; exact a3
  · rw [g.1 3 h3]; exact a4
  · rw [g.2 27 h27]; exact a5 c hc
theorem GM_pl {M Z : ms} {fs rs : List Nat} (h : GM M) (hI : IM Z) (g : ag fs rs M Z) (hp : (Z.1 3).toInt = 1 ∨ (Z.1 3).toInt = 3) (h11 : rs.contains 11 = false) (h14 : rs.contains 14 = false) (h15 : rs.contains 15 = false) (h16 : rs.contains 16 = false) (h27 : rs.contains 27 = false) : GM Z := by
  obtain ⟨-, a1, a2, a3, a4, a5⟩ := h
  refine ⟨hI, ?_, ?_, ?_, hp, fun c hc => ?_⟩
  · rw [g.2 15 h15, g.2 14 h14]; exact a1
  · rw [g.2 16 h16, g.2 14 h14]; exact a2
  · rw [g.2 11 h11, g.2 14 h14]; exact a3
  · rw [g.2 27 h27]; exact a5 c hc
set_option maxRecDepth 100000 in
theorem ckf_all : ∀ k : Fin 58, inB (bF.getD k.val (0, 0)) (gv (l6 tM 58) k.val) = true := by decide +kernel
set_option maxRecDepth 100000 in
theorem ckr_all : ∀ r : Fin 58, ∀ j : Fin 128, (isL r.val || inB (bR.getD r.val (0, 0)) (gv (l6 tM r.val) j.val)) = true := by decide +kernel
set_option maxRecDepth 100000 in
theorem crs_all : ∀ r : Fin 58, (isL r.val || Nat.blt (l6 tM r.val) (2 ^ (33 * 128))) = true := by decide +kernel
set_option maxRecDepth 100000 in
theorem cr0_all : ∀ r : Fin 58, (Nat.beq r.val 5 || inB (bR.getD r.val (0, 0)) 0) = true := by decide +kernel
set_option maxRecDepth 100000 in
theorem crL_all : ∀ r : Fin 58, (!(isL r.val) || decide (bR.getD r.val (0, 0) = (-2147483648, 2147483647))) = true := by decide +kernel
theorem IM_fresh {M : ms} (hM : RM M tM) : IM M := by
  refine ⟨fun k hk => ?_, fun r hr j hok => ?_⟩
  · obtain ⟨h1, h2⟩ := inB_ok (ckf_all ⟨k, hk⟩)
    rw [hM.1 k h1]
    exact h2
  · cases hL : isL r
    · by_cases hj : j < 128
      · have q := ckr_all ⟨r, hr⟩ ⟨j, hj⟩
        simp only [hL, Bool.false_or] at q
        obtain ⟨h1, h2⟩ := inB_ok q
        rw [hM.2.1 r hr hL j h1]
        exact h2
      · have q := crs_all ⟨r, hr⟩
        simp only [hL, Bool.false_or] at q
        have h0 : gv (l6 tM r) j = 0 := gv_hi (Nat.le_of_ble_eq_true q) (by omega)
        rw [hM.2.1 r hr hL j (by rw [h0]; decide), h0]
        have q0 := cr0_all ⟨r, hr⟩
        have n5 : Nat.beq r 5 = false := by
          cases e : Nat.beq r 5
          · rfl
          · unfold okr at hok
            rw [e, show Nat.ble 128 j = true from Nat.ble_eq_true_of_le (by omega)] at hok
            exact absurd hok (by decide)
        simp only [n5, Bool.false_or] at q0
        exact (inB_ok q0).2
    · have q := crL_all ⟨r, hr⟩
      simp only [hL, Bool.not_true, Bool.false_or, decide_eq_true_eq] at q
      rw [q]
      exact B_any _
theorem fmr {M : ms} (hM : RM M tM) (r k : Nat) (v : Int32) (hr : r < 58) (hL : isL r = false) (h : gv (l6 tM r) k < 4294967296 ∧ Int32.ofNat (gv (l6 tM r) k) = v) : M.2.1 r k = v := (hM.2.1 r hr hL k h.1).trans h.2
theorem GM_fresh {M : ms} (hM : RM M tM) : GM M := by
  have e14 : M.2.1 14 1 = 0 := fmr hM 14 1 0 (by decide) (by decide +kernel) (by decide +kernel)
  have e11 : M.2.1 11 1 = 0 := fmr hM 11 1 0 (by decide) (by decide +kernel) (by decide +kernel)
  have e3 : M.1 3 = 1 := (hM.1 3 (by decide +kernel)).trans (by decide +kernel)
  have z : (0 : Int32).toInt = 0 := by decide
  have q14 : (M.2.1 14 (1 : Int32).toNatClampNeg).toInt = 0 := by
    show (M.2.1 14 1).toInt = 0
    rw [e14]; exact z
  refine ⟨IM_fresh hM, fun j h1 h2 => ?_, fun j h1 h2 => ?_, Or.inl ?_, Or.inl ?_, fun c hc => ?_⟩
  · rw [q14] at h2; omega
  · rw [q14] at h2; omega
  · show (M.2.1 11 1).toInt = 0
    rw [e11]; exact z
  · rw [e3]; decide
  · have e : l6 tM 27 = 0 := by decide +kernel
    have h := hM.2.1 27 (by decide) (by decide +kernel) (257 * c + 255)
    rw [e, gv_0] at h
    rw [h (by decide)]
    exact z
