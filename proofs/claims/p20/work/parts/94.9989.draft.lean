/-! UNPACK: DATA, both sides -/
theorem bx1 {W q al : Nat} (hW : 1 ≤ W ∧ W ≤ 64) (hq : q = 1 ∨ q = 2) (ha : al = 1 ∨ al = 2) (hle : al ≤ q) : 1 ≤ up (up (W * al) q) 8 ∧ up (up (W * al) q) 8 ≤ al * up W (8 * q) ∧ al * up W (8 * q) ≤ 8 := by
  unfold up
  rcases hq with rfl | rfl <;> rcases ha with rfl | rfl
  · omega
  · omega
  · omega
  · omega
theorem offs_dec {A D ly : Nat → Nat} : ∀ m r, r < offs A D ly m → ∃ i k, i < m ∧ k < A (ly i) * D (ly i) ∧ r = offs A D ly i + k
  | 0, r, h => absurd h (Nat.not_lt_zero _)
  | m + 1, r, h => by
    have e : offs A D ly (m + 1) = offs A D ly m + A (ly m) * D (ly m) := rfl
    by_cases c : r < offs A D ly m
    · obtain ⟨i, k, h1, h2, h3⟩ := offs_dec m r c
      exact ⟨i, k, by omega, h2, h3⟩
    · exact ⟨m, r - offs A D ly m, by omega, by omega, by omega⟩
/-- the order of a scan: N units of pu blocks, uw units in a row -/
def uoI (m : Nat) (ly bw bh gw : Nat → Nat) (N pu uw uh : Nat) (ov : Nat → Nat) : Prop :=
  N = uw * uh ∧ (1 ≤ uw ∧ uw ≤ 8) ∧ uh ≤ 8 ∧ pu = offs bw bh ly m ∧ pu ≤ 12 ∧ ∀ j, j < N → ∀ i, i < m → ∀ k, k < bw (ly i) * bh (ly i) → ov (j * pu + (offs bw bh ly i + k)) = 64 * ly i + ((j / uw * bh (ly i) + k / bw (ly i)) * gw (ly i) + (j % uw * bw (ly i) + k % bw (ly i))) ∧ (j / uw * bh (ly i) + k / bw (ly i)) * gw (ly i) + (j % uw * bw (ly i) + k % bw (ly i)) < 64
section ORDU
variable {M : ms} {F : cF} {u n m W H : Nat} {A D ly cs cr : Nat → Nat}
theorem uo_192 {bw bh gw : Nat → Nat} {N pu uw uh : Nat} {ov : Nat → Nat} (h : uoI m ly bw bh gw N pu uw uh ov) (hly : ∀ i, i < m → ly i < 3) {t : Nat} (ht : t < N * pu) : ov t < 192 := by
  obtain ⟨h1, h2, h3, h4, h5, h6⟩ := h
  have pp : 0 < pu := by
    refine Nat.pos_of_ne_zero (fun e => ?_)
    rw [e, Nat.mul_zero] at ht
    exact absurd ht (Nat.not_lt_zero _)
  have hj : t / pu < N := Nat.div_lt_of_lt_mul (by rw [Nat.mul_comm]; exact ht)
  have hr : t % pu < pu := Nat.mod_lt _ pp
  have e : t = t / pu * pu + t % pu := by
    rw [Nat.mul_comm]
    exact (Nat.div_add_mod t _).symm
  obtain ⟨i, k, i1, i2, i3⟩ := offs_dec (A := bw) (D := bh) (ly := ly) m (t % pu) (by rw [← h4]; exact hr)
  rw [i3] at e
  have q := h6 (t / pu) hj i i1 k i2
  have l3 := hly i i1
  rw [e, q.1]
  omega
theorem y_order (g : gR 2 M n W H A D) (hs : snI u n m W H A D ly cs cr M F) : ∃ N pu uw uh bw bh ov, scU F N pu ov ∧ uoI m ly bw bh (fun l => A l * up W (8 * mx A n)) N pu uw uh ov ∧ (m = 1 → bw = (fun _ => 1) ∧ bh = (fun _ => 1) ∧ uw = up (up (W * A (ly 0)) (mx A n)) 8 ∧ uh = up (up (H * D (ly 0)) (mx D n)) 8) ∧ (2 ≤ m → bw = A ∧ bh = D ∧ uw = up W (8 * mx A n) ∧ uh = up H (8 * mx D n)) := by
  obtain ⟨s1, s2, s3, s4, s5, s6⟩ := hs
  have n3 := g.n3
  have gW := g.2.2.2.2.1
  have gH := g.2.2.2.2.2.1
  have m1 := g.mA
  have m2 := g.mD
  have gl := g.2.2.2.2.2.2
  have hly : ∀ i, i < m → ly i < 3 := fun i hi => by have := (s3 i hi).1; omega
  by_cases e : m = 1
  · subst e
    have a5 := s5 rfl
    have l0 := (s3 0 (by decide)).1
    have q0 := gl (ly 0) l0
    have bW := bx1 gW m1 q0.2.2.1 (mx_ge n (ly 0) l0)
    have bH := bx1 gH m2 q0.2.2.2 (mx_ge n (ly 0) l0)
    have uo : uoI 1 ly (fun _ => 1) (fun _ => 1) (fun l => A l * up W (8 * mx A n)) (up (up (H * D (ly 0)) (mx D n)) 8 * up (up (W * A (ly 0)) (mx A n)) 8) 1 (up (up (W * A (ly 0)) (mx A n)) 8) (up (up (H * D (ly 0)) (mx D n)) 8) (fun t => 64 * ly 0 + (t / up (up (W * A (ly 0)) (mx A n)) 8 * (A (ly 0) * up W (8 * mx A n)) + t % up (up (W * A (ly 0)) (mx A n)) 8)) := by
      refine ⟨Nat.mul_comm _ _, ⟨bW.1, by omega⟩, by omega, rfl, by decide, fun j hj i hi k hk => ?_⟩
      obtain rfl : i = 0 := by omega
      have hk : k < 1 * 1 := hk
      obtain rfl : k = 0 := by omega
      have r1 : j / up (up (W * A (ly 0)) (mx A n)) 8 < up (up (H * D (ly 0)) (mx D n)) 8 := Nat.div_lt_of_lt_mul (by rw [Nat.mul_comm]; exact hj)
      have r2 : j % up (up (W * A (ly 0)) (mx A n)) 8 < up (up (W * A (ly 0)) (mx A n)) 8 := Nat.mod_lt _ (by omega)
      have e2 : j * 1 + (offs (fun _ => 1) (fun _ => 1) ly 0 + 0) = j := by
        show j * 1 + (0 + 0) = j
        omega
      rw [e2, Nat.mul_one, Nat.mul_one, Nat.zero_div, Nat.zero_mod, Nat.add_zero, Nat.add_zero]
      refine ⟨rfl, ?_⟩
      have t1 : j / up (up (W * A (ly 0)) (mx A n)) 8 * (A (ly 0) * up W (8 * mx A n)) ≤ 7 * (A (ly 0) * up W (8 * mx A n)) := Nat.mul_le_mul_right _ (by omega)
      dsimp only
      omega
    refine ⟨_, _, _, _, _, _, _, ⟨a5.1, a5.2.1, fun t ht => ⟨a5.2.2.2 t ht, uo_192 uo hly ht⟩⟩, uo, fun _ => ⟨rfl, rfl, rfl, rfl⟩, fun q => absurd q (by decide)⟩
  · obtain ⟨o10, ov, a5, hov⟩ := s6 (by omega)
    have s1' := up_ge (x := W) (k := 8 * mx A n) gW.1 (by omega)
    have t1 := up_le (x := W) (k := 8 * mx A n) gW.2 (by omega)
    have t2 := up_le (x := H) (k := 8 * mx D n) gH.2 (by omega)
    have uo : uoI m ly A D (fun l => A l * up W (8 * mx A n)) (up H (8 * mx D n) * up W (8 * mx A n)) (offs A D ly m) (up W (8 * mx A n)) (up H (8 * mx D n)) ov := by
      refine ⟨Nat.mul_comm _ _, ⟨s1', t1⟩, t2, rfl, by omega, fun j hj i hi k hk => ?_⟩
      have l0 := (s3 i hi).1
      have q0 := gl (ly i) l0
      have bW := bx1 gW m1 q0.2.2.1 (mx_ge n (ly i) l0)
      have bH := bx1 gH m2 q0.2.2.2 (mx_ge n (ly i) l0)
      have r1 : j / up W (8 * mx A n) < up H (8 * mx D n) := Nat.div_lt_of_lt_mul (by rw [Nat.mul_comm]; exact hj)
      have r2 : k / A (ly i) < D (ly i) := Nat.div_lt_of_lt_mul hk
      have r3 : j % up W (8 * mx A n) < up W (8 * mx A n) := Nat.mod_lt _ (by omega)
      have r4 : k % A (ly i) < A (ly i) := Nat.mod_lt _ (by omega)
      have row := mlt r1 r2
      have col := mlt r3 r4
      rw [Nat.mul_comm (up W (8 * mx A n))] at col
      rw [Nat.mul_comm (up H (8 * mx D n))] at row
      have all := mlt row col
      have gg : (D (ly i) * up H (8 * mx D n)) * (A (ly i) * up W (8 * mx A n)) ≤ 8 * 8 := Nat.mul_le_mul bH.2.2 bW.2.2
      refine ⟨(hov j hj i hi k hk).trans (congrArg (fun z => 64 * ly i + z) (Nat.add_assoc _ _ _)), by dsimp only; omega⟩
    exact ⟨_, _, _, _, _, _, ov, ⟨a5.1, a5.2.1, fun t ht => ⟨a5.2.2.2 t ht, uo_192 uo hly ht⟩⟩, uo, fun q => absurd q e, fun _ => ⟨rfl, rfl, rfl, rfl⟩⟩
end ORDU
section UNIT
variable {L : cL} {a b : Bool} {P : Nat → Nat → Nat} {K1 : ms → Prop} {K2 : cs → Prop} {T2 : Nat → cs → Prop} {G : Prop} {u m N pu uw uh n : Nat} {ly cs' cr bw bh gw ov : Nat → Nat} {x1 : Int32} {R19 : Int32 → Int32 → cs → Prop}
theorem y_unit12 (hu : isU u) (hpu : PC a b P 59 1 = u) (huo : uoI m ly bw bh gw N pu uw uh ov) (hn : n < N)
    (SS : ms) (bad : ∀ M' F', K1 M' → flt M' → kp SS M' → T2 13 (F', L, PC a b P) → G) :
    ∀ d i (S : ms) (F : cF), m - i = d → i ≤ m → kp SS S → urI m ly cs' cr bw bh gw S F → scU F N pu ov → rdI u S F → e_readUnit_12 (nI (n % uw)) (nI (n / uw)) (nI i) S K1 → e_Un_readData_67 UL 59 x1 (nI n) (nI (offs bw bh ly i)) (F, L, PC a b P) R19 K2 T2 →
    (∀ M' F', fkR S M' → fkC u F F' → rdI u M' F' → (∀ k, k < 24576 → M'.2.1 19 k = S.2.1 19 k) → K1 M' → R19 x1 (nI n + 1) (F', L, PC a b P) → G) → G := by
  intro d
  obtain ⟨o1, o2, o3, o4, o5, o6⟩ := huo
  have N64 : N ≤ 64 := by
    rw [o1]
    exact Nat.le_trans (Nat.mul_le_mul o2.2 o3) (by decide)
  have nm : n % uw ≤ 64 := Nat.le_trans (Nat.mod_le _ _) (by omega)
  have nd : n / uw ≤ 64 := Nat.le_trans (Nat.div_le_self _ _) (by omega)
  induction d with
  | zero =>
    intro i S F hd hi hkp hI hsc hr h1 h2 ok
    obtain rfl : i = m := by omega
    have h1 := r_e_readUnit_12 h1
    unfold b_readUnit_12 b_readUnit_166 at h1
    have h2 := r_e_Un_readData_67 h2
    unfold b_Un_readData_67 at h2
    obtain ⟨-, -, h2⟩ := h2
    have h2 := h2.1 (by show F 73 5 ≤ nI (offs bw bh ly i); rw [hsc.2.1, o4]; exact Int32.le_refl _)
    exact ok S F ag_refl ⟨fun _ _ _ _ => rfl, fun _ _ _ => rfl⟩ hr (fun _ _ => rfl) (h1.1 (by rw [hI.1]; exact Int32.le_refl _)) h2
  | succ d ih =>
    intro i S F hd hi hkp hI hsc hr h1 h2 ok
    have im : i < m := by omega
    have m3 := hI.2.1.2
    have gi := hI.2.2 i im
    have h1 := r_e_readUnit_12 h1
    unfold b_readUnit_12 at h1
    obtain ⟨-, h1⟩ := (h1.2 (by rw [hI.1]; exact nI_ge im (by omega))).2 hr.1.1
    rw [nI_clamp (show i < 2 ^ 31 by omega), gi.2.2.2.1] at h1
    have l3 := gi.1
    have e6 : (6 + nI (ly i) : Int32).toNatClampNeg = 6 + ly i := by rw [show (6 + nI (ly i) : Int32) = nI (6 + ly i) from nI_add 6 _, nI_clamp (by omega)]
    have h88 : e_readUnit_88 (nI (n % uw)) (nI (n / uw)) (nI i) (nI (ly i)) (nI (bw (ly i))) (nI (bh (ly i))) 0 S (fun zx3 zx4 zx5 zS => e_readUnit_12 zx3 zx4 zx5 zS K1) K1 := by
      unfold b_readUnit_59 b_readUnit_83 at h1
      rw [e6, hI.1] at h1
      by_cases m1 : m = 1
      · obtain ⟨q1, q2⟩ := gi.2.2.2.2.2.2.2.2.2.2.2.2.2.2.1 m1
        rw [q1, q2]
        exact (h1.2 (by rw [m1]; rfl)).2 (by rw [m1]; rfl)
      · obtain ⟨q1, q2⟩ := gi.2.2.2.2.2.2.2.2.2.2.2.2.2.2.2 m1
        have nm1 : ¬ nI m = 1 := fun q => m1 ((nI_eq (a := m) (b := 1) (by omega) (by decide)).mp q)
        have h1 := ((h1.1 nm1).2.1 nm1).2
        rw [q1, q2] at h1
        exact h1
    have ol := offs_le (A := bw) (D := bh) (ly := ly) (i := i + 1) m (by omega)
    have oe : offs bw bh ly (i + 1) = offs bw bh ly i + bw (ly i) * bh (ly i) := rfl
    refine x_unit88 (A := bw) (D := bh) hu hpu hI hsc hr hn im N64 o5 (ofs := offs bw bh ly i) (ux := n % uw) (uy := n / uw) (by omega) nm nd (fun k hk => o6 n hn i im k hk) h88 h2 (fun M1 F1 c1 c2 c3 c4 h1 h2 => ?_) (fun M1 F1 c1 c2 c3 c4 h1 h2 => g_e_readUnit_12 (S0 := M1) h1 ⟨c1, rk_refl⟩ (fun M' hk hf => bad M' F1 hk hf.1 (kp_tr hkp (kp_tr (kp_19 c2 c4) (kp_fk hf))) h2))
    rw [nI_1] at h1
    exact ih (i + 1) M1 F1 (by omega) (by omega) (kp_tr hkp (kp_19 c1 c4)) (urI_k hu hI c1 c2) (scU_k hu hsc c2) c3 h1 h2 (fun M' F' e1 e2 e3 e4 h1 h2 => ok M' F' (ag_tr c1 e1 rfl rfl) (fkC_tr c2 e2) e3 (fun k hk => (e4 k hk).trans (c4 k hk)) h1 h2)
end UNIT

/-! UNPACK: DATA, all units -/
section DAT
variable {L : cL} {a b : Bool} {P : Nat → Nat → Nat} {K1 : ms → Prop} {K2 : cs → Prop} {T2 : Nat → cs → Prop} {G : Prop} {u m N pu uw uh e : Nat} {ly cs' cr bw bh gw ov : Nat → Nat}
/-- starts are 0 again -/
theorem q_210 {x2 x3 x4 x5 : Int32} {S : ms} {R106 : Int32 → Int32 → Int32 → ms → Prop} (hz : x4 = 0 ∨ ¬ x5 = 0) (h : e_readData_210 x2 x3 x4 x5 0 S R106 K1) : ∃ Z, ag [] [53] S Z ∧ (∀ j, j < 3 → Z.2.1 53 j = 0) ∧ b_readData_240 x2 x3 x4 Z R106 K1 := by
  refine v_e_readData_210 h (fun y6 T => ∃ q, y6 = nI q ∧ q ≤ 3 ∧ ag [] [53] S T ∧ ∀ j, j < q → T.2.1 53 j = 0) ⟨0, rfl, by decide, ag_refl, fun j hj => absurd hj (Nat.not_lt_zero _)⟩ ?_
  rintro y6 T R ⟨q, rfl, hq, ha, hc⟩ hb
  unfold b_readData_210 b_readData_226 at hb
  by_cases e : q = 3
  · right
    subst e
    exact ⟨T, ha, hc, hb.1 (Int32.le_refl _)⟩
  · left
    have hb := hb.2 (nI_ge (b := 3) (by omega) (by decide))
    have cq : (nI q).toNatClampNeg = q := nI_clamp (by omega)
    have hR : R x2 x3 x4 x5 (nI q + 1) (T.1, va_up T.2.1 53 (upd (T.2.1 53) q 0), T.2.2) := by
      rw [cq] at hb
      by_cases c : x4 = 0
      · exact (hb.1 c).2
      · exact ((hb.2 c).2 (hz.resolve_left c)).2
    refine ⟨_, _, hR, q + 1, nI_1 q, by omega, ag_r ha rfl, fun j hj => ?_⟩
    dsimp only
    rw [vu_at]
    by_cases ej : j = q
    · rw [ej, upd_at]
    · rw [upd_ne ej]
      exact hc j (by omega)
theorem q_210n {x2 x3 x4 : Int32} {S : ms} {R106 : Int32 → Int32 → Int32 → ms → Prop} (hz : ¬ x4 = 0) (h : e_readData_210 x2 x3 x4 0 0 S R106 K1) : b_readData_240 x2 x3 x4 S R106 K1 := by
  have h := r_e_readData_210 h
  unfold b_readData_210 at h
  exact ((h.2 (by decide)).2 hz).1 rfl
abbrev fdR (S M : ms) : Prop := ag [10, 34, 35, 54, 55, 56, 57] [19, 53] S M
theorem y_units (hu : isU u) (hpu : PC a b P 59 1 = u) (huo : uoI m ly bw bh gw N pu uw uh ov) (he : e ≤ 65535)
    (SS : ms) (bad : ∀ M' F', K1 M' → flt M' → kp SS M' → T2 13 (F', L, PC a b P) → G) :
    ∀ d n (S : ms) (F : cF), N - n = d → n ≤ N → kp SS S → urI m ly cs' cr bw bh gw S F → scU F N pu ov → rd S F → rb S F → rLw u S F → (n = 0 → ∀ i, i < 3 → F 104 i = 0) → (0 < n → rSt S F) → S.1 48 = nI e → F 59 11 = nI e → e_readData_106 (nI uw) (nI uh) (nI n) S K1 → e_Un_readData_19 UL 59 (nI (mkc e n)) (nI n) (F, L, PC a b P) K2 T2 →
    (∀ M' F', fdR S M' → fkC u F F' → rd M' F' → rLw u M' F' → (∀ k, k < 24576 → M'.2.1 19 k = S.2.1 19 k) → K1 M' → K2 (F', L, PC a b P) → G) → G := by
  intro d
  have huo' := huo
  obtain ⟨o1, o2, o3, o4, o5, o6⟩ := huo
  have N64 : N ≤ 64 := by
    rw [o1]
    exact Nat.le_trans (Nat.mul_le_mul o2.2 o3) (by decide)
  have u104 : OB (u + 7) = false ∧ OB 104 = false := by rcases hu with rfl | rfl <;> exact ⟨rfl, rfl⟩
  have u7 : u + 7 ≠ 104 ∧ u + 7 ≠ 60 ∧ u + 7 ≠ 59 := by rcases hu with rfl | rfl <;> decide
  have c104 : ([u + 7, 104] : List Nat).contains 104 = true := by
    simp only [List.contains_cons, beq_self_eq_true, Bool.true_or, Bool.or_true]
  induction d with
  | zero =>
    intro n S F hd hn hkp hI hsc hr hb hL hz hst e48 f11 h1 h2 ok
    obtain rfl : n = N := by omega
    have h1 := r_e_readData_106 h1
    unfold b_readData_106 b_readData_260 at h1
    rw [pk_mul, ← o1] at h1
    have h2 := r_e_Un_readData_19 h2
    unfold b_Un_readData_19 at h2
    obtain ⟨-, -, h2⟩ := h2
    have h2 := h2.1 (by show F 73 4 ≤ nI n; rw [hsc.1]; exact Int32.le_refl _)
    exact ok S F ag_refl ⟨fun _ _ _ _ => rfl, fun _ _ _ => rfl⟩ hr hL (fun _ _ => rfl) (h1.1 (Int32.le_refl _)) h2
  | succ d ih =>
    intro n S F hd hn hkp hI hsc hr hb hL hz hst e48 f11 h1 h2 ok
    have nN : n < N := by omega
    have h1 := r_e_readData_106 h1
    unfold b_readData_106 at h1
    rw [pk_mul, ← o1] at h1
    have h1 := (h1.2 (nI_ge nN (by omega))).2 hr.1
    rw [e48] at h1
    have h2 := r_e_Un_readData_19 h2
    unfold b_Un_readData_19 at h2
    obtain ⟨-, -, h2⟩ := h2
    have h2 := h2.2 (by show ¬ F 73 4 ≤ nI n; rw [hsc.1]; exact nI_ge nN (by omega))
    have h2 : (F 59 11 ≤ 0 → b_Un_readData_65 UL 59 (nI (mkc e n)) (nI n) (F, L, PC a b P) (fun zx1 zx2 zS => e_Un_readData_19 UL 59 zx1 zx2 zS K2 T2) K2 T2) ∧ (¬ F 59 11 ≤ 0 → (nI n ≤ 0 → b_Un_readData_65 UL 59 (nI (mkc e n)) (nI n) (F, L, PC a b P) (fun zx1 zx2 zS => e_Un_readData_19 UL 59 zx1 zx2 zS K2 T2) K2 T2) ∧ (¬ nI n ≤ 0 → _ ∧ ((¬ (nI n - nI n / F 59 11 * F 59 11) = 0 → b_Un_readData_65 UL 59 (nI (mkc e n)) (nI n) (F, L, PC a b P) (fun zx1 zx2 zS => e_Un_readData_19 UL 59 zx1 zx2 zS K2 T2) K2 T2) ∧ ((nI n - nI n / F 59 11 * F 59 11) = 0 → p_Un_readAgain UL 59 (208 + (nI (mkc e n) - nI (mkc e n) / 8 * 8)) (F, L, PC a b P) (fun S59 => b_Un_readData_65 UL 59 (nI (mkc e n) + 1) (nI n) S59 (fun zx1 zx2 zS => e_Un_readData_19 UL 59 zx1 zx2 zS K2 T2) K2 T2) T2)))) := h2
    rw [f11] at h2
    have mb : mkc e n ≤ 64 := Nat.le_trans (Nat.div_le_self _ _) (by omega)
    have fe : ∀ (y2 y3 y4 : Int32) (M1 : ms) (F1 : cF), e_readData_106 y2 y3 y4 M1 K1 → flt M1 → kp SS M1 → T2 13 (F1, L, PC a b P) → G := fun _ _ _ M1 F1 h hf hp ht => g_e_readData_106 (S0 := M1) h ⟨hf, rk_refl⟩ (fun M' hk hf => bad M' F1 hk hf.1 (kp_tr hp (kp_fk hf)) ht)
    have f207 : ∀ (y5 : Int32) (M1 : ms) (F1 : cF), b_readData_207 (nI uw) (nI uh) (nI n) y5 M1 (fun zx2 zx3 zx4 zS => e_readData_106 zx2 zx3 zx4 zS K1) K1 → flt M1 → kp SS M1 → T2 13 (F1, L, PC a b P) → G := fun y5 M1 F1 h hf hp ht => g_b_readData_207 (S0 := M1) h ⟨hf, rk_refl⟩ (fun _ _ _ M' hk hf => fe _ _ _ M' F1 hk hf.1 (kp_tr hp (kp_fk hf)) ht) (fun M' hk hf => bad M' F1 hk hf.1 (kp_tr hp (kp_fk hf)) ht)
    -- the unit itself
    have unit : ∀ (V : ms) (Y : cF), fdR S V → fkC u F Y → rdI u V Y → (∀ k, k < 24576 → V.2.1 19 k = S.2.1 19 k) → b_readData_240 (nI uw) (nI uh) (nI n) V (fun zx2 zx3 zx4 zS => e_readData_106 zx2 zx3 zx4 zS K1) K1 → b_Un_readData_65 UL 59 (nI (mkc e (n + 1))) (nI n) (Y, L, PC a b P) (fun zx1 zx2 zS => e_Un_readData_19 UL 59 zx1 zx2 zS K2 T2) K2 T2 → G := by
      intro V Y hV hY hrd h19 h1 h2
      have hIV : urI m ly cs' cr bw bh gw V Y := urI_k hu hI (ag_tr (ag_refl (fs := [10, 34, 35, 54, 55, 56, 57]) (rs := [19, 53])) hV rfl rfl) hY
      have hsV := scU_k hu hsc hY
      unfold b_readData_240 at h1
      have h1 := h1.2 hrd.1.1
      unfold p_readUnit at h1
      obtain ⟨-, -, h1⟩ := h1
      rw [pk_rem (show n < 2 ^ 31 by omega) (by omega) (by omega), pk_div (show n < 2 ^ 31 by omega) (by omega) (by omega)] at h1
      unfold b_Un_readData_65 at h2
      have kV : kp SS V := kp_tr hkp (kp_19 hV h19)
      refine y_unit12 (x1 := nI (mkc e (n + 1))) hu hpu huo' nN SS (fun M' F' hk hf hp ht => by
        have hk : b_readData_254 (nI uw) (nI uh) (nI n) M' (fun zx2 zx3 zx4 zS => e_readData_106 zx2 zx3 zx4 zS K1) K1 := hk
        unfold b_readData_254 at hk
        exact fe _ _ _ _ F' hk hf hp ht) m 0 V Y rfl (Nat.zero_le _) kV hIV hsV hrd h1 h2 (fun M' F' c1 c2 c3 c4 h1 h2 => ?_)
      have h1 : b_readData_254 (nI uw) (nI uh) (nI n) M' (fun zx2 zx3 zx4 zS => e_readData_106 zx2 zx3 zx4 zS K1) K1 := h1
      unfold b_readData_254 at h1
      rw [nI_1] at h1 h2
      have aS : fdR S M' := ag_tr hV c1 rfl rfl
      have gS : fkC u F F' := fkC_tr hY c2
      refine ih (n + 1) M' F' (by omega) (by omega) (kp_tr kV (kp_19 c1 c4)) (urI_k hu hI aS gS) (scU_k hu hsc gS) c3.1 c3.2.1 c3.2.2.1 (fun q => absurd q (by omega)) (fun _ => c3.2.2.2) ((aS.1 48 rfl).trans e48) ((gS.1 59 11 rfl rfl).trans f11) h1 h2 (fun M2 F2 d1 d2 d3 d4 d5 h1 h2 => ok M2 F2 (ag_tr aS d1 rfl rfl) (fkC_tr gS d2) d3 d4 (fun k hk => (d5 k hk).trans ((c4 k hk).trans (h19 k hk))) h1 h2)
    -- a unit without a pause
    have plain : ¬ pau e n → b_readData_147 (nI uw) (nI uh) (nI n) S (fun zx2 zx3 zx4 zS => e_readData_106 zx2 zx3 zx4 zS K1) K1 → b_Un_readData_65 UL 59 (nI (mkc e n)) (nI n) (F, L, PC a b P) (fun zx1 zx2 zS => e_Un_readData_19 UL 59 zx1 zx2 zS K2 T2) K2 T2 → G := by
      intro hnp h1 h2
      unfold b_readData_147 b_readData_148 at h1
      have h1 := h1.1 rfl
      unfold b_readData_207 at h1
      rw [← mkc_n hnp] at h2
      by_cases n0 : n = 0
      · obtain ⟨Z, z1, z2, h1⟩ := q_210 (Or.inl (by rw [n0]; rfl)) h1
        have aZ : fdR S Z := ag_tr (ag_refl (fs := [10, 34, 35, 54, 55, 56, 57]) (rs := [19, 53])) z1 rfl rfl
        refine unit Z F aZ ⟨fun _ _ _ _ => rfl, fun _ _ _ => rfl⟩ ⟨rd_b hr (z1.1 35 rfl) (z1.1 34 rfl) (z1.1 7 rfl) (z1.2 6 rfl) rfl rfl rfl, ⟨by rw [z1.1 54 rfl]; exact hb.1, by rw [z1.1 54 rfl, z1.1 55 rfl]; exact hb.2⟩, fun k hk => by rw [z1.2 19 rfl]; exact hL k hk, fun i hi => ?_⟩ (fun k hk => by rw [z1.2 19 rfl]) h1 h2
        rw [hz n0 i hi, z2 i hi]
        exact ⟨rfl, by decide, by decide⟩
      · have h1 := q_210n (nI_ne0 (by omega) (by omega)) h1
        exact unit S F ag_refl ⟨fun _ _ _ _ => rfl, fun _ _ _ => rfl⟩ ⟨hr, hb, hL, hst (by omega)⟩ (fun _ _ => rfl) h1 h2
    by_cases q1 : e = 0
    · subst q1
      exact plain (fun q => absurd q.1 (by decide)) (h1.1 (by decide)) (h2.1 (by decide))
    · have h1 := h1.2 (nI_nle (by omega) (by omega))
      have h2 := h2.2 (nI_nle (by omega) (by omega))
      by_cases q2 : n = 0
      · subst q2
        exact plain (fun q => absurd q.2.1 (by decide)) (h1.1 (by decide)) (h2.1 (by decide))
      · obtain ⟨-, h1⟩ := h1.2 (nI_nle (by omega) (by omega))
        obtain ⟨-, h2⟩ := h2.2 (nI_nle (by omega) (by omega))
        have em : (nI n - nI n / nI e * nI e : Int32) = nI (n % e) := pk_rem (by omega) (by omega) (by omega)
        rw [em] at h1 h2
        have eb : n % e ≤ 64 := Nat.le_trans (Nat.mod_le _ _) (by omega)
        by_cases q3 : n % e = 0
        · have hp : pau e n := ⟨by omega, by omega, q3⟩
          have h1 := h1.2 (by rw [q3]; rfl)
          have h2 := h2.2 (by rw [q3]; rfl)
          unfold b_readData_148 at h1
          have h1 := h1.2 (by decide)
          unfold p_Un_readAgain p_Re_dropBits at h2
          obtain ⟨-, -, -, -, h2⟩ := h2
          have h2 : p_Re_readMark UL 60 (va_up F 60 (upd (F 60) 4 0), L, PC a b P) (fun v11 S11 => (v11 = (208 + (nI (mkc e n) - nI (mkc e n) / 8 * 8)) → (b_Un_readAgain_35 UL 59 S11 (fun S59 => b_Un_readData_65 UL 59 (nI (mkc e n) + 1) (nI n) S59 (fun zx1 zx2 zS => e_Un_readData_19 UL 59 zx1 zx2 zS K2 T2) K2 T2) T2)) ∧ (¬ (v11 = (208 + (nI (mkc e n) - nI (mkc e n) / 8 * 8))) → (¬ S11.2.2 59 0 = NU ∧ (¬ S11.2.2 59 0 = NU ∧ (c_cl UL (S11.2.2 59 0) = 8 ∧ (p_Re_fail UL (S11.2.2 59 0) 3 ((S11.1 (S11.2.2 59 0) 1) - 1) S11 (fun S32 => b_Un_readAgain_35 UL 59 S32 (fun S59 => b_Un_readData_65 UL 59 (nI (mkc e n) + 1) (nI n) S59 (fun zx1 zx2 zS => e_Un_readData_19 UL 59 zx1 zx2 zS K2 T2) K2 T2) T2) T2)))))) T2 := h2
          have r0 : rd (upd S.1 54 0, S.2.1, S.2.2) (va_up F 60 (upd (F 60) 4 0)) := rd_f hr (by decide) (by decide) (by decide) (by rw [vu_at, upd_ne (by decide)]) (by rw [vu_ne (by decide)]) (vu_ne (by decide))
          have a0 : fdR S (upd S.1 54 0, S.2.1, S.2.2) := ag_f ag_refl rfl
          have g0 : fkC u F (va_up F 60 (upd (F 60) 4 0)) := fb_k (agc_f agc_refl rfl rfl)
          refine x_rmark r0 r0.2.2.2.2.1 r0.2.2.2.1 h1 h2 (fun v M1 F1 c1 c2 c3 c4 c5 _ h1 h2 => ?_) (fun v M1 F1 c1 c2 c3 h1 h2 => f207 _ _ F1 (h1.1 (flt_n c1)) c1 (kp_tr hkp (kp_tr (kp_ag (S := S) (M := (upd S.1 54 0, S.2.1, S.2.2)) (fs := [54]) (rs := []) (ag_f ag_refl rfl) (fun _ _ _ => rfl)) (kp_ag c2 (fun _ _ _ => rfl)))) h2)
          have aM : fdR S M1 := ag_tr a0 c1 rfl rfl
          have gM : fkC u F F1 := fkC_tr g0 ⟨fun w k o hw => c3.1 w k o (by
            simp only [List.contains_cons, List.contains_nil, Bool.or_false, Bool.or_eq_false_iff, beq_eq_false_iff_ne] at hw ⊢
            exact ⟨hw.1, hw.2.2.2.2.2.1, hw.2.2.2.2.2.2⟩), fun w o _ => c3.2 w o rfl⟩
          have m48 : M1.1 48 = nI e := (aM.1 48 rfl).trans e48
          obtain ⟨-, h1⟩ := h1.2 c4.1
          have due : (208 + (((nI n / M1.1 48) - 1) - ((nI n / M1.1 48) - 1) / 8 * 8) : Int32) = (208 + (nI (mkc e n) - nI (mkc e n) / 8 * 8)) := by
            have dn : n / e ≤ 64 := Nat.le_trans (Nat.div_le_self _ _) (by omega)
            have d1 : 1 ≤ n / e := (Nat.div_pos (Nat.le_of_dvd (by omega) (Nat.dvd_of_mod_eq_zero q3)) (by omega))
            rw [m48, pk_div (show n < 2 ^ 31 by omega) (by omega) (by omega), m1_n d1, (mkc_p hp).1]
          rw [due] at h1
          by_cases ev : v = (208 + (nI (mkc e n) - nI (mkc e n) / 8 * 8) : Int32)
          · have h1 := h1.1 ev
            have h2 := h2.1 ev
            unfold b_readData_207 at h1
            obtain ⟨Z, z1, z2, h1⟩ := q_210 (Or.inr (by decide)) h1
            unfold b_Un_readAgain_35 at h2
            obtain ⟨-, h2⟩ := h2
            have h2 : p_Ar_fillI UL 104 0 (F1, L, PC a b P) _ := h2
            obtain ⟨Y, y1, y2, -, h2⟩ := q_fillr (N := 3) rfl (by decide) h2
            rw [nI_1, ← (mkc_p hp).2] at h2
            have gY : fkC u F1 Y := by
              refine ⟨fun w k o _ => ?_, fun w o hw => ?_⟩
              · rw [y1 w (fun q => by rw [q] at o; exact absurd o (by decide))]
              · refine y1 w (fun q => ?_)
                rw [q, c104] at hw
                exact absurd hw (by decide)
            have z19 : ∀ k, Z.2.1 19 k = S.2.1 19 k := fun k => by rw [z1.2 19 rfl]; show M1.2.1 19 k = _; rw [c1.2 19 rfl]
            refine unit Z Y (ag_tr aM (ag_tr (ag_refl (fs := [10, 34, 35, 54, 55, 56, 57]) (rs := [19, 53])) z1 rfl rfl) rfl rfl) (fkC_tr gM gY) ⟨rd_b c4 (z1.1 35 rfl) (z1.1 34 rfl) (z1.1 7 rfl) (z1.2 6 rfl) (by rw [y1 60 (by decide)]) (by rw [y1 61 (by decide)]) (y1 62 (by decide)), ⟨?_, ?_⟩, fun k hk => ?_, fun i hi => ?_⟩ (fun k _ => z19 k) h1 h2
            · rw [y1 60 (by decide), c3.1 60 4 rfl rfl, vu_at, upd_at, z1.1 54 rfl]
              show 0 = M1.1 54
              rw [c1.1 54 rfl]
              show 0 = upd S.1 54 0 54
              rw [upd_at]
            · intro q
              exfalso
              apply q
              rw [z1.1 54 rfl]
              show M1.1 54 = 0
              rw [c1.1 54 rfl]
              show upd S.1 54 0 54 = 0
              rw [upd_at]
            · rw [y1 (u + 7) u7.1, c3.2 (u + 7) u104.1 rfl, vu_ne u7.2.1, z19]
              exact hL k hk
            · rw [y2 i hi, z2 i hi]
              exact ⟨rfl, by decide, by decide⟩
          · obtain ⟨Y, hf, hp, h1⟩ := q_fail2 (by decide) c4.1 (h1.2 ev)
            obtain ⟨-, -, -, h2⟩ := h2.2 ev
            have h2 : p_Re_fail UL 60 _ _ (F1, L, PC a b P) _ T2 := h2
            obtain ⟨F2, -, -, h2⟩ := q_Rfail h2
            exact f207 _ _ F2 h1 hf (kp_tr hkp (kp_tr (kp_ag (S := S) (M := (upd S.1 54 0, S.2.1, S.2.2)) (fs := [54]) (rs := []) (ag_f ag_refl rfl) (fun _ _ _ => rfl)) (kp_tr (kp_ag c1 (fun _ _ _ => rfl)) hp))) h2
        · exact plain (fun q => q3 q.2.2) (h1.1 (nI_ne0 (by omega) (by omega))) (h2.1 (nI_ne0 (by omega) (by omega)))
/-- all of DATA -/
theorem y_data {n W H : Nat} {A D cs : Nat → Nat} {S : ms} {F : cF} (hu : isU u) (hpu : PC a b P 59 1 = u) (g : gR 2 S n W H A D) (gg : gG2 2 S n W H A D) (hs : snI u n m W H A D ly cs cr S F) (hC : coR S F) (hr : rd S F) (hL : rLw u S F) (he : e ≤ 65535) (e48 : S.1 48 = nI e) (f11 : F 59 11 = nI e)
    (h1 : p_readData S K1) (h2 : p_Un_readData UL 59 (F, L, PC a b P) K2 T2)
    (bad : ∀ M' F', K1 M' → flt M' → kp S M' → T2 13 (F', L, PC a b P) → G)
    (ok : ∀ M' F', fdR S M' → fkC u F F' → rd M' F' → rLw u M' F' → (∀ k, k < 24576 → M'.2.1 19 k = S.2.1 19 k) → K1 M' → K2 (F', L, PC a b P) → G) : G := by
  obtain ⟨N, pu, uw, uh, bw, bh, ov, sc, uo, om1, om2⟩ := y_order g hs
  obtain ⟨s1, s2, s3, s4, s5, s6⟩ := hs
  have n3 := g.n3
  have gl := g.2.2.2.2.2.2
  have hI : urI m ly cs cr bw bh (fun l => A l * up W (8 * mx A n)) S F := by
    refine ⟨s1, ⟨s2.1, by omega⟩, fun i hi => ?_⟩
    obtain ⟨q1, q2, q3, q4, q5, q6, q7, q8, q9, q10⟩ := s3 i hi
    have gi := gl (ly i) q1
    have bW := bx1 g.2.2.2.2.1 g.mA gi.2.2.1 (mx_ge n (ly i) q1)
    have c1 := (hC (cs i) (by omega)).2 q9
    have c2 := (hC (cr i) (by omega)).2 q10
    have e1 : Qc (cs i) = isSt := by unfold Qc; rw [if_pos q2]
    have e2 : Qc (cr i) = isRs := by unfold Qc; rw [if_neg (by omega)]
    rw [e1] at c1
    rw [e2] at c2
    refine ⟨by omega, by omega, by omega, q4, q5, q6, q7, q8, c1, c2, (gg (ly i) q1).1, bW.2.2, ?_, ?_, fun m1 => ?_, fun m1 => ?_⟩
    · by_cases m1 : m = 1
      · rw [(om1 m1).1]; exact Or.inl rfl
      · rw [(om2 (by omega)).1]; exact gi.2.2.1
    · by_cases m1 : m = 1
      · rw [(om1 m1).2.1]; exact Or.inl rfl
      · rw [(om2 (by omega)).2.1]; exact gi.2.2.2
    · rw [(om1 m1).1, (om1 m1).2.1]
      exact ⟨rfl, rfl⟩
    · rw [(om2 (by omega)).1, (om2 (by omega)).2.1]
      exact ⟨gi.1, gi.2.1⟩
  have m1 := g.mA
  have m2 := g.mD
  -- how many units, on the reference's side
  have h1 : e_readData_106 (nI uw) (nI uh) 0 (upd S.1 54 0, S.2.1, S.2.2) K1 := by
    unfold p_readData at h1
    rw [s1] at h1
    by_cases e1 : m = 1
    · have h1 := h1.2 (by rw [e1]; rfl)
      unfold b_readData_13 at h1
      obtain ⟨-, h1⟩ := h1.2 (by decide)
      obtain ⟨q1, -, -, q4, -⟩ := s3 0 (by omega)
      rw [show (0 : Int32).toNatClampNeg = 0 from rfl, q4] at h1
      have h1 := q_layerWide (q := 2) (by decide) g q1 h1
      have gi := gl (ly 0) q1
      have wa : W * A (ly 0) ≤ 64 * 2 := Nat.mul_le_mul g.2.2.2.2.1.2 (by omega)
      have ha : H * D (ly 0) ≤ 64 * 2 := Nat.mul_le_mul g.2.2.2.2.2.1.2 (by omega)
      have ub : ∀ x q, (q = 1 ∨ q = 2) → x ≤ 128 → up x q ≤ 200 := by
        intro x q hq hx
        unfold up
        rcases hq with rfl | rfl <;> omega
      have h1 := q_upward (a := up (W * A (ly 0)) (mx A n)) (b := 8) (by have := ub _ _ m1 wa; omega) (by decide) (by decide) h1
      unfold b_readData_55 at h1
      obtain ⟨-, h1⟩ := h1.2 (by decide)
      have h1 : p_layerHigh 2 (S.2.1 50 (0 : Int32).toNatClampNeg) S _ := h1
      rw [show (0 : Int32).toNatClampNeg = 0 from rfl, q4] at h1
      have h1 := q_layerHigh (q := 2) (by decide) g q1 h1
      have h1 := q_upward (a := up (H * D (ly 0)) (mx D n)) (b := 8) (by have := ub _ _ m2 ha; omega) (by decide) (by decide) h1
      unfold b_readData_97 at h1
      rw [(om1 e1).2.2.1, (om1 e1).2.2.2]
      exact h1
    · have h1 := h1.1 (fun q => e1 ((nI_eq (a := m) (b := 1) (by omega) (by decide)).mp q))
      unfold b_readData_13 at h1
      obtain ⟨-, h1⟩ := h1.1 rfl
      have h1 := q_greatest1 (q := 2) (A := A) (by decide) n3 g.2.2.1 g.a h1
      rw [show (2 : Int32).toNatClampNeg = 2 from rfl, g.1, show (8 * nI (mx A n) : Int32) = nI (8 * mx A n) from pk_mul 8 _] at h1
      have gW := g.2.2.2.2.1
      have gH := g.2.2.2.2.2.1
      have h1 := q_upward (a := W) (b := 8 * mx A n) (by omega) (by omega) (by omega) h1
      unfold b_readData_55 at h1
      obtain ⟨-, h1⟩ := h1.1 rfl
      have h1 := q_greatest0 (M := S) (q := 2) (D := D) (by decide) n3 g.2.2.1 g.d h1
      have h1 : p_upward (S.2.1 13 (2 : Int32).toNatClampNeg) (8 * nI (mx D n)) _ := h1
      rw [show (2 : Int32).toNatClampNeg = 2 from rfl, g.2.1, show (8 * nI (mx D n) : Int32) = nI (8 * mx D n) from pk_mul 8 _] at h1
      have h1 := q_upward (a := H) (b := 8 * mx D n) (by omega) (by omega) (by omega) h1
      unfold b_readData_97 at h1
      rw [(om2 (by omega)).2.2.1, (om2 (by omega)).2.2.2]
      exact h1
  unfold p_Un_readData p_Re_dropBits at h2
  obtain ⟨-, -, -, h2⟩ := h2
  have h2 : p_Ar_fillI UL 104 0 (va_up F 60 (upd (F 60) 4 0), L, PC a b P) (fun S12 => e_Un_readData_19 UL 59 0 0 S12 K2 T2) := h2
  obtain ⟨Y, y1, y2, -, h2⟩ := q_fillr (N := 3) rfl (by decide) h2
  have u7 : u + 7 ≠ 104 ∧ u + 7 ≠ 60 := by rcases hu with rfl | rfl <;> decide
  have c104 : ([u + 7, 104] : List Nat).contains 104 = true := by
    simp only [List.contains_cons, beq_self_eq_true, Bool.true_or, Bool.or_true]
  have gY : fkC u F Y := by
    refine fkC_tr (G := va_up F 60 (upd (F 60) 4 0)) (fb_k (agc_f agc_refl rfl rfl)) ⟨fun w k o _ => ?_, fun w o hw => ?_⟩
    · rw [y1 w (fun q => by rw [q] at o; exact absurd o (by decide))]
    · refine y1 w (fun q => ?_)
      rw [q, c104] at hw
      exact absurd hw (by decide)
  have a0 : fdR S (upd S.1 54 0, S.2.1, S.2.2) := ag_f ag_refl rfl
  have r0 : rd (upd S.1 54 0, S.2.1, S.2.2) Y := rd_f hr (by decide) (by decide) (by decide) (by rw [y1 60 (by decide), vu_at, upd_ne (by decide)]) (by rw [y1 61 (by decide), vu_ne (by decide)]) (by rw [y1 62 (by decide), vu_ne (by decide)])
  refine y_units (e := e) hu hpu uo he S bad N 0 (upd S.1 54 0, S.2.1, S.2.2) Y rfl (Nat.zero_le _) (kp_ag (fs := [54]) (rs := []) (ag_f ag_refl rfl) (fun _ _ _ => rfl)) (urI_k hu hI a0 gY) (scU_k hu sc gY) r0 ⟨?_, ?_⟩ (fun k hk => ?_) (fun _ i hi => y2 i hi) (fun q => absurd q (by decide)) (by show upd S.1 54 0 48 = _; rw [upd_ne (by decide)]; exact e48) ((gY.1 59 11 rfl rfl).trans f11) h1 (by rw [show mkc e 0 = 0 from Nat.zero_div _]; exact h2) (fun M' F' c1 c2 c3 c4 c5 h1 h2 => ok M' F' (ag_tr a0 c1 rfl rfl) (fkC_tr gY c2) c3 c4 c5 h1 h2)
  · rw [y1 60 (by decide), vu_at, upd_at]
    show 0 = upd S.1 54 0 54
    rw [upd_at]
  · intro q
    exact absurd (show upd S.1 54 0 54 = 0 from upd_at) q
  · rw [y1 (u + 7) u7.1, vu_ne u7.2]
    exact hL k hk
end DAT

/-! UNPACK: a section, both sides -/
/-- what stands between sections -/
def rq0 (M : ms) (F : cF) : Prop := rd M F ∧ od M ∧ tBy M
def urR (u : Nat) (M : ms) (F : cF) : Prop :=
  tbR M F ∧ coR M F ∧ (∃ e : Nat, e ≤ 65535 ∧ M.1 48 = nI e ∧ F 59 11 = nI e) ∧
  ((M.1 43 = 0 ∧ F 59 6 = 0 ∧ ∀ l, l < 3 → M.2.1 47 l = 0) ∨ ∃ n W H A D tt, M.1 43 = 1 ∧ F 59 6 = 1 ∧ gR 2 M n W H A D ∧ gG2 2 M n W H A D ∧ gC u F n W H A D ∧ gM u F n W H A D ∧ frN n tt M F ∧ rLw u M F ∧ F u 16 = 0 ∧ scR u n M F)
/-- codes by equality of units -/
theorem coR_a {M M' : ms} {F F' : cF} {fs rs : List Nat} (h : coR M F) (ha : ag fs rs M M') (h40 : rs.contains 40 = false) (h41 : rs.contains 41 = false) (h42 : rs.contains 42 = false) (f0 : ∀ c, c < 4 → F' (co c) 0 = F (co c) 0) (fk : ∀ c k, c < 4 → 1 ≤ k → k ≤ 4 → F' (co c + k) = F (co c + k)) : coR M' F' := coR_k h (ha.2 40 h40) (ha.2 41 h41) (ha.2 42 h42) f0 fk
theorem co_ob {c : Nat} (hc : c < 4) : OB (co c) = true ∧ co c ≠ 60 ∧ co c ≠ 59 ∧ co c ≠ 73 ∧ co c ≠ 63 ∧ co c ≠ 105 := by
  have q : c = 0 ∨ c = 1 ∨ c = 2 ∨ c = 3 := by omega
  rcases q with rfl | rfl | rfl | rfl <;> exact ⟨rfl, by decide, by decide, by decide, by decide, by decide⟩
theorem co_row {c k : Nat} (hc : c < 4) (h1 : 1 ≤ k) (h4 : k ≤ 4) : OB (co c + k) = false ∧ 82 ≤ co c + k ∧ co c + k ≤ 100 := by
  have q : c = 0 ∨ c = 1 ∨ c = 2 ∨ c = 3 := by omega
  have q2 : k = 1 ∨ k = 2 ∨ k = 3 ∨ k = 4 := by omega
  rcases q with rfl | rfl | rfl | rfl <;> rcases q2 with rfl | rfl | rfl | rfl <;> exact ⟨rfl, by decide, by decide⟩
section TW
variable {S : ms} {F : cF} {L : cL} {a b : Bool} {P : Nat → Nat → Nat} {K0 : ms → Prop} {K1 : Int32 → ms → Prop} {K2 : Int32 → cs → Prop} {T2 : Nat → cs → Prop} {G : Prop}
theorem y_two0 (hr : rd S F) (ht : tBy S) (h1 : p_nextTwo S K1) (h2 : p_Re_readTwo UL 60 (F, L, PC a b P) K2 T2)
    (ok : ∀ (w : Nat) M' F', fuR S M' → fuC F F' → rd M' F' → M'.1 34 = S.1 34 + 1 + 1 → (M'.1 34).toInt = (S.1 34).toInt + 2 → w ≤ 65535 → K1 (nI w) M' → K2 (nI w) (F', L, PC a b P) → G)
    (bad : ∀ v M' F', flt M' → K1 v M' → T2 13 (F', L, PC a b P) → G) : G := by
  unfold p_nextTwo at h1
  unfold p_Re_readTwo at h2
  refine x_read hr h1 h2 (fun v M1 F1 a1 a2 a3 a4 a5 a6 a7 h1 h2 => ?_) (fun v M1 F1 b1 b2 b3 h1 h2 => ?_)
  · have bv := ht (S.1 34).toNatClampNeg
    rw [← a7] at bv
    obtain ⟨x, rfl, hx⟩ := b16 bv
    have p1 := pos1 hr.2.2.2.1 a4 hr.2.2.2.2.1
    refine x_read (S := (M1.1, M1.2.1, M1.2.2)) a6 h1 h2 (fun z M2 F2 c1 c2 c3 c4 c5 c6 c7 h1 h2 => ?_) (fun z M2 F2 d1 d2 d3 h1 h2 => bad _ M2 F2 d1 h1 h2)
    have bz : B 0 255 z := by
      have t := ht (M1.1 34).toNatClampNeg
      rw [← a1.2 6 rfl] at t
      rw [show z = _ from c7]
      exact t
    obtain ⟨y, rfl, hy⟩ := b16 bz
    have e : ((256 * nI x) + nI y : Int32) = nI (256 * x + y) := by rw [show (256 * nI x : Int32) = nI (256 * x) from pk_mul 256 x, nI_add]
    rw [e] at h1 h2
    have e34 : M2.1 34 = S.1 34 + 1 + 1 := by rw [c2]; show M1.1 34 + 1 = _; rw [a2]
    have p2 := pos1 (x := M1.1 34) a6.2.2.2.1 c4 a6.2.2.2.2.1
    refine ok (256 * x + y) M2 F2 (ag_tr a1 c1 rfl rfl) (agc_tr a5 c5 rfl rfl) c6 e34 ?_ (by omega) h1 h2
    have t2 : (M2.1 34).toInt = (M1.1 34).toInt + 1 := by rw [c2]; exact p2.1
    have t1 : (M1.1 34).toInt = (S.1 34).toInt + 1 := by rw [a2]; exact p1.1
    omega
  · exact f_p_next h1 b1 (fun z M2 hk hf => bad _ _ F1 hf hk h2)
/-- the rest of a section that is passed over -/
theorem q_skip {E : Nat} (h36 : S.1 36 = nI E) (hE : E ≤ 100000) : ∀ (d : Nat) (T : ms), (E : Int) - (T.1 34).toInt ≤ d → T.1 36 = nI E → T.1 35 = 0 → 0 ≤ (T.1 34).toInt → (T.1 34).toInt ≤ E → (T.1 7).toInt ≤ 32768 → e_readSection_131 T K0 → (∃ M', ag [10, 34, 35] [] T M' ∧ M'.1 35 = 0 ∧ M'.1 34 = nI E ∧ ((T.1 34).toInt < E → (E : Int) ≤ (T.1 7).toInt) ∧ K0 M') ∨ (∃ M', flt M' ∧ (T.1 7).toInt < E ∧ K0 M') := by
  intro d
  induction d with
  | zero =>
    intro T hd e36 e35 h0 hle h7 h
    have h := r_e_readSection_131 h
    unfold b_readSection_131 b_readSection_157 at h
    have e : (T.1 34).toInt = E := by omega
    refine Or.inl ⟨T, ag_refl, e35, ?_, fun q => absurd q (by omega), h.1 ?_⟩
    · apply Int32.toInt.inj
      rw [e, nI_toInt (by omega)]
    · rw [e36]
      exact Int32.le_iff_toInt_le.mpr (by rw [nI_toInt (by omega), e]; exact Int.le_refl _)
  | succ d ih =>
    intro T hd e36 e35 h0 hle h7 h
    have hh := h
    have h := r_e_readSection_131 h
    unfold b_readSection_131 b_readSection_157 at h
    by_cases e : (T.1 34).toInt = E
    · exact ih T (by omega) e36 e35 h0 hle h7 hh
    · have h := (h.2 (by rw [e36]; exact fun q => by have q := i_le q; rw [nI_toInt (by omega)] at q; omega)).2 e35
      unfold p_next at h
      by_cases c : T.1 34 < T.1 7
      · obtain ⟨-, h⟩ := h.1 c
        have p := pos1 h0 c h7
        have h : e_readSection_131 (upd T.1 34 (T.1 34 + 1), T.2.1, T.2.2) K0 := h
        have f : ∀ k, k ≠ 34 → upd T.1 34 (T.1 34 + 1) k = T.1 k := fun k hk => upd_ne hk
        have cl := i_lt c
        rcases ih (upd T.1 34 (T.1 34 + 1), T.2.1, T.2.2) (by show (E : Int) - (upd T.1 34 (T.1 34 + 1) 34).toInt ≤ d; rw [upd_at, p.1]; omega) ((f 36 (by decide)).trans e36) ((f 35 (by decide)).trans e35) (by show 0 ≤ (upd T.1 34 (T.1 34 + 1) 34).toInt; rw [upd_at, p.1]; omega) (by show (upd T.1 34 (T.1 34 + 1) 34).toInt ≤ E; rw [upd_at, p.1]; omega) (by show (upd T.1 34 (T.1 34 + 1) 7).toInt ≤ 32768; rw [f 7 (by decide)]; exact h7) h with ⟨M', m1, m2, m3, m4, hk⟩ | ⟨M', m1, m2, hk⟩
        · refine Or.inl ⟨M', ag_tr (ag_f ag_refl rfl) m1 rfl rfl, m2, m3, fun _ => ?_, hk⟩
          have m4 : (upd T.1 34 (T.1 34 + 1) 34).toInt < E → (E : Int) ≤ (upd T.1 34 (T.1 34 + 1) 7).toInt := m4
          rw [upd_at, f 7 (by decide), p.1] at m4
          by_cases q : (T.1 34).toInt + 1 < E
          · exact m4 q
          · omega
        · have m2 : (upd T.1 34 (T.1 34 + 1) 7).toInt < E := m2
          rw [f 7 (by decide)] at m2
          exact Or.inr ⟨M', m1, m2, hk⟩
      · have h := q_fail0 e35 (h.2 c)
        have cl := i_le (nlt_le c)
        exact f_e_readSection_131 h (fail_n (S := T) (by decide)) (fun M' hk hf => Or.inr ⟨M', hf, by omega, hk⟩)
end TW

/-! UNPACK: a section, all of it -/
section SECT
variable {S : ms} {F : cF} {L : cL} {a b : Bool} {P : Nat → Nat → Nat} {K0 : ms → Prop} {KC : cs → Prop} {T2 : Nat → cs → Prop} {G : Prop} {u mk : Nat}
theorem urR_f {M : ms} {F' : cF} {fs : List Nat} (hu : isU u) (h : urR u S F) (ha : ag fs [] S M) (h43 : fs.contains 43 = false) (h48 : fs.contains 48 = false) (hg : agc [5912, 5913, 6001, 6006, 6007] [] F F') : urR u M F' := by
  obtain ⟨h1, h2, ⟨e, e1, e2, e3⟩, h4⟩ := h
  have row : ∀ w, OB w = false → F' w = F w := fun w o => hg.2 w o rfl
  have ob : ∀ w k, OB w = true → w ≠ 60 → w ≠ 59 → k < 100 → F' w k = F w k := fun w k o n1 n2 hk => by
    refine hg.1 w k o ?_
    simp only [List.contains_cons, List.contains_nil, Bool.or_false, Bool.or_eq_false_iff, beq_eq_false_iff_ne]
    omega
  have uo : OB u = true ∧ u ≠ 60 ∧ u ≠ 59 := by rcases hu with rfl | rfl <;> exact ⟨rfl, by decide, by decide⟩
  have ur : ∀ d, 1 ≤ d → d ≤ 8 → OB (u + d) = false := fun d d1 d8 => by
    have q : d = 1 ∨ d = 2 ∨ d = 3 ∨ d = 4 ∨ d = 5 ∨ d = 6 ∨ d = 7 ∨ d = 8 := by omega
    rcases hu with rfl | rfl <;> rcases q with rfl | rfl | rfl | rfl | rfl | rfl | rfl | rfl <;> rfl
  refine ⟨tbR_k h1 (ha.2 38 rfl) (ha.2 39 rfl) (row 78 rfl) (row 79 rfl), coR_a h2 ha rfl rfl rfl (fun c hc => ob _ _ (co_ob hc).1 (co_ob hc).2.1 (co_ob hc).2.2.1 (by decide)) (fun c k hc k1 k4 => row _ (co_row hc k1 k4).1), ⟨e, e1, (ha.1 48 h48).trans e2, (hg.1 59 11 rfl rfl).trans e3⟩, ?_⟩
  rcases h4 with ⟨q1, q2, q3⟩ | ⟨n, W, H, A, D, tt, q1, q2, q3, q4, q5, q6, q7, q8, q9, q10⟩
  · refine Or.inl ⟨(ha.1 43 h43).trans q1, (hg.1 59 6 rfl rfl).trans q2, ?_⟩
    rw [ha.2 47 rfl]
    exact q3
  · refine Or.inr ⟨n, W, H, A, D, tt, (ha.1 43 h43).trans q1, (hg.1 59 6 rfl rfl).trans q2, gR_k q3 ha rfl rfl rfl rfl rfl, gG2_k q4 ha rfl rfl, gC_k q5 (fun k hk => ob u k uo.1 uo.2.1 uo.2.2 (by omega)) (row _ (ur 1 (by decide) (by decide))) (row _ (ur 2 (by decide) (by decide))), gM_k q6 (ob u 7 uo.1 uo.2.1 uo.2.2 (by decide)) (ob u 8 uo.1 uo.2.1 uo.2.2 (by decide)) (row _ (ur 3 (by decide) (by decide))) (row _ (ur 4 (by decide) (by decide))) (row _ (ur 5 (by decide) (by decide))) (row _ (ur 6 (by decide) (by decide))), ?_, ?_, (ob u 16 uo.1 uo.2.1 uo.2.2 (by decide)).trans q9, ?_⟩
    · unfold frN
      rw [ha.2 44 rfl, ha.2 45 rfl, row 101 rfl, row 102 rfl]
      exact q7
    · unfold rLw
      rw [ha.2 19 rfl, row (u + 7) (ur 7 (by decide) (by decide))]
      exact q8
    · unfold scR
      rw [ha.2 47 rfl, ha.2 46 rfl, row 103 rfl, row (u + 8) (ur 8 (by decide) (by decide))]
      exact q10
theorem isU_o (hu : isU u) : OB u = true ∧ u ≠ 60 ∧ u ≠ 59 := by rcases hu with rfl | rfl <;> exact ⟨rfl, by decide, by decide⟩
theorem isU_r (hu : isU u) {d : Nat} (d1 : 1 ≤ d) (d8 : d ≤ 8) : OB (u + d) = false ∧ u + d ≠ 78 ∧ u + d ≠ 79 := by
  have q : d = 1 ∨ d = 2 ∨ d = 3 ∨ d = 4 ∨ d = 5 ∨ d = 6 ∨ d = 7 ∨ d = 8 := by omega
  rcases hu with rfl | rfl <;> rcases q with rfl | rfl | rfl | rfl | rfl | rfl | rfl | rfl <;> exact ⟨rfl, by decide, by decide⟩
/-- the INTERVAL and the frame stay -/
theorem frP_k {M : ms} {F' : cF} (hu : isU u) (h : (∃ e : Nat, e ≤ 65535 ∧ S.1 48 = nI e ∧ F 59 11 = nI e) ∧ ((S.1 43 = 0 ∧ F 59 6 = 0 ∧ ∀ l, l < 3 → S.2.1 47 l = 0) ∨ ∃ n W H A D tt, S.1 43 = 1 ∧ F 59 6 = 1 ∧ gR 2 S n W H A D ∧ gG2 2 S n W H A D ∧ gC u F n W H A D ∧ gM u F n W H A D ∧ frN n tt S F ∧ rLw u S F ∧ F u 16 = 0 ∧ scR u n S F))
    (e43 : M.1 43 = S.1 43) (e48 : M.1 48 = S.1 48) (r1 : ∀ r, 12 ≤ r → r ≤ 19 → M.2.1 r = S.2.1 r) (r4 : ∀ r, 44 ≤ r → r ≤ 47 → M.2.1 r = S.2.1 r) (f6 : F' 59 6 = F 59 6) (f11 : F' 59 11 = F 59 11) (fu : ∀ k, k < 20 → F' u k = F u k) (fr : ∀ d, 1 ≤ d → d ≤ 8 → F' (u + d) = F (u + d)) (f101 : F' 101 = F 101) (f102 : F' 102 = F 102) (f103 : F' 103 = F 103) :
    (∃ e : Nat, e ≤ 65535 ∧ M.1 48 = nI e ∧ F' 59 11 = nI e) ∧ ((M.1 43 = 0 ∧ F' 59 6 = 0 ∧ ∀ l, l < 3 → M.2.1 47 l = 0) ∨ ∃ n W H A D tt, M.1 43 = 1 ∧ F' 59 6 = 1 ∧ gR 2 M n W H A D ∧ gG2 2 M n W H A D ∧ gC u F' n W H A D ∧ gM u F' n W H A D ∧ frN n tt M F' ∧ rLw u M F' ∧ F' u 16 = 0 ∧ scR u n M F') := by
  refine ⟨by rw [e48, f11]; exact h.1, ?_⟩
  rcases h.2 with ⟨q1, q2, q3⟩ | ⟨n, W, H, A, D, tt, q1, q2, q3, q4, q5, q6, q7, q8, q9, q10⟩
  · refine Or.inl ⟨e43.trans q1, f6.trans q2, ?_⟩
    rw [r4 47 (by decide) (by decide)]
    exact q3
  · refine Or.inr ⟨n, W, H, A, D, tt, e43.trans q1, f6.trans q2, ?_, ?_, gC_k q5 (fun k hk => fu k (by omega)) (fr 1 (by decide) (by decide)) (fr 2 (by decide) (by decide)), gM_k q6 (fu 7 (by decide)) (fu 8 (by decide)) (fr 3 (by decide) (by decide)) (fr 4 (by decide) (by decide)) (fr 5 (by decide) (by decide)) (fr 6 (by decide) (by decide)), ?_, ?_, (fu 16 (by decide)).trans q9, ?_⟩
    · unfold gR
      rw [r1 12 (by decide) (by decide), r1 13 (by decide) (by decide), r1 14 (by decide) (by decide), r1 15 (by decide) (by decide), r1 16 (by decide) (by decide)]
      exact q3
    · unfold gG2
      rw [r1 17 (by decide) (by decide), r1 18 (by decide) (by decide)]
      exact q4
    · unfold frN
      rw [r4 44 (by decide) (by decide), r4 45 (by decide) (by decide), f101, f102]
      exact q7
    · unfold rLw
      rw [r1 19 (by decide) (by decide), fr 7 (by decide) (by decide)]
      exact q8
    · unfold scR
      rw [r4 47 (by decide) (by decide), r4 46 (by decide) (by decide), f103, fr 8 (by decide) (by decide)]
      exact q10
theorem y_section0 (hu : isU u) (hpu : PC a b P 59 1 = u) (hq : rq0 S F) (hU : urR u S F) (hmk : mk ≤ 255) (h192 : mk = 192 → S.1 43 = 0) (h218 : mk = 218 → ¬ S.1 43 = 0)
    (h1 : p_readSection (nI mk) S K0) (h2 : p_Un_readSection UL 59 (nI mk) (F, L, PC a b P) (fun S100 => (¬ nI mk = 218 → KC S100) ∧ (nI mk = 218 → p_Un_readData UL 59 S100 (fun S111 => KC S111) T2)) T2)
    (bad0 : ∀ M' F', K0 M' → flt M' → (mk = 218 → kp S M') → T2 13 (F', L, PC a b P) → G)
    (late : ∀ M' F', K0 M' → flt M' → F' 61 1 ≤ F' 60 1 → (mk = 218 → kp S M') → KC (F', L, PC a b P) → G)
    (ok : ∀ M' F', (S.1 34).toInt + 2 ≤ (M'.1 34).toInt → rq0 M' F' → urR u M' F' → (mk = 218 → kp S M') → K0 M' → KC (F', L, PC a b P) → G) : G := by
  obtain ⟨hr, ho, ht⟩ := hq
  have E : ∀ x : Nat, x ≤ 255 → (nI mk = nI x ↔ mk = x) := fun x hx => nI_eq (by omega) (by omega)
  have e192 : (nI mk = (192 : Int32)) ↔ mk = 192 := E 192 (by decide)
  have e218 : (nI mk = (218 : Int32)) ↔ mk = 218 := E 218 (by decide)
  have e219 : (nI mk = (219 : Int32)) ↔ mk = 219 := E 219 (by decide)
  have e196 : (nI mk = (196 : Int32)) ↔ mk = 196 := E 196 (by decide)
  have e221 : (nI mk = (221 : Int32)) ↔ mk = 221 := E 221 (by decide)
  unfold p_readSection p_readLength at h1
  have h1 := st_two h1
  have k0 : kp S (upd S.1 37 (S.1 34), S.2.1, S.2.2) := kp_ag (fs := [37]) (rs := []) (ag_f ag_refl rfl) (fun _ _ _ => rfl)
  have bad : mk ≠ 218 → ∀ M' F', K0 M' → flt M' → T2 13 (F', L, PC a b P) → G := fun n M F k f t => bad0 M F k f (fun e => absurd e n) t
  unfold p_Un_readSection at h2
  obtain ⟨-, -, -, h2⟩ := h2
  have h2 : p_Re_readTwo UL 60 (va_up F 59 (upd (F 59) 12 (F 60 1)), L, PC a b P) _ T2 := h2
  have r0 : rd (upd S.1 37 (S.1 34), S.2.1, S.2.2) (va_up F 59 (upd (F 59) 12 (F 60 1))) := rd_f hr (by decide) (by decide) (by decide) (by rw [vu_ne (by decide)]) (by rw [vu_ne (by decide)]) (vu_ne (by decide))
  refine y_two0 (S := (upd S.1 37 (S.1 34), S.2.1, S.2.2)) r0 ht h1 h2 (fun w M1 F1 a1 a2 a3 a4 a5 a6 h1 h2 => ?_) (fun v M1 F1 f1 h1 h2 => ?_)
  · obtain ⟨h1, hk1⟩ := h1
    have hk1 := kp_tr k0 hk1
    have m37 : M1.1 37 = S.1 34 := by rw [a1.1 37 rfl]; show upd S.1 37 (S.1 34) 37 = _; exact upd_at
    have f12 : F1 59 12 = S.1 34 := by rw [a2.1 59 12 rfl rfl, vu_at, upd_at]; exact hr.2.1
    have up35 : (upd M1.1 36 (M1.1 37 + nI w)) 35 = M1.1 35 := upd_ne (by decide)
    rw [up35] at h1
    have h1 := h1.2 a3.1
    have a4 : M1.1 34 = S.1 34 + 1 + 1 := a4
    have a5 : (M1.1 34).toInt = (S.1 34).toInt + 2 := a5
    have at0 := hr.2.2.2.1
    have at1 := a3.2.2.2.2.2
    -- the state behind the LENGTH
    generalize hM : ((upd M1.1 36 (M1.1 37 + nI w), M1.2.1, M1.2.2) : ms) = M2 at h1
    generalize hF : va_up F1 59 (upd (F1 59) 13 (nI w)) = F2 at h2
    have m2k : ∀ k, k ≠ 36 → M2.1 k = M1.1 k := fun k hk => by rw [← hM]; exact upd_ne hk
    have m2r : M2.2.1 = M1.2.1 := by rw [← hM]
    have m36 : M2.1 36 = S.1 34 + nI w := by rw [← hM, ← m37]; show upd M1.1 36 (M1.1 37 + nI w) 36 = _; exact upd_at
    have f2k : ∀ v, v ≠ 59 → F2 v = F1 v := fun v hv => by rw [← hF]; exact vu_ne hv
    have f13 : F2 59 13 = nI w := by rw [← hF, vu_at, upd_at]
    have f2 : ∀ k, k ≠ 13 → F2 59 k = F1 59 k := fun k hk => by rw [← hF, vu_at, upd_ne hk]
    have aM : ag [10, 34, 35, 36, 37] [] S M2 := by
      have t := ag_f (T := (S.1, S.2.1, S.2.2)) (v := S.1 34) (k := 37) (ag_refl (fs := [10, 34, 35, 36, 37]) (rs := []) (S := S)) rfl
      rw [← hM]
      exact ag_f (T := M1) (ag_tr t a1 rfl rfl) rfl
    have gF : agc [5912, 5913, 6001, 6006, 6007] [] F F2 := by
      have t := agc_f (u := 59) (k := 12) (v := F 60 1) (agc_refl (fs := [5912, 5913, 6001, 6006, 6007]) (rs := []) (F := F)) rfl rfl
      rw [← hF]
      exact agc_f (agc_tr t a2 rfl rfl) rfl rfl
    have rd2 : rd M2 F2 := rd_b a3 (m2k 35 (by decide)) (m2k 34 (by decide)) (m2k 7 (by decide)) (by rw [m2r]) (by rw [f2k 60 (by decide)]) (by rw [f2k 61 (by decide)]) (f2k 62 (by decide))
    have rl2 : rl M2 F2 := ⟨by rw [f2 12 (by decide), f12, m2k 37 (by decide), m37], by rw [f2 12 (by decide), f12, f13, m36]⟩
    have od2 : od M2 := by unfold od; rw [aM.2 22 rfl]; exact ho
    have tB2 : tBy M2 := by unfold tBy; rw [aM.2 6 rfl]; exact ht
    have q2 : rq M2 F2 := ⟨rd2, rl2, od2, tB2, rd2.2.2.2⟩
    have U2 : urR u M2 F2 := urR_f hu hU aM rfl rfl gF
    have p2 : (M2.1 34).toInt = (S.1 34).toInt + 2 := by rw [m2k 34 (by decide)]; exact a5
    have hk2 : kp S M2 := kp_ag aM (fun _ _ _ => rfl)
    by_cases w2 : w < 2
    · -- the LENGTH is too small
      have h1 := h1.2 (nI_ge (b := 2) w2 (by decide))
      have e37 : M2.1 37 = M1.1 37 := m2k 37 (by decide)
      obtain ⟨Y, hf, hp, h1⟩ := q_fail2 (by decide) rd2.1 h1
      unfold b_readLength_45 at h1
      have h1 : K0 Y := h1.2 (flt_l hf)
      have bad' : (∃ F', T2 13 (F', L, PC a b P)) → G := fun ⟨F', ht⟩ => bad0 Y F' h1 hf (fun _ => kp_tr hk2 hp) ht
      by_cases c1 : mk = 192
      · exact bad' (q_frameT w2 f13 (h2.2 (e192.mpr c1)))
      · have h2 := h2.1 (fun q => c1 (e192.mp q))
        by_cases c2 : mk = 218
        · have h2 := h2.2 (e218.mpr c2)
          have fr : ¬ M2.1 43 = 0 := by rw [aM.1 43 rfl]; exact h218 c2
          rcases U2.2.2.2 with ⟨q1, -⟩ | ⟨n, W, H, A, D, tt, -, -, g2, -, gc, -⟩
          · exact absurd q1 fr
          · exact bad' (q_scanT w2 hpu g2.n3 gc.2.2.1 f13 h2)
        · have h2 := h2.1 (fun q => c2 (e218.mp q))
          by_cases c3 : mk = 221
          · have h2 := h2.2 (e221.mpr c3)
            have h2 := h2.1 (by show ¬ F2 59 13 = 4; rw [f13]; exact fun q => by have := (nI_eq (a := w) (b := 4) (by omega) (by decide)).mp q; omega)
            unfold b_Un_readSection_71 at h2
            exact bad' (q_wantLen0 h2)
          · have h2 := h2.1 (fun q => c3 (e221.mp q))
            have tw : b_Un_readSection_102 UL 59 (nI mk) (F2, L, PC a b P) (fun S100 => (¬ nI mk = 218 → KC S100) ∧ (nI mk = 218 → p_Un_readData UL 59 S100 (fun S111 => KC S111) T2)) T2 → G := by
              intro h2
              unfold b_Un_readSection_102 at h2
              have h2 := h2.1 (by show F2 59 13 ≤ 2; rw [f13]; exact nI_le (b := 2) (by omega) (by decide))
              unfold b_Un_readSection_116 at h2
              exact bad' (q_wantLen0 h2)
            by_cases c4 : mk = 219
            · exact tw (h2.1 (e219.mpr c4))
            · have h2 := h2.2 (fun q => c4 (e219.mp q))
              by_cases c5 : mk = 196
              · exact tw (h2.2 (e196.mpr c5))
              · have h2 := (h2.1 (fun q => c5 (e196.mp q))).1 (by show F2 59 13 < 2; rw [f13]; exact nI_lt (b := 2) w2 (by decide))
                unfold b_Un_readSection_141 at h2
                exact bad' (q_wantLen0 h2)
    · -- all is well so far
      have h1 := h1.1 (nI_le (a := 2) (by omega) (by omega))
      unfold b_readLength_45 at h1
      have h1 := h1.1 (by rw [rd2.1]; exact Int32.le_refl _)
      unfold b_readSection_157 at h1
      have eI : (M2.1 36).toInt = (S.1 34).toInt + w := by
        rw [m36, t_add (a := 0) (b := 32768) (c := 0) (d := 65535) ⟨at0, by omega⟩ ⟨by rw [nI_toInt (by omega)]; omega, by rw [nI_toInt (by omega)]; omega⟩ (by decide) (by decide), nI_toInt (by omega)]
      have l36 : M2.1 34 < M2.1 36 ↔ 2 < w := by
        rw [Int32.lt_iff_toInt_lt, p2, eI]
        omega
      by_cases c1 : mk = 192
      · -- a frame
        have h1 := (((h1.1 (fun q => by have := e219.mp q; omega)).1 (fun q => by have := e196.mp q; omega)).2 (e192.mpr c1))
        have h2 := h2.2 (e192.mpr c1)
        unfold b_Un_readSection_157 at h2
        refine y_frame (S := (M2.1, M2.2.1, M2.2.2)) hu hpu q2 h1 h2 (bad (by omega)) (fun M' F' n W H A D tt c1' c2 c3 c4 c5 c6 c7 c8 h1 h2 => ?_)
        obtain ⟨t1, t2, ⟨e, te, t3, t4⟩, t5⟩ := U2
        obtain ⟨d1, d2, d3, d4, d5, d6, d7, d8, d9⟩ := c7
        have fu43 : M2.1 43 = 0 := by rw [aM.1 43 rfl]; exact h192 c1
        have z47 : ∀ l, l < 3 → M2.2.1 47 l = 0 := by
          rcases t5 with ⟨-, -, q3⟩ | ⟨n, W, H, A, D, tt, q1, -⟩
          · exact q3
          · rw [fu43] at q1; exact absurd q1 (by decide)
        have ne7 : ∀ w, (w = 78 ∨ w = 79 ∨ (82 ≤ w ∧ w ≤ 100)) → ¬ (u + 1 ≤ w ∧ w ≤ u + 7) ∧ w ≠ 101 ∧ w ≠ 102 ∧ w ≠ 103 := fun w hw => by rcases hu with rfl | rfl <;> omega
        have row : ∀ w, OB w = false → (w = 78 ∨ w = 79 ∨ (82 ≤ w ∧ w ≤ 100)) → F' w = F2 w := fun w o hw => c8.1 w o (ne7 w hw).1 (ne7 w hw).2.1 (ne7 w hw).2.2.1 (ne7 w hw).2.2.2
        refine ok M' F' (by have : (M2.1 34).toInt ≤ (M'.1 34).toInt := c5; omega) ⟨c6.1, c6.2.2.1, c6.2.2.2.1⟩ ⟨tbR_k t1 (c1'.2 38 rfl) (c1'.2 39 rfl) (row 78 rfl (Or.inl rfl)) (row 79 rfl (Or.inr (Or.inl rfl))), coR_a t2 c1' rfl rfl rfl (fun c hc => c8.2 _ _ (co_ob hc).1 (co_ob hc).2.1 (by rcases hu with rfl | rfl; exact (co_ob hc).2.2.2.2.1; exact (co_ob hc).2.2.2.2.2) (by decide) (fun q => absurd q (co_ob hc).2.2.1)) (fun c k hc k1 k4 => row _ (co_row hc k1 k4).1 (Or.inr (Or.inr (co_row hc k1 k4).2))), ⟨e, te, (c1'.1 48 rfl).trans t3, (c8.2 59 11 rfl (by decide) (by rcases hu with rfl | rfl <;> decide) (by decide) (fun _ => by decide)).trans t4⟩, Or.inr ⟨n, W, H, A, D, tt, d1, d2, d3, d4, d5, d6, ⟨d7.2.2.1, fun l hl => ?_⟩, d8, d9, fun l hl => ?_⟩⟩ (fun e => absurd e (by omega)) h1 (h2.1 (fun q => by have := e218.mp q; omega))
        · obtain ⟨x1, -, -, -, -, -, -, x8, x9, x10, -⟩ := d7.2.2.2 l hl
          exact ⟨x1, x8, x9, x10⟩
        · obtain ⟨-, -, -, -, -, -, -, -, -, -, x11⟩ := d7.2.2.2 l hl
          have n3 := d3.n3
          rw [x11, c1'.2 47 rfl]
          show (0 : Int32) = M2.2.1 47 l ∧ (¬ M2.2.1 47 l = 0 → _)
          rw [z47 l (by omega)]
          exact ⟨rfl, fun q => absurd rfl q⟩
      · have h2 := h2.1 (fun q => c1 (e192.mp q))
        by_cases c2 : mk = 218
        · -- a scan
          have h1 := ((((h1.1 (fun q => by have := e219.mp q; omega)).1 (fun q => by have := e196.mp q; omega)).1 (fun q => c1 (e192.mp q))).1 (fun q => by have := e221.mp q; omega)).2 (e218.mpr c2)
          have h2 := h2.2 (e218.mpr c2)
          unfold b_Un_readSection_157 at h2
          have fr : ¬ M2.1 43 = 0 := by rw [aM.1 43 rfl]; exact h218 c2
          obtain ⟨t1, t2, ⟨e, te, t3, t4⟩, t5⟩ := U2
          rcases t5 with ⟨q1, -⟩ | ⟨n, W, H, A, D, tt, d1, d2, d3, d4, d5, d6, d7, d8, d9, d10⟩
          · exact absurd q1 fr
          · refine y_scan (S := (M2.1, M2.2.1, M2.2.2)) hu hpu q2 ⟨d3, d5, d6, d7, t1, t2⟩ d10 (st_scan h1) h2 (fun M' F' hk hf ht => bad0 M' F' (hk.1.1 (flt_n hf)) hf (fun _ => kp_tr hk2 hk.2) ht) (fun M3 F3 m ly cs cr e1 e2 e3 e4 e5 e6 h1 h2 => ?_)
            obtain ⟨h1, hk3⟩ := h1
            have hk3 : kp S M3 := kp_tr hk2 hk3
            have h1 := h1.2 e4.1.1
            have h2 := h2.2 (e218.mpr c2)
            have uo : OB u = true ∧ u ≠ 60 ∧ u ≠ 73 ∧ u ≠ 59 := by rcases hu with rfl | rfl <;> exact ⟨rfl, by decide, by decide, by decide⟩
            have ur : ∀ d, 1 ≤ d → d ≤ 7 → F3 (u + d) = F2 (u + d) := fun d d1 d7 => by
              have q : d = 1 ∨ d = 2 ∨ d = 3 ∨ d = 4 ∨ d = 5 ∨ d = 6 ∨ d = 7 := by omega
              rcases hu with rfl | rfl <;> rcases q with rfl | rfl | rfl | rfl | rfl | rfl | rfl <;> exact e2.1 _ rfl (by decide) (by decide) (by decide) (by decide) (by decide) (by decide)
            have uk : ∀ k, k < 100 → F3 u k = F2 u k := fun k hk => e2.2 u k uo.1 uo.2.1 uo.2.2.1 hk
            have ne8 : ∀ w, (w = 78 ∨ w = 79 ∨ w = 101 ∨ w = 102 ∨ (82 ≤ w ∧ w ≤ 100)) → w ≠ 74 ∧ w ≠ 75 ∧ w ≠ 76 ∧ w ≠ 77 ∧ w ≠ 103 ∧ w ≠ u + 8 := fun w hw => by rcases hu with rfl | rfl <;> omega
            have row : ∀ w, OB w = false → (w = 78 ∨ w = 79 ∨ w = 101 ∨ w = 102 ∨ (82 ≤ w ∧ w ≤ 100)) → F3 w = F2 w := fun w o hw => e2.1 w o (ne8 w hw).1 (ne8 w hw).2.1 (ne8 w hw).2.2.1 (ne8 w hw).2.2.2.1 (ne8 w hw).2.2.2.2.1 (ne8 w hw).2.2.2.2.2
            have C3 : coR M3 F3 := coR_a t2 e1 rfl rfl rfl (fun c hc => e2.2 _ _ (co_ob hc).1 (co_ob hc).2.1 (co_ob hc).2.2.2.1 (by decide)) (fun c k hc k1 k4 => row _ (co_row hc k1 k4).1 (Or.inr (Or.inr (Or.inr (Or.inr (co_row hc k1 k4).2)))))
            have T3 : tbR M3 F3 := tbR_k t1 (e1.2 38 rfl) (e1.2 39 rfl) (row 78 rfl (Or.inl rfl)) (row 79 rfl (Or.inr (Or.inl rfl)))
            have g3 : gR 2 M3 n W H A D := gR_k d3 e1 rfl rfl rfl rfl rfl
            have gg3 : gG2 2 M3 n W H A D := gG2_k d4 e1 rfl rfl
            have L3 : rLw u M3 F3 := by
              unfold rLw
              rw [e1.2 19 rfl, ur 7 (by decide) (by decide)]
              exact d8
            have i48 : M3.1 48 = nI e := (e1.1 48 rfl).trans t3
            have i11 : F3 59 11 = nI e := (e2.2 59 11 rfl (by decide) (by decide) (by decide)).trans t4
            have e3' : (M2.1 34).toInt ≤ (M3.1 34).toInt := e3
            have m3 : mon ((S.1 34).toInt + 2) M3 := ⟨by omega, by omega, e4.1.2.2.2.2.1, e4.1.2.2.2.2.2⟩
            have h1 : p_readData (M3.1, M3.2.1, M3.2.2) (fun Z => K0 Z ∧ mon ((S.1 34).toInt + 2) Z) := by
              refine d_p_readData h1 (fun Z hk hi => (hi _).mpr ⟨hk, ?_⟩)
              have t : p_readData (M3.1, M3.2.1, M3.2.2) (fun Y => Y = Z) := (hi _).mpr rfl
              exact m_p_readData t m3 (fun Y hY hm => by rw [← hY]; exact hm)
            refine y_data (S := (M3.1, M3.2.1, M3.2.2)) hu hpu g3 gg3 e5 C3 e4.1 L3 te i48 i11 h1 h2 (fun M' F' hk hf hp ht => bad0 M' F' hk.1 hf (fun _ => kp_tr hk3 hp) ht) (fun M' F' x1 x2 x3 x4 x5 h1 h2 => ?_)
            obtain ⟨h1, hmon⟩ := h1
            have x2r : ∀ w, OB w = false → w ≠ u + 7 → w ≠ 104 → F' w = F3 w := fun w o n1 n2 => x2.2 w o (by simp only [List.contains_cons, List.contains_nil, Bool.or_false, Bool.or_eq_false_iff, beq_eq_false_iff_ne]; exact ⟨n1, n2⟩)
            have x2o : ∀ w k, OB w = true → w ≠ 60 → k < 100 → F' w k = F3 w k := fun w k o n1 hk => x2.1 w k o (by simp only [List.contains_cons, List.contains_nil, Bool.or_false, Bool.or_eq_false_iff, beq_eq_false_iff_ne]; omega)
            have n7 : ∀ w, (w = 78 ∨ w = 79 ∨ w = 101 ∨ w = 102 ∨ w = 103 ∨ (82 ≤ w ∧ w ≤ 100)) → w ≠ u + 7 ∧ w ≠ 104 := fun w hw => by rcases hu with rfl | rfl <;> omega
            have ud : ∀ d, (1 ≤ d ∧ d ≤ 6) ∨ d = 8 → OB (u + d) = false ∧ u + d ≠ u + 7 ∧ u + d ≠ 104 := fun d hd => by
              have q : d = 1 ∨ d = 2 ∨ d = 3 ∨ d = 4 ∨ d = 5 ∨ d = 6 ∨ d = 8 := by omega
              rcases hu with rfl | rfl <;> rcases q with rfl | rfl | rfl | rfl | rfl | rfl | rfl <;> exact ⟨rfl, by decide, by decide⟩
            have fr' : ∀ d, (1 ≤ d ∧ d ≤ 6) ∨ d = 8 → F' (u + d) = F3 (u + d) := fun d hd => x2r _ (ud d hd).1 (ud d hd).2.1 (ud d hd).2.2
            refine ok M' F' ?_ ⟨x3, by unfold od; rw [x1.2 22 rfl]; exact e4.2.2.1, by unfold tBy; rw [x1.2 6 rfl]; exact e4.2.2.2.1⟩ ⟨tbR_k T3 (x1.2 38 rfl) (x1.2 39 rfl) (x2r 78 rfl (n7 78 (by decide)).1 (by decide)) (x2r 79 rfl (n7 79 (by decide)).1 (by decide)), coR_a C3 x1 rfl rfl rfl (fun c hc => x2o _ _ (co_ob hc).1 (co_ob hc).2.1 (by decide)) (fun c k hc k1 k4 => x2r _ (co_row hc k1 k4).1 (n7 _ (Or.inr (Or.inr (Or.inr (Or.inr (Or.inr (co_row hc k1 k4).2)))))).1 (n7 _ (Or.inr (Or.inr (Or.inr (Or.inr (Or.inr (co_row hc k1 k4).2)))))).2), ⟨e, te, (x1.1 48 rfl).trans i48, (x2o 59 11 rfl (by decide) (by decide)).trans i11⟩, Or.inr ⟨n, W, H, A, D, tt, ?_, ?_, gR_k g3 x1 rfl rfl rfl rfl rfl, gG2_k gg3 x1 rfl rfl, gC_k d5 (fun k hk => (x2o u k uo.1 uo.2.1 (by omega)).trans (uk k (by omega))) ((fr' 1 (by decide)).trans (ur 1 (by decide) (by decide))) ((fr' 2 (by decide)).trans (ur 2 (by decide) (by decide))), gM_k d6 ((x2o u 7 uo.1 uo.2.1 (by decide)).trans (uk 7 (by decide))) ((x2o u 8 uo.1 uo.2.1 (by decide)).trans (uk 8 (by decide))) ((fr' 3 (by decide)).trans (ur 3 (by decide) (by decide))) ((fr' 4 (by decide)).trans (ur 4 (by decide) (by decide))) ((fr' 5 (by decide)).trans (ur 5 (by decide) (by decide))) ((fr' 6 (by decide)).trans (ur 6 (by decide) (by decide))), ?_, x4, (x2o u 16 uo.1 uo.2.1 (by decide)).trans ((uk 16 (by decide)).trans d9), ?_⟩⟩ (fun _ => kp_tr hk3 (kp_19 x1 x5)) h1 h2
            · exact hmon.2.1
            · exact (x1.1 43 rfl).trans ((e1.1 43 rfl).trans d1)
            · exact (x2o 59 6 rfl (by decide) (by decide)).trans ((e2.2 59 6 rfl (by decide) (by decide) (by decide)).trans d2)
            · unfold frN
              rw [x1.2 44 rfl, x1.2 45 rfl, x2r 101 rfl (n7 101 (by decide)).1 (by decide), x2r 102 rfl (n7 102 (by decide)).1 (by decide)]
              show (∀ i j, i < n → j < n → M3.2.1 44 i = M3.2.1 44 j → i = j) ∧ ∀ l, l < n → F3 101 l = M3.2.1 44 l ∧ F3 102 l = nI (tt l) ∧ M3.2.1 45 l = nI (tt l) ∧ tt l < 4
              rw [e1.2 44 rfl, e1.2 45 rfl, row 101 rfl (by decide), row 102 rfl (by decide)]
              exact d7
            · unfold scR
              rw [x1.2 47 rfl, x1.2 46 rfl, x2r 103 rfl (n7 103 (by decide)).1 (by decide), fr' 8 (by decide)]
              exact e6
        · have h2 := h2.1 (fun q => c2 (e218.mp q))
          have kc : ∀ Z : cs, ((¬ nI mk = 218 → KC Z) ∧ (nI mk = 218 → p_Un_readData UL 59 Z (fun S111 => KC S111) T2)) → KC Z := fun Z h => h.1 (fun q => c2 (e218.mp q))
          by_cases c3 : mk = 221
          · -- the INTERVAL
            have h1 := (((h1.1 (fun q => by have := e219.mp q; omega)).1 (fun q => by have := e196.mp q; omega)).1 (fun q => c1 (e192.mp q))).2 (e221.mpr c3)
            have h2 := h2.2 (e221.mpr c3)
            have el : M2.1 36 - M2.1 37 = F2 59 13 := by
              rw [← rl2.1]
              exact i_sub rl2.2
            rw [el] at h1
            by_cases len : F2 59 13 = 4
            · have h1 := h1.1 len
              have h2 := h2.2 len
              unfold b_readSection_84 at h1
              have h1 := h1.2 rd2.1
              unfold b_Un_readSection_71 at h2
              have h2 := q_wantLen1 (by decide) h2
              obtain ⟨-, -, h2⟩ := h2
              have h2 : p_Re_readTwo UL 60 (F2, L, PC a b P) _ T2 := h2
              refine y_two0 (S := (M2.1, M2.2.1, M2.2.2)) rd2 tB2 h1 h2 (fun x M3 F3 e1 e2 e3 _ e4 e5 h1 h2 => ?_) (fun v M3 F3 f1 h1 h2 => ?_)
              · unfold b_readSection_100 b_readSection_157 at h1
                unfold b_Un_readSection_157 at h2
                have h2 : KC (va_up F3 59 (upd (F3 59) 11 (nI x)), L, PC a b P) := kc _ h2
                have U3 : urR u M3 F3 := urR_f hu U2 (ag_tr (ag_refl (fs := [10, 34, 35]) (rs := []) (S := M2)) e1 rfl rfl) rfl rfl (agc_tr (agc_refl (fs := [5912, 5913, 6001, 6006, 6007]) (rs := []) (F := F2)) e2 rfl rfl)
                obtain ⟨t1, t2, -, t5⟩ := U3
                have v59 : ∀ w, w ≠ 59 → va_up F3 59 (upd (F3 59) 11 (nI x)) w = F3 w := fun w hw => vu_ne hw
                have k59 : ∀ k, k ≠ 11 → va_up F3 59 (upd (F3 59) 11 (nI x)) 59 k = F3 59 k := fun k hk => by rw [vu_at, upd_ne hk]
                have u59 : ∀ d, d ≤ 8 → u + d ≠ 59 := fun d hd => by rcases hu with rfl | rfl <;> omega
                have p3 : (S.1 34).toInt + 2 ≤ (M3.1 34).toInt := by
                  have : (M3.1 34).toInt = (M2.1 34).toInt + 2 := e4
                  omega
                refine ok (upd M3.1 48 (nI x), M3.2.1, M3.2.2) (va_up F3 59 (upd (F3 59) 11 (nI x))) ?_ ⟨rd_f e3 (by decide) (by decide) (by decide) (by rw [v59 60 (by decide)]) (by rw [v59 61 (by decide)]) (v59 62 (by decide)), by unfold od; show ∀ k, k < 64 → M3.2.1 22 k = _; rw [e1.2 22 rfl]; exact od2, by unfold tBy; show ∀ k, B 0 255 (M3.2.1 6 k); rw [e1.2 6 rfl]; exact tB2⟩ ⟨tbR_k t1 rfl rfl (v59 78 (by decide)) (v59 79 (by decide)), coR_k t2 rfl rfl rfl (fun c hc => by rw [v59 _ (co_ob hc).2.2.1]) (fun c k hc k1 k4 => v59 _ (by have := (co_row hc k1 k4).2.1; omega)), ⟨x, e5, by show upd M3.1 48 (nI x) 48 = _; rw [upd_at], by rw [vu_at, upd_at]⟩, ?_⟩ (fun e => absurd e c2) h1 h2
                · show _ ≤ (upd M3.1 48 (nI x) 34).toInt
                  rw [upd_ne (by decide)]
                  exact p3
                · rcases t5 with ⟨q1, q2, q3⟩ | ⟨n, W, H, A, D, tt, d1, d2, d3, d4, d5, d6, d7, d8, d9, d10⟩
                  · exact Or.inl ⟨(show upd M3.1 48 (nI x) 43 = M3.1 43 from upd_ne (by decide)).trans q1, (k59 6 (by decide)).trans q2, q3⟩
                  · refine Or.inr ⟨n, W, H, A, D, tt, (show upd M3.1 48 (nI x) 43 = M3.1 43 from upd_ne (by decide)).trans d1, (k59 6 (by decide)).trans d2, d3, d4, gC_k d5 (fun k hk => by rw [v59 u (u59 0 (by decide))]) (v59 _ (u59 1 (by decide))) (v59 _ (u59 2 (by decide))), gM_k d6 (by rw [v59 u (u59 0 (by decide))]) (by rw [v59 u (u59 0 (by decide))]) (v59 _ (u59 3 (by decide))) (v59 _ (u59 4 (by decide))) (v59 _ (u59 5 (by decide))) (v59 _ (u59 6 (by decide))), ?_, ?_, (by rw [v59 u (u59 0 (by decide))]; exact d9), ?_⟩
                    · unfold frN
                      rw [v59 101 (by decide), v59 102 (by decide)]
                      exact d7
                    · unfold rLw
                      rw [v59 (u + 7) (u59 7 (by decide))]
                      exact d8
                    · unfold scR
                      rw [v59 103 (by decide), v59 (u + 8) (u59 8 (by decide))]
                      exact d10
              · unfold b_readSection_100 b_readSection_157 at h1
                exact bad c2 _ F3 h1 (fl_u f1 (by decide)) h2
            · obtain ⟨Y, hf, h1⟩ := q_fail1 (by decide) rd2.1 (h1.2 len)
              have h2 := h2.1 len
              unfold b_Un_readSection_71 at h2
              obtain ⟨F5, h2⟩ := q_wantLen0 h2
              unfold b_readSection_84 b_readSection_100 b_readSection_157 at h1
              have h1 := h1.1 (flt_n hf)
              exact bad c2 _ F5 h1 (fl_u hf (by decide)) h2
          · have h2 := h2.1 (fun q => c3 (e221.mp q))
            have av : (M2.1 34).toInt = (S.1 34).toInt + 2 := p2
            by_cases c4 : mk = 219
            · -- tables
              have h1 := h1.2 (e219.mpr c4)
              have h2 := h2.1 (e219.mpr c4)
              unfold p_readTables at h1
              unfold b_Un_readSection_102 at h2
              by_cases w3 : w = 2
              · have h2 := h2.1 (by show F2 59 13 ≤ 2; rw [f13, w3]; exact Int32.le_refl _)
                unfold b_Un_readSection_116 at h2
                obtain ⟨F5, h2⟩ := q_wantLen0 h2
                have h1 := r_e_readTables_2 h1
                unfold b_readTables_2 p_nextWithin at h1
                have h1 := ((h1.2 (by decide)).2 rd2.1).2 (fun q => by have := l36.mp q; omega)
                obtain ⟨Y, hf, h1⟩ := q_fail1 (by decide) rd2.1 h1
                have fin : ∀ (x s : Int32) (Z : ms), b_readTables_29 x s Z (fun zx1 zS => e_readTables_2 zx1 zS (fun S20 => K0 (S20.1, S20.2.1, S20.2.2))) (fun S20 => K0 (S20.1, S20.2.1, S20.2.2)) → flt Z → G := fun x s Z h hf => f_b_readTables_29 h hf (fun x M' hk hf => f_e_readTables_2 hk hf (fun M' hk hf => bad c2 M' F5 hk hf h2)) (fun M' hk hf => bad c2 M' F5 hk hf h2)
                exact dt_p h1 (fun _ h => fin _ _ _ h hf) (fun _ h => fin _ _ _ h hf)
              · have h2 := h2.2 (by show ¬ F2 59 13 ≤ 2; rw [f13]; exact nI_ge (a := 2) (by omega) (by omega))
                unfold b_Un_readSection_116 p_Un_readParts b_Un_readSection_157 at h2
                have h2 := q_wantLen1 (by decide) h2
                rw [show nI mk = 219 from e219.mpr c4] at h2
                refine y_tables (S0 := M2) (F0 := F2) (bad c2) (fun M' F' x1 x2 x3 x4 x5 h1 h2 => ?_) _ 0 M2 F2 1 (Nat.lt_succ_self _) q2 U2.1 (Or.inl ⟨rfl, l36.mpr (by omega)⟩) (by omega) ag_refl agc_refl (Int.le_refl _) h1 h2
                have h2 : KC (F', L, PC a b P) := h2.1 (by decide)
                obtain ⟨t1, t2, t3, t5⟩ := U2
                have n7 : ∀ w, OB w = false → w ≠ 78 → w ≠ 79 → F' w = F2 w := fun w o q1 q2 => x2.2 w o (by simp only [List.contains_cons, List.contains_nil, Bool.or_false, Bool.or_eq_false_iff, beq_eq_false_iff_ne]; exact ⟨q1, q2⟩)
                have no : ∀ w k, OB w = true → w ≠ 60 → k < 100 → F' w k = F2 w k := fun w k o q1 hk => x2.1 w k o (by simp only [List.contains_cons, List.contains_nil, Bool.or_false, Bool.or_eq_false_iff, beq_eq_false_iff_ne]; omega)
                have nr : ∀ r, r ≠ 38 → r ≠ 39 → M'.2.1 r = M2.2.1 r := fun r q1 q2 => x1.2 r (by simp only [List.contains_cons, List.contains_nil, Bool.or_false, Bool.or_eq_false_iff, beq_eq_false_iff_ne]; exact ⟨q1, q2⟩)
                have p := frP_k (M := M') (F' := F') hu ⟨t3, t5⟩ (x1.1 43 rfl) (x1.1 48 rfl) (fun r q1 q2 => nr r (by omega) (by omega)) (fun r q1 q2 => nr r (by omega) (by omega)) (no 59 6 rfl (by decide) (by decide)) (no 59 11 rfl (by decide) (by decide)) (fun k hk => no u k (isU_o hu).1 (isU_o hu).2.1 (by omega)) (fun d d1 d8 => n7 _ (isU_r hu d1 d8).1 (isU_r hu d1 d8).2.1 (isU_r hu d1 d8).2.2) (n7 101 rfl (by decide) (by decide)) (n7 102 rfl (by decide) (by decide)) (n7 103 rfl (by decide) (by decide))
                exact ok M' F' (by omega) ⟨x4.1, x4.2.2.1, x4.2.2.2.1⟩ ⟨x5, coR_k t2 (nr 40 (by decide) (by decide)) (nr 41 (by decide) (by decide)) (nr 42 (by decide) (by decide)) (fun c hc => no _ _ (co_ob hc).1 (co_ob hc).2.1 (by decide)) (fun c k hc k1 k4 => n7 _ (co_row hc k1 k4).1 (by have := (co_row hc k1 k4).2.1; omega) (by have := (co_row hc k1 k4).2.1; omega)), p.1, p.2⟩ (fun e => absurd e c2) h1 h2
            · have h2 := h2.2 (fun q => c4 (e219.mp q))
              by_cases c5 : mk = 196
              · -- codes
                have h1 := (h1.1 (fun q => c4 (e219.mp q))).2 (e196.mpr c5)
                have h2 := h2.2 (e196.mpr c5)
                unfold p_readCodes at h1
                unfold b_Un_readSection_102 at h2
                by_cases w3 : w = 2
                · have h2 := h2.1 (by show F2 59 13 ≤ 2; rw [f13, w3]; exact Int32.le_refl _)
                  unfold b_Un_readSection_116 at h2
                  obtain ⟨F5, h2⟩ := q_wantLen0 h2
                  have h1 := r_e_readCodes_2 h1
                  unfold b_readCodes_2 p_nextWithin b_readCodes_36 at h1
                  have h1 := ((h1.2 (by decide)).2 rd2.1).2 (fun q => by have := l36.mp q; omega)
                  obtain ⟨Y, hf, h1⟩ := q_fail1 (by decide) rd2.1 h1
                  have fin : ∀ (x s : Int32) (Z : ms), b_readCodes_41 x s Z (fun zx1 zS => e_readCodes_2 zx1 zS (fun S34 => K0 (S34.1, S34.2.1, S34.2.2))) (fun S34 => K0 (S34.1, S34.2.1, S34.2.2)) → flt Z → G := fun x s Z h hf => f_b_readCodes_41 h hf (fun x M' hk hf => f_e_readCodes_2 hk hf (fun M' hk hf => bad c2 M' F5 hk hf h2)) (fun M' hk hf => bad c2 M' F5 hk hf h2)
                  refine dt_p h1 (fun _ h => fin _ _ _ h hf) (fun _ h => ?_)
                  refine dt_p h (fun _ h => fin _ _ _ h hf) (fun _ h => ?_)
                  exact dt_n h (fun _ h => fin _ _ _ h hf) (fun _ h => fin _ _ _ h hf)
                · have h2 := h2.2 (by show ¬ F2 59 13 ≤ 2; rw [f13]; exact nI_ge (a := 2) (by omega) (by omega))
                  unfold b_Un_readSection_116 p_Un_readParts b_Un_readSection_157 at h2
                  have h2 := q_wantLen1 (by decide) h2
                  rw [show nI mk = 196 from e196.mpr c5] at h2
                  refine y_codes (S0 := M2) (F0 := F2) (bad c2) (fun M' F' x1 x2 x3 x4 x5 h1 h2 => ?_) _ 0 M2 F2 1 (Nat.lt_succ_self _) q2 U2.2.1 (Or.inl ⟨rfl, l36.mpr (by omega)⟩) (by omega) ag_refl agc_refl (Int.le_refl _) h1 h2
                  have h2 : KC (F', L, PC a b P) := h2.1 (by decide)
                  obtain ⟨t1, t2, t3, t5⟩ := U2
                  have n7 : ∀ w, OB w = false → ¬ (82 ≤ w ∧ w ≤ 100) → F' w = F2 w := fun w o q1 => x2.2 w o (by simp only [List.contains_cons, List.contains_nil, Bool.or_false, Bool.or_eq_false_iff, beq_eq_false_iff_ne]; omega)
                  have no : ∀ w k, OB w = true → w ≠ 60 → w ≠ 81 → w ≠ 86 → w ≠ 91 → w ≠ 96 → k < 100 → F' w k = F2 w k := fun w k o q1 q2 q3 q4 q5 hk => x2.1 w k o (by simp only [List.contains_cons, List.contains_nil, Bool.or_false, Bool.or_eq_false_iff, beq_eq_false_iff_ne]; omega)
                  have nr : ∀ r, r ≠ 40 → r ≠ 41 → r ≠ 42 → M'.2.1 r = M2.2.1 r := fun r q1 q2 q3 => x1.2 r (by simp only [List.contains_cons, List.contains_nil, Bool.or_false, Bool.or_eq_false_iff, beq_eq_false_iff_ne]; exact ⟨q1, q2, q3⟩)
                  have un : ∀ d, d ≤ 8 → ¬ (82 ≤ u + d ∧ u + d ≤ 100) := fun d hd => by rcases hu with rfl | rfl <;> omega
                  have p := frP_k (M := M') (F' := F') hu ⟨t3, t5⟩ (x1.1 43 rfl) (x1.1 48 rfl) (fun r q1 q2 => nr r (by omega) (by omega) (by omega)) (fun r q1 q2 => nr r (by omega) (by omega) (by omega)) (no 59 6 rfl (by decide) (by decide) (by decide) (by decide) (by decide) (by decide)) (no 59 11 rfl (by decide) (by decide) (by decide) (by decide) (by decide) (by decide)) (fun k hk => no u k (isU_o hu).1 (isU_o hu).2.1 (by rcases hu with rfl | rfl <;> decide) (by rcases hu with rfl | rfl <;> decide) (by rcases hu with rfl | rfl <;> decide) (by rcases hu with rfl | rfl <;> decide) (by omega)) (fun d d1 d8 => n7 _ (isU_r hu d1 d8).1 (un d d8)) (n7 101 rfl (by decide)) (n7 102 rfl (by decide)) (n7 103 rfl (by decide))
                  exact ok M' F' (by omega) ⟨x4.1, x4.2.2.1, x4.2.2.2.1⟩ ⟨tbR_k t1 (nr 38 (by decide) (by decide) (by decide)) (nr 39 (by decide) (by decide) (by decide)) (n7 78 rfl (by decide)) (n7 79 rfl (by decide)), x5, p.1, p.2⟩ (fun e => absurd e c2) h1 h2
              · -- passed over
                have h1 := (((((h1.1 (fun q => c4 (e219.mp q))).1 (fun q => c5 (e196.mp q))).1 (fun q => c1 (e192.mp q))).1 (fun q => c3 (e221.mp q))).1 (fun q => c2 (e218.mp q)))
                have h2 := (h2.1 (fun q => c5 (e196.mp q))).2 (by show ¬ F2 59 13 < 2; rw [f13]; exact nI_nlt (b := 2) (by omega) (by omega))
                unfold b_Un_readSection_141 b_Un_readSection_157 at h2
                have h2 := q_wantLen1 (by decide) h2
                obtain ⟨-, -, h2⟩ := h2
                unfold p_Re_skip at h2
                have h2 : KC (va_up F2 60 (upd (F2 60) 1 (F2 60 1 + (F2 59 13 - 2))), L, PC a b P) := kc _ h2
                obtain ⟨E, hE1, hE2⟩ : ∃ E : Nat, (E : Int) = (S.1 34).toInt + w ∧ E ≤ 100000 := ⟨((S.1 34).toInt + w).toNat, by omega, by omega⟩
                have mE : M2.1 36 = nI E := Int32.toInt.inj (by rw [eI, nI_toInt (by omega), hE1])
                have fE : (F2 60 1 + (F2 59 13 - 2) : Int32) = nI E := by
                  rw [f13, show (nI w - 2 : Int32) = nI (w - 2) from by rw [show (2 : Int32) = nI 2 from rfl, pk_sub (by omega)], rd2.2.1]
                  apply Int32.toInt.inj
                  rw [t_add (a := 0) (b := 32768) (c := 0) (d := 65535) ⟨by omega, by rw [p2]; omega⟩ ⟨by rw [nI_toInt (by omega)]; omega, by rw [nI_toInt (by omega)]; omega⟩ (by decide) (by decide), nI_toInt (by omega), nI_toInt (by omega), p2]
                  omega
                rw [fE] at h2
                have i7 := rd2.2.2.2.2.1
                have i34 := rd2.2.2.2.2.2
                rcases q_skip (S := M2) mE hE2 E M2 (by omega) mE rd2.1 (by omega) (by omega) i7 h1 with ⟨M', m1, m2, m3, m4, h1⟩ | ⟨M', m1, m2, h1⟩
                · have gE : agc [5912, 5913, 6001, 6006, 6007] [] F2 (va_up F2 60 (upd (F2 60) 1 (nI E))) := agc_f agc_refl rfl rfl
                  have c7 : (M'.1 7).toInt ≤ 32768 := by rw [m1.1 7 rfl]; exact i7
                  have le : (E : Int) ≤ 32768 := by
                    by_cases q : (M2.1 34).toInt < E
                    · have := m4 q; omega
                    · omega
                  have rr := rd2.2.2.1
                  refine ok M' _ (by rw [m3, nI_toInt (by omega)]; omega) ⟨⟨m2, by rw [vu_at, upd_at, m3], ⟨by rw [vu_ne (by decide), m1.1 7 rfl]; exact rr.1, fun k hk => by rw [vu_ne (by decide), m1.2 6 rfl]; exact rr.2 k hk⟩, by rw [m3, nI_toInt (by omega)]; omega, c7, by rw [m3, nI_toInt (by omega)]; exact le⟩, by unfold od; rw [m1.2 22 rfl]; exact od2, by unfold tBy; rw [m1.2 6 rfl]; exact tB2⟩ (urR_f hu U2 m1 rfl rfl gE) (fun e => absurd e c2) h1 h2
                · refine late M' _ h1 m1 ?_ (fun e => absurd e c2) h2
                  rw [vu_ne (by decide), vu_at, upd_at, rd2.2.2.1.1]
                  exact Int32.le_iff_toInt_le.mpr (by rw [nI_toInt (by omega)]; omega)
  · have hf : flt (upd M1.1 36 (M1.1 37 + v), M1.2.1, M1.2.2) := fl_u f1 (by decide)
    obtain ⟨h1, hk1⟩ := h1
    have h1 := h1.1 (flt_n hf)
    unfold b_readLength_45 at h1
    exact bad0 _ F1 (h1.2 (flt_l hf)) hf (fun _ => kp_tr k0 (kp_tr hk1 (kp_ag (S := M1) (fs := [36]) (rs := []) (ag_f ag_refl rfl) (fun _ _ _ => rfl)))) h2
/-- a section, and what it leaves of the pictures 0 and 1 -/
theorem y_section (hu : isU u) (hpu : PC a b P 59 1 = u) (hq : rq0 S F) (hU : urR u S F) (hmk : mk ≤ 255) (h192 : mk = 192 → S.1 43 = 0) (h218 : mk = 218 → ¬ S.1 43 = 0)
    (h1 : p_readSection (nI mk) S K0) (h2 : p_Un_readSection UL 59 (nI mk) (F, L, PC a b P) (fun S100 => (¬ nI mk = 218 → KC S100) ∧ (nI mk = 218 → p_Un_readData UL 59 S100 (fun S111 => KC S111) T2)) T2)
    (bad : ∀ M' F', K0 M' → flt M' → kp S M' → T2 13 (F', L, PC a b P) → G)
    (late : ∀ M' F', K0 M' → flt M' → kp S M' → F' 61 1 ≤ F' 60 1 → KC (F', L, PC a b P) → G)
    (ok : ∀ M' F', (S.1 34).toInt + 2 ≤ (M'.1 34).toInt → rq0 M' F' → urR u M' F' → kp S M' → K0 M' → KC (F', L, PC a b P) → G) : G := by
  by_cases e : mk = 218
  · have late' : ∀ M' F', K0 M' → flt M' → F' 61 1 ≤ F' 60 1 → (mk = 218 → kp S M') → KC (F', L, PC a b P) → G := fun M' F' a1 a2 a3 a4 a5 => late M' F' a1 a2 (a4 e) a3 a5
    exact y_section0 hu hpu hq hU hmk h192 h218 h1 h2 (fun M' F' a1 a2 a3 a4 => bad M' F' a1 a2 (a3 e) a4) late' (fun M' F' a1 a2 a3 a4 a5 a6 => ok M' F' a1 a2 a3 (a4 e) a5 a6)
  · have h1 := kf_section (fun q => e ((nI_eq (a := mk) (b := 218) (by omega) (by decide)).mp q)) h1
    exact y_section0 hu hpu hq hU hmk h192 h218 h1 h2 (fun M' F' a1 a2 a3 a4 => bad M' F' a1.1 a2 a1.2 a4) (fun M' F' a1 a2 a3 _ a4 => late M' F' a1.1 a2 a1.2 a3 a4) (fun M' F' a1 a2 a3 a4 a5 a6 => ok M' F' a1 a2 a3 a5.2 a5.1 a6)
end SECT

/-! UNPACK: which mark may come, both sides -/
section COME
variable {S : ms} {F : cF} {L : cL} {a b : Bool} {P : Nat → Nat → Nat} {K1 : Int32 → ms → Prop} {K2 : Int32 → cs → Prop} {u n mk : Nat}
theorem q_isDone0 (h43 : S.1 43 = 0) (h : p_isDone S K1) : K1 0 S := by
  unfold p_isDone at h
  rw [h43] at h
  have h := r_e_isDone_7 h
  unfold b_isDone_7 b_isDone_34 at h
  obtain ⟨-, h⟩ := h
  exact dt_p h (fun _ h => h.2) (fun _ h => (h.1 rfl).2)
theorem q_isDone1 (hn : n ≤ 3) (h43 : S.1 43 = 1) (h14 : S.2.1 14 2 = nI n) (h : p_isDone S K1) : ∃ v, K1 v S ∧ (¬ v = 0 ↔ ∀ l, l < n → ¬ S.2.1 47 l = 0) := by
  unfold p_isDone at h
  rw [h43] at h
  refine v_e_isDone_7 h (fun y1 y2 T => T = S ∧ ∃ k, y2 = nI k ∧ k ≤ n ∧ (¬ y1 = 0 ↔ ∀ l, l < k → ¬ S.2.1 47 l = 0)) ⟨rfl, 0, rfl, Nat.zero_le _, ⟨fun _ l hl => absurd hl (Nat.not_lt_zero _), fun _ => by decide⟩⟩ ?_
  rintro y1 y2 T R ⟨rfl, k, rfl, hk, hc⟩ hb
  unfold b_isDone_7 b_isDone_34 at hb
  obtain ⟨-, hb⟩ := hb
  rw [show (2 : Int32).toNatClampNeg = 2 from rfl, h14] at hb
  by_cases e : k = n
  · right
    subst e
    exact ⟨y1, (hb.1 (Int32.le_refl _)).2, hc⟩
  · have hb := hb.2 (nI_ge (by omega) (by omega))
    by_cases z : y1 = 0
    · right
      refine ⟨y1, (hb.1 z).2, ⟨fun q => absurd z q, fun q => ?_⟩⟩
      exact hc.mpr (fun l hl => q l (by omega))
    · left
      obtain ⟨-, hb⟩ := hb.2 z
      rw [nI_clamp (show k < 2 ^ 31 by omega), nI_1] at hb
      refine ⟨_, _, _, hb, rfl, k + 1, rfl, by omega, ⟨fun q l hl => ?_, fun q => q k (by omega)⟩⟩
      by_cases el : l = k
      · rw [el]; exact q
      · exact hc.mp z l (by omega)
theorem q_allSc (hpu : PC a b P 59 1 = u) (hn : n ≤ 3) (h2 : F u 2 = nI n) (h : p_Un_allScanned UL 59 (F, L, PC a b P) K2) : ∃ v, K2 v (F, L, PC a b P) ∧ (¬ v = 0 ↔ ∀ l, l < n → ¬ F 103 l = 0) := by
  unfold p_Un_allScanned at h
  refine v_e_Un_allScanned_4 h (fun y1 y2 V => V = (F, L, PC a b P) ∧ ∃ k, y2 = nI k ∧ k ≤ n ∧ (¬ y1 = 0 ↔ ∀ l, l < k → ¬ F 103 l = 0)) ⟨rfl, 0, rfl, Nat.zero_le _, ⟨fun _ l hl => absurd hl (Nat.not_lt_zero _), fun _ => by decide⟩⟩ ?_
  rintro y1 y2 V R ⟨rfl, k, rfl, hk, hc⟩ hb
  unfold b_Un_allScanned_4 b_Un_allScanned_32 b_Un_allScanned_33 at hb
  obtain ⟨-, -, hb⟩ := hb
  have hb : (F (PC a b P 59 1) 2 ≤ nI k → _ ∧ K2 y1 (F, L, PC a b P)) ∧ (¬ F (PC a b P 59 1) 2 ≤ nI k → ((y1 = 0 → R 0 (nI k + 1) (F, L, PC a b P)) ∧ (¬ y1 = 0 → _ ∧ _ ∧ _ ∧ ((F 103 (nI k).toNatClampNeg = 0 → R 0 (nI k + 1) (F, L, PC a b P)) ∧ (¬ F 103 (nI k).toNatClampNeg = 0 → R 1 (nI k + 1) (F, L, PC a b P)))))) := hb
  rw [hpu, h2] at hb
  by_cases e : k = n
  · right
    subst e
    exact ⟨y1, (hb.1 (Int32.le_refl _)).2, hc⟩
  · left
    have hb := hb.2 (nI_ge (by omega) (by omega))
    rw [nI_clamp (show k < 2 ^ 31 by omega), nI_1] at hb
    by_cases z : y1 = 0
    · refine ⟨_, _, _, hb.1 z, rfl, k + 1, rfl, by omega, ⟨fun q => absurd rfl q, fun q => ?_⟩⟩
      exact absurd z (hc.mpr (fun l hl => q l (by omega)))
    · obtain ⟨-, -, -, hb⟩ := hb.2 z
      by_cases f : F 103 k = 0
      · exact ⟨_, _, _, hb.1 f, rfl, k + 1, rfl, by omega, ⟨fun q => absurd rfl q, fun q => absurd f (q k (by omega))⟩⟩
      · refine ⟨_, _, _, hb.2 f, rfl, k + 1, rfl, by omega, ⟨fun _ l hl => ?_, fun _ => by decide⟩⟩
        by_cases el : l = k
        · rw [el]; exact f
        · exact hc.mp z l (by omega)
/-- both sides let the mark come, or neither does -/
theorem y_come (hpu : PC a b P 59 1 = u) (hU : urR u S F) (hmk : mk ≤ 255) (h1 : p_mayCome (nI mk) S K1) (h2 : p_Un_canCome UL 59 (nI mk) (F, L, PC a b P) K2) :
    (∃ v w, ¬ v = 0 ∧ ¬ w = 0 ∧ (mk = 192 → S.1 43 = 0) ∧ (mk = 218 → ¬ S.1 43 = 0) ∧ (mk = 217 → S.1 43 = 1 ∧ ∀ l n, S.2.1 14 2 = nI n → n ≤ 3 → l < n → ¬ S.2.1 47 l = 0) ∧ K1 v S ∧ K2 w (F, L, PC a b P)) ∨ (K1 0 S ∧ K2 0 (F, L, PC a b P)) := by
  have E : ∀ x : Nat, x ≤ 255 → (nI mk = nI x ↔ mk = x) := fun x hx => nI_eq (by omega) (by omega)
  have e192 : (nI mk = (192 : Int32)) ↔ mk = 192 := E 192 (by decide)
  have e218 : (nI mk = (218 : Int32)) ↔ mk = 218 := E 218 (by decide)
  have e217 : (nI mk = (217 : Int32)) ↔ mk = 217 := E 217 (by decide)
  have e219 : (nI mk = (219 : Int32)) ↔ mk = 219 := E 219 (by decide)
  have e196 : (nI mk = (196 : Int32)) ↔ mk = 196 := E 196 (by decide)
  have e221 : (nI mk = (221 : Int32)) ↔ mk = 221 := E 221 (by decide)
  have e254 : (nI mk = (254 : Int32)) ↔ mk = 254 := E 254 (by decide)
  have l224 : (nI mk < (224 : Int32)) ↔ mk < 224 := nI_ltI (a := mk) (b := 224) (by omega) (by decide)
  have l240 : (nI mk < (240 : Int32)) ↔ mk < 240 := nI_ltI (a := mk) (b := 240) (by omega) (by decide)
  have g239 : ((239 : Int32) < nI mk) ↔ 239 < mk := nI_ltI (a := 239) (b := mk) (by decide) (by omega)
  have f43 : (S.1 43 = 0 ∧ F 59 6 = 0) ∨ (S.1 43 = 1 ∧ F 59 6 = 1) := by
    rcases hU.2.2.2 with ⟨q1, q2, -⟩ | ⟨n, W, H, A, D, tt, q1, q2, -⟩
    · exact Or.inl ⟨q1, q2⟩
    · exact Or.inr ⟨q1, q2⟩
  unfold p_mayCome at h1
  unfold p_Un_canCome b_Un_canCome_126 b_Un_canCome_127 b_Un_canCome_104 b_Un_canCome_105 b_Un_canCome_80 at h2
  have yes : ∀ v w, ¬ v = 0 → ¬ w = 0 → mk ≠ 192 → mk ≠ 218 → mk ≠ 217 → K1 v S → K2 w (F, L, PC a b P) → (∃ v w, ¬ v = 0 ∧ ¬ w = 0 ∧ (mk = 192 → S.1 43 = 0) ∧ (mk = 218 → ¬ S.1 43 = 0) ∧ (mk = 217 → S.1 43 = 1 ∧ ∀ l n, S.2.1 14 2 = nI n → n ≤ 3 → l < n → ¬ S.2.1 47 l = 0) ∧ K1 v S ∧ K2 w (F, L, PC a b P)) ∨ (K1 0 S ∧ K2 0 (F, L, PC a b P)) := fun v w hv hw n1 n2 n3 k1 k2 => Or.inl ⟨v, w, hv, hw, fun q => absurd q n1, fun q => absurd q n2, fun q => absurd q n3, k1, k2⟩
  have c42 : b_mayCome_42 (nI mk) S K1 → K1 1 S := fun h => by
    unfold b_mayCome_42 b_mayCome_47 b_mayCome_94 b_mayCome_99 at h
    exact (h.1 (by decide)).2
  by_cases c192 : mk = 192
  · have h1 := ((((h1.2 (fun q => by have := e219.mp q; omega)).2 (fun q => by have := e196.mp q; omega)).2 (fun q => by have := e221.mp q; omega)).1 (l224.mpr (by omega)))
    unfold b_mayCome_35 b_mayCome_47 b_mayCome_94 b_mayCome_99 at h1
    have h1 := ((h1.1 (fun q => by have := e254.mp q; omega)).2 rfl).2 (e192.mpr c192)
    have h2 := h2.1 (e192.mpr c192)
    rcases f43 with ⟨q1, q2⟩ | ⟨q1, q2⟩
    · exact Or.inl ⟨1, 1, by decide, by decide, fun _ => q1, fun q => by omega, fun q => by omega, (h1.1 q1).2, (h2.2 q2).2⟩
    · have h1 := h1.2 (by rw [q1]; decide)
      unfold b_mayCome_66 b_mayCome_80 b_mayCome_98 b_mayCome_99 at h1
      exact Or.inr ⟨((h1.1 (fun q => by have := e218.mp q; omega)).1 (fun q => by have := e217.mp q; omega)).2, (h2.1 (by show ¬ F 59 6 = 0; rw [q2]; decide)).2⟩
  have h2 := h2.2 (fun q => c192 (e192.mp q))
  by_cases c196 : mk = 196
  · exact yes 1 1 (by decide) (by decide) (by omega) (by omega) (by omega) (c42 ((h1.2 (fun q => by have := e219.mp q; omega)).1 (e196.mpr c196))) (h2.1 (e196.mpr c196))
  have h2 := h2.2 (fun q => c196 (e196.mp q))
  by_cases c217 : mk = 217
  · have h1 := ((((h1.2 (fun q => by have := e219.mp q; omega)).2 (fun q => by have := e196.mp q; omega)).2 (fun q => by have := e221.mp q; omega)).1 (l224.mpr (by omega)))
    unfold b_mayCome_35 b_mayCome_47 at h1
    have h1 := ((h1.1 (fun q => by have := e254.mp q; omega)).2 rfl).1 (fun q => c192 (e192.mp q))
    unfold b_mayCome_66 b_mayCome_80 b_mayCome_98 b_mayCome_94 b_mayCome_99 at h1
    have h1 := (h1.1 (fun q => by have := e218.mp q; omega)).2 (e217.mpr c217)
    have h2 := h2.1 (e217.mpr c217)
    rcases hU.2.2.2 with ⟨q1, q2, -⟩ | ⟨n, W, H, A, D, tt, q1, q2, g, -, gc, -, -, -, -, sc⟩
    · have k1 := q_isDone0 q1 h1
      exact Or.inr ⟨(k1.1 rfl).2, (h2.1 q2).2⟩
    · have n3 := g.n3
      obtain ⟨v, k1, hv⟩ := q_isDone1 n3 q1 g.2.2.1 h1
      obtain ⟨w, k2, hw⟩ := q_allSc hpu n3 gc.2.2.1 (h2.2 (by show ¬ F 59 6 = 0; rw [q2]; decide))
      have eq : (∀ l, l < n → ¬ F 103 l = 0) ↔ ∀ l, l < n → ¬ S.2.1 47 l = 0 := ⟨fun q l hl => by rw [← (sc l hl).1]; exact q l hl, fun q l hl => by rw [(sc l hl).1]; exact q l hl⟩
      by_cases all : ∀ l, l < n → ¬ S.2.1 47 l = 0
      · refine Or.inl ⟨1, 1, by decide, by decide, fun q => absurd q c192, fun q => by omega, fun _ => ⟨q1, fun l n' h14 hn' hl => ?_⟩, (k1.2 (hv.mpr all)).2, (k2.2 (hw.mpr (eq.mpr all))).2⟩
        have : n' = n := by
          have t := h14.symm.trans g.2.2.1
          exact (nI_eq (by omega) (by omega)).mp t
        subst this
        exact all l hl
      · refine Or.inr ⟨(k1.1 (Classical.byContradiction fun q => all (hv.mp q))).2, (k2.1 (Classical.byContradiction fun q => all (eq.mp (hw.mp q)))).2⟩
  have h2 := h2.2 (fun q => c217 (e217.mp q))
  by_cases c218 : mk = 218
  · have h1 := ((((h1.2 (fun q => by have := e219.mp q; omega)).2 (fun q => by have := e196.mp q; omega)).2 (fun q => by have := e221.mp q; omega)).1 (l224.mpr (by omega)))
    unfold b_mayCome_35 b_mayCome_47 at h1
    have h1 := ((h1.1 (fun q => by have := e254.mp q; omega)).2 rfl).1 (fun q => c192 (e192.mp q))
    unfold b_mayCome_66 at h1
    have h1 := h1.2 (e218.mpr c218)
    have h2 := (h2.1 (e218.mpr c218)).2
    have h2 : K2 (F 59 6) (F, L, PC a b P) := h2
    rcases f43 with ⟨q1, q2⟩ | ⟨q1, q2⟩
    · have h1 := h1.2 q1
      unfold b_mayCome_80 b_mayCome_98 b_mayCome_99 at h1
      rw [q2] at h2
      exact Or.inr ⟨(h1.1 (fun q => c217 (e217.mp q))).2, h2⟩
    · have h1 := h1.1 (by rw [q1]; decide)
      unfold b_mayCome_94 b_mayCome_99 at h1
      rw [q2] at h2
      exact Or.inl ⟨1, 1, by decide, by decide, fun q => absurd q c192, fun _ => by rw [q1]; decide, fun q => absurd q c217, h1.2, h2⟩
  have h2 := h2.2 (fun q => c218 (e218.mp q))
  by_cases c219 : mk = 219
  · exact yes 1 1 (by decide) (by decide) (by omega) (by omega) (by omega) (c42 (h1.1 (e219.mpr c219))) (h2.1 (e219.mpr c219))
  have h2 := h2.2 (fun q => c219 (e219.mp q))
  have h1 := (h1.2 (fun q => c219 (e219.mp q))).2 (fun q => c196 (e196.mp q))
  by_cases c221 : mk = 221
  · exact yes 1 1 (by decide) (by decide) (by omega) (by omega) (by omega) (c42 (h1.1 (e221.mpr c221))) (h2.1 (e221.mpr c221))
  have h2 := h2.2 (fun q => c221 (e221.mp q))
  have h1 := h1.2 (fun q => c221 (e221.mp q))
  have c35 : ∀ h : b_mayCome_35 (nI mk) S K1, (mk = 254 → K1 1 S) ∧ (¬ mk = 254 → K1 0 S) := fun h => by
    unfold b_mayCome_35 at h
    refine ⟨fun q => c42 (h.2 (e254.mpr q)), fun q => ?_⟩
    have h := h.1 (fun w => q (e254.mp w))
    unfold b_mayCome_47 at h
    have h := (h.2 rfl).1 (fun w => c192 (e192.mp w))
    unfold b_mayCome_66 at h
    have h := h.1 (fun w => c218 (e218.mp w))
    unfold b_mayCome_80 b_mayCome_98 b_mayCome_99 at h
    exact (h.1 (fun w => c217 (e217.mp w))).2
  by_cases c254 : mk = 254
  · have k1 := (c35 ((h1.2 (fun q => by have := l224.mp q; omega)).2 (fun q => by have := l240.mp q; omega))).1 c254
    exact yes 1 1 (by decide) (by decide) (by omega) (by omega) (by omega) k1 (h2.1 (e254.mpr c254))
  have h2 := h2.2 (fun q => c254 (e254.mp q))
  by_cases c224 : mk < 224
  · exact Or.inr ⟨(c35 (h1.1 (l224.mpr c224))).2 c254, (h2.1 (l224.mpr c224)).2⟩
  have h1 := h1.2 (fun q => c224 (l224.mp q))
  have h2 := h2.2 (fun q => c224 (l224.mp q))
  by_cases c240 : mk < 240
  · exact yes 1 1 (by decide) (by decide) (by omega) (by omega) (by omega) (c42 (h1.1 (l240.mpr c240))) (h2.2 (fun q => by have := g239.mp q; omega)).2
  · exact Or.inr ⟨(c35 (h1.2 (fun q => c240 (l240.mp q)))).2 c254, (h2.1 (g239.mpr (by omega))).2⟩
end COME

/-! UNPACK: a row, both sides -/
section BEG
variable {S : ms} {F : cF} {L : cL} {a b : Bool} {P : Nat → Nat → Nat} {K0 : ms → Prop} {KC : cs → Prop}
theorem q_begin (h : p_begin S K0) : ∃ Z, ag [10, 34, 35, 43, 48] [14, 39, 42, 47] S Z ∧ Z.1 34 = 0 ∧ Z.1 35 = 0 ∧ Z.1 43 = 0 ∧ Z.1 48 = 0 ∧ (∀ c, c < 4 → Z.2.1 39 c = 0 ∧ Z.2.1 42 c = 0) ∧ (∀ l, l < 3 → Z.2.1 47 l = 0) ∧ (∀ k, k ≠ 2 → Z.2.1 14 k = S.2.1 14 k) ∧ K0 Z := by
  unfold p_begin at h
  obtain ⟨-, h⟩ := h
  rw [show (2 : Int32).toNatClampNeg = 2 from rfl] at h
  generalize hX : ((upd (upd (upd (upd (upd S.1 34 0) 35 0) 10 (-1)) 43 0) 48 0, va_up S.2.1 14 (upd (S.2.1 14) 2 0), S.2.2) : ms) = X at h
  have aX : ag [10, 34, 35, 43, 48] [14, 39, 42, 47] S X := by
    rw [← hX]
    exact ag_r (T := (upd (upd (upd (upd (upd S.1 34 0) 35 0) 10 (-1)) 43 0) 48 0, S.2.1, S.2.2)) (ag_f (T := (upd (upd (upd (upd S.1 34 0) 35 0) 10 (-1)) 43 0, S.2.1, S.2.2)) (ag_f (T := (upd (upd (upd S.1 34 0) 35 0) 10 (-1), S.2.1, S.2.2)) (ag_f (T := (upd (upd S.1 34 0) 35 0, S.2.1, S.2.2)) (ag_f (T := (upd S.1 34 0, S.2.1, S.2.2)) (ag_f (T := (S.1, S.2.1, S.2.2)) ag_refl rfl) rfl) rfl) rfl) rfl) rfl
  have x34 : X.1 34 = 0 ∧ X.1 35 = 0 ∧ X.1 43 = 0 ∧ X.1 48 = 0 := by
    rw [← hX]
    refine ⟨?_, ?_, ?_, ?_⟩
    · show upd (upd (upd (upd (upd S.1 34 0) 35 0) 10 (-1)) 43 0) 48 0 34 = 0
      rw [upd_ne (by decide), upd_ne (by decide), upd_ne (by decide), upd_ne (by decide), upd_at]
    · show upd (upd (upd (upd (upd S.1 34 0) 35 0) 10 (-1)) 43 0) 48 0 35 = 0
      rw [upd_ne (by decide), upd_ne (by decide), upd_ne (by decide), upd_at]
    · show upd (upd (upd (upd (upd S.1 34 0) 35 0) 10 (-1)) 43 0) 48 0 43 = 0
      rw [upd_ne (by decide), upd_at]
    · show upd (upd (upd (upd (upd S.1 34 0) 35 0) 10 (-1)) 43 0) 48 0 48 = 0
      rw [upd_at]
  have x14 : ∀ k, k ≠ 2 → X.2.1 14 k = S.2.1 14 k := fun k hk => by
    rw [← hX]
    dsimp only
    rw [vu_at, upd_ne hk]
  -- the tables' and the codes' flags
  have s1 : ∃ Y, ag [] [39, 42] X Y ∧ (∀ c, c < 4 → Y.2.1 39 c = 0 ∧ Y.2.1 42 c = 0) ∧ e_begin_61 0 Y K0 := by
    refine v_e_begin_34 h (fun y1 T => ∃ q, y1 = nI q ∧ q ≤ 4 ∧ ag [] [39, 42] X T ∧ ∀ c, c < q → T.2.1 39 c = 0 ∧ T.2.1 42 c = 0) ⟨0, rfl, by decide, ag_refl, fun c hc => absurd hc (Nat.not_lt_zero _)⟩ ?_
    rintro y1 T R ⟨q, rfl, hq, ha, hc⟩ hb
    unfold b_begin_34 at hb
    by_cases e : q = 4
    · right
      subst e
      exact ⟨T, ha, hc, hb.1 (Int32.le_refl _)⟩
    · left
      obtain ⟨-, -, hR⟩ := hb.2 (nI_ge (b := 4) (by omega) (by decide))
      rw [nI_clamp (show q < 2 ^ 31 by omega), nI_1] at hR
      refine ⟨_, _, hR, q + 1, rfl, by omega, ag_r (T := (T.1, va_up T.2.1 39 (upd (T.2.1 39) q (vp_nar .boolean 0)), T.2.2)) (ag_r ha rfl) rfl, fun c hc' => ?_⟩
      dsimp only
      rw [vu_ne (show (39 : Nat) ≠ 42 by decide), vu_at, vu_at, vu_ne (show (42 : Nat) ≠ 39 by decide)]
      by_cases ec : c = q
      · rw [ec, upd_at, upd_at]
        exact ⟨rfl, rfl⟩
      · rw [upd_ne ec, upd_ne ec]
        exact hc c (by omega)
  obtain ⟨Y, y1, y2, h⟩ := s1
  have s2 : ∃ Z, ag [] [47] Y Z ∧ (∀ l, l < 3 → Z.2.1 47 l = 0) ∧ K0 Z := by
    refine v_e_begin_61 h (fun y1 T => ∃ q, y1 = nI q ∧ q ≤ 3 ∧ ag [] [47] Y T ∧ ∀ c, c < q → T.2.1 47 c = 0) ⟨0, rfl, by decide, ag_refl, fun c hc => absurd hc (Nat.not_lt_zero _)⟩ ?_
    rintro y1 T R ⟨q, rfl, hq, ha, hc⟩ hb
    unfold b_begin_61 at hb
    by_cases e : q = 3
    · right
      subst e
      exact ⟨T, ha, hc, hb.1 (Int32.le_refl _)⟩
    · left
      obtain ⟨-, hR⟩ := hb.2 (nI_ge (b := 3) (by omega) (by decide))
      rw [nI_clamp (show q < 2 ^ 31 by omega), nI_1] at hR
      refine ⟨_, _, hR, q + 1, rfl, by omega, ag_r ha rfl, fun c hc' => ?_⟩
      dsimp only
      rw [vu_at]
      by_cases ec : c = q
      · rw [ec, upd_at]
        rfl
      · rw [upd_ne ec]
        exact hc c (by omega)
  obtain ⟨Z, z1, z2, h⟩ := s2
  refine ⟨Z, ag_tr (ag_tr aX y1 rfl rfl) z1 rfl rfl, ?_, ?_, ?_, ?_, fun c hc => ?_, z2, fun k hk => ?_, h⟩
  · rw [z1.1 34 rfl, y1.1 34 rfl]; exact x34.1
  · rw [z1.1 35 rfl, y1.1 35 rfl]; exact x34.2.1
  · rw [z1.1 43 rfl, y1.1 43 rfl]; exact x34.2.2.1
  · rw [z1.1 48 rfl, y1.1 48 rfl]; exact x34.2.2.2
  · rw [z1.2 39 rfl, z1.2 42 rfl]; exact y2 c hc
  · rw [z1.2 14 rfl, y1.2 14 rfl]; exact x14 k hk
theorem q_Ubegin (h : p_Un_begin UL 59 (F, L, PC a b P) KC) : ∃ Z, (∀ w, OB w = false → w ≠ 79 → Z w = F w) ∧ Z 60 1 = 0 ∧ Z 59 6 = 0 ∧ Z 59 11 = 0 ∧ Z 61 1 = F 61 1 ∧ (∀ c, c < 4 → Z 79 c = 0 ∧ Z (co c) 0 = 0) ∧ KC (Z, L, PC a b P) := by
  unfold p_Un_begin at h
  obtain ⟨-, -, h⟩ := h
  have h : e_Un_begin_20 UL 59 0 (va_up (va_up (va_up F 60 (upd (F 60) 1 0)) 59 (upd ((va_up F 60 (upd (F 60) 1 0)) 59) 6 0)) 59 (upd ((va_up (va_up F 60 (upd (F 60) 1 0)) 59 (upd ((va_up F 60 (upd (F 60) 1 0)) 59) 6 0)) 59) 11 0), L, PC a b P) KC := h
  rw [vu_vu, vu_at, vu_ne (show (59 : Nat) ≠ 60 by decide)] at h
  refine v_e_Un_begin_20 h (fun y1 V => ∃ q Y, y1 = nI q ∧ q ≤ 4 ∧ V = (Y, L, PC a b P) ∧ (∀ w, OB w = false → w ≠ 79 → Y w = F w) ∧ Y 60 1 = 0 ∧ Y 59 6 = 0 ∧ Y 59 11 = 0 ∧ Y 61 1 = F 61 1 ∧ ∀ c, c < q → Y 79 c = 0 ∧ Y (co c) 0 = 0) ⟨0, _, rfl, by decide, rfl, fun w o _ => ?_, ?_, ?_, ?_, ?_, fun c hc => absurd hc (Nat.not_lt_zero _)⟩ ?_
  · rw [vu_ne (fun e => by rw [e] at o; exact absurd o (by decide)), vu_ne (fun e => by rw [e] at o; exact absurd o (by decide))]
  · rw [vu_ne (by decide), vu_at, upd_at]
  · rw [vu_at, upd_ne (by decide), upd_at]
  · rw [vu_at, upd_at]
  · rw [vu_ne (by decide), vu_ne (by decide)]
  · rintro y1 V R ⟨q, Y, rfl, hq, rfl, r1, r2, r3, r4, r5, hc⟩ hb
    unfold b_Un_begin_20 at hb
    by_cases e : q = 4
    · right
      subst e
      exact ⟨Y, r1, r2, r3, r4, r5, hc, hb.1 (Int32.le_refl _)⟩
    · left
      obtain ⟨-, -, -, -, -, -, -, -, hR⟩ := hb.2 (nI_ge (b := 4) (by omega) (by decide))
      have hR : R (nI q + 1) (va_up (va_up Y 79 (upd (Y 79) (nI q).toNatClampNeg 0)) (PC a b P 80 (nI q).toNatClampNeg) (upd ((va_up Y 79 (upd (Y 79) (nI q).toNatClampNeg 0)) (PC a b P 80 (nI q).toNatClampNeg)) 0 0), L, PC a b P) := hR
      rw [nI_clamp (show q < 2 ^ 31 by omega), co_p (by omega), nI_1] at hR
      have oq := co_ob (c := q) (by omega)
      have ne : ∀ w, w ≤ 79 → w ≠ co q := fun w hw => by show w ≠ 81 + 5 * q; omega
      refine ⟨_, _, hR, q + 1, _, rfl, by omega, rfl, fun w o hw => ?_, ?_, ?_, ?_, ?_, fun c hc' => ?_⟩
      · rw [vu_ne (fun e => by rw [e, oq.1] at o; exact absurd o (by decide)), vu_ne hw]
        exact r1 w o hw
      · rw [vu_ne (ne 60 (by decide)), vu_ne (by decide)]; exact r2
      · rw [vu_ne (ne 59 (by decide)), vu_ne (by decide)]; exact r3
      · rw [vu_ne (ne 59 (by decide)), vu_ne (by decide)]; exact r4
      · rw [vu_ne (ne 61 (by decide)), vu_ne (by decide)]; exact r5
      · rw [vu_ne (ne 79 (by decide)), vu_at]
        by_cases ec : c = q
        · subst ec
          rw [upd_at, vu_at, upd_at]
          exact ⟨rfl, rfl⟩
        · have nc : co c ≠ co q := by show 81 + 5 * c ≠ 81 + 5 * q; omega
          have n79 : co c ≠ 79 := by show 81 + 5 * c ≠ 79; omega
          rw [upd_ne ec, vu_ne nc, vu_ne n79]
          exact hc c (by omega)
end BEG
section ROW
variable {L : cL} {a b : Bool} {P : Nat → Nat → Nat} {K1 : Int32 → ms → Prop} {KC : cs → Prop} {T2 : Nat → cs → Prop} {G : Prop} {u : Nat}
theorem q_40f {x : Int32} {S : ms} (hf : flt S) (h : e_unpack_40 x S K1) : K1 (S.1 35) S := by
  have h := r_e_unpack_40 h
  unfold b_unpack_40 b_unpack_108 b_unpack_137 b_unpack_148 at h
  exact ((h.1 (flt_n hf)).1 (flt_n hf)).1 (flt_n hf)
theorem q_lateM {F : cF} {K2 : Int32 → cs → Prop} (h : F 61 1 ≤ F 60 1) (h2 : p_Re_readMark UL 60 (F, L, PC a b P) K2 T2) : ∃ F', T2 13 (F', L, PC a b P) := by
  unfold p_Re_readMark p_Re_read at h2
  obtain ⟨-, -, h2⟩ := h2
  have h2 : (F 60 1 < F 61 1 → _) ∧ (¬ F 60 1 < F 61 1 → _) := h2
  exact ⟨_, (h2.2 (fun q => by have := i_le h; have := i_lt q; omega)).2⟩
theorem y_rows (hu : isU u) (hpu : PC a b P 59 1 = u) (SS : ms)
    (bad : ∀ M' F', K1 (M'.1 35) M' → flt M' → kp SS M' → T2 13 (F', L, PC a b P) → G)
    (ok : ∀ M' F', rd M' F' → urR u M' F' → M'.1 43 = 1 → (∀ l n, M'.2.1 14 2 = nI n → n ≤ 3 → l < n → ¬ M'.2.1 47 l = 0) → kp SS M' → od M' → M'.2.1 23 = SS.2.1 23 → b_unpack_137 M' K1 → KC (F', L, PC a b P) → G) :
    ∀ (N i : Nat) (S : ms) (F : cF) (x1 : Int32), (32768 - (S.1 34).toInt).toNat < N → kp SS S → S.2.1 23 = SS.2.1 23 → rq0 S F → urR u S F → ¬ x1 = 217 → (i : Int) + 1 ≤ (S.1 34).toInt → e_unpack_40 x1 S K1 → e_Un_readRow_38 UL 59 1 (nI i) (F, L, PC a b P) KC T2 → G := by
  intro N
  induction N with
  | zero => intro i S F x1 h; exact absurd h (Nat.not_lt_zero _)
  | succ N ih =>
    intro i S F x1 hN hkp h23 hq hU hx hi h1 h2
    obtain ⟨hr, ho, ht⟩ := hq
    have at0 := hr.2.2.2.1
    have at7 := hr.2.2.2.2.1
    have at3 := hr.2.2.2.2.2
    have fe : ∀ (x : Int32) (M1 : ms) (F1 : cF), e_unpack_40 x M1 K1 → flt M1 → kp SS M1 → T2 13 (F1, L, PC a b P) → G := fun x M1 F1 h hf hp ht => bad M1 F1 (q_40f hf h) hf hp ht
    have f86 : ∀ (x : Int32) (M1 : ms) (F1 : cF), b_unpack_86 x M1 (fun zx1 zS => e_unpack_40 zx1 zS K1) K1 → flt M1 → kp SS M1 → T2 13 (F1, L, PC a b P) → G := fun x M1 F1 h hf hp ht => by
      unfold b_unpack_86 at h
      exact fe _ _ F1 (h.1 (flt_n hf)) hf hp ht
    have h1 := r_e_unpack_40 h1
    unfold b_unpack_40 at h1
    have h1 := (h1.2 hr.1).2 hx
    have h2 := r_e_Un_readRow_38 h2
    unfold b_Un_readRow_38 at h2
    obtain ⟨-, -, h2⟩ := (h2.2 (by decide)).2 (nI_ge (b := 32768) (by omega) (by decide))
    have h2 : p_Re_readMark UL 60 (F, L, PC a b P) _ T2 := h2
    refine x_rmark hr at7 at0 h1 h2 (fun v M1 F1 c1 c2 c3 c4 c5 c6 h1 h2 => ?_) (fun v M1 F1 c1 c2 c3 h1 h2 => f86 _ _ F1 (h1.1 (flt_n c1)) c1 (kp_tr hkp (kp_ag c2 (fun _ _ _ => rfl))) h2)
    obtain ⟨kk, ek⟩ := c6
    have hk1 : kp SS M1 := kp_tr hkp (kp_ag c1 (fun _ _ _ => rfl))
    have h23 : M1.2.1 23 = SS.2.1 23 := (c1.2 23 rfl).trans h23
    have m32 := c4.2.2.2.2.2
    have bv := ht kk
    rw [← ek] at bv
    obtain ⟨mk, rfl, hmk⟩ := b16 bv
    have h1 := h1.2 c4.1
    have U1 : urR u M1 F1 := urR_f hu hU (ag_tr (ag_refl (fs := [10, 34, 35]) (rs := [])) c1 rfl rfl) rfl rfl (agc_tr (agc_refl (fs := [5912, 5913, 6001, 6006, 6007]) (rs := [])) c3 rfl rfl)
    have e217 : (nI mk = (217 : Int32)) ↔ mk = 217 := nI_eq (a := mk) (b := 217) (by omega) (by decide)
    have h2 : ∃ s0, (s0 = 0 ↔ mk = 217) ∧ (s0 = 0 ∨ s0 = 1) ∧ b_Un_readRow_68 UL 59 (nI i) (nI mk) s0 (F1, L, PC a b P) (fun zx1 zx2 zS => e_Un_readRow_38 UL 59 zx1 zx2 zS KC T2) KC T2 := by
      by_cases q : mk = 217
      · exact ⟨0, ⟨fun _ => q, fun _ => rfl⟩, Or.inl rfl, h2.1 (e217.mpr q)⟩
      · exact ⟨1, ⟨fun e => absurd e (by decide), fun e => absurd e q⟩, Or.inr rfl, h2.2 (fun w => q (e217.mp w))⟩
    obtain ⟨s0, hs, hs01, h2⟩ := h2
    unfold b_Un_readRow_68 at h2
    rcases y_come hpu U1 hmk h1 h2 with ⟨v, w, hv, hw, g192, g218, g217, h1, h2⟩ | ⟨h1, h2⟩
    · have h1 := h1.1 hv
      have h2 := h2.1 hw
      unfold b_unpack_86 at h1
      have h1 := h1.2 c4.1
      unfold b_Un_readRow_94 at h2
      by_cases q217 : mk = 217
      · have h1 := h1.1 (e217.mpr q217)
        have h1 := r_e_unpack_40 h1
        unfold b_unpack_40 b_unpack_108 at h1
        have h1 := ((h1.2 c4.1).1 (e217.mpr q217)).2 c4.1
        have z := hs.mpr q217
        subst z
        have h2 := h2.1 rfl
        unfold b_Un_readRow_103 b_Un_readRow_114 at h2
        have h2 := h2.1 (fun e => by have := (nI_eq (a := mk) (b := 218) (by omega) (by decide)).mp e; omega)
        have h2 := r_e_Un_readRow_38 h2
        unfold b_Un_readRow_38 at h2
        have h2 := h2.1 rfl
        unfold b_Un_readRow_120 b_Un_readRow_156 at h2
        obtain ⟨-, -, -, -, -, h2⟩ := h2
        have h2 : p_Ro_has UL 61 (F1 60 1) (F1, L, PC a b P) _ := h2
        have f60 : F1 60 1 = M1.1 34 := c4.2.1
        have f61 : F1 61 1 = M1.1 7 := c4.2.2.1.1
        rcases q_has (Or.inl ⟨rfl, rfl, rfl⟩) h2 with ⟨i1, i2, h2⟩ | ⟨i1, h2⟩
        · rw [f60, f61] at i2
          have h1 := h1.2 (fun q => by have q2 : (M1.1 7).toInt ≤ (M1.1 34).toInt := i_le q; omega)
          obtain ⟨Y, hf, hp, h1⟩ := q_fail2 (S := M1) (by decide) c4.1 h1
          obtain ⟨-, -, -, h2⟩ := h2.2 (by decide)
          have h2 : p_Re_fail UL 60 _ _ (F1, L, PC a b P) _ T2 := h2
          obtain ⟨F2, -, -, h2⟩ := q_Rfail h2
          unfold b_unpack_137 b_unpack_148 at h1
          exact bad Y F2 (h1.1 (flt_n hf)) hf (kp_tr hk1 hp) h2
        · rw [f60, f61] at i1
          have p0 := c4.2.2.2.1
          have h1 := h1.1 (show M1.1 7 ≤ M1.1 34 from Int32.le_iff_toInt_le.mpr (by omega))
          exact ok M1 F1 c4 U1 (g217 q217).1 (fun l n e1 e2 e3 => (g217 q217).2 l n e1 e2 e3) hk1 (by unfold od; rw [c1.2 22 rfl]; exact ho) h23 h1 (h2.1 rfl)
      · have h1 := h1.2 (fun e => q217 (e217.mp e))
        have z : s0 = 1 := by
          rcases hs01 with e | e
          · exact absurd (hs.mp e) q217
          · exact e
        subst z
        have h2 := h2.2 (by decide)
        unfold b_Un_readRow_103 b_Un_readRow_114 at h2
        have q0 : rq0 M1 F1 := ⟨c4, by unfold od; rw [c1.2 22 rfl]; exact ho, by unfold tBy; rw [c1.2 6 rfl]; exact ht⟩
        have ii : (nI i + 1 : Int32) = nI (i + 1) := nI_1 i
        rw [ii] at h2
        refine y_section (S := (M1.1, M1.2.1, M1.2.2)) (KC := fun S => e_Un_readRow_38 UL 59 1 (nI (i + 1)) S KC T2) hu hpu q0 U1 hmk g192 g218 (st_sect h1) h2 (fun M' F' hk hf hp ht => fe _ M' F' hk.1 hf (kp_tr hk1 hp) ht) (fun M' F' hk hf hp hl h2 => ?_) (fun M' F' d1 d2 d3 hp h1 h2 => ?_)
        · have h2 := r_e_Un_readRow_38 h2
          unfold b_Un_readRow_38 at h2
          obtain ⟨-, -, h2⟩ := (h2.2 (by decide)).2 (nI_ge (b := 32768) (by omega) (by decide))
          have h2 : p_Re_readMark UL 60 (F', L, PC a b P) _ T2 := h2
          obtain ⟨F2, h2⟩ := q_lateM hl h2
          exact fe _ M' F2 hk.1 hf (kp_tr hk1 hp) h2
        · have d1 : (M1.1 34).toInt + 2 ≤ (M'.1 34).toInt := d1
          have d32 := d2.1.2.2.2.2.2
          obtain ⟨h1, e23⟩ := h1
          exact ih (i + 1) M' F' (nI mk) (by omega) (kp_tr hk1 hp) (e23.trans h23) d2 d3 (fun e => q217 (e217.mp e)) (by omega) h1 h2
    · obtain ⟨Y, hf, hp, h1⟩ := q_fail2 (S := (M1.1, M1.2.1, M1.2.2)) (by decide) c4.1 (h1.2 rfl)
      obtain ⟨-, -, -, h2⟩ := h2.2 rfl
      have h2 : p_Re_fail UL 60 _ _ (F1, L, PC a b P) _ T2 := h2
      obtain ⟨F2, -, -, h2⟩ := q_Rfail h2
      exact f86 _ _ F2 h1 hf (kp_tr hk1 hp) h2
/-- the whole row: unpack up to its end against readRow -/
theorem y_row {S : ms} {F : cF} (hu : isU u) (hpu : PC a b P 59 1 = u) (hT : rTape S F) (h7 : 0 ≤ (S.1 7).toInt ∧ (S.1 7).toInt ≤ 32768) (ho : od S) (ht : tBy S) (h1 : p_unpack S K1) (h2 : p_Un_readRow UL 59 (F, L, PC a b P) KC T2)
    (bad : ∀ M' F', K1 (M'.1 35) M' → flt M' → kp S M' → T2 13 (F', L, PC a b P) → G)
    (ok : ∀ M' F', rd M' F' → urR u M' F' → M'.1 43 = 1 → (∀ l n, M'.2.1 14 2 = nI n → n ≤ 3 → l < n → ¬ M'.2.1 47 l = 0) → kp S M' → od M' → M'.2.1 23 = S.2.1 23 → b_unpack_137 M' K1 → KC (F', L, PC a b P) → G) : G := by
  unfold p_unpack at h1
  unfold p_Un_readRow at h2
  obtain ⟨M0, a1, a2, a3, a4, a5, a6, a7, a8, h1⟩ := q_begin h1
  obtain ⟨F0, b1, b2, b3, b4, b5, b6, h2⟩ := q_Ubegin h2
  obtain ⟨-, -, h2⟩ := h2
  have h2 : p_Re_readMark UL 60 (F0, L, PC a b P) _ T2 := h2
  have z0 : (0 : Int32).toInt = 0 := by decide
  have m7 : M0.1 7 = S.1 7 := by rw [a1.1 7 rfl]; show upd S.1 0 0 7 = S.1 7; exact upd_ne (by decide)
  have r6 : M0.2.1 6 = S.2.1 6 := a1.2 6 rfl
  have r0 : rd M0 F0 := ⟨a3, by rw [b2, a2], ⟨by rw [b5, m7]; exact hT.1, fun k hk => by rw [b1 62 rfl (by decide), r6]; exact hT.2 k hk⟩, by rw [a2, z0]; exact Int.le_refl _, by rw [m7]; exact h7.2, by rw [a2, z0]; decide⟩
  have U0 : urR u M0 F0 := by
    refine ⟨fun t ht4 => ?_, fun c hc => ?_, ⟨0, by decide, a5, b4⟩, Or.inl ⟨a4, b3, a7⟩⟩
    · rw [(a6 t ht4).1, (b6 t ht4).1]
      exact ⟨rfl, fun q => absurd rfl q⟩
    · rw [(a6 c hc).2, (b6 c hc).2]
      exact ⟨rfl, fun q => absurd rfl q⟩
  have fe : ∀ (x : Int32) (M1 : ms) (F1 : cF), e_unpack_40 x M1 K1 → flt M1 → kp S M1 → T2 13 (F1, L, PC a b P) → G := fun x M1 F1 h hf hp ht => bad M1 F1 (q_40f hf h) hf hp ht
  have k0 : kp S M0 := by
    refine ⟨a1.2 11 rfl, a1.2 20 rfl, fun r k hr hk => ?_, fun r k hr _ => ?_, fun k _ => by rw [a1.2 19 rfl]⟩
    · rcases hr with rfl | rfl | rfl
      · rw [a1.2 12 rfl]
      · rw [a1.2 13 rfl]
      · exact a8 k (by omega)
    · rcases hr with rfl | rfl | rfl | rfl <;> rw [a1.2 _ rfl]
  refine x_rmark (S := (M0.1, M0.2.1, M0.2.2)) r0 r0.2.2.2.2.1 r0.2.2.2.1 h1 h2 (fun v M1 F1 c1 c2 c3 c4 c5 c6 h1 h2 => ?_) (fun v M1 F1 c1 c2 c3 h1 h2 => fe _ _ F1 (h1.1 (flt_n c1)) c1 (kp_tr k0 (kp_ag c2 (fun _ _ _ => rfl))) h2)
  have h1 := h1.2 c4.1
  have U1 : urR u M1 F1 := urR_f hu U0 (ag_tr (ag_refl (fs := [10, 34, 35]) (rs := []) (S := M0)) c1 rfl rfl) rfl rfl (agc_tr (agc_refl (fs := [5912, 5913, 6001, 6006, 6007]) (rs := [])) c3 rfl rfl)
  by_cases e : v = 216
  · have h1 := h1.1 e
    have h2 := h2.1 e
    unfold b_Un_readRow_34 at h2
    have q1 : rq0 M1 F1 := ⟨c4, by unfold od; rw [c1.2 22 rfl]; show ∀ k, k < 64 → M0.2.1 22 k = _; rw [a1.2 22 rfl]; exact ho, by unfold tBy; rw [c1.2 6 rfl]; show ∀ k, B 0 255 (M0.2.1 6 k); rw [r6]; exact ht⟩
    have p1 : 1 ≤ (M1.1 34).toInt := by
      have c2 : (M0.1 34).toInt < (M1.1 34).toInt := c2
      rw [a2, z0] at c2
      omega
    exact y_rows hu hpu S bad ok _ 0 M1 F1 v (Nat.lt_succ_self _) (kp_tr k0 (kp_ag c1 (fun _ _ _ => rfl))) ((c1.2 23 rfl).trans (a1.2 23 rfl)) q1 U1 (by rw [e]; decide) (by omega) h1 h2
  · obtain ⟨Y, hf, hp, h1⟩ := q_fail2 (S := (M1.1, M1.2.1, M1.2.2)) (by decide) c4.1 (h1.2 e)
    obtain ⟨-, -, -, h2⟩ := h2.2 e
    have h2 : p_Re_fail UL 60 _ _ (F1, L, PC a b P) _ T2 := h2
    obtain ⟨F2, -, -, h2⟩ := q_Rfail h2
    exact fe _ _ F2 h1 hf (kp_tr k0 (kp_tr (kp_ag c1 (fun _ _ _ => rfl)) hp)) h2
end ROW

