/-! calls that find nothing on the fresh objects -/
theorem oc_has0 {S : cs} {K : Int32 → cs → Prop} {u : Nat} {x : Int32} (f : S.1 u 1 = 0) (h : K 0 S) : p_Ro_has UL u x S K := by
  unfold p_Ro_has
  rw [f]
  refine ⟨fun _ => ⟨rfl, h⟩, fun c => ⟨fun _ => ⟨rfl, h⟩, fun c2 => absurd (Int32.le_iff_toInt_le.mpr ?_) c2⟩⟩
  have : ¬ x.toInt < 0 := fun q => c (lt0.mpr q)
  show (0 : Int) ≤ x.toInt
  omega
theorem oc_out {S : cs} {K : Int32 → cs → Prop} (F : FC S) {x : Int32} (h : ∀ S', K 1 S') : p_Lw_out UL 0 x 115 S K := by
  obtain ⟨-, -, -, -, -, f5, -, -, -, -, -, f11, -⟩ := F
  unfold p_Lw_out p_B_out
  rw [f5]
  exact ⟨by decide +kernel, nu1 (by decide), by decide +kernel, oc_has0 f11 ⟨fun q => absurd rfl q, fun _ => ⟨rfl, h S⟩⟩⟩
theorem om_out {M : ms} {K : Int32 → ms → Prop} (F : FM M) {x : Int32} (h : ∀ (v : Int32) (M' : ms), M'.1 0 = 1 → K v M') : p_out x M K := by
  obtain ⟨-, -, -, -, f9, -⟩ := F
  have b13 : b_out_13 x M K := ⟨fun q => absurd q u1n, fun _ => h 0 _ rfl⟩
  unfold p_out
  rw [f9]
  exact ⟨fun _ => b13, fun c => ⟨fun c2 => absurd c2 c, fun _ => b13⟩⟩
def okN (x : Int32) : Prop := ¬ x < 0 ∧ ¬ 0 < x
theorem oc_end {S : cs} {K : Int32 → cs → Prop} (F : FC S) {x : Int32} (h1 : ¬ okN x → ∀ S', K 1 S') (h0 : okN x → ∀ S', K 0 S') : p_Lw_end UL 0 x S K := by
  obtain ⟨-, -, -, -, -, -, f6, -, -, -, -, -, f12, -⟩ := F
  unfold p_Lw_end p_B_end
  rw [f6, f12]
  exact ⟨by decide +kernel, nu1 (by decide), by decide +kernel, isW3 (fun h => ⟨rfl, h1 (fun o => h.elim o.1 o.2) S⟩) (fun a b => ⟨nu1 (by decide), h0 ⟨a, b⟩ _⟩)⟩
theorem om_end {M : ms} {K : ms → Prop} (F : FM M) {x : Int32} (h1 : ¬ okN x → ∀ M' : ms, M'.1 0 = 1 → K M') (h0 : okN x → ∀ M' : ms, M'.1 0 = 0 → K M') : p_end x M K := by
  obtain ⟨-, -, -, f7, -⟩ := F
  have b13 : ¬ okN x → b_end_13 x M K := fun r => ⟨fun q => absurd q u1n, fun _ => h1 r _ rfl⟩
  unfold p_end
  rw [f7]
  refine ⟨fun c => b13 (fun o => o.1 c), fun c1 => ⟨fun c => ⟨fun _ => h0 ⟨c1, fun q => ?_⟩ _ rfl, fun q => absurd u0l q⟩, fun c => b13 (fun o => c (Int32.le_iff_toInt_le.mpr ?_))⟩⟩
  · have q1 : (0 : Int) < x.toInt := Int32.lt_iff_toInt_lt.mp q
    have q2 : x.toInt ≤ 0 := Int32.le_iff_toInt_le.mp c
    omega
  · rw [p_z o.1 o.2]
    decide
theorem oc_change {S : cs} {K : Int32 → cs → Prop} (F : FC S) {x y : Int32} (h : ∀ S', K 1 S') : p_Lw_change UL 0 x y 115 S K := by
  obtain ⟨-, -, -, -, -, -, f6, -, -, -, -, -, f12, -⟩ := F
  unfold p_Lw_change p_B_change
  rw [f6]
  exact ⟨by decide +kernel, nu1 (by decide), by decide +kernel, oc_has0 f12 ⟨fun q => absurd rfl q, fun _ => Or.inl ⟨rfl, h S⟩⟩⟩
theorem om_change {M : ms} {K : Int32 → ms → Prop} (F : FM M) {x y : Int32} (h : ∀ (v : Int32) (M' : ms), M'.1 0 = 1 → K v M') : p_change x y M K := by
  obtain ⟨-, -, -, f7, -⟩ := F
  have b13 : b_change_13 x y M K := ⟨fun q => absurd q u1n, fun _ => h 0 _ rfl⟩
  unfold p_change
  rw [f7]
  exact ⟨fun _ => b13, fun c => ⟨fun c2 => absurd c2 c, fun _ => b13⟩⟩
def okW (x : Int32) : Prop := ¬ x < 0 ∧ ¬ 2 < x
theorem oc_about {S : cs} {K : Int32 → cs → Prop} (F : FC S) {x : Int32} (h1 : ¬ okW x → ∀ S', K 1 S') (h2 : okW x → ∀ S', K 2 S') : p_Lw_about UL 0 x 115 S K := by
  obtain ⟨-, -, -, -, -, -, -, f7, -, -, -, -, -, f13, -⟩ := F
  unfold p_Lw_about p_B_about
  rw [f7, f13]
  exact ⟨by decide +kernel, isW3 (fun h => Or.inl ⟨rfl, h1 (fun o => h.elim o.1 o.2) S⟩) (fun a b => ⟨nu1 (by decide), by decide +kernel, fun q => absurd rfl q, fun _ => Or.inr ⟨rfl, h2 ⟨a, b⟩ S⟩⟩)⟩
theorem om_about {M : ms} {K : Int32 → ms → Prop} (F : FM M) {x : Int32} (h1 : ¬ okW x → ∀ (v : Int32) (M' : ms), M'.1 0 = 1 → K v M') (h2 : okW x → ∀ (v : Int32) (M' : ms), M'.1 0 = 2 → K v M') : p_about x M K := by
  obtain ⟨-, -, -, -, -, -, f11⟩ := F
  have b10 : ¬ okW x → b_about_10 x M K := fun r => ⟨fun q => absurd q u1n, fun _ => h1 r 0 _ rfl⟩
  unfold p_about
  rw [f11]
  refine ⟨fun c => b10 (fun o => o.1 c), fun c1 => ⟨fun c => ⟨n_vp (rfl : (1 : Int32) = Int32.ofNat 1) (by decide) (by decide), fun _ => ⟨fun q => absurd q u2n, fun _ => h2 ⟨c1, fun q => ?_⟩ 0 _ rfl⟩, fun q => absurd rfl q⟩, fun c => b10 (fun o => c ?_)⟩⟩
  · have q1 : (2 : Int) < x.toInt := Int32.lt_iff_toInt_lt.mp q
    have q2 : x.toInt ≤ 2 := Int32.le_iff_toInt_le.mp c
    omega
  · have q1 : ¬ (2 : Int) < x.toInt := fun q => o.2 (Int32.lt_iff_toInt_lt.mpr q)
    exact Int32.le_iff_toInt_le.mpr (show x.toInt ≤ 2 by omega)
theorem oc_sample {S : cs} {K : Int32 → cs → Prop} (F : FC S) {x y z : Int32} (h : ∀ S', K 1 S') : p_Lw_sample UL 0 x y z 115 S K := by
  obtain ⟨-, -, -, -, -, -, -, f7, -, -, -, -, -, f13, -⟩ := F
  unfold p_Lw_sample p_B_sample
  rw [f7, f13]
  exact ⟨by decide +kernel, nu1 (by decide), by decide +kernel, fun q => absurd rfl q, fun _ => Or.inl ⟨rfl, h S⟩⟩
theorem om_sample {M : ms} {K : Int32 → ms → Prop} (F : FM M) {x y z : Int32} (h : ∀ (v : Int32) (M' : ms), M'.1 0 = 1 → K v M') : p_sample x y z M K := by
  obtain ⟨-, -, -, -, -, -, f11⟩ := F
  unfold p_sample
  rw [f11]
  exact ⟨n_vp (rfl : (1 : Int32) = Int32.ofNat 1) (by decide) (by decide), fun q => absurd rfl q, fun _ => ⟨fun q => absurd q u1n, fun _ => h 0 _ rfl⟩⟩
def okL (x : Int32) : Prop := ¬ x < 0 ∧ ¬ 1 < x
theorem oc_level {S : cs} {K : Int32 → cs → Prop} (F : FC S) {x y z w : Int32} (h1 : ¬ okL x → ∀ S', K 1 S') (h2 : okL x → ∀ S', K 2 S') : p_Lw_level UL 0 x y z w 115 S K := by
  obtain ⟨-, -, -, f3, f4, -, -, f7, -, -, -, -, -, f13, f14, -⟩ := F
  unfold p_Lw_level p_B_level b_B_level_38
  rw [f3, f4, f7, f13, f14]
  exact ⟨by decide +kernel, isW3 (fun h => Or.inl ⟨rfl, h1 (fun o => h.elim o.1 o.2) S⟩) (fun a b => ⟨fun _ => ⟨nu1 (by decide), by decide +kernel, nu1 (by decide), by decide +kernel, fun q => absurd rfl q, fun _ => Or.inr (Or.inl ⟨rfl, h2 ⟨a, b⟩ S⟩)⟩, fun _ => ⟨nu1 (by decide), by decide +kernel, fun q => absurd rfl q, fun _ => Or.inr (Or.inl ⟨rfl, h2 ⟨a, b⟩ S⟩)⟩⟩)⟩
theorem om_level {M : ms} {K : Int32 → ms → Prop} (F : FM M) {x y z w : Int32} (h1 : ¬ okL x → ∀ (v : Int32) (M' : ms), M'.1 0 = 1 → K v M') (h2 : okL x → ∀ (v : Int32) (M' : ms), M'.1 0 = 2 → K v M') : p_level x y z w M K := by
  obtain ⟨-, -, -, -, -, -, f11⟩ := F
  have le1 : ¬ 1 < x → x ≤ 1 := fun q => by
    have q1 : ¬ (1 : Int) < x.toInt := fun r => q (Int32.lt_iff_toInt_lt.mpr r)
    exact Int32.le_iff_toInt_le.mpr (show x.toInt ≤ 1 by omega)
  have nl1 : 1 < x → ¬ x ≤ 1 := fun q r => by
    have q1 : (1 : Int) < x.toInt := Int32.lt_iff_toInt_lt.mp q
    have q2 : x.toInt ≤ 1 := Int32.le_iff_toInt_le.mp r
    omega
  have b18 : b_level_18 x M K := ⟨fun c => h1 (fun o => o.1 c) 0 _ rfl, fun c1 => ⟨fun c => h2 ⟨c1, fun q => nl1 q c⟩ 0 _ rfl, fun c => h1 (fun o => c (le1 o.2)) 0 _ rfl⟩⟩
  unfold p_level
  rw [f11]
  refine ⟨fun _ => b18, fun c1 => ⟨fun _ => b18, fun c2 => ⟨?_, fun q => absurd rfl q, fun _ => b18⟩⟩⟩
  obtain ⟨q, hq, rfl⟩ := t01 c1 c2
  exact n_vp rfl (Nat.ble_eq_true_of_le (show q < 3 by omega)) (by decide)
/-! pack -/
def okP (x y z : Int32) : Prop := (¬ x < 1 ∧ ¬ 2 < x) ∧ (¬ y < 1 ∧ ¬ 2 < y) ∧ ¬ z < 0 ∧ ¬ 65535 < z
theorem t12 {t : Int32} (h1 : ¬ t < 1) (h2 : ¬ 2 < t) : t = 1 ∨ t = 2 := by
  have a1 : ¬ t.toInt < 1 := fun q => h1 (lt1.mpr q)
  have a2 : ¬ (2 : Int) < t.toInt := fun q => h2 (Int32.lt_iff_toInt_lt.mpr q)
  rcases (show t.toInt = 1 ∨ t.toInt = 2 by omega) with h | h
  · exact Or.inl (Int32.toInt_inj.mp h)
  · exact Or.inr (Int32.toInt_inj.mp h)
theorem z0p {z : Int32} (h : ¬ z < 0) : z = 0 ∨ 0 < z := by
  have a1 : ¬ z.toInt < 0 := fun q => h (lt0.mpr q)
  rcases (show z.toInt = 0 ∨ 0 < z.toInt by omega) with h | h
  · exact Or.inl (Int32.toInt_inj.mp h)
  · exact Or.inr (Int32.lt_iff_toInt_lt.mpr h)
def szP (z : Int32) : Int32 := if z = 0 then 138 else 144
theorem eqv {v : Int32} {a n : Nat} (h : Nat.beq a n = true) (e : v = Int32.ofNat a) : v = Int32.ofNat n := by rw [e, Nat.eq_of_beq_eq_true h]
theorem oc_pack {S : cs} {K : Int32 → cs → Prop} (hS : RC S tB) {x y z : Int32} (h1 : ¬ okP x y z → ∀ S', K 1 S') (h0 : okP x y z → ∀ S' : cs, S'.2.1 115 (0 : Int32).toNatClampNeg = (szP z).toInt64 → K 0 S') : p_Lw_pack UL 0 x y z 115 S K := by
  refine ⟨by decide +kernel, isW2 (fun h => ⟨rfl, h1 (fun o => h.elim o.1.1 o.1.2) S⟩) (fun x1 x2 => isW2 (fun h => ⟨rfl, h1 (fun o => h.elim o.2.1.1 o.2.1.2) S⟩) (fun y1 y2 => isW3 (fun h => ⟨rfl, h1 (fun o => h.elim o.2.2.1 o.2.2.2) S⟩) (fun z1 z2 => ?_)))⟩
  have h9 := h0 ⟨⟨x1, x2⟩, ⟨y1, y2⟩, z1, z2⟩
  show b_B_pack_99 UL 0 x y z S (fun v7 S7 => c_cl UL 115 = 904 ∧ (vp_in 0 (c_ln UL 115) ∧ (K 0 (S7.1, va_up S7.2.1 115 (vp_updL (S7.2.1 115) (0 : Int32).toNatClampNeg v7.toInt64), S7.2.2)))) (fun c9 S9 => (c9 = 14 ∧ (K 1 S9)))
  rcases z0p z1 with rfl | hz
  · have go : ∀ {v : Int32} {b : Nat} {S' : cs} {t : X8}, Nat.beq b 138 = true → v = Int32.ofNat b → RC S' t → c_cl UL 115 = 904 ∧ (vp_in 0 (c_ln UL 115) ∧ (K 0 (S'.1, va_up S'.2.1 115 (vp_updL (S'.2.1 115) (0 : Int32).toNatClampNeg v.toInt64), S'.2.2))) := fun hk e _ => outK (by
      rw [eqv hk e]; exact h9)
    rcases t12 x1 x2 with rfl | rfl <;> rcases t12 y1 y2 with rfl | rfl
    · exact xs_b_B_pack_99 rc_11 rfl rfl rfl rfl hS (fun h e r => go h e r) (fun h _ => absurd h Bool.false_ne_true)
    · exact xs_b_B_pack_99 rc_12 rfl rfl rfl rfl hS (fun h e r => go h e r) (fun h _ => absurd h Bool.false_ne_true)
    · exact xs_b_B_pack_99 rc_21 rfl rfl rfl rfl hS (fun h e r => go h e r) (fun h _ => absurd h Bool.false_ne_true)
    · exact xs_b_B_pack_99 rc_22 rfl rfl rfl rfl hS (fun h e r => go h e r) (fun h _ => absurd h Bool.false_ne_true)
  · have es : szP z = 144 := if_neg (g_ne hz)
    rw [es] at h9
    have go : ∀ {v : Int32} {b : Nat} {S' : cs} {t : X8}, Nat.beq b 144 = true → v = Int32.ofNat b → RC S' t → c_cl UL 115 = 904 ∧ (vp_in 0 (c_ln UL 115) ∧ (K 0 (S'.1, va_up S'.2.1 115 (vp_updL (S'.2.1 115) (0 : Int32).toNatClampNeg v.toInt64), S'.2.2))) := fun hk e _ => outK (by
      rw [eqv hk e]; exact h9)
    rcases t12 x1 x2 with rfl | rfl <;> rcases t12 y1 y2 with rfl | rfl
    · exact xs_b_B_pack_99_x3 rg_11 rfl rfl rfl hz hS (fun h e r => go h e r) (fun h _ => absurd h Bool.false_ne_true)
    · exact xs_b_B_pack_99_x3 rg_12 rfl rfl rfl hz hS (fun h e r => go h e r) (fun h _ => absurd h Bool.false_ne_true)
    · exact xs_b_B_pack_99_x3 rg_21 rfl rfl rfl hz hS (fun h e r => go h e r) (fun h _ => absurd h Bool.false_ne_true)
    · exact xs_b_B_pack_99_x3 rg_22 rfl rfl rfl hz hS (fun h e r => go h e r) (fun h _ => absurd h Bool.false_ne_true)
theorem mk0 {M : ms} {t : X6} {n : Nat} (h : rfi t 0 (fun w => Nat.beq w n) = true) (hM : RM M t) : M.1 0 = Int32.ofNat n := by
  obtain ⟨v, h1, h2⟩ := rfi_ok h hM
  exact eqv h1 h2
theorem om_pack {M : ms} {K : Int32 → ms → Prop} (hM : RM M tM) {x y z : Int32} (h1 : ¬ okP x y z → ∀ (v : Int32) (M' : ms), M'.1 0 = 1 → K v M') (h0 : okP x y z → ∀ M' : ms, M'.1 0 = 0 → K (szP z) M') : p_pack x y z M K := by
  have b31 : ¬ okP x y z → b_pack_31 x y z M K := fun r => ⟨fun q => absurd q u1n, fun _ => h1 r 0 _ rfl⟩
  refine ⟨fun c => b31 (fun o => o.1.1 c), fun x1 => ⟨fun c => b31 (fun o => o.1.2 c), fun x2 => ⟨fun c => b31 (fun o => o.2.1.1 c), fun y1 => ⟨fun c => b31 (fun o => o.2.1.2 c), fun y2 => ⟨fun c => b31 (fun o => o.2.2.1 c), fun z1 => ⟨fun c => ?_, fun c => b31 (fun o => c (by
      have q1 : ¬ (65535 : Int) < z.toInt := fun q => o.2.2.2 (Int32.lt_iff_toInt_lt.mpr q)
      exact Int32.le_iff_toInt_le.mpr (show z.toInt ≤ 65535 by omega)))⟩⟩⟩⟩⟩⟩
  have h9 := h0 ⟨⟨x1, x2⟩, ⟨y1, y2⟩, z1, fun q => by
      have q1 : (65535 : Int) < z.toInt := Int32.lt_iff_toInt_lt.mp q
      have q2 : z.toInt ≤ 65535 := Int32.le_iff_toInt_le.mp c
      omega⟩
  rcases z0p z1 with rfl | hz
  · have go : ∀ {v : Int32} {b : Nat} {M' : ms} {t : X6}, and (Nat.beq b 138) (rfi t 0 (fun w => Nat.beq w 0)) = true → v = Int32.ofNat b → RM M' t → K v M' := fun hk e r => by
      obtain ⟨k1, k2⟩ := an_ok hk
      rw [eqv k1 e]
      exact h9 _ (mk0 k2 r)
    rcases t12 x1 x2 with rfl | rfl <;> rcases t12 y1 y2 with rfl | rfl
    · exact xs_b_pack_36 mc_11 rfl rfl rfl rfl hM (fun h e r => go h e r)
    · exact xs_b_pack_36 mc_12 rfl rfl rfl rfl hM (fun h e r => go h e r)
    · exact xs_b_pack_36 mc_21 rfl rfl rfl rfl hM (fun h e r => go h e r)
    · exact xs_b_pack_36 mc_22 rfl rfl rfl rfl hM (fun h e r => go h e r)
  · have es : szP z = 144 := if_neg (g_ne hz)
    rw [es] at h9
    have go : ∀ {v : Int32} {b : Nat} {M' : ms} {t : X6}, and (Nat.beq b 144) (rfi t 0 (fun w => Nat.beq w 0)) = true → v = Int32.ofNat b → RM M' t → K v M' := fun hk e r => by
      obtain ⟨k1, k2⟩ := an_ok hk
      rw [eqv k1 e]
      exact h9 _ (mk0 k2 r)
    rcases t12 x1 x2 with rfl | rfl <;> rcases t12 y1 y2 with rfl | rfl
    · exact xs_b_pack_36_x3 mg_11 rfl rfl hz rfl hM (fun h e r => go h e r)
    · exact xs_b_pack_36_x3 mg_12 rfl rfl hz rfl hM (fun h e r => go h e r)
    · exact xs_b_pack_36_x3 mg_21 rfl rfl hz rfl hM (fun h e r => go h e r)
    · exact xs_b_pack_36_x3 mg_22 rfl rfl hz rfl hM (fun h e r => go h e r)
