/-! SECTIONS: both sides write the same bytes -/
section SEC
variable {M : ms} {F : cF} {L : cL} {a b : Bool} {P : Nat → Nat → Nat} {K1 : ms → Prop} {K2 : cs → Prop}
/-- a byte on both sides -/
theorem x_b {x : Int32} (hx : B 0 255 x) (ho : rOut M F) (h1 : p_put x M K1) (h2 : p_Ro_add UL 5 x (F, L, PC a b P) K2) :
    ∃ M' F', ag [9] [8] M M' ∧ agc [501] [6] F F' ∧ rOut M' F' ∧ K1 M' ∧ K2 (F', L, PC a b P) := by
  obtain ⟨M', F', a1, -, a3, a4, k1, k2⟩ := x_put ho (and255 hx) h1 h2
  exact ⟨M', F', a1, a3, a4, k1, k2⟩
theorem x_two {x : Int32} (ho : rOut M F) (h1 : p_putTwo x M K1) (h2 : p_Ro_addTwo UL 5 x (F, L, PC a b P) K2) :
    ∃ M' F', ag [9] [8] M M' ∧ agc [501] [6] F F' ∧ rOut M' F' ∧ K1 M' ∧ K2 (F', L, PC a b P) := by
  unfold p_putTwo at h1
  unfold p_Ro_addTwo at h2
  obtain ⟨T, G, a1, -, a3, a4, h1, h2⟩ := x_put ho rfl h1 h2
  obtain ⟨T2, G2, b1, -, b3, b4, h1, h2⟩ := x_put (M := (T.1, T.2.1, T.2.2)) a4 rfl h1 h2
  exact ⟨T2, G2, ag_tr a1 b1 rfl rfl, agc_tr a3 b3 rfl rfl, b4, h1, h2⟩
theorem nB {q : Nat} (h : q ≤ 255) : B 0 255 (nI q) := by
  unfold B
  rw [nI_toInt (by omega)]
  omega
/-- the tables -/
theorem x_tab53 {x1 x2 x3 : Int32} {t : Nat} {R38 : Int32 → Int32 → Int32 → Int32 → ms → Prop} {R25 : Nat → Int32 → cs → Prop} (ht : t < 2) (hr : rTab M F) (hB : ∀ k, k < 128 → B 0 255 (M.2.1 5 k)) (hsl : ∀ k, k < 64 → M.2.1 22 k = nI (sl k)) (ho : rOut M F)
    (h1 : e_putSections_53 x1 x2 x3 (nI t) 0 M R38 K1) (h2 : e_Pa_writeTables_43 UL 4 3 (nI t) 0 (F, L, PC a b P) R25 K2) :
    ∃ M' F', ag [9] [8] M M' ∧ agc [501] [6] F F' ∧ rOut M' F' ∧ R38 x1 x2 x3 (nI t + 1) M' ∧ R25 3 (nI t + 1) (F', L, PC a b P) := by
  refine v_e_putSections_53 h1 (fun y5 T => ∃ k G, y5 = nI k ∧ k ≤ 64 ∧ e_Pa_writeTables_43 UL 4 3 (nI t) (nI k) (G, L, PC a b P) R25 K2 ∧ ag [9] [8] M T ∧ agc [501] [6] F G ∧ rOut T G) ⟨0, F, rfl, by decide, h2, ag_refl, agc_refl, ho⟩ ?_
  rintro y5 T R ⟨k, G, rfl, hk, h2, ha, hg, ho⟩ hb
  unfold b_putSections_53 at hb
  have h2 := r_e_Pa_writeTables_43 h2
  unfold b_Pa_writeTables_43 at h2
  by_cases e : k = 64
  · right
    subst e
    exact ⟨T, G, ha, hg, ho, hb.1 (Int32.le_refl _), h2.1 (Int32.le_refl _)⟩
  · left
    obtain ⟨-, -, hb⟩ := hb.2 (nI_ge (b := 64) (by omega) (by decide))
    obtain ⟨-, -, -, -, -, h2⟩ := h2.2 (nI_ge (b := 64) (by omega) (by decide))
    have ck : (nI k).toNatClampNeg = k := nI_clamp (by omega)
    have sk := sl_lt k
    have ci : ((64 * nI t) + nI (sl k) : Int32).toNatClampNeg = 64 * t + sl k := by rw [show (64 : Int32) = nI 64 from rfl, pk_mul, nI_add, nI_clamp (by omega)]
    rw [ck, ha.2 22 rfl, hsl k (by omega), ci, ha.2 5 rfl] at hb
    have h2 : p_Ro_add UL 5 (G 3 ((64 * nI t) + rw_at row_sl (nI k).toNatClampNeg : Int32).toNatClampNeg) (G, L, PC a b P) _ := h2
    rw [ck, rw_sl, ci, hg.2 3 rfl rfl, hr _ (by omega)] at h2
    obtain ⟨M', F', c1, c2, c3, k1, k2⟩ := x_b (hB _ (by omega)) ho hb h2
    rw [nI_1] at k2
    exact ⟨_, _, k1, k + 1, F', nI_1 k, by omega, k2, ag_tr ha c1 rfl rfl, agc_tr hg c2 rfl rfl, c3⟩
/-- what the sections need: sizes, factors, kinds -/
def seI (n W H : Nat) (A D : Nat → Nat) (M : ms) (F : cF) : Prop :=
  (n = 1 ∨ n = 3) ∧ M.1 1 = nI W ∧ M.1 2 = nI H ∧ M.2.1 14 0 = nI n ∧ F 12 0 = nI W ∧ F 12 1 = nI H ∧ F 12 2 = nI n ∧ F 4 8 = nI (if n = 1 then 1 else 2) ∧ (W ≤ 64 ∧ H ≤ 64) ∧ ∀ l, l < n → M.2.1 15 l = nI (A l) ∧ M.2.1 16 l = nI (D l) ∧ F 13 l = nI (A l) ∧ F 14 l = nI (D l) ∧ A l ≤ 2 ∧ D l ≤ 2
theorem seI_k {n W H : Nat} {A D : Nat → Nat} {M' : ms} {F' : cF} (h : seI n W H A D M F) (ha : ag [9] [8] M M') (hg : agc [501] [6] F F') : seI n W H A D M' F' := by
  unfold seI
  rw [ha.1 1 rfl, ha.1 2 rfl, ha.2 14 rfl, ha.2 15 rfl, ha.2 16 rfl, hg.1 12 0 rfl rfl, hg.1 12 1 rfl rfl, hg.1 12 2 rfl rfl, hg.1 4 8 rfl rfl, hg.2 13 rfl rfl, hg.2 14 rfl rfl]
  exact h
theorem x_tables {n W H : Nat} {A D : Nat → Nat} {x1 x2 : Int32} (hI : seI n W H A D M F) (hr : rTab M F) (hB : ∀ k, k < 128 → B 0 255 (M.2.1 5 k)) (hsl : ∀ k, k < 64 → M.2.1 22 k = nI (sl k)) (ho : rOut M F)
    (h1 : b_putSections_17 x1 x2 (nI (if n = 1 then 1 else 2)) M K1) (h2 : p_Pa_writeTables UL 4 3 (F, L, PC a b P) K2) :
    ∃ M' F', ag [9] [8] M M' ∧ agc [501] [6] F F' ∧ rOut M' F' ∧ b_putSections_38 x1 x2 (nI (if n = 1 then 1 else 2)) (nI (if n = 1 then 1 else 2)) M' (fun zx1 zx2 zx3 zx4 zS => e_putSections_38 zx1 zx2 zx3 zx4 zS K1) K1 ∧ K2 (F', L, PC a b P) := by
  have k2 : (if n = 1 then 1 else 2) ≤ 2 := by split <;> decide
  unfold b_putSections_17 at h1
  unfold p_Pa_writeTables at h2
  obtain ⟨T, G, a1, a2, a3, h1, h2⟩ := x_mark ⟨by decide, by decide⟩ ho h1 h2
  obtain ⟨-, -, h2⟩ := h2
  have hI1 := seI_k hI a1 a2
  have h2 : p_Ro_addTwo UL 5 (2 + (65 * G 4 8)) (G, L, PC a b P) _ := h2
  rw [hI1.2.2.2.2.2.2.2.1] at h2
  obtain ⟨T2, G2, b1, b2, b3, h1, h2⟩ := x_two (M := (T.1, T.2.1, T.2.2)) a3 h1 h2
  have am := ag_tr a1 b1 rfl rfl
  have gm := agc_tr a2 b2 rfl rfl
  -- by what is left of the tables
  have go : ∀ d t X Y, (if n = 1 then 1 else 2) - t = d → t ≤ (if n = 1 then 1 else 2) → e_putSections_38 x1 x2 (nI (if n = 1 then 1 else 2)) (nI t) X K1 → e_Pa_writeTables_25 UL 4 3 (nI t) (Y, L, PC a b P) K2 → ag [9] [8] M X → agc [501] [6] F Y → rOut X Y → ∃ M' F', ag [9] [8] M M' ∧ agc [501] [6] F F' ∧ rOut M' F' ∧ b_putSections_38 x1 x2 (nI (if n = 1 then 1 else 2)) (nI (if n = 1 then 1 else 2)) M' (fun zx1 zx2 zx3 zx4 zS => e_putSections_38 zx1 zx2 zx3 zx4 zS K1) K1 ∧ K2 (F', L, PC a b P) := by
    intro d
    induction d with
    | zero =>
      intro t X Y hd ht hx h2 ha hg ho
      have et : t = if n = 1 then 1 else 2 := by omega
      have h2 := r_e_Pa_writeTables_25 h2
      unfold b_Pa_writeTables_25 at h2
      have h2 := h2.1 (by show Y 4 8 ≤ nI t; rw [(seI_k hI ha hg).2.2.2.2.2.2.2.1, et]; exact Int32.le_refl _)
      rw [et] at hx
      exact ⟨X, Y, ha, hg, ho, r_e_putSections_38 hx, h2⟩
    | succ d ih =>
      intro t X Y hd ht hx h2 ha hg ho
      have hb := r_e_putSections_38 hx
      unfold b_putSections_38 at hb
      have hb := hb.2 (nI_ge (by omega) (by omega))
      have h2 := r_e_Pa_writeTables_25 h2
      unfold b_Pa_writeTables_25 at h2
      obtain ⟨-, -, h2⟩ := h2.2 (by show ¬ Y 4 8 ≤ nI t; rw [(seI_k hI ha hg).2.2.2.2.2.2.2.1]; exact nI_ge (by omega) (by omega))
      have h2 : p_Ro_add UL 5 (nI t) (Y, L, PC a b P) _ := h2
      obtain ⟨X2, Y2, c1, c2, c3, hb, h2⟩ := x_b (nB (by omega)) ho hb h2
      have ha2 := ag_tr ha c1 rfl rfl
      have hg2 := agc_tr hg c2 rfl rfl
      obtain ⟨X3, Y3, d1, d2, d3, hb, h2⟩ := x_tab53 (M := (X2.1, X2.2.1, X2.2.2)) (by omega) (by intro k hk; rw [hg2.2 3 rfl rfl]; show F 3 k = X2.2.1 5 k; rw [ha2.2 5 rfl]; exact hr k hk) (by intro k hk; show B 0 255 (X2.2.1 5 k); rw [ha2.2 5 rfl]; exact hB k hk) (by intro k hk; show X2.2.1 22 k = _; rw [ha2.2 22 rfl]; exact hsl k hk) c3 hb h2
      rw [nI_1] at hb h2
      exact ih (t + 1) X3 Y3 (by omega) (by omega) hb h2 (ag_tr ha2 d1 rfl rfl) (agc_tr hg2 d2 rfl rfl) d3
  exact go _ 0 T2 G2 rfl (Nat.zero_le _) h1 h2 am gm b3
end SEC
section SEC2
variable {M : ms} {F : cF} {L : cL} {a b : Bool} {P : Nat → Nat → Nat} {K1 : ms → Prop} {K2 : cs → Prop} {n W H : Nat} {A D : Nat → Nat}
/-- the frame: from the last table on -/
theorem x_frame {x1 x3 : Int32} (hI : seI n W H A D M F) (ho : rOut M F) {R38 : Int32 → Int32 → Int32 → Int32 → ms → Prop} (h1 : b_putSections_38 x1 (nI n) x3 x3 M R38 K1) (h2 : p_Pa_writeFrame UL 4 (F, L, PC a b P) K2) :
    ∃ M' F', ag [9] [8] M M' ∧ agc [501] [6] F F' ∧ rOut M' F' ∧ b_putSections_141 x1 (nI n) x3 (nI n) M' (fun zx1 zx2 zx3 zx4 zS => e_putSections_141 zx1 zx2 zx3 zx4 zS K1) K1 ∧ K2 (F', L, PC a b P) := by
  have n3 : n ≤ 3 := by rcases hI.1 with e | e <;> omega
  unfold b_putSections_38 at h1
  have h1 := h1.1 (Int32.le_refl _)
  unfold p_Pa_writeFrame at h2
  obtain ⟨T1, G1, a1, c1, o1, h1, h2⟩ := x_mark ⟨by decide, by decide⟩ ho h1 h2
  obtain ⟨-, -, -, -, h2⟩ := h2
  have i1 := seI_k hI a1 c1
  have h2 : p_Ro_addTwo UL 5 (8 + (3 * G1 12 2)) (G1, L, PC a b P) _ := h2
  rw [i1.2.2.2.2.2.2.1] at h2
  obtain ⟨T2, G2, a2, c2, o2, h1, h2⟩ := x_two (M := (T1.1, T1.2.1, T1.2.2)) o1 h1 h2
  obtain ⟨-, -, h2⟩ := h2
  have h2 : p_Ro_add UL 5 8 (G2, L, PC a b P) _ := h2
  obtain ⟨T3, G3, a3, c3, o3, h1, h2⟩ := x_b (M := (T2.1, T2.2.1, T2.2.2)) ⟨by decide, by decide⟩ o2 h1 h2
  obtain ⟨-, -, -, -, h2⟩ := h2
  have i3 := seI_k (seI_k i1 a2 c2) a3 c3
  have h2 : p_Ro_addTwo UL 5 (G3 12 1) (G3, L, PC a b P) _ := h2
  rw [i3.2.2.2.2.2.1, ← i3.2.2.1] at h2
  obtain ⟨T4, G4, a4, c4, o4, h1, h2⟩ := x_two (M := (T3.1, T3.2.1, T3.2.2)) o3 h1 h2
  obtain ⟨-, -, -, -, h2⟩ := h2
  have i4 := seI_k i3 a4 c4
  have h2 : p_Ro_addTwo UL 5 (G4 12 0) (G4, L, PC a b P) _ := h2
  rw [i4.2.2.2.2.1, ← i4.2.1] at h2
  obtain ⟨T5, G5, a5, c5, o5, h1, h2⟩ := x_two (M := (T4.1, T4.2.1, T4.2.2)) o4 h1 h2
  obtain ⟨-, -, -, -, h2⟩ := h2
  have i5 := seI_k i4 a5 c5
  have h2 : p_Ro_add UL 5 (G5 12 2) (G5, L, PC a b P) _ := h2
  rw [i5.2.2.2.2.2.2.1] at h2
  obtain ⟨T6, G6, a6, c6, o6, h1, h2⟩ := x_b (M := (T5.1, T5.2.1, T5.2.2)) (nB (by omega)) o5 h1 h2
  have am : ag [9] [8] M T6 := ag_tr (ag_tr (ag_tr (ag_tr (ag_tr a1 a2 rfl rfl) a3 rfl rfl) a4 rfl rfl) a5 rfl rfl) a6 rfl rfl
  have gm : agc [501] [6] F G6 := agc_tr (agc_tr (agc_tr (agc_tr (agc_tr c1 c2 rfl rfl) c3 rfl rfl) c4 rfl rfl) c5 rfl rfl) c6 rfl rfl
  have go : ∀ d t X Y, n - t = d → t ≤ n → e_putSections_141 x1 (nI n) x3 (nI t) X K1 → e_Pa_writeFrame_79 UL 4 (nI t) (Y, L, PC a b P) K2 → ag [9] [8] M X → agc [501] [6] F Y → rOut X Y → ∃ M' F', ag [9] [8] M M' ∧ agc [501] [6] F F' ∧ rOut M' F' ∧ b_putSections_141 x1 (nI n) x3 (nI n) M' (fun zx1 zx2 zx3 zx4 zS => e_putSections_141 zx1 zx2 zx3 zx4 zS K1) K1 ∧ K2 (F', L, PC a b P) := by
    intro d
    induction d with
    | zero =>
      intro t X Y hd ht hx h2 ha hg ho
      have et : t = n := by omega
      have h2 := r_e_Pa_writeFrame_79 h2
      unfold b_Pa_writeFrame_79 at h2
      obtain ⟨-, -, h2⟩ := h2
      have h2 := h2.1 (by show Y 12 2 ≤ nI t; rw [(seI_k hI ha hg).2.2.2.2.2.2.1, et]; exact Int32.le_refl _)
      rw [et] at hx
      exact ⟨X, Y, ha, hg, ho, r_e_putSections_141 hx, h2⟩
    | succ d ih =>
      intro t X Y hd ht hx h2 ha hg ho
      have iX := seI_k hI ha hg
      have hb := r_e_putSections_141 hx
      unfold b_putSections_141 at hb
      have hb := hb.2 (nI_ge (by omega) (by omega))
      have h2 := r_e_Pa_writeFrame_79 h2
      unfold b_Pa_writeFrame_79 at h2
      obtain ⟨-, -, h2⟩ := h2
      obtain ⟨-, -, h2⟩ := h2.2 (by show ¬ Y 12 2 ≤ nI t; rw [iX.2.2.2.2.2.2.1]; exact nI_ge (by omega) (by omega))
      have h2 : p_Ro_add UL 5 (nI t + 1) (Y, L, PC a b P) _ := h2
      rw [nI_1] at hb h2
      obtain ⟨X2, Y2, d1, d2, d3, hb, h2⟩ := x_b (nB (by omega)) ho hb h2
      obtain ⟨-, -, hb⟩ := hb
      obtain ⟨-, -, -, -, -, -, -, -, -, -, -, h2⟩ := h2
      have i2 := seI_k iX d1 d2
      have gl := i2.2.2.2.2.2.2.2.2.2 t (by omega)
      have ct : (nI t).toNatClampNeg = t := nI_clamp (by omega)
      have h2 : p_Ro_add UL 5 ((16 * Y2 13 (nI t).toNatClampNeg) + Y2 14 (nI t).toNatClampNeg) (Y2, L, PC a b P) _ := h2
      rw [ct, gl.2.2.1, gl.2.2.2.1, show (16 : Int32) = nI 16 from rfl, pk_mul, nI_add] at h2
      rw [ct, gl.1, gl.2.1, show (16 : Int32) = nI 16 from rfl, pk_mul, nI_add] at hb
      obtain ⟨X3, Y3, e1, e2, e3, hb, h2⟩ := x_b (M := (X2.1, X2.2.1, X2.2.2)) (nB (by omega)) d3 hb h2
      obtain ⟨-, h2⟩ := h2
      have h2 := q_kindOf (by omega) h2
      obtain ⟨-, h2⟩ := h2
      have h2 : p_Ro_add UL 5 (if t = 0 then 0 else 1) (Y3, L, PC a b P) _ := h2
      have hb : p_put (if t = 0 then 0 else 1) (X3.1, X3.2.1, X3.2.2) (fun Z => e_putSections_141 x1 (nI n) x3 (nI t + 1) Z K1) := by
        by_cases t0 : t = 0
        · rw [if_pos t0]
          have hb := hb.2 (by rw [t0]; rfl)
          unfold b_putSections_188 at hb
          exact hb
        · rw [if_neg t0]
          have hb := hb.1 (nI_ne0 (by omega) (by omega))
          unfold b_putSections_188 at hb
          exact hb
      obtain ⟨X4, Y4, f1, f2, f3, hb, h2⟩ := x_b (M := (X3.1, X3.2.1, X3.2.2)) (by split <;> exact ⟨by decide, by decide⟩) e3 hb h2
      rw [nI_1] at hb
      exact ih (t + 1) X4 Y4 (by omega) (by omega) hb h2 (ag_tr (ag_tr (ag_tr ha d1 rfl rfl) e1 rfl rfl) f1 rfl rfl) (agc_tr (agc_tr (agc_tr hg d2 rfl rfl) e2 rfl rfl) f2 rfl rfl) f3
  exact go _ 0 T6 G6 rfl (Nat.zero_le _) h1 h2 am gm o6
/-- the scan's head -/
theorem x_scanh (hI : seI n W H A D M F) (ho : rOut M F) (h1 : b_putSections_297 (nI n) M K1) (h2 : p_Pa_writeScan UL 4 (F, L, PC a b P) K2) :
    ∃ M' F', ag [9] [8] M M' ∧ agc [501] [6] F F' ∧ rOut M' F' ∧ K1 M' ∧ K2 (F', L, PC a b P) := by
  have n3 : n ≤ 3 := by rcases hI.1 with e | e <;> omega
  unfold b_putSections_297 at h1
  unfold p_Pa_writeScan at h2
  obtain ⟨T1, G1, a1, c1, o1, h1, h2⟩ := x_mark ⟨by decide, by decide⟩ ho h1 h2
  obtain ⟨-, -, -, -, h2⟩ := h2
  have i1 := seI_k hI a1 c1
  have h2 : p_Ro_addTwo UL 5 (6 + (2 * G1 12 2)) (G1, L, PC a b P) _ := h2
  rw [i1.2.2.2.2.2.2.1] at h2
  obtain ⟨T2, G2, a2, c2, o2, h1, h2⟩ := x_two (M := (T1.1, T1.2.1, T1.2.2)) o1 h1 h2
  obtain ⟨-, -, -, -, h2⟩ := h2
  have i2 := seI_k i1 a2 c2
  have h2 : p_Ro_add UL 5 (G2 12 2) (G2, L, PC a b P) _ := h2
  rw [i2.2.2.2.2.2.2.1] at h2
  obtain ⟨T3, G3, a3, c3, o3, h1, h2⟩ := x_b (M := (T2.1, T2.2.1, T2.2.2)) (nB (by omega)) o2 h1 h2
  have am := ag_tr (ag_tr a1 a2 rfl rfl) a3 rfl rfl
  have gm := agc_tr (agc_tr c1 c2 rfl rfl) c3 rfl rfl
  have go : ∀ d t X Y, n - t = d → t ≤ n → e_putSections_322 (nI n) (nI t) X K1 → e_Pa_writeScan_42 UL 4 (nI t) (Y, L, PC a b P) K2 → ag [9] [8] M X → agc [501] [6] F Y → rOut X Y → ∃ M' F', ag [9] [8] M M' ∧ agc [501] [6] F F' ∧ rOut M' F' ∧ K1 M' ∧ K2 (F', L, PC a b P) := by
    intro d
    induction d with
    | zero =>
      intro t X Y hd ht hx h2 ha hg ho
      have et : t = n := by omega
      have hb := r_e_putSections_322 hx
      unfold b_putSections_322 at hb
      have hb := hb.1 (by rw [et]; exact Int32.le_refl _)
      have h2 := r_e_Pa_writeScan_42 h2
      unfold b_Pa_writeScan_42 at h2
      obtain ⟨-, -, h2⟩ := h2
      obtain ⟨-, -, h2⟩ := h2.1 (by show Y 12 2 ≤ nI t; rw [(seI_k hI ha hg).2.2.2.2.2.2.1, et]; exact Int32.le_refl _)
      have h2 : p_Ro_add UL 5 0 (Y, L, PC a b P) _ := h2
      obtain ⟨X1, Y1, d1, d2, d3, hb, h2⟩ := x_b ⟨by decide, by decide⟩ ho hb h2
      obtain ⟨-, -, h2⟩ := h2
      have h2 : p_Ro_add UL 5 63 (Y1, L, PC a b P) _ := h2
      obtain ⟨X2, Y2, e1, e2, e3, hb, h2⟩ := x_b (M := (X1.1, X1.2.1, X1.2.2)) ⟨by decide, by decide⟩ d3 hb h2
      obtain ⟨-, -, h2⟩ := h2
      have h2 : p_Ro_add UL 5 0 (Y2, L, PC a b P) _ := h2
      obtain ⟨X3, Y3, f1, f2, f3, hb, h2⟩ := x_b (M := (X2.1, X2.2.1, X2.2.2)) ⟨by decide, by decide⟩ e3 hb h2
      exact ⟨X3, Y3, ag_tr (ag_tr (ag_tr ha d1 rfl rfl) e1 rfl rfl) f1 rfl rfl, agc_tr (agc_tr (agc_tr hg d2 rfl rfl) e2 rfl rfl) f2 rfl rfl, f3, hb, h2⟩
    | succ d ih =>
      intro t X Y hd ht hx h2 ha hg ho
      have iX := seI_k hI ha hg
      have hb := r_e_putSections_322 hx
      unfold b_putSections_322 at hb
      have hb := hb.2 (nI_ge (by omega) (by omega))
      have h2 := r_e_Pa_writeScan_42 h2
      unfold b_Pa_writeScan_42 at h2
      obtain ⟨-, -, h2⟩ := h2
      obtain ⟨-, -, h2⟩ := h2.2 (by show ¬ Y 12 2 ≤ nI t; rw [iX.2.2.2.2.2.2.1]; exact nI_ge (by omega) (by omega))
      have h2 : p_Ro_add UL 5 (nI t + 1) (Y, L, PC a b P) _ := h2
      rw [nI_1] at hb h2
      obtain ⟨X2, Y2, d1, d2, d3, hb, h2⟩ := x_b (nB (by omega)) ho hb h2
      obtain ⟨-, h2⟩ := h2
      have h2 := q_kindOf (by omega) h2
      obtain ⟨-, h2⟩ := h2
      have h2 : p_Ro_add UL 5 (17 * (if t = 0 then 0 else 1)) (Y2, L, PC a b P) _ := h2
      have hb : p_put (17 * (if t = 0 then 0 else 1)) (X2.1, X2.2.1, X2.2.2) (fun Z => e_putSections_322 (nI n) (nI t + 1) Z K1) := by
        by_cases t0 : t = 0
        · rw [if_pos t0, show (17 * 0 : Int32) = 0 from rfl]
          have hb := hb.2 (by rw [t0]; rfl)
          unfold b_putSections_348 at hb
          exact hb
        · rw [if_neg t0, show (17 * 1 : Int32) = 17 from rfl]
          have hb := hb.1 (nI_ne0 (by omega) (by omega))
          unfold b_putSections_348 at hb
          exact hb
      obtain ⟨X3, Y3, e1, e2, e3, hb, h2⟩ := x_b (M := (X2.1, X2.2.1, X2.2.2)) (by split <;> exact ⟨by decide, by decide⟩) d3 hb h2
      rw [nI_1] at hb
      exact ih (t + 1) X3 Y3 (by omega) (by omega) hb h2 (ag_tr (ag_tr ha d1 rfl rfl) e1 rfl rfl) (agc_tr (agc_tr hg d2 rfl rfl) e2 rfl rfl) e3
  exact go _ 0 T3 G3 rfl (Nat.zero_le _) h1 h2 am gm o3
end SEC2

/-! SECTIONS: the codes -/
section OWN
variable {M : ms} {F : cF} {L : cL} {a b : Bool} {P : Nat → Nat → Nat} {K1 : ms → Prop} {K2 : cs → Prop} {c v : Nat} {ln : Nat → Nat}
/-- a code as both sides have it -/
def owI (c v : Nat) (ln : Nat → Nat) (M : ms) (F : cF) : Prop := (∀ t, t < 256 → M.2.1 27 (257 * c + t) = nI (ln t) ∧ ln t ≤ 16) ∧ ln 255 = 0 ∧ gvI c v ln M F 17 0
theorem owI_k {M' : ms} {F' : cF} (hv : isOc v) (h : owI c v ln M F) (ha : ag [9] [8] M M') (hg : agc [501] [6] F F') : owI c v ln M' F' := by
  have f3 : F' (v + 3) = F (v + 3) := by rcases hv with rfl | rfl | rfl | rfl <;> exact hg.2 _ rfl rfl
  have f4 : F' (v + 4) = F (v + 4) := by rcases hv with rfl | rfl | rfl | rfl <;> exact hg.2 _ rfl rfl
  have f5 : F' (v + 5) = F (v + 5) := by rcases hv with rfl | rfl | rfl | rfl <;> exact hg.2 _ rfl rfl
  have f0 : F' v 4 = F v 4 := by rcases hv with rfl | rfl | rfl | rfl <;> exact hg.1 _ 4 rfl rfl
  unfold owI gvI
  rw [ha.2 27 rfl, ha.2 28 rfl, f3, f4, f5, f0]
  exact h
theorem ecnt_b {x s : Nat} (h255 : ln 255 = 0) : ecnt ln x s ≤ 255 := by
  unfold ecnt
  show smN _ 255 + (if 1 ≤ ln 255 ∧ _ then 1 else 0) ≤ 255
  rw [if_neg (by omega), Nat.add_zero]
  refine Nat.le_trans (smN_le (g := fun _ => 1) 255 (fun t _ => by show (if _ then 1 else 0) ≤ 1; split <;> decide)) ?_
  rw [smN_c]
  decide
theorem ecnt_m {x s s' : Nat} (h : s ≤ s') : ecnt ln x s ≤ ecnt ln x s' := smN_le 256 (fun t ht => by
  by_cases q : 1 ≤ ln t ∧ (ln t < x ∨ (ln t = x ∧ t < s))
  · rw [if_pos q, if_pos (by omega)]
    exact Nat.le_refl _
  · rw [if_neg q]
    exact Nat.zero_le _)
/-- how many have length x -/
theorem q_pc19 {x : Nat} {R7 : Int32 → Int32 → ms → Prop} (hc : c ≤ 3) (hx : 1 ≤ x ∧ x ≤ 16) (hl : ∀ t, t < 256 → M.2.1 27 (257 * c + t) = nI (ln t) ∧ ln t ≤ 16) (h : e_putCode_19 (nI c) (nI x) 0 0 M R7 K1) : p_put (nI (ecnt ln x 256 - ecnt ln x 0)) M (fun Z => R7 (nI c) (nI x + 1) Z) := by
  refine v_e_putCode_19 h (fun y4 y5 T => ∃ s, y4 = nI (ecnt ln x s - ecnt ln x 0) ∧ y5 = nI s ∧ s ≤ 256 ∧ T = M) ⟨0, by rw [Nat.sub_self]; rfl, rfl, by decide, rfl⟩ ?_
  rintro y4 y5 T R ⟨s, rfl, rfl, hs, rfl⟩ hb
  unfold b_putCode_19 at hb
  by_cases e : s = 256
  · right
    subst e
    exact hb.1 (Int32.le_refl _)
  · left
    obtain ⟨-, hb⟩ := hb.2 (nI_ge (b := 256) (by omega) (by decide))
    obtain ⟨l1, l2⟩ := hl s (by omega)
    have es := ecnt_s (ln := ln) (x := x) (s := s) (by omega) hx.1
    have em := ecnt_m (ln := ln) (x := x) (s := 0) (s' := s) (by omega)
    rw [n257, nI_clamp (show 257 * c + s < 2 ^ 31 by omega), l1] at hb
    unfold b_putCode_53 at hb
    by_cases q : ln s = x
    · have hb := hb.2 (by rw [q])
      rw [if_pos q] at es
      rw [nI_1] at hb
      exact ⟨_, _, _, hb, s + 1, by rw [es]; congr 1; omega, nI_1 s, by omega, rfl⟩
    · have hb := hb.1 (fun h => q ((nI_eq (by omega) (by omega)).mp h))
      rw [if_neg q] at es
      exact ⟨_, _, _, hb, s + 1, by rw [es, Nat.add_zero], nI_1 s, by omega, rfl⟩
theorem x_own {nm : Nat} (hc : c ≤ 3) (hv : isOc v) (hnm : nm ≤ 255) (hI : owI c v ln M F) (ho : rOut M F) (h1 : p_putCode (nI c) (nI nm) M K1) (h2 : p_Pa_writeOwnCodes UL 4 (nI nm) v (F, L, PC a b P) K2) :
    ∃ M' F', ag [9] [8] M M' ∧ agc [501] [6] F F' ∧ rOut M' F' ∧ K1 M' ∧ K2 (F', L, PC a b P) := by
  unfold p_putCode at h1
  unfold p_Pa_writeOwnCodes at h2
  obtain ⟨-, -, h2⟩ := h2
  have h2 : p_Ro_add UL 5 (nI nm) (F, L, PC a b P) _ := h2
  obtain ⟨T, G, a1, a2, a3, h1, h2⟩ := x_b (nB hnm) ho h1 h2
  -- the counts
  have cnt : ∃ X Y, ag [9] [8] M X ∧ agc [501] [6] F Y ∧ rOut X Y ∧ e_putCode_75 (nI c) 1 X K1 ∧ e_Pa_writeOwnCodes_37 UL 4 v 0 (Y, L, PC a b P) K2 := by
    refine v_e_putCode_7 h1 (fun y3 X => ∃ x Y, y3 = nI x ∧ 1 ≤ x ∧ x ≤ 17 ∧ e_Pa_writeOwnCodes_10 UL 4 v (nI x) (Y, L, PC a b P) K2 ∧ ag [9] [8] M X ∧ agc [501] [6] F Y ∧ rOut X Y) ⟨1, G, rfl, by decide, by decide, h2, a1, a2, a3⟩ ?_
    rintro y3 X R ⟨x, Y, rfl, hx1, hx, h2, ha, hg, ho⟩ hb
    unfold b_putCode_7 at hb
    have h2 := r_e_Pa_writeOwnCodes_10 h2
    unfold b_Pa_writeOwnCodes_10 at h2
    have iX := owI_k hv hI ha hg
    by_cases e : x = 17
    · right
      subst e
      exact ⟨X, Y, ha, hg, ho, hb.1 (by decide), h2.1 (by decide)⟩
    · left
      have hb := hb.2 (nI_nlt (a := 16) (by omega) (by decide))
      have hb := q_pc19 hc ⟨hx1, by omega⟩ iX.1 hb
      obtain ⟨-, -, -, -, -, -, h2⟩ := h2.2 (nI_nlt (a := 16) (by omega) (by decide))
      dsimp only at h2
      rw [op5 hv, nI_clamp (show x < 2 ^ 31 by omega), iX.2.2.2.2 x hx1 (by omega)] at h2
      have h2 : p_Ro_add UL 5 (nI (ecnt ln x 256 - ecnt ln x 0)) (Y, L, PC a b P) _ := h2
      have eb := ecnt_b (x := x) (s := 256) iX.2.1
      obtain ⟨X2, Y2, d1, d2, d3, hb, h2⟩ := x_b (nB (by omega)) ho hb h2
      rw [nI_1] at h2
      exact ⟨_, _, hb, x + 1, Y2, nI_1 x, by omega, by omega, h2, ag_tr ha d1 rfl rfl, agc_tr hg d2 rfl rfl, d3⟩
  obtain ⟨X0, Y0, b1, b2, b3, h1, h2⟩ := cnt
  -- the symbols
  refine v_e_putCode_75 h1 (fun y3 X => ∃ x Y, y3 = nI x ∧ 1 ≤ x ∧ x ≤ 17 ∧ e_Pa_writeOwnCodes_37 UL 4 v (nI (ecnt ln x 0)) (Y, L, PC a b P) K2 ∧ ag [9] [8] M X ∧ agc [501] [6] F Y ∧ rOut X Y) ⟨1, Y0, rfl, by decide, by decide, ?_, b1, b2, b3⟩ ?_
  · have c0 : ecnt ln 1 0 = 0 := by
      unfold ecnt
      rw [smN_congr (g := fun _ => 0) 256 (fun t _ => if_neg (by omega)), smN_c]
    rw [c0]
    exact h2
  · rintro y3 X R ⟨x, Y, rfl, hx1, hx, h2, ha, hg, ho⟩ hb
    unfold b_putCode_75 at hb
    have iX := owI_k hv hI ha hg
    by_cases e : x = 17
    · right
      subst e
      have h2 := r_e_Pa_writeOwnCodes_37 h2
      unfold b_Pa_writeOwnCodes_37 at h2
      obtain ⟨-, h2⟩ := h2
      have h2 := h2.1 (by show Y v 4 ≤ nI (ecnt ln 17 0); rw [iX.2.2.2.1]; exact Int32.le_refl _)
      exact ⟨X, Y, ha, hg, ho, hb.1 (by decide), h2⟩
    · left
      have hb := hb.2 (nI_nlt (a := 16) (by omega) (by decide))
      have row : ∃ X' Y', ag [9] [8] M X' ∧ agc [501] [6] F Y' ∧ rOut X' Y' ∧ R (nI c) (nI x + 1) X' ∧ e_Pa_writeOwnCodes_37 UL 4 v (nI (ecnt ln x 256)) (Y', L, PC a b P) K2 := by
        refine v_e_putCode_84 hb (fun y4 Z => ∃ s Q, y4 = nI s ∧ s ≤ 256 ∧ e_Pa_writeOwnCodes_37 UL 4 v (nI (ecnt ln x s)) (Q, L, PC a b P) K2 ∧ ag [9] [8] M Z ∧ agc [501] [6] F Q ∧ rOut Z Q) ⟨0, Y, rfl, by decide, h2, ha, hg, ho⟩ ?_
        rintro y4 Z R' ⟨s, Q, rfl, hs, h2, ha, hg, ho⟩ hb
        unfold b_putCode_84 at hb
        have iZ := owI_k hv hI ha hg
        by_cases e2 : s = 256
        · right
          subst e2
          exact ⟨Z, Q, ha, hg, ho, hb.1 (Int32.le_refl _), h2⟩
        · left
          obtain ⟨-, hb⟩ := hb.2 (nI_ge (b := 256) (by omega) (by decide))
          obtain ⟨l1, l2⟩ := iZ.1 s (by omega)
          have es := ecnt_s (ln := ln) (x := x) (s := s) (by omega) hx1
          rw [n257, nI_clamp (show 257 * c + s < 2 ^ 31 by omega), l1] at hb
          by_cases q : ln s = x
          · have hb := hb.2 (by rw [q])
            rw [if_pos q] at es
            have h2 := r_e_Pa_writeOwnCodes_37 h2
            unfold b_Pa_writeOwnCodes_37 at h2
            obtain ⟨-, h2⟩ := h2
            have lt : ecnt ln x s < ecnt ln 17 0 := by
              have : ecnt ln x (s + 1) ≤ ecnt ln 17 0 := smN_le 256 (fun j hj => by
                have lj := (iZ.1 j hj).2
                by_cases q3 : 1 ≤ ln j ∧ (ln j < x ∨ (ln j = x ∧ j < s + 1))
                · rw [if_pos q3, if_pos (by omega)]
                  exact Nat.le_refl _
                · rw [if_neg q3]
                  exact Nat.zero_le _)
              omega
            have eb := ecnt_b (x := 17) (s := 0) iZ.2.1
            obtain ⟨-, -, -, -, -, h2⟩ := h2.2 (by show ¬ Q v 4 ≤ nI (ecnt ln x s); rw [iZ.2.2.2.1]; exact nI_ge lt (by omega))
            dsimp only at h2
            have lr := (iZ.2.2.1 s (by omega) (by omega) (by omega)).2.2.2
            rw [q] at lr
            rw [op3 hv, nI_clamp (show ecnt ln x s < 2 ^ 31 by omega), lr] at h2
            have h2 : p_Ro_add UL 5 (nI s) (Q, L, PC a b P) _ := h2
            obtain ⟨Z2, Q2, d1, d2, d3, hb, h2⟩ := x_b (nB (by omega)) ho hb h2
            unfold b_putCode_115 at hb
            rw [nI_1] at h2
            exact ⟨_, _, hb, s + 1, Q2, nI_1 s, by omega, by rw [es]; exact h2, ag_tr ha d1 rfl rfl, agc_tr hg d2 rfl rfl, d3⟩
          · have hb := hb.1 (fun h => q ((nI_eq (by omega) (by omega)).mp h))
            rw [if_neg q] at es
            have es := es.trans (Nat.add_zero _)
            unfold b_putCode_115 at hb
            exact ⟨_, _, hb, s + 1, Q, nI_1 s, by omega, by rw [es]; exact h2, ha, hg, ho⟩
      obtain ⟨X', Y', c1, c2, c3, k1, k2⟩ := row
      exact ⟨_, _, k1, x + 1, Y', nI_1 x, by omega, by omega, by rw [ecnt_n]; exact k2, c1, c2, c3⟩
/-- how many symbols a code has -/
theorem q_codeSize {K : Int32 → ms → Prop} (hc : c ≤ 3) (hI : owI c v ln M F) (h : p_codeSize (nI c) M K) : K (nI (17 + ecnt ln 17 0)) M := by
  unfold p_codeSize at h
  refine v_e_codeSize_5 h (fun y2 y3 T => ∃ s, y2 = nI (17 + smN (fun t => if 1 ≤ ln t then 1 else 0) s) ∧ y3 = nI s ∧ s ≤ 256 ∧ T = M) ⟨0, rfl, rfl, by decide, rfl⟩ ?_
  rintro y2 y3 T R ⟨s, rfl, rfl, hs, rfl⟩ hb
  unfold b_codeSize_5 at hb
  by_cases e : s = 256
  · right
    subst e
    have hb := hb.1 (Int32.le_refl _)
    have ee : ecnt ln 17 0 = smN (fun t => if 1 ≤ ln t then 1 else 0) 256 := smN_congr 256 (fun t ht => by
      have := (hI.1 t ht).2
      by_cases q : 1 ≤ ln t
      · rw [if_pos q, if_pos (by omega)]
      · rw [if_neg q, if_neg (by omega)])
    rw [ee]
    exact hb
  · left
    obtain ⟨-, hb⟩ := hb.2 (nI_ge (b := 256) (by omega) (by decide))
    obtain ⟨l1, l2⟩ := hI.1 s (by omega)
    rw [n257, nI_clamp (show 257 * c + s < 2 ^ 31 by omega), l1] at hb
    unfold b_codeSize_34 at hb
    have es : smN (fun t => if 1 ≤ ln t then 1 else 0) (s + 1) = smN (fun t => if 1 ≤ ln t then 1 else 0) s + (if 1 ≤ ln s then 1 else 0) := rfl
    by_cases q : 1 ≤ ln s
    · have hb := hb.2 (nI_nle (by omega) (by omega))
      rw [if_pos q] at es
      rw [nI_1] at hb
      exact ⟨_, _, _, hb, s + 1, by rw [es, Nat.add_assoc], nI_1 s, by omega, rfl⟩
    · have hb := hb.1 (by rw [show ln s = 0 by omega]; decide)
      rw [if_neg q] at es
      exact ⟨_, _, _, hb, s + 1, by rw [es, Nat.add_zero], nI_1 s, by omega, rfl⟩
end OWN
section ALLC
variable {M : ms} {F : cF} {L : cL} {a b : Bool} {P : Nat → Nat → Nat} {K1 : ms → Prop} {K2 : cs → Prop} {kd : Nat} {ln : Nat → Nat → Nat}
theorem isoc (c : Nat) (h : c ≤ 3) : isOc (oc c) := oc_4 h
/-- all codes: kd kinds, 2 kd codes -/
theorem x_codesS {x1 x2 : Int32} (hk : kd = 1 ∨ kd = 2) (h8 : F 4 8 = nI kd) (hI : ∀ c, c < 2 * kd → owI c (oc c) (ln c) M F) (ho : rOut M F) {R141 : Int32 → Int32 → Int32 → Int32 → ms → Prop}
    (h1 : b_putSections_141 x1 x2 (nI kd) x2 M R141 K1) (h2 : p_Pa_writeCodes UL 4 (F, L, PC a b P) K2) :
    ∃ M' F', ag [9] [8] M M' ∧ agc [501] [6] F F' ∧ rOut M' F' ∧ ((x1 ≤ 0 → b_putSections_297 x2 M' K1) ∧ (¬ x1 ≤ 0 → p_mark 221 M' (fun S284 => p_putTwo 4 (S284.1, S284.2.1, S284.2.2) (fun S289 => p_putTwo x1 (S289.1, S289.2.1, S289.2.2) (fun S294 => b_putSections_297 x2 (S294.1, S294.2.1, S294.2.2) K1))))) ∧ K2 (F', L, PC a b P) := by
  have st0 : PC a b P 32 0 = oc 0 ∧ PC a b P 45 0 = oc 1 ∧ PC a b P 32 1 = oc 2 ∧ PC a b P 45 1 = oc 3 := ⟨rfl, rfl, rfl, rfl⟩
  have sum2 : ∀ c, c < 2 * kd → ecnt (ln c) 17 0 ≤ 255 := fun c hc => ecnt_b (hI c hc).2.1
  unfold b_putSections_141 at h1
  have h1 := h1.1 (Int32.le_refl _)
  unfold p_Pa_writeCodes at h2
  -- the class first counts the bytes
  have len : ∃ q : Nat, q = 2 + smN (fun c => 17 + ecnt (ln c) 17 0) (2 * kd) ∧ p_Pa_addMark UL 4 196 (F, L, PC a b P) (fun S47 => ¬ S47.2.2 4 0 = NU ∧ (c_cl UL (S47.2.2 4 0) = 9 ∧ (p_Ro_addTwo UL (S47.2.2 4 0) (nI q) S47 (fun S55 => e_Pa_writeCodes_60 UL 4 0 S55 K2)))) := by
    refine ⟨_, rfl, ?_⟩
    refine v_e_Pa_writeCodes_4 h2 (fun y1 y2 V => ∃ t, y1 = nI (2 + smN (fun c => 17 + ecnt (ln c) 17 0) (2 * t)) ∧ y2 = nI t ∧ t ≤ kd ∧ V = (F, L, PC a b P)) ⟨0, rfl, rfl, Nat.zero_le _, rfl⟩ ?_
    rintro y1 y2 V R ⟨t, rfl, rfl, ht, rfl⟩ hb
    unfold b_Pa_writeCodes_4 at hb
    have hb : (F 4 8 ≤ nI t → _) ∧ (¬ F 4 8 ≤ nI t → _) := hb
    rw [h8] at hb
    by_cases e : t = kd
    · right
      subst e
      exact hb.1 (Int32.le_refl _)
    · left
      obtain ⟨-, -, -, -, -, -, -, -, -, -, hR⟩ := hb.2 (nI_ge (by omega) (by omega))
      have ct : (nI t).toNatClampNeg = t := nI_clamp (by omega)
      have hR : R (nI (2 + smN (fun c => 17 + ecnt (ln c) 17 0) (2 * t)) + ((34 + F (PC a b P 32 (nI t).toNatClampNeg) 4) + F (PC a b P 45 (nI t).toNatClampNeg) 4)) (nI t + 1) (F, L, PC a b P) := hR
      have e4 : F (PC a b P 32 t) 4 = nI (ecnt (ln (2 * t)) 17 0) ∧ F (PC a b P 45 t) 4 = nI (ecnt (ln (2 * t + 1)) 17 0) := by
        have t01 : t = 0 ∨ t = 1 := by omega
        rcases t01 with rfl | rfl
        · exact ⟨(hI 0 (by omega)).2.2.2.1, (hI 1 (by omega)).2.2.2.1⟩
        · exact ⟨(hI 2 (by omega)).2.2.2.1, (hI 3 (by omega)).2.2.2.1⟩
      rw [ct, e4.1, e4.2, show (34 : Int32) = nI 34 from rfl, nI_add, nI_add, nI_add] at hR
      refine ⟨_, _, _, hR, t + 1, ?_, nI_1 t, by omega, rfl⟩
      congr 1
      show _ = 2 + (smN (fun c => 17 + ecnt (ln c) 17 0) (2 * t) + (17 + ecnt (ln (2 * t)) 17 0) + (17 + ecnt (ln (2 * t + 1)) 17 0))
      omega
  obtain ⟨q, hq, h2⟩ := len
  obtain ⟨T, G, a1, a2, a3, h1, h2⟩ := x_mark ⟨by decide, by decide⟩ ho h1 h2
  obtain ⟨-, -, h2⟩ := h2
  have h2 : p_Ro_addTwo UL 5 (nI q) (G, L, PC a b P) _ := h2
  have k2 : (2 * nI kd : Int32) = nI (2 * kd) := pk_mul 2 kd
  -- so does the reference
  have len2 : p_putTwo (nI q) (T.1, T.2.1, T.2.2) (fun S238 => e_putSections_244 x1 x2 (nI kd) 0 (S238.1, S238.2.1, S238.2.2) K1) := by
    refine v_e_putSections_210 h1 (fun y4 y5 X => ∃ c, y4 = nI (2 + smN (fun c => 17 + ecnt (ln c) 17 0) c) ∧ y5 = nI c ∧ c ≤ 2 * kd ∧ X = (T.1, T.2.1, T.2.2)) ⟨0, rfl, rfl, Nat.zero_le _, rfl⟩ ?_
    rintro y4 y5 X R ⟨c, rfl, rfl, hc, rfl⟩ hb
    unfold b_putSections_210 at hb
    rw [k2] at hb
    by_cases e : c = 2 * kd
    · right
      subst e
      rw [hq]
      exact hb.1 (Int32.le_refl _)
    · left
      have hb := hb.2 (nI_ge (by omega) (by omega))
      have hb := q_codeSize (v := oc c) (ln := ln c) (F := G) (M := (T.1, T.2.1, T.2.2)) (by omega) (owI_k (isoc c (by omega)) (hI c (by omega)) a1 a2) hb
      rw [nI_add] at hb
      refine ⟨_, _, _, hb, c + 1, ?_, nI_1 c, by omega, rfl⟩
      congr 1
      show _ = 2 + (smN (fun c => 17 + ecnt (ln c) 17 0) c + (17 + ecnt (ln c) 17 0))
      omega
  obtain ⟨T2, G2, b1, b2, b3, h1, h2⟩ := x_two (M := (T.1, T.2.1, T.2.2)) a3 len2 h2
  have am := ag_tr a1 b1 rfl rfl
  have gm := agc_tr a2 b2 rfl rfl
  -- the codes, two at a time
  have go : ∀ d t X Y, kd - t = d → t ≤ kd → e_putSections_244 x1 x2 (nI kd) (nI (2 * t)) X K1 → e_Pa_writeCodes_60 UL 4 (nI t) (Y, L, PC a b P) K2 → ag [9] [8] M X → agc [501] [6] F Y → rOut X Y → ∃ M' F', ag [9] [8] M M' ∧ agc [501] [6] F F' ∧ rOut M' F' ∧ ((x1 ≤ 0 → b_putSections_297 x2 M' K1) ∧ (¬ x1 ≤ 0 → p_mark 221 M' (fun S284 => p_putTwo 4 (S284.1, S284.2.1, S284.2.2) (fun S289 => p_putTwo x1 (S289.1, S289.2.1, S289.2.2) (fun S294 => b_putSections_297 x2 (S294.1, S294.2.1, S294.2.2) K1))))) ∧ K2 (F', L, PC a b P) := by
    intro d
    induction d with
    | zero =>
      intro t X Y hd ht hx h2 ha hg ho
      have et : t = kd := by omega
      have hb := r_e_putSections_244 hx
      unfold b_putSections_244 at hb
      have hb := hb.1 (by rw [k2, et]; exact Int32.le_refl _)
      have h2 := r_e_Pa_writeCodes_60 h2
      unfold b_Pa_writeCodes_60 at h2
      have h2 := h2.1 (by show Y 4 8 ≤ nI t; rw [hg.1 4 8 rfl rfl, h8, et]; exact Int32.le_refl _)
      exact ⟨X, Y, ha, hg, ho, hb, h2⟩
    | succ d ih =>
      intro t X Y hd ht hx h2 ha hg ho
      have hb := r_e_putSections_244 hx
      unfold b_putSections_244 at hb
      have hb := hb.2 (by rw [k2]; exact nI_ge (by omega) (by omega))
      have h2 := r_e_Pa_writeCodes_60 h2
      unfold b_Pa_writeCodes_60 at h2
      obtain ⟨-, -, -, -, h2⟩ := h2.2 (by show ¬ Y 4 8 ≤ nI t; rw [hg.1 4 8 rfl rfl, h8]; exact nI_ge (by omega) (by omega))
      have ct : (nI t).toNatClampNeg = t := nI_clamp (by omega)
      have n1 : ((16 * (nI (2 * t) - nI (2 * t) / 2 * 2)) + (nI (2 * t) / 2) : Int32) = nI t := by
        rw [show (nI (2 * t) - nI (2 * t) / 2 * 2 : Int32) = nI (2 * t % 2) from pk_rem (d := 2) (by omega) (by decide) (by decide), show (nI (2 * t) / 2 : Int32) = nI (2 * t / 2) from pk_div (d := 2) (by omega) (by decide) (by decide), show 2 * t % 2 = 0 by omega, show 2 * t / 2 = t by omega, show (16 * nI 0 : Int32) = nI 0 from rfl, nI_add, Nat.zero_add]
      rw [n1] at hb
      have t01 : t = 0 ∨ t = 1 := by omega
      have s32 : PC a b P 32 t = oc (2 * t) ∧ PC a b P 45 t = oc (2 * t + 1) := by rcases t01 with rfl | rfl <;> exact ⟨rfl, rfl⟩
      have h2 : p_Pa_writeOwnCodes UL 4 (nI t) (PC a b P 32 (nI t).toNatClampNeg) (Y, L, PC a b P) _ := h2
      rw [ct, s32.1] at h2
      obtain ⟨X2, Y2, d1, d2, d3, hb, h2⟩ := x_own (ln := ln (2 * t)) (by omega) (isoc _ (by omega)) (by omega) (owI_k (isoc _ (by omega)) (hI (2 * t) (by omega)) ha hg) ho hb h2
      obtain ⟨-, -, -, -, h2⟩ := h2
      rw [nI_1] at hb
      have hb := r_e_putSections_244 hb
      unfold b_putSections_244 at hb
      have hb := hb.2 (by rw [k2]; exact nI_ge (by omega) (by omega))
      have n2 : ((16 * (nI (2 * t + 1) - nI (2 * t + 1) / 2 * 2)) + (nI (2 * t + 1) / 2) : Int32) = nI (16 + t) := by
        rw [show (nI (2 * t + 1) - nI (2 * t + 1) / 2 * 2 : Int32) = nI ((2 * t + 1) % 2) from pk_rem (d := 2) (by omega) (by decide) (by decide), show (nI (2 * t + 1) / 2 : Int32) = nI ((2 * t + 1) / 2) from pk_div (d := 2) (by omega) (by decide) (by decide), show (2 * t + 1) % 2 = 1 by omega, show (2 * t + 1) / 2 = t by omega, show (16 * nI 1 : Int32) = nI 16 from rfl, nI_add]
      rw [n2] at hb
      have h2 : p_Pa_writeOwnCodes UL 4 (16 + nI t) (PC a b P 45 t) (Y2, L, PC a b P) _ := h2
      rw [s32.2, show (16 + nI t : Int32) = nI (16 + t) from nI_add 16 t] at h2
      have ha2 := ag_tr ha d1 rfl rfl
      have hg2 := agc_tr hg d2 rfl rfl
      obtain ⟨X3, Y3, e1, e2, e3, hb, h2⟩ := x_own (M := (X2.1, X2.2.1, X2.2.2)) (ln := ln (2 * t + 1)) (by omega) (isoc _ (by omega)) (by omega) (owI_k (isoc _ (by omega)) (hI (2 * t + 1) (by omega)) ha2 hg2) d3 hb h2
      rw [nI_1] at hb h2
      exact ih (t + 1) X3 Y3 (by omega) (by omega) hb h2 (ag_tr ha2 e1 rfl rfl) (agc_tr hg2 e2 rfl rfl) e3
  exact go _ 0 T2 G2 rfl (Nat.zero_le _) h1 h2 am gm b3
end ALLC

/-! LEVELS: how large they are -/
theorem s64_b {f : Nat → Int64} {c m : Int} {c0 : Int64} (hc : c0.toInt = c) (hm : 0 ≤ m ∧ m ≤ 100000000) (hcb : -100000000 ≤ c ∧ c ≤ 100000000) : ∀ n : Nat, n ≤ 8 → (∀ k, k < n → BL (-m) m (f k)) → BL (c - m * n) (c + m * n) (s64 c0 f n)
  | 0, _, _ => by
    show c - m * (0 : Nat) ≤ c0.toInt ∧ c0.toInt ≤ c + m * (0 : Nat)
    have : m * ((0 : Nat) : Int) = 0 := Int.mul_zero m
    omega
  | n + 1, hn, h => by
    have ih := s64_b (f := f) hc hm hcb n (by omega) (fun k hk => h k (by omega))
    have hk := h n (by omega)
    have e : m * ((n + 1 : Nat) : Int) = m * (n : Int) + m := by
      rw [show ((n + 1 : Nat) : Int) = (n : Int) + 1 from rfl, Int.mul_add, Int.mul_one]
    have nb : m * (n : Int) ≤ 800000000 := by
      have h1 : m * (n : Int) ≤ m * 8 := Int.mul_le_mul_of_nonneg_left (by omega) hm.1
      omega
    have i1 := ih.1
    have i2 := ih.2
    have k1 := hk.1
    have k2 := hk.2
    have ea : (s64 c0 f n + f n).toInt = (s64 c0 f n).toInt + (f n).toInt := l_add (by omega) (by omega)
    show c - m * ((n + 1 : Nat) : Int) ≤ (s64 c0 f n + f n).toInt ∧ (s64 c0 f n + f n).toInt ≤ c + m * ((n + 1 : Nat) : Int)
    rw [ea, e]
    omega
theorem hfv_b {W s : Nat → Int32} {y u : Nat} (hy : y < 8) (hu : u < 8) (hW : ∀ k, k < 64 → B (-4096) 4096 (W k)) (hs : ∀ k, k < 64 → B 0 255 (s k)) : BL (-8193) 8193 (hfv W s y u) := by
  have b := s64_b (f := fun x => (W (8 * x + u)).toInt64 * ((s (8 * y + x) - 128).toInt64)) (c0 := 256) (c := 256) (m := 524288) (by decide) (by decide) (by decide) 8 (by decide) (fun k hk => (l_mul (m := 4096) (n := 128) (l_of (hW _ (by omega))) (l_of (B_w (B_sub (hs _ (by omega)) (show B 128 128 (128 : Int32) from ⟨by decide, by decide⟩) (by decide) (by decide)) (by decide) (by decide))) (by decide)).2)
  have b1 := b.1
  have b2 := b.2
  unfold hfv BL
  rw [l_shr (k := 9) (by decide)]
  have e9 : (2 : Int) ^ 9 = 512 := by decide
  rw [e9]
  omega
theorem wgv_b {W : Nat → Int32} {h : Nat → Int64} {v u : Nat} (hv : v < 8) (hu : u < 8) (hW : ∀ k, k < 64 → B (-4096) 4096 (W k)) (hh : ∀ k, k < 64 → BL (-8193) 8193 (h k)) : B (-2049) 2049 (wgv W h v u) := by
  have b := s64_b (f := fun y => (W (8 * y + v)).toInt64 * h (8 * y + u)) (c0 := 65536) (c := 65536) (m := 33558528) (by decide) (by decide) (by decide) 8 (by decide) (fun k hk => (l_mul (m := 4096) (n := 8193) (l_of (hW _ (by omega))) (hh _ (by omega)) (by decide)).2)
  have b1 := b.1
  have b2 := b.2
  have hs : (s64 65536 (fun y => (W (8 * y + v)).toInt64 * h (8 * y + u)) 8 >>> ((17 : Int32).toInt64 &&& 63 : Int64) : Int64).toInt = (s64 65536 (fun y => (W (8 * y + v)).toInt64 * h (8 * y + u)) 8).toInt / 131072 := by
    rw [l_shr (k := 17) (by decide)]
    rfl
  unfold wgv
  exact l_i32 ⟨by omega, by omega⟩ (by decide) (by decide)
theorem lvv_b {f e : Int32} (hf : B (-2049) 2049 f) (he : B 1 255 e) : B (-2049) 2049 (lvv f e) := by
  have e1 := he.1
  have e2 := he.2
  have f1 := hf.1
  have f2 := hf.2
  have d2 : (e / 2).toInt = e.toInt / 2 := t_div he (show B 2 2 (2 : Int32) from ⟨by decide, by decide⟩) (by decide) (by decide)
  -- the quotient of 0 .. 2049 and half a table's entry
  have q : ∀ g : Int32, 0 ≤ g.toInt → g.toInt ≤ 2049 → B 0 2049 ((g + e / 2) / e) := by
    intro g g1 g2
    have es : (g + e / 2).toInt = g.toInt + e.toInt / 2 := by
      rw [t_add (a := 0) (b := 2049) (c := 0) (d := 127) ⟨g1, g2⟩ ⟨by omega, by omega⟩ (by decide) (by decide), d2]
    have ed : ((g + e / 2) / e).toInt = (g.toInt + e.toInt / 2) / e.toInt := by
      rw [t_div (a := 0) (b := 2176) (c := 1) (d := 255) ⟨by omega, by omega⟩ he (by decide) (by decide), es]
    unfold B
    rw [ed]
    refine ⟨Int.ediv_nonneg (by omega) (by omega), ?_⟩
    refine Int.ediv_le_of_le_mul (by omega) ?_
    omega
  unfold lvv
  by_cases c : 0 ≤ f
  · rw [if_pos c]
    have c := i_le c
    have z0 : (0 : Int32).toInt = 0 := by decide
    exact B_w (q f (by omega) f2) (by decide) (by decide)
  · rw [if_neg c]
    have c := i_lt (nle_lt c)
    have z0 : (0 : Int32).toInt = 0 := by decide
    have en : (-f).toInt = -f.toInt := t_neg hf (by decide)
    have b := q (-f) (by omega) (by omega)
    have b1 := b.1
    have b2 := b.2
    have en2 : (-((-f + e / 2) / e)).toInt = -((-f + e / 2) / e).toInt := t_neg b (by decide)
    unfold B
    rw [en2]
    omega
theorem lvk_b {W en blk : Nat → Int32} {k : Nat} (hW : ∀ k, k < 64 → B (-4096) 4096 (W k)) (he : ∀ k, k < 64 → B 1 255 (en k)) (hb : ∀ k, k < 64 → B 0 255 (blk k)) : B (-2049) 2049 (lvk W en blk k) := by
  have h := sl_lt k
  unfold lvk
  exact lvv_b (wgv_b (by omega) (by omega) hW (fun j hj => hfv_b (by omega) (by omega) hW hb)) (he _ h)

/-! LEVELS of all blocks: which are made; the reference's side -/
/-- the blocks of Q are told by LV, all else is as in f0 -/
def md (LV : Nat → Nat → Int32) (Q : Nat → Prop) (f f0 : Nat → Int32) : Prop := (∀ m q, Q m → q < 64 → f (64 * m + q) = LV m q) ∧ ∀ j, ¬ Q (j / 64) → f j = f0 j
section MD
variable {LV LV' : Nat → Nat → Int32} {Q Q' : Nat → Prop} {f f' f0 f0' : Nat → Int32}
theorem md_s {m : Nat} (h : md LV Q f f0) (hf : ∀ j, f' j = if 64 * m ≤ j ∧ j < 64 * m + 64 then LV m (j - 64 * m) else f j) (hQ : ∀ x, Q' x ↔ (Q x ∨ x = m)) : md LV Q' f' f0 := by
  refine ⟨fun x q hx hq => ?_, fun j hj => ?_⟩
  · rw [hf]
    by_cases e : x = m
    · rw [e, if_pos (by omega), show 64 * m + q - 64 * m = q by omega]
    · rw [if_neg (by omega)]
      rcases (hQ x).mp hx with h1 | h1
      · exact h.1 x q h1 hq
      · exact absurd h1 e
  · have h1 : ¬ Q (j / 64) := fun q => hj ((hQ _).mpr (Or.inl q))
    have h2 : ¬ j / 64 = m := fun q => hj ((hQ _).mpr (Or.inr q))
    rw [hf, if_neg (by omega)]
    exact h.2 j h1
theorem md_i (h : md LV Q f f0) (hQ : ∀ x, Q' x ↔ Q x) : md LV Q' f f0 := ⟨fun m q hm hq => h.1 m q ((hQ m).mp hm) hq, fun j hj => h.2 j (fun q => hj ((hQ _).mpr q))⟩
theorem md_eq (h : md LV Q f f0) (h' : md LV' Q' f' f0') (hQ : ∀ x, x < 192 → (Q x ↔ Q' x)) (hL : ∀ m q, Q m → m < 192 → q < 64 → LV m q = LV' m q) (h0 : ∀ j, j < 12288 → f0 j = f0' j) : ∀ j, j < 12288 → f j = f' j := by
  intro j hj
  have e : 64 * (j / 64) + j % 64 = j := by omega
  by_cases q : Q (j / 64)
  · have a1 := h.1 (j / 64) (j % 64) q (by omega)
    have a2 := h'.1 (j / 64) (j % 64) ((hQ _ (by omega)).mp q) (by omega)
    rw [e] at a1 a2
    rw [a1, a2]
    exact hL _ _ q (by omega) (by omega)
  · rw [h.2 j q, h'.2 j (fun x => q ((hQ _ (by omega)).mpr x))]
    exact h0 j hj
theorem md_b {lo hi : Int} (h : md LV Q f f0) (hL : ∀ m q, Q m → q < 64 → B lo hi (LV m q)) (h0 : ∀ j, j < 12288 → B lo hi (f0 j)) : ∀ j, j < 12288 → B lo hi (f j) := by
  intro j hj
  have e : 64 * (j / 64) + j % 64 = j := by omega
  by_cases q : Q (j / 64)
  · have a1 := h.1 (j / 64) (j % 64) q (by omega)
    rw [e] at a1
    rw [a1]
    exact hL _ _ q (by omega)
  · rw [h.2 j q]
    exact h0 j hj
end MD
/-- the levels of block m (64 times its layer, and its number there) -/
def LVg (Wv e5 : Nat → Int32) (rs : Nat → Nat → Nat → Int32) (n W H : Nat) (A D : Nat → Nat) (m q : Nat) : Int32 := lvk Wv (fun j => e5 ((if m / 64 = 0 then 0 else 64) + j)) (bkf (rs (m / 64)) (up (W * A (m / 64)) (mx A n)) (up (H * D (m / 64)) (mx D n)) (A (m / 64) * up W (8 * mx A n)) (m % 64)) q
theorem LVg_at {Wv e5 : Nat → Int32} {rs : Nat → Nat → Nat → Int32} {n W H : Nat} {A D : Nat → Nat} {l bk : Nat} (hb : bk < 64) (q : Nat) : LVg Wv e5 rs n W H A D (64 * l + bk) q = lvk Wv (fun j => e5 ((if l = 0 then 0 else 64) + j)) (bkf (rs l) (up (W * A l) (mx A n)) (up (H * D l) (mx D n)) (A l * up W (8 * mx A n)) bk) q := by
  unfold LVg
  rw [show (64 * l + bk) / 64 = l by omega, show (64 * l + bk) % 64 = bk by omega]
/-- how many blocks of a layer stand in a row of what is packed -/
def bxw (n W : Nat) (A : Nat → Nat) (l : Nat) : Nat := if n = 1 then up (up (W * A l) (mx A n)) 8 else A l * up W (8 * mx A n)
theorem bxw_b {n W l : Nat} {A : Nat → Nat} (hW : 1 ≤ W ∧ W ≤ 64) (hl : l < n) (hA : ∀ l, l < n → A l = 1 ∨ A l = 2) : 1 ≤ bxw n W A l ∧ bxw n W A l ≤ A l * up W (8 * mx A n) ∧ A l * up W (8 * mx A n) ≤ 8 := by
  have m1 := mx_12 n hA
  have ma := mx_ge (A := A) n l hl
  have al := hA l hl
  unfold bxw
  by_cases e : n = 1
  · rw [if_pos e]
    subst e
    have l0 : l = 0 := by omega
    subst l0
    have em : mx A 1 = A 0 := by
      show max 1 (A 0) = A 0
      omega
    rw [em]
    unfold up
    rcases al with e | e <;> rw [e] <;> omega
  · rw [if_neg e]
    unfold up
    rcases al with e | e <;> rcases m1 with d | d <;> rw [e, d] <;> omega
/-- the k-th block of what is packed of a layer -/
theorem bno_b {bx b2 gw gh k : Nat} (hbx : 1 ≤ bx ∧ bx ≤ gw) (hb2 : b2 ≤ gh) (hw : gw ≤ 8) (hh : gh ≤ 8) (hk : k < bx * b2) : k / bx * gw + k % bx < gw * gh ∧ k / bx * gw + k % bx < 64 ∧ k < 64 := by
  have d : k / bx < b2 := Nat.div_lt_of_lt_mul hk
  have m := Nat.mod_lt k (show 0 < bx by omega)
  have e : k / bx * gw + gw ≤ gh * gw := by
    rw [← Nat.succ_mul]
    exact Nat.mul_le_mul_right gw (by omega)
  have g : gh * gw ≤ 8 * 8 := Nat.mul_le_mul hh hw
  have g2 : bx * b2 ≤ 8 * 8 := Nat.mul_le_mul (by omega) (by omega)
  rw [Nat.mul_comm gw gh]
  omega
section REF
variable {S : ms} {n W H : Nat} {A D : Nat → Nat} {x3 : Int32} {K : Int32 → ms → Prop}
theorem gR_k {T : ms} {q : Nat} {fs rs : List Nat} (g : gR q S n W H A D) (ha : ag fs rs S T) (h12 : rs.contains 12 = false) (h13 : rs.contains 13 = false) (h14 : rs.contains 14 = false) (h15 : rs.contains 15 = false) (h16 : rs.contains 16 = false) : gR q T n W H A D := by
  unfold gR
  rw [ha.2 12 h12, ha.2 13 h13, ha.2 14 h14, ha.2 15 h15, ha.2 16 h16]
  exact g
theorem gG2_k {T : ms} {q : Nat} {fs rs : List Nat} (g : gG2 q S n W H A D) (ha : ag fs rs S T) (h17 : rs.contains 17 = false) (h18 : rs.contains 18 = false) : gG2 q T n W H A D := by
  unfold gG2
  rw [ha.2 17 h17, ha.2 18 h18]
  exact g
theorem q_pk225 {l bx b2 : Nat} {f0 : Nat → Int32} {rs : Nat → Nat → Nat → Int32} {Q : Nat → Prop} {R145 : Int32 → Int32 → ms → Prop} (g : gR 0 S n W H A D) (gg : gG2 0 S n W H A D) (hl : l < n) (hbx : 1 ≤ bx ∧ bx ≤ A l * up W (8 * mx A n)) (hb2 : b2 ≤ D l * up H (8 * mx D n)) (hw8 : A l * up W (8 * mx A n) ≤ 8) (hh8 : D l * up H (8 * mx D n) ≤ 8) (ho : ∀ k, k < 64 → S.2.1 22 k = nI (sl k))
    (hrs : ∀ x y, x < up (W * A l) (mx A n) → y < up (H * D l) (mx D n) → S.2.1 21 (64 * y + x) = rs l x y) (hm : md (LVg (S.2.1 23) (S.2.1 5) rs n W H A D) Q (S.2.1 19) f0) (h : e_pack_225 x3 (nI l) (nI bx) (nI b2) 0 S R145 K) :
    ∃ Z, ag [] [19, 25] S Z ∧ md (LVg (S.2.1 23) (S.2.1 5) rs n W H A D) (fun x => Q x ∨ ∃ k, k < bx * b2 ∧ x = 64 * l + (k / bx * (A l * up W (8 * mx A n)) + k % bx)) (Z.2.1 19) f0 ∧ R145 x3 (nI l + 1) Z := by
  have n3 := g.n3
  have bb : bx * b2 ≤ 8 * 8 := Nat.mul_le_mul (by omega) (by omega)
  refine v_e_pack_225 h (fun y7 T => ∃ k, y7 = nI k ∧ k ≤ bx * b2 ∧ ag [] [19, 25] S T ∧ md (LVg (S.2.1 23) (S.2.1 5) rs n W H A D) (fun x => Q x ∨ ∃ k', k' < k ∧ x = 64 * l + (k' / bx * (A l * up W (8 * mx A n)) + k' % bx)) (T.2.1 19) f0) ⟨0, rfl, Nat.zero_le _, ag_refl, md_i hm (fun x => ⟨fun q => q.elim id (fun ⟨_, q, _⟩ => absurd q (Nat.not_lt_zero _)), Or.inl⟩)⟩ ?_
  rintro y7 T R ⟨k, rfl, hk, ha, hmd⟩ hb
  unfold b_pack_225 at hb
  rw [pk_mul] at hb
  by_cases e : k = bx * b2
  · right
    subst e
    exact ⟨T, ha, hmd, hb.1 (Int32.le_refl _)⟩
  · left
    obtain ⟨-, -, -, hb⟩ := hb.2 (nI_ge (by omega) (by omega))
    have bn := bno_b hbx hb2 hw8 hh8 (show k < bx * b2 by omega)
    have g17 : T.2.1 17 l = nI (A l * up W (8 * mx A n)) := by
      have := (gg l hl).1
      rw [Nat.mul_zero, Nat.zero_add] at this
      rw [ha.2 17 rfl]
      exact this
    rw [nI_clamp (show l < 2 ^ 31 by omega), g17, pk_rem (by omega) (by omega) (by omega), pk_div (by omega) (by omega) (by omega), pk_mul, nI_add] at hb
    obtain ⟨Z, z1, z2, hR⟩ := q_makeLevels (rs := rs l) (gR_k g ha rfl rfl rfl rfl rfl) (gG2_k gg ha rfl rfl) hl bn.1 bn.2.1 (by rw [ha.2 22 rfl]; exact ho) (by rw [ha.2 21 rfl]; exact hrs) hb
    rw [ha.2 23 rfl, ha.2 5 rfl] at z2
    refine ⟨_, _, hR, k + 1, nI_1 k, by omega, ag_tr ha z1 rfl rfl, md_s (m := 64 * l + (k / bx * (A l * up W (8 * mx A n)) + k % bx)) hmd (fun j => ?_) (fun x => ?_)⟩
    · show Z.2.1 19 j = _
      rw [z2 j, LVg_at bn.2.1]
    · constructor
      · rintro (q | ⟨k', q1, q2⟩)
        · exact Or.inl (Or.inl q)
        · by_cases e2 : k' = k
          · subst e2
            exact Or.inr q2
          · exact Or.inl (Or.inr ⟨k', by omega, q2⟩)
      · rintro ((q | ⟨k', q1, q2⟩) | q)
        · exact Or.inl q
        · exact Or.inr ⟨k', by omega, q2⟩
        · exact Or.inr ⟨k, by omega, q⟩
/-- the blocks that are packed -/
def inP (n W H : Nat) (A D : Nat → Nat) (x : Nat) : Prop := ∃ l k, l < n ∧ k < bxw n W A l * bxw n H D l ∧ x = 64 * l + (k / bxw n W A l * (A l * up W (8 * mx A n)) + k % bxw n W A l)
theorem q_pk145 (g : gR 0 S n W H A D) (gg : gG2 0 S n W H A D) (hz : czR S W H) (h3 : S.1 3 = nI n) (ho : ∀ k, k < 64 → S.2.1 22 k = nI (sl k)) (h : e_pack_145 x3 0 S K) :
    ∃ Z, ag [] [19, 21, 25] S Z ∧ md (LVg (S.2.1 23) (S.2.1 5) (fun l x y => rsv (kvM S l) W H (mx A n / A l) (mx D n / D l) x y) n W H A D) (inP n W H A D) (Z.2.1 19) (S.2.1 19) ∧ e_pack_275 x3 0 Z K := by
  have n3 := g.n3
  have gW := g.2.2.2.2.1
  have gH := g.2.2.2.2.2.1
  have m1 := g.mA
  have m2 := g.mD
  refine v_e_pack_145 h (fun y4 T => ∃ l, y4 = nI l ∧ l ≤ n ∧ ag [] [19, 21, 25] S T ∧ md (LVg (S.2.1 23) (S.2.1 5) (fun l x y => rsv (kvM S l) W H (mx A n / A l) (mx D n / D l) x y) n W H A D) (fun x => ∃ l' k, l' < l ∧ k < bxw n W A l' * bxw n H D l' ∧ x = 64 * l' + (k / bxw n W A l' * (A l' * up W (8 * mx A n)) + k % bxw n W A l')) (T.2.1 19) (S.2.1 19)) ⟨0, rfl, Nat.zero_le _, ag_refl, ⟨fun m q hm _ => (by obtain ⟨_, _, q1, _⟩ := hm; exact absurd q1 (Nat.not_lt_zero _)), fun _ _ => rfl⟩⟩ ?_
  rintro y4 T R ⟨l, rfl, hl, ha, hmd⟩ hb
  have t3 : T.1 3 = nI n := (ha.1 3 rfl).trans h3
  unfold b_pack_145 at hb
  rw [t3] at hb
  by_cases e : l = n
  · right
    subst e
    exact ⟨T, ha, hmd, hb.1 (Int32.le_refl _)⟩
  · left
    have hl' : l < n := by omega
    have gT : gR 0 T n W H A D := gR_k g ha rfl rfl rfl rfl rfl
    have zT : czR T W H := by
      unfold czR
      rw [ha.1 1 rfl, ha.1 2 rfl]
      exact hz
    have hb := hb.2 (nI_ge (by omega) (by omega))
    obtain ⟨Z, z1, z2, hb⟩ := q_makeRaster gT zT hl' hb
    have kT : kvM T l = kvM S l := by
      funext x y
      unfold kvM cv
      rw [ha.1 3 rfl, ha.2 4 rfl]
    rw [kT] at z2
    have sz : ag [] [19, 21, 25] S Z := ag_tr ha z1 rfl rfl
    have gZ : gR 0 Z n W H A D := gR_k g sz rfl rfl rfl rfl rfl
    have ggZ : gG2 0 Z n W H A D := gG2_k gg sz rfl rfl
    have c3 : Z.1 3 = nI n := (sz.1 3 rfl).trans h3
    have bW := bxw_b (A := A) gW hl' (fun l hl => (g.2.2.2.2.2.2 l hl).2.2.1)
    have bH := bxw_b (A := D) gH hl' (fun l hl => (g.2.2.2.2.2.2 l hl).2.2.2)
    have h225 : e_pack_225 x3 (nI l) (nI (bxw n W A l)) (nI (bxw n H D l)) 0 Z R K := by
      unfold bxw
      rcases g.2.2.2.1 with hn | hn
      · rw [if_pos hn, if_pos hn]
        have l0 : l = 0 := by omega
        subst l0
        have gl := g.2.2.2.2.2.2 0 hl'
        have b1 := lw_b gW gl.2.2.1 m1 (mx_ge n 0 hl')
        have b2 := lw_b gH gl.2.2.2 m2 (mx_ge n 0 hl')
        have hb := hb.2 (by rw [c3, hn]; rfl)
        have hb := q_layerWide (q := 0) (l := 0) (M := (Z.1, Z.2.1, Z.2.2)) (by decide) gZ hl' hb
        rw [show (8 : Int32) = nI 8 from rfl] at hb
        have hb := q_upward (by omega) (by decide) (by decide) hb
        unfold b_pack_189 at hb
        have hb := hb.2 (by show Z.1 3 = 1; rw [c3, hn]; rfl)
        have hb := q_layerHigh (q := 0) (l := 0) (M := (Z.1, Z.2.1, Z.2.2)) (by decide) gZ hl' hb
        rw [show (8 : Int32) = nI 8 from rfl] at hb
        have hb := q_upward (by omega) (by decide) (by decide) hb
        unfold b_pack_220 at hb
        exact hb
      · rw [if_neg (by omega), if_neg (by omega)]
        have n1 : ¬ Z.1 3 = 1 := by rw [c3, hn]; decide
        have g17 : Z.2.1 17 l = nI (A l * up W (8 * mx A n)) := by have := (ggZ l hl').1; rw [Nat.mul_zero, Nat.zero_add] at this; exact this
        have g18 : Z.2.1 18 l = nI (D l * up H (8 * mx D n)) := by have := (ggZ l hl').2; rw [Nat.mul_zero, Nat.zero_add] at this; exact this
        obtain ⟨-, hb⟩ := hb.1 n1
        rw [nI_clamp (show l < 2 ^ 31 by omega), g17] at hb
        unfold b_pack_189 at hb
        obtain ⟨-, hb⟩ := hb.1 n1
        have hb : b_pack_220 x3 (nI l) (nI (A l * up W (8 * mx A n))) (Z.2.1 18 (nI l).toNatClampNeg) (Z.1, Z.2.1, Z.2.2) R K := hb
        rw [nI_clamp (show l < 2 ^ 31 by omega), g18] at hb
        unfold b_pack_220 at hb
        exact hb
    obtain ⟨Z2, w1, w2, hR⟩ := q_pk225 (f0 := S.2.1 19) (rs := fun l x y => rsv (kvM S l) W H (mx A n / A l) (mx D n / D l) x y) (Q := fun x => ∃ l' k, l' < l ∧ k < bxw n W A l' * bxw n H D l' ∧ x = 64 * l' + (k / bxw n W A l' * (A l' * up W (8 * mx A n)) + k % bxw n W A l')) gZ ggZ hl' ⟨bW.1, bW.2.1⟩ bH.2.1 bW.2.2 bH.2.2 (by rw [sz.2 22 rfl]; exact ho) z2 (by rw [sz.2 23 rfl, sz.2 5 rfl, z1.2 19 rfl]; exact hmd) h225
    rw [sz.2 23 rfl, sz.2 5 rfl] at w2
    refine ⟨_, _, hR, l + 1, nI_1 l, by omega, ag_tr sz w1 rfl rfl, md_i w2 (fun x => ?_)⟩
    constructor
    · rintro ⟨l', k, q1, q2, q3⟩
      by_cases e2 : l' = l
      · subst e2
        exact Or.inr ⟨k, q2, q3⟩
      · exact Or.inl ⟨l', k, by omega, q2, q3⟩
    · rintro (⟨l', k, q1, q2, q3⟩ | ⟨k, q2, q3⟩)
      · exact ⟨l', k, by omega, q2, q3⟩
      · exact ⟨l, k, by omega, q2, q3⟩
/-- the counts are set back -/
theorem q_pk275 (h : e_pack_275 x3 0 S K) : ∃ Z, ag [] [26] S Z ∧ (∀ j, j < 1028 → Z.2.1 26 j = 0) ∧ (∀ j, 1028 ≤ j → Z.2.1 26 j = S.2.1 26 j) ∧ p_units 1 x3 Z (fun S300 => e_pack_306 x3 0 (S300.1, S300.2.1, S300.2.2) K) := by
  refine v_e_pack_275 h (fun y4 T => ∃ q, y4 = nI q ∧ q ≤ 1028 ∧ ag [] [26] S T ∧ (∀ j, j < q → T.2.1 26 j = 0) ∧ ∀ j, 1028 ≤ j → T.2.1 26 j = S.2.1 26 j) ⟨0, rfl, by decide, ag_refl, fun j hj => absurd hj (Nat.not_lt_zero _), fun _ _ => rfl⟩ ?_
  rintro y4 T R ⟨q, rfl, hq, ha, hc, hd⟩ hb
  unfold b_pack_275 at hb
  by_cases e : q = 1028
  · right
    subst e
    exact ⟨T, ha, hc, hd, hb.1 (Int32.le_refl _)⟩
  · left
    obtain ⟨-, hR⟩ := hb.2 (nI_ge (b := 1028) (by omega) (by decide))
    rw [nI_clamp (by omega)] at hR
    refine ⟨_, _, hR, q + 1, nI_1 q, by omega, ag_r ha rfl, fun j hj => ?_, fun j hj => ?_⟩
    · show va_up T.2.1 26 (upd (T.2.1 26) q 0) 26 j = 0
      rw [vu_at]
      by_cases e2 : j = q
      · rw [e2, upd_at]
      · rw [upd_ne e2]
        exact hc j (by omega)
    · show va_up T.2.1 26 (upd (T.2.1 26) q 0) 26 j = _
      rw [vu_at, upd_ne (by omega)]
      exact hd j hj
/-- factors are laid down -/
def fac (a l : Nat) : Nat := if l = 0 then a else 1
theorem q_pk88 {ax ad : Nat} (hn : n = 1 ∨ n = 3) (h3 : S.1 3 = nI n) (h : e_pack_88 (nI ax) (nI ad) x3 0 S K) : ∃ Z, ag [] [15, 16] S Z ∧ (∀ l, l < n → Z.2.1 15 l = nI (fac ax l) ∧ Z.2.1 16 l = nI (fac ad l)) ∧ (∀ r k, (r = 15 ∨ r = 16) → 3 ≤ k → Z.2.1 r k = S.2.1 r k) ∧ p_makeGrids 0 Z (fun S139 => e_pack_145 x3 0 (S139.1, S139.2.1, S139.2.2) K) := by
  refine v_e_pack_88 h (fun y4 T => ∃ q, y4 = nI q ∧ q ≤ n ∧ ag [] [15, 16] S T ∧ (∀ l, l < q → T.2.1 15 l = nI (fac ax l) ∧ T.2.1 16 l = nI (fac ad l)) ∧ ∀ r k, (r = 15 ∨ r = 16) → 3 ≤ k → T.2.1 r k = S.2.1 r k) ⟨0, rfl, Nat.zero_le _, ag_refl, fun l hl => absurd hl (Nat.not_lt_zero _), fun _ _ _ _ => rfl⟩ ?_
  rintro y4 T R ⟨q, rfl, hq, ha, hc, hd⟩ hb
  unfold b_pack_88 at hb
  rw [show T.1 3 = nI n from (ha.1 3 rfl).trans h3] at hb
  by_cases e : q = n
  · right
    subst e
    exact ⟨T, ha, hc, hd, hb.1 (Int32.le_refl _)⟩
  · left
    have hb := hb.2 (nI_ge (by omega) (by omega))
    have fin : R (nI ax) (nI ad) x3 (nI q + 1) (T.1, va_up (va_up T.2.1 15 (upd (T.2.1 15) q (nI (fac ax q)))) 16 (upd (T.2.1 16) q (nI (fac ad q))), T.2.2) := by
      have cq : (nI q).toNatClampNeg = q := nI_clamp (by omega)
      unfold fac
      by_cases q0 : q = 0
      · subst q0
        have hb := hb.2 rfl
        unfold b_pack_113 at hb
        obtain ⟨-, hb⟩ := hb
        have hb := hb.2 rfl
        unfold b_pack_130 at hb
        obtain ⟨-, hb⟩ := hb
        dsimp only at hb
        rw [vu_ne (show (16 : Nat) ≠ 15 by decide), cq] at hb
        rw [if_pos rfl, if_pos rfl]
        exact hb
      · have nz : ¬ nI q = 0 := nI_ne0 (by omega) (by omega)
        have hb := hb.1 nz
        unfold b_pack_113 at hb
        obtain ⟨-, hb⟩ := hb
        have hb := hb.1 nz
        unfold b_pack_130 at hb
        obtain ⟨-, hb⟩ := hb
        dsimp only at hb
        rw [vu_ne (show (16 : Nat) ≠ 15 by decide), cq] at hb
        rw [if_neg q0, if_neg q0]
        exact hb
    refine ⟨_, _, fin, q + 1, nI_1 q, by omega, ag_r (T := (T.1, va_up T.2.1 15 (upd (T.2.1 15) q (nI (fac ax q))), T.2.2)) (ag_r ha rfl) rfl, fun l hl => ?_, fun r k hr hk => ?_⟩
    · show va_up (va_up T.2.1 15 (upd (T.2.1 15) q (nI (fac ax q)))) 16 (upd (T.2.1 16) q (nI (fac ad q))) 15 l = _ ∧ va_up (va_up T.2.1 15 (upd (T.2.1 15) q (nI (fac ax q)))) 16 (upd (T.2.1 16) q (nI (fac ad q))) 16 l = _
      rw [vu_ne (show (15 : Nat) ≠ 16 by decide), vu_at, vu_at]
      by_cases e2 : l = q
      · subst e2
        exact ⟨upd_at, upd_at⟩
      · rw [upd_ne e2, upd_ne e2]
        exact hc l (by omega)
    · show va_up (va_up T.2.1 15 (upd (T.2.1 15) q (nI (fac ax q)))) 16 (upd (T.2.1 16) q (nI (fac ad q))) r k = _
      rcases hr with rfl | rfl
      · rw [vu_ne (show (15 : Nat) ≠ 16 by decide), vu_at, upd_ne (by omega)]
        exact hd 15 k (Or.inl rfl) hk
      · rw [vu_at, upd_ne (by omega)]
        exact hd 16 k (Or.inr rfl) hk
end REF

/-! LEVELS of all blocks: the class's side -/
theorem kv_b {n r g b : Int32} {l : Nat} (hr : B 0 255 r) (hg : B 0 255 g) (hb : B 0 255 b) : B 0 255 (kv n r g b l) := by
  unfold kv
  by_cases e : n = 1
  · rw [if_pos e]
    exact hr
  · rw [if_neg e]
    have fin : ∀ w : Int32, 0 ≤ w.toInt → B 0 255 (k255 w) := by
      intro w hw
      unfold k255
      by_cases c : w ≤ 255
      · rw [if_pos c]
        have c := i_le c
        have z : (255 : Int32).toInt = 255 := by decide
        exact ⟨hw, by omega⟩
      · rw [if_neg c]
        exact ⟨by decide, by decide⟩
    apply fin
    have r1 := hr.1
    have r2 := hr.2
    have c4 : B 32768 32768 (32768 : Int32) := ⟨by decide, by decide⟩
    have c8 : B 128 128 (128 : Int32) := ⟨by decide, by decide⟩
    by_cases l0 : l = 0
    · rw [if_pos l0]
      have c1 : B 19595 19595 (19595 : Int32) := ⟨by decide, by decide⟩
      have c2 : B 38470 38470 (38470 : Int32) := ⟨by decide, by decide⟩
      have c3 : B 7471 7471 (7471 : Int32) := ⟨by decide, by decide⟩
      have s := B_add (B_add (B_add (B_mul c1 hr (by decide) (by decide) (by decide)) (B_mul c2 hg (by decide) (by decide) (by decide)) (by decide) (by decide)) (B_mul c3 hb (by decide) (by decide) (by decide)) (by decide) (by decide)) c4 (by decide) (by decide)
      exact Int.le_trans (by decide) (B_shr (s := (16 &&& 31 : Int32)) (k := 16) (by decide) s).1
    · rw [if_neg l0]
      by_cases l1 : l = 1
      · rw [if_pos l1]
        have em : ((-11059) * r : Int32).toInt = -11059 * r.toInt := by
          rw [Int32.toInt_mul, show ((-11059 : Int32)).toInt = -11059 by decide]
          exact bm_id (by omega) (by omega)
        have m1 : B (-2820045) 0 ((-11059) * r : Int32) := by
          unfold B
          rw [em]
          omega
        have c2 : B 21709 21709 (21709 : Int32) := ⟨by decide, by decide⟩
        have c3 : B 32768 32768 (32768 : Int32) := ⟨by decide, by decide⟩
        have s := B_add (B_add (B_sub m1 (B_mul c2 hg (by decide) (by decide) (by decide)) (by decide) (by decide)) (B_mul c3 hb (by decide) (by decide) (by decide)) (by decide) (by decide)) c4 (by decide) (by decide)
        exact Int.le_trans (by decide) (B_add c8 (B_shr (s := (16 &&& 31 : Int32)) (k := 16) (by decide) s) (by decide) (by decide)).1
      · rw [if_neg l1]
        have c1 : B 32768 32768 (32768 : Int32) := ⟨by decide, by decide⟩
        have c2 : B 27439 27439 (27439 : Int32) := ⟨by decide, by decide⟩
        have c3 : B 5329 5329 (5329 : Int32) := ⟨by decide, by decide⟩
        have s := B_add (B_sub (B_sub (B_mul c1 hr (by decide) (by decide) (by decide)) (B_mul c2 hg (by decide) (by decide) (by decide)) (by decide) (by decide)) (B_mul c3 hb (by decide) (by decide) (by decide)) (by decide) (by decide)) c4 (by decide) (by decide)
        exact Int.le_trans (by decide) (B_add c8 (B_shr (s := (16 &&& 31 : Int32)) (k := 16) (by decide) s) (by decide) (by decide)).1
theorem s32_b {f : Nat → Int32} {c : Nat} (hc : c ≤ 2) : ∀ n : Nat, n ≤ 4 → (∀ k, k < n → B 0 255 (f k)) → B 0 (c + 255 * n) (s32 (nI c) f n)
  | 0, _, _ => by
    show B 0 _ (nI c)
    unfold B
    rw [nI_toInt (by omega)]
    omega
  | n + 1, hn, h => by
    have ih := s32_b (f := f) hc n (by omega) (fun k hk => h k (by omega))
    have := B_add ih (h n (by omega)) (by decide) (by omega)
    show B 0 _ (s32 (nI c) f n + f n)
    exact B_w this (by decide) (by omega)
theorem rsv_b {k : Nat → Nat → Int32} {W H sx sy x y : Nat} (hsx : sx = 1 ∨ sx = 2) (hsy : sy = 1 ∨ sy = 2) (h : ∀ x y, B 0 255 (k x y)) : B 0 255 (rsv k W H sx sy x y) := by
  have go : ∀ p : Nat, 1 ≤ p → p ≤ 4 → ∀ f : Nat → Int32, (∀ k, B 0 255 (f k)) → B 0 255 (s32 (nI (p / 2)) f p / nI p) := by
    intro p h1 h4 f hf
    have s := s32_b (f := f) (c := p / 2) (by omega) p h4 (fun k _ => hf k)
    have hp : B p p (nI p) := by
      unfold B
      rw [nI_toInt (by omega)]
      omega
    have d := B_div s hp (by decide) (by omega)
    refine B_w d (by decide) ?_
    have h2 : ((p / 2 : Nat) : Int) + 255 * (p : Int) < 256 * (p : Int) := by omega
    exact Int.le_of_lt_add_one (Int.ediv_lt_of_lt_mul (by omega) (by omega))
  unfold rsv
  exact go (sx * sy) (by rcases hsx with e | e <;> rcases hsy with d | d <;> rw [e, d] <;> decide) (by rcases hsx with e | e <;> rcases hsy with d | d <;> rw [e, d] <;> decide) _ (fun t => h _ _)
theorem rsv_b2 {k : Nat → Nat → Int32} {W H sx sy x y : Nat} (hsx : sx = 1 ∨ sx = 2) (hsy : sy = 1 ∨ sy = 2) (hW : 1 ≤ W) (hH : 1 ≤ H) (h : ∀ x y, x < W → y < H → B 0 255 (k x y)) : B 0 255 (rsv k W H sx sy x y) := by
  have go : ∀ p : Nat, 1 ≤ p → p ≤ 4 → ∀ f : Nat → Int32, (∀ k, B 0 255 (f k)) → B 0 255 (s32 (nI (p / 2)) f p / nI p) := by
    intro p h1 h4 f hf
    have s := s32_b (f := f) (c := p / 2) (by omega) p h4 (fun k _ => hf k)
    have hp : B p p (nI p) := by
      unfold B
      rw [nI_toInt (by omega)]
      omega
    have d := B_div s hp (by decide) (by omega)
    refine B_w d (by decide) ?_
    have h2 : ((p / 2 : Nat) : Int) + 255 * (p : Int) < 256 * (p : Int) := by omega
    exact Int.le_of_lt_add_one (Int.ediv_lt_of_lt_mul (by omega) (by omega))
  unfold rsv
  exact go (sx * sy) (by rcases hsx with e | e <;> rcases hsy with d | d <;> rw [e, d] <;> decide) (by rcases hsx with e | e <;> rcases hsy with d | d <;> rw [e, d] <;> decide) _ (fun t => h _ _ (by omega) (by omega))
theorem st_12 {n l : Nat} {A : Nat → Nat} (hl : l < n) (hA : ∀ l, l < n → A l = 1 ∨ A l = 2) : mx A n / A l = 1 ∨ mx A n / A l = 2 := by
  have m1 := mx_12 n hA
  have ma := mx_ge (A := A) n l hl
  rcases hA l hl with e | e <;> rcases m1 with d | d <;> rw [e, d] <;> first | decide | omega
theorem imx_n {p q : Nat} (hp : p < 2 ^ 31) (hq : q < 2 ^ 31) : i_max (nI p) (nI q) = nI (max p q) := by
  unfold i_max
  by_cases c : p < q
  · rw [if_pos (nI_lt c hq), Nat.max_eq_right (by omega)]
  · rw [if_neg (nI_nlt (by omega) hp), Nat.max_eq_left (by omega)]
section CLS
variable {F : cF} {L : cL} {a b : Bool} {P : Nat → Nat → Nat} {K : cs → Prop} {n W H : Nat} {A D : Nat → Nat}
theorem q_addLayer {v m l : Nat} {x2 x3 : Int32} (hv : isSc v) (hs : F v 0 = nI m) (hm : m < 3) (hl : l < 3) (h : p_Sc_addLayer UL v (nI l) x2 x3 (F, L, PC a b P) K) :
    ∃ Z, (∀ w, w ≠ v → w ≠ v + 1 → w ≠ v + 2 → w ≠ v + 3 → Z w = F w) ∧ Z v = upd (F v) 0 (nI (m + 1)) ∧ Z (v + 1) = upd (F (v + 1)) m (nI l) ∧ Z (v + 2) = upd (F (v + 2)) l x2 ∧ Z (v + 3) = upd (F (v + 3)) l x3 ∧ K (Z, L, PC a b P) := by
  unfold p_Sc_addLayer at h
  dsimp only at h
  rw [hs] at h
  obtain ⟨-, -, -, -, -, -, -, -, -, h⟩ := h.2 (nI_ge (b := 3) hm (by decide))
  unfold b_Sc_addLayer_42 at h
  rw [sp1 hv, sp2 hv, sp3 hv, nI_clamp (show m < 2 ^ 31 by omega), nI_clamp (show l < 2 ^ 31 by omega)] at h
  refine ⟨_, fun w h1 h2 h3 h4 => ?_, ?_, ?_, ?_, ?_, h⟩
  · rw [vu_ne h1, vu_ne h4, vu_ne h3, vu_ne h2]
  · rw [vu_at, vu_ne (show v ≠ v + 3 by omega), vu_ne (show v ≠ v + 2 by omega), vu_ne (show v ≠ v + 1 by omega), hs, nI_1]
  · rw [vu_ne (show v + 1 ≠ v by omega), vu_ne (show v + 1 ≠ v + 3 by omega), vu_ne (show v + 1 ≠ v + 2 by omega), vu_at]
  · rw [vu_ne (show v + 2 ≠ v by omega), vu_ne (show v + 2 ≠ v + 3 by omega), vu_at, vu_ne (show v + 2 ≠ v + 1 by omega)]
  · rw [vu_ne (show v + 3 ≠ v by omega), vu_at, vu_ne (show v + 3 ≠ v + 2 by omega), vu_ne (show v + 3 ≠ v + 1 by omega)]
theorem gC_k {G : cF} {u : Nat} (g : gC u F n W H A D) (h0 : ∀ k, k < 7 → G u k = F u k) (h1 : G (u + 1) = F (u + 1)) (h2 : G (u + 2) = F (u + 2)) : gC u G n W H A D := by
  unfold gC
  rw [h0 0 (by decide), h0 1 (by decide), h0 2 (by decide), h0 5 (by decide), h0 6 (by decide), h1, h2]
  exact g
theorem gM_k {G : cF} {u : Nat} (g : gM u F n W H A D) (h7 : G u 7 = F u 7) (h8 : G u 8 = F u 8) (h3 : G (u + 3) = F (u + 3)) (h4 : G (u + 4) = F (u + 4)) (h5 : G (u + 5) = F (u + 5)) (h6 : G (u + 6) = F (u + 6)) : gM u G n W H A D := by
  unfold gM
  rw [h7, h8, h3, h4, h5, h6]
  exact g
/-- all layers -/
theorem q_mk144 (g : gC 12 F n W H A D) (gm : gM 12 F n W H A D) (w0 : F 1 0 = nI W) (w1 : F 1 1 = nI H) (hB : ∀ k, k < 12288 → B 0 255 (F 2 k)) (h : e_Pa_makeLevels_144 UL 4 1 3 0 (F, L, PC a b P) K) :
    ∃ Z, agc [] [21] F Z ∧ (∀ l x y, l < n → x < up (W * A l) (mx A n) → y < up (H * D l) (mx D n) → Z 21 (4096 * l + 64 * y + x) = rsv (kvF F l) W H (mx A n / A l) (mx D n / D l) x y) ∧ e_Pa_makeLevels_172 UL 4 3 0 (Z, L, PC a b P) K := by
  have n3 : n ≤ 3 := by rcases g.2.2.2.2.2.1 with e | e <;> omega
  have wb : ∀ l, l < n → up (W * A l) (mx A n) ≤ 64 ∧ up (H * D l) (mx D n) ≤ 64 := fun l hl => by
    obtain ⟨-, -, -, -, -, -, gW, gH, gl0⟩ := g
    exact ⟨(lw_b gW (gl0 l hl).2.2.1 (mx_12 n (fun l hl => (gl0 l hl).2.2.1)) (mx_ge n l hl)).2, (lw_b gH (gl0 l hl).2.2.2 (mx_12 n (fun l hl => (gl0 l hl).2.2.2)) (mx_ge n l hl)).2⟩
  refine v_e_Pa_makeLevels_144 h (fun y5 V => ∃ q G, y5 = nI q ∧ V = (G, L, PC a b P) ∧ q ≤ n ∧ agc [] [21] F G ∧ ∀ l x y, l < q → x < up (W * A l) (mx A n) → y < up (H * D l) (mx D n) → G 21 (4096 * l + 64 * y + x) = rsv (kvF F l) W H (mx A n / A l) (mx D n / D l) x y) ⟨0, F, rfl, rfl, Nat.zero_le _, agc_refl, fun l _ _ hl => absurd hl (Nat.not_lt_zero _)⟩ ?_
  rintro y5 V R ⟨q, G, rfl, rfl, hq, ha, hc⟩ hb
  unfold b_Pa_makeLevels_144 at hb
  obtain ⟨-, -, hb⟩ := hb
  have hb : (G 12 2 ≤ nI q → e_Pa_makeLevels_172 UL 4 3 0 (G, L, PC a b P) K) ∧ (¬ G 12 2 ≤ nI q → p_Pa_makeLayer UL 4 1 (nI q) (G, L, PC a b P) (fun S160 => R 1 3 (nI q + 1) S160)) := hb
  rw [show G 12 2 = nI n from (ha.1 12 2 rfl rfl).trans g.2.2.1] at hb
  by_cases e : q = n
  · right
    subst e
    exact ⟨G, ha, hc, hb.1 (Int32.le_refl _)⟩
  · left
    have hq' : q < n := by omega
    have gG : gC 12 G n W H A D := gC_k g (fun k hk => ha.1 12 k rfl rfl) (ha.2 13 rfl rfl) (ha.2 14 rfl rfl)
    have mG : gM 12 G n W H A D := gM_k gm (ha.1 12 7 rfl rfl) (ha.1 12 8 rfl rfl) (ha.2 15 rfl rfl) (ha.2 16 rfl rfl) (ha.2 17 rfl rfl) (ha.2 18 rfl rfl)
    obtain ⟨Z, z1, z2, z3, hR⟩ := q_makeLayer gG mG ((ha.1 1 0 rfl rfl).trans w0) ((ha.1 1 1 rfl rfl).trans w1) (by rw [ha.2 2 rfl rfl]; exact hB) hq' (hb.2 (nI_ge hq' (by omega)))
    have kG : ∀ l, kvF G l = kvF F l := fun l => by
      funext x y
      unfold kvF cvw
      rw [ha.1 1 2 rfl rfl, ha.2 2 rfl rfl]
    refine ⟨_, _, hR, q + 1, Z, nI_1 q, rfl, by omega, agc_tr ha z1 rfl rfl, fun l x y hl hx hy => ?_⟩
    by_cases e2 : l = q
    · subst e2
      rw [z2 x y hx hy, kG]
    · have := wb l (by omega)
      rw [z3 _ (by omega)]
      exact hc l x y (by omega) hx hy
/-- all blocks -/
theorem q_mk172 {N pu : Nat} {ov : Nat → Nat} {rs : Nat → Nat → Nat → Int32} (g : gC 12 F n W H A D) (gm : gM 12 F n W H A D) (hE : ∀ k, k < 128 → 1 ≤ (F 3 k).toInt) (hW : ∀ k, B (-4096) 4096 (F 8 k)) (hN : N * pu ≤ 192) (har : arO 22 F N pu ov) (hov : ∀ t, t < N * pu → ∃ l bk, ov t = 64 * l + bk ∧ l < n ∧ bk < A l * up W (8 * mx A n) * (D l * up H (8 * mx D n)) ∧ bk < 64)
    (hrs : ∀ l x y, l < n → x < up (W * A l) (mx A n) → y < up (H * D l) (mx D n) → F 21 (4096 * l + 64 * y + x) = rs l x y) (hrB : ∀ l x y, l < n → B 0 255 (rs l x y)) (h : e_Pa_makeLevels_172 UL 4 3 0 (F, L, PC a b P) K) :
    ∃ Z L', agc [] [9, 10, 19] F Z ∧ md (LVg (tW F) (F 3) rs n W H A D) (fun x => ∃ t, t < N * pu ∧ x = ov t) (Z 19) (F 19) ∧ K (Z, L', PC a b P) := by
  refine v_e_Pa_makeLevels_172 h (fun y5 V => ∃ t G L1, y5 = nI t ∧ V = (G, L1, PC a b P) ∧ t ≤ N * pu ∧ agc [] [9, 10, 19] F G ∧ md (LVg (tW F) (F 3) rs n W H A D) (fun x => ∃ t', t' < t ∧ x = ov t') (G 19) (F 19)) ⟨0, F, L, rfl, rfl, Nat.zero_le _, agc_refl, ⟨fun m q hm _ => (by obtain ⟨_, q1, _⟩ := hm; exact absurd q1 (Nat.not_lt_zero _)), fun _ _ => rfl⟩⟩ ?_
  rintro y5 V R ⟨t, G, L1, rfl, rfl, ht, ha, hmd⟩ hb
  unfold b_Pa_makeLevels_172 at hb
  obtain ⟨-, -, hb⟩ := hb
  have o6 : G 22 6 = nI (N * pu) := (ha.1 22 6 rfl rfl).trans har.2.2.1
  by_cases e : t = N * pu
  · right
    subst e
    exact ⟨G, L1, ha, hmd, hb.1 (by show G 22 6 ≤ nI (N * pu); rw [o6]; exact Int32.le_refl _)⟩
  · left
    obtain ⟨-, -, -, -, hb⟩ := hb.2 (by show ¬ G 22 6 ≤ nI t; rw [o6]; exact nI_ge (by omega) (by omega))
    obtain ⟨l, bk, e1, e2, e3, e4⟩ := hov t (by omega)
    have hb : p_Pa_makeBlock UL 4 (G 26 (nI t).toNatClampNeg) 3 (G, L1, PC a b P) (fun S196 => R 3 (nI t + 1) S196) := hb
    rw [nI_clamp (show t < 2 ^ 31 by omega), ha.2 26 rfl rfl, har.2.2.2 t (by omega), e1] at hb
    have gG : gC 12 G n W H A D := gC_k g (fun k hk => ha.1 12 k rfl rfl) (ha.2 13 rfl rfl) (ha.2 14 rfl rfl)
    have mG : gM 12 G n W H A D := gM_k gm (ha.1 12 7 rfl rfl) (ha.1 12 8 rfl rfl) (ha.2 15 rfl rfl) (ha.2 16 rfl rfl) (ha.2 17 rfl rfl) (ha.2 18 rfl rfl)
    have tG : tW G = tW F := by
      unfold tW
      rw [ha.2 8 rfl rfl]
    obtain ⟨Z, L2, z1, z2, hR⟩ := q_makeBlock (rs := rs l) gG mG e2 e3 e4 (by rw [ha.2 3 rfl rfl]; exact hE) (by rw [ha.2 8 rfl rfl]; exact hW) (by rw [ha.2 21 rfl rfl]; exact fun x y hx hy => hrs l x y e2 hx hy) (fun x y _ _ => hrB l x y e2) hb
    rw [tG, ha.2 3 rfl rfl] at z2
    refine ⟨_, _, hR, t + 1, Z, L2, nI_1 t, rfl, by omega, agc_tr ha z1 rfl rfl, md_s (m := 64 * l + bk) hmd (fun j => ?_) (fun x => ?_)⟩
    · rw [z2 j, LVg_at e4]
    · constructor
      · rintro ⟨t', q1, q2⟩
        by_cases e5 : t' = t
        · subst e5
          exact Or.inr (by rw [q2, e1])
        · exact Or.inl ⟨t', by omega, q2⟩
      · rintro (⟨t', q1, q2⟩ | q)
        · exact ⟨t', by omega, q2⟩
        · exact ⟨t, by omega, by rw [q, e1]⟩
end CLS

/-! the ORDER of what is packed: units, and which blocks they hold -/
theorem dvm {q d r : Nat} (h : r < d) : (q * d + r) / d = q ∧ (q * d + r) % d = r := ⟨by rw [Nat.mul_comm, Nat.mul_add_div (by omega), Nat.div_eq_of_lt h, Nat.add_zero], by rw [Nat.mul_comm, Nat.mul_add_mod, Nat.mod_eq_of_lt h]⟩
theorem mlt {q d r e : Nat} (hq : q < e) (hr : r < d) : q * d + r < e * d := by
  have : (q + 1) * d ≤ e * d := Nat.mul_le_mul_right d hq
  rw [Nat.succ_mul] at this
  omega
/-- N units of pu blocks, uw in a row; of each layer bw by bh blocks -/
def ordP (n W H : Nat) (A D : Nat → Nat) (N pu uw uh : Nat) (bw bh ov : Nat → Nat) : Prop :=
  N = uw * uh ∧ (1 ≤ uw ∧ uw ≤ 8) ∧ (1 ≤ uh ∧ uh ≤ 8) ∧ pu = offs bw bh (fun l => l) n ∧ (1 ≤ pu ∧ pu ≤ 12) ∧ N * pu ≤ 192 ∧ (∀ l, l < n → (bw l = 1 ∨ bw l = 2) ∧ (bh l = 1 ∨ bh l = 2)) ∧
  (∀ j, j < N → ∀ l, l < n → ∀ k, k < bw l * bh l → ov (j * pu + (offs bw bh (fun l => l) l + k)) = 64 * l + blv bw bh (fun l => A l * up W (8 * mx A n)) uw j l k ∧ blv bw bh (fun l => A l * up W (8 * mx A n)) uw j l k < 64) ∧
  (∀ t, t < N * pu → ∃ l bk, ov t = 64 * l + bk ∧ l < n ∧ bk < A l * up W (8 * mx A n) * (D l * up H (8 * mx D n)) ∧ bk < 64) ∧ (∀ x, inP n W H A D x ↔ ∃ t, t < N * pu ∧ x = ov t)
section ORD
variable {n W H : Nat} {A D : Nat → Nat}
/-- one layer -/
theorem ord1 (hW : 1 ≤ W ∧ W ≤ 64) (hH : 1 ≤ H ∧ H ≤ 64) (hA : A 0 = 1 ∨ A 0 = 2) (hD : D 0 = 1 ∨ D 0 = 2) :
    ordP 1 W H A D (up (up (H * D 0) (mx D 1)) 8 * up (up (W * A 0) (mx A 1)) 8) 1 (up (up (W * A 0) (mx A 1)) 8) (up (up (H * D 0) (mx D 1)) 8) (fun _ => 1) (fun _ => 1) (fun t => 64 * 0 + (t / up (up (W * A 0) (mx A 1)) 8 * (A 0 * up W (8 * mx A 1)) + t % up (up (W * A 0) (mx A 1)) 8)) := by
  have hA1 : ∀ l, l < 1 → A l = 1 ∨ A l = 2 := fun l hl => by rw [show l = 0 by omega]; exact hA
  have hD1 : ∀ l, l < 1 → D l = 1 ∨ D l = 2 := fun l hl => by rw [show l = 0 by omega]; exact hD
  have bW := bxw_b (A := A) (l := 0) hW (by decide) hA1
  have bH := bxw_b (A := D) (l := 0) hH (by decide) hD1
  have eW : bxw 1 W A 0 = up (up (W * A 0) (mx A 1)) 8 := if_pos rfl
  have eH : bxw 1 H D 0 = up (up (H * D 0) (mx D 1)) 8 := if_pos rfl
  rw [eW] at bW
  rw [eH] at bH
  have nn : up (up (H * D 0) (mx D 1)) 8 * up (up (W * A 0) (mx A 1)) 8 ≤ 8 * 8 := Nat.mul_le_mul (by omega) (by omega)
  have bk : ∀ t, t < up (up (H * D 0) (mx D 1)) 8 * up (up (W * A 0) (mx A 1)) 8 → _ := fun t ht => bno_b (k := t) ⟨bW.1, bW.2.1⟩ bH.2.1 bW.2.2 bH.2.2 (by rw [Nat.mul_comm]; exact ht)
  refine ⟨Nat.mul_comm _ _, ⟨bW.1, by omega⟩, ⟨bH.1, by omega⟩, rfl, by decide, by omega, fun _ _ => ⟨Or.inl rfl, Or.inl rfl⟩, fun j hj l hl k hk => ?_, fun t ht => ?_, fun x => ?_⟩
  · have l0 : l = 0 := by omega
    subst l0
    have hk : k < 1 * 1 := hk
    have k0 : k = 0 := by omega
    subst k0
    have b := bk j hj
    have e : blv (fun _ => 1) (fun _ => 1) (fun l => A l * up W (8 * mx A 1)) (up (up (W * A 0) (mx A 1)) 8) j 0 0 = j / up (up (W * A 0) (mx A 1)) 8 * (A 0 * up W (8 * mx A 1)) + j % up (up (W * A 0) (mx A 1)) 8 := by
      show (j / _ * 1 + 0 / 1) * _ + (j % _ * 1 + 0 % 1) = _
      rw [Nat.mul_one, Nat.mul_one, Nat.zero_div, Nat.zero_mod, Nat.add_zero, Nat.add_zero]
    rw [e]
    refine ⟨?_, b.2.1⟩
    have e2 : j * 1 + (offs (fun _ => 1) (fun _ => 1) (fun l => l) 0 + 0) = j := by
      show j * 1 + (0 + 0) = j
      omega
    rw [e2]
  · have b := bk t (by rw [Nat.mul_one] at ht; exact ht)
    exact ⟨0, _, rfl, by decide, b.1, b.2.1⟩
  · unfold inP
    constructor
    · rintro ⟨l, k, h1, h2, h3⟩
      have l0 : l = 0 := by omega
      subst l0
      rw [eW, eH] at h2
      rw [eW] at h3
      exact ⟨k, by rw [Nat.mul_one, Nat.mul_comm]; exact h2, h3⟩
    · rintro ⟨t, h1, h2⟩
      exact ⟨0, t, by decide, by rw [eW, eH, Nat.mul_comm]; rw [Nat.mul_one] at h1; exact h1, by rw [eW]; exact h2⟩
/-- three layers -/
theorem ordN {ov : Nat → Nat} (hW : 1 ≤ W ∧ W ≤ 64) (hH : 1 ≤ H ∧ H ≤ 64) (hA : ∀ l, l < 3 → A l = 1 ∨ A l = 2) (hD : ∀ l, l < 3 → D l = 1 ∨ D l = 2)
    (hov : ∀ j, j < up H (8 * mx D 3) * up W (8 * mx A 3) → ∀ i, i < 3 → ∀ k, k < A i * D i → ov (j * offs A D (fun l => l) 3 + (offs A D (fun l => l) i + k)) = bkv A D (fun l => A l * up W (8 * mx A 3)) i (j % up W (8 * mx A 3)) (j / up W (8 * mx A 3)) k) :
    ordP 3 W H A D (up H (8 * mx D 3) * up W (8 * mx A 3)) (offs A D (fun l => l) 3) (up W (8 * mx A 3)) (up H (8 * mx D 3)) A D ov := by
  have m1 := mx_12 3 hA
  have m2 := mx_12 3 hD
  have s1 := up_ge (x := W) (k := 8 * mx A 3) hW.1 (by omega)
  have s2 := up_ge (x := H) (k := 8 * mx D 3) hH.1 (by omega)
  have t1 := up_le (x := W) (k := 8 * mx A 3) hW.2 (by omega)
  have t2 := up_le (x := H) (k := 8 * mx D 3) hH.2 (by omega)
  have o3 : offs A D (fun l => l) 3 = A 0 * D 0 + A 1 * D 1 + A 2 * D 2 := by
    show 0 + A 0 * D 0 + A 1 * D 1 + A 2 * D 2 = _
    rw [Nat.zero_add]
  have ab : ∀ l, l < 3 → 1 ≤ A l * D l ∧ A l * D l ≤ 4 := fun l hl => by
    rcases hA l hl with e | e <;> rcases hD l hl with d | d <;> rw [e, d] <;> decide
  have p0 := ab 0 (by decide)
  have p1 := ab 1 (by decide)
  have p2 := ab 2 (by decide)
  -- block (row, column) of unit j
  have cell : ∀ j, j < up H (8 * mx D 3) * up W (8 * mx A 3) → ∀ l, l < 3 → ∀ k, k < A l * D l → blv A D (fun l => A l * up W (8 * mx A 3)) (up W (8 * mx A 3)) j l k < A l * up W (8 * mx A 3) * (D l * up H (8 * mx D 3)) ∧ blv A D (fun l => A l * up W (8 * mx A 3)) (up W (8 * mx A 3)) j l k < 64 := by
    intro j hj l hl k hk
    have a1 := hA l hl
    have d1 := hD l hl
    have b8 := bxw_b (n := 3) (A := A) hW hl hA
    have c8 := bxw_b (n := 3) (A := D) hH hl hD
    have r1 : j / up W (8 * mx A 3) < up H (8 * mx D 3) := Nat.div_lt_of_lt_mul (by rw [Nat.mul_comm]; exact hj)
    have r2 : k / A l < D l := Nat.div_lt_of_lt_mul hk
    have r3 : j % up W (8 * mx A 3) < up W (8 * mx A 3) := Nat.mod_lt _ (by omega)
    have r4 : k % A l < A l := Nat.mod_lt _ (by omega)
    have row := mlt r1 r2
    have col := mlt r3 r4
    rw [Nat.mul_comm (up W (8 * mx A 3))] at col
    rw [Nat.mul_comm (up H (8 * mx D 3))] at row
    have all := mlt row col
    have g : (D l * up H (8 * mx D 3)) * (A l * up W (8 * mx A 3)) ≤ 8 * 8 := Nat.mul_le_mul c8.2.2 b8.2.2
    have e : blv A D (fun l => A l * up W (8 * mx A 3)) (up W (8 * mx A 3)) j l k = (j / up W (8 * mx A 3) * D l + k / A l) * (A l * up W (8 * mx A 3)) + (j % up W (8 * mx A 3) * A l + k % A l) := rfl
    rw [e, Nat.mul_comm (A l * up W (8 * mx A 3))]
    exact ⟨all, by omega⟩
  have ovb : ∀ j, j < up H (8 * mx D 3) * up W (8 * mx A 3) → ∀ l, l < 3 → ∀ k, k < A l * D l → ov (j * offs A D (fun l => l) 3 + (offs A D (fun l => l) l + k)) = 64 * l + blv A D (fun l => A l * up W (8 * mx A 3)) (up W (8 * mx A 3)) j l k := fun j hj l hl k hk => (hov j hj l hl k hk).trans (congrArg (fun z => 64 * l + z) (Nat.add_assoc _ _ _))
  -- every place of the order is some unit's
  have place : ∀ t, t < up H (8 * mx D 3) * up W (8 * mx A 3) * offs A D (fun l => l) 3 → ∃ j l k, j < up H (8 * mx D 3) * up W (8 * mx A 3) ∧ l < 3 ∧ k < A l * D l ∧ t = j * offs A D (fun l => l) 3 + (offs A D (fun l => l) l + k) := by
    intro t ht
    have hj : t / offs A D (fun l => l) 3 < up H (8 * mx D 3) * up W (8 * mx A 3) := Nat.div_lt_of_lt_mul (by rw [Nat.mul_comm]; exact ht)
    have hr : t % offs A D (fun l => l) 3 < offs A D (fun l => l) 3 := Nat.mod_lt _ (by omega)
    have e : t = t / offs A D (fun l => l) 3 * offs A D (fun l => l) 3 + t % offs A D (fun l => l) 3 := by
      rw [Nat.mul_comm]
      exact (Nat.div_add_mod t _).symm
    have w0 : offs A D (fun l => l) 0 = 0 := rfl
    have w1 : offs A D (fun l => l) 1 = A 0 * D 0 := Nat.zero_add _
    have w2 : offs A D (fun l => l) 2 = A 0 * D 0 + A 1 * D 1 := by
      show 0 + A 0 * D 0 + A 1 * D 1 = _
      rw [Nat.zero_add]
    by_cases c0 : t % offs A D (fun l => l) 3 < A 0 * D 0
    · exact ⟨_, 0, t % offs A D (fun l => l) 3, hj, by decide, c0, by rw [w0, Nat.zero_add]; exact e⟩
    · by_cases c1 : t % offs A D (fun l => l) 3 < A 0 * D 0 + A 1 * D 1
      · exact ⟨_, 1, t % offs A D (fun l => l) 3 - A 0 * D 0, hj, by decide, by omega, by rw [w1, show A 0 * D 0 + (t % offs A D (fun l => l) 3 - A 0 * D 0) = t % offs A D (fun l => l) 3 by omega]; exact e⟩
      · exact ⟨_, 2, t % offs A D (fun l => l) 3 - (A 0 * D 0 + A 1 * D 1), hj, by decide, by omega, by rw [w2, show A 0 * D 0 + A 1 * D 1 + (t % offs A D (fun l => l) 3 - (A 0 * D 0 + A 1 * D 1)) = t % offs A D (fun l => l) 3 by omega]; exact e⟩
  have off : ∀ l, l < 3 → ∀ k, k < A l * D l → offs A D (fun l => l) l + k < offs A D (fun l => l) 3 := by
    intro l hl k hk
    have q := offs_le (A := A) (D := D) (ly := fun l => l) (i := l + 1) 3 (by omega)
    have q2 : offs A D (fun l => l) (l + 1) = offs A D (fun l => l) l + A l * D l := rfl
    omega
  have tot : up H (8 * mx D 3) * up W (8 * mx A 3) * offs A D (fun l => l) 3 ≤ 192 := by
    have one : ∀ l, l < 3 → up H (8 * mx D 3) * up W (8 * mx A 3) * (A l * D l) ≤ 64 := fun l hl => by
      have b8 := bxw_b (n := 3) (A := A) hW hl hA
      have c8 := bxw_b (n := 3) (A := D) hH hl hD
      have g := Nat.mul_le_mul c8.2.2 b8.2.2
      have e : up H (8 * mx D 3) * up W (8 * mx A 3) * (A l * D l) = D l * up H (8 * mx D 3) * (A l * up W (8 * mx A 3)) := by
        rw [Nat.mul_comm (A l) (D l), Nat.mul_comm (D l) (up H (8 * mx D 3)), Nat.mul_comm (A l) (up W (8 * mx A 3)), Nat.mul_mul_mul_comm]
      rw [e]
      exact g
    have a0 := one 0 (by decide)
    have a1 := one 1 (by decide)
    have a2 := one 2 (by decide)
    rw [o3, Nat.mul_add, Nat.mul_add]
    omega
  refine ⟨Nat.mul_comm _ _, ⟨s1, t1⟩, ⟨s2, t2⟩, rfl, ⟨by omega, by omega⟩, tot, fun l hl => ⟨hA l hl, hD l hl⟩, fun j hj l hl k hk => ⟨ovb j hj l hl k hk, (cell j hj l hl k hk).2⟩, fun t ht => ?_, fun x => ?_⟩
  · obtain ⟨j, l, k, q1, q2, q3, rfl⟩ := place t ht
    exact ⟨l, _, ovb j q1 l q2 k q3, q2, (cell j q1 l q2 k q3).1, (cell j q1 l q2 k q3).2⟩
  · have bx : ∀ l, bxw 3 W A l = A l * up W (8 * mx A 3) := fun l => if_neg (by decide)
    have bh : ∀ l, bxw 3 H D l = D l * up H (8 * mx D 3) := fun l => if_neg (by decide)
    unfold inP
    constructor
    · rintro ⟨l, k, h1, h2, h3⟩
      rw [bx, bh] at h2
      rw [bx] at h3
      have a1 := hA l h1
      have d1 := hD l h1
      have ya : k / (A l * up W (8 * mx A 3)) < D l * up H (8 * mx D 3) := Nat.div_lt_of_lt_mul h2
      have gp : 0 < A l * up W (8 * mx A 3) := Nat.mul_pos (by omega) (by omega)
      have xa : k % (A l * up W (8 * mx A 3)) < A l * up W (8 * mx A 3) := Nat.mod_lt _ gp
      have yd : k / (A l * up W (8 * mx A 3)) / D l < up H (8 * mx D 3) := Nat.div_lt_of_lt_mul ya
      have xd : k % (A l * up W (8 * mx A 3)) / A l < up W (8 * mx A 3) := Nat.div_lt_of_lt_mul xa
      have ym : k / (A l * up W (8 * mx A 3)) % D l < D l := Nat.mod_lt _ (by omega)
      have xm : k % (A l * up W (8 * mx A 3)) % A l < A l := Nat.mod_lt _ (by omega)
      have hj := mlt yd xd
      have hk := mlt ym xm
      rw [Nat.mul_comm (D l)] at hk
      refine ⟨_, mlt hj (off l h1 _ hk), ?_⟩
      rw [ovb _ hj l h1 _ hk, h3]
      refine congrArg (fun z => 64 * l + z) ?_
      show _ = (_ / up W (8 * mx A 3) * D l + _ / A l) * (A l * up W (8 * mx A 3)) + (_ % up W (8 * mx A 3) * A l + _ % A l)
      rw [(dvm xd).1, (dvm xd).2, (dvm xm).1, (dvm xm).2, Nat.mul_comm _ (D l), Nat.div_add_mod, Nat.mul_comm (k % (A l * up W (8 * mx A 3)) / A l) (A l), Nat.div_add_mod]
    · rintro ⟨t, h1, h2⟩
      obtain ⟨j, l, k, q1, q2, q3, rfl⟩ := place t h1
      have c := cell j q1 l q2 k q3
      refine ⟨l, blv A D (fun l => A l * up W (8 * mx A 3)) (up W (8 * mx A 3)) j l k, q2, by rw [bx, bh]; exact c.1, ?_⟩
      rw [h2, ovb j q1 l q2 k q3, bx, Nat.mul_comm _ (A l * up W (8 * mx A 3)), Nat.div_add_mod]
end ORD

/-! the packer's makeLevels as a whole -/
section CLS
variable {F : cF} {L : cL} {a b : Bool} {P : Nat → Nat → Nat} {K : cs → Prop} {n W H ax ad : Nat}
/-- the factors, and the scan's layers -/
theorem q_mk47 (hn : n = 1 ∨ n = 3) (f2 : F 12 2 = nI n) (f5 : F 12 5 = nI 1) (f6 : F 12 6 = nI 1) (f22 : F 22 0 = nI 0) (hax : ax ≤ 2) (had : ad ≤ 2) (h : e_Pa_makeLevels_47 UL 4 1 3 (nI ax) (nI ad) 0 (F, L, PC a b P) K) :
    ∃ Z, (∀ w, w ≠ 12 → w ≠ 13 → w ≠ 14 → w ≠ 22 → w ≠ 23 → w ≠ 24 → w ≠ 25 → Z w = F w) ∧ (∀ k, k ≠ 5 → k ≠ 6 → Z 12 k = F 12 k) ∧ Z 12 5 = nI (mx (fac ax) n) ∧ Z 12 6 = nI (mx (fac ad) n) ∧ (∀ k, k ≠ 0 → Z 22 k = F 22 k) ∧ Z 22 0 = nI n ∧ (∀ l, l < n → Z 13 l = nI (fac ax l) ∧ Z 14 l = nI (fac ad l) ∧ Z 23 l = nI l) ∧
      p_Pi_measure UL 12 (Z, L, PC a b P) (fun S119 => ¬ S119.2.2 4 2 = NU ∧ (c_cl UL (S119.2.2 4 2) = 7 ∧ (¬ S119.2.2 4 3 = NU ∧ (¬ S119.2.2 4 2 = NU ∧ (c_cl UL (S119.2.2 4 3) = 10 ∧ (p_Sc_arrange UL (S119.2.2 4 3) (S119.2.2 4 2) (va_up S119.1 (S119.2.2 4 2) (upd (S119.1 (S119.2.2 4 2)) 17 1), S119.2.1, S119.2.2) (fun S138 => e_Pa_makeLevels_144 UL 4 1 3 0 S138 K))))))) := by
  have fx : ∀ l, fac ax l ≤ 2 := fun l => by unfold fac; split <;> omega
  have fd : ∀ l, fac ad l ≤ 2 := fun l => by unfold fac; split <;> omega
  have mb : ∀ (A : Nat → Nat), (∀ l, A l ≤ 2) → ∀ q, mx A q ≤ 2 := by
    intro A hA q
    induction q with
    | zero => show 1 ≤ 2; decide
    | succ q ih =>
      show max (mx A q) (A q) ≤ 2
      have := hA q
      omega
  refine v_e_Pa_makeLevels_47 h (fun y5 V => ∃ q G, y5 = nI q ∧ V = (G, L, PC a b P) ∧ q ≤ n ∧ (∀ w, w ≠ 12 → w ≠ 13 → w ≠ 14 → w ≠ 22 → w ≠ 23 → w ≠ 24 → w ≠ 25 → G w = F w) ∧ (∀ k, k ≠ 5 → k ≠ 6 → G 12 k = F 12 k) ∧ G 12 5 = nI (mx (fac ax) q) ∧ G 12 6 = nI (mx (fac ad) q) ∧ (∀ k, k ≠ 0 → G 22 k = F 22 k) ∧ G 22 0 = nI q ∧ ∀ l, l < q → G 13 l = nI (fac ax l) ∧ G 14 l = nI (fac ad l) ∧ G 23 l = nI l) ⟨0, F, rfl, rfl, Nat.zero_le _, fun _ _ _ _ _ _ _ _ => rfl, fun _ _ _ => rfl, f5, f6, fun _ _ => rfl, f22, fun l hl => absurd hl (Nat.not_lt_zero _)⟩ ?_
  rintro y5 V R ⟨q, G, rfl, rfl, hq, ha, h12, g5, g6, h22, g22, hc⟩ hb
  unfold b_Pa_makeLevels_47 at hb
  obtain ⟨-, -, hb⟩ := hb
  have e2 : G 12 2 = nI n := (h12 2 (by decide) (by decide)).trans f2
  by_cases e : q = n
  · right
    subst e
    obtain ⟨-, hb⟩ := hb.1 (by show G 12 2 ≤ nI q; rw [e2]; exact Int32.le_refl _)
    exact ⟨G, ha, h12, g5, g6, h22, g22, hc, hb⟩
  · left
    have q3 : q < 3 := by omega
    obtain ⟨-, hb⟩ := hb.2 (by show ¬ G 12 2 ≤ nI q; rw [e2]; exact nI_ge (by omega) (by omega))
    have h86 : b_Pa_makeLevels_86 UL 4 1 3 (nI ax) (nI ad) (nI q) 12 (nI q) (nI (fac ax q)) (nI (fac ad q)) (G, L, PC a b P) R K := by
      unfold fac
      by_cases q0 : q = 0
      · rw [if_pos q0, if_pos q0]
        have hb := hb.2 (by rw [q0]; rfl)
        unfold b_Pa_makeLevels_75 at hb
        exact hb.2 (by rw [q0]; rfl)
      · rw [if_neg q0, if_neg q0]
        have nz : ¬ nI q = 0 := nI_ne0 (by omega) (by omega)
        have hb := hb.1 nz
        unfold b_Pa_makeLevels_75 at hb
        exact hb.1 nz
    unfold b_Pa_makeLevels_86 at h86
    obtain ⟨-, hb⟩ := h86
    obtain ⟨Z, z1, z2, z3, z4, hb⟩ := q_PsetFactors (Or.inl rfl) q3 hb
    have hb := q_kindOf q3 hb
    obtain ⟨-, -, hb⟩ := hb
    have hb : p_Sc_addLayer UL 22 (nI q) (if q = 0 then 0 else 1) (if q = 0 then 0 else 1) (Z, L, PC a b P) (fun S106 => R 1 3 (nI ax) (nI ad) (nI q + 1) S106) := hb
    have z22 : Z 22 = G 22 := z1 22 (by decide) (by decide) (by decide)
    obtain ⟨Y, y1, y2, y3, -, -, hR⟩ := q_addLayer (m := q) (Or.inl rfl) (by rw [z22]; exact g22) q3 q3 hb
    have m5 := mb (fac ax) fx q
    have m6 := mb (fac ad) fd q
    have x5 := fx q
    have x6 := fd q
    have y12 : Y 12 = Z 12 := y1 12 (by decide) (by decide) (by decide) (by decide)
    have y13 : Y 13 = Z 13 := y1 13 (by decide) (by decide) (by decide) (by decide)
    have y14 : Y 14 = Z 14 := y1 14 (by decide) (by decide) (by decide) (by decide)
    have z12 : Z 12 = upd (upd (G 12) 5 (i_max (G 12 5) (nI (fac ax q)))) 6 (i_max (G 12 6) (nI (fac ad q))) := z2
    have z13 : Z 13 = upd (G 13) q (nI (fac ax q)) := z3
    have z14 : Z 14 = upd (G 14) q (nI (fac ad q)) := z4
    have z23 : Z 23 = G 23 := z1 23 (by decide) (by decide) (by decide)
    have y23 : Y 23 = upd (Z 23) q (nI q) := y3
    refine ⟨_, _, hR, q + 1, Y, nI_1 q, rfl, by omega, fun w w1 w2 w3 w4 w5 w6 w7 => ?_, fun k k1 k2 => ?_, ?_, ?_, fun k hk => ?_, ?_, fun l hl => ?_⟩
    · rw [y1 w w4 w5 w6 w7, z1 w w1 w2 w3]
      exact ha w w1 w2 w3 w4 w5 w6 w7
    · rw [y12, z12, upd_ne k2, upd_ne k1]
      exact h12 k k1 k2
    · rw [y12, z12, upd_ne (show (5 : Nat) ≠ 6 by decide), upd_at, g5, imx_n (by omega) (by omega)]
      rfl
    · rw [y12, z12, upd_at, g6, imx_n (by omega) (by omega)]
      rfl
    · rw [y2, upd_ne hk, z22]
      exact h22 k hk
    · rw [y2, upd_at]
    · rw [y13, y14, z13, z14, y23, z23]
      by_cases e3 : l = q
      · subst e3
        rw [upd_at, upd_at, upd_at]
        exact ⟨rfl, rfl, rfl⟩
      · rw [upd_ne e3, upd_ne e3, upd_ne e3]
        exact hc l (by omega)
/-- what stands after the levels are made -/
def plR (n W H : Nat) (A D : Nat → Nat) (F Z : cF) (N pu uw uh : Nat) (bw bh ov : Nat → Nat) (f0 : Nat → Int32) : Prop :=
  (∀ w, w ≠ 4 → w ≠ 9 → w ≠ 10 → ¬ (12 ≤ w ∧ w ≤ 26) → Z w = F w) ∧ (∀ k, k ≠ 8 → Z 4 k = F 4 k) ∧ Z 4 8 = nI (if n = 1 then 1 else 2) ∧ gC 12 Z n W H A D ∧ gM 12 Z n W H A D ∧ Z 12 16 = 0 ∧ Z 12 17 = 1 ∧ arO 22 Z N pu ov ∧ ordP n W H A D N pu uw uh bw bh ov ∧ (n = 1 → bw = (fun _ => 1) ∧ bh = (fun _ => 1) ∧ uw = up (up (W * A 0) (mx A n)) 8 ∧ uh = up (up (H * D 0) (mx D n)) 8) ∧ (n = 3 → bw = A ∧ bh = D ∧ uw = up W (8 * mx A n) ∧ uh = up H (8 * mx D n)) ∧
  md (LVg (tW F) (F 3) (fun l x y => rsv (kvF F l) W H (mx A n / A l) (mx D n / D l) x y) n W H A D) (fun x => ∃ t, t < N * pu ∧ x = ov t) (Z 19) f0 ∧ ∀ j, j < 12288 → f0 j = 0
theorem fac_12 {x : Nat} (hx : x = 1 ∨ x = 2) (l : Nat) : fac x l = 1 ∨ fac x l = 2 := by
  unfold fac
  split
  · exact hx
  · exact Or.inl rfl
theorem q_PmakeLevels (hax : ax = 1 ∨ ax = 2) (had : ad = 1 ∨ ad = 2) (hn : n = 1 ∨ n = 3) (w0 : F 1 0 = nI W) (w1 : F 1 1 = nI H) (w2 : F 1 2 = nI n) (gW : 1 ≤ W ∧ W ≤ 64) (gH : 1 ≤ H ∧ H ≤ 64) (hB : ∀ k, k < 12288 → B 0 255 (F 2 k)) (hE : ∀ k, k < 128 → 1 ≤ (F 3 k).toInt) (hW : ∀ k, B (-4096) 4096 (F 8 k))
    (h : p_Pa_makeLevels UL 4 1 3 (nI ax) (nI ad) (F, L, PC a b P) K) :
    ∃ Z L' N pu uw uh bw bh ov f0, plR n W H (fac ax) (fac ad) F Z N pu uw uh bw bh ov f0 ∧ K (Z, L', PC a b P) := by
  have h14 : b_Pa_makeLevels_14 UL 4 1 3 (nI ax) (nI ad) (nI (if n = 1 then 1 else 2)) (F, L, PC a b P) K := by
    unfold p_Pa_makeLevels at h
    obtain ⟨-, h⟩ := h
    rcases hn with e | e
    · rw [if_pos e]
      exact h.2 (by show F 1 2 = 1; rw [w2, e]; rfl)
    · rw [if_neg (by omega)]
      exact h.1 (by show ¬ F 1 2 = 1; rw [w2, e]; decide)
  unfold b_Pa_makeLevels_14 at h14
  obtain ⟨-, -, -, h⟩ := h14
  have h : p_Pi_begin UL 12 (F 1 0) (F 1 1) (F 1 2) (va_up F 4 (upd (F 4) 8 (nI (if n = 1 then 1 else 2))), L, PC a b P) (fun S33 => ¬ S33.2.2 4 3 = NU ∧ (c_cl UL (S33.2.2 4 3) = 10 ∧ (e_Pa_makeLevels_47 UL 4 1 3 (nI ax) (nI ad) 0 (va_up S33.1 (S33.2.2 4 3) (upd (S33.1 (S33.2.2 4 3)) 0 0), S33.2.1, S33.2.2) K))) := h
  obtain ⟨Z0, a1, a2, a3, h⟩ := q_Pbegin (Or.inl rfl) h
  obtain ⟨-, -, h⟩ := h
  have h : e_Pa_makeLevels_47 UL 4 1 3 (nI ax) (nI ad) 0 (va_up Z0 22 (upd (Z0 22) 0 0), L, PC a b P) K := h
  have p12 : va_up Z0 22 (upd (Z0 22) 0 0) 12 = Z0 12 := vu_ne (by decide)
  have q12 : Z0 12 = upd (upd (upd (upd (upd (upd (F 12) 0 (nI W)) 1 (nI H)) 2 (nI n)) 5 1) 6 1) 16 0 := by
    rw [a2, w0, w1, w2, vu_ne (show (12 : Nat) ≠ 4 by decide)]
  obtain ⟨Z1, b1, b2, b3, b4, b5, b6, b7, h⟩ := q_mk47 hn (by rw [p12, q12]; rfl) (by rw [p12, q12]; rfl) (by rw [p12, q12]; rfl) (by rw [vu_at, upd_at]; rfl) (by omega) (by omega) h
  have c12 : ∀ k, k ≠ 5 → k ≠ 6 → Z1 12 k = Z0 12 k := fun k k1 k2 => (b2 k k1 k2).trans (by rw [p12])
  have g1 : gC 12 Z1 n W H (fac ax) (fac ad) := by
    refine ⟨?_, ?_, ?_, b3, b4, hn, gW, gH, fun l hl => ⟨(b7 l hl).1, (b7 l hl).2.1, fac_12 hax l, fac_12 had l⟩⟩
    · rw [c12 0 (by decide) (by decide), q12]; rfl
    · rw [c12 1 (by decide) (by decide), q12]; rfl
    · rw [c12 2 (by decide) (by decide), q12]; rfl
  obtain ⟨Z2, d1, d2, d3, h⟩ := q_Pmeasure (Or.inl rfl) g1 h
  obtain ⟨-, -, -, -, -, h⟩ := h
  have h : p_Sc_arrange UL 22 12 (va_up Z2 12 (upd (Z2 12) 17 1), L, PC a b P) (fun S138 => e_Pa_makeLevels_144 UL 4 1 3 0 S138 K) := h
  have v12 : ∀ w, w ≠ 12 → va_up Z2 12 (upd (Z2 12) 17 1) w = Z2 w := fun w hw => vu_ne hw
  have v17 : ∀ k, k ≠ 17 → va_up Z2 12 (upd (Z2 12) 17 1) 12 k = Z2 12 k := fun k hk => by rw [vu_at, upd_ne hk]
  have e3 : ∀ w, w ≠ 12 → w ≠ 15 → w ≠ 16 → w ≠ 17 → w ≠ 18 → Z2 w = Z1 w := fun w h0 h1 h2 h3 h4 => d1 w h0 h1 h2 h3 h4
  have g3 : gC 12 (va_up Z2 12 (upd (Z2 12) 17 1)) n W H (fac ax) (fac ad) := gC_k (F := Z1) g1 (fun k hk => by rw [v17 k (by omega)]; exact d2 k (by omega) (by omega)) ((v12 13 (by decide)).trans (e3 13 (by decide) (by decide) (by decide) (by decide) (by decide))) ((v12 14 (by decide)).trans (e3 14 (by decide) (by decide) (by decide) (by decide) (by decide)))
  have m3 : gM 12 (va_up Z2 12 (upd (Z2 12) 17 1)) n W H (fac ax) (fac ad) := gM_k (F := Z2) d3 (v17 7 (by decide)) (v17 8 (by decide)) (v12 15 (by decide)) (v12 16 (by decide)) (v12 17 (by decide)) (v12 18 (by decide))
  have s0 : va_up Z2 12 (upd (Z2 12) 17 1) 22 0 = nI n := by rw [v12 22 (by decide), e3 22 (by decide) (by decide) (by decide) (by decide) (by decide)]; exact b6
  have s1 : ∀ i, i < n → va_up Z2 12 (upd (Z2 12) 17 1) 23 i = nI i := fun i hi => by rw [v12 23 (by decide), e3 23 (by decide) (by decide) (by decide) (by decide) (by decide)]; exact (b7 i hi).2.2
  have hA : ∀ l, l < n → fac ax l = 1 ∨ fac ax l = 2 := fun l _ => fac_12 hax l
  have hD : ∀ l, l < n → fac ad l = 1 ∨ fac ad l = 2 := fun l _ => fac_12 had l
  -- the order
  have ar : ∃ Z3 N pu uw uh bw bh ov, (∀ w, w ≠ 22 → w ≠ 26 → Z3 w = va_up Z2 12 (upd (Z2 12) 17 1) w) ∧ arO 22 Z3 N pu ov ∧ ordP n W H (fac ax) (fac ad) N pu uw uh bw bh ov ∧ (n = 1 → bw = (fun _ => 1) ∧ bh = (fun _ => 1) ∧ uw = up (up (W * fac ax 0) (mx (fac ax) n)) 8 ∧ uh = up (up (H * fac ad 0) (mx (fac ad) n)) 8) ∧ (n = 3 → bw = fac ax ∧ bh = fac ad ∧ uw = up W (8 * mx (fac ax) n) ∧ uh = up H (8 * mx (fac ad) n)) ∧ e_Pa_makeLevels_144 UL 4 1 3 0 (Z3, L, PC a b P) K := by
    rcases hn with e | e
    · obtain ⟨Z3, r1, -, r3, hE⟩ := q_arrange1 (ly := fun l => l) (Or.inl rfl) (Or.inl rfl) g3 m3 (by rw [s0, e]) (s1 0 (by omega)) (by show 0 < n; omega) h
      subst e
      exact ⟨Z3, _, 1, _, _, _, _, _, r1, r3, ord1 gW gH (fac_12 hax 0) (fac_12 had 0), fun _ => ⟨rfl, rfl, rfl, rfl⟩, fun q => absurd q (by decide), hE⟩
    · obtain ⟨Z3, ov, r1, -, r3, r4, hE⟩ := q_arrangeN (m := 3) (ly := fun l => l) (Or.inl rfl) (Or.inl rfl) g3 m3 (by decide) (by rw [s0, e]) (fun i hi => ⟨s1 i (by omega), by show i < n; omega⟩) (fun i j _ _ q => q) h
      subst e
      exact ⟨Z3, _, _, _, _, _, _, ov, r1, r3, ordN gW gH hA hD r4, fun q => absurd q (by decide), fun _ => ⟨rfl, rfl, rfl, rfl⟩, hE⟩
  obtain ⟨Z3, N, pu, uw, uh, bw, bh, ov, r1, r2, r3, r4, r5, h⟩ := ar
  -- all that stood before
  have keep : ∀ w, w ≠ 4 → ¬ (12 ≤ w ∧ w ≤ 26) → Z3 w = F w := fun w h4 hr => by
    rw [r1 w (by omega) (by omega), v12 w (by omega), e3 w (by omega) (by omega) (by omega) (by omega) (by omega), b1 w (by omega) (by omega) (by omega) (by omega) (by omega) (by omega) (by omega), vu_ne (show w ≠ 22 by omega), a1 w (by omega) (by omega), vu_ne h4]
  have four : Z3 4 = upd (F 4) 8 (nI (if n = 1 then 1 else 2)) := by
    rw [r1 4 (by decide) (by decide), v12 4 (by decide), e3 4 (by decide) (by decide) (by decide) (by decide) (by decide), b1 4 (by decide) (by decide) (by decide) (by decide) (by decide) (by decide) (by decide), vu_ne (show (4 : Nat) ≠ 22 by decide), a1 4 (by decide) (by decide), vu_at]
  have z19 : ∀ k, k < 12288 → Z3 19 k = 0 := fun k hk => by
    rw [r1 19 (by decide) (by decide), v12 19 (by decide), e3 19 (by decide) (by decide) (by decide) (by decide) (by decide), b1 19 (by decide) (by decide) (by decide) (by decide) (by decide) (by decide) (by decide), vu_ne (show (19 : Nat) ≠ 22 by decide)]
    exact a3 k hk
  have g4 : gC 12 Z3 n W H (fac ax) (fac ad) := gC_k g3 (fun k _ => by rw [r1 12 (by decide) (by decide)]) (r1 13 (by decide) (by decide)) (r1 14 (by decide) (by decide))
  have m4 : gM 12 Z3 n W H (fac ax) (fac ad) := gM_k m3 (by rw [r1 12 (by decide) (by decide)]) (by rw [r1 12 (by decide) (by decide)]) (r1 15 (by decide) (by decide)) (r1 16 (by decide) (by decide)) (r1 17 (by decide) (by decide)) (r1 18 (by decide) (by decide))
  have k1 : Z3 1 = F 1 := keep 1 (by decide) (by decide)
  have k2 : Z3 2 = F 2 := keep 2 (by decide) (by decide)
  have k3 : Z3 3 = F 3 := keep 3 (by decide) (by decide)
  have k8 : Z3 8 = F 8 := keep 8 (by decide) (by decide)
  obtain ⟨Z4, t1, t2, h⟩ := q_mk144 g4 m4 (by rw [k1]; exact w0) (by rw [k1]; exact w1) (by rw [k2]; exact hB) h
  have kv3 : ∀ l, kvF Z3 l = kvF F l := fun l => by
    funext x y
    unfold kvF cvw
    rw [k1, k2]
  have g5 : gC 12 Z4 n W H (fac ax) (fac ad) := gC_k g4 (fun k hk => t1.1 12 k rfl rfl) (t1.2 13 rfl rfl) (t1.2 14 rfl rfl)
  have m5 : gM 12 Z4 n W H (fac ax) (fac ad) := gM_k m4 (t1.1 12 7 rfl rfl) (t1.1 12 8 rfl rfl) (t1.2 15 rfl rfl) (t1.2 16 rfl rfl) (t1.2 17 rfl rfl) (t1.2 18 rfl rfl)
  have o5 : arO 22 Z4 N pu ov := by
    unfold arO
    rw [t1.1 22 4 rfl rfl, t1.1 22 5 rfl rfl, t1.1 22 6 rfl rfl, t1.2 (22 + 4) rfl rfl]
    exact r2
  obtain ⟨Z5, L5, y1, y2, hk⟩ := q_mk172 (rs := fun l x y => rsv (kvF F l) W H (mx (fac ax) n / fac ax l) (mx (fac ad) n / fac ad l) x y) g5 m5 (by rw [t1.2 3 rfl rfl, k3]; exact hE) (by rw [t1.2 8 rfl rfl, k8]; exact hW) r3.2.2.2.2.2.1 o5 r3.2.2.2.2.2.2.2.2.1 (fun l x y hl hx hy => by rw [t2 l x y hl hx hy, kv3]) (fun l x y hl => rsv_b2 (st_12 hl hA) (st_12 hl hD) gW.1 gH.1 (fun x y hx hy => kv_b (hB _ (by omega)) (hB _ (by omega)) (hB _ (by omega)))) h
  have y4 : agc [] [9, 10, 19, 21] Z3 Z5 := agc_tr (agc_tr (agc_refl (fs := []) (rs := [9, 10, 19, 21])) t1 rfl rfl) y1 rfl rfl
  have ob : ∀ w, w ≠ 9 → w ≠ 10 → w ≠ 19 → w ≠ 21 → Z5 w = Z3 w := fun w h1 h2 h3 h4 => by
    by_cases o : OB w = true
    · funext k
      exact y4.1 w k o rfl
    · exact y4.2 w (by cases q : OB w with | true => exact absurd q o | false => rfl) (by
        cases q : List.contains [9, 10, 19, 21] w with
        | false => rfl
        | true =>
          exfalso
          have := List.contains_iff_mem.mp q
          simp only [List.mem_cons, List.not_mem_nil, or_false] at this
          omega)
  have tF : tW Z4 = tW F := by
    unfold tW
    rw [t1.2 8 rfl rfl, k8]
  rw [tF, t1.2 3 rfl rfl, k3, t1.2 19 rfl rfl] at y2
  refine ⟨Z5, L5, N, pu, uw, uh, bw, bh, ov, Z3 19, ⟨fun w h4 h9 h10 hr => ?_, fun k hk => ?_, ?_, ?_, ?_, ?_, ?_, ?_, r3, r4, r5, y2, z19⟩, hk⟩
  · rw [ob w h9 h10 (by omega) (by omega)]
    exact keep w h4 hr
  · rw [ob 4 (by decide) (by decide) (by decide) (by decide), four, upd_ne hk]
  · rw [ob 4 (by decide) (by decide) (by decide) (by decide), four, upd_at]
  · exact gC_k g4 (fun k _ => by rw [ob 12 (by decide) (by decide) (by decide) (by decide)]) (ob 13 (by decide) (by decide) (by decide) (by decide)) (ob 14 (by decide) (by decide) (by decide) (by decide))
  · exact gM_k m4 (by rw [ob 12 (by decide) (by decide) (by decide) (by decide)]) (by rw [ob 12 (by decide) (by decide) (by decide) (by decide)]) (ob 15 (by decide) (by decide) (by decide) (by decide)) (ob 16 (by decide) (by decide) (by decide) (by decide)) (ob 17 (by decide) (by decide) (by decide) (by decide)) (ob 18 (by decide) (by decide) (by decide) (by decide))
  · rw [ob 12 (by decide) (by decide) (by decide) (by decide), r1 12 (by decide) (by decide), v17 16 (by decide), d2 16 (by decide) (by decide), c12 16 (by decide) (by decide), q12, upd_at]
  · rw [ob 12 (by decide) (by decide) (by decide) (by decide), r1 12 (by decide) (by decide), vu_at, upd_at]
  · unfold arO
    rw [ob 22 (by decide) (by decide) (by decide) (by decide), ob (22 + 4) (by decide) (by decide) (by decide) (by decide)]
    exact r2
end CLS

/-! all CODES: the packer's makeCodes against the reference's loop -/
theorem ol1 {v : Nat} (hv : isOc v) : c_ln UL (v + 1) = 257 := by rcases hv with rfl | rfl | rfl | rfl <;> rfl
theorem ol2 {v : Nat} (hv : isOc v) : c_ln UL (v + 2) = 257 := by rcases hv with rfl | rfl | rfl | rfl <;> rfl
theorem oc_r {c : Nat} (hc : c ≤ 3) : 33 ≤ oc c ∧ oc c ≤ 52 := by
  have : c = 0 ∨ c = 1 ∨ c = 2 ∨ c = 3 := by omega
  rcases this with rfl | rfl | rfl | rfl <;> decide
/-- two codes' units are apart -/
theorem oc_far {c d : Nat} (hc : c ≤ 3) (hd : d ≤ 3) (h : c ≠ d) : oc c + 5 < oc d ∨ oc d + 5 < oc c := by
  have q1 : c = 0 ∨ c = 1 ∨ c = 2 ∨ c = 3 := by omega
  have q2 : d = 0 ∨ d = 1 ∨ d = 2 ∨ d = 3 := by omega
  rcases q1 with rfl | rfl | rfl | rfl <;> rcases q2 with rfl | rfl | rfl | rfl <;> first | decide | exact absurd rfl h
theorem oc_t {a b : Bool} {P : Nat → Nat → Nat} {t : Nat} (ht : t < 2) : PC a b P 32 t = oc (2 * t) ∧ PC a b P 45 t = oc (2 * t + 1) := by
  have : t = 0 ∨ t = 1 := by omega
  rcases this with rfl | rfl <;> exact ⟨rfl, rfl⟩
section BEG
variable {F : cF} {L : cL} {a b : Bool} {P : Nat → Nat → Nat} {K : cs → Prop} {v kd : Nat}
theorem q_OcBegin (hv : isOc v) (h : p_Oc_begin UL v (F, L, PC a b P) K) : ∃ Z, (∀ w, w ≠ v + 1 → w ≠ v + 2 → Z w = F w) ∧ (∀ s, s < 257 → Z (v + 1) s = 0 ∧ Z (v + 2) s = 0) ∧ K (Z, L, PC a b P) := by
  unfold p_Oc_begin at h
  obtain ⟨-, h⟩ := h
  dsimp only at h
  rw [op0 hv] at h
  obtain ⟨Y, y1, y2, -, h⟩ := q_fillr (N := 257) (ol1 hv) (by decide) h
  obtain ⟨-, h⟩ := h
  dsimp only at h
  rw [op1 hv] at h
  obtain ⟨Z, z1, z2, -, h⟩ := q_fillr (N := 257) (ol2 hv) (by decide) h
  exact ⟨Z, fun w h1 h2 => (z1 w h2).trans (y1 w h1), fun s hs => ⟨by rw [z1 (v + 1) (by omega)]; exact y2 s hs, z2 s hs⟩, h⟩
theorem q_mc2 {x1 : Int32} (hk : kd = 1 ∨ kd = 2) (h8 : F 4 8 = nI kd) (h : p_Pa_makeCodes UL 4 x1 (F, L, PC a b P) K) :
    ∃ Z, (∀ w, w < 33 ∨ 57 < w → Z w = F w) ∧ (∀ c s, c < 2 * kd → s < 257 → Z (oc c + 1) s = 0 ∧ Z (oc c + 2) s = 0) ∧ p_Pa_writeData UL 4 x1 (va_up Z 4 (upd (Z 4) 9 1), L, PC a b P) (fun S41 => e_Pa_makeCodes_51 UL 4 0 (va_up S41.1 4 (upd (S41.1 4) 9 0), S41.2.1, S41.2.2) K) := by
  unfold p_Pa_makeCodes at h
  refine v_e_Pa_makeCodes_2 h (fun y2 V => ∃ t G, y2 = nI t ∧ V = (G, L, PC a b P) ∧ t ≤ kd ∧ (∀ w, w < 33 ∨ 57 < w → G w = F w) ∧ ∀ c s, c < 2 * t → s < 257 → G (oc c + 1) s = 0 ∧ G (oc c + 2) s = 0) ⟨0, F, rfl, rfl, Nat.zero_le _, fun _ _ => rfl, fun c _ hc => absurd hc (by omega)⟩ ?_
  rintro y2 V R ⟨t, G, rfl, rfl, ht, ha, hc⟩ hb
  unfold b_Pa_makeCodes_2 at hb
  have hb : (G 4 8 ≤ nI t → p_Pa_writeData UL 4 x1 (va_up G 4 (upd (G 4) 9 1), L, PC a b P) (fun S41 => e_Pa_makeCodes_51 UL 4 0 (va_up S41.1 4 (upd (S41.1 4) 9 0), S41.2.1, S41.2.2) K)) ∧ (¬ G 4 8 ≤ nI t → _) := hb
  rw [show G 4 8 = nI kd by rw [ha 4 (by decide)]; exact h8] at hb
  by_cases e : t = kd
  · right
    subst e
    exact ⟨G, ha, hc, hb.1 (Int32.le_refl _)⟩
  · left
    have t2 : t < 2 := by omega
    obtain ⟨-, -, -, -, -, hb⟩ := hb.2 (nI_ge (by omega) (by omega))
    have ct : (nI t).toNatClampNeg = t := nI_clamp (by omega)
    have hb : p_Oc_begin UL (PC a b P 32 (nI t).toNatClampNeg) (G, L, PC a b P) _ := hb
    rw [ct, (oc_t t2).1] at hb
    obtain ⟨Y, y1, y2, hb⟩ := q_OcBegin (oc_4 (by omega)) hb
    obtain ⟨-, -, -, -, -, hb⟩ := hb
    have hb : p_Oc_begin UL (PC a b P 45 t) (Y, L, PC a b P) _ := hb
    rw [(oc_t t2).2] at hb
    obtain ⟨Z, z1, z2, hR⟩ := q_OcBegin (oc_4 (by omega)) hb
    refine ⟨_, _, hR, t + 1, Z, nI_1 t, rfl, by omega, fun w hw => ?_, fun c s hc' hs => ?_⟩
    · have r1 := oc_r (c := 2 * t) (by omega)
      have r2 := oc_r (c := 2 * t + 1) (by omega)
      rw [z1 w (by omega) (by omega), y1 w (by omega) (by omega)]
      exact ha w hw
    · by_cases e1 : c = 2 * t + 1
      · rw [e1]
        exact z2 s hs
      · have f1 := oc_far (c := c) (d := 2 * t + 1) (by omega) (by omega) e1
        rw [z1 _ (by omega) (by omega), z1 _ (by omega) (by omega)]
        by_cases e2 : c = 2 * t
        · rw [e2]
          exact y2 s hs
        · have f2 := oc_far (c := c) (d := 2 * t) (by omega) (by omega) e2
          rw [y1 _ (by omega) (by omega), y1 _ (by omega) (by omega)]
          exact hc c s (by omega) hs
end BEG
section ALL
variable {S : ms} {F : cF} {L : cL} {a b : Bool} {P : Nat → Nat → Nat} {K1 : Int32 → ms → Prop} {K2 : cs → Prop} {kd : Nat}
theorem sl_conv {v : Nat} {G K : cs → Prop} (h2 : p_Li_setLengths UL 27 v (F, L, PC a b P) G) (hG : ∀ f l b', G (f, l, PC a b' P) → p_Oc_giveOut UL v (f, l, PC a b' P) K) : p_Li_setLengths UL 27 v (F, L, PC a b P) (fun X => X.2.1 = L → (∃ b', X.2.2 = PC a b' P) → p_Oc_giveOut UL v X K) :=
  d_p_Li_setLengths h2 (fun a0 hk hi => (hi _).mpr (by
    obtain ⟨f, l, p⟩ := a0
    intro _ e2
    obtain ⟨b', e⟩ := e2
    have e : p = PC a b' P := e
    subst e
    exact hG f l b' hk))
/-- a code as both sides made it -/
def cdI (c : Nat) (ln : Nat → Nat) (M : ms) (F : cF) : Prop := (∀ t, t < 256 → M.2.1 27 (257 * c + t) = nI (ln t) ∧ F (oc c + 2) t = nI (ln t) ∧ ln t ≤ 16 ∧ (0 < (M.2.1 26 (257 * c + t)).toInt → 1 ≤ ln t) ∧ (1 ≤ ln t → 0 < (M.2.1 26 (257 * c + t)).toInt)) ∧ gvI c (oc c) ln M F 17 0
/-- what is known of the counts, and of the rows that codes are made in -/
def cnI (kd : Nat) (M : ms) (F : cF) : Prop := (∀ c s, c < 2 * kd → s < 257 → F (oc c + 1) s = M.2.1 26 (257 * c + s)) ∧ (∀ j, 0 ≤ (M.2.1 26 j).toInt ∧ (M.2.1 26 j).toInt ≤ 20000 ∧ (255 ≤ j % 257 ∨ 257 * (2 * kd) ≤ j → (M.2.1 26 j).toInt = 0)) ∧ ∀ k, k < 514 → F 29 k = 0
theorem i0 {x : Int32} (h : x.toInt = 0) : x = 0 := Int32.toInt.inj (h.trans (by decide))
/-- one code more -/
theorem x_cd {c : Nat} {ln : Nat → Nat → Nat} {Q1 : ms → Prop} {G : cs → Prop} (hc3 : c ≤ 3) (hc : c < 2 * kd) (hI : cnI kd S F) (hl0 : ∀ d s, c ≤ d → d < 2 * kd → d ≤ 3 → s ≤ 256 → F (oc d + 2) s = 0) (hd : ∀ d, d < c → cdI d (ln d) S F)
    (h1 : p_makeCode (nI c) S Q1) (h2 : p_Li_setLengths UL 27 (oc c) (F, L, PC a b P) G) (hG : ∀ f l b', G (f, l, PC a b' P) → p_Oc_giveOut UL (oc c) (f, l, PC a b' P) K2) (hk4 : 2 * kd ≤ 4) :
    ∃ M' F' b', ∃ ln' : Nat → Nat → Nat, ag [] [27, 28, 29, 30, 31] S M' ∧ (∀ w, w < 27 ∨ 57 < w → F' w = F w) ∧ cnI kd M' F' ∧ (∀ d s, c + 1 ≤ d → d < 2 * kd → d ≤ 3 → s ≤ 256 → F' (oc d + 2) s = 0) ∧ (∀ d, d < c + 1 → cdI d (ln' d) M' F') ∧ Q1 M' ∧ K2 (F', L, PC a b' P) := by
  obtain ⟨i1, i2, i3⟩ := hI
  have oc1 := oc_r hc3
  have z256 : F (oc c + 1) 256 = 0 := by
    rw [i1 c 256 hc (by decide)]
    exact i0 ((i2 _).2.2 (Or.inl (by omega)))
  have z255 : ¬ 0 < (F (oc c + 1) 255).toInt := by
    rw [i1 c 255 hc (by decide), (i2 (257 * c + 255)).2.2 (Or.inl (by omega))]
    decide
  obtain ⟨M', F', b', ln1, a1, a2, a3, a4, a5, a6, a7, a8, k1, k2⟩ := x_code hc3 (oc_4 hc3) (fun s hs => i1 c s hc (by omega)) z256 z255 (fun j => ⟨(i2 j).1, (i2 j).2.1⟩) i3 (fun s hs => hl0 c s (Nat.le_refl _) hc hc3 hs) h1 (sl_conv h2 hG)
  have e26 : M'.2.1 26 = S.2.1 26 := a1.2 26 rfl
  -- the units of another code stand as they stood
  have oth : ∀ d, d ≤ 3 → d ≠ c → ∀ w, oc d ≤ w → w ≤ oc d + 5 → F' w = F w := by
    intro d hd3 hne w w1 w2
    have f := oc_far hd3 hc3 hne
    have r := oc_r hd3
    exact a3 w (by omega) (by omega)
  have cnt : ∀ d s, d < 2 * kd → s < 257 → F' (oc d + 1) s = M'.2.1 26 (257 * d + s) := by
    intro d s hd' hs
    rw [e26]
    by_cases e : d = c
    · subst e
      rw [a3 (oc d + 1) (by omega) (by omega)]
      exact i1 d s hd' hs
    · rw [oth d (by omega) e _ (by omega) (by omega)]
      exact i1 d s hd' hs
  refine ⟨M', F', b', fun d => if d = c then ln1 else ln d, a1, fun w hw => a3 w (by omega) (by omega), ⟨cnt, by rw [e26]; exact i2, a6⟩, fun d s h1 h2 h3 hs => ?_, fun d hd' => ?_, k1, k2⟩
  · rw [oth d h3 (by omega) _ (by omega) (by omega)]
    exact hl0 d s (by omega) h2 h3 hs
  · by_cases e : d = c
    · subst e
      show cdI d (if d = d then ln1 else ln d) M' F'
      rw [if_pos rfl]
      exact ⟨by rw [e26]; exact a7, a8⟩
    · show cdI d (if d = c then ln1 else ln d) M' F'
      rw [if_neg e]
      have o := hd d (by omega)
      have d3 : d ≤ 3 := by omega
      have r27 : ∀ t, t < 257 → M'.2.1 27 (257 * d + t) = S.2.1 27 (257 * d + t) ∧ M'.2.1 28 (257 * d + t) = S.2.1 28 (257 * d + t) := fun t ht => a2 _ (by omega)
      obtain ⟨o1, o2, o3, o4⟩ := o
      refine ⟨fun t ht => ?_, fun t ht h1 h2 => ?_, ?_, fun y y1 y2 => ?_⟩
      · rw [(r27 t (by omega)).1, e26, oth d d3 e _ (by omega) (by omega)]
        exact o1 t ht
      · rw [(r27 t (by omega)).2, oth d d3 e _ (by omega) (by omega), oth d d3 e _ (by omega) (by omega)]
        exact o2 t ht h1 h2
      · rw [oth d d3 e _ (by omega) (by omega)]
        exact o3
      · rw [oth d d3 e _ (by omega) (by omega)]
        exact o4 y y1 y2
/-- all codes -/
theorem x_codesA {n : Nat} {x3 : Int32} (hn : n = 1 ∨ n = 3) (hk : kd = if n = 1 then 1 else 2) (h3 : S.1 3 = nI n) (h8 : F 4 8 = nI kd) (hI : cnI kd S F) (hl0 : ∀ d s, d < 2 * kd → d ≤ 3 → s ≤ 256 → F (oc d + 2) s = 0) (h1 : e_pack_306 x3 0 S K1) (h2 : e_Pa_makeCodes_51 UL 4 0 (F, L, PC a b P) K2) :
    ∃ M' F' b', ∃ ln : Nat → Nat → Nat, ag [] [27, 28, 29, 30, 31] S M' ∧ (∀ w, w < 27 ∨ 57 < w → F' w = F w) ∧ cnI kd M' F' ∧ (∀ d, d < 2 * kd → cdI d (ln d) M' F') ∧ p_mark 216 (upd (upd (upd M'.1 9 0) 32 0) 33 0, M'.2.1, M'.2.2) (fun S355 => p_putSections x3 (S355.1, S355.2.1, S355.2.2) (fun S360 => p_units 0 x3 (S360.1, S360.2.1, S360.2.2) (fun S366 => p_fillUp (S366.1, S366.2.1, S366.2.2) (fun S370 => p_mark 217 (S370.1, S370.2.1, S370.2.2) (fun S377 => K1 (S377.1 9) (S377.1, S377.2.1, S377.2.2)))))) ∧ K2 (F', L, PC a b' P) := by
  have kb : kd = 1 ∨ kd = 2 := by rw [hk]; rcases hn with e | e <;> rw [e] <;> decide
  -- the reference's step, whatever n is
  have ref : ∀ (q : Nat) (T : ms) (R : Int32 → Int32 → ms → Prop), T.1 3 = nI n → b_pack_306 x3 (nI q) T R K1 → b_pack_321 x3 (nI q) (nI q) (nI (2 * kd)) T R K1 := by
    intro q T R t3 hb
    unfold b_pack_306 at hb
    rcases hn with e | e
    · rw [hk, if_pos e]
      exact hb.2 (by rw [t3, e]; rfl)
    · rw [hk, if_neg (by omega)]
      exact hb.1 (by rw [t3, e]; decide)
  have go : ∀ d t (T : ms) (G : cF) (b0 : Bool) (ln : Nat → Nat → Nat), kd - t = d → t ≤ kd → e_pack_306 x3 (nI (2 * t)) T K1 → e_Pa_makeCodes_51 UL 4 (nI t) (G, L, PC a b0 P) K2 → ag [] [27, 28, 29, 30, 31] S T → (∀ w, w < 27 ∨ 57 < w → G w = F w) → cnI kd T G → (∀ d s, 2 * t ≤ d → d < 2 * kd → d ≤ 3 → s ≤ 256 → G (oc d + 2) s = 0) → (∀ d, d < 2 * t → cdI d (ln d) T G) →
      ∃ M' F' b', ∃ ln : Nat → Nat → Nat, ag [] [27, 28, 29, 30, 31] S M' ∧ (∀ w, w < 27 ∨ 57 < w → F' w = F w) ∧ cnI kd M' F' ∧ (∀ d, d < 2 * kd → cdI d (ln d) M' F') ∧ p_mark 216 (upd (upd (upd M'.1 9 0) 32 0) 33 0, M'.2.1, M'.2.2) (fun S355 => p_putSections x3 (S355.1, S355.2.1, S355.2.2) (fun S360 => p_units 0 x3 (S360.1, S360.2.1, S360.2.2) (fun S366 => p_fillUp (S366.1, S366.2.1, S366.2.2) (fun S370 => p_mark 217 (S370.1, S370.2.1, S370.2.2) (fun S377 => K1 (S377.1 9) (S377.1, S377.2.1, S377.2.2)))))) ∧ K2 (F', L, PC a b' P) := by
    intro d
    induction d with
    | zero =>
      intro t T G b0 ln hd ht g1 g2 ha hf hI hz hc
      have et : t = kd := by omega
      subst et
      have g1 := ref (2 * t) T _ ((ha.1 3 rfl).trans h3) (r_e_pack_306 g1)
      unfold b_pack_321 at g1
      have g2 := r_e_Pa_makeCodes_51 g2
      unfold b_Pa_makeCodes_51 at g2
      have g2 := g2.1 (by show G 4 8 ≤ nI t; rw [hf 4 (by decide), h8]; exact Int32.le_refl _)
      exact ⟨T, G, b0, ln, ha, hf, hI, hc, g1.1 (Int32.le_refl _), g2⟩
    | succ d ih =>
      intro t T G b0 ln hd ht g1 g2 ha hf hI hz hc
      have t2 : t < 2 := by omega
      have g1 := ref (2 * t) T _ ((ha.1 3 rfl).trans h3) (r_e_pack_306 g1)
      unfold b_pack_321 at g1
      have g1 := g1.2 (nI_ge (by omega) (by omega))
      have g2 := r_e_Pa_makeCodes_51 g2
      unfold b_Pa_makeCodes_51 at g2
      obtain ⟨-, -, -, -, -, -, g2⟩ := g2.2 (by show ¬ G 4 8 ≤ nI t; rw [hf 4 (by decide), h8]; exact nI_ge (by omega) (by omega))
      have ct : (nI t).toNatClampNeg = t := nI_clamp (by omega)
      have g2 : p_Li_setLengths UL 27 (PC a b0 P 32 (nI t).toNatClampNeg) (G, L, PC a b0 P) _ := g2
      rw [ct, (oc_t t2).1] at g2
      obtain ⟨T1, G1, b1, ln1, p1, p2, p3, p4, p5, g1, g2⟩ := x_cd (c := 2 * t) (by omega) (by omega) hI hz hc g1 g2 (fun f l b' q => by
        obtain ⟨-, -, -, -, -, q⟩ := q
        have q : p_Oc_giveOut UL (PC a b' P 32 t) (f, l, PC a b' P) _ := q
        rw [(oc_t t2).1] at q
        exact q) (by omega)
      obtain ⟨-, -, -, -, -, -, g2⟩ := g2
      have g2 : p_Li_setLengths UL 27 (PC a b1 P 45 t) (G1, L, PC a b1 P) _ := g2
      rw [(oc_t t2).2] at g2
      have ha1 : ag [] [27, 28, 29, 30, 31] S T1 := ag_tr ha p1 rfl rfl
      rw [nI_1] at g1
      have g1 := ref (2 * t + 1) _ _ (show T1.1 3 = nI n from (ha1.1 3 rfl).trans h3) (r_e_pack_306 g1)
      unfold b_pack_321 at g1
      have g1 := g1.2 (nI_ge (by omega) (by omega))
      obtain ⟨T2, G2, b2, ln2, q1, q2, q3, q4, q5, g1, g2⟩ := x_cd (S := (T1.1, T1.2.1, T1.2.2)) (c := 2 * t + 1) (by omega) (by omega) p3 p4 p5 g1 g2 (fun f l b' q => by
        obtain ⟨-, -, -, -, -, q⟩ := q
        have q : p_Oc_giveOut UL (PC a b' P 45 t) (f, l, PC a b' P) _ := q
        rw [(oc_t t2).2] at q
        exact q) (by omega)
      rw [nI_1] at g1 g2
      exact ih (t + 1) T2 G2 b2 ln2 (by omega) (by omega) g1 g2 (ag_tr ha1 q1 rfl rfl) (fun w hw => (q2 w hw).trans ((p2 w hw).trans (hf w hw))) q3 q4 q5
  exact go _ 0 S F b (fun _ _ => 0) rfl (Nat.zero_le _) h1 h2 ag_refl (fun _ _ => rfl) hI (fun d s _ h2 h3 hs => hl0 d s h2 h3 hs) (fun d hd => absurd hd (by omega))
end ALL

/-! both walks, from their beginnings -/
section WLK
variable {S : ms} {F : cF} {L : cL} {a b : Bool} {P : Nat → Nat → Nat} {K1 : ms → Prop} {K2 : cs → Prop} {n W H e N pu uw uh kd : Nat} {A D bw bh ov : Nat → Nat} {i : Int32} {rl re : Nat → ms → cF → Prop}
/-- what the order's parts are, for one layer and for three -/
def ordK (n W H : Nat) (A D : Nat → Nat) (uw uh : Nat) (bw bh : Nat → Nat) : Prop := (n = 1 → bw = (fun _ => 1) ∧ bh = (fun _ => 1) ∧ uw = up (up (W * A 0) (mx A n)) 8 ∧ uh = up (up (H * D 0) (mx D n)) 8) ∧ (n = 3 → bw = A ∧ bh = D ∧ uw = up W (8 * mx A n) ∧ uh = up H (8 * mx D n))
theorem ov_l (hn : n = 1 ∨ n = 3) (hk : kd = if n = 1 then 1 else 2) (ho : ordP n W H A D N pu uw uh bw bh ov) {t : Nat} (ht : t < N * pu) : ov t < 192 ∧ clz (ov t / 64) + 1 < 2 * kd := by
  obtain ⟨l, bk, e1, e2, -, e4⟩ := ho.2.2.2.2.2.2.2.2.1 t ht
  have el : ov t / 64 = l := by omega
  rw [el]
  refine ⟨by omega, ?_⟩
  unfold clz
  rcases hn with q | q
  · rw [if_pos (show l = 0 by omega), hk, if_pos q]
    decide
  · rw [hk, if_neg (show ¬ n = 1 by omega)]
    split <;> decide
theorem x_walk (hi : i = 0 ∨ i = 1) (he : e ≤ 65535) (HW : WK a b P i e pu (N * pu) ov rl re) (hn : n = 1 ∨ n = 3) (ho : ordP n W H A D N pu uw uh bw bh ov) (hk : ordK n W H A D uw uh bw bh) (g : gR 0 S n W H A D) (gg : gG2 0 S n W H A D) (hz : czR S W H) (har : arO 22 F N pu ov)
    (h0 : ∀ Z Y, ag [] [53] S Z → (∀ j, j < 3 → Z.2.1 53 j = 0) → (∀ w, w ≠ 58 → Y w = F w) → (∀ j, j < 3 → Y 58 j = 0) → re 0 Z Y) (h1 : p_units i (nI e) S K1) (h2 : p_Pa_writeData UL 4 (nI e) (F, L, PC a b P) K2) :
    ∃ M' F', re (N * pu) M' F' ∧ ag [9, 32, 33] [8, 26, 53] S M' ∧ fwk F F' ∧ K1 M' ∧ p_Pa_fillByte UL 4 (F', L, PC a b P) K2 := by
  obtain ⟨o1, o2, o3, o4, o5, o6, o7, o8, o9, -⟩ := ho
  have n3 := g.n3
  have N64 : N ≤ 64 := by
    rw [o1]
    exact Nat.le_trans (Nat.mul_le_mul o2.2 o3.2) (by decide)
  unfold p_Pa_writeData at h2
  obtain ⟨-, h2⟩ := h2
  have h2 : p_Ar_fillI UL 58 0 (F, L, PC a b P) (fun S5 => e_Pa_writeData_12 UL 4 (nI e) 0 0 S5 K2) := h2
  obtain ⟨Y, y1, y2, -, h2⟩ := q_fillr (N := 3) rfl (by decide) h2
  have sc : scW Y N pu ov := by
    refine ⟨by rw [y1 22 (by decide)]; exact har.1, by rw [y1 22 (by decide)]; exact har.2.1, fun t ht => ⟨by rw [y1 26 (by decide)]; exact har.2.2.2 t ht, ?_⟩⟩
    obtain ⟨l, bk, e1, e2, -, e4⟩ := o9 t ht
    omega
  have gw8 : ∀ l, l < n → A l * up W (8 * mx A n) ≤ 8 := fun l hl => (bxw_b g.2.2.2.2.1 hl (fun l hl => (g.2.2.2.2.2.2 l hl).2.2.1)).2.2
  have fin : ∀ (x3 : Int32) (Z : ms), ag [] [53] S Z → (∀ j, j < 3 → Z.2.1 53 j = 0) → (x3 = 0 → ∀ l, l < n → bw l = A l ∧ bh l = D l) → (¬ x3 = 0 → ∀ l, l < n → bw l = 1 ∧ bh l = 1) → e_units_122 i (nI e) x3 (nI uw) (nI uh) 0 Z K1 → ∃ M' F', re (N * pu) M' F' ∧ ag [9, 32, 33] [8, 26, 53] S M' ∧ fwk F F' ∧ K1 M' ∧ p_Pa_fillByte UL 4 (F', L, PC a b P) K2 := by
    intro x3 Z z1 z2 hx hx' h1
    have gZ : gR 0 Z n W H A D := gR_k g z1 rfl rfl rfl rfl rfl
    have ggZ : gG2 0 Z n W H A D := gG2_k gg z1 rfl rfl
    have rf : rfW Z x3 n bw bh (fun l => A l * up W (8 * mx A n)) := by
      refine ⟨gZ.2.2.1, n3, fun l hl => ⟨?_, gw8 l hl, (o7 l hl).1, (o7 l hl).2, fun q => ?_, fun q => hx' q l hl⟩⟩
      · have := (ggZ l hl).1
        rw [Nat.mul_zero, Nat.zero_add] at this
        exact this
      · have gl := gZ.2.2.2.2.2.2 l hl
        rw [Nat.mul_zero, Nat.zero_add] at gl
        rw [(hx q l hl).1, (hx q l hl).2]
        exact ⟨gl.1, gl.2.1⟩
    obtain ⟨M', F', c1, c2, c3, k1, k2⟩ := x_u122 HW hi he sc rf (by omega) o4 o5.2 N64 o1 o2.1 (by omega) o8 (h0 Z Y z1 z2 y1 y2) h1 h2
    exact ⟨M', F', c1, ag_tr (ag_tr (ag_refl (fs := [9, 32, 33]) (rs := [8, 26, 53])) z1 rfl rfl) c2 rfl rfl, fwk_tr (fwk_u (w := 58) (Or.inr (Or.inl rfl)) y1) c3, k1, k2⟩
  rcases q_units g hz h1 with ⟨en, Z, z1, z2, h1⟩ | ⟨en, Z, z1, z2, h1⟩
  · obtain ⟨k1, k2, k3, k4⟩ := hk.1 en
    rw [← k3, ← k4] at h1
    exact fin 1 Z z1 z2 (fun q => absurd q (by decide)) (fun _ l _ => by rw [k1, k2]; exact ⟨rfl, rfl⟩) h1
  · obtain ⟨k1, k2, k3, k4⟩ := hk.2 en
    rw [← k3, ← k4] at h1
    exact fin 0 Z z1 z2 (fun _ l _ => by rw [k1, k2]; exact ⟨rfl, rfl⟩) (fun q => absurd rfl q) h1
/-- no bits are held: nothing is filled -/
theorem q_fb0 (h11 : F 4 11 = 0) (h : p_Pa_fillByte UL 4 (F, L, PC a b P) K2) : K2 (F, L, PC a b P) := by
  unfold p_Pa_fillByte b_Pa_fillByte_29 at h
  exact h.1 (by show F 4 11 ≤ 0; rw [h11]; exact Int32.le_refl _)
/-- the counting walk -/
theorem x_count {lev : Nat → Int32} (he : e ≤ 65535) (hn : n = 1 ∨ n = 3) (hkd : kd = if n = 1 then 1 else 2) (ho : ordP n W H A D N pu uw uh bw bh ov) (hk : ordK n W H A D uw uh bw bh) (g : gR 0 S n W H A D) (gg : gG2 0 S n W H A D) (hz : czR S W H) (har : arO 22 F N pu ov)
    (hL : rLev S F) (h19 : S.2.1 19 = lev) (hB : lvBd S) (h26 : ∀ j, S.2.1 26 j = 0) (hcn : ∀ c s, c < 2 * kd → s < 257 → F (oc c + 1) s = 0) (h9 : F 4 9 = 1) (h11 : F 4 11 = 0) (h1 : p_units 1 (nI e) S K1) (h2 : p_Pa_writeData UL 4 (nI e) (F, L, PC a b P) K2) :
    ∃ M' F', ag [9, 32, 33] [8, 26, 53] S M' ∧ fwk F F' ∧ (∀ c s, c < 2 * kd → s < 257 → F' (oc c + 1) s = M'.2.1 26 (257 * c + s)) ∧ (∀ j, 0 ≤ (M'.2.1 26 j).toInt ∧ (M'.2.1 26 j).toInt ≤ 20000 ∧ (255 ≤ j % 257 ∨ 257 * (2 * kd) ≤ j → (M'.2.1 26 j).toInt = 0)) ∧ F' 4 11 = 0 ∧
      (∀ U, U < N * pu → blkQ (fun c s => 0 < (M'.2.1 26 (257 * c + s)).toInt) (ov U / 64) (fun k => lev (64 * ov U + k)) (ssq lev ov e pu U (ov U / 64))) ∧ K1 M' ∧ K2 (F', L, PC a b P) := by
  have k4 : 2 * kd ≤ 4 := by rw [hkd]; split <;> decide
  have o5 := ho.2.2.2.2.1
  have o6 := ho.2.2.2.2.2.1
  have z0 : (0 : Int32).toInt = 0 := by decide
  obtain ⟨M', F', r, c2, c3, k1, k2⟩ := x_walk (Or.inr rfl) he (wk1 (m := 2 * kd) (lev := lev) (e := e) o5.1 o6 (fun T hT => ov_l hn hkd ho hT)) hn ho hk g gg hz har (fun Z Y z1 z2 y1 y2 => by
    have r19 : Z.2.1 19 = S.2.1 19 := z1.2 19 rfl
    have r26 : Z.2.1 26 = S.2.1 26 := z1.2 26 rfl
    refine ⟨⟨⟨fun j hj => by rw [y2 j hj, z2 j hj], fun k hk => ?_, r19.trans h19, fun k hk => ?_, fun j hj => by rw [z2 j hj]; exact ⟨by decide, by decide⟩⟩, ⟨fun c s hc hs => ?_, ⟨?_, ?_⟩, fun j => ?_⟩, fun U hU => absurd hU (Nat.not_lt_zero _)⟩, fun j hj => z2 j hj⟩
    · rw [y1 19 (by decide), r19]
      exact hL k hk
    · rw [r19]
      exact hB k hk
    · have r := oc_r hc.2
      rw [y1 _ (by omega), hcn c s hc.1 hs, r26, h26]
    · rw [y1 4 (by decide), h9]
      decide
    · rw [y1 4 (by decide)]
      exact h11
    · rw [r26, h26 j, z0]
      exact ⟨by decide, Int.ofNat_zero_le _, fun _ => rfl⟩) h1 h2
  obtain ⟨⟨-, ⟨t1, t2, t3⟩, t4⟩, -⟩ := r
  refine ⟨M', F', c2, c3, fun c s hc hs => t1 c s ⟨hc, by omega⟩ hs, fun j => ?_, t2.2, t4, k1, q_fb0 t2.2 k2⟩
  have := t3 j
  exact ⟨this.1, by have := this.2.1; omega, this.2.2⟩
/-- codes as the writing walk wants them -/
theorem rCod_of {ln : Nat → Nat → Nat} {m : Nat} (h : ∀ c, c < m → cdI c (ln c) S F) : rCod m S F := by
  intro c s hc hs
  obtain ⟨h1, h2, -, -⟩ := h c hc
  obtain ⟨a1, a2, a3, -, -⟩ := h1 s hs
  rw [a1, a2, nI_toInt (by omega)]
  refine ⟨rfl, by omega, by omega, fun q => ?_⟩
  obtain ⟨b1, b2, b3, -⟩ := h2 s hs (by omega) (Or.inl (by omega))
  exact ⟨b1, b2, by rw [show ((ln c s : Nat) : Int).toNat = ln c s from rfl]; exact b3⟩
/-- the writing walk, and what is filled up behind it -/
theorem x_data {lev : Nat → Int32} {ln : Nat → Nat → Nat} {T : ms} (he : e ≤ 65535) (hn : n = 1 ∨ n = 3) (hkd : kd = if n = 1 then 1 else 2) (ho : ordP n W H A D N pu uw uh bw bh ov) (hk : ordK n W H A D uw uh bw bh) (g : gR 0 S n W H A D) (gg : gG2 0 S n W H A D) (hz : czR S W H) (har : arO 22 F N pu ov)
    (hL : rLev S F) (h19 : S.2.1 19 = lev) (hB : lvBd S) (hc : ∀ c, c < 2 * kd → cdI c (ln c) S F) (hcn : ∀ j, 255 ≤ j % 257 ∨ 257 * (2 * kd) ≤ j → (S.2.1 26 j).toInt = 0)
    (hq : ∀ U, U < N * pu → blkQ (fun c s => 0 < (S.2.1 26 (257 * c + s)).toInt) (ov U / 64) (fun k => lev (64 * ov U + k)) (ssq lev ov e pu U (ov U / 64))) (h9 : F 4 9 = 0) (hw : wr0 S F) (h1 : p_units 0 (nI e) S (fun S366 => p_fillUp (S366.1, S366.2.1, S366.2.2) K1)) (h2 : p_Pa_writeData UL 4 (nI e) (F, L, PC a b P) K2) :
    ∃ M' F', wr0 M' F' ∧ ag [9, 32, 33] [8, 26, 53] S M' ∧ M'.2.1 26 = S.2.1 26 ∧ fwk F F' ∧ F' 4 9 = 0 ∧ K1 M' ∧ K2 (F', L, PC a b P) := by
  have k4 : 2 * kd ≤ 4 := by rw [hkd]; split <;> decide
  have o5 := ho.2.2.2.2.1
  have o6 := ho.2.2.2.2.2.1
  -- what was counted has a code
  have cq : ∀ j, 0 < (S.2.1 26 j).toInt → 0 < (S.2.1 27 j).toInt := by
    intro j hj
    have n1 : ¬ (255 ≤ j % 257 ∨ 257 * (2 * kd) ≤ j) := fun q => by
      have := hcn j q
      omega
    have e1 : 257 * (j / 257) + j % 257 = j := by omega
    obtain ⟨a1, a2, a3, a4, -⟩ := (hc (j / 257) (by omega)).1 (j % 257) (by omega)
    rw [e1] at a1 a4
    have := a4 hj
    rw [a1, nI_toInt (by omega)]
    omega
  obtain ⟨M', F', r, c2, c3, k1, k2⟩ := x_walk (Or.inl rfl) he (wk0 (m := 2 * kd) (lev := lev) (ln := S.2.1 27) (cn := S.2.1 26) (e := e) o5.1 o6 k4 (fun T hT => ov_l hn hkd ho hT) (fun U hU => blkQ_mono (fun c s q => cq _ q) (hq U hU))) hn ho hk g gg hz har (fun Z Y z1 z2 y1 y2 => by
    have r19 : Z.2.1 19 = S.2.1 19 := z1.2 19 rfl
    have fy : fwk F Y := fwk_u (w := 58) (Or.inr (Or.inl rfl)) y1
    have w0 : wr0 Z Y := ⟨rOut_k hw.1 (z1.1 9 rfl) (z1.2 8 rfl) (by rw [y1 5 (by decide)]) (y1 6 (by decide)), (z1.1 32 rfl).trans hw.2.1, (z1.1 33 rfl).trans hw.2.2.1, by rw [y1 4 (by decide)]; exact hw.2.2.2⟩
    refine ⟨⟨⟨fun j hj => by rw [y2 j hj, z2 j hj], fun k hk => ?_, r19.trans h19, fun k hk => ?_, fun j hj => by rw [z2 j hj]; exact ⟨by decide, by decide⟩⟩, ⟨wr0_wr w0, rCod_k (rCod_of hc) k4 (z1.2 27 rfl) (z1.2 28 rfl) fy, by rw [y1 4 (by decide)]; exact h9⟩, z1.2 27 rfl, z1.2 26 rfl⟩, fun j hj => z2 j hj⟩
    · rw [y1 19 (by decide), r19]
      exact hL k hk
    · rw [r19]
      exact hB k hk) h1 h2
  obtain ⟨⟨-, ⟨t1, t2, t3⟩, -, t4⟩, -⟩ := r
  obtain ⟨M2, F2, d1, d2, d3, k1, k2⟩ := x_fillU (M := (M'.1, M'.2.1, M'.2.2)) t1 k1 k2
  refine ⟨M2, F2, d3, ag_tr c2 d1 rfl rfl, (d1.2 26 rfl).trans t4, fwk_tr c3 (fwk_w d2), ?_, k1, k2⟩
  rw [d2.1 4 9 rfl rfl]
  exact t3
end WLK

/-! PACK: both sides -/
/-- what pack needs between calls -/
def pkI (n W H : Nat) (M : ms) (F : cF) : Prop :=
  rCan M F ∧ rTab M F ∧ (n = 1 ∨ n = 3) ∧ (1 ≤ W ∧ W ≤ 64) ∧ (1 ≤ H ∧ H ≤ 64) ∧ M.1 1 = nI W ∧ M.1 2 = nI H ∧ M.1 3 = nI n ∧ (∀ k, k < 128 → B 1 255 (M.2.1 5 k)) ∧ (∀ k, B 0 255 (M.2.1 4 k)) ∧ (∀ k, k < 12288 → B 0 255 (F 2 k)) ∧ (∀ k, k < 64 → M.2.1 22 k = nI (sl k)) ∧ (∀ k, k < 64 → M.2.1 23 k = tW F k) ∧ (∀ k, B (-4096) 4096 (M.2.1 23 k)) ∧ (∀ k, B (-4096) 4096 (F 8 k)) ∧ F 4 11 = 0 ∧ (∀ k, k < 514 → F 29 k = 0) ∧ ∀ j, 1028 ≤ j → M.2.1 26 j = 0
/-- what pack leaves -/
def pkO (n W H : Nat) (A D : Nat → Nat) (M : ms) (F : cF) (M' : ms) (F' : cF) : Prop :=
  rOut M' F' ∧ M'.1 0 = 0 ∧ ag [0, 9, 32, 33] [8, 11, 12, 13, 14, 15, 16, 17, 18, 19, 21, 25, 26, 27, 28, 29, 30, 31, 53] M M' ∧ M'.2.1 11 0 = 1 ∧ gR 0 M' n W H A D ∧ gG2 0 M' n W H A D ∧ (∀ r k, (r = 11 ∨ r = 12 ∨ r = 13 ∨ r = 14) → 1 ≤ k → M'.2.1 r k = M.2.1 r k) ∧ (∀ r k, (r = 15 ∨ r = 16 ∨ r = 17 ∨ r = 18) → 3 ≤ k → M'.2.1 r k = M.2.1 r k) ∧ (∀ k, 12288 ≤ k → M'.2.1 19 k = M.2.1 19 k) ∧ (∀ j, 1028 ≤ j → M'.2.1 26 j = 0) ∧
  (∀ w k, ¬ (4 ≤ w ∧ w ≤ 6) → w ≠ 9 → w ≠ 10 → ¬ (12 ≤ w ∧ w ≤ 58) → (OB w = true → k < 100) → F' w k = F w k) ∧ (∀ k, k ≠ 8 → k ≠ 9 → k ≠ 10 → k ≠ 11 → k < 100 → F' 4 k = F 4 k) ∧ F' 4 11 = 0 ∧ (∀ k, k < 514 → F' 29 k = 0) ∧ gC 12 F' n W H A D ∧ gM 12 F' n W H A D ∧ F' 12 16 = 0 ∧ F' 12 17 = 1 ∧ rLev M' F'
section PACK
variable {S : ms} {F : cF} {L : cL} {a b : Bool} {P : Nat → Nat → Nat} {K1 : Int32 → ms → Prop} {K2 : Int32 → cs → Prop} {T2 : Nat → cs → Prop} {n W H : Nat}
/-- the reference, up to the counting walk -/
theorem q_pkA {ax ad e : Nat} (hI : pkI n W H S F) (hax : ax = 1 ∨ ax = 2) (had : ad = 1 ∨ ad = 2) (h : b_pack_36 (nI ax) (nI ad) (nI e) 0 S K1) :
    ∃ Z, ag [0] [11, 12, 13, 14, 15, 16, 17, 18, 19, 21, 25, 26] S Z ∧ Z.1 0 = 0 ∧ Z.2.1 11 0 = 1 ∧ gR 0 Z n W H (fac ax) (fac ad) ∧ gG2 0 Z n W H (fac ax) (fac ad) ∧ (∀ r k, (r = 11 ∨ r = 12 ∨ r = 13 ∨ r = 14) → 1 ≤ k → Z.2.1 r k = S.2.1 r k) ∧ (∀ r k, (r = 15 ∨ r = 16 ∨ r = 17 ∨ r = 18) → 3 ≤ k → Z.2.1 r k = S.2.1 r k) ∧ (∀ k, 12288 ≤ k → Z.2.1 19 k = S.2.1 19 k) ∧ (∀ j, Z.2.1 26 j = 0) ∧
      (∃ f0, (∀ j, j < 12288 → f0 j = 0) ∧ md (LVg (S.2.1 23) (S.2.1 5) (fun l x y => rsv (kvM S l) W H (mx (fac ax) n / fac ax l) (mx (fac ad) n / fac ad l) x y) n W H (fac ax) (fac ad)) (inP n W H (fac ax) (fac ad)) (Z.2.1 19) f0) ∧ p_units 1 (nI e) Z (fun S300 => e_pack_306 (nI e) 0 (S300.1, S300.2.1, S300.2.2) K1) := by
  obtain ⟨c1, c2, hn, gW, gH, s1, s2, s3, t5, b4, bf, hsl, hwv, hw1, hw2, f11, f29, r26⟩ := hI
  unfold b_pack_36 at h
  obtain ⟨-, -, -, -, h⟩ := h.1 (by show (0 : Int32) ≤ 0; exact Int32.le_refl _)
  -- the state that the factors are laid down in
  generalize hT : ((upd S.1 0 0, _, S.2.2) : ms) = T0 at h
  have tf : ∀ k, T0.1 k = upd S.1 0 0 k := fun k => by rw [← hT]
  have t11 : T0.2.1 11 0 = 1 := by rw [← hT]; rfl
  have t12 : T0.2.1 12 0 = S.1 1 := by rw [← hT]; rfl
  have t13 : T0.2.1 13 0 = S.1 2 := by rw [← hT]; rfl
  have t14 : T0.2.1 14 0 = S.1 3 := by rw [← hT]; rfl
  have tk : ∀ r k, (r = 11 ∨ r = 12 ∨ r = 13 ∨ r = 14) → 1 ≤ k → T0.2.1 r k = S.2.1 r k := by
    intro r k hr hk
    have k0 : k ≠ (0 : Int32).toNatClampNeg := show k ≠ 0 by omega
    rw [← hT]
    rcases hr with rfl | rfl | rfl | rfl
    · exact upd_ne k0
    · exact upd_ne k0
    · exact upd_ne k0
    · exact upd_ne k0
  have ta : ag [0] [11, 12, 13, 14] S T0 := by
    rw [← hT]
    exact ag_r (T := (upd S.1 0 0, _, S.2.2)) (ag_r (T := (upd S.1 0 0, _, S.2.2)) (ag_r (T := (upd S.1 0 0, _, S.2.2)) (ag_r (T := (upd S.1 0 0, S.2.1, S.2.2)) (ag_f (T := (S.1, S.2.1, S.2.2)) ag_refl rfl) rfl) rfl) rfl) rfl
  have t3 : T0.1 3 = nI n := (ta.1 3 rfl).trans s3
  obtain ⟨T1, u1, u2, u3, h⟩ := q_pk88 hn t3 h
  have ua : ag [0] [11, 12, 13, 14, 15, 16] S T1 := ag_tr (ag_tr (ag_refl (fs := [0]) (rs := [11, 12, 13, 14, 15, 16])) ta rfl rfl) u1 rfl rfl
  have g1 : gR 0 T1 n W H (fac ax) (fac ad) := by
    refine ⟨?_, ?_, ?_, hn, gW, gH, fun l hl => ?_⟩
    · rw [u1.2 12 rfl, t12, s1]
    · rw [u1.2 13 rfl, t13, s2]
    · rw [u1.2 14 rfl, t14, s3]
    · rw [Nat.mul_zero, Nat.zero_add]
      exact ⟨(u2 l hl).1, (u2 l hl).2, fac_12 hax l, fac_12 had l⟩
  obtain ⟨T2', v1, v2, v3, v4, h⟩ := q_makeGrids (q := 0) (by decide) g1 h
  have va : ag [0] [11, 12, 13, 14, 15, 16, 17, 18, 19] S T2' := ag_tr (ag_tr (ag_refl (fs := [0]) (rs := [11, 12, 13, 14, 15, 16, 17, 18, 19])) ua rfl rfl) v1 rfl rfl
  have g2 : gR 0 T2' n W H (fac ax) (fac ad) := gR_k g1 v1 rfl rfl rfl rfl rfl
  have zz : czR T2' W H := ⟨(va.1 1 rfl).trans s1, (va.1 2 rfl).trans s2, gW.1, gW.2, gH.1, gH.2⟩
  obtain ⟨T3, w1, w2, h⟩ := q_pk145 (S := (T2'.1, T2'.2.1, T2'.2.2)) g2 v2 zz ((va.1 3 rfl).trans s3) (by show ∀ k, k < 64 → T2'.2.1 22 k = _; rw [va.2 22 rfl]; exact hsl) h
  have kv : ∀ l, kvM (T2'.1, T2'.2.1, T2'.2.2) l = kvM S l := fun l => by
    funext x y
    unfold kvM cv
    show kv (T2'.1 3) (T2'.2.1 4 _) (T2'.2.1 4 _) (T2'.2.1 4 _) l = _
    rw [va.1 3 rfl, va.2 4 rfl]
  obtain ⟨Z, z1, z2, z3, h⟩ := q_pk275 h
  have zs : ag [0] [11, 12, 13, 14, 15, 16, 17, 18, 19, 21, 25] S T3 := ag_tr (ag_tr (ag_refl (fs := [0]) (rs := [11, 12, 13, 14, 15, 16, 17, 18, 19, 21, 25])) va rfl rfl) w1 rfl rfl
  have za : ag [0] [11, 12, 13, 14, 15, 16, 17, 18, 19, 21, 25, 26] S Z := ag_tr (ag_tr (ag_refl (fs := [0]) (rs := [11, 12, 13, 14, 15, 16, 17, 18, 19, 21, 25, 26])) zs rfl rfl) z1 rfl rfl
  -- from T2' to Z: rows 19, 21, 25, 26 alone
  have tz : ag [] [19, 21, 25, 26] T2' Z := ag_tr (ag_tr (ag_refl (fs := []) (rs := [19, 21, 25, 26])) w1 rfl rfl) z1 rfl rfl
  refine ⟨Z, za, ?_, ?_, gR_k g2 tz rfl rfl rfl rfl rfl, gG2_k v2 tz rfl rfl, fun r k hr hk => ?_, fun r k hr hk => ?_, fun k hk => ?_, fun j => ?_, ⟨T2'.2.1 19, fun j hj => ?_, ?_⟩, h⟩
  · rw [tz.1 0 rfl, v1.1 0 rfl, u1.1 0 rfl, tf 0, upd_at]
  · rw [tz.2 11 rfl, v1.2 11 rfl, u1.2 11 rfl]
    exact t11
  · rw [← tk r k hr hk]
    rcases hr with rfl | rfl | rfl | rfl
    · rw [tz.2 11 rfl, v1.2 11 rfl, u1.2 11 rfl]
    · rw [tz.2 12 rfl, v1.2 12 rfl, u1.2 12 rfl]
    · rw [tz.2 13 rfl, v1.2 13 rfl, u1.2 13 rfl]
    · rw [tz.2 14 rfl, v1.2 14 rfl, u1.2 14 rfl]
  · rcases hr with rfl | rfl | rfl | rfl
    · rw [tz.2 15 rfl, v1.2 15 rfl, u3 15 k (Or.inl rfl) hk, ta.2 15 rfl]
    · rw [tz.2 16 rfl, v1.2 16 rfl, u3 16 k (Or.inr rfl) hk, ta.2 16 rfl]
    · rw [tz.2 17 rfl, v3 17 k (Or.inl rfl) (by omega), ua.2 17 rfl]
    · rw [tz.2 18 rfl, v3 18 k (Or.inr rfl) (by omega), ua.2 18 rfl]
  · -- beyond the packed third nothing changed
    have nq : ¬ inP n W H (fac ax) (fac ad) (k / 64) := by
      rintro ⟨l, q, q1, q2, q3⟩
      have hA : ∀ l, l < n → fac ax l = 1 ∨ fac ax l = 2 := fun l _ => fac_12 hax l
      have hD : ∀ l, l < n → fac ad l = 1 ∨ fac ad l = 2 := fun l _ => fac_12 had l
      have bW := bxw_b gW q1 hA
      have bH := bxw_b gH q1 hD
      have bn := bno_b ⟨bW.1, bW.2.1⟩ bH.2.1 bW.2.2 bH.2.2 q2
      omega
    rw [z1.2 19 rfl, w2.2 k nq]
    show T2'.2.1 19 k = _
    rw [v4 k, if_neg (by omega), ua.2 19 rfl]
  · by_cases hj : j < 1028
    · exact z2 j hj
    · rw [z3 j (by omega), zs.2 26 rfl]
      exact r26 j (by omega)
  · rw [v4 j, if_pos (by omega)]
  · rw [z1.2 19 rfl]
    have w2 : md (LVg (T2'.2.1 23) (T2'.2.1 5) (fun l x y => rsv (kvM (T2'.1, T2'.2.1, T2'.2.2) l) W H (mx (fac ax) n / fac ax l) (mx (fac ad) n / fac ad l) x y) n W H (fac ax) (fac ad)) (inP n W H (fac ax) (fac ad)) (T3.2.1 19) (T2'.2.1 19) := w2
    rw [va.2 23 rfl, va.2 5 rfl] at w2
    simp only [kv] at w2
    exact w2
end PACK

/-! the writing of what is packed -/
theorem agc_7 {F G : cF} (h : agc [501] [6] F G) : ∀ w, 7 ≤ w → G w = F w := by
  intro w hw
  cases o : OB w with
  | true =>
    funext k
    refine h.1 w k o ?_
    simp only [List.contains_cons, List.contains_nil, Bool.or_false, beq_eq_false_iff_ne]
    omega
  | false =>
    refine h.2 w o ?_
    simp only [List.contains_cons, List.contains_nil, Bool.or_false, beq_eq_false_iff_ne]
    omega
theorem agc_4 {F G : cF} (h : agc [501] [6] F G) : ∀ k, k < 100 → G 4 k = F 4 k := by
  intro k hk
  refine h.1 4 k rfl ?_
  simp only [List.contains_cons, List.contains_nil, Bool.or_false, beq_eq_false_iff_ne]
  omega
section WRT
variable {S : ms} {F : cF} {L : cL} {a b : Bool} {P : Nat → Nat → Nat} {K1 : ms → Prop} {K2 : cs → Prop} {n W H e N pu uw uh kd : Nat} {A D bw bh ov : Nat → Nat}
theorem cdI_k {T : ms} {G : cF} {c : Nat} {ln : Nat → Nat} (hc : c ≤ 3) (h : cdI c ln S F) (e26 : T.2.1 26 = S.2.1 26) (e27 : T.2.1 27 = S.2.1 27) (e28 : T.2.1 28 = S.2.1 28) (hf : ∀ w, 7 ≤ w → G w = F w) : cdI c ln T G := by
  have r := oc_r hc
  unfold cdI gvI
  rw [e26, e27, e28, hf (oc c + 2) (by omega), hf (oc c + 3) (by omega), hf (oc c + 4) (by omega), hf (oc c) (by omega), hf (oc c + 5) (by omega)]
  exact h
theorem owI_of {c : Nat} {ln : Nat → Nat} (h : cdI c ln S F) (h255 : (S.2.1 26 (257 * c + 255)).toInt = 0) : owI c (oc c) ln S F := by
  refine ⟨fun t ht => ⟨(h.1 t ht).1, (h.1 t ht).2.2.1⟩, ?_, h.2⟩
  have := (h.1 255 (by decide)).2.2.2.2
  rw [h255] at this
  by_cases q : 1 ≤ ln 255
  · exact absurd (this q) (by decide)
  · omega
theorem x_write {lev : Nat → Int32} {ln : Nat → Nat → Nat} (he : e ≤ 65535) (hn : n = 1 ∨ n = 3) (hkd : kd = if n = 1 then 1 else 2) (ho : ordP n W H A D N pu uw uh bw bh ov) (hk : ordK n W H A D uw uh bw bh) (g : gR 0 S n W H A D) (gg : gG2 0 S n W H A D) (hz : czR S W H) (har : arO 22 F N pu ov)
    (hsI : seI n W H A D S F) (hr : rTab S F) (hB5 : ∀ k, k < 128 → B 0 255 (S.2.1 5 k)) (hsl : ∀ k, k < 64 → S.2.1 22 k = nI (sl k))
    (hL : rLev S F) (h19 : S.2.1 19 = lev) (hB : lvBd S) (hc : ∀ c, c < 2 * kd → cdI c (ln c) S F) (hcn : ∀ j, 255 ≤ j % 257 ∨ 257 * (2 * kd) ≤ j → (S.2.1 26 j).toInt = 0)
    (hq : ∀ U, U < N * pu → blkQ (fun c s => 0 < (S.2.1 26 (257 * c + s)).toInt) (ov U / 64) (fun k => lev (64 * ov U + k)) (ssq lev ov e pu U (ov U / 64))) (h9 : F 4 9 = 0) (h11 : F 4 11 = 0)
    (h1 : p_mark 216 (upd (upd (upd S.1 9 0) 32 0) 33 0, S.2.1, S.2.2) (fun S355 => p_putSections (nI e) (S355.1, S355.2.1, S355.2.2) (fun S360 => p_units 0 (nI e) (S360.1, S360.2.1, S360.2.2) (fun S366 => p_fillUp (S366.1, S366.2.1, S366.2.2) (fun S370 => p_mark 217 (S370.1, S370.2.1, S370.2.2) K1))))) (h2 : p_Pa_write UL 4 3 (nI e) (F, L, PC a b P) K2) :
    ∃ M' F', rOut M' F' ∧ ag [9, 32, 33] [8, 26, 53] S M' ∧ M'.2.1 26 = S.2.1 26 ∧ fwk F F' ∧ F' 4 11 = 0 ∧ K1 M' ∧ K2 (F', L, PC a b P) := by
  have k4 : 2 * kd ≤ 4 := by rw [hkd]; split <;> decide
  have kk : kd = 1 ∨ kd = 2 := by rw [hkd]; rcases hn with q | q <;> rw [q] <;> decide
  unfold p_Pa_write at h2
  obtain ⟨-, -, h2⟩ := h2
  have h2 : p_Pa_addMark UL 4 216 (va_up F 5 (upd (F 5) 1 0), L, PC a b P) _ := h2
  -- both begin with no byte
  generalize hS0 : ((upd (upd (upd S.1 9 0) 32 0) 33 0, S.2.1, S.2.2) : ms) = S0 at h1
  generalize hF0 : va_up F 5 (upd (F 5) 1 0) = F0 at h2
  have sf : ∀ k, k ≠ 9 → k ≠ 32 → k ≠ 33 → S0.1 k = S.1 k := fun k q1 q2 q3 => by
    rw [← hS0]
    show upd (upd (upd S.1 9 0) 32 0) 33 0 k = _
    rw [upd_ne q3, upd_ne q2, upd_ne q1]
  have sr : S0.2.1 = S.2.1 := by rw [← hS0]
  have s9 : S0.1 9 = 0 := by rw [← hS0]; rfl
  have s32 : S0.1 32 = 0 := by rw [← hS0]; rfl
  have s33 : S0.1 33 = 0 := by rw [← hS0]; rfl
  have ff : ∀ w, w ≠ 5 → F0 w = F w := fun w hw => by rw [← hF0]; exact vu_ne hw
  have f51 : F0 5 1 = 0 := by rw [← hF0, vu_at, upd_at]
  have a0 : ag [9, 32, 33] [8, 26, 53] S S0 := by
    rw [← hS0]
    exact ag_f (T := (upd (upd S.1 9 0) 32 0, S.2.1, S.2.2)) (ag_f (T := (upd S.1 9 0, S.2.1, S.2.2)) (ag_f (T := (S.1, S.2.1, S.2.2)) ag_refl rfl) rfl) rfl
  have fw0 : fwk F F0 := ⟨fun v o _ _ _ _ _ _ => ff v (fun q => by rw [q] at o; exact absurd o (by decide)), fun v k _ _ q _ => by rw [ff v q], fun k _ _ _ => by rw [ff 4 (by decide)]⟩
  have o0 : rOut S0 F0 := ⟨by rw [f51, s9], fun k hk => by
    rw [s9] at hk
    have z0 : (0 : Int32).toInt = 0 := by decide
    omega⟩
  have i0 : seI n W H A D S0 F0 := by
    unfold seI
    rw [sf 1 (by decide) (by decide) (by decide), sf 2 (by decide) (by decide) (by decide), sr, ff 12 (by decide), ff 4 (by decide), ff 13 (by decide), ff 14 (by decide)]
    exact hsI
  -- what is kept all along
  have kp : ∀ X Y, ag [9] [8] S0 X → agc [501] [6] F0 Y → (∀ w, 7 ≤ w → Y w = F w) ∧ (∀ k, k < 100 → Y 4 k = F 4 k) ∧ (∀ r, r ≠ 8 → X.2.1 r = S.2.1 r) ∧ (∀ k, k ≠ 9 → k ≠ 32 → k ≠ 33 → X.1 k = S.1 k) ∧ X.1 32 = 0 ∧ X.1 33 = 0 := by
    intro X Y ha hg
    refine ⟨fun w hw => (agc_7 hg w hw).trans (ff w (by omega)), fun k hk => (agc_4 hg k hk).trans (by rw [ff 4 (by decide)]), fun r hr => ?_, fun k q1 q2 q3 => ?_, (ha.1 32 rfl).trans s32, (ha.1 33 rfl).trans s33⟩
    · rw [ha.2 r (by simp only [List.contains_cons, List.contains_nil, Bool.or_false, beq_eq_false_iff_ne]; exact hr), sr]
    · rw [ha.1 k (by simp only [List.contains_cons, List.contains_nil, Bool.or_false, beq_eq_false_iff_ne]; exact q1)]
      exact sf k q1 q2 q3
  obtain ⟨M1, F1, a1, c1, o1, h1, h2⟩ := x_mark ⟨by decide, by decide⟩ o0 h1 h2
  have p1 := kp M1 F1 a1 c1
  unfold p_putSections at h1
  obtain ⟨-, h1⟩ := h1
  have e14 : M1.2.1 14 0 = nI n := by rw [p1.2.2.1 14 (by decide)]; exact hsI.2.2.2.1
  have h17 : b_putSections_17 (nI e) (nI n) (nI (if n = 1 then 1 else 2)) (M1.1, M1.2.1, M1.2.2) (fun S360 => p_units 0 (nI e) (S360.1, S360.2.1, S360.2.2) (fun S366 => p_fillUp (S366.1, S366.2.1, S366.2.2) (fun S370 => p_mark 217 (S370.1, S370.2.1, S370.2.2) K1))) := by
    have h1 : (¬ M1.2.1 14 0 = 1 → b_putSections_17 (nI e) (M1.2.1 14 0) 2 (M1.1, M1.2.1, M1.2.2) _) ∧ (M1.2.1 14 0 = 1 → b_putSections_17 (nI e) (M1.2.1 14 0) 1 (M1.1, M1.2.1, M1.2.2) _) := h1
    rw [e14] at h1
    rcases hn with q | q
    · rw [if_pos q]
      exact h1.2 (by rw [q]; rfl)
    · rw [if_neg (by omega)]
      exact h1.1 (by rw [q]; decide)
  obtain ⟨M2, F2, a2, c2, o2, h1, h2⟩ := x_tables (M := (M1.1, M1.2.1, M1.2.2)) (seI_k i0 a1 c1) (by intro k hk; show F1 3 k = M1.2.1 5 k; rw [c1.2 3 rfl rfl, ff 3 (by decide), p1.2.2.1 5 (by decide)]; exact hr k hk) (by intro k hk; show B 0 255 (M1.2.1 5 k); rw [p1.2.2.1 5 (by decide)]; exact hB5 k hk) (by intro k hk; show M1.2.1 22 k = _; rw [p1.2.2.1 22 (by decide)]; exact hsl k hk) o1 h17 h2
  have a12 : ag [9] [8] S0 M2 := ag_tr a1 a2 rfl rfl
  have c12 : agc [501] [6] F0 F2 := agc_tr c1 c2 rfl rfl
  obtain ⟨M3, F3, a3, c3, o3, h1, h2⟩ := x_frame (seI_k i0 a12 c12) o2 h1 h2
  have a13 : ag [9] [8] S0 M3 := ag_tr a12 a3 rfl rfl
  have c13 : agc [501] [6] F0 F3 := agc_tr c12 c3 rfl rfl
  have p3 := kp M3 F3 a13 c13
  rw [← hkd] at h1
  obtain ⟨M4, F4, a4, c4, o4, h1, h2⟩ := x_codesS (ln := ln) kk (by rw [p3.2.1 8 (by decide), hkd]; exact hsI.2.2.2.2.2.2.2.1) (fun c hc' => owI_of (cdI_k (by omega) (hc c hc') (p3.2.2.1 26 (by decide)) (p3.2.2.1 27 (by decide)) (p3.2.2.1 28 (by decide)) p3.1) (by rw [p3.2.2.1 26 (by decide)]; exact hcn _ (Or.inl (by omega)))) o3 h1 h2
  have a14 : ag [9] [8] S0 M4 := ag_tr a13 a4 rfl rfl
  have c14 : agc [501] [6] F0 F4 := agc_tr c13 c4 rfl rfl
  -- from the scan's head on
  have fin : ∀ X Y, ag [9] [8] S0 X → agc [501] [6] F0 Y → rOut X Y → b_putSections_297 (nI n) X (fun S360 => p_units 0 (nI e) (S360.1, S360.2.1, S360.2.2) (fun S366 => p_fillUp (S366.1, S366.2.1, S366.2.2) (fun S370 => p_mark 217 (S370.1, S370.2.1, S370.2.2) K1))) → b_Pa_write_55 UL 4 (nI e) (Y, L, PC a b P) K2 → ∃ M' F', rOut M' F' ∧ ag [9, 32, 33] [8, 26, 53] S M' ∧ M'.2.1 26 = S.2.1 26 ∧ fwk F F' ∧ F' 4 11 = 0 ∧ K1 M' ∧ K2 (F', L, PC a b P) := by
    intro X Y ha hg hro h1 h2
    unfold b_Pa_write_55 at h2
    obtain ⟨X2, Y2, d1, d2, d3, h1, h2⟩ := x_scanh (seI_k i0 ha hg) hro h1 h2
    have ha2 : ag [9] [8] S0 X2 := ag_tr ha d1 rfl rfl
    have hg2 : agc [501] [6] F0 Y2 := agc_tr hg d2 rfl rfl
    have p := kp X2 Y2 ha2 hg2
    have agX : ag [9, 32, 33] [8, 26, 53] S X2 := ag_tr a0 ha2 rfl rfl
    have fwX : fwk F Y2 := fwk_tr fw0 (fwk_w (agc_tr (agc_refl (fs := [410, 411, 501]) (rs := [6])) hg2 rfl rfl))
    obtain ⟨M5, F5, t1, t2, t26, t3, t4, h1, h2⟩ := x_data (S := (X2.1, X2.2.1, X2.2.2)) (T := X2) (lev := lev) (ln := ln) he hn hkd ho hk (gR_k g agX rfl rfl rfl rfl rfl) (gG2_k gg agX rfl rfl) (by
        show czR X2 W H
        unfold czR
        rw [agX.1 1 rfl, agX.1 2 rfl]
        exact hz) (by
        unfold arO
        rw [p.1 22 (by decide), p.1 (22 + 4) (by decide)]
        exact har) (by
        intro k hk'
        show Y2 19 k = X2.2.1 19 k
        rw [p.1 19 (by decide), p.2.2.1 19 (by decide)]
        exact hL k hk') (by show X2.2.1 19 = lev; rw [p.2.2.1 19 (by decide)]; exact h19) (by
        intro k hk'
        show B _ _ (X2.2.1 19 k)
        rw [p.2.2.1 19 (by decide)]
        exact hB k hk') (fun c hc' => cdI_k (by omega) (hc c hc') (p.2.2.1 26 (by decide)) (p.2.2.1 27 (by decide)) (p.2.2.1 28 (by decide)) p.1) (by show ∀ j, _ → (X2.2.1 26 j).toInt = 0; rw [p.2.2.1 26 (by decide)]; exact hcn) (by
        show ∀ U, U < N * pu → blkQ (fun c s => 0 < (X2.2.1 26 (257 * c + s)).toInt) _ _ _
        rw [p.2.2.1 26 (by decide)]
        exact hq) (by rw [p.2.1 9 (by decide)]; exact h9) ⟨d3, p.2.2.2.2.1, p.2.2.2.2.2, by rw [p.2.1 11 (by decide)]; exact h11⟩ h1 h2
    obtain ⟨M6, F6, q1, q2, q3, h1, h2⟩ := x_mark (M := (M5.1, M5.2.1, M5.2.2)) ⟨by decide, by decide⟩ t1.1 h1 h2
    refine ⟨M6, F6, q3, ag_tr (ag_tr agX t2 rfl rfl) q1 rfl rfl, (q1.2 26 rfl).trans (t26.trans (p.2.2.1 26 (by decide))), fwk_tr (fwk_tr fwX t3) (fwk_w (agc_tr (agc_refl (fs := [410, 411, 501]) (rs := [6])) q2 rfl rfl)), ?_, h1, h2⟩
    rw [agc_4 q2 11 (by decide)]
    exact t1.2.2.2
  by_cases e0 : e = 0
  · subst e0
    exact fin M4 F4 a14 c14 o4 (h1.1 (by decide)) (h2.1 (by decide))
  · have ne : ¬ (nI e : Int32) ≤ 0 := nI_nle (by omega) (by omega)
    have h1 := h1.2 ne
    have h2 := h2.2 ne
    obtain ⟨M5, F5, a5, c5, o5, h1, h2⟩ := x_mark ⟨by decide, by decide⟩ o4 h1 h2
    obtain ⟨-, -, h2⟩ := h2
    have h2 : p_Ro_addTwo UL 5 4 (F5, L, PC a b P) _ := h2
    obtain ⟨M6, F6, a6, c6, o6, h1, h2⟩ := x_two (M := (M5.1, M5.2.1, M5.2.2)) o5 h1 h2
    obtain ⟨-, -, h2⟩ := h2
    have h2 : p_Ro_addTwo UL 5 (nI e) (F6, L, PC a b P) _ := h2
    obtain ⟨M7, F7, a7, c7, o7, h1, h2⟩ := x_two (M := (M6.1, M6.2.1, M6.2.2)) o6 h1 h2
    exact fin M7 F7 (ag_tr (ag_tr (ag_tr a14 a5 rfl rfl) a6 rfl rfl) a7 rfl rfl) (agc_tr (agc_tr (agc_tr c14 c5 rfl rfl) c6 rfl rfl) c7 rfl rfl) o7 h1 h2
end WRT

/-! PACK: the joining -/
theorem fwk_at {F G : cF} (h : fwk F G) {w k : Nat} (h1 : w ≠ 4 ∧ w ≠ 5 ∧ w ≠ 6 ∧ w ≠ 58 ∧ w ≠ 34 ∧ w ≠ 47 ∧ w ≠ 40 ∧ w ≠ 53) (hk : OB w = true → k < 100) : G w k = F w k := by
  obtain ⟨a4, a5, a6, a58, a34, a47, a40, a53⟩ := h1
  cases o : OB w with
  | true => exact h.2.1 w k o a4 a5 (hk o)
  | false => rw [h.1 w o a6 a58 a34 a47 a40 a53]
section PK
variable {S : ms} {F : cF} {L : cL} {a b : Bool} {P : Nat → Nat → Nat} {K1 : Int32 → ms → Prop} {K2 : Int32 → cs → Prop} {T2 : Nat → cs → Prop} {n W H : Nat} {x1 x2 x3 : Int32}
theorem q_pkV (h : p_pack x1 x2 x3 S K1) : (1 ≤ x1.toInt ∧ x1.toInt ≤ 2 ∧ 1 ≤ x2.toInt ∧ x2.toInt ≤ 2 ∧ 0 ≤ x3.toInt ∧ x3.toInt ≤ 65535 ∧ b_pack_36 x1 x2 x3 0 S K1) ∨ (¬ (1 ≤ x1.toInt ∧ x1.toInt ≤ 2 ∧ 1 ≤ x2.toInt ∧ x2.toInt ≤ 2 ∧ 0 ≤ x3.toInt ∧ x3.toInt ≤ 65535) ∧ b_pack_36 x1 x2 x3 1 S K1) := by
  have z0 : (0 : Int32).toInt = 0 := by decide
  have z1 : (1 : Int32).toInt = 1 := by decide
  have z2 : (2 : Int32).toInt = 2 := by decide
  have z5 : (65535 : Int32).toInt = 65535 := by decide
  unfold p_pack b_pack_31 at h
  by_cases c1 : x1 < 1
  · exact Or.inr ⟨fun q => by have := i_lt c1; omega, h.1 c1⟩
  have h := h.2 c1
  by_cases c2 : 2 < x1
  · exact Or.inr ⟨fun q => by have := i_lt c2; omega, h.1 c2⟩
  have h := h.2 c2
  by_cases c3 : x2 < 1
  · exact Or.inr ⟨fun q => by have := i_lt c3; omega, h.1 c3⟩
  have h := h.2 c3
  by_cases c4 : 2 < x2
  · exact Or.inr ⟨fun q => by have := i_lt c4; omega, h.1 c4⟩
  have h := h.2 c4
  by_cases c5 : x3 < 0
  · exact Or.inr ⟨fun q => by have := i_lt c5; omega, h.1 c5⟩
  have h := h.2 c5
  have g1 := i_le (nlt_le c1)
  have g2 := i_le (nlt_le c2)
  have g3 := i_le (nlt_le c3)
  have g4 := i_le (nlt_le c4)
  have g5 := i_le (nlt_le c5)
  by_cases c6 : x3 ≤ 65535
  · have g6 := i_le c6
    exact Or.inl ⟨by omega, by omega, by omega, by omega, by omega, by omega, h.1 c6⟩
  · exact Or.inr ⟨fun q => by have := i_lt (nle_lt c6); omega, h.2 c6⟩
/-- the class looks at the same numbers -/
theorem q_BpV (h : p_B_pack UL 0 x1 x2 x3 (F, L, PC a b P) K2 T2) : (1 ≤ x1.toInt ∧ x1.toInt ≤ 2 ∧ 1 ≤ x2.toInt ∧ x2.toInt ≤ 2 ∧ 0 ≤ x3.toInt ∧ x3.toInt ≤ 65535 ∧ p_Pa_makeLevels UL 4 1 3 x1 x2 (F, L, PC a b P) (fun S52 => ¬ S52.2.2 0 2 = NU ∧ (c_cl UL (S52.2.2 0 2) = 6 ∧ (p_Pa_makeCodes UL (S52.2.2 0 2) x3 S52 (fun S60 => ¬ S60.2.2 0 2 = NU ∧ (¬ S60.2.2 0 1 = NU ∧ (c_cl UL (S60.2.2 0 2) = 6 ∧ (p_Pa_write UL (S60.2.2 0 2) (S60.2.2 0 1) x3 S60 (fun S72 => ¬ S72.2.2 0 4 = NU ∧ (c_cl UL (S72.2.2 0 4) = 9 ∧ (K2 (S72.1 (S72.2.2 0 4) 1) S72))))))))))) ∨ (¬ (1 ≤ x1.toInt ∧ x1.toInt ≤ 2 ∧ 1 ≤ x2.toInt ∧ x2.toInt ≤ 2 ∧ 0 ≤ x3.toInt ∧ x3.toInt ≤ 65535) ∧ T2 14 (F, L, PC a b P)) := by
  have z0 : (0 : Int32).toInt = 0 := by decide
  have z1 : (1 : Int32).toInt = 1 := by decide
  have z2 : (2 : Int32).toInt = 2 := by decide
  have z5 : (65535 : Int32).toInt = 65535 := by decide
  unfold p_B_pack b_B_pack_28 at h
  rcases q_isWithin h with ⟨a1, a2, h⟩ | ⟨d, h⟩
  · have h := h.2 (by decide)
    rcases q_isWithin h with ⟨a3, a4, h⟩ | ⟨d, h⟩
    · have h := h.2 (by decide)
      rcases q_isWithin h with ⟨a5, a6, h⟩ | ⟨d, h⟩
      · obtain ⟨-, -, -, -, h⟩ := h.1 (by decide)
        exact Or.inl ⟨by omega, by omega, by omega, by omega, by omega, by omega, h⟩
      · exact Or.inr ⟨fun q => by omega, h.2 rfl⟩
    · exact Or.inr ⟨fun q => by omega, h.1 rfl⟩
  · exact Or.inr ⟨fun q => by omega, h.1 rfl⟩
theorem kv_eq (hc : rCan S F) {l x y : Nat} (hx : x < 64) (hy : y < 64) : kvM S l x y = kvF F l x y := by
  unfold kvM kvF
  rw [hc.2.2.1, hc.2.2.2 x y 0 hx hy (by decide), hc.2.2.2 x y 1 hx hy (by decide), hc.2.2.2 x y 2 hx hy (by decide)]
theorem x_pack (hI : pkI n W H S F) (h1 : p_pack x1 x2 x3 S K1) (h2 : p_B_pack UL 0 x1 x2 x3 (F, L, PC a b P) K2 T2) :
    (∃ A D M' F' L' b', pkO n W H A D S F M' F' ∧ K1 (M'.1 9) M' ∧ K2 (F' 5 1) (F', L', PC a b' P)) ∨ (K1 0 (upd S.1 0 1, S.2.1, S.2.2) ∧ T2 14 (F, L, PC a b P)) := by
  rcases q_pkV h1 with ⟨v1, v2, v3, v4, v5, v6, h1⟩ | ⟨d, h1⟩
  · rcases q_BpV h2 with ⟨-, -, -, -, -, -, h2⟩ | ⟨d, -⟩
    · left
      obtain ⟨ax, e1, hax⟩ : ∃ ax : Nat, x1 = nI ax ∧ (ax = 1 ∨ ax = 2) := ⟨x1.toInt.toNat, Int32.toInt.inj (by rw [nI_toInt (by omega)]; omega), by omega⟩
      obtain ⟨ad, e2, had⟩ : ∃ ad : Nat, x2 = nI ad ∧ (ad = 1 ∨ ad = 2) := ⟨x2.toInt.toNat, Int32.toInt.inj (by rw [nI_toInt (by omega)]; omega), by omega⟩
      obtain ⟨e, e3, he⟩ : ∃ e : Nat, x3 = nI e ∧ e ≤ 65535 := ⟨x3.toInt.toNat, Int32.toInt.inj (by rw [nI_toInt (by omega)]; omega), by omega⟩
      subst e1 e2 e3
      obtain ⟨Z, za, z0, z11, gz, ggz, zk1, zk3, z19, z26, ⟨f0, hf0, mdR⟩, h1⟩ := q_pkA hI hax had h1
      obtain ⟨c1, c2, hn, gW, gH, s1, s2, s3, t5, b4, bf, hsl, hwv, hw1, hw2, f11, f29, r26⟩ := hI
      obtain ⟨Y, L1, N, pu, uw, uh, bw, bh, ov, f0', pl, h2⟩ := q_PmakeLevels hax had hn (c1.1.trans s1) (c1.2.1.trans s2) (c1.2.2.1.trans s3) gW gH bf (fun k hk => by rw [c2 k hk]; exact (t5 k hk).1) hw2 h2
      obtain ⟨y1, y2, y3, y4, y5, y6, y7, y8, y9, y10, y11, y12, y13⟩ := pl
      have hA : ∀ l, l < n → fac ax l = 1 ∨ fac ax l = 2 := fun l _ => fac_12 hax l
      have hD : ∀ l, l < n → fac ad l = 1 ∨ fac ad l = 2 := fun l _ => fac_12 had l
      -- which layer a packed block is of
      have lay : ∀ m, inP n W H (fac ax) (fac ad) m → m / 64 < n := by
        rintro m ⟨l, k, q1, q2, q3⟩
        have bW := bxw_b gW q1 hA
        have bH := bxw_b gH q1 hD
        have bn := bno_b ⟨bW.1, bW.2.1⟩ bH.2.1 bW.2.2 bH.2.2 q2
        omega
      -- the levels are the same
      have lev : ∀ j, j < 12288 → Z.2.1 19 j = Y 19 j := by
        refine md_eq mdR y12 (fun x _ => y9.2.2.2.2.2.2.2.2.2 x) (fun m q hm _ hq => ?_) (fun j hj => by rw [hf0 j hj, y13 j hj])
        unfold LVg
        refine lvk_congr hwv (fun k hk => (c2 _ (by split <;> omega)).symm) (fun k hk => ?_)
        unfold bkf
        exact rsv_congr gW.1 gH.1 (fun x y hx hy => kv_eq c1 (by omega) (by omega))
      have lvb : lvBd Z := by
        refine md_b mdR (fun m q hm hq => ?_) (fun j hj => by rw [hf0 j hj]; exact ⟨by decide, by decide⟩)
        unfold LVg
        refine lvk_b (fun k _ => hw1 k) (fun k hk => t5 _ (by split <;> omega)) (fun k hk => ?_)
        unfold bkf
        exact rsv_b (st_12 (lay m hm) hA) (st_12 (lay m hm) hD) (fun x y => kv_b (b4 _) (b4 _) (b4 _))
      have rl : rLev Z Y := fun k hk => (lev k hk).symm
      have kk : (if n = 1 then 1 else 2) = 1 ∨ (if n = 1 then 1 else 2) = 2 := by rcases hn with q | q <;> rw [q] <;> decide
      obtain ⟨-, -, h2⟩ := h2
      have h2 : p_Pa_makeCodes UL 4 (nI e) (Y, L1, PC a b P) _ := h2
      obtain ⟨Y1, m1, m2, h2⟩ := q_mc2 kk y3 h2
      have hk : ordK n W H (fac ax) (fac ad) uw uh bw bh := ⟨y10, y11⟩
      have cz : czR Z W H := ⟨(za.1 1 rfl).trans s1, (za.1 2 rfl).trans s2, gW.1, gW.2, gH.1, gH.2⟩
      -- the class's state at the counting walk
      generalize hG : va_up Y1 4 (upd (Y1 4) 9 1) = G at h2
      have gw : ∀ w, w ≠ 4 → G w = Y1 w := fun w hw => by rw [← hG]; exact vu_ne hw
      have g4 : ∀ k, k ≠ 9 → G 4 k = Y1 4 k := fun k hk => by rw [← hG, vu_at, upd_ne hk]
      have g49 : G 4 9 = 1 := by rw [← hG, vu_at, upd_at]
      have y411 : Y 4 11 = 0 := (y2 11 (by decide)).trans f11
      have arG : arO 22 G N pu ov := by
        unfold arO
        rw [gw 22 (by decide), gw (22 + 4) (by decide), m1 22 (by decide), m1 (22 + 4) (by decide)]
        exact y8
      obtain ⟨M1, F1, d1, d2, d3, d4, d5, d6, h1, h2⟩ := x_count (lev := Z.2.1 19) he hn rfl y9 hk gz ggz cz arG (fun k hk' => by rw [gw 19 (by decide), m1 19 (by decide)]; exact rl k hk') rfl lvb z26 (fun c s hc hs => by
          have r := oc_r (c := c) (by rcases kk with q | q <;> rw [q] at hc <;> omega)
          rw [gw _ (by omega)]
          exact (m2 c s hc hs).1) g49 (by rw [g4 11 (by decide), m1 4 (by decide)]; exact y411) h1 h2
      have h2 : e_Pa_makeCodes_51 UL 4 0 (va_up F1 4 (upd (F1 4) 9 0), L1, PC a b P) _ := h2
      have ew : ∀ w, w ≠ 4 → va_up F1 4 (upd (F1 4) 9 0) w = F1 w := fun w hw => vu_ne hw
      have e4 : ∀ k, k ≠ 9 → va_up F1 4 (upd (F1 4) 9 0) 4 k = F1 4 k := fun k hk => by rw [vu_at, upd_ne hk]
      have e49 : va_up F1 4 (upd (F1 4) 9 0) 4 9 = 0 := by rw [vu_at, upd_at]
      have k4 : 2 * (if n = 1 then 1 else 2) ≤ 4 := by split <;> decide
      have a48 : va_up F1 4 (upd (F1 4) 9 0) 4 8 = nI (if n = 1 then 1 else 2) := by
        rw [e4 8 (by decide), d2.2.2 8 (by decide) (by decide) (by decide), g4 8 (by decide), m1 4 (by decide)]
        exact y3
      have z3 : Z.1 3 = nI n := (za.1 3 rfl).trans s3
      have f29' : ∀ k, k < 514 → va_up F1 4 (upd (F1 4) 9 0) 29 k = 0 := fun k hk' => by
        rw [ew 29 (by decide), d2.1 29 rfl (by decide) (by decide) (by decide) (by decide) (by decide) (by decide), gw 29 (by decide), m1 29 (by decide), y1 29 (by decide) (by decide) (by decide) (by decide)]
        exact f29 k hk'
      obtain ⟨M2, F2, b', ln, q1, q2, q3, q4, h1, h2⟩ := x_codesA (S := (M1.1, M1.2.1, M1.2.2)) hn rfl (show M1.1 3 = nI n from (d1.1 3 rfl).trans z3) a48 ⟨fun c s hc hs => by
          have r := oc_r (c := c) (by omega)
          rw [ew _ (by omega)]
          exact d3 c s hc hs, d4, f29'⟩ (fun d s hd hd3 hs => by
          have r := oc_r hd3
          have o2 : OB (oc d + 2) = false ∧ oc d + 2 ≠ 6 ∧ oc d + 2 ≠ 58 ∧ oc d + 2 ≠ 34 ∧ oc d + 2 ≠ 47 ∧ oc d + 2 ≠ 40 ∧ oc d + 2 ≠ 53 := by
            have q : d = 0 ∨ d = 1 ∨ d = 2 ∨ d = 3 := by omega
            rcases q with rfl | rfl | rfl | rfl <;> exact ⟨rfl, by decide, by decide, by decide, by decide, by decide, by decide⟩
          rw [ew _ (by omega), d2.1 _ o2.1 o2.2.1 o2.2.2.1 o2.2.2.2.1 o2.2.2.2.2.1 o2.2.2.2.2.2.1 o2.2.2.2.2.2.2, gw _ (by omega)]
          exact (m2 d s hd (by omega)).2) h1 h2
      obtain ⟨-, -, -, h2⟩ := h2
      have h2 : p_Pa_write UL 4 3 (nI e) (F2, L1, PC a b' P) _ := h2
      -- from Z to M2, and from Y to F2
      have r1 : ag [9, 32, 33] [8, 26, 27, 28, 29, 30, 31, 53] Z M2 := ag_tr (ag_tr (ag_refl (fs := [9, 32, 33]) (rs := [8, 26, 27, 28, 29, 30, 31, 53])) d1 rfl rfl) q1 rfl rfl
      have fY : ∀ w, w ≠ 4 → w ≠ 5 → w ≠ 6 → w ≠ 58 → (w < 27 ∨ 57 < w) → ∀ k, (OB w = true → k < 100) → F2 w k = Y w k := fun w h4 h5 h6 h58 hw k hk' => by
        rw [q2 w hw, ew w h4, fwk_at d2 ⟨h4, h5, h6, h58, by omega, by omega, by omega, by omega⟩ hk', gw w h4, m1 w (by omega)]
      have f4 : ∀ k, k ≠ 9 → k ≠ 10 → k ≠ 11 → k < 100 → F2 4 k = Y 4 k := fun k k9 k10 k11 k100 => by
        rw [q2 4 (by decide), e4 k k9, d2.2.2 k k10 k11 k100, g4 k k9, m1 4 (by decide)]
      have gR2 : gR 0 M2 n W H (fac ax) (fac ad) := gR_k gz r1 rfl rfl rfl rfl rfl
      have gG22 : gG2 0 M2 n W H (fac ax) (fac ad) := gG2_k ggz r1 rfl rfl
      have row : ∀ w, OB w = false → w ≠ 6 → w ≠ 58 → (w < 27 ∨ 57 < w) → w ≠ 4 → w ≠ 5 → F2 w = Y w := fun w o h6 h58 hw h4 h5 => by
        funext k
        exact fY w h4 h5 h6 h58 hw k (fun q => by rw [o] at q; exact absurd q (by decide))
      have gC2 : gC 12 F2 n W H (fac ax) (fac ad) := gC_k y4 (fun k hk' => fY 12 (by decide) (by decide) (by decide) (by decide) (by decide) k (fun _ => by omega)) (row 13 rfl (by decide) (by decide) (by decide) (by decide) (by decide)) (row 14 rfl (by decide) (by decide) (by decide) (by decide) (by decide))
      have gM2 : gM 12 F2 n W H (fac ax) (fac ad) := gM_k y5 (fY 12 (by decide) (by decide) (by decide) (by decide) (by decide) 7 (fun _ => by decide)) (fY 12 (by decide) (by decide) (by decide) (by decide) (by decide) 8 (fun _ => by decide)) (row 15 rfl (by decide) (by decide) (by decide) (by decide) (by decide)) (row 16 rfl (by decide) (by decide) (by decide) (by decide) (by decide)) (row 17 rfl (by decide) (by decide) (by decide) (by decide) (by decide)) (row 18 rfl (by decide) (by decide) (by decide) (by decide) (by decide))
      have ar2 : arO 22 F2 N pu ov := by
        unfold arO
        rw [fY 22 (by decide) (by decide) (by decide) (by decide) (by decide) 4 (fun _ => by decide), fY 22 (by decide) (by decide) (by decide) (by decide) (by decide) 5 (fun _ => by decide), fY 22 (by decide) (by decide) (by decide) (by decide) (by decide) 6 (fun _ => by decide), row (22 + 4) rfl (by decide) (by decide) (by decide) (by decide) (by decide)]
        exact y8
      have sz : ag [0, 9, 32, 33] [8, 11, 12, 13, 14, 15, 16, 17, 18, 19, 21, 25, 26, 27, 28, 29, 30, 31, 53] S M2 := ag_tr (ag_tr (ag_refl (fs := [0, 9, 32, 33]) (rs := [8, 11, 12, 13, 14, 15, 16, 17, 18, 19, 21, 25, 26, 27, 28, 29, 30, 31, 53])) za rfl rfl) r1 rfl rfl
      have se : seI n W H (fac ax) (fac ad) M2 F2 := by
        refine ⟨hn, (sz.1 1 rfl).trans s1, (sz.1 2 rfl).trans s2, gR2.2.2.1, gC2.1, gC2.2.1, gC2.2.2.1, (f4 8 (by decide) (by decide) (by decide) (by decide)).trans y3, ⟨gW.2, gH.2⟩, fun l hl => ?_⟩
        have g1 := gR2.2.2.2.2.2.2 l hl
        have g2 := gC2.2.2.2.2.2.2.2.2 l hl
        rw [Nat.mul_zero, Nat.zero_add] at g1
        exact ⟨g1.1, g1.2.1, g2.1, g2.2.1, by have := fac_12 hax l; omega, by have := fac_12 had l; omega⟩
      have k26 : M2.2.1 26 = M1.2.1 26 := q1.2 26 rfl
      obtain ⟨M3, F3, w1, w2, w26, w3, w4, h1, h2⟩ := x_write (lev := Z.2.1 19) (ln := ln) he hn rfl y9 hk gR2 gG22 (by
          unfold czR
          rw [r1.1 1 rfl, r1.1 2 rfl]
          exact cz) ar2 se (fun k hk' => by rw [row 3 rfl (by decide) (by decide) (by decide) (by decide) (by decide), y1 3 (by decide) (by decide) (by decide) (by decide), sz.2 5 rfl]; exact c2 k hk') (fun k hk' => by rw [sz.2 5 rfl]; exact B_w (t5 k hk') (by decide) (by decide)) (fun k hk' => by rw [sz.2 22 rfl]; exact hsl k hk') (fun k hk' => by rw [row 19 rfl (by decide) (by decide) (by decide) (by decide) (by decide), r1.2 19 rfl]; exact rl k hk') (r1.2 19 rfl) (fun k hk' => by rw [r1.2 19 rfl]; exact lvb k hk') q4 (fun j hj => (q3.2.1 j).2.2 hj) (by rw [k26]; exact d6) (by rw [q2 4 (by decide)]; exact e49) (by rw [q2 4 (by decide), e4 11 (by decide)]; exact d5) h1 h2
      obtain ⟨-, -, h2⟩ := h2
      have h2 : K2 (F3 5 1) (F3, L1, PC a b' P) := h2
      have fz : ag [0, 9, 32, 33] [8, 11, 12, 13, 14, 15, 16, 17, 18, 19, 21, 25, 26, 27, 28, 29, 30, 31, 53] S M3 := ag_tr sz w2 rfl rfl
      have zM : ag [9, 32, 33] [8, 26, 27, 28, 29, 30, 31, 53] Z M3 := ag_tr r1 w2 rfl rfl
      have row3 : ∀ w, OB w = false → w ≠ 6 → w ≠ 58 → w ≠ 34 → w ≠ 47 → w ≠ 40 → w ≠ 53 → F3 w = F2 w := fun w o h6 h58 h34 h47 h40 h53 => w3.1 w o h6 h58 h34 h47 h40 h53
      refine ⟨fac ax, fac ad, M3, F3, L1, b', ⟨w1, ?_, fz, ?_, gR_k gz zM rfl rfl rfl rfl rfl, gG2_k ggz zM rfl rfl, fun r k hr hk' => ?_, fun r k hr hk' => ?_, fun k hk' => ?_, fun j hj => ?_, fun w k q4' q9 q10 qr hk' => ?_, fun k k8 k9 k10 k11 k100 => ?_, w4, fun k hk' => ?_, ?_, ?_, ?_, ?_, fun k hk' => ?_⟩, h1, h2⟩
      · rw [zM.1 0 rfl]
        exact z0
      · rw [zM.2 11 rfl]
        exact z11
      · rw [← zk1 r k hr hk']
        rcases hr with rfl | rfl | rfl | rfl
        · rw [zM.2 11 rfl]
        · rw [zM.2 12 rfl]
        · rw [zM.2 13 rfl]
        · rw [zM.2 14 rfl]
      · rw [← zk3 r k hr hk']
        rcases hr with rfl | rfl | rfl | rfl
        · rw [zM.2 15 rfl]
        · rw [zM.2 16 rfl]
        · rw [zM.2 17 rfl]
        · rw [zM.2 18 rfl]
      · rw [zM.2 19 rfl]
        exact z19 k hk'
      · rw [w26, k26]
        exact i0 ((d4 j).2.2 (Or.inr (by omega)))
      · have hw : w ≠ 4 ∧ w ≠ 5 ∧ w ≠ 6 ∧ w ≠ 58 ∧ w ≠ 34 ∧ w ≠ 47 ∧ w ≠ 40 ∧ w ≠ 53 := by omega
        rw [fwk_at w3 hw hk', fY w hw.1 hw.2.1 hw.2.2.1 hw.2.2.2.1 (by omega) k hk', y1 w hw.1 q9 q10 (by omega)]
      · rw [w3.2.2 k k10 k11 k100, f4 k k9 k10 k11 k100]
        exact y2 k k8
      · rw [row3 29 rfl (by decide) (by decide) (by decide) (by decide) (by decide) (by decide)]
        exact q3.2.2 k hk'
      · exact gC_k gC2 (fun k hk' => fwk_at w3 (by decide) (fun _ => by omega)) (row3 13 rfl (by decide) (by decide) (by decide) (by decide) (by decide) (by decide)) (row3 14 rfl (by decide) (by decide) (by decide) (by decide) (by decide) (by decide))
      · exact gM_k gM2 (fwk_at w3 (by decide) (fun _ => by decide)) (fwk_at w3 (by decide) (fun _ => by decide)) (row3 15 rfl (by decide) (by decide) (by decide) (by decide) (by decide) (by decide)) (row3 16 rfl (by decide) (by decide) (by decide) (by decide) (by decide) (by decide)) (row3 17 rfl (by decide) (by decide) (by decide) (by decide) (by decide) (by decide)) (row3 18 rfl (by decide) (by decide) (by decide) (by decide) (by decide) (by decide))
      · rw [fwk_at w3 (by decide) (fun _ => by decide), fY 12 (by decide) (by decide) (by decide) (by decide) (by decide) 16 (fun _ => by decide)]
        exact y6
      · rw [fwk_at w3 (by decide) (fun _ => by decide), fY 12 (by decide) (by decide) (by decide) (by decide) (by decide) 17 (fun _ => by decide)]
        exact y7
      · rw [row3 19 rfl (by decide) (by decide) (by decide) (by decide) (by decide) (by decide), row 19 rfl (by decide) (by decide) (by decide) (by decide) (by decide), zM.2 19 rfl]
        exact rl k hk'
    · exact absurd ⟨v1, v2, v3, v4, v5, v6⟩ d
  · rcases q_BpV h2 with ⟨a1, a2, a3, a4, a5, a6, -⟩ | ⟨-, h2⟩
    · exact absurd ⟨a1, a2, a3, a4, a5, a6⟩ d
    · right
      unfold b_pack_36 at h1
      exact ⟨h1.2 (by show ¬ (1 : Int32) ≤ 0; decide), h2⟩
end PK

