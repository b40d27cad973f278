/-! UNPACK: become, the reference -/
/-- samples of a block by its weights -/
def blk (W w : Nat → Int32) (k : Nat) : Int32 := smv W (fun j => hrv W w (j / 8) (j % 8)) (k / 8) (k % 8)
/-- where sample i of block b stands -/
def pos (gw l b i : Nat) : Nat := 64 * (64 * l + 8 * (b / gw) + i / 8) + 8 * (b % gw) + i % 8
/-- the samples of block b of layer l stand in row rw -/
def sB (gw l b : Nat) (lv en Wv rw : Nat → Int32) : Prop := ∃ w : Nat → Int32, (∀ k, k < 64 → w (sl k) = lv (64 * (64 * l + b) + k) * en (64 * l + sl k)) ∧ ∀ i, i < 64 → rw (pos gw l b i) = blk Wv w i
theorem pos_ne {gw l l' b b' i i' : Nat} (h1 : 1 ≤ gw) (h8 : gw ≤ 8) (hb : b / gw < 8) (hb' : b' / gw < 8) (hi : i < 64) (hi' : i' < 64) (hg : 8 * (b % gw) < 64) (ne : ¬ (l = l' ∧ b = b' ∧ i = i')) : pos gw l b i ≠ pos gw l' b' i' := by
  intro e
  unfold pos at e
  have m1 : b % gw < gw := Nat.mod_lt _ h1
  have m2 : b' % gw < gw := Nat.mod_lt _ h1
  have d1 := Nat.div_add_mod b gw
  have d2 := Nat.div_add_mod b' gw
  generalize b / gw = q at *
  generalize b' / gw = q' at *
  generalize b % gw = r at *
  generalize b' % gw = r' at *
  have a1 : l = l' := by omega
  have a2 : q = q' := by omega
  have a3 : r = r' := by omega
  have a4 : i = i' := by omega
  exact ne ⟨a1, by rw [← d1, ← d2, a2, a3], a4⟩
section BEC
variable {S : ms} {K : ms → Prop} {n W H : Nat} {A D : Nat → Nat}
theorem n_3l {l : Nat} : ((3 : Int32) + nI l) = nI (3 + l) := by rw [show (3 : Int32) = nI 3 from rfl, nI_add]
theorem n_6l {l : Nat} : ((6 : Int32) + nI l) = nI (6 + l) := by rw [show (6 : Int32) = nI 6 from rfl, nI_add]
theorem n_cell {q c l bk j : Nat} (hc : c = 12288 * q) {x : Int32} (hx : x = nI q) : ((64 * ((64 * ((3 * x) + nI l)) + nI bk)) + nI j : Int32) = nI (c + 64 * (64 * l + bk) + j) := by
  rw [hx, q3_n, show (64 : Int32) = nI 64 from rfl, pk_mul, nI_add, pk_mul, nI_add]
  congr 1
  omega
theorem q_bc243 {l bk X Y : Nat} {R102 : Int32 → ms → Prop} {R114 : Int32 → Int32 → ms → Prop} (hl : l < 3) (hX : X + 8 ≤ 64) (hY : Y + 8 ≤ 64) (h : e_become_243 (nI l) (nI bk) (nI X) (nI Y) 0 S R102 R114 K) :
    ∃ Z, ag [] [20] S Z ∧ (∀ i, i < 64 → Z.2.1 20 (64 * (64 * l + Y + i / 8) + X + i % 8) = S.2.1 25 i) ∧ (∀ p, (∀ i, i < 64 → p ≠ 64 * (64 * l + Y + i / 8) + X + i % 8) → Z.2.1 20 p = S.2.1 20 p) ∧ R114 (nI l) (nI (bk + 1)) Z := by
  refine v_e_become_243 h (fun y T => ∃ j, y = nI j ∧ j ≤ 64 ∧ ag [] [20] S T ∧ (∀ i, i < j → T.2.1 20 (64 * (64 * l + Y + i / 8) + X + i % 8) = S.2.1 25 i) ∧ ∀ p, (∀ i, i < j → p ≠ 64 * (64 * l + Y + i / 8) + X + i % 8) → T.2.1 20 p = S.2.1 20 p) ⟨0, rfl, Nat.zero_le _, ag_refl, fun i hi => absurd hi (Nat.not_lt_zero _), fun _ _ => rfl⟩ ?_
  rintro y T R ⟨j, rfl, hj, ha, hc, hf⟩ hb
  unfold b_become_243 at hb
  by_cases e : j = 64
  · right
    subst e
    refine ⟨T, ha, hc, hf, ?_⟩
    have := hb.1 (Int32.le_refl _)
    rwa [show (nI bk + 1 : Int32) = nI (bk + 1) from nI_1 bk] at this
  · left
    obtain ⟨-, -, hR⟩ := hb.2 (nI_ge (b := 64) (by omega) (by decide))
    have ei : (((64 * (((64 * nI l) + nI Y) + (nI j / 8))) + nI X) + (nI j - nI j / 8 * 8) : Int32) = nI (64 * (64 * l + Y + j / 8) + X + j % 8) := by
      rw [show (8 : Int32) = nI 8 from rfl, pk_rem (by omega) (by omega) (by omega), pk_div (by omega) (by omega) (by omega), show (64 : Int32) = nI 64 from rfl, pk_mul, nI_add, nI_add, pk_mul, nI_add, nI_add]
    rw [ei, nI_clamp (by omega), nI_clamp (show j < 2 ^ 31 by omega), show T.2.1 25 = S.2.1 25 from ha.2 25 rfl] at hR
    refine ⟨_, _, hR, j + 1, nI_1 j, by omega, ag_r ha rfl, fun i hi => ?_, fun p hp => ?_⟩
    · show va_up T.2.1 20 (upd (T.2.1 20) (64 * (64 * l + Y + j / 8) + X + j % 8) (S.2.1 25 j)) 20 _ = _
      rw [vu_at]
      by_cases e2 : i = j
      · subst e2
        exact upd_at
      · rw [upd_ne (by omega)]
        exact hc i (by omega)
    · show va_up T.2.1 20 (upd (T.2.1 20) (64 * (64 * l + Y + j / 8) + X + j % 8) (S.2.1 25 j)) 20 p = _
      rw [vu_at, upd_ne (hp j (by omega))]
      exact hf p (fun i hi => hp i (by omega))
theorem q_bc137 {l bk gw gh : Nat} {R102 : Int32 → ms → Prop} {R114 : Int32 → Int32 → ms → Prop} (hl : l < 3) (hw : 1 ≤ gw ∧ gw ≤ 8) (hh : gh ≤ 8) (hbk : bk < gw * gh) (ho : od S) (g17 : S.2.1 17 (3 + l) = nI gw) (h : e_become_137 (nI l) (nI bk) 0 S R102 R114 K) :
    ∃ Z, ag [] [19, 20, 25] S Z ∧ (∀ p, Z.2.1 19 p = if 12288 + 64 * (64 * l + bk) ≤ p ∧ p < 12288 + 64 * (64 * l + bk) + 64 then S.2.1 19 (p + 12288) else S.2.1 19 p) ∧ sB gw l bk (fun j => S.2.1 19 (24576 + j)) (S.2.1 46) (S.2.1 23) (Z.2.1 20) ∧ (∀ p, (∀ i, i < 64 → p ≠ pos gw l bk i) → Z.2.1 20 p = S.2.1 20 p) ∧ R114 (nI l) (nI (bk + 1)) Z := by
  have b64 : bk < 64 := Nat.lt_of_lt_of_le hbk (Nat.mul_le_mul hw.2 hh)
  have bd : bk / gw < 8 := Nat.lt_of_lt_of_le (Nat.div_lt_of_lt_mul hbk) hh
  have bm : bk % gw < 8 := Nat.lt_of_lt_of_le (Nat.mod_lt _ hw.1) hw.2
  refine v_e_become_137 h (fun y T => ∃ j, y = nI j ∧ j ≤ 64 ∧ ag [] [19, 25] S T ∧ (∀ p, T.2.1 19 p = if 12288 + 64 * (64 * l + bk) ≤ p ∧ p < 12288 + 64 * (64 * l + bk) + j then S.2.1 19 (p + 12288) else S.2.1 19 p) ∧ ∀ k, k < j → T.2.1 25 (sl k) = S.2.1 19 (24576 + (64 * (64 * l + bk) + k)) * S.2.1 46 (64 * l + sl k)) ⟨0, rfl, Nat.zero_le _, ag_refl, fun p => by rw [if_neg (by omega)], fun k hk => absurd hk (Nat.not_lt_zero _)⟩ ?_
  rintro y T R ⟨j, rfl, hj, ha, hc, hk⟩ hb
  unfold b_become_137 at hb
  by_cases e : j = 64
  · right
    subst e
    obtain ⟨Z, z1, z2, h⟩ := q_toSamples (hb.1 (Int32.le_refl _))
    obtain ⟨-, -, -, -, h⟩ := h
    have e17 : Z.2.1 17 (3 + l) = nI gw := by rw [z1.2 17 rfl, ha.2 17 rfl, g17]
    rw [n_3l, nI_clamp (show 3 + l < 2 ^ 31 by omega), e17, pk_rem (by omega) (by omega) (by omega), pk_div (by omega) (by omega) (by omega), show (8 : Int32) = nI 8 from rfl, pk_mul, pk_mul] at h
    obtain ⟨Y, y1, y2, y3, h⟩ := q_bc243 (S := (Z.1, Z.2.1, Z.2.2)) hl (by omega) (by omega) h
    have y1 : ag [] [20] Z Y := y1
    refine ⟨Y, ag_tr (ag_tr (ag_tr (ag_refl (fs := []) (rs := [19, 20, 25])) ha rfl rfl) z1 rfl rfl) y1 rfl rfl, fun p => ?_, ⟨T.2.1 25, hk, fun i hi => ?_⟩, fun p hp => ?_, h⟩
    · rw [y1.2 19 rfl, z1.2 19 rfl, hc p]
    · have t := y2 i hi
      have t : Y.2.1 20 (64 * (64 * l + 8 * (bk / gw) + i / 8) + 8 * (bk % gw) + i % 8) = Z.2.1 25 i := t
      show Y.2.1 20 (64 * (64 * l + 8 * (bk / gw) + i / 8) + 8 * (bk % gw) + i % 8) = _
      rw [t, z2 i hi, ha.2 23 rfl]
      rfl
    · rw [y3 p hp]
      show Z.2.1 20 p = _
      rw [z1.2 20 rfl, ha.2 20 rfl]
  · left
    have hb := hb.2 (nI_ge (b := 64) (by omega) (by decide))
    unfold p_levelCell at hb
    dsimp only at hb
    rw [n_cell (q := 2) (c := 24576) (x := 2) rfl rfl, n_cell (q := 1) (c := 12288) (x := 1) rfl rfl] at hb
    obtain ⟨-, -, -, -, -, -, hR⟩ := hb
    have s64 := sl_lt j
    have c1 : (nI (24576 + 64 * (64 * l + bk) + j)).toNatClampNeg = 24576 + 64 * (64 * l + bk) + j := nI_clamp (by omega)
    have c2 : (nI (12288 + 64 * (64 * l + bk) + j)).toNatClampNeg = 12288 + 64 * (64 * l + bk) + j := nI_clamp (by omega)
    have c3 : (nI j).toNatClampNeg = j := nI_clamp (by omega)
    have c4 : T.2.1 22 j = nI (sl j) := by rw [ha.2 22 rfl]; exact ho j (by omega)
    have c5 : (nI (64 * l + sl j)).toNatClampNeg = 64 * l + sl j := nI_clamp (by omega)
    have c6 : (nI (sl j)).toNatClampNeg = sl j := nI_clamp (by omega)
    have c7 : T.2.1 19 (24576 + 64 * (64 * l + bk) + j) = S.2.1 19 (24576 + (64 * (64 * l + bk) + j)) := by rw [hc, if_neg (by omega), Nat.add_assoc]
    rw [c1, c2, c3, vu_ne (show (22 : Nat) ≠ 19 by decide), c4, show (64 * nI l + nI (sl j) : Int32) = nI (64 * l + sl j) by rw [show (64 : Int32) = nI 64 from rfl, pk_mul, nI_add], c5, c6, vu_ne (show (25 : Nat) ≠ 19 by decide), vu_ne (show (46 : Nat) ≠ 19 by decide), c7, ha.2 46 rfl] at hR
    refine ⟨_, _, hR, j + 1, nI_1 j, by omega, ag_r (T := (T.1, va_up T.2.1 19 (upd (T.2.1 19) (12288 + 64 * (64 * l + bk) + j) (S.2.1 19 (24576 + (64 * (64 * l + bk) + j)))), T.2.2)) (ag_r ha rfl) rfl, fun p => ?_, fun k hk2 => ?_⟩
    · dsimp only
      rw [vu_ne (show (19 : Nat) ≠ 25 by decide), vu_at]
      by_cases e2 : p = 12288 + 64 * (64 * l + bk) + j
      · rw [e2, upd_at, if_pos (by omega), show 12288 + 64 * (64 * l + bk) + j + 12288 = 24576 + (64 * (64 * l + bk) + j) by omega]
      · rw [upd_ne e2, hc p]
        by_cases e3 : 12288 + 64 * (64 * l + bk) ≤ p ∧ p < 12288 + 64 * (64 * l + bk) + j
        · rw [if_pos e3, if_pos (by omega)]
        · rw [if_neg e3, if_neg (by omega)]
    · dsimp only
      rw [vu_at]
      by_cases e2 : k = j
      · rw [e2, upd_at]
      · rw [upd_ne (fun q => e2 (sl_inj (by omega) (by omega) q))]
        exact hk k (by omega)
theorem sB_f {gw l b : Nat} {lv lv' en Wv rw rw' : Nat → Int32} (h : sB gw l b lv en Wv rw) (hl : ∀ k, k < 64 → lv' (64 * (64 * l + b) + k) = lv (64 * (64 * l + b) + k)) (hr : ∀ i, i < 64 → rw' (pos gw l b i) = rw (pos gw l b i)) : sB gw l b lv' en Wv rw' := by
  obtain ⟨w, h1, h2⟩ := h
  exact ⟨w, fun k hk => by rw [h1 k hk, hl k hk], fun i hi => by rw [hr i hi, h2 i hi]⟩
theorem q_bc114 {l gw gh : Nat} {R102 : Int32 → ms → Prop} (hl : l < 3) (hw : 1 ≤ gw ∧ gw ≤ 8) (hh : gh ≤ 8) (ho : od S) (g17 : S.2.1 17 (3 + l) = nI gw) (g18 : S.2.1 18 (3 + l) = nI gh) (h : e_become_114 (nI l) 0 S R102 K) :
    ∃ Z, ag [] [19, 20, 25] S Z ∧ (∀ p, Z.2.1 19 p = if 12288 + 4096 * l ≤ p ∧ p < 12288 + 4096 * l + 64 * (gw * gh) then S.2.1 19 (p + 12288) else S.2.1 19 p) ∧ (∀ b, b < gw * gh → sB gw l b (fun j => S.2.1 19 (24576 + j)) (S.2.1 46) (S.2.1 23) (Z.2.1 20)) ∧ (∀ p, p / 4096 ≠ l → Z.2.1 20 p = S.2.1 20 p) ∧ R102 (nI (l + 1)) Z := by
  have g64 : gw * gh ≤ 64 := Nat.mul_le_mul hw.2 hh
  refine v_e_become_114 h (fun y T => ∃ j, y = nI j ∧ j ≤ gw * gh ∧ ag [] [19, 20, 25] S T ∧ (∀ p, T.2.1 19 p = if 12288 + 4096 * l ≤ p ∧ p < 12288 + 4096 * l + 64 * j then S.2.1 19 (p + 12288) else S.2.1 19 p) ∧ (∀ b, b < j → sB gw l b (fun j => S.2.1 19 (24576 + j)) (S.2.1 46) (S.2.1 23) (T.2.1 20)) ∧ ∀ p, p / 4096 ≠ l → T.2.1 20 p = S.2.1 20 p) ⟨0, rfl, Nat.zero_le _, ag_refl, fun p => by rw [if_neg (by omega)], fun b hb => absurd hb (Nat.not_lt_zero _), fun _ _ => rfl⟩ ?_
  rintro y T R ⟨j, rfl, hj, ha, hc, hs, hf⟩ hb
  unfold b_become_114 at hb
  have e17 : T.2.1 17 (3 + l) = nI gw := by rw [ha.2 17 rfl, g17]
  have e18 : T.2.1 18 (3 + l) = nI gh := by rw [ha.2 18 rfl, g18]
  rw [n_3l, nI_clamp (show 3 + l < 2 ^ 31 by omega), e17, e18, pk_mul] at hb
  obtain ⟨-, -, hb⟩ := hb
  by_cases e : j = gw * gh
  · right
    subst e
    have h := hb.1 (Int32.le_refl _)
    rw [show (nI l + 1 : Int32) = nI (l + 1) from nI_1 l] at h
    exact ⟨T, ha, hc, hs, hf, h⟩
  · left
    have h := hb.2 (nI_ge (by omega) (by omega))
    obtain ⟨Z, z1, z2, z3, z4, h⟩ := q_bc137 hl hw hh (by omega) (by unfold od; rw [ha.2 22 rfl]; exact ho) e17 h
    have lv : ∀ p, 24576 ≤ p → T.2.1 19 p = S.2.1 19 p := fun p hp => by rw [hc, if_neg (by omega)]
    have bd : ∀ b, b < gw * gh → b / gw < 8 := fun b hb => Nat.lt_of_lt_of_le (Nat.div_lt_of_lt_mul hb) hh
    have bm : ∀ b, b % gw < 8 := fun b => Nat.lt_of_lt_of_le (Nat.mod_lt _ hw.1) hw.2
    refine ⟨_, _, h, j + 1, rfl, by omega, ag_tr ha z1 rfl rfl, fun p => ?_, fun b hb => ?_, fun p hp => ?_⟩
    · rw [z2 p]
      by_cases e2 : 12288 + 64 * (64 * l + j) ≤ p ∧ p < 12288 + 64 * (64 * l + j) + 64
      · rw [if_pos e2, if_pos (by omega), lv _ (by omega)]
      · rw [if_neg e2, hc p]
        by_cases e3 : 12288 + 4096 * l ≤ p ∧ p < 12288 + 4096 * l + 64 * j
        · rw [if_pos e3, if_pos (by omega)]
        · rw [if_neg e3, if_neg (by omega)]
    · by_cases e2 : b = j
      · subst e2
        rw [show T.2.1 46 = S.2.1 46 from ha.2 46 rfl, show T.2.1 23 = S.2.1 23 from ha.2 23 rfl] at z3
        exact sB_f z3 (fun k hk => (lv _ (by omega)).symm) (fun i hi => rfl)
      · refine sB_f (hs b (by omega)) (fun k hk => rfl) (fun i hi => ?_)
        exact z4 _ (fun i' hi' => pos_ne hw.1 hw.2 (bd b (by omega)) (bd j (by omega)) hi hi' (by have := bm b; omega) (fun q => e2 q.2.1))
    · rw [z4 p (fun i hi q => hp ?_), hf p hp]
      rw [q]
      unfold pos
      have d1 := bd j (by omega)
      have d2 := bm j
      omega
/-- the layers of the picture, made from the levels -/
theorem q_bc102 (hn : n = 1 ∨ n = 3) (g14 : S.2.1 14 1 = nI n) {gw gh : Nat → Nat} (hw : ∀ l, l < n → (1 ≤ gw l ∧ gw l ≤ 8) ∧ gh l ≤ 8 ∧ S.2.1 17 (3 + l) = nI (gw l) ∧ S.2.1 18 (3 + l) = nI (gh l)) (ho : od S) (h : e_become_102 0 S K) :
    ∃ Z, ag [] [19, 20, 25] S Z ∧ (∀ p, ¬ (12288 ≤ p ∧ p < 24576) → Z.2.1 19 p = S.2.1 19 p) ∧ (∀ l b k, l < n → b < gw l * gh l → k < 64 → Z.2.1 19 (12288 + 64 * (64 * l + b) + k) = S.2.1 19 (24576 + 64 * (64 * l + b) + k)) ∧ (∀ l b, l < n → b < gw l * gh l → sB (gw l) l b (fun j => S.2.1 19 (24576 + j)) (S.2.1 46) (S.2.1 23) (Z.2.1 20)) ∧ K Z := by
  have gg : ∀ l, l < n → gw l * gh l ≤ 64 := fun l hl => Nat.mul_le_mul (hw l hl).1.2 (hw l hl).2.1
  refine v_e_become_102 h (fun y T => ∃ j, y = nI j ∧ j ≤ n ∧ ag [] [19, 20, 25] S T ∧ (∀ p, ¬ (12288 ≤ p ∧ p < 24576) → T.2.1 19 p = S.2.1 19 p) ∧ (∀ l b k, l < j → b < gw l * gh l → k < 64 → T.2.1 19 (12288 + 64 * (64 * l + b) + k) = S.2.1 19 (24576 + 64 * (64 * l + b) + k)) ∧ ∀ l b, l < j → b < gw l * gh l → sB (gw l) l b (fun j => S.2.1 19 (24576 + j)) (S.2.1 46) (S.2.1 23) (T.2.1 20)) ⟨0, rfl, Nat.zero_le _, ag_refl, fun _ _ => rfl, fun l b k hl => absurd hl (Nat.not_lt_zero _), fun l b hl => absurd hl (Nat.not_lt_zero _)⟩ ?_
  rintro y T R ⟨j, rfl, hj, ha, hc, hv, hs⟩ hb
  unfold b_become_102 at hb
  have e14 : T.2.1 14 (1 : Int32).toNatClampNeg = nI n := by rw [ha.2 14 rfl]; exact g14
  rw [e14] at hb
  obtain ⟨-, hb⟩ := hb
  by_cases e : j = n
  · right
    subst e
    exact ⟨T, ha, hc, hv, hs, hb.1 (Int32.le_refl _)⟩
  · left
    have h := hb.2 (nI_ge (by omega) (by omega))
    obtain ⟨w1, w2, w3, w4⟩ := hw j (by omega)
    have g6 := gg j (by omega)
    obtain ⟨Z, z1, z2, z3, z4, h⟩ := q_bc114 (by omega) w1 w2 (by unfold od; rw [ha.2 22 rfl]; exact ho) (by rw [ha.2 17 rfl]; exact w3) (by rw [ha.2 18 rfl]; exact w4) h
    refine ⟨_, _, h, j + 1, rfl, by omega, ag_tr ha z1 rfl rfl, fun p hp => ?_, fun l b k hl hb2 hk => ?_, fun l b hl hb2 => ?_⟩
    · rw [z2 p, if_neg (by omega), hc p hp]
    · rw [z2 _]
      by_cases e2 : l = j
      · subst e2
        rw [if_pos (by omega), hc _ (by omega), show 12288 + 64 * (64 * l + b) + k + 12288 = 24576 + 64 * (64 * l + b) + k by omega]
      · have := gg l (by omega)
        rw [if_neg (by omega)]
        exact hv l b k (by omega) hb2 hk
    · by_cases e2 : l = j
      · subst e2
        have z3 := z3 b hb2
        rw [show T.2.1 46 = S.2.1 46 from ha.2 46 rfl, show T.2.1 23 = S.2.1 23 from ha.2 23 rfl] at z3
        exact sB_f z3 (fun k hk => (hc _ (by omega)).symm) (fun i hi => rfl)
      · refine sB_f (hs l b (by omega) hb2) (fun k hk => rfl) (fun i hi => z4 _ ?_)
        obtain ⟨v1, v2, -, -⟩ := hw l (by omega)
        have d1 : b / gw l < 8 := Nat.lt_of_lt_of_le (Nat.div_lt_of_lt_mul hb2) v2
        have d2 : b % gw l < 8 := Nat.lt_of_lt_of_le (Nat.mod_lt _ v1.1) v1.2
        unfold pos
        omega
/-- what become leaves of the rows of the three pictures -/
def bcK (S Z : ms) : Prop := (∀ r k, r = 11 ∨ r = 12 ∨ r = 13 ∨ r = 14 → k ≠ 1 → Z.2.1 r k = S.2.1 r k) ∧ (∀ r k, r = 15 ∨ r = 16 ∨ r = 17 ∨ r = 18 → ¬ (3 ≤ k ∧ k < 6) → Z.2.1 r k = S.2.1 r k) ∧ ∀ p, ¬ (12288 ≤ p ∧ p < 24576) → Z.2.1 19 p = S.2.1 19 p
theorem q_bc45 (hn : n ≤ 3) (g14 : S.2.1 14 2 = nI n) (h : e_become_45 0 S K) :
    ∃ Z, ag [] [15, 16] S Z ∧ (∀ r k, r = 15 ∨ r = 16 → ¬ (3 ≤ k ∧ k < 6) → Z.2.1 r k = S.2.1 r k) ∧ (∀ l, l < n → Z.2.1 15 (3 + l) = S.2.1 15 (6 + l) ∧ Z.2.1 16 (3 + l) = S.2.1 16 (6 + l)) ∧ p_makeGrids 1 Z (fun S97 => e_become_102 0 (S97.1, S97.2.1, S97.2.2) K) := by
  refine v_e_become_45 h (fun y T => ∃ j, y = nI j ∧ j ≤ n ∧ ag [] [15, 16] S T ∧ (∀ r k, r = 15 ∨ r = 16 → ¬ (3 ≤ k ∧ k < 6) → T.2.1 r k = S.2.1 r k) ∧ (∀ l, l < j → T.2.1 15 (3 + l) = S.2.1 15 (6 + l) ∧ T.2.1 16 (3 + l) = S.2.1 16 (6 + l))) ⟨0, rfl, Nat.zero_le _, ag_refl, fun _ _ _ _ => rfl, fun l hl => absurd hl (Nat.not_lt_zero _)⟩ ?_
  rintro y T R ⟨j, rfl, hj, ha, hc, hv⟩ hb
  unfold b_become_45 at hb
  have e14 : T.2.1 14 (2 : Int32).toNatClampNeg = nI n := by rw [ha.2 14 rfl]; exact g14
  rw [e14] at hb
  obtain ⟨-, hb⟩ := hb
  by_cases e : j = n
  · right
    subst e
    exact ⟨T, ha, hc, hv, hb.1 (Int32.le_refl _)⟩
  · left
    obtain ⟨-, -, -, -, hR⟩ := hb.2 (nI_ge (by omega) (by omega))
    rw [n_3l, n_6l, nI_clamp (show 3 + j < 2 ^ 31 by omega), nI_clamp (show 6 + j < 2 ^ 31 by omega), vu_ne (show (16 : Nat) ≠ 15 by decide), hc 15 (6 + j) (Or.inl rfl) (by omega), hc 16 (6 + j) (Or.inr rfl) (by omega)] at hR
    refine ⟨_, _, hR, j + 1, nI_1 j, by omega, ag_r (T := (T.1, va_up T.2.1 15 (upd (T.2.1 15) (3 + j) (S.2.1 15 (6 + j))), T.2.2)) (ag_r ha rfl) rfl, fun r k hr hk => ?_, fun l hl => ?_⟩
    · dsimp only
      rcases hr with rfl | rfl
      · rw [vu_ne (by decide), vu_at, upd_ne (by omega)]
        exact hc 15 k (Or.inl rfl) hk
      · rw [vu_at, upd_ne (by omega)]
        exact hc 16 k (Or.inr rfl) hk
    · dsimp only
      rw [vu_ne (show (15 : Nat) ≠ 16 by decide), vu_at, vu_at]
      by_cases e2 : l = j
      · subst e2
        exact ⟨upd_at, upd_at⟩
      · rw [upd_ne (by omega), upd_ne (by omega)]
        exact hv l (by omega)
theorem q_bc0 (h : p_become S K) : ∃ Z, ag [] [11, 12, 13, 14] S Z ∧ (∀ r k, r = 11 ∨ r = 12 ∨ r = 13 ∨ r = 14 → k ≠ 1 → Z.2.1 r k = S.2.1 r k) ∧ Z.2.1 11 1 = 1 ∧ (∀ r, r = 12 ∨ r = 13 ∨ r = 14 → Z.2.1 r 1 = S.2.1 r 2) ∧ e_become_45 0 Z K := by
  unfold p_become at h
  obtain ⟨-, -, -, -, -, -, -, h⟩ := h
  refine ⟨_, ?_, ?_, ?_, ?_, h⟩
  · refine ⟨fun k _ => rfl, fun r hr => ?_⟩
    have q : r ≠ 11 ∧ r ≠ 12 ∧ r ≠ 13 ∧ r ≠ 14 := ⟨fun e => by subst e; exact absurd hr (by decide), fun e => by subst e; exact absurd hr (by decide), fun e => by subst e; exact absurd hr (by decide), fun e => by subst e; exact absurd hr (by decide)⟩
    dsimp only
    rw [vu_ne q.2.2.2, vu_ne q.2.2.1, vu_ne q.2.1, vu_ne q.1]
  · intro r k hr hk
    rcases hr with rfl | rfl | rfl | rfl
    · show upd (S.2.1 11) 1 _ k = _
      exact upd_ne hk
    · show upd (S.2.1 12) 1 _ k = _
      exact upd_ne hk
    · show upd (S.2.1 13) 1 _ k = _
      exact upd_ne hk
    · show upd (S.2.1 14) 1 _ k = _
      exact upd_ne hk
  · show upd (S.2.1 11) 1 _ 1 = _
    rw [upd_at]
    rfl
  · intro r hr
    rcases hr with rfl | rfl | rfl
    · show upd (S.2.1 12) 1 (S.2.1 12 2) 1 = _
      exact upd_at
    · show upd (S.2.1 13) 1 (S.2.1 13 2) 1 = _
      exact upd_at
    · show upd (S.2.1 14) 1 (S.2.1 14 2) 1 = _
      exact upd_at
/-- the grid of a layer -/
def gwd (n W : Nat) (A : Nat → Nat) (l : Nat) : Nat := A l * up W (8 * mx A n)
theorem gwd_b {n W l : Nat} {A : Nat → Nat} (hW : 1 ≤ W ∧ W ≤ 64) (hl : l < n) (hA : ∀ l, l < n → A l = 1 ∨ A l = 2) : 1 ≤ gwd n W A l ∧ gwd n W A l ≤ 8 := by
  have t := bxw_b hW hl hA
  unfold gwd
  omega
/-- become, whole -/
theorem q_become (ho : od S) (g : gR 2 S n W H A D) (h : p_become S K) :
    ∃ Z, ag [] [11, 12, 13, 14, 15, 16, 17, 18, 19, 20, 25] S Z ∧ bcK S Z ∧ Z.2.1 11 1 = 1 ∧ gR 1 Z n W H A D ∧ gG2 1 Z n W H A D ∧
      (∀ l b k, l < n → b < gwd n W A l * gwd n H D l → k < 64 → Z.2.1 19 (12288 + 64 * (64 * l + b) + k) = S.2.1 19 (24576 + 64 * (64 * l + b) + k)) ∧
      (∀ l b, l < n → b < gwd n W A l * gwd n H D l → sB (gwd n W A l) l b (fun j => S.2.1 19 (24576 + j)) (S.2.1 46) (S.2.1 23) (Z.2.1 20)) ∧ K Z := by
  obtain ⟨M0, a1, a2, a3, a4, h⟩ := q_bc0 h
  have n3 := g.n3
  obtain ⟨M1, b1, b2, b3, h⟩ := q_bc45 n3 (by rw [a2 14 2 (by omega) (by decide)]; exact g.2.2.1) h
  have g1 : gR 1 M1 n W H A D := by
    refine ⟨?_, ?_, ?_, g.2.2.2.1, g.2.2.2.2.1, g.2.2.2.2.2.1, fun l hl => ?_⟩
    · rw [b1.2 12 rfl, a4 12 (by omega)]; exact g.1
    · rw [b1.2 13 rfl, a4 13 (by omega)]; exact g.2.1
    · rw [b1.2 14 rfl, a4 14 (by omega)]; exact g.2.2.1
    · have t := g.2.2.2.2.2.2 l hl
      refine ⟨?_, ?_, t.2.2⟩
      · rw [show 3 * 1 + l = 3 + l from rfl, (b3 l hl).1, a1.2 15 rfl]; exact t.1
      · rw [show 3 * 1 + l = 3 + l from rfl, (b3 l hl).2, a1.2 16 rfl]; exact t.2.1
  obtain ⟨M2, c1, c2, c3, c4, h⟩ := q_makeGrids (q := 1) (by decide) g1 h
  have g2 : gR 1 M2 n W H A D := by
    unfold gR
    rw [c1.2 12 rfl, c1.2 13 rfl, c1.2 14 rfl, c1.2 15 rfl, c1.2 16 rfl]
    exact g1
  have s1 : ag [] [11, 12, 13, 14, 15, 16, 17, 18, 19, 20, 25] S M2 := ag_tr (ag_tr (ag_tr (ag_refl (fs := []) (rs := [11, 12, 13, 14, 15, 16, 17, 18, 19, 20, 25])) a1 rfl rfl) b1 rfl rfl) c1 rfl rfl
  have w1 : ∀ l, l < n → 1 ≤ gwd n W A l ∧ gwd n W A l ≤ 8 := fun l hl => gwd_b g.2.2.2.2.1 hl (fun l hl => (g.2.2.2.2.2.2 l hl).2.2.1)
  have w2 : ∀ l, l < n → 1 ≤ gwd n H D l ∧ gwd n H D l ≤ 8 := fun l hl => gwd_b g.2.2.2.2.2.1 hl (fun l hl => (g.2.2.2.2.2.2 l hl).2.2.2)
  obtain ⟨Z, z1, z2, z3, z4, h⟩ := q_bc102 (S := (M2.1, M2.2.1, M2.2.2)) g.2.2.2.1 g2.2.2.1 (gw := gwd n W A) (gh := gwd n H D) (fun l hl => ⟨w1 l hl, (w2 l hl).2, (c2 l hl).1, (c2 l hl).2⟩) (by show ∀ k, k < 64 → M2.2.1 22 k = _; rw [s1.2 22 rfl]; exact ho) h
  have z1 : ag [] [19, 20, 25] M2 Z := z1
  have e19 : ∀ p, M2.2.1 19 p = if 12288 ≤ p ∧ p < 24576 then 0 else S.2.1 19 p := fun p => by rw [c4 p, b1.2 19 rfl, a1.2 19 rfl]
  refine ⟨Z, ag_tr s1 z1 rfl rfl, ⟨fun r k hr hk => ?_, fun r k hr hk => ?_, fun p hp => ?_⟩, ?_, ?_, ?_, fun l b k hl hb hk => ?_, fun l b hl hb => ?_, h⟩
  · rw [← a2 r k hr hk]
    rcases hr with rfl | rfl | rfl | rfl
    · rw [z1.2 11 rfl, c1.2 11 rfl, b1.2 11 rfl]
    · rw [z1.2 12 rfl, c1.2 12 rfl, b1.2 12 rfl]
    · rw [z1.2 13 rfl, c1.2 13 rfl, b1.2 13 rfl]
    · rw [z1.2 14 rfl, c1.2 14 rfl, b1.2 14 rfl]
  · rcases hr with rfl | rfl | rfl | rfl
    · rw [z1.2 15 rfl, c1.2 15 rfl, b2 15 k (by omega) hk, a1.2 15 rfl]
    · rw [z1.2 16 rfl, c1.2 16 rfl, b2 16 k (by omega) hk, a1.2 16 rfl]
    · rw [z1.2 17 rfl, c3 17 k (by omega) (by omega), b1.2 17 rfl, a1.2 17 rfl]
    · rw [z1.2 18 rfl, c3 18 k (by omega) (by omega), b1.2 18 rfl, a1.2 18 rfl]
  · rw [z2 p hp]
    show M2.2.1 19 p = _
    rw [e19 p, if_neg hp]
  · rw [z1.2 11 rfl, c1.2 11 rfl, b1.2 11 rfl]
    exact a3
  · unfold gR
    rw [z1.2 12 rfl, z1.2 13 rfl, z1.2 14 rfl, z1.2 15 rfl, z1.2 16 rfl]
    exact g2
  · unfold gG2
    rw [z1.2 17 rfl, z1.2 18 rfl]
    exact c2
  · rw [z3 l b k hl hb hk]
    show M2.2.1 19 _ = _
    rw [e19, if_neg (by omega)]
  · have t := z4 l b hl hb
    have t : sB (gwd n W A l) l b (fun j => M2.2.1 19 (24576 + j)) (M2.2.1 46) (M2.2.1 23) (Z.2.1 20) := t
    rw [s1.2 46 rfl, s1.2 23 rfl] at t
    exact sB_f t (fun k hk => by rw [e19, if_neg (by omega)]) (fun i hi => rfl)
end BEC

/-! the class: a picture is drawn -/
theorem sl_sur {j : Nat} (hj : j < 64) : ∃ k, k < 64 ∧ sl k = j := by
  have : ∀ y : Fin 64, ∃ x : Fin 64, sl x.val = y.val := by decide +kernel
  obtain ⟨x, hx⟩ := this ⟨j, hj⟩
  exact ⟨x.val, x.isLt, hx⟩
theorem agc_9 {F Z : cF} (h : agc [] [9] F Z) (w : Nat) (hw : w ≠ 9) : Z w = F w := by
  cases e : OB w with
  | true => exact funext fun k => h.1 w k e rfl
  | false => exact h.2 w e (by simpa using hw)
theorem hrv_c {W W' w w' : Nat → Int32} {v x : Nat} (hv : v < 8) (hx : x < 8) (hW : ∀ k, k < 64 → W k = W' k) (hw : ∀ k, k < 64 → w k = w' k) : hrv W w v x = hrv W' w' v x := by
  unfold hrv
  rw [s64_congr (g := fun u => (W' (8 * x + u)).toInt64 * (w' (8 * v + u)).toInt64) 8 (fun k hk => by rw [hW _ (by omega), hw _ (by omega)])]
theorem blk_c {W W' w w' : Nat → Int32} {k : Nat} (hk : k < 64) (hW : ∀ k, k < 64 → W k = W' k) (hw : ∀ k, k < 64 → w k = w' k) : blk W w k = blk W' w' k := by
  unfold blk smv
  rw [s64_congr (g := fun v => (W' (8 * (k / 8) + v)).toInt64 * hrv W' w' ((8 * v + k % 8) / 8) ((8 * v + k % 8) % 8)) 8 (fun v hv => by dsimp only; rw [hW _ (by omega), hrv_c (by omega) (by omega) hW hw])]
theorem pt_0 {p l vy vx : Nat} (h1 : p / 4096 = l) (h2 : p / 512 % 8 = vy) (h3 : p % 64 / 8 = vx) : 4096 * l + 64 * (8 * vy + p / 64 % 8) + (8 * vx + p % 8) = p := by
  have r1 : p / 512 = p / 64 / 8 := by omega
  have r2 : p / 4096 = p / 64 / 64 := by omega
  have r3 : p % 8 = p % 64 % 8 := by omega
  have r4 := Nat.div_add_mod p 64
  rw [r1] at h2
  rw [r2] at h1
  rw [r3]
  generalize p / 64 = r at *
  generalize p % 64 = s at *
  omega
theorem pt_1 {l vy vx c d p : Nat} (hy : vy < 8) (hx : vx < 8) (hc : c < 8) (hd : d < 8) (e : p = 4096 * l + 64 * (8 * vy + c) + (8 * vx + d)) : p / 4096 = l ∧ p / 512 % 8 = vy ∧ p % 64 / 8 = vx := by
  have r1 : p / 512 = p / 64 / 8 := by omega
  have r2 : p / 4096 = p / 64 / 64 := by omega
  have r3 : p / 64 = 64 * l + 8 * vy + c := by omega
  have r4 : p % 64 = 8 * vx + d := by omega
  rw [r1, r2, r3, r4]
  omega
/-- the samples that the levels of picture u give, in row E -/
def drE (u n W H : Nat) (A D : Nat → Nat) (E : Nat → Int32) (F : cF) : Prop := ∀ (l vy vx : Nat) (w : Nat → Int32), l < n → vx < gwd n W A l → vy < gwd n H D l → (∀ k, k < 64 → w (sl k) = F (u + 7) (4096 * l + 64 * (vy * gwd n W A l + vx) + k) * F (u + 8) (64 * l + k)) → ∀ p, p / 4096 = l → p / 512 % 8 = vy → p % 64 / 8 = vx → E p = blk (tW F) w (8 * (p / 64 % 8) + p % 8)
section DRW
variable {F : cF} {L : cL} {a b : Bool} {P : Nat → Nat → Nat} {K : cs → Prop} {u n W H : Nat} {A D : Nat → Nat} {E : Nat → Int32}
theorem q_db31 (hu : isU u) {l bk : Nat} {x3 x4 : Int32} (hl : l < 3) (hbk : bk < 64) (h : e_Pi_drawBlock_31 UL u 7 (nI l) x3 x4 (nI (4096 * l + 64 * bk)) 0 (F, L, PC a b P) K) :
    ∃ G, (∀ w, w ≠ 10 → G w = F w) ∧ (∀ k, k < 64 → G 10 (sl k) = F (u + 7) (4096 * l + 64 * bk + k) * F (u + 8) (64 * l + k)) ∧ p_Wa_makeSamples UL 7 (G, L, PC a b P) (fun S79 => e_Pi_drawBlock_85 UL u 7 (nI l) x3 x4 0 S79 K) := by
  have u7 : u + 7 ≠ 10 ∧ u + 8 ≠ 10 := by rcases hu with rfl | rfl <;> exact ⟨by decide, by decide⟩
  refine v_e_Pi_drawBlock_31 h (fun y T => ∃ j G, y = nI j ∧ j ≤ 64 ∧ T = (G, L, PC a b P) ∧ (∀ w, w ≠ 10 → G w = F w) ∧ ∀ k, k < j → G 10 (sl k) = F (u + 7) (4096 * l + 64 * bk + k) * F (u + 8) (64 * l + k)) ⟨0, F, rfl, Nat.zero_le _, rfl, fun _ _ => rfl, fun k hk => absurd hk (Nat.not_lt_zero _)⟩ ?_
  rintro y T R ⟨j, G, rfl, hj, rfl, ha, hc⟩ hb
  unfold b_Pi_drawBlock_31 at hb
  by_cases e : j = 64
  · right
    subst e
    exact ⟨G, ha, hc, (hb.1 (Int32.le_refl _)).2⟩
  · left
    obtain ⟨-, -, -, -, -, -, -, -, -, -, -, hR⟩ := hb.2 (nI_ge (b := 64) (by omega) (by decide))
    dsimp only at hR
    have s64 := sl_lt j
    rw [pp13 (isU_p hu), pp14 (isU_p hu), show PC a b P 7 2 = 10 from rfl, nI_add, nI_clamp (show 4096 * l + 64 * bk + j < 2 ^ 31 by omega), nI_clamp (show j < 2 ^ 31 by omega), rw_sl, nI_clamp (show sl j < 2 ^ 31 by omega), show (64 * nI l + nI j : Int32) = nI (64 * l + j) by rw [show (64 : Int32) = nI 64 from rfl, pk_mul, nI_add], nI_clamp (show 64 * l + j < 2 ^ 31 by omega), ha _ u7.1, ha _ u7.2] at hR
    refine ⟨_, _, hR, j + 1, _, nI_1 j, by omega, rfl, fun w hw => ?_, fun k hk => ?_⟩
    · rw [vu_ne hw]
      exact ha w hw
    · rw [vu_at]
      by_cases e2 : k = j
      · rw [e2, upd_at]
      · rw [upd_ne (fun q => e2 (sl_inj (by omega) (by omega) q))]
        exact hc k (by omega)
theorem q_db85 (hu : isU u) {l X Y : Nat} (hl : l < 3) (hX : X + 8 ≤ 64) (hY : Y + 8 ≤ 64) (h : e_Pi_drawBlock_85 UL u 7 (nI l) (nI X) (nI Y) 0 (F, L, PC a b P) K) :
    ∃ G, (∀ w, w ≠ u + 9 → G w = F w) ∧ (∀ i, i < 64 → G (u + 9) (4096 * l + 64 * (Y + i / 8) + (X + i % 8)) = F 9 i) ∧ (∀ p, (∀ i, i < 64 → p ≠ 4096 * l + 64 * (Y + i / 8) + (X + i % 8)) → G (u + 9) p = F (u + 9) p) ∧ K (G, L, PC a b P) := by
  have u9 : 9 ≠ u + 9 := by rcases hu with rfl | rfl <;> decide
  refine v_e_Pi_drawBlock_85 h (fun y T => ∃ j G, y = nI j ∧ j ≤ 64 ∧ T = (G, L, PC a b P) ∧ (∀ w, w ≠ u + 9 → G w = F w) ∧ (∀ i, i < j → G (u + 9) (4096 * l + 64 * (Y + i / 8) + (X + i % 8)) = F 9 i) ∧ ∀ p, (∀ i, i < j → p ≠ 4096 * l + 64 * (Y + i / 8) + (X + i % 8)) → G (u + 9) p = F (u + 9) p) ⟨0, F, rfl, Nat.zero_le _, rfl, fun _ _ => rfl, fun i hi => absurd hi (Nat.not_lt_zero _), fun _ _ => rfl⟩ ?_
  rintro y T R ⟨j, G, rfl, hj, rfl, ha, hc, hf⟩ hb
  unfold b_Pi_drawBlock_85 at hb
  by_cases e : j = 64
  · right
    subst e
    exact ⟨G, ha, hc, hf, hb.1 (Int32.le_refl _)⟩
  · left
    obtain ⟨-, hb⟩ := hb.2 (nI_ge (b := 64) (by omega) (by decide))
    unfold p_B_spot at hb
    obtain ⟨-, -, -, -, -, -, hR⟩ := hb
    dsimp only at hR
    have ei : (((4096 * nI l) + (64 * (nI Y + nI j / 8))) + (nI X + (nI j - nI j / 8 * 8)) : Int32) = nI (4096 * l + 64 * (Y + j / 8) + (X + j % 8)) := by
      rw [show (8 : Int32) = nI 8 from rfl, pk_rem (by omega) (by omega) (by omega), pk_div (by omega) (by omega) (by omega), nI_add, nI_add, show (64 : Int32) = nI 64 from rfl, show (4096 : Int32) = nI 4096 from rfl, pk_mul, pk_mul, nI_add, nI_add]
    rw [ei, pp15 (isU_p hu), show PC a b P 7 1 = 9 from rfl, nI_clamp (show 4096 * l + 64 * (Y + j / 8) + (X + j % 8) < 2 ^ 31 by omega), nI_clamp (show j < 2 ^ 31 by omega), ha _ u9] at hR
    refine ⟨_, _, hR, j + 1, _, nI_1 j, by omega, rfl, fun w hw => ?_, fun i hi => ?_, fun p hp => ?_⟩
    · rw [vu_ne hw]
      exact ha w hw
    · rw [vu_at]
      by_cases e2 : i = j
      · rw [e2, upd_at]
      · rw [upd_ne (by omega)]
        exact hc i (by omega)
    · rw [vu_at, upd_ne (hp j (by omega))]
      exact hf p (fun i hi => hp i (by omega))
/-- what draw leaves -/
def dwC (u : Nat) (F G : cF) : Prop := ∀ w, w ≠ 9 → w ≠ 10 → w ≠ u + 9 → G w = F w
theorem drE_f (hu : isU u) {G : cF} (h : drE u n W H A D E F) (ha : dwC u F G) : drE u n W H A D E G := by
  have q : u + 7 ≠ 9 ∧ u + 7 ≠ 10 ∧ u + 8 ≠ 9 ∧ u + 8 ≠ 10 ∧ 8 ≠ u + 9 := by rcases hu with rfl | rfl <;> decide
  unfold drE tW
  rw [ha (u + 7) q.1 q.2.1 (by omega), ha (u + 8) q.2.2.1 q.2.2.2.1 (by omega), ha 8 (by decide) (by decide) q.2.2.2.2]
  exact h
theorem q_drawBlock (hu : isU u) {l vx vy : Nat} (hl : l < n) (hn : n ≤ 3) (hE : drE u n W H A D E F) (hW : ∀ k, B (-4096) 4096 (F 8 k)) (hB : ∀ k, k < 12288 → B (-4096) 4096 (F (u + 7) k)) (hN : ∀ k, B (-256) 256 (F (u + 8) k)) (g5 : F (u + 5) l = nI (gwd n W A l)) (w8 : gwd n W A l ≤ 8) (h8 : gwd n H D l ≤ 8) (hx : vx < gwd n W A l) (hy : vy < gwd n H D l) (h : p_Pi_drawBlock UL u 7 (nI l) (nI (8 * vx)) (nI (8 * vy)) (F, L, PC a b P) K) :
    ∃ Z L', dwC u F Z ∧ (∀ p, Z (u + 9) p = if p / 4096 = l ∧ p / 512 % 8 = vy ∧ p % 64 / 8 = vx then E p else F (u + 9) p) ∧ K (Z, L', PC a b P) := by
  have ub : 9 ≠ u + 9 ∧ 10 ≠ u + 9 ∧ 8 ≠ u + 9 ∧ u + 9 ≠ 9 ∧ u + 9 ≠ 10 ∧ 8 ≠ u + 9 := by rcases hu with rfl | rfl <;> decide
  have bk : vy * gwd n W A l + vx < 64 := by
    have : vy * gwd n W A l ≤ 7 * gwd n W A l := Nat.mul_le_mul_right _ (by omega)
    omega
  unfold p_Pi_drawBlock at h
  obtain ⟨-, -, -, h⟩ := h
  dsimp only at h
  rw [pp11 (isU_p hu), nI_clamp (show l < 2 ^ 31 by omega), g5, show (8 : Int32) = nI 8 from rfl, pk_div (by omega) (by omega) (by omega), pk_div (by omega) (by omega) (by omega), show 8 * vx / 8 = vx by omega, show 8 * vy / 8 = vy by omega, pk_mul, nI_add, show (64 : Int32) = nI 64 from rfl, show (4096 : Int32) = nI 4096 from rfl, pk_mul, pk_mul, nI_add] at h
  obtain ⟨G, a1, a2, h⟩ := q_db31 hu (by omega) bk h
  have b10 : ∀ k, k < 64 → B (-1048576) 1048576 (G 10 k) := fun k hk => by
    obtain ⟨j, hj, rfl⟩ := sl_sur hk
    rw [a2 j hj]
    exact B_mulS (m := 4096) (n := 256) (hB _ (by omega)) (hN _) (by decide)
  obtain ⟨G2, L2, c1, c2, h⟩ := q_makeSamples (by rw [a1 8 (by decide)]; exact hW) b10 h
  obtain ⟨Z, d1, d2, d3, h⟩ := q_db85 hu (by omega) (by omega) (by omega) h
  refine ⟨Z, L2, fun w w1 w2 w3 => by rw [d1 w w3, agc_9 c1 w w1, a1 w w2], fun p => ?_, h⟩
  have tg : tW G = tW F := by unfold tW; rw [a1 8 (by decide)]
  by_cases q : p / 4096 = l ∧ p / 512 % 8 = vy ∧ p % 64 / 8 = vx
  · rw [if_pos q]
    have i6 : 8 * (p / 64 % 8) + p % 8 < 64 := by omega
    have t := d2 (8 * (p / 64 % 8) + p % 8) i6
    have ep : 4096 * l + 64 * (8 * vy + (8 * (p / 64 % 8) + p % 8) / 8) + (8 * vx + (8 * (p / 64 % 8) + p % 8) % 8) = p := by
      rw [show (8 * (p / 64 % 8) + p % 8) / 8 = p / 64 % 8 by omega, show (8 * (p / 64 % 8) + p % 8) % 8 = p % 8 by omega]
      exact pt_0 q.1 q.2.1 q.2.2
    rw [ep] at t
    rw [t, c2 _ i6, hE l vy vx (G 10) hl hx hy a2 p q.1 q.2.1 q.2.2, tg]
    rfl
  · rw [if_neg q, d3 p (fun i hi e => q (pt_1 (by omega) (by omega) (by omega) (by omega) e)), agc_9 c1 _ ub.2.2.2.1, a1 _ ub.2.2.2.2.1]
theorem q_dr33 (hu : isU u) {l vy lw : Nat} {R10 : Nat → Int32 → cs → Prop} {R20 : Nat → Int32 → Int32 → cs → Prop} (hl : l < n) (hn : n ≤ 3) (hE : drE u n W H A D E F) (hW : ∀ k, B (-4096) 4096 (F 8 k)) (hB : ∀ k, k < 12288 → B (-4096) 4096 (F (u + 7) k)) (hN : ∀ k, B (-256) 256 (F (u + 8) k)) (g5 : F (u + 5) l = nI (gwd n W A l)) (g3 : F (u + 3) l = nI lw) (hlw : lw ≤ 8 * gwd n W A l) (w8 : gwd n W A l ≤ 8) (h8 : gwd n H D l ≤ 8) (hy : vy < gwd n H D l) (h : e_Pi_draw_33 UL u 7 (nI l) (nI (8 * vy)) 0 (F, L, PC a b P) R10 R20 K) :
    ∃ Z L', dwC u F Z ∧ (∀ p, F (u + 9) p = E p → Z (u + 9) p = E p) ∧ (∀ p, p / 4096 = l → p / 512 % 8 = vy → p % 64 < lw → Z (u + 9) p = E p) ∧ R20 7 (nI l) (nI (8 * (vy + 1))) (Z, L', PC a b P) := by
  have uk : ∀ k, k = 3 ∨ k = 5 ∨ k = 7 ∨ k = 8 → u + k ≠ 9 ∧ u + k ≠ 10 ∧ u + k ≠ u + 9 := by rcases hu with rfl | rfl <;> omega
  have u8 : 8 ≠ u + 9 := by rcases hu with rfl | rfl <;> decide
  refine v_e_Pi_draw_33 h (fun y T => ∃ j G L', y = nI (8 * j) ∧ j ≤ 8 ∧ T = (G, L', PC a b P) ∧ dwC u F G ∧ (∀ p, F (u + 9) p = E p → G (u + 9) p = E p) ∧ ∀ p, p / 4096 = l → p / 512 % 8 = vy → p % 64 / 8 < j → G (u + 9) p = E p) ⟨0, F, L, rfl, Nat.zero_le _, rfl, fun _ _ _ _ => rfl, fun _ h => h, fun p _ _ hp => absurd hp (Nat.not_lt_zero _)⟩ ?_
  rintro y T R ⟨j, G, L', rfl, hj, rfl, ha, hk, hc⟩ hb
  unfold b_Pi_draw_33 at hb
  obtain ⟨-, -, -, hb⟩ := hb
  dsimp only at hb
  have f : ∀ k, k = 3 ∨ k = 5 ∨ k = 7 ∨ k = 8 → G (u + k) = F (u + k) := fun k q => ha _ (uk k q).1 (uk k q).2.1 (uk k q).2.2
  rw [pp9 (isU_p hu), f 3 (by omega), nI_clamp (show l < 2 ^ 31 by omega), g3] at hb
  by_cases e : lw ≤ 8 * j
  · right
    have h := hb.1 ((nI_leI (by omega) (by omega)).mpr e)
    rw [show (nI (8 * vy) + 8 : Int32) = nI (8 * (vy + 1)) by rw [show (8 : Int32) = nI 8 from rfl, nI_add]; congr 1] at h
    exact ⟨G, L', ha, hk, fun p p1 p2 p3 => hc p p1 p2 (by omega), h⟩
  · left
    have h := hb.2 (nI_ge (by omega) (by omega))
    obtain ⟨Z, L2, z1, z2, h⟩ := q_drawBlock hu hl hn (drE_f hu hE ha) (by rw [ha 8 (by decide) (by decide) u8]; exact hW) (by rw [f 7 (by omega)]; exact hB) (by rw [f 8 (by omega)]; exact hN) (by rw [f 5 (by omega)]; exact g5) w8 h8 (by omega) hy h
    rw [show (nI (8 * j) + 8 : Int32) = nI (8 * (j + 1)) by rw [show (8 : Int32) = nI 8 from rfl, nI_add]; congr 1] at h
    refine ⟨_, _, h, j + 1, Z, L2, rfl, by omega, rfl, fun w w1 w2 w3 => by rw [z1 w w1 w2 w3, ha w w1 w2 w3], fun p hp => ?_, fun p p1 p2 p3 => ?_⟩
    · rw [z2 p]
      split
      · rfl
      · exact hk p hp
    · rw [z2 p]
      by_cases q : p / 4096 = l ∧ p / 512 % 8 = vy ∧ p % 64 / 8 = j
      · rw [if_pos q]
      · rw [if_neg q]
        exact hc p p1 p2 (by omega)
theorem q_dr20 (hu : isU u) {l lw lh : Nat} {R10 : Nat → Int32 → cs → Prop} (hl : l < n) (hn : n ≤ 3) (hE : drE u n W H A D E F) (hW : ∀ k, B (-4096) 4096 (F 8 k)) (hB : ∀ k, k < 12288 → B (-4096) 4096 (F (u + 7) k)) (hN : ∀ k, B (-256) 256 (F (u + 8) k)) (g5 : F (u + 5) l = nI (gwd n W A l)) (g3 : F (u + 3) l = nI lw) (g4 : F (u + 4) l = nI lh) (hlw : lw ≤ 8 * gwd n W A l) (hlh : lh ≤ 8 * gwd n H D l) (w8 : gwd n W A l ≤ 8) (h8 : gwd n H D l ≤ 8) (h : e_Pi_draw_20 UL u 7 (nI l) 0 (F, L, PC a b P) R10 K) :
    ∃ Z L', dwC u F Z ∧ (∀ p, F (u + 9) p = E p → Z (u + 9) p = E p) ∧ (∀ p, p / 4096 = l → p / 64 % 64 < lh → p % 64 < lw → Z (u + 9) p = E p) ∧ R10 7 (nI (l + 1)) (Z, L', PC a b P) := by
  have uk : ∀ k, k = 3 ∨ k = 4 ∨ k = 5 ∨ k = 7 ∨ k = 8 → u + k ≠ 9 ∧ u + k ≠ 10 ∧ u + k ≠ u + 9 := by rcases hu with rfl | rfl <;> omega
  have u8 : 8 ≠ u + 9 := by rcases hu with rfl | rfl <;> decide
  refine v_e_Pi_draw_20 h (fun y T => ∃ j G L', y = nI (8 * j) ∧ j ≤ 8 ∧ T = (G, L', PC a b P) ∧ dwC u F G ∧ (∀ p, F (u + 9) p = E p → G (u + 9) p = E p) ∧ ∀ p, p / 4096 = l → p / 512 % 8 < j → p % 64 < lw → G (u + 9) p = E p) ⟨0, F, L, rfl, Nat.zero_le _, rfl, fun _ _ _ _ => rfl, fun _ h => h, fun p _ hp => absurd hp (Nat.not_lt_zero _)⟩ ?_
  rintro y T R ⟨j, G, L', rfl, hj, rfl, ha, hk, hc⟩ hb
  unfold b_Pi_draw_20 at hb
  obtain ⟨-, -, -, hb⟩ := hb
  dsimp only at hb
  have f : ∀ k, k = 3 ∨ k = 4 ∨ k = 5 ∨ k = 7 ∨ k = 8 → G (u + k) = F (u + k) := fun k q => ha _ (uk k q).1 (uk k q).2.1 (uk k q).2.2
  rw [pp10 (isU_p hu), f 4 (by omega), nI_clamp (show l < 2 ^ 31 by omega), g4] at hb
  by_cases e : lh ≤ 8 * j
  · right
    have h := hb.1 ((nI_leI (by omega) (by omega)).mpr e)
    rw [show (nI l + 1 : Int32) = nI (l + 1) from nI_1 l] at h
    exact ⟨G, L', ha, hk, fun p p1 p2 p3 => hc p p1 (by have r1 : p / 512 = p / 64 / 8 := by omega
                                                        rw [r1]; omega) p3, h⟩
  · left
    have h := hb.2 (nI_ge (by omega) (by omega))
    obtain ⟨Z, L2, z1, z2, z3, h⟩ := q_dr33 hu hl hn (drE_f hu hE ha) (by rw [ha 8 (by decide) (by decide) u8]; exact hW) (by rw [f 7 (by omega)]; exact hB) (by rw [f 8 (by omega)]; exact hN) (by rw [f 5 (by omega)]; exact g5) (by rw [f 3 (by omega)]; exact g3) hlw w8 h8 (by omega) h
    refine ⟨_, _, h, j + 1, Z, L2, rfl, by omega, rfl, fun w w1 w2 w3 => by rw [z1 w w1 w2 w3, ha w w1 w2 w3], fun p hp => z2 p (hk p hp), fun p p1 p2 p3 => ?_⟩
    by_cases q : p / 512 % 8 = j
    · exact z3 p p1 q p3
    · exact z2 p (hc p p1 (by omega) p3)
theorem lw_g {n W l : Nat} {A : Nat → Nat} (hW : 1 ≤ W ∧ W ≤ 64) (hl : l < n) (hA : ∀ l, l < n → A l = 1 ∨ A l = 2) : up (W * A l) (mx A n) ≤ 8 * gwd n W A l := by
  have t := bx1 hW (mx_12 n hA) (hA l hl) (mx_ge n l hl)
  have x : ∀ y : Nat, y ≤ 8 * up y 8 := fun y => by unfold up; omega
  have := x (up (W * A l) (mx A n))
  unfold gwd
  omega
/-- the picture u is drawn -/
def drn (u n W H : Nat) (A D : Nat → Nat) (E : Nat → Int32) (F : cF) : Prop := ∀ l p, l < n → p / 4096 = l → p / 64 % 64 < up (H * D l) (mx D n) → p % 64 < up (W * A l) (mx A n) → F (u + 9) p = E p
theorem q_draw (hu : isU u) (g : gC u F n W H A D) (gm : gM u F n W H A D) (hE : drE u n W H A D E F) (hD : ¬ F u 16 = 0 → drn u n W H A D E F) (hW : ∀ k, B (-4096) 4096 (F 8 k)) (hB : ∀ k, k < 12288 → B (-4096) 4096 (F (u + 7) k)) (hN : ∀ k, B (-256) 256 (F (u + 8) k)) (h : p_Pi_draw UL u 7 (F, L, PC a b P) K) :
    ∃ Z L', (∀ w, w ≠ 9 → w ≠ 10 → w ≠ u + 9 → w ≠ u → Z w = F w) ∧ (∀ k, k ≠ 16 → Z u k = F u k) ∧ ¬ Z u 16 = 0 ∧ drn u n W H A D E Z ∧ K (Z, L', PC a b P) := by
  have uk : ∀ k, k = 3 ∨ k = 4 ∨ k = 5 ∨ k = 7 ∨ k = 8 → u + k ≠ 9 ∧ u + k ≠ 10 ∧ u + k ≠ u + 9 := by rcases hu with rfl | rfl <;> omega
  have u0 : u ≠ 9 ∧ u ≠ 10 ∧ u ≠ u + 9 := by rcases hu with rfl | rfl <;> omega
  have u8 : 8 ≠ u + 9 := by rcases hu with rfl | rfl <;> decide
  obtain ⟨g0, g1, g2, -, -, gn, gW, gH, gl⟩ := g
  have n3 : n ≤ 3 := by omega
  unfold p_Pi_draw at h
  by_cases e : F u 16 = 0
  · have h := h.1 e
    refine v_e_Pi_draw_10 h (fun y T => ∃ j G L', y = nI j ∧ j ≤ n ∧ T = (G, L', PC a b P) ∧ dwC u F G ∧ ∀ l p, l < j → p / 4096 = l → p / 64 % 64 < up (H * D l) (mx D n) → p % 64 < up (W * A l) (mx A n) → G (u + 9) p = E p) ⟨0, F, L, rfl, Nat.zero_le _, rfl, fun _ _ _ _ => rfl, fun l p hl => absurd hl (Nat.not_lt_zero _)⟩ ?_
    rintro y T R ⟨j, G, L', rfl, hj, rfl, ha, hc⟩ hb
    unfold b_Pi_draw_10 at hb
    have f : ∀ k, k = 3 ∨ k = 4 ∨ k = 5 ∨ k = 7 ∨ k = 8 → G (u + k) = F (u + k) := fun k q => ha _ (uk k q).1 (uk k q).2.1 (uk k q).2.2
    have fu : G u = F u := ha u u0.1 u0.2.1 u0.2.2
    dsimp only at hb
    rw [fu, g2] at hb
    by_cases e2 : j = n
    · right
      subst e2
      refine ⟨_, L', fun w w1 w2 w3 w4 => ?_, fun k hk => ?_, ?_, fun l p hl p1 p2 p3 => ?_, hb.1 (Int32.le_refl _)⟩
      · rw [vu_ne w4]
        exact ha w w1 w2 w3
      · rw [vu_at, upd_ne hk]
      · rw [vu_at, upd_at]
        decide
      · rw [vu_ne (fun q => u0.2.2 q.symm)]
        exact hc l p hl p1 p2 p3
    · left
      have h := hb.2 (nI_ge (by omega) (by omega))
      have gb := gwd_b gW (show j < n by omega) (fun l hl => (gl l hl).2.2.1)
      have gb2 := gwd_b gH (show j < n by omega) (fun l hl => (gl l hl).2.2.2)
      have gj := gm.2.2 j (by omega)
      obtain ⟨Z, L2, z1, z2, z3, h⟩ := q_dr20 hu (show j < n by omega) n3 (drE_f hu hE ha) (by rw [ha 8 (by decide) (by decide) u8]; exact hW) (by rw [f 7 (by omega)]; exact hB) (by rw [f 8 (by omega)]; exact hN) (by rw [f 5 (by omega)]; exact gj.2.2.1) (by rw [f 3 (by omega)]; exact gj.1) (by rw [f 4 (by omega)]; exact gj.2.1) (lw_g gW (by omega) (fun l hl => (gl l hl).2.2.1)) (lw_g gH (by omega) (fun l hl => (gl l hl).2.2.2)) gb.2 gb2.2 h
      refine ⟨_, _, h, j + 1, Z, L2, rfl, by omega, rfl, fun w w1 w2 w3 => by rw [z1 w w1 w2 w3, ha w w1 w2 w3], fun l p hl p1 p2 p3 => ?_⟩
      by_cases q : l = j
      · subst q
        exact z3 p p1 p2 p3
      · exact z2 p (hc l p (by omega) p1 p2 p3)
  · exact ⟨F, L, fun _ _ _ _ _ => rfl, fun _ _ => rfl, e, hD e, h.2 e⟩
end DRW

/-! the picture that is shown, both sides -/
def lsx (A : Nat → Nat) (n l x : Nat) : Nat := x * A l / mx A n
theorem lsx_12 {A : Nat → Nat} {n l x : Nat} (hl : l < n) (hA : ∀ l, l < n → A l = 1 ∨ A l = 2) : (mx A n ≤ A l → lsx A n l x = x) ∧ (¬ mx A n ≤ A l → lsx A n l x = x / 2) := by
  have m1 := mx_12 n hA
  have m2 := mx_ge (A := A) n l hl
  unfold lsx
  refine ⟨fun h => ?_, fun h => ?_⟩
  · have e : A l = mx A n := by omega
    rw [e]
    exact Nat.mul_div_cancel _ (by omega)
  · rcases hA l hl with e | e
    · rw [e, Nat.mul_one, show mx A n = 2 by omega]
    · omega
theorem lsx_lt {A : Nat → Nat} {n l x W : Nat} (hl : l < n) (hA : ∀ l, l < n → A l = 1 ∨ A l = 2) (hx : x < W) (hW : W ≤ 64) : lsx A n l x < up (W * A l) (mx A n) ∧ lsx A n l x < 64 := by
  have m1 := mx_12 n hA
  have m2 := mx_ge (A := A) n l hl
  unfold lsx up
  rcases hA l hl with e | e <;> rcases m1 with d | d <;> rw [e, d] <;> omega
section PIC
variable {M : ms} {F : cF} {L : cL} {a b : Bool} {P : Nat → Nat → Nat} {K1 : Int32 → ms → Prop} {K2 : Int32 → cs → Prop} {T2 : Nat → cs → Prop} {u n W H l x y : Nat} {A D : Nat → Nat} {E : Nat → Int32}
theorem q_layerSample (g : gR 1 M n W H A D) (hl : l < n) (hx : x < 64) (hy : y < 64) (h : p_layerSample (nI x) (nI y) (nI l) M K1) : K1 (M.2.1 20 (4096 * l + 64 * lsx D n l y + lsx A n l x)) M := by
  have n3 := g.n3
  have gl := g.2.2.2.2.2.2 l hl
  have m1 := g.mA
  have m2 := g.mD
  unfold p_layerSample at h
  obtain ⟨-, h⟩ := h
  have h := q_greatest1 (q := 1) (by decide) n3 g.2.2.1 g.a h
  obtain ⟨-, -, h⟩ := h
  have h := q_greatest0 (q := 1) (M := (M.1, M.2.1, M.2.2)) (by decide) n3 g.2.2.1 g.d h
  obtain ⟨-, -, h⟩ := h
  dsimp only at h
  have e15 : M.2.1 15 (3 + l) = nI (A l) := gl.1
  have e16 : M.2.1 16 (3 + l) = nI (D l) := gl.2.1
  have a2 : x * A l ≤ 126 := by rcases gl.2.2.1 with e | e <;> rw [e] <;> omega
  have d2 : y * D l ≤ 126 := by rcases gl.2.2.2 with e | e <;> rw [e] <;> omega
  have q1 : x * A l / mx A n ≤ 126 := Nat.le_trans (Nat.div_le_self _ _) a2
  have q2 : y * D l / mx D n ≤ 126 := Nat.le_trans (Nat.div_le_self _ _) d2
  rw [n_3l, nI_clamp (show 3 + l < 2 ^ 31 by omega), e15, e16, pk_mul, pk_mul, pk_div (by omega) (by omega) (by omega), pk_div (by omega) (by omega) (by omega), show (64 : Int32) = nI 64 from rfl, pk_mul, nI_add, pk_mul, nI_add, nI_clamp (by omega)] at h
  unfold lsx
  rw [show 4096 * l + 64 * (y * D l / mx D n) + x * A l / mx A n = 64 * (64 * l + y * D l / mx D n) + x * A l / mx A n by omega]
  exact h
theorem q_cLS (hu : isU u) (g : gC u F n W H A D) (hl : l < n) (hx : x < 64) (hy : y < 64) (h : p_Pi_layerSample UL u (nI l) (nI x) (nI y) (F, L, PC a b P) K2) : K2 (F (u + 9) (4096 * l + 64 * lsx D n l y + lsx A n l x)) (F, L, PC a b P) := by
  obtain ⟨g0, g1, g2, g5, g6, gn, gW, gH, gl⟩ := g
  have hA : ∀ l, l < n → A l = 1 ∨ A l = 2 := fun l hl => (gl l hl).2.2.1
  have hD : ∀ l, l < n → D l = 1 ∨ D l = 2 := fun l hl => (gl l hl).2.2.2
  have m1 := mx_12 n hA
  have m2 := mx_12 n hD
  have a1 := hA l hl
  have d1 := hD l hl
  have lA := lsx_12 (x := x) hl hA
  have lD := lsx_12 (x := y) hl hD
  have l31 : (nI l).toNatClampNeg = l := nI_clamp (by omega)
  have d2 : ∀ z, z < 64 → (nI z / 2 : Int32) = nI (z / 2) := fun z hz => pk_div (d := 2) (by omega) (by decide) (by decide)
  unfold p_Pi_layerSample at h
  obtain ⟨-, -, -, h⟩ := h
  dsimp only at h
  rw [pp3 (isU_p hu), l31, g5, (gl l hl).1, d2 x hx] at h
  have h : b_Pi_layerSample_20 UL u (nI l) (nI y) (nI (lsx A n l x)) (F, L, PC a b P) K2 := by
    by_cases c : mx A n ≤ A l
    · rw [lA.1 c]; exact h.1 (nI_le c (by omega))
    · rw [lA.2 c]; exact h.2 (nI_ge (by omega) (by omega))
  unfold b_Pi_layerSample_20 at h
  obtain ⟨-, -, -, h⟩ := h
  dsimp only at h
  rw [pp4 (isU_p hu), l31, g6, (gl l hl).2.1, d2 y hy] at h
  have h : b_Pi_layerSample_42 UL u (nI l) (nI (lsx A n l x)) (nI (lsx D n l y)) (F, L, PC a b P) K2 := by
    by_cases c : mx D n ≤ D l
    · rw [lD.1 c]; exact h.1 (nI_le c (by omega))
    · rw [lD.2 c]; exact h.2 (nI_ge (by omega) (by omega))
  unfold b_Pi_layerSample_42 p_B_spot at h
  obtain ⟨-, -, -, h⟩ := h
  dsimp only at h
  have b1 := (lsx_lt (x := x) (W := 64) hl hA hx (Nat.le_refl _)).2
  have b2 := (lsx_lt (x := y) (W := 64) hl hD hy (Nat.le_refl _)).2
  rw [pp15 (isU_p hu), spot_n, nI_clamp (by omega)] at h
  exact h
theorem q_115 {s : Int32} (h : b_sampleAt_115 s M K1) : K1 (clI s) M := by
  unfold b_sampleAt_115 b_sampleAt_142 at h
  unfold clI
  by_cases c : 0 ≤ s
  · rw [if_pos c]
    by_cases d : s ≤ 255
    · rw [if_pos d]; exact (h.1 c).1 d
    · rw [if_neg d]; exact (h.1 c).2 d
  · rw [if_neg c]
    exact h.2 c
theorem x_colour {x3 : Int32} (hu : isU u) (g : gR 1 M n W H A D) (gc : gC u F n W H A D) (hd : drn u n W H A D (M.2.1 20) F) (hx : x < W) (hy : y < H) (h1 : p_sampleAt (nI x) (nI y) x3 M K1) (h2 : p_Pi_colour UL u (nI x) (nI y) x3 (F, L, PC a b P) K2) : ∃ v, K1 v M ∧ K2 v (F, L, PC a b P) := by
  have gW := g.2.2.2.2.1
  have gH := g.2.2.2.2.2.1
  have gl := g.2.2.2.2.2.2
  have gn := g.2.2.2.1
  have hA : ∀ l, l < n → A l = 1 ∨ A l = 2 := fun l hl => (gl l hl).2.2.1
  have hD : ∀ l, l < n → D l = 1 ∨ D l = 2 := fun l hl => (gl l hl).2.2.2
  have e9 : ∀ l, l < n → F (u + 9) (4096 * l + 64 * lsx D n l y + lsx A n l x) = M.2.1 20 (4096 * l + 64 * lsx D n l y + lsx A n l x) := fun l hl => by
    have b1 := lsx_lt (x := x) (W := W) hl hA hx gW.2
    have b2 := lsx_lt (x := y) (W := H) hl hD hy gH.2
    refine hd l _ hl (by omega) ?_ ?_
    · rw [show (4096 * l + 64 * lsx D n l y + lsx A n l x) / 64 % 64 = lsx D n l y by omega]; exact b2.1
    · rw [show (4096 * l + 64 * lsx D n l y + lsx A n l x) % 64 = lsx A n l x by omega]; exact b1.1
  unfold p_sampleAt at h1
  unfold p_Pi_colour at h2
  have h1 := q_layerSample (l := 0) g (by omega) (by omega) (by omega) h1
  have h2 := q_cLS (l := 0) hu gc (by omega) (by omega) (by omega) h2
  rw [e9 0 (by omega)] at h2
  generalize M.2.1 20 (4096 * 0 + 64 * lsx D n 0 y + lsx A n 0 x) = v0 at h1 h2
  obtain ⟨-, h1⟩ := h1
  have h14 : M.2.1 14 (1 : Int32).toNatClampNeg = nI n := g.2.2.1
  have f2 : F u 2 = nI n := gc.2.2.1
  rw [h14] at h1
  dsimp only at h2
  rw [f2] at h2
  rcases gn with rfl | rfl
  · exact ⟨_, h1.2 rfl, h2.2 rfl⟩
  · have h1 := h1.1 (by decide)
    have h2 := h2.1 (by decide)
    have h1 := q_layerSample (l := 1) (M := (M.1, M.2.1, M.2.2)) g (by omega) (by omega) (by omega) h1
    have h2 := q_cLS (l := 1) hu gc (by omega) (by omega) (by omega) h2
    rw [e9 1 (by omega)] at h2
    have h1 := q_layerSample (l := 2) (M := (M.1, M.2.1, M.2.2)) g (by omega) (by omega) (by omega) h1
    have h2 := q_cLS (l := 2) hu gc (by omega) (by omega) (by omega) h2
    rw [e9 2 (by omega)] at h2
    dsimp only at h1
    generalize M.2.1 20 (4096 * 1 + 64 * lsx D 3 1 y + lsx A 3 1 x) = v1 at h1 h2
    generalize M.2.1 20 (4096 * 2 + 64 * lsx D 3 2 y + lsx A 3 2 x) = v2 at h1 h2
    by_cases c0 : x3 = 0
    · have n1 : ¬ x3 = 1 := by rw [c0]; decide
      have h1 := q_115 (h1.2 c0)
      have h2 := (h2.1 n1).2 c0
      unfold b_Pi_colour_97 at h2
      exact ⟨_, h1, q_clamp0 h2⟩
    · by_cases c1 : x3 = 1
      · have h1 := q_115 ((h1.1 c0).2 c1)
        exact ⟨_, h1, q_clamp0 (h2.2 c1)⟩
      · have h1 := q_115 ((h1.1 c0).1 c1)
        have h2 := (h2.1 c1).1 c0
        unfold b_Pi_colour_97 at h2
        exact ⟨_, h1, q_clamp0 h2⟩
/-- the picture shown: unit u of the class, third 1 of the reference -/
def rPic (u : Nat) (M : ms) (F : cF) : Prop := (M.2.1 11 1 = 0 ∧ F u 17 = 0) ∨ ∃ n W H A D, ¬ M.2.1 11 1 = 0 ∧ ¬ F u 17 = 0 ∧ gR 1 M n W H A D ∧ gG2 1 M n W H A D ∧ gC u F n W H A D ∧ gM u F n W H A D ∧ (∀ k, k < 12288 → B (-4096) 4096 (F (u + 7) k)) ∧ (∀ l b k, l < n → b < gwd n W A l * gwd n H D l → k < 64 → F (u + 7) (4096 * l + 64 * b + k) = M.2.1 19 (12288 + 64 * (64 * l + b) + k)) ∧ drE u n W H A D (M.2.1 20) F ∧ (¬ F u 16 = 0 → drn u n W H A D (M.2.1 20) F)
end PIC

/-! sample, about, level: both sides -/
section ASK
variable {M : ms} {F : cF} {L : cL} {a b : Bool} {P : Nat → Nat → Nat} {K1 : Int32 → ms → Prop} {K2 : Int32 → cs → Prop} {T2 : Nat → cs → Prop} {u q : Nat} {x1 x2 x3 x4 : Int32}
theorem w_1 {w : Nat} (h1 : 1 ≤ w) (h2 : w ≤ 4096) : (nI w - 1 : Int32).toInt = (w : Int) - 1 := by
  rw [show (1 : Int32) = nI 1 from rfl, pk_sub h1, nI_toInt (by omega)]
  omega
theorem x_sample (hF : IMc F) (hu : isU u) (hp : PC a b P 0 7 = u) (hr : rPic u M F) (h1 : p_sample x1 x2 x3 M K1) (h2 : p_B_sample UL 0 x1 x2 x3 (F, L, PC a b P) K2 T2) :
    (∃ v Z L', (∀ w, w ≠ 9 → w ≠ 10 → w ≠ u + 9 → w ≠ u → Z w = F w) ∧ (∀ k, k ≠ 16 → Z u k = F u k) ∧ rPic u M Z ∧ K1 v (upd M.1 0 0, M.2.1, M.2.2) ∧ K2 v (Z, L', PC a b P)) ∨ (K1 0 (upd M.1 0 1, M.2.1, M.2.2) ∧ T2 13 (F, L, PC a b P)) ∨ (K1 0 (upd M.1 0 2, M.2.1, M.2.2) ∧ T2 15 (F, L, PC a b P)) := by
  have z0 : (0 : Int32).toInt = 0 := by decide
  unfold p_sample at h1
  obtain ⟨-, h1⟩ := h1
  have h1 : (¬ M.2.1 11 1 = 0 → _) ∧ (M.2.1 11 1 = 0 → _) := h1
  unfold p_B_sample at h2
  obtain ⟨-, -, h2⟩ := h2
  dsimp only at h2
  rw [hp] at h2
  rcases hr with ⟨r1, r2⟩ | ⟨n, W, H, A, D, r1, r2, g, gg, gc, gm, rB, rl, rE, rD⟩
  · right; left
    have h1 := h1.2 r1
    unfold b_sample_65 b_sample_86 at h1
    exact ⟨h1.2 (by rw [upd_at]; decide), h2.2 r2⟩
  · have h1 := h1.1 r1
    obtain ⟨-, h2⟩ := h2.1 r2
    have gW := g.2.2.2.2.1
    have gH := g.2.2.2.2.2.1
    have gn := g.2.2.2.1
    have no : b_sample_60 x1 x2 x3 M K1 → K1 0 (upd M.1 0 2, M.2.1, M.2.2) := by
      intro h
      unfold b_sample_60 b_sample_65 b_sample_86 at h
      exact h.2 (by rw [upd_at]; decide)
    have e12 : M.2.1 12 (1 : Int32).toNatClampNeg = nI W := g.1
    have e13 : M.2.1 13 (1 : Int32).toNatClampNeg = nI H := g.2.1
    have e14 : M.2.1 14 (1 : Int32).toNatClampNeg = nI n := g.2.2.1
    have tW' : (nI W).toInt = W := nI_toInt (by omega)
    have tH' : (nI H).toInt = H := nI_toInt (by omega)
    have tn' : (nI n).toInt = n := nI_toInt (by omega)
    rw [e12, e13, e14] at h1
    have nos : (¬ (0 ≤ x1.toInt ∧ x1.toInt < (W : Int) ∧ 0 ≤ x2.toInt ∧ x2.toInt < (H : Int) ∧ 0 ≤ x3.toInt ∧ x3.toInt < (n : Int))) → K1 0 (upd M.1 0 2, M.2.1, M.2.2) := by
      intro hn
      refine dt_p h1 (fun c h => no h) (fun c h => ?_)
      have c1 := i_le (nlt_le c)
      refine dt_p h.2 (fun c h => no h) (fun c h => ?_)
      have c2 := i_lt (nle_lt c)
      refine dt_p h (fun c h => no h) (fun c h => ?_)
      have c3 := i_le (nlt_le c)
      refine dt_p h.2 (fun c h => no h) (fun c h => ?_)
      have c4 := i_lt (nle_lt c)
      refine dt_p h (fun c h => no h) (fun c h => ?_)
      have c5 := i_le (nlt_le c)
      refine dt_p h.2 (fun c h => ?_) (fun c h => no h)
      have c6 := i_lt c
      exact absurd ⟨by omega, by omega, by omega, by omega, by omega, by omega⟩ hn
    rw [gc.1] at h2
    have tw := w_1 gW.1 (by omega)
    have th := w_1 gH.1 (by omega)
    have tn := w_1 (w := n) (by omega) (by omega)
    rcases q_isWithin h2 with ⟨i1, i2, h2⟩ | ⟨i1, h2⟩
    · rw [tw] at i2
      obtain ⟨-, h2⟩ := h2.2 (by decide)
      rw [gc.2.1] at h2
      rcases q_isWithin h2 with ⟨j1, j2, h2⟩ | ⟨j1, h2⟩
      · rw [th] at j2
        obtain ⟨-, h2⟩ := h2.2 (by decide)
        rw [gc.2.2.1] at h2
        rcases q_isWithin h2 with ⟨k1, k2, h2⟩ | ⟨k1, h2⟩
        · left
          rw [tn] at k2
          obtain ⟨-, -, h2⟩ := h2.1 (by decide)
          have h2 : p_Pi_draw UL u 7 (F, L, PC a b P) _ := h2
          have h1 := h1.2 (fun c => by have := i_lt c; omega)
          have h1 := h1.2.2 (fun c => by have := i_le c; omega)
          have h1 := h1.2 (fun c => by have := i_lt c; omega)
          have h1 := h1.2.2 (fun c => by have := i_le c; omega)
          have h1 := h1.2 (fun c => by have := i_lt c; omega)
          have h1 := h1.2.1 (Int32.lt_iff_toInt_lt.mpr (by omega))
          unfold b_sample_65 b_sample_86 at h1
          have h1 := h1.1 (by rw [upd_at]; decide)
          have q1 := nI_i (x := x1) (by omega)
          have q2 := nI_i (x := x2) (by omega)
          have hB8 : ∀ k, B (-4096) 4096 (F 8 k) := fun k => hF 8 k
          have hN : ∀ k, B (-256) 256 (F (u + 8) k) := fun k => by
            have t : B 0 255 (F (u + 8) k) := by
              rcases hu with rfl | rfl
              · exact hF 71 k
              · exact hF 113 k
            exact ⟨by have := t.1; omega, by have := t.2; omega⟩
          obtain ⟨Z, L', z1, z2, z3, z4, h2⟩ := q_draw hu gc gm rE rD hB8 rB hN h2
          obtain ⟨-, -, h2⟩ := h2
          dsimp only at h2
          rw [hp] at h2
          have u0 : ∀ k, 1 ≤ k → k ≤ 8 → Z (u + k) = F (u + k) := fun k k1 k8 => by
            refine z1 _ ?_ ?_ (by omega) (by omega) <;> rcases hu with rfl | rfl <;> omega
          have u8 : Z 8 = F 8 := by
            refine z1 8 (by decide) (by decide) ?_ ?_ <;> rcases hu with rfl | rfl <;> decide
          have gcz : gC u Z n W H A D := gC_k gc (fun k hk => z2 k (by omega)) (u0 1 (by decide) (by decide)) (u0 2 (by decide) (by decide))
          have gmz : gM u Z n W H A D := gM_k gm (z2 7 (by decide)) (z2 8 (by decide)) (u0 3 (by decide) (by decide)) (u0 4 (by decide) (by decide)) (u0 5 (by decide) (by decide)) (u0 6 (by decide) (by decide))
          rw [q1, q2] at h1 h2
          obtain ⟨v, k1, k2⟩ := x_colour (M := (upd M.1 0 0, M.2.1, M.2.2)) hu g gcz z4 (by omega) (by omega) h1 h2
          refine ⟨v, Z, L', z1, z2, Or.inr ⟨n, W, H, A, D, r1, by rw [z2 17 (by decide)]; exact r2, g, gg, gcz, gmz, by rw [u0 7 (by decide) (by decide)]; exact rB, by rw [u0 7 (by decide) (by decide)]; exact rl, ?_, fun _ => z4⟩, k1, k2⟩
          unfold drE tW
          rw [u0 7 (by decide) (by decide), u0 8 (by decide) (by decide), u8]
          exact rE
        · rw [tn] at k1
          exact Or.inr (Or.inr ⟨nos (by omega), h2.2 rfl⟩)
      · rw [th] at j1
        exact Or.inr (Or.inr ⟨nos (by omega), h2.1 rfl⟩)
    · rw [tw] at i1
      exact Or.inr (Or.inr ⟨nos (by omega), h2.1 rfl⟩)
theorem x_about (hu : isU u) (hp : PC a b P 0 7 = u) (hr : rPic u M F) (h1 : p_about x1 M K1) (h2 : p_B_about UL 0 x1 (F, L, PC a b P) K2 T2) :
    (∃ v, K1 v (upd M.1 0 0, M.2.1, M.2.2) ∧ K2 v (F, L, PC a b P)) ∨ (K1 0 (upd M.1 0 1, M.2.1, M.2.2) ∧ T2 14 (F, L, PC a b P)) ∨ (K1 0 (upd M.1 0 2, M.2.1, M.2.2) ∧ T2 13 (F, L, PC a b P)) := by
  have z0 : (0 : Int32).toInt = 0 := by decide
  have z2 : (2 : Int32).toInt = 2 := by decide
  have no : b_about_10 x1 M K1 → K1 0 (upd M.1 0 1, M.2.1, M.2.2) := by
    intro h
    unfold b_about_10 b_about_28 b_about_75 at h
    exact h.2 (by rw [upd_at]; decide)
  unfold p_about at h1
  unfold p_B_about at h2
  rcases q_isWithin h2 with ⟨i1, i2, h2⟩ | ⟨i1, h2⟩
  · obtain ⟨-, -, h2⟩ := h2.1 (by decide)
    dsimp only at h2
    rw [hp] at h2
    obtain ⟨-, h1⟩ := (h1.2 (fun c => by have := i_lt c; omega)).1 (Int32.le_iff_toInt_le.mpr i2)
    have h1 : (M.2.1 11 1 = 0 → _) ∧ (¬ M.2.1 11 1 = 0 → _) := h1
    rcases hr with ⟨r1, r2⟩ | ⟨n, W, H, A, D, r1, r2, g, gg, gc, gm, rB, rl, rE, rD⟩
    · right; right
      have h1 := h1.1 r1
      unfold b_about_28 b_about_75 at h1
      exact ⟨h1.2 (by rw [upd_at]; decide), h2.2 r2⟩
    · left
      have h1 := h1.2 r1
      have h2 := h2.1 r2
      unfold b_about_28 b_about_75 at h1
      have h1 := h1.1 (by rw [upd_at]; decide)
      have e12 : M.2.1 12 (1 : Int32).toNatClampNeg = nI W := g.1
      have e13 : M.2.1 13 (1 : Int32).toNatClampNeg = nI H := g.2.1
      have e14 : M.2.1 14 (1 : Int32).toNatClampNeg = nI n := g.2.2.1
      unfold b_B_about_75 at h2
      rw [e12, e13, e14] at h1
      rw [gc.1, gc.2.1, gc.2.2.1] at h2
      by_cases c0 : x1 = 0
      · exact ⟨_, (h1.2 c0).2, (h2.2 c0).2⟩
      · by_cases c1 : x1 = 1
        · exact ⟨_, ((h1.1 c0).2 c1).2, ((h2.1 c0).2 c1).2⟩
        · exact ⟨_, ((h1.1 c0).1 c1).2, ((h2.1 c0).1 c1).2⟩
  · right; left
    refine ⟨?_, h2.2 rfl⟩
    refine dt_p h1 (fun c h => no h) (fun c h => ?_)
    refine dt_p h (fun c2 h => ?_) (fun c h => no h)
    have := i_le (nlt_le c)
    have := i_le c2
    omega
/-- levels of picture q of the reference, unit u of the class -/
def rLvq (q u : Nat) (M : ms) (F : cF) : Prop := (M.2.1 11 q = 0 ∧ F u 17 = 0) ∨ ∃ n W H A D, ¬ M.2.1 11 q = 0 ∧ ¬ F u 17 = 0 ∧ gR q M n W H A D ∧ gG2 q M n W H A D ∧ gC u F n W H A D ∧ gM u F n W H A D ∧ (∀ l b k, l < n → b < gwd n W A l * gwd n H D l → k < 64 → F (u + 7) (4096 * l + 64 * b + k) = M.2.1 19 (12288 * q + 64 * (64 * l + b) + k))
theorem rPic_l (h : rPic u M F) : rLvq 1 u M F := by
  rcases h with r | ⟨n, W, H, A, D, r1, r2, g, gg, gc, gm, rB, rl, rE, rD⟩
  · exact Or.inl r
  · exact Or.inr ⟨n, W, H, A, D, r1, r2, g, gg, gc, gm, rl⟩
theorem x_lev38 (hq : q < 2) (hu : isPic u) (hr : rLvq q u M F)
    (h1 : (¬ M.2.1 11 q = 0 → ((x2 < 0 → (b_level_72 (nI q) x2 x3 x4 M K1)) ∧ (¬ (x2 < 0) → (((M.2.1 14 q) ≤ x2 → (b_level_72 (nI q) x2 x3 x4 M K1)) ∧ (¬ ((M.2.1 14 q) ≤ x2) → ((x4 < 0 → (b_level_72 (nI q) x2 x3 x4 M K1)) ∧ (¬ (x4 < 0) → ((64 ≤ x4 → (b_level_72 (nI q) x2 x3 x4 M K1)) ∧ (¬ (64 ≤ x4) → ((x3 < 0 → (b_level_72 (nI q) x2 x3 x4 M K1)) ∧ (¬ (x3 < 0) → (b_level_73 (nI q) x2 x3 x4 1 M K1)))))))))))) ∧ (M.2.1 11 q = 0 → (b_level_18 (nI q) M K1)))
    (h2 : b_B_level_38 UL 0 x2 x3 x4 u (F, L, PC a b P) K2 T2) :
    (∃ v, K1 v (upd M.1 0 0, M.2.1, M.2.2) ∧ K2 v (F, L, PC a b P)) ∨ (K1 0 (upd M.1 0 2, M.2.1, M.2.2) ∧ T2 13 (F, L, PC a b P)) ∨ (K1 0 (upd M.1 0 3, M.2.1, M.2.2) ∧ T2 15 (F, L, PC a b P)) := by
  have z0 : (0 : Int32).toInt = 0 := by decide
  have z63 : (63 : Int32).toInt = 63 := by decide
  have z64 : (64 : Int32).toInt = 64 := by decide
  unfold b_B_level_38 at h2
  obtain ⟨-, h2⟩ := h2
  rcases hr with ⟨r1, r2⟩ | ⟨n, W, H, A, D, r1, r2, g, gg, gc, gm, rl⟩
  · right; left
    have h1 := h1.2 r1
    unfold b_level_18 b_level_33 at h1
    exact ⟨(h1.2 (fun c => by have := i_lt c; rw [nI_toInt (by omega)] at this; omega)).1 (Int32.le_iff_toInt_le.mpr (by rw [nI_toInt (by omega), show (1 : Int32).toInt = 1 by decide]; omega)), h2.2 r2⟩
  · have h1 := h1.1 r1
    have h2 := h2.1 r2
    have gW := g.2.2.2.2.1
    have gH := g.2.2.2.2.2.1
    have gn := g.2.2.2.1
    have no9 : b_level_109 (nI q) x2 x3 x4 M K1 → K1 0 (upd M.1 0 3, M.2.1, M.2.2) := by
      intro h
      unfold b_level_109 b_level_110 b_level_123 b_level_148 at h
      exact (h.1 rfl).1 rfl
    have no : b_level_72 (nI q) x2 x3 x4 M K1 → K1 0 (upd M.1 0 3, M.2.1, M.2.2) := by
      intro h
      unfold b_level_72 b_level_73 at h
      exact no9 (h.1 rfl)
    have e14 : M.2.1 14 q = nI n := g.2.2.1
    have tn' : (nI n).toInt = n := nI_toInt (by omega)
    rw [e14] at h1
    have w1 : ∀ l, l < n → 1 ≤ gwd n W A l ∧ gwd n W A l ≤ 8 := fun l hl => gwd_b gW hl (fun l hl => (g.2.2.2.2.2.2 l hl).2.2.1)
    have w2 : ∀ l, l < n → 1 ≤ gwd n H D l ∧ gwd n H D l ≤ 8 := fun l hl => gwd_b gH hl (fun l hl => (g.2.2.2.2.2.2 l hl).2.2.2)
    have w3 : ∀ l, l < n → 1 ≤ gwd n W A l * gwd n H D l ∧ gwd n W A l * gwd n H D l ≤ 64 := fun l hl => ⟨Nat.mul_le_mul (w1 l hl).1 (w2 l hl).1, Nat.mul_le_mul (w1 l hl).2 (w2 l hl).2⟩
    have b73 : ∀ l, x2 = nI l → l < n → b_level_73 (nI q) x2 x3 x4 1 M K1 → ((gwd n W A l * gwd n H D l : Nat) ≤ x3.toInt → K1 0 (upd M.1 0 3, M.2.1, M.2.2)) ∧ (x3.toInt < (gwd n W A l * gwd n H D l : Nat) → b_level_110 (nI q) x2 x3 x4 1 M K1) := by
      intro l el hl h
      unfold b_level_73 at h
      obtain ⟨-, -, h⟩ := h.2 (by decide)
      rw [el, q3_n, nI_clamp (by omega), (gg l hl).1, (gg l hl).2, pk_mul, ← el] at h
      have t : (nI (gwd n W A l * gwd n H D l)).toInt = (gwd n W A l * gwd n H D l : Nat) := nI_toInt (by have := w3 l hl; omega)
      refine ⟨fun c => no9 (h.1 (Int32.le_iff_toInt_le.mpr ?_)), fun c => h.2 (fun d => ?_)⟩
      · show (nI (gwd n W A l * gwd n H D l)).toInt ≤ _
        rw [t]; exact c
      · have d2 : (nI (gwd n W A l * gwd n H D l)).toInt ≤ _ := i_le d
        rw [t] at d2
        omega
    have nos : (∀ l, x2 = nI l → l < n → ¬ (0 ≤ x3.toInt ∧ x3.toInt < (gwd n W A l * gwd n H D l : Nat) ∧ 0 ≤ x4.toInt ∧ x4.toInt < 64)) → K1 0 (upd M.1 0 3, M.2.1, M.2.2) := by
      intro hn
      refine dt_p h1 (fun c h => no h) (fun c h => ?_)
      have c1 := i_le (nlt_le c)
      refine dt_p h (fun c h => no h) (fun c h => ?_)
      have c2 := i_lt (nle_lt c)
      rw [tn'] at c2
      rw [z0] at c1
      have el := nI_i c1
      refine dt_p h (fun c h => no h) (fun c h => ?_)
      have c3 := i_le (nlt_le c)
      refine dt_p h (fun c h => no h) (fun c h => ?_)
      have c4 := i_lt (nle_lt c)
      refine dt_p h (fun c h => no h) (fun c h => ?_)
      have c5 := i_le (nlt_le c)
      rw [z0] at c3 c5
      rw [z64] at c4
      have hl : x2.toInt.toNat < n := by omega
      by_cases d : (gwd n W A x2.toInt.toNat * gwd n H D x2.toInt.toNat : Nat) ≤ x3.toInt
      · exact (b73 _ el hl h).1 d
      · exact absurd ⟨c5, by omega, c3, c4⟩ (hn _ el hl)
    unfold p_Pi_hasBlock b_Pi_hasBlock_34 b_Pi_hasBlock_35 b_B_level_79 at h2
    dsimp only at h2
    rw [gc.2.2.1] at h2
    have tn := w_1 (w := n) (by omega) (by omega)
    rcases q_isWithin h2 with ⟨i1, i2, h2⟩ | ⟨i1, h2⟩
    · rw [tn] at i2
      rw [z0] at i1
      obtain ⟨-, -, -, h2⟩ := h2.2 (by decide)
      have el := nI_i i1
      have hl : x2.toInt.toNat < n := by omega
      generalize x2.toInt.toNat = l at el hl
      have l31 : x2.toNatClampNeg = l := by rw [el]; exact nI_clamp (by omega)
      rw [pp12 hu, l31, (gm.2.2 l hl).2.2.2] at h2
      have t3 := w_1 (w := gwd n W A l * gwd n H D l) (w3 l hl).1 (by have := w3 l hl; omega)
      rcases q_isWithin h2 with ⟨j1, j2, h2⟩ | ⟨j1, h2⟩
      · have j2 : x3.toInt ≤ (nI (gwd n W A l * gwd n H D l) - 1 : Int32).toInt := j2
        rw [t3] at j2
        rw [z0] at j1
        have h2 := ((h2.2 (by decide)).2).2 (by decide)
        rcases q_isWithin h2 with ⟨k1, k2, h2⟩ | ⟨k1, h2⟩
        · rw [z63] at k2
          rw [z0] at k1
          left
          obtain ⟨-, -, -, h2⟩ := h2.1 (by decide)
          have h1 := h1.2 (fun c => by have := i_lt c; omega)
          have h1 := h1.2 (fun c => by have := i_le c; rw [tn'] at this; omega)
          have h1 := h1.2 (fun c => by have := i_lt c; omega)
          have h1 := h1.2 (fun c => by have := i_le c; omega)
          have h1 := h1.2 (fun c => by have := i_lt c; omega)
          have h1 := (b73 l el hl h1).2 (by omega)
          unfold b_level_110 b_level_123 b_level_148 p_levelCell at h1
          obtain ⟨-, h1⟩ := (h1.2 (by decide)).2 (by decide)
          have e3 := nI_i j1
          have e4 := nI_i k1
          have hb : x3.toInt.toNat < gwd n W A l * gwd n H D l := by omega
          have hk : x4.toInt.toNat < 64 := by omega
          have b64 := (w3 l hl).2
          generalize x3.toInt.toNat = bb at e3 hb
          generalize x4.toInt.toNat = kk at e4 hk
          rw [el, e3, e4, n_cell (q := q) (c := 12288 * q) rfl rfl, nI_clamp (by omega)] at h1
          rw [pp13 hu, el, e3, e4, show ((4096 * nI l) + (64 * nI bb) + nI kk : Int32) = nI (4096 * l + 64 * bb + kk) from spot_n, nI_clamp (by omega), rl l bb kk hl hb hk] at h2
          exact ⟨_, h1, h2⟩
        · rw [z63, z0] at k1
          exact Or.inr (Or.inr ⟨nos (fun l _ _ => by omega), h2.2 rfl⟩)
      · have j1 : x3.toInt < (0 : Int32).toInt ∨ (nI (gwd n W A l * gwd n H D l) - 1 : Int32).toInt < x3.toInt := j1
        rw [t3, z0] at j1
        refine Or.inr (Or.inr ⟨nos (fun l' el' hl' => ?_), ((h2.1 rfl).2).1 rfl⟩)
        have : l' = l := (nI_eq (by omega) (by omega)).mp (el'.symm.trans el)
        subst this
        omega
    · rw [tn, z0] at i1
      refine Or.inr (Or.inr ⟨nos (fun l el hl => ?_), ((h2.1 rfl).2).1 rfl⟩)
      rw [el, nI_toInt (by omega)] at i1
      omega
end ASK

/-! level and take: both sides -/
def sV (E : Nat → Int32) (n : Nat) (A D : Nat → Nat) (x y l : Nat) : Int32 := E (4096 * l + 64 * lsx D n l y + lsx A n l x)
def colV (E : Nat → Int32) (n : Nat) (A D : Nat → Nat) (x y : Nat) (p : Int32) : Int32 :=
  if n = 1 then sV E n A D x y 0 else if p = 0 then clI (sV E n A D x y 0 + (((91881 * (sV E n A D x y 2 - 128)) + 32768) >>> (16 &&& 31 : Int32) : Int32)) else if p = 1 then clI (sV E n A D x y 0 - ((((22554 * (sV E n A D x y 1 - 128)) + (46802 * (sV E n A D x y 2 - 128))) + 32768) >>> (16 &&& 31 : Int32) : Int32)) else clI (sV E n A D x y 0 + (((116130 * (sV E n A D x y 1 - 128)) + 32768) >>> (16 &&& 31 : Int32) : Int32))
section TKE
variable {M S : ms} {F : cF} {L : cL} {a b : Bool} {P : Nat → Nat → Nat} {K1 : Int32 → ms → Prop} {K2 : Int32 → cs → Prop} {K : ms → Prop} {KC : cs → Prop} {T2 : Nat → cs → Prop} {u n W H x y X Y : Nat} {A D : Nat → Nat} {x1 x2 x3 x4 : Int32}
theorem x_level (hu : isU u) (hp : PC a b P 0 7 = u) (hr : rPic u M F) (hk : rLvq 0 12 M F) (h1 : p_level x1 x2 x3 x4 M K1) (h2 : p_B_level UL 0 x1 x2 x3 x4 (F, L, PC a b P) K2 T2) :
    (∃ v, K1 v (upd M.1 0 0, M.2.1, M.2.2) ∧ K2 v (F, L, PC a b P)) ∨ (K1 0 (upd M.1 0 1, M.2.1, M.2.2) ∧ T2 14 (F, L, PC a b P)) ∨ (K1 0 (upd M.1 0 2, M.2.1, M.2.2) ∧ T2 13 (F, L, PC a b P)) ∨ (K1 0 (upd M.1 0 3, M.2.1, M.2.2) ∧ T2 15 (F, L, PC a b P)) := by
  have z0 : (0 : Int32).toInt = 0 := by decide
  have z1 : (1 : Int32).toInt = 1 := by decide
  have push : ∀ {A B C D : Prop}, A ∨ B ∨ C → A ∨ D ∨ B ∨ C := fun h => by
    rcases h with h | h | h
    · exact Or.inl h
    · exact Or.inr (Or.inr (Or.inl h))
    · exact Or.inr (Or.inr (Or.inr h))
  have no : (x1.toInt < 0 ∨ 1 < x1.toInt) → b_level_18 x1 M K1 → K1 0 (upd M.1 0 1, M.2.1, M.2.2) := by
    intro hx h
    unfold b_level_18 b_level_28 b_level_33 at h
    refine dt_p h (fun c h => h) (fun c h => ?_)
    exact h.2 (fun d => by have := i_le d; have := i_le (nlt_le c); omega)
  unfold p_B_level at h2
  unfold p_level at h1
  rcases q_isWithin h2 with ⟨i1, i2, h2⟩ | ⟨i1, h2⟩
  · have h2 := h2.1 (by decide)
    rw [z0] at i1
    rw [z1] at i2
    have h1 := h1.2 (fun c => by have := i_lt c; omega)
    have h1 := h1.2 (fun c => by have := i_lt c; omega)
    obtain ⟨-, h1⟩ := h1
    have el := nI_i i1
    have hq : x1.toInt.toNat < 2 := by omega
    generalize x1.toInt.toNat = q at el hq
    subst el
    rw [nI_clamp (show q < 2 ^ 31 by omega)] at h1
    have h1 : (¬ M.2.1 11 q = 0 → ((x2 < 0 → (b_level_72 (nI q) x2 x3 x4 M K1)) ∧ (¬ (x2 < 0) → (((M.2.1 14 q) ≤ x2 → (b_level_72 (nI q) x2 x3 x4 M K1)) ∧ (¬ ((M.2.1 14 q) ≤ x2) → ((x4 < 0 → (b_level_72 (nI q) x2 x3 x4 M K1)) ∧ (¬ (x4 < 0) → ((64 ≤ x4 → (b_level_72 (nI q) x2 x3 x4 M K1)) ∧ (¬ (64 ≤ x4) → ((x3 < 0 → (b_level_72 (nI q) x2 x3 x4 M K1)) ∧ (¬ (x3 < 0) → (b_level_73 (nI q) x2 x3 x4 1 M K1)))))))))))) ∧ (M.2.1 11 q = 0 → (b_level_18 (nI q) M K1)) := ⟨fun c => ⟨(h1.1 c).1, fun d => ((h1.1 c).2 d).2⟩, h1.2⟩
    apply push
    have qq : q = 0 ∨ q = 1 := by omega
    rcases qq with rfl | rfl
    · obtain ⟨-, -, -, h2⟩ := h2.1 (by decide)
      have h2 : b_B_level_38 UL 0 x2 x3 x4 12 (F, L, PC a b P) K2 T2 := h2
      exact x_lev38 (by decide) (Or.inl rfl) hk h1 h2
    · obtain ⟨-, h2⟩ := h2.2 rfl
      have h2 : b_B_level_38 UL 0 x2 x3 x4 (PC a b P 0 7) (F, L, PC a b P) K2 T2 := h2
      rw [hp] at h2
      exact x_lev38 (by decide) (isU_p hu) (rPic_l hr) h1 h2
  · rw [z0, z1] at i1
    right; left
    refine ⟨?_, h2.2 rfl⟩
    refine dt_p h1 (fun c h => no i1 h) (fun c h => ?_)
    refine dt_p h (fun c h => no i1 h) (fun c2 h => ?_)
    have := i_le (nlt_le c)
    have := i_le (nlt_le c2)
    omega
theorem q_sampleAt (g : gR 1 M n W H A D) (hx : x < 64) (hy : y < 64) (h1 : p_sampleAt (nI x) (nI y) x3 M K1) : K1 (colV (M.2.1 20) n A D x y x3) M := by
  have gn := g.2.2.2.1
  unfold p_sampleAt at h1
  have h1 := q_layerSample (l := 0) g (by omega) hx hy h1
  obtain ⟨-, h1⟩ := h1
  have h14 : M.2.1 14 (1 : Int32).toNatClampNeg = nI n := g.2.2.1
  rw [h14] at h1
  unfold colV sV
  rcases gn with rfl | rfl
  · rw [if_pos rfl]
    exact h1.2 rfl
  · rw [if_neg (by decide)]
    have h1 := h1.1 (by decide)
    have h1 := q_layerSample (l := 1) (M := (M.1, M.2.1, M.2.2)) g (by omega) hx hy h1
    have h1 := q_layerSample (l := 2) (M := (M.1, M.2.1, M.2.2)) g (by omega) hx hy h1
    by_cases c0 : x3 = 0
    · rw [if_pos c0]
      exact q_115 (h1.2 c0)
    · rw [if_neg c0]
      by_cases c1 : x3 = 1
      · rw [if_pos c1]
        exact q_115 ((h1.1 c0).2 c1)
      · rw [if_neg c1]
        exact q_115 ((h1.1 c0).1 c1)
theorem q_colour (hu : isU u) (gc : gC u F n W H A D) (hx : x < 64) (hy : y < 64) (h2 : p_Pi_colour UL u (nI x) (nI y) x3 (F, L, PC a b P) K2) : K2 (colV (F (u + 9)) n A D x y x3) (F, L, PC a b P) := by
  have gn := gc.2.2.2.2.2.1
  have f2 : F u 2 = nI n := gc.2.2.1
  unfold p_Pi_colour at h2
  have h2 := q_cLS (l := 0) hu gc (by omega) hx hy h2
  dsimp only at h2
  rw [f2] at h2
  unfold colV sV
  rcases gn with rfl | rfl
  · rw [if_pos rfl]
    exact h2.2 rfl
  · rw [if_neg (by decide)]
    have h2 := h2.1 (by decide)
    have h2 := q_cLS (l := 1) hu gc (by omega) hx hy h2
    have h2 := q_cLS (l := 2) hu gc (by omega) hx hy h2
    unfold b_Pi_colour_97 at h2
    by_cases c0 : x3 = 0
    · have n1 : ¬ x3 = 1 := by rw [c0]; decide
      rw [if_pos c0]
      exact q_clamp0 ((h2.1 n1).2 c0)
    · rw [if_neg c0]
      by_cases c1 : x3 = 1
      · rw [if_pos c1]
        exact q_clamp0 (h2.2 c1)
      · rw [if_neg c1]
        exact q_clamp0 ((h2.1 c1).1 c0)
theorem colV_c {E E' : Nat → Int32} {p : Int32} (hn : n = 1 ∨ n = 3) (h : ∀ l, l < n → sV E n A D x y l = sV E' n A D x y l) : colV E n A D x y p = colV E' n A D x y p := by
  unfold colV
  rcases hn with rfl | rfl
  · rw [if_pos rfl, if_pos rfl, h 0 (by decide)]
  · rw [h 0 (by decide), h 1 (by decide), h 2 (by decide)]
theorem q_tk70 {R50 : Int32 → ms → Prop} {R60 : Int32 → Int32 → ms → Prop} (hX : X < 64) (hY : Y < 64) (h3 : S.1 3 = nI n) (g : gR 1 S n W H A D) (h : e_take_70 (nI Y) (nI X) 0 S R50 R60 K) :
    ∃ Z, ag [] [4] S Z ∧ (∀ x y p, x < 64 → y < 64 → p < 3 → cv Z x y p = if x = X ∧ y = Y ∧ p < n then colV (S.2.1 20) n A D x y (nI p) else cv S x y p) ∧ R60 (nI Y) (nI (X + 1)) Z := by
  have n3 := g.n3
  refine v_e_take_70 h (fun y9 T => ∃ q, y9 = nI q ∧ q ≤ n ∧ ag [] [4] S T ∧ ∀ x y p, x < 64 → y < 64 → p < 3 → cv T x y p = if x = X ∧ y = Y ∧ p < q then colV (S.2.1 20) n A D x y (nI p) else cv S x y p) ⟨0, rfl, Nat.zero_le _, ag_refl, fun x y p _ _ _ => by rw [if_neg (by omega)]⟩ ?_
  rintro y9 T R ⟨q, rfl, hq, ha, hc⟩ hb
  unfold b_take_70 at hb
  have e3 : T.1 3 = nI n := (ha.1 3 rfl).trans h3
  by_cases hqn : q = n
  · right
    refine ⟨T, ha, ?_, ?_⟩
    · rw [hqn] at hc
      exact hc
    · have h := hb.1 (by rw [e3, hqn]; exact Int32.le_refl _)
      rwa [show (nI X + 1 : Int32) = nI (X + 1) from nI_1 X] at h
  · left
    have hb := hb.2 (by rw [e3]; exact nI_ge (by omega) (by omega))
    unfold p_cell at hb
    have hb := q_sampleAt (gR_k g ha rfl rfl rfl rfl rfl) hX hY hb
    obtain ⟨-, hR⟩ := hb
    rw [cell_n, nI_clamp (by omega), ha.2 20 rfl] at hR
    refine ⟨_, _, hR, q + 1, nI_1 q, by omega, ag_r ha rfl, ?_⟩
    intro x y p hx' hy' hp
    unfold cv
    dsimp only
    rw [vu_at, cv_up hX (by omega) hx' hp, hc x y p hx' hy' hp]
    by_cases e : x = X ∧ y = Y ∧ p = q
    · rw [if_pos e, if_pos ⟨e.1, e.2.1, by omega⟩, e.1, e.2.1, e.2.2]
    · rw [if_neg e]
      by_cases e2 : x = X ∧ y = Y ∧ p < q
      · rw [if_pos e2, if_pos ⟨e2.1, e2.2.1, by omega⟩]
      · rw [if_neg e2, if_neg (by omega)]
        rfl
theorem q_tk60 {R50 : Int32 → ms → Prop} (hY : Y < 64) (h1 : S.1 1 = nI W) (h3 : S.1 3 = nI n) (g : gR 1 S n W H A D) (h : e_take_60 (nI Y) 0 S R50 K) :
    ∃ Z, ag [] [4] S Z ∧ (∀ x y p, x < 64 → y < 64 → p < 3 → cv Z x y p = if x < W ∧ y = Y ∧ p < n then colV (S.2.1 20) n A D x y (nI p) else cv S x y p) ∧ R50 (nI (Y + 1)) Z := by
  have gW := g.2.2.2.2.1
  refine v_e_take_60 h (fun y9 T => ∃ q, y9 = nI q ∧ q ≤ W ∧ ag [] [4] S T ∧ ∀ x y p, x < 64 → y < 64 → p < 3 → cv T x y p = if x < q ∧ y = Y ∧ p < n then colV (S.2.1 20) n A D x y (nI p) else cv S x y p) ⟨0, rfl, Nat.zero_le _, ag_refl, fun x y p _ _ _ => by rw [if_neg (by omega)]⟩ ?_
  rintro y9 T R ⟨q, rfl, hq, ha, hc⟩ hb
  unfold b_take_60 at hb
  have e1 : T.1 1 = nI W := (ha.1 1 rfl).trans h1
  by_cases hqn : q = W
  · right
    subst hqn
    refine ⟨T, ha, hc, ?_⟩
    have h := hb.1 (by rw [e1]; exact Int32.le_refl _)
    rwa [show (nI Y + 1 : Int32) = nI (Y + 1) from nI_1 Y] at h
  · left
    have hb := hb.2 (by rw [e1]; exact nI_ge (by omega) (by omega))
    obtain ⟨Z, z1, z2, h⟩ := q_tk70 (by omega) hY ((ha.1 3 rfl).trans h3) (gR_k g ha rfl rfl rfl rfl rfl) hb
    refine ⟨_, _, h, q + 1, rfl, by omega, ag_tr ha z1 rfl rfl, fun x y p hx hy hp => ?_⟩
    rw [z2 x y p hx hy hp, ha.2 20 rfl, hc x y p hx hy hp]
    by_cases e : x = q ∧ y = Y ∧ p < n
    · rw [if_pos e, if_pos ⟨by omega, e.2⟩]
    · rw [if_neg e]
      by_cases e2 : x < q ∧ y = Y ∧ p < n
      · rw [if_pos e2, if_pos ⟨by omega, e2.2⟩]
      · rw [if_neg e2, if_neg (by omega)]
theorem q_tk50 (h1 : S.1 1 = nI W) (h2 : S.1 2 = nI H) (h3 : S.1 3 = nI n) (g : gR 1 S n W H A D) (h : e_take_50 0 S K) :
    ∃ Z, ag [] [4] S Z ∧ (∀ x y p, x < 64 → y < 64 → p < 3 → cv Z x y p = if x < W ∧ y < H ∧ p < n then colV (S.2.1 20) n A D x y (nI p) else cv S x y p) ∧ K Z := by
  have gH := g.2.2.2.2.2.1
  refine v_e_take_50 h (fun y9 T => ∃ q, y9 = nI q ∧ q ≤ H ∧ ag [] [4] S T ∧ ∀ x y p, x < 64 → y < 64 → p < 3 → cv T x y p = if x < W ∧ y < q ∧ p < n then colV (S.2.1 20) n A D x y (nI p) else cv S x y p) ⟨0, rfl, Nat.zero_le _, ag_refl, fun x y p _ _ _ => by rw [if_neg (by omega)]⟩ ?_
  rintro y9 T R ⟨q, rfl, hq, ha, hc⟩ hb
  unfold b_take_50 at hb
  have e1 : T.1 2 = nI H := (ha.1 2 rfl).trans h2
  by_cases hqn : q = H
  · right
    subst hqn
    exact ⟨T, ha, hc, hb.1 (by rw [e1]; exact Int32.le_refl _)⟩
  · left
    have hb := hb.2 (by rw [e1]; exact nI_ge (by omega) (by omega))
    obtain ⟨Z, z1, z2, h⟩ := q_tk60 (by omega) ((ha.1 1 rfl).trans h1) ((ha.1 3 rfl).trans h3) (gR_k g ha rfl rfl rfl rfl rfl) hb
    refine ⟨_, _, h, q + 1, rfl, by omega, ag_tr ha z1 rfl rfl, fun x y p hx hy hp => ?_⟩
    rw [z2 x y p hx hy hp, ha.2 20 rfl, hc x y p hx hy hp]
    by_cases e : x < W ∧ y = q ∧ p < n
    · rw [if_pos e, if_pos ⟨e.1, by omega, e.2.2⟩]
    · rw [if_neg e]
      by_cases e2 : x < W ∧ y < q ∧ p < n
      · rw [if_pos e2, if_pos ⟨e2.1, by omega, e2.2.2⟩]
      · rw [if_neg e2, if_neg (by omega)]
theorem q_Btk87 {q : Nat} {R61 : Int32 → cs → Prop} {R74 : Int32 → Int32 → cs → Prop} (hu : isU u) (hp : PC a b P 0 7 = u) (hq : q < 3) (hY : Y < 64) (g : gC u F n W H A D) (h : e_B_take_87 UL 0 (nI q) (nI Y) 0 (F, L, PC a b P) R61 R74 KC T2) :
    ∃ Z, (∀ w, w ≠ 2 → Z w = F w) ∧ (∀ x y p, x < 64 → y < 64 → p < 3 → cvw Z x y p = if x < W ∧ y = Y ∧ p = q then colV (F (u + 9)) n A D x y (nI p) else cvw F x y p) ∧ R74 (nI q) (nI (Y + 1)) (Z, L, PC a b P) := by
  have u2 : ∀ k, u + k ≠ 2 := by rcases hu with rfl | rfl <;> omega
  have gW := g.2.2.2.2.2.2.1
  refine v_e_B_take_87 h (fun y9 T => ∃ j G, y9 = nI j ∧ j ≤ W ∧ T = (G, L, PC a b P) ∧ (∀ w, w ≠ 2 → G w = F w) ∧ ∀ x y p, x < 64 → y < 64 → p < 3 → cvw G x y p = if x < j ∧ y = Y ∧ p = q then colV (F (u + 9)) n A D x y (nI p) else cvw F x y p) ⟨0, F, rfl, Nat.zero_le _, rfl, fun _ _ => rfl, fun x y p _ _ _ => by rw [if_neg (by omega)]⟩ ?_
  rintro y9 T R ⟨j, G, rfl, hj, rfl, ha, hc⟩ hb
  unfold b_B_take_87 at hb
  obtain ⟨-, -, hb⟩ := hb
  dsimp only at hb
  rw [hp, ha u (u2 0), g.1] at hb
  by_cases e : j = W
  · right
    subst e
    have h := hb.1 (Int32.le_refl _)
    rw [show (nI Y + 1 : Int32) = nI (Y + 1) from nI_1 Y] at h
    exact ⟨G, ha, hc, h⟩
  · left
    obtain ⟨-, -, -, hb⟩ := hb.2 (nI_ge (by omega) (by omega))
    unfold p_B_spot at hb
    obtain ⟨-, hb⟩ := hb
    have hb := q_colour hu (gC_k g (fun k _ => by rw [ha u (u2 0)]) (ha _ (u2 1)) (ha _ (u2 2))) (by omega) hY hb
    obtain ⟨-, -, hR⟩ := hb
    dsimp only at hR
    rw [show PC a b P (PC a b P 0 0) 3 = 2 from rfl, spot_n, nI_clamp (by omega), ha _ (u2 9)] at hR
    refine ⟨_, _, hR, j + 1, _, nI_1 j, by omega, rfl, fun w hw => ?_, fun x y p hx hy hp => ?_⟩
    · rw [vu_ne hw]
      exact ha w hw
    · unfold cvw
      rw [vu_at, cvw_up (by omega) hY hx hy, hc x y p hx hy hp]
      by_cases e : x = j ∧ y = Y ∧ p = q
      · rw [if_pos e, if_pos ⟨by omega, e.2⟩, e.1, e.2.1, e.2.2]
      · rw [if_neg e]
        by_cases e2 : x < j ∧ y = Y ∧ p = q
        · rw [if_pos e2, if_pos ⟨by omega, e2.2⟩]
        · rw [if_neg e2, if_neg (by omega)]
          rfl
theorem q_Btk74 {q : Nat} {R61 : Int32 → cs → Prop} (hu : isU u) (hp : PC a b P 0 7 = u) (hq : q < 3) (g : gC u F n W H A D) (h : e_B_take_74 UL 0 (nI q) 0 (F, L, PC a b P) R61 KC T2) :
    ∃ Z, (∀ w, w ≠ 2 → Z w = F w) ∧ (∀ x y p, x < 64 → y < 64 → p < 3 → cvw Z x y p = if x < W ∧ y < H ∧ p = q then colV (F (u + 9)) n A D x y (nI p) else cvw F x y p) ∧ R61 (nI (q + 1)) (Z, L, PC a b P) := by
  have u2 : ∀ k, u + k ≠ 2 := by rcases hu with rfl | rfl <;> omega
  have gH := g.2.2.2.2.2.2.2.1
  refine v_e_B_take_74 h (fun y9 T => ∃ j G, y9 = nI j ∧ j ≤ H ∧ T = (G, L, PC a b P) ∧ (∀ w, w ≠ 2 → G w = F w) ∧ ∀ x y p, x < 64 → y < 64 → p < 3 → cvw G x y p = if x < W ∧ y < j ∧ p = q then colV (F (u + 9)) n A D x y (nI p) else cvw F x y p) ⟨0, F, rfl, Nat.zero_le _, rfl, fun _ _ => rfl, fun x y p _ _ _ => by rw [if_neg (by omega)]⟩ ?_
  rintro y9 T R ⟨j, G, rfl, hj, rfl, ha, hc⟩ hb
  unfold b_B_take_74 at hb
  obtain ⟨-, -, hb⟩ := hb
  dsimp only at hb
  rw [hp, ha u (u2 0), g.2.1] at hb
  by_cases e : j = H
  · right
    subst e
    have h := hb.1 (Int32.le_refl _)
    rw [show (nI q + 1 : Int32) = nI (q + 1) from nI_1 q] at h
    exact ⟨G, ha, hc, h⟩
  · left
    have hb := hb.2 (nI_ge (by omega) (by omega))
    obtain ⟨Z, z1, z2, h⟩ := q_Btk87 hu hp hq (by omega) (gC_k g (fun k _ => by rw [ha u (u2 0)]) (ha _ (u2 1)) (ha _ (u2 2))) hb
    refine ⟨_, _, h, j + 1, Z, rfl, by omega, rfl, fun w hw => (z1 w hw).trans (ha w hw), fun x y p hx hy hp => ?_⟩
    rw [z2 x y p hx hy hp, ha _ (u2 9), hc x y p hx hy hp]
    by_cases e : x < W ∧ y = j ∧ p = q
    · rw [if_pos e, if_pos ⟨e.1, by omega, e.2.2⟩]
    · rw [if_neg e]
      by_cases e2 : x < W ∧ y < j ∧ p = q
      · rw [if_pos e2, if_pos ⟨e2.1, by omega, e2.2.2⟩]
      · rw [if_neg e2, if_neg (by omega)]
theorem q_Btk61 (hu : isU u) (hp : PC a b P 0 7 = u) (g : gC u F n W H A D) (h : e_B_take_61 UL 0 0 (F, L, PC a b P) KC T2) :
    ∃ Z, (∀ w, w ≠ 2 → Z w = F w) ∧ (∀ x y p, x < 64 → y < 64 → p < 3 → cvw Z x y p = if x < W ∧ y < H ∧ p < n then colV (F (u + 9)) n A D x y (nI p) else cvw F x y p) ∧ KC (Z, L, PC a b P) := by
  have u2 : ∀ k, u + k ≠ 2 := by rcases hu with rfl | rfl <;> omega
  have gn := g.2.2.2.2.2.1
  refine v_e_B_take_61 h (fun y9 T => ∃ j G, y9 = nI j ∧ j ≤ n ∧ T = (G, L, PC a b P) ∧ (∀ w, w ≠ 2 → G w = F w) ∧ ∀ x y p, x < 64 → y < 64 → p < 3 → cvw G x y p = if x < W ∧ y < H ∧ p < j then colV (F (u + 9)) n A D x y (nI p) else cvw F x y p) ⟨0, F, rfl, Nat.zero_le _, rfl, fun _ _ => rfl, fun x y p _ _ _ => by rw [if_neg (by omega)]⟩ ?_
  rintro y9 T R ⟨j, G, rfl, hj, rfl, ha, hc⟩ hb
  unfold b_B_take_61 at hb
  obtain ⟨-, -, hb⟩ := hb
  dsimp only at hb
  rw [hp, ha u (u2 0), g.2.2.1] at hb
  by_cases e : j = n
  · right
    refine ⟨G, ha, ?_, ?_⟩
    · rw [e] at hc
      exact hc
    · rw [e] at hb
      exact hb.1 (Int32.le_refl _)
  · left
    have hb := hb.2 (nI_ge (by omega) (by omega))
    obtain ⟨Z, z1, z2, h⟩ := q_Btk74 hu hp (by omega) (gC_k g (fun k _ => by rw [ha u (u2 0)]) (ha _ (u2 1)) (ha _ (u2 2))) hb
    refine ⟨_, _, h, j + 1, Z, rfl, by omega, rfl, fun w hw => (z1 w hw).trans (ha w hw), fun x y p hx hy hp => ?_⟩
    rw [z2 x y p hx hy hp, ha _ (u2 9), hc x y p hx hy hp]
    by_cases e : x < W ∧ y < H ∧ p = j
    · rw [if_pos e, if_pos ⟨e.1, e.2.1, by omega⟩]
    · rw [if_neg e]
      by_cases e2 : x < W ∧ y < H ∧ p < j
      · rw [if_pos e2, if_pos ⟨e2.1, e2.2.1, by omega⟩]
      · rw [if_neg e2, if_neg (by omega)]
end TKE

/-! take whole; the picture stays -/
section TK2
variable {M S : ms} {F : cF} {L : cL} {a b : Bool} {P : Nat → Nat → Nat} {K : ms → Prop} {KC : cs → Prop} {T2 : Nat → cs → Prop} {u n W H x y X Y : Nat} {A D : Nat → Nat} {x1 x2 x3 x4 : Int32}
/-- the picture stays where its rows stay -/
theorem rPic_f {M' : ms} {F' : cF} (h : rPic u M F) (hm : ∀ r, 11 ≤ r → r ≤ 20 → M'.2.1 r = M.2.1 r) (hf : ∀ k, 1 ≤ k → k ≤ 9 → F' (u + k) = F (u + k)) (h8 : F' 8 = F 8) (h0 : ∀ k, k ≤ 17 → F' u k = F u k) : rPic u M' F' := by
  rcases h with ⟨r1, r2⟩ | ⟨n, W, H, A, D, r1, r2, g, gg, gc, gm, rB, rl, rE, rD⟩
  · exact Or.inl ⟨by rw [hm 11 (by decide) (by decide)]; exact r1, by rw [h0 17 (by decide)]; exact r2⟩
  · refine Or.inr ⟨n, W, H, A, D, by rw [hm 11 (by decide) (by decide)]; exact r1, by rw [h0 17 (by decide)]; exact r2, ?_, ?_, gC_k gc (fun k hk => h0 k (by omega)) (hf 1 (by decide) (by decide)) (hf 2 (by decide) (by decide)), gM_k gm (h0 7 (by decide)) (h0 8 (by decide)) (hf 3 (by decide) (by decide)) (hf 4 (by decide) (by decide)) (hf 5 (by decide) (by decide)) (hf 6 (by decide) (by decide)), ?_, ?_, ?_, ?_⟩
    · unfold gR
      rw [hm 12 (by decide) (by decide), hm 13 (by decide) (by decide), hm 14 (by decide) (by decide), hm 15 (by decide) (by decide), hm 16 (by decide) (by decide)]
      exact g
    · unfold gG2
      rw [hm 17 (by decide) (by decide), hm 18 (by decide) (by decide)]
      exact gg
    · rw [hf 7 (by decide) (by decide)]
      exact rB
    · rw [hf 7 (by decide) (by decide), hm 19 (by decide) (by decide)]
      exact rl
    · unfold drE tW
      rw [hf 7 (by decide) (by decide), hf 8 (by decide) (by decide), h8, hm 20 (by decide) (by decide)]
      exact rE
    · unfold drn
      rw [hf 9 (by decide) (by decide), h0 16 (by decide), hm 20 (by decide) (by decide)]
      exact rD
theorem x_take (hF : IMc F) (hu : isU u) (hp : PC a b P 0 7 = u) (hr : rPic u M F) (h1 : p_take M K) (h2 : p_B_take UL 0 (F, L, PC a b P) KC T2) :
    (∃ M' F' L', ag [0, 1, 2, 3] [4] M M' ∧ (∀ w, w ≠ 0 → w ≠ 1 → w ≠ 2 → w ≠ 9 → w ≠ 10 → w ≠ u + 9 → w ≠ u → F' w = F w) ∧ (∀ k, k ≠ 16 → F' u k = F u k) ∧ (∀ k, 3 ≤ k → F' 1 k = F 1 k) ∧ (∀ k, k < 100 → F' 0 k = F 0 k) ∧ M'.1 0 = 0 ∧ rCan M' F' ∧ rPic u M' F' ∧ K M' ∧ KC (F', L', PC a b P)) ∨ (K (upd M.1 0 1, M.2.1, M.2.2) ∧ T2 13 (F, L, PC a b P)) := by
  unfold p_take at h1
  obtain ⟨-, h1⟩ := h1
  have h1 : (M.2.1 11 1 = 0 → _) ∧ (¬ M.2.1 11 1 = 0 → _) := h1
  unfold p_B_take at h2
  obtain ⟨-, -, h2⟩ := h2
  dsimp only at h2
  rw [hp] at h2
  rcases hr with ⟨r1, r2⟩ | ⟨n, W, H, A, D, r1, r2, g, gg, gc, gm, rB, rl, rE, rD⟩
  · right
    have h1 := h1.1 r1
    unfold b_take_15 at h1
    exact ⟨h1.2 (by rw [upd_at]; decide), h2.2 r2⟩
  · left
    have h1 := h1.2 r1
    unfold b_take_15 at h1
    obtain ⟨-, -, -, h1⟩ := h1.1 (by rw [upd_at]; decide)
    obtain ⟨-, -, h2⟩ := h2.1 r2
    have h2 : p_Pi_draw UL u 7 (F, L, PC a b P) _ := h2
    have gW := g.2.2.2.2.1
    have gH := g.2.2.2.2.2.1
    have gn := g.2.2.2.1
    have hB8 : ∀ k, B (-4096) 4096 (F 8 k) := fun k => hF 8 k
    have hN : ∀ k, B (-256) 256 (F (u + 8) k) := fun k => by
      have t : B 0 255 (F (u + 8) k) := by
        rcases hu with rfl | rfl
        · exact hF 71 k
        · exact hF 113 k
      exact ⟨by have := t.1; omega, by have := t.2; omega⟩
    obtain ⟨Z, L', z1, z2, z3, z4, h2⟩ := q_draw hu gc gm rE rD hB8 rB hN h2
    have u0 : ∀ k, 1 ≤ k → k ≤ 8 → Z (u + k) = F (u + k) := fun k k1 k8 => by
      refine z1 _ ?_ ?_ (by omega) (by omega) <;> rcases hu with rfl | rfl <;> omega
    have u8 : Z 8 = F 8 := by
      refine z1 8 (by decide) (by decide) ?_ ?_ <;> rcases hu with rfl | rfl <;> decide
    have gcz : gC u Z n W H A D := gC_k gc (fun k hk => z2 k (by omega)) (u0 1 (by decide) (by decide)) (u0 2 (by decide) (by decide))
    have gmz : gM u Z n W H A D := gM_k gm (z2 7 (by decide)) (z2 8 (by decide)) (u0 3 (by decide) (by decide)) (u0 4 (by decide) (by decide)) (u0 5 (by decide) (by decide)) (u0 6 (by decide) (by decide))
    have rz : rPic u M Z := by
      refine Or.inr ⟨n, W, H, A, D, r1, by rw [z2 17 (by decide)]; exact r2, g, gg, gcz, gmz, by rw [u0 7 (by decide) (by decide)]; exact rB, by rw [u0 7 (by decide) (by decide)]; exact rl, ?_, fun _ => z4⟩
      unfold drE tW
      rw [u0 7 (by decide) (by decide), u0 8 (by decide) (by decide), u8]
      exact rE
    obtain ⟨-, -, -, -, -, -, h2⟩ := h2
    dsimp only at h2
    rw [hp, gcz.1, gcz.2.1, gcz.2.2.1] at h2
    have h2 : p_Ca_begin UL 1 (nI W) (nI H) (nI n) (Z, L', PC a b P) _ := h2
    obtain ⟨Y, y1, y2, y3, y4, y5, h2⟩ := q_Cbegin h2
    have e12 : M.2.1 12 (1 : Int32).toNatClampNeg = nI W := g.1
    have e13 : M.2.1 13 (1 : Int32).toNatClampNeg = nI H := g.2.1
    have e14 : M.2.1 14 (1 : Int32).toNatClampNeg = nI n := g.2.2.1
    rw [e12, e13, e14] at h1
    have okc : okC (nI W) (nI H) (nI n) := by
      unfold okC
      rw [nI_toInt (by omega), nI_toInt (by omega)]
      refine ⟨by omega, by omega, by omega, by omega, ?_⟩
      rcases gn with rfl | rfl
      · exact Or.inl rfl
      · exact Or.inr rfl
    rcases q_canvas h1 with ⟨-, V, v1, v2, v3, v4, v5, v6, h1⟩ | ⟨c, -⟩
    · have v1 : ag [0, 1, 2, 3] [4] M V := ag_tr (ag_f (T := (M.1, M.2.1, M.2.2)) ag_refl rfl) v1 rfl rfl
      have gV : gR 1 V n W H A D := gR_k g v1 rfl rfl rfl rfl rfl
      obtain ⟨M', m1, m2, h1⟩ := q_tk50 (S := (V.1, V.2.1, V.2.2)) v3 v4 v5 gV h1
      have m1 : ag [] [4] V M' := m1
      have yw : ∀ w, w ≠ 0 → w ≠ 1 → w ≠ 2 → Y w = Z w := fun w w0 w1 w2 => by
        cases e : OB w with
        | true =>
          refine funext fun k => y1.1 w k e ?_
          simp only [List.contains_cons, List.contains_nil, Bool.or_false, Bool.or_eq_false_iff, beq_eq_false_iff_ne]
          omega
        | false => exact y1.2 w e (by simpa using w2)
      have u12 : ∀ k, u + k ≠ 1 ∧ u + k ≠ 2 ∧ u + k ≠ 0 := by rcases hu with rfl | rfl <;> omega
      have yu : ∀ k, Y (u + k) = Z (u + k) := fun k => yw _ (u12 k).2.2 (u12 k).1 (u12 k).2.1
      have gY : gC u Y n W H A D := gC_k gcz (fun k hk => by rw [show u = u + 0 from rfl, yu 0]) (yu 1) (yu 2)
      obtain ⟨F', f1, f2, h2⟩ := q_Btk61 hu hp gY h2
      have fu : ∀ k, F' (u + k) = Z (u + k) := fun k => (f1 _ (u12 k).2.1).trans (yu k)
      have f0 : F' u = Z u := fu 0
      refine ⟨M', F', L', ag_tr v1 m1 rfl rfl, fun w w0 w1 w2 w3 w4 w5 w6 => ?_, fun k hk => by rw [f0]; exact z2 k hk, fun k hk => ?_, fun k hk => ?_, by rw [m1.1 0 rfl]; exact v2, ⟨?_, ?_, ?_, fun x y p hx hy hp' => ?_⟩, ?_, h1, h2⟩
      · rw [f1 w w2, yw w w0 w1 w2]
        exact z1 w w3 w4 w5 w6
      · rw [f1 1 (by decide), y1.1 1 k rfl (by
          simp only [List.contains_cons, List.contains_nil, Bool.or_false, Bool.or_eq_false_iff, beq_eq_false_iff_ne]
          omega), z1 1 (by decide) (by decide) (fun e => (u12 9).1 e.symm) (fun e => (u12 0).1 e.symm)]
      · rw [f1 0 (by decide), y1.1 0 k rfl (by
          simp only [List.contains_cons, List.contains_nil, Bool.or_false, Bool.or_eq_false_iff, beq_eq_false_iff_ne]
          omega), z1 0 (by decide) (by decide) (fun e => (u12 9).2.2 e.symm) (fun e => (u12 0).2.2 e.symm)]
      · rw [f1 1 (by decide), y2, m1.1 1 rfl, v3]
      · rw [f1 1 (by decide), y3, m1.1 2 rfl, v4]
      · rw [f1 1 (by decide), y4, m1.1 3 rfl, v5]
      · rw [f2 x y p hx hy hp', m2 x y p hx hy hp']
        by_cases c : x < W ∧ y < H ∧ p < n
        · rw [if_pos c, if_pos c, yu 9]
          have e20 : V.2.1 20 = M.2.1 20 := v1.2 20 rfl
          show _ = colV (V.2.1 20) n A D x y (nI p)
          rw [e20]
          refine colV_c gn (fun l hl => ?_)
          have hA : ∀ l, l < n → A l = 1 ∨ A l = 2 := fun l hl => (g.2.2.2.2.2.2 l hl).2.2.1
          have hD : ∀ l, l < n → D l = 1 ∨ D l = 2 := fun l hl => (g.2.2.2.2.2.2 l hl).2.2.2
          have b1 := lsx_lt (x := x) (W := W) hl hA c.1 gW.2
          have b2 := lsx_lt (x := y) (W := H) hl hD c.2.1 gH.2
          unfold sV
          refine z4 l _ hl (by omega) ?_ ?_
          · rw [show (4096 * l + 64 * lsx D n l y + lsx A n l x) / 64 % 64 = lsx D n l y by omega]; exact b2.1
          · rw [show (4096 * l + 64 * lsx D n l y + lsx A n l x) % 64 = lsx A n l x by omega]; exact b1.1
        · rw [if_neg c, if_neg c]
          show Y 2 _ = V.2.1 4 _
          rw [y5 _ (by omega), v6 _ (by omega)]
      · refine rPic_f rz (fun r r1 r2 => ?_) (fun k _ _ => fu k) (by rw [f1 8 (by decide), yw 8 (by decide) (by decide) (by decide)]) (fun k _ => by rw [f0])
        rw [m1.2 r (by simp only [List.contains_cons, List.contains_nil, Bool.or_false, beq_eq_false_iff_ne]; omega), v1.2 r (by simp only [List.contains_cons, List.contains_nil, Bool.or_false, beq_eq_false_iff_ne]; omega)]
    · exact absurd okc c
end TK2

/-! become against handOver -/
section BC2
variable {M : ms} {F : cF} {K1 : Int32 → ms → Prop} {u : Nat}
theorem x_become (hu : isU u) (ho : od M) (h23 : ∀ k, k < 64 → M.2.1 23 k = tW F k) (hr : rd M F) (hU : urR u M F) (h43 : M.1 43 = 1) (hs : ∀ l n, M.2.1 14 2 = nI n → n ≤ 3 → l < n → ¬ M.2.1 47 l = 0) (h1 : b_unpack_137 M K1) :
    ∃ Z, ag [] [11, 12, 13, 14, 15, 16, 17, 18, 19, 20, 25] M Z ∧ bcK M Z ∧ K1 0 Z ∧ rPic u Z (va_up F u (upd (F u) 17 1)) := by
  obtain ⟨-, -, -, hU⟩ := hU
  rcases hU with ⟨q, -, -⟩ | ⟨n, W, H, A, D, tt, -, -, g, gg, gc, gm, fN, rL, f16, sc⟩
  · rw [h43] at q
    exact absurd q (by decide)
  · unfold b_unpack_137 at h1
    have h1 := h1.2 hr.1
    obtain ⟨Z, z1, z2, z3, z4, z5, z6, z7, h1⟩ := q_become ho g h1
    have h1 : K1 (Z.1 35) Z := h1
    rw [z1.1 35 rfl, hr.1] at h1
    have un : ∀ k, 1 ≤ k → va_up F u (upd (F u) 17 1) (u + k) = F (u + k) := fun k hk => vu_ne (by omega)
    have u8 : va_up F u (upd (F u) 17 1) 8 = F 8 := by
      refine vu_ne ?_
      rcases hu with rfl | rfl <;> decide
    have uk : ∀ k, k ≠ 17 → va_up F u (upd (F u) 17 1) u k = F u k := fun k hk => by rw [vu_at, upd_ne hk]
    have n3 := g.n3
    have w1 : ∀ l, l < n → 1 ≤ gwd n W A l ∧ gwd n W A l ≤ 8 := fun l hl => gwd_b g.2.2.2.2.1 hl (fun l hl => (g.2.2.2.2.2.2 l hl).2.2.1)
    have w2 : ∀ l, l < n → 1 ≤ gwd n H D l ∧ gwd n H D l ≤ 8 := fun l hl => gwd_b g.2.2.2.2.2.1 hl (fun l hl => (g.2.2.2.2.2.2 l hl).2.2.2)
    refine ⟨Z, z1, z2, h1, Or.inr ⟨n, W, H, A, D, by rw [z3]; decide, by rw [vu_at, upd_at]; decide, z4, z5, gC_k gc (fun k hk => uk k (by omega)) (un 1 (by decide)) (un 2 (by decide)), gM_k gm (uk 7 (by decide)) (uk 8 (by decide)) (un 3 (by decide)) (un 4 (by decide)) (un 5 (by decide)) (un 6 (by decide)), ?_, ?_, ?_, ?_⟩⟩
    · rw [un 7 (by decide)]
      intro k hk
      rw [(rL k hk).1]
      exact (rL k hk).2
    · rw [un 7 (by decide)]
      intro l b k hl hb hk
      have b64 : gwd n W A l * gwd n H D l ≤ 64 := Nat.mul_le_mul (w1 l hl).2 (w2 l hl).2
      rw [(rL _ (by omega)).1, z6 l b k hl hb hk, show 24576 + (4096 * l + 64 * b + k) = 24576 + 64 * (64 * l + b) + k by omega]
    · unfold drE tW
      rw [un 7 (by decide), un 8 (by decide), u8]
      intro l vy vx w hl hx hy hw p p1 p2 p3
      have a1 := w1 l hl
      have a2 := w2 l hl
      have hb : vy * gwd n W A l + vx < gwd n W A l * gwd n H D l := by
        have t : (vy + 1) * gwd n W A l ≤ gwd n H D l * gwd n W A l := Nat.mul_le_mul_right _ hy
        rw [Nat.mul_comm (gwd n H D l), Nat.succ_mul] at t
        omega
      have b64 : gwd n W A l * gwd n H D l ≤ 64 := Nat.mul_le_mul a1.2 a2.2
      have bd : (vy * gwd n W A l + vx) / gwd n W A l = vy := by
        rw [Nat.mul_comm, Nat.mul_add_div (by omega), Nat.div_eq_of_lt hx, Nat.add_zero]
      have bm : (vy * gwd n W A l + vx) % gwd n W A l = vx := by
        rw [Nat.mul_comm, Nat.mul_add_mod, Nat.mod_eq_of_lt hx]
      obtain ⟨w0, s1, s2⟩ := z7 l _ hl hb
      have i6 : 8 * (p / 64 % 8) + p % 8 < 64 := by omega
      have t := s2 _ i6
      unfold pos at t
      have ep : 64 * (64 * l + 8 * vy + (8 * (p / 64 % 8) + p % 8) / 8) + 8 * vx + (8 * (p / 64 % 8) + p % 8) % 8 = p := by
        rw [show (8 * (p / 64 % 8) + p % 8) / 8 = p / 64 % 8 by omega, show (8 * (p / 64 % 8) + p % 8) % 8 = p % 8 by omega]
        have := pt_0 p1 p2 p3
        omega
      rw [bd, bm, ep] at t
      rw [t]
      refine blk_c i6 h23 (fun k hk => ?_)
      obtain ⟨j, hj, rfl⟩ := sl_sur hk
      rw [hw j hj, s1 j hj, (rL _ (by omega)).1, ((sc l hl).2 (hs l n g.2.2.1 n3 hl)) j hj]
      congr 2
      omega
    · intro q
      rw [uk 16 (by decide), f16] at q
      exact absurd rfl q
end BC2

/-! the shown picture and the packed levels stay where a row could not be read -/
section KP
variable {S M V : ms} {F F' : cF} {u q n W H : Nat} {A D : Nat → Nat}
theorem gR_kp (hq : q < 2) (g : gR q S n W H A D) (h : kp S M) : gR q M n W H A D := by
  have n3 := g.n3
  refine ⟨?_, ?_, ?_, g.2.2.2.1, g.2.2.2.2.1, g.2.2.2.2.2.1, fun l hl => ?_⟩
  · rw [h.2.2.1 12 q (by omega) (by omega)]; exact g.1
  · rw [h.2.2.1 13 q (by omega) (by omega)]; exact g.2.1
  · rw [h.2.2.1 14 q (by omega) (by omega)]; exact g.2.2.1
  · rw [h.2.2.2.1 15 (3 * q + l) (by omega) (by omega), h.2.2.2.1 16 (3 * q + l) (by omega) (by omega)]
    exact g.2.2.2.2.2.2 l hl
theorem gG2_kp (hq : q < 2) (hn : n ≤ 3) (g : gG2 q S n W H A D) (h : kp S M) : gG2 q M n W H A D := by
  intro l hl
  rw [h.2.2.2.1 17 (3 * q + l) (by omega) (by omega), h.2.2.2.1 18 (3 * q + l) (by omega) (by omega)]
  exact g l hl
/-- what is left of the shown picture alone -/
def kq (S M : ms) : Prop := M.2.1 20 = S.2.1 20 ∧ (∀ r, r = 11 ∨ r = 12 ∨ r = 13 ∨ r = 14 → M.2.1 r 1 = S.2.1 r 1) ∧ (∀ r k, r = 15 ∨ r = 16 ∨ r = 17 ∨ r = 18 → 3 ≤ k → k < 6 → M.2.1 r k = S.2.1 r k) ∧ ∀ k, 12288 ≤ k → k < 24576 → M.2.1 19 k = S.2.1 19 k
theorem kq_kp (h : kp S M) : kq S M := by
  refine ⟨h.2.1, fun r hr => ?_, fun r k hr _ hk => h.2.2.2.1 r k hr hk, fun k _ hk => h.2.2.2.2 k hk⟩
  rcases hr with rfl | hr
  · rw [h.1]
  · exact h.2.2.1 r 1 hr (by decide)
theorem gR_kq (g : gR 1 S n W H A D) (h : kq S M) : gR 1 M n W H A D := by
  have n3 := g.n3
  refine ⟨?_, ?_, ?_, g.2.2.2.1, g.2.2.2.2.1, g.2.2.2.2.2.1, fun l hl => ?_⟩
  · rw [h.2.1 12 (by omega)]; exact g.1
  · rw [h.2.1 13 (by omega)]; exact g.2.1
  · rw [h.2.1 14 (by omega)]; exact g.2.2.1
  · rw [h.2.2.1 15 (3 * 1 + l) (by omega) (by omega) (by omega), h.2.2.1 16 (3 * 1 + l) (by omega) (by omega) (by omega)]
    exact g.2.2.2.2.2.2 l hl
theorem gG2_kq (hn : n ≤ 3) (g : gG2 1 S n W H A D) (h : kq S M) : gG2 1 M n W H A D := by
  intro l hl
  rw [h.2.2.1 17 (3 * 1 + l) (by omega) (by omega) (by omega), h.2.2.1 18 (3 * 1 + l) (by omega) (by omega) (by omega)]
  exact g l hl
theorem rPic_kq (h : rPic u S F) (hk : kq S M) (hf : ∀ k, 1 ≤ k → k ≤ 9 → F' (u + k) = F (u + k)) (h8 : F' 8 = F 8) (h0 : ∀ k, k ≤ 17 → F' u k = F u k) : rPic u M F' := by
  rcases h with ⟨r1, r2⟩ | ⟨n, W, H, A, D, r1, r2, g, gg, gc, gm, rB, rl, rE, rD⟩
  · exact Or.inl ⟨by rw [hk.2.1 11 (by omega)]; exact r1, by rw [h0 17 (by decide)]; exact r2⟩
  · have n3 := g.n3
    have w1 : ∀ l, l < n → 1 ≤ gwd n W A l ∧ gwd n W A l ≤ 8 := fun l hl => gwd_b g.2.2.2.2.1 hl (fun l hl => (g.2.2.2.2.2.2 l hl).2.2.1)
    have w2 : ∀ l, l < n → 1 ≤ gwd n H D l ∧ gwd n H D l ≤ 8 := fun l hl => gwd_b g.2.2.2.2.2.1 hl (fun l hl => (g.2.2.2.2.2.2 l hl).2.2.2)
    refine Or.inr ⟨n, W, H, A, D, by rw [hk.2.1 11 (by omega)]; exact r1, by rw [h0 17 (by decide)]; exact r2, gR_kq g hk, gG2_kq n3 gg hk, gC_k gc (fun k hk => h0 k (by omega)) (hf 1 (by decide) (by decide)) (hf 2 (by decide) (by decide)), gM_k gm (h0 7 (by decide)) (h0 8 (by decide)) (hf 3 (by decide) (by decide)) (hf 4 (by decide) (by decide)) (hf 5 (by decide) (by decide)) (hf 6 (by decide) (by decide)), ?_, ?_, ?_, ?_⟩
    · rw [hf 7 (by decide) (by decide)]
      exact rB
    · rw [hf 7 (by decide) (by decide)]
      intro l b k hl hb hk2
      have b64 : gwd n W A l * gwd n H D l ≤ 64 := Nat.mul_le_mul (w1 l hl).2 (w2 l hl).2
      rw [hk.2.2.2 _ (by omega) (by omega)]
      exact rl l b k hl hb hk2
    · unfold drE tW
      rw [hf 7 (by decide) (by decide), hf 8 (by decide) (by decide), h8, hk.1]
      exact rE
    · unfold drn
      rw [hf 9 (by decide) (by decide), h0 16 (by decide), hk.1]
      exact rD
/-- the shown picture stays where reading failed -/
theorem rPic_kp (h : rPic u S F) (hk : kp S M) (hf : ∀ k, 1 ≤ k → k ≤ 9 → F' (u + k) = F (u + k)) (h8 : F' 8 = F 8) (h0 : ∀ k, k ≤ 17 → F' u k = F u k) : rPic u M F' := rPic_kq h (kq_kp hk) hf h8 h0
/-- the packed levels stay where only reading went on -/
theorem rLv_kp (h : rLvq 0 12 S F) (hk : kp S M) (hf : ∀ k, 1 ≤ k → k ≤ 7 → F' (12 + k) = F (12 + k)) (h0 : ∀ k, k ≤ 17 → F' 12 k = F 12 k) : rLvq 0 12 M F' := by
  rcases h with ⟨r1, r2⟩ | ⟨n, W, H, A, D, r1, r2, g, gg, gc, gm, rl⟩
  · exact Or.inl ⟨by rw [hk.1]; exact r1, by rw [h0 17 (by decide)]; exact r2⟩
  · have n3 := g.n3
    have w1 : ∀ l, l < n → 1 ≤ gwd n W A l ∧ gwd n W A l ≤ 8 := fun l hl => gwd_b g.2.2.2.2.1 hl (fun l hl => (g.2.2.2.2.2.2 l hl).2.2.1)
    have w2 : ∀ l, l < n → 1 ≤ gwd n H D l ∧ gwd n H D l ≤ 8 := fun l hl => gwd_b g.2.2.2.2.2.1 hl (fun l hl => (g.2.2.2.2.2.2 l hl).2.2.2)
    refine Or.inr ⟨n, W, H, A, D, by rw [hk.1]; exact r1, by rw [h0 17 (by decide)]; exact r2, gR_kp (by decide) g hk, gG2_kp (by decide) n3 gg hk, gC_k gc (fun k hk => h0 k (by omega)) (hf 1 (by decide) (by decide)) (hf 2 (by decide) (by decide)), gM_k gm (h0 7 (by decide)) (h0 8 (by decide)) (hf 3 (by decide) (by decide)) (hf 4 (by decide) (by decide)) (hf 5 (by decide) (by decide)) (hf 6 (by decide) (by decide)), ?_⟩
    rw [hf 7 (by decide) (by decide)]
    intro l b k hl hb hk2
    have b64 : gwd n W A l * gwd n H D l ≤ 64 := Nat.mul_le_mul (w1 l hl).2 (w2 l hl).2
    rw [hk.2.2.2.2 _ (by omega)]
    exact rl l b k hl hb hk2
end KP

/-! WHAT HOLDS BETWEEN CALLS, of both sides -/
/-- constants and places that every call leaves as it found them -/
def cst (M : ms) (F : cF) : Prop := (∀ k, k < 64 → M.2.1 22 k = nI (sl k)) ∧ (∀ k, k < 64 → M.2.1 23 k = tW F k) ∧ F 4 11 = 0 ∧ (∀ k, k < 514 → F 29 k = 0) ∧ ∀ j, 1028 ≤ j → M.2.1 26 j = 0
/-- u: the unit of the picture that is shown -/
def RL (u : Nat) (M : ms) (F : cF) : Prop := rCan M F ∧ rTab M F ∧ rTape M F ∧ rOut M F ∧ cst M F ∧ rLvq 0 12 M F ∧ rPic u M F
section RLF
variable {M M' : ms} {F F' : cF} {u : Nat}
theorem rCan_k (h : rCan M F) (h1 : M'.1 1 = M.1 1) (h2 : M'.1 2 = M.1 2) (h3 : M'.1 3 = M.1 3) (h4 : M'.2.1 4 = M.2.1 4) (f0 : F' 1 0 = F 1 0) (f1 : F' 1 1 = F 1 1) (f2 : F' 1 2 = F 1 2) (f : F' 2 = F 2) : rCan M' F' := by
  unfold rCan cvw cv
  rw [h1, h2, h3, h4, f0, f1, f2, f]
  exact h
theorem rTab_k (h : rTab M F) (h5 : M'.2.1 5 = M.2.1 5) (f : F' 3 = F 3) : rTab M' F' := by
  unfold rTab
  rw [h5, f]
  exact h
theorem rTape_k (h : rTape M F) (h7 : M'.1 7 = M.1 7) (h6 : M'.2.1 6 = M.2.1 6) (f : F' 61 1 = F 61 1) (g : F' 62 = F 62) : rTape M' F' := by
  unfold rTape
  rw [h7, h6, f, g]
  exact h
theorem rOut_ff (h : rOut M F) (h9 : M'.1 9 = M.1 9) (h8 : M'.2.1 8 = M.2.1 8) (f : F' 5 1 = F 5 1) (g : F' 6 = F 6) : rOut M' F' := by
  unfold rOut
  rw [h9, h8, f, g]
  exact h
theorem cst_k (h : cst M F) (h22 : M'.2.1 22 = M.2.1 22) (h23 : M'.2.1 23 = M.2.1 23) (h26 : M'.2.1 26 = M.2.1 26) (f8 : F' 8 = F 8) (f4 : F' 4 11 = F 4 11) (f29 : F' 29 = F 29) : cst M' F' := by
  unfold cst tW
  rw [h22, h23, h26, f8, f4, f29]
  exact h
/-- everything stays -/
theorem RL_0 (h : RL u M F) {x : Int32} : RL u (upd M.1 0 x, M.2.1, M.2.2) F := h
theorem isU_ob (hu : isU u) : OB u = true := by rcases hu with rfl | rfl <;> rfl
theorem isU_row (hu : isU u) {k : Nat} (h1 : 1 ≤ k) (h9 : k ≤ 9) : OB (u + k) = false := by
  have q : k = 1 ∨ k = 2 ∨ k = 3 ∨ k = 4 ∨ k = 5 ∨ k = 6 ∨ k = 7 ∨ k = 8 ∨ k = 9 := by omega
  rcases hu with rfl | rfl <;> rcases q with rfl | rfl | rfl | rfl | rfl | rfl | rfl | rfl | rfl <;> rfl
theorem p12_row {k : Nat} (h1 : 1 ≤ k) (h9 : k ≤ 9) : OB (12 + k) = false := by
  have q : k = 1 ∨ k = 2 ∨ k = 3 ∨ k = 4 ∨ k = 5 ∨ k = 6 ∨ k = 7 ∨ k = 8 ∨ k = 9 := by omega
  rcases q with rfl | rfl | rfl | rfl | rfl | rfl | rfl | rfl | rfl <;> rfl
/-- calls that change canvas, tables or tape alone -/
theorem RL_ag (hu : isU u) (h : RL u M F) (ha : ag [0, 1, 2, 3, 7] [4, 5, 6] M M') (hg : agc [100, 101, 102, 6101] [2, 3, 62] F F') (c1 : rCan M' F') (c2 : rTab M' F') (c3 : rTape M' F') : RL u M' F' := by
  obtain ⟨-, -, -, h4, h5, h6, h7⟩ := h
  have row : ∀ w, OB w = false → w ≠ 2 → w ≠ 3 → w ≠ 62 → F' w = F w := fun w o n1 n2 n3 => hg.2 w o (by simp only [List.contains_cons, List.contains_nil, Bool.or_false, Bool.or_eq_false_iff, beq_eq_false_iff_ne]; exact ⟨n1, n2, n3⟩)
  have ob : ∀ w k, OB w = true → w ≠ 1 → w ≠ 61 → w ≠ 0 → k < 100 → F' w k = F w k := fun w k o n1 n2 n3 hk => hg.1 w k o (by simp only [List.contains_cons, List.contains_nil, Bool.or_false, Bool.or_eq_false_iff, beq_eq_false_iff_ne]; omega)
  have rM : rk M M' := fun q q1 q2 => ha.2 q (by simp only [List.contains_cons, List.contains_nil, Bool.or_false, Bool.or_eq_false_iff, beq_eq_false_iff_ne]; omega)
  refine ⟨c1, c2, c3, rOut_ff h4 (ha.1 9 rfl) (ha.2 8 rfl) (hg.1 5 1 rfl rfl) (row 6 rfl (by decide) (by decide) (by decide)), cst_k h5 (ha.2 22 rfl) (ha.2 23 rfl) (ha.2 26 rfl) (row 8 rfl (by decide) (by decide) (by decide)) (hg.1 4 11 rfl rfl) (row 29 rfl (by decide) (by decide) (by decide)), rLv_kp h6 (kp_rk rM) (fun k k1 k7 => row _ (p12_row k1 (by omega)) (by omega) (by omega) (by omega)) (fun k hk => ob 12 k rfl (by decide) (by decide) (by decide) (by omega)), rPic_kp h7 (kp_rk rM) (fun k k1 k9 => row _ (isU_row hu k1 k9) ?_ ?_ ?_) (row 8 rfl (by decide) (by decide) (by decide)) (fun k hk => ob u k (isU_ob hu) ?_ ?_ ?_ (by omega))⟩
  all_goals rcases hu with rfl | rfl <;> omega
theorem ag_w {fs rs fs' rs' : List Nat} (h : ag fs rs M M') (h1 : (fs.all (fun k => fs'.contains k)) = true) (h2 : (rs.all (fun k => rs'.contains k)) = true) : ag fs' rs' M M' := ag_tr (ag_refl (fs := fs') (rs := rs')) h h1 h2
theorem agc_w {fs rs fs' rs' : List Nat} (h : agc fs rs F F') (h1 : (fs.all (fun k => fs'.contains k)) = true) (h2 : (rs.all (fun k => rs'.contains k)) = true) : agc fs' rs' F F' := agc_tr (agc_refl (fs := fs') (rs := rs')) h h1 h2
theorem RL_can (hu : isU u) (h : RL u M F) (ha : ag [0, 1, 2, 3] [4] M M') (hg : agc [100, 101, 102] [2] F F') (c1 : rCan M' F') : RL u M' F' :=
  RL_ag hu h (ag_w ha rfl rfl) (agc_w hg rfl rfl) c1 (rTab_k h.2.1 (ha.2 5 rfl) (hg.2 3 rfl rfl)) (rTape_k h.2.2.1 (ha.1 7 rfl) (ha.2 6 rfl) (hg.1 61 1 rfl rfl) (hg.2 62 rfl rfl))
theorem RL_tab (hu : isU u) (h : RL u M F) (ha : ag [0] [5] M M') (hg : agc [] [3] F F') (c : rTab M' F') : RL u M' F' :=
  RL_ag hu h (ag_w ha rfl rfl) (agc_w hg rfl rfl) (rCan_k h.1 (ha.1 1 rfl) (ha.1 2 rfl) (ha.1 3 rfl) (ha.2 4 rfl) (hg.1 1 0 rfl rfl) (hg.1 1 1 rfl rfl) (hg.1 1 2 rfl rfl) (hg.2 2 rfl rfl)) c (rTape_k h.2.2.1 (ha.1 7 rfl) (ha.2 6 rfl) (hg.1 61 1 rfl rfl) (hg.2 62 rfl rfl))
theorem RL_tape (hu : isU u) (h : RL u M F) (ha : ag [0, 7] [6] M M') (hg : agc [6101] [62] F F') (c : rTape M' F') : RL u M' F' :=
  RL_ag hu h (ag_w ha rfl rfl) (agc_w hg rfl rfl) (rCan_k h.1 (ha.1 1 rfl) (ha.1 2 rfl) (ha.1 3 rfl) (ha.2 4 rfl) (hg.1 1 0 rfl rfl) (hg.1 1 1 rfl rfl) (hg.1 1 2 rfl rfl) (hg.2 2 rfl rfl)) (rTab_k h.2.1 (ha.2 5 rfl) (hg.2 3 rfl rfl)) c
/-- sample and take: what is drawn -/
theorem RL_dr (hu : isU u) (h : RL u M F) (hz : ∀ w, w ≠ 9 → w ≠ 10 → w ≠ u + 9 → w ≠ u → F' w = F w) (hp : rPic u M F') : RL u M F' := by
  obtain ⟨h1, h2, h3, h4, h5, h6, -⟩ := h
  have e : ∀ w, w < 60 → w ≠ 9 → w ≠ 10 → F' w = F w := fun w hw n1 n2 => hz w n1 n2 (by rcases hu with rfl | rfl <;> omega) (by rcases hu with rfl | rfl <;> omega)
  have e61 : F' 61 = F 61 := hz 61 (by decide) (by decide) (by rcases hu with rfl | rfl <;> decide) (by rcases hu with rfl | rfl <;> decide)
  have e62 : F' 62 = F 62 := hz 62 (by decide) (by decide) (by rcases hu with rfl | rfl <;> decide) (by rcases hu with rfl | rfl <;> decide)
  exact ⟨rCan_k h1 rfl rfl rfl rfl (by rw [e 1 (by decide) (by decide) (by decide)]) (by rw [e 1 (by decide) (by decide) (by decide)]) (by rw [e 1 (by decide) (by decide) (by decide)]) (e 2 (by decide) (by decide) (by decide)), rTab_k h2 rfl (e 3 (by decide) (by decide) (by decide)), rTape_k h3 rfl rfl (by rw [e61]) e62, rOut_ff h4 rfl rfl (by rw [e 5 (by decide) (by decide) (by decide)]) (e 6 (by decide) (by decide) (by decide)), cst_k h5 rfl rfl rfl (e 8 (by decide) (by decide) (by decide)) (by rw [e 4 (by decide) (by decide) (by decide)]) (e 29 (by decide) (by decide) (by decide)), rLv_kp h6 kp_refl (fun k k1 k7 => e _ (by omega) (by omega) (by omega)) (fun k _ => by rw [e 12 (by decide) (by decide) (by decide)]), hp⟩
theorem RL_take (hu : isU u) (h : RL u M F) (ha : ag [0, 1, 2, 3] [4] M M') (hz : ∀ w, w ≠ 0 → w ≠ 1 → w ≠ 2 → w ≠ 9 → w ≠ 10 → w ≠ u + 9 → w ≠ u → F' w = F w) (hc : rCan M' F') (hp : rPic u M' F') : RL u M' F' := by
  obtain ⟨h1, h2, h3, h4, h5, h6, -⟩ := h
  have e : ∀ w, 3 ≤ w → w < 60 → w ≠ 9 → w ≠ 10 → F' w = F w := fun w w3 hw n1 n2 => hz w (by omega) (by omega) (by omega) n1 n2 (by rcases hu with rfl | rfl <;> omega) (by rcases hu with rfl | rfl <;> omega)
  have e61 : F' 61 = F 61 := hz 61 (by decide) (by decide) (by decide) (by decide) (by decide) (by rcases hu with rfl | rfl <;> decide) (by rcases hu with rfl | rfl <;> decide)
  have e62 : F' 62 = F 62 := hz 62 (by decide) (by decide) (by decide) (by decide) (by decide) (by rcases hu with rfl | rfl <;> decide) (by rcases hu with rfl | rfl <;> decide)
  have rM : rk M M' := fun q q1 q2 => ha.2 q (by simp only [List.contains_cons, List.contains_nil, Bool.or_false, Bool.or_eq_false_iff, beq_eq_false_iff_ne]; omega)
  exact ⟨hc, rTab_k h2 (ha.2 5 rfl) (e 3 (by decide) (by decide) (by decide) (by decide)), rTape_k h3 (ha.1 7 rfl) (ha.2 6 rfl) (by rw [e61]) e62, rOut_ff h4 (ha.1 9 rfl) (ha.2 8 rfl) (by rw [e 5 (by decide) (by decide) (by decide) (by decide)]) (e 6 (by decide) (by decide) (by decide) (by decide)), cst_k h5 (ha.2 22 rfl) (ha.2 23 rfl) (ha.2 26 rfl) (e 8 (by decide) (by decide) (by decide) (by decide)) (by rw [e 4 (by decide) (by decide) (by decide) (by decide)]) (e 29 (by decide) (by decide) (by decide) (by decide)), rLv_kp h6 (kp_rk rM) (fun k k1 k7 => e _ (by omega) (by omega) (by omega) (by omega)) (fun k _ => by rw [e 12 (by decide) (by decide) (by decide) (by decide)]), hp⟩
/-- pack -/
theorem RL_pack {n W H : Nat} {A D : Nat → Nat} (hu : isU u) (h : RL u M F) (o : pkO n W H A D M F M' F') : RL u M' F' := by
  obtain ⟨h1, h2, h3, h4, h5, h6, h7⟩ := h
  obtain ⟨o1, o2, ha, o4, g, gg, o7, o8, o9, o10, fr, o12, f411, f29, gc, gm, f16, f17, rl⟩ := o
  have row : ∀ w, OB w = false → ¬ (4 ≤ w ∧ w ≤ 6) → w ≠ 9 → w ≠ 10 → ¬ (12 ≤ w ∧ w ≤ 58) → F' w = F w := fun w o n1 n2 n3 n4 => funext fun k => fr w k n1 n2 n3 n4 (fun q => absurd (o.symm.trans q) (by decide))
  have ob : ∀ w k, k < 100 → ¬ (4 ≤ w ∧ w ≤ 6) → w ≠ 9 → w ≠ 10 → ¬ (12 ≤ w ∧ w ≤ 58) → F' w k = F w k := fun w k hk n1 n2 n3 n4 => fr w k n1 n2 n3 n4 (fun _ => hk)
  have w1 : ∀ l, l < n → 1 ≤ gwd n W A l ∧ gwd n W A l ≤ 8 := fun l hl => gwd_b g.2.2.2.2.1 hl (fun l hl => (g.2.2.2.2.2.2 l hl).2.2.1)
  have w2 : ∀ l, l < n → 1 ≤ gwd n H D l ∧ gwd n H D l ≤ 8 := fun l hl => gwd_b g.2.2.2.2.2.1 hl (fun l hl => (g.2.2.2.2.2.2 l hl).2.2.2)
  have n3 := g.n3
  refine ⟨rCan_k h1 (ha.1 1 rfl) (ha.1 2 rfl) (ha.1 3 rfl) (ha.2 4 rfl) (ob 1 0 (by decide) (by decide) (by decide) (by decide) (by decide)) (ob 1 1 (by decide) (by decide) (by decide) (by decide) (by decide)) (ob 1 2 (by decide) (by decide) (by decide) (by decide) (by decide)) (row 2 rfl (by decide) (by decide) (by decide) (by decide)), rTab_k h2 (ha.2 5 rfl) (row 3 rfl (by decide) (by decide) (by decide) (by decide)), rTape_k h3 (ha.1 7 rfl) (ha.2 6 rfl) (ob 61 1 (by decide) (by decide) (by decide) (by decide) (by decide)) (row 62 rfl (by decide) (by decide) (by decide) (by decide)), o1, ⟨?_, ?_, f411, f29, o10⟩, Or.inr ⟨n, W, H, A, D, by rw [o4]; decide, by rw [f17]; decide, g, gg, gc, gm, fun l b k hl hb hk => ?_⟩, ?_⟩
  · rw [ha.2 22 rfl]
    exact h5.1
  · unfold tW
    rw [ha.2 23 rfl, row 8 rfl (by decide) (by decide) (by decide) (by decide)]
    exact h5.2.1
  · have b64 : gwd n W A l * gwd n H D l ≤ 64 := Nat.mul_le_mul (w1 l hl).2 (w2 l hl).2
    show F' 19 _ = _
    rw [rl _ (by omega), show 12288 * 0 + 64 * (64 * l + b) + k = 4096 * l + 64 * b + k by omega]
  · refine rPic_kq h7 ⟨ha.2 20 rfl, fun r hr => o7 r 1 hr (by decide), fun r k hr k3 _ => o8 r k hr k3, fun k k1 _ => o9 k k1⟩ (fun k k1 k9 => row _ (isU_row hu k1 k9) ?_ ?_ ?_ ?_) (row 8 rfl (by decide) (by decide) (by decide) (by decide)) (fun k hk => ob u k (by omega) ?_ ?_ ?_ ?_)
    all_goals rcases hu with rfl | rfl <;> omega
end RLF

/-! UNPACK, both sides -/
/-- the unit that is shown, and the one that is being made -/
def sU (a : Bool) : Nat := cond a 63 105
def mU (a : Bool) : Nat := cond a 105 63
theorem sU_is (a : Bool) : isU (sU a) := by cases a <;> simp [sU, isU]
theorem mU_is (a : Bool) : isU (mU a) := by cases a <;> simp [mU, isU]
/-- what unpack may change on the class's side -/
def fsK (a : Bool) : List Nat := [8, 5906, 5911, 5912, 5913, 6001, 6002, 6003, 6004, 6005, 6006, 6007, 7300, 7304, 7305, 7306, 8100, 8105, 8600, 8605, 9100, 9105, 9600, 9605] ++ cond a [10500, 10501, 10502, 10505, 10506, 10507, 10508, 10516, 10517] [6300, 6301, 6302, 6305, 6306, 6307, 6308, 6316, 6317]
def rsK (a : Bool) : List Nat := [74, 75, 76, 77, 78, 79, 82, 83, 84, 85, 87, 88, 89, 90, 92, 93, 94, 95, 97, 98, 99, 100, 101, 102, 103, 104, 999] ++ cond a [106, 107, 108, 109, 110, 111, 112, 113] [64, 65, 66, 67, 68, 69, 70, 71]
/-- .. and on the reference's -/
def fsM : List Nat := [0, 10, 34, 35, 36, 37, 43, 48, 49, 54, 55, 56, 57]
def rsM : List Nat := [11, 12, 13, 14, 15, 16, 17, 18, 19, 20, 25, 38, 39, 40, 41, 42, 44, 45, 46, 47, 50, 51, 52, 53, 999]
section UNP
variable {M S : ms} {F F' : cF} {L : cL} {a b : Bool} {P : Nat → Nat → Nat} {K1 : Int32 → ms → Prop} {K2 : Int32 → cs → Prop} {u : Nat}
/-- the packed levels alone -/
def kz (S M : ms) : Prop := (∀ r, r = 11 ∨ r = 12 ∨ r = 13 ∨ r = 14 → M.2.1 r 0 = S.2.1 r 0) ∧ (∀ r k, r = 15 ∨ r = 16 ∨ r = 17 ∨ r = 18 → k < 3 → M.2.1 r k = S.2.1 r k) ∧ ∀ k, k < 12288 → M.2.1 19 k = S.2.1 19 k
theorem kz_kp (h : kp S M) : kz S M := by
  refine ⟨fun r hr => ?_, fun r k hr hk => h.2.2.2.1 r k hr (by omega), fun k hk => h.2.2.2.2 k (by omega)⟩
  rcases hr with rfl | hr
  · rw [h.1]
  · exact h.2.2.1 r 0 hr (by decide)
theorem kz_bc {Z : ms} (h : kp S M) (hb : bcK M Z) : kz S Z := by
  obtain ⟨a1, a2, a3⟩ := kz_kp h
  exact ⟨fun r hr => (hb.1 r 0 hr (by decide)).trans (a1 r hr), fun r k hr hk => (hb.2.1 r k hr (by omega)).trans (a2 r k hr hk), fun k hk => (hb.2.2 k (by omega)).trans (a3 k hk)⟩
theorem rLv_kz (h : rLvq 0 12 S F) (hk : kz S M) (hf : ∀ k, 1 ≤ k → k ≤ 7 → F' (12 + k) = F (12 + k)) (h0 : ∀ k, k ≤ 17 → F' 12 k = F 12 k) : rLvq 0 12 M F' := by
  rcases h with ⟨r1, r2⟩ | ⟨n, W, H, A, D, r1, r2, g, gg, gc, gm, rl⟩
  · exact Or.inl ⟨by rw [hk.1 11 (by omega)]; exact r1, by rw [h0 17 (by decide)]; exact r2⟩
  · have n3 := g.n3
    have w1 : ∀ l, l < n → 1 ≤ gwd n W A l ∧ gwd n W A l ≤ 8 := fun l hl => gwd_b g.2.2.2.2.1 hl (fun l hl => (g.2.2.2.2.2.2 l hl).2.2.1)
    have w2 : ∀ l, l < n → 1 ≤ gwd n H D l ∧ gwd n H D l ≤ 8 := fun l hl => gwd_b g.2.2.2.2.2.1 hl (fun l hl => (g.2.2.2.2.2.2 l hl).2.2.2)
    refine Or.inr ⟨n, W, H, A, D, by rw [hk.1 11 (by omega)]; exact r1, by rw [h0 17 (by decide)]; exact r2, ⟨?_, ?_, ?_, g.2.2.2.1, g.2.2.2.2.1, g.2.2.2.2.2.1, fun l hl => ?_⟩, fun l hl => ?_, gC_k gc (fun k hk => h0 k (by omega)) (hf 1 (by decide) (by decide)) (hf 2 (by decide) (by decide)), gM_k gm (h0 7 (by decide)) (h0 8 (by decide)) (hf 3 (by decide) (by decide)) (hf 4 (by decide) (by decide)) (hf 5 (by decide) (by decide)) (hf 6 (by decide) (by decide)), ?_⟩
    · rw [hk.1 12 (by omega)]; exact g.1
    · rw [hk.1 13 (by omega)]; exact g.2.1
    · rw [hk.1 14 (by omega)]; exact g.2.2.1
    · rw [hk.2.1 15 (3 * 0 + l) (by omega) (by omega), hk.2.1 16 (3 * 0 + l) (by omega) (by omega)]
      exact g.2.2.2.2.2.2 l hl
    · rw [hk.2.1 17 (3 * 0 + l) (by omega) (by omega), hk.2.1 18 (3 * 0 + l) (by omega) (by omega)]
      exact gg l hl
    · rw [hf 7 (by decide) (by decide)]
      intro l b k hl hb hk2
      have b64 : gwd n W A l * gwd n H D l ≤ 64 := Nat.mul_le_mul (w1 l hl).2 (w2 l hl).2
      rw [hk.2.2 _ (by omega)]
      exact rl l b k hl hb hk2
/-- everything but the shown picture -/
theorem RL_un (h : RL u S F) (hk : kz S M) (hm : ag fsM rsM S M) (hc : agc (fsK a) (rsK a) F F') (hp : ∀ v, isU v → v = v → True) {w : Nat} (hr : rPic w M F') : RL w M F' := by
  obtain ⟨h1, h2, h3, h4, h5, h6, -⟩ := h
  have row : ∀ w, OB w = false → w ≤ 62 → F' w = F w := fun w o hw => hc.2 w o (by
    cases a <;> simp only [rsK, cond_true, cond_false, List.cons_append, List.nil_append, List.contains_cons, List.contains_nil, Bool.or_false, Bool.or_eq_false_iff, beq_eq_false_iff_ne] <;> omega)
  have ob : ∀ w k, OB w = true → w ≠ 0 → w ≤ 58 ∨ w = 61 → k < 100 → F' w k = F w k := fun w k o w0 hw hk => hc.1 w k o (by
    cases a <;> simp only [fsK, cond_true, cond_false, List.cons_append, List.nil_append, List.contains_cons, List.contains_nil, Bool.or_false, Bool.or_eq_false_iff, beq_eq_false_iff_ne] <;> omega)
  exact ⟨rCan_k h1 (hm.1 1 rfl) (hm.1 2 rfl) (hm.1 3 rfl) (hm.2 4 rfl) (ob 1 0 rfl (by decide) (by decide) (by decide)) (ob 1 1 rfl (by decide) (by decide) (by decide)) (ob 1 2 rfl (by decide) (by decide) (by decide)) (row 2 rfl (by decide)), rTab_k h2 (hm.2 5 rfl) (row 3 rfl (by decide)), rTape_k h3 (hm.1 7 rfl) (hm.2 6 rfl) (ob 61 1 rfl (by decide) (by decide) (by decide)) (row 62 rfl (by decide)), rOut_ff h4 (hm.1 9 rfl) (hm.2 8 rfl) (ob 5 1 rfl (by decide) (by decide) (by decide)) (row 6 rfl (by decide)), cst_k h5 (hm.2 22 rfl) (hm.2 23 rfl) (hm.2 26 rfl) (row 8 rfl (by decide)) (ob 4 11 rfl (by decide) (by decide) (by decide)) (row 29 rfl (by decide)), rLv_kz h6 hk (fun k k1 k7 => row _ (p12_row k1 (by omega)) (by omega)) (fun k hk => ob 12 k rfl (by decide) (by decide) (by omega)), hr⟩
theorem x_unpack (h : RL (sU a) M F) (h7 : 0 ≤ (M.1 7).toInt ∧ (M.1 7).toInt ≤ 32768) (ht : tBy M) (hm : ∀ v Z, K1 v Z → ag fsM rsM M Z) (hc : ∀ w S, K2 w S → agc (fsK a) (rsK a) F S.1) (h1 : p_unpack M K1) (h2 : p_B_unpack UL 0 (F, L, PC a b P) K2) :
    (∃ v w M' F', RL (sU a) M' F' ∧ K1 v M' ∧ K2 w (F', L, PC a b P)) ∨ (∃ M' F', RL (sU (!a)) M' F' ∧ K1 0 M' ∧ K2 0 (F', L, PC (!a) b P)) := by
  have hp1 : PC a b P 59 1 = mU a := by cases a <;> rfl
  have hp7 : PC a b P 0 7 = sU a := by cases a <;> rfl
  have hu := mU_is a
  have hs := sU_is a
  unfold p_B_unpack at h2
  obtain ⟨-, -, h2⟩ := h2
  have h2 : p_Un_readRow UL 59 (F, L, PC a b P) _ _ := h2
  refine y_row hu hp1 h.2.2.1 h7 h.2.2.2.2.1.1 ht h1 h2 (fun M' F' hk hf hp ht => Or.inl ?_) (fun M' F' r1 r2 r3 r4 hp ho e23 h1 h2 => Or.inr ?_)
  · obtain ⟨-, -, -, -, -, -, -, ht⟩ := ht
    have ht : K2 (va_up F' 0 (upd (F' 0) 8 (F' 60 7)) 60 6) (va_up F' 0 (upd (F' 0) 8 (F' 60 7)), L, PC a b P) := ht
    have g := hc _ _ ht
    refine ⟨_, _, M', _, RL_un h (kz_kp hp) (hm _ _ hk) g (fun _ _ _ => trivial) (rPic_kp h.2.2.2.2.2.2 hp (fun k k1 k9 => g.2 _ (isU_row hs k1 k9) ?_) (g.2 8 rfl ?_) (fun k hk => g.1 _ k (isU_ob hs) ?_)), hk, ht⟩
    · cases a <;> simp only [sU, rsK, cond_true, cond_false, List.cons_append, List.nil_append, List.contains_cons, List.contains_nil, Bool.or_false, Bool.or_eq_false_iff, beq_eq_false_iff_ne] <;> omega
    · cases a <;> rfl
    · cases a <;> simp only [sU, fsK, cond_true, cond_false, List.cons_append, List.nil_append, List.contains_cons, List.contains_nil, Bool.or_false, Bool.or_eq_false_iff, beq_eq_false_iff_ne] <;> omega
  · obtain ⟨-, -, -, h2⟩ := h2
    have h2 : p_Un_handOver UL 59 (PC a b P 0 7) (F', L, PC a b P) (fun v45 S45 => ¬ v45 = NU ∧ (K2 0 (va_up S45.1 0 (upd (S45.1 0) 8 (-1)), S45.2.1, va_up S45.2.2 0 (va_up (S45.2.2 0) 7 v45)))) := h2
    unfold p_Un_handOver at h2
    obtain ⟨-, -, -, -, h2⟩ := h2
    have h2 : K2 0 (va_up (va_up F' (PC a b P 59 1) (upd (F' (PC a b P 59 1)) 17 1)) 0 (upd ((va_up F' (PC a b P 59 1) (upd (F' (PC a b P 59 1)) 17 1)) 0) 8 (-1)), L, va_up (va_up (PC a b P) 59 (va_up (PC a b P 59) 1 (PC a b P 0 7))) 0 (va_up ((va_up (PC a b P) 59 (va_up (PC a b P 59) 1 (PC a b P 0 7))) 0) 7 (PC a b P 59 1))) := h2
    rw [pc_hand, hp1] at h2
    have g := hc _ _ h2
    have e8 : F' 8 = F 8 := by
      have t := g.2 8 rfl (by cases a <;> rfl)
      dsimp only at t
      rw [vu_ne (by decide), vu_ne (by cases a <;> decide)] at t
      exact t
    obtain ⟨Z, z1, z2, z3, z4⟩ := x_become hu ho (fun k hk => by rw [e23]; unfold tW; rw [e8]; exact h.2.2.2.2.1.2.1 k hk) r1 r2 r3 r4 h1
    have mu : mU a = sU (!a) := by cases a <;> rfl
    refine ⟨Z, _, RL_un h (kz_bc hp z2) (hm _ _ z3) g (fun _ _ _ => trivial) ?_, z3, h2⟩
    rw [← mu]
    have m0 : mU a ≠ 0 := by cases a <;> decide
    have mk : ∀ k, mU a + k ≠ 0 := fun k => by omega
    refine rPic_kp (F' := va_up (va_up F' (mU a) (upd (F' (mU a)) 17 1)) 0 (upd ((va_up F' (mU a) (upd (F' (mU a)) 17 1)) 0) 8 (-1))) z4 kp_refl (fun k _ _ => vu_ne (mk k)) (vu_ne (by decide)) (fun k _ => ?_)
    rw [vu_ne m0]
end UNP

