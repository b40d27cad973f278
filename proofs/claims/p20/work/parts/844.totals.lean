/-! what a walk costs at most; sums of costs; the same cost in like states -/
theorem mul_s (a : Int) (x y : Nat) : a * ((x + y : Nat) : Int) = a * (x : Int) + a * (y : Int) := by rw [Int.natCast_add, Int.mul_add]
theorem acT_le {t : Nat → Int} {a : Int} {c : Nat} {h : Nat → Int32} (ha : 0 ≤ a) (ht : ∀ s, s ≤ 254 → s % 16 ≤ 12 → t (257 * c + s) ≤ a) (hh : ∀ k, k ≤ 63 → blx (h k) ≤ 12) : ∀ m z, z + m ≤ 63 → acT t c h m z ≤ a * ((z + m : Nat) : Int)
  | 0, z, _ => by
    unfold acT
    have hz : 0 ≤ a * ((z : Nat) : Int) := Int.mul_nonneg ha (by omega)
    rw [Nat.add_zero]
    split
    · next h1 =>
      have h2 : t (257 * c) ≤ a := ht 0 (by omega) (by omega)
      have h3 : a * ((1 : Nat) : Int) ≤ a * ((z : Nat) : Int) := Int.mul_le_mul_of_nonneg_left (by omega) ha
      have h4 : a * ((1 : Nat) : Int) = a := Int.mul_one a
      omega
    · exact hz
  | m + 1, z, hm => by
    unfold acT
    split
    · have := acT_le ha ht hh m (z + 1) (by omega)
      have e : z + 1 + m = z + (m + 1) := by omega
      rw [e] at this
      exact this
    · have h1 := acT_le ha ht hh m 0 (by omega)
      rw [Nat.zero_add] at h1
      have hb := hh (63 - m) (by omega)
      have h2 := ht (16 * (z % 16) + blx (h (63 - m))) (by omega) (by omega)
      have h3 := ht 240 (by omega) (by omega)
      have h4 : ((z / 16 : Nat) : Int) * t (257 * c + 240) ≤ ((z / 16 : Nat) : Int) * a := Int.mul_le_mul_of_nonneg_left h3 (by omega)
      have h5 : ((z / 16 : Nat) : Int) * a ≤ (z : Int) * a := Int.mul_le_mul_of_nonneg_right (by omega) ha
      have e1 : (z : Int) * a = a * (z : Int) := Int.mul_comm _ _
      have e2 := mul_s a z (m + 1)
      have e3 := mul_s a m 1
      have e4 : a * ((1 : Nat) : Int) = a := Int.mul_one a
      omega
def WtL (t : Nat → Int) (d a : Int) (l : Nat) : Prop := (∀ s, s ≤ 13 → t (257 * cl2 l + s) ≤ d) ∧ ∀ s, s ≤ 254 → s % 16 ≤ 12 → t (257 * (cl2 l + 1) + s) ≤ a
theorem blx_B {x : Int32} {m : Nat} {n : Int} (h : B (-n) n x) (hn : n < 2 ^ m) : blx x ≤ m := blx_le (by
  have h1 := h.1
  have h2 := h.2
  have h3 : ((2 ^ m : Nat) : Int) = (2 : Int) ^ m := by simp
  omega)
theorem lvB {I : ms} {l b k : Nat} (h : qf (I.2.1 19) 0 12288 (-2049) 2049) (hl : l ≤ 2) (hb : b ≤ 63) (hk : k ≤ 63) : B (-2049) 2049 (lvh I l b k) := h _ (by omega) (by omega)
section TOT
variable {t : Nat → Int} {d a : Int} {I : ms}
theorem blkT_le {l b : Nat} {s : Int32} (ha : 0 ≤ a) (hl : l ≤ 2) (hb : b ≤ 63) (hw : WtL t d a l) (hlv : qf (I.2.1 19) 0 12288 (-2049) 2049) (hs : B (-2049) 2049 s) : blkT t (cl2 l) (lvh I l b) s ≤ d + 63 * a := by
  unfold blkT
  have h1 := hw.1 (blx (lvh I l b 0 - s)) (blx_B (n := 4098) (B_sub (lvB hlv hl hb (by omega)) hs (by decide) (by decide)) (by decide))
  have h2 := acT_le ha hw.2 (h := lvh I l b) (fun k hk => blx_B (n := 2049) (lvB hlv hl hb hk) (by decide)) 63 0 (by omega)
  have e : a * ((0 + 63 : Nat) : Int) = 63 * a := by rw [Int.mul_comm]; rfl
  omega
theorem kS_B {l : Nat} {f : Nat → Nat} (hl : l ≤ 2) (hlv : qf (I.2.1 19) 0 12288 (-2049) 2049) : ∀ m k st, (∀ k', k ≤ k' → k' < k + m → f k' ≤ 63) → (∀ j, j < 3 → B (-2049) 2049 (st j)) → ∀ j, j < 3 → B (-2049) 2049 (kS I l f m k st j)
  | 0, _, _, _, h => h
  | m + 1, k, st, hf, h => by
    unfold kS
    refine kS_B hl hlv m (k + 1) _ (fun k' h1 h2 => hf k' (by omega) (by omega)) (fun j hj => ?_)
    unfold upd
    split
    · exact lvB hlv hl (hf k (by omega) (by omega)) (by omega)
    · exact h j hj
theorem kC_le {l : Nat} {f : Nat → Nat} (ha : 0 ≤ a) (hl : l ≤ 2) (hw : WtL t d a l) (hlv : qf (I.2.1 19) 0 12288 (-2049) 2049) : ∀ m k st, (∀ k', k ≤ k' → k' < k + m → f k' ≤ 63) → (∀ j, j < 3 → B (-2049) 2049 (st j)) → kC t I l f m k st ≤ (d + 63 * a) * (m : Int)
  | 0, _, _, _, _ => by
    show (0 : Int) ≤ _ * 0
    omega
  | m + 1, k, st, hf, h => by
    unfold kC
    have h1 := blkT_le (b := f k) (s := st l) ha hl (hf k (by omega) (by omega)) hw hlv (h l (by omega))
    have h2 := kC_le ha hl hw hlv m (k + 1) (upd st l (lvh I l (f k) 0)) (fun k' h1 h2 => hf k' (by omega) (by omega)) (fun j hj => by
      unfold upd
      split
      · exact lvB hlv hl (hf k (by omega) (by omega)) (by omega)
      · exact h j hj)
    have e := mul_s (d + 63 * a) m 1
    have e4 : (d + 63 * a) * ((1 : Nat) : Int) = d + 63 * a := Int.mul_one _
    omega
def sumc (cnt : Nat → Nat) : Nat → Nat → Nat
  | 0, _ => 0
  | m + 1, l => cnt l + sumc cnt m (l + 1)
theorem lC_le {f : Nat → Nat → Nat} {cnt : Nat → Nat} (ha : 0 ≤ a) (hlv : qf (I.2.1 19) 0 12288 (-2049) 2049) : ∀ m l st, l + m ≤ 3 → (∀ l', l ≤ l' → l' < l + m → WtL t d a l' ∧ ∀ k, k < cnt l' → f l' k ≤ 63) → (∀ j, j < 3 → B (-2049) 2049 (st j)) → lC t I f cnt m l st ≤ (d + 63 * a) * (sumc cnt m l : Int) ∧ ∀ j, j < 3 → B (-2049) 2049 (lS I f cnt m l st j)
  | 0, _, _, _, _, h => ⟨by show (0 : Int) ≤ _ * 0; omega, h⟩
  | m + 1, l, st, hl, hf, h => by
    have hf0 := hf l (by omega) (by omega)
    have h1 := kC_le (f := f l) ha (by omega) hf0.1 hlv (cnt l) 0 st (fun k' _ h2 => hf0.2 k' (by omega)) h
    have h2 := kS_B (f := f l) (l := l) (by omega) hlv (cnt l) 0 st (fun k' _ h2 => hf0.2 k' (by omega)) h
    have h3 := lC_le ha hlv m (l + 1) (kS I l (f l) (cnt l) 0 st) (by omega) (fun l' a b => hf l' (by omega) (by omega)) h2
    unfold lC lS sumc
    have e := mul_s (d + 63 * a) (cnt l) (sumc cnt m (l + 1))
    exact ⟨by omega, h3.2⟩
theorem uC_le {f : Nat → Nat → Nat → Nat} {cnt : Nat → Nat} {L : Nat} {rs : Nat → Bool} (ha : 0 ≤ a) (hlv : qf (I.2.1 19) 0 12288 (-2049) 2049) (hL : L ≤ 3) : ∀ m n st, (∀ n' l', n ≤ n' → n' < n + m → l' < L → WtL t d a l' ∧ ∀ k, k < cnt l' → f n' l' k ≤ 63) → (∀ j, j < 3 → B (-2049) 2049 (st j)) → uC t I f cnt L rs m n st ≤ (d + 63 * a) * ((m * sumc cnt L 0 : Nat) : Int)
  | 0, _, _, _, _ => by
    show (0 : Int) ≤ _ * ((0 * _ : Nat) : Int)
    rw [Nat.zero_mul]
    show (0 : Int) ≤ _ * 0
    omega
  | m + 1, n, st, hf, h => by
    unfold uC
    have hz : ∀ j, j < 3 → B (-2049) 2049 ((if rs n = true then zz 3 st else st) j) := fun j hj => by
      split
      · exact zz_B h 3 (by omega) j hj
      · exact h j hj
    have h1 := lC_le (t := t) (d := d) (f := f n) (cnt := cnt) ha hlv L 0 (if rs n = true then zz 3 st else st) (by omega) (fun l' _ b => hf n l' (by omega) (by omega) (by omega)) hz
    have h2 := uC_le (rs := rs) ha hlv hL m (n + 1) (lS I (f n) cnt L 0 (if rs n = true then zz 3 st else st)) (fun n' l' a b c => hf n' l' (by omega) (by omega) c) h1.2
    have e := mul_s (d + 63 * a) (sumc cnt L 0) (m * sumc cnt L 0)
    have e2 : (m + 1) * sumc cnt L 0 = sumc cnt L 0 + m * sumc cnt L 0 := by rw [Nat.add_mul, Nat.one_mul, Nat.add_comm]
    rw [e2]
    have h1' := h1.1
    omega
end TOT
theorem sumc_le {N : Nat} {cnt : Nat → Nat} : ∀ m l, (∀ l', l ≤ l' → l' < l + m → N * cnt l' ≤ 64) → N * sumc cnt m l ≤ 64 * m
  | 0, _, _ => by unfold sumc; omega
  | m + 1, l, h => by
    have h1 := h l (by omega) (by omega)
    have h2 := sumc_le m (l + 1) (fun l' a b => h l' (by omega) (by omega))
    unfold sumc
    rw [Nat.mul_add]
    omega
/-- the geometry of what is packed -/
def GEO (S : ms) (L : Nat) : Prop := S.2.1 14 0 = nI L ∧ (L = 1 ∨ L = 3) ∧ (∀ l, l < L → B 1 2 (S.2.1 15 l) ∧ B 1 2 (S.2.1 16 l) ∧ B 1 8 (S.2.1 17 l)) ∧ B 1 64 (S.2.1 12 0) ∧ B 1 64 (S.2.1 13 0)
theorem uNum_le {S : ms} {L : Nat} (hS : IM S) (hG : GEO S L) : uNum S L ≤ 64 := by
  obtain ⟨g1, g2, g3, g4, g5⟩ := hG
  obtain ⟨uB, _⟩ := UW_ok (r := 15) (r' := 12) (k := 1) g2 (fun l hl => (g3 l hl).1) g4 (bf_1 hS)
  obtain ⟨vB, _⟩ := UW_ok (r := 16) (r' := 13) (k := 2) g2 (fun l hl => (g3 l hl).2.1) g5 (bf_2 hS)
  have cu := cl_i (x := UWs 15 12 1 S L) (by have := uB.1; omega)
  have cv := cl_i (x := UWs 16 13 2 S L) (by have := vB.1; omega)
  have u2 := uB.2
  have v2 := vB.2
  have h1 : (UWs 15 12 1 S L).toNatClampNeg ≤ 8 := by omega
  have h2 : (UWs 16 13 2 S L).toNatClampNeg ≤ 8 := by omega
  exact Nat.mul_le_mul h1 h2
theorem uTot_le {t : Nat → Int} {d a : Int} {S : ms} {L e : Nat} (hS : IM S) (hG : GEO S L) (hlv : qf (S.2.1 19) 0 12288 (-2049) 2049) (ha : 0 ≤ a) (hd : 0 ≤ d) (hw : ∀ l, l < L → WtL t d a l) : uTot t S L e ≤ (d + 63 * a) * 192 := by
  obtain ⟨g1, g2, g3, g4, g5⟩ := hG
  obtain ⟨uB, ub⟩ := UW_ok (r := 15) (r' := 12) (k := 1) g2 (fun l hl => (g3 l hl).1) g4 (bf_1 hS)
  obtain ⟨vB, ub2⟩ := UW_ok (r := 16) (r' := 13) (k := 2) g2 (fun l hl => (g3 l hl).2.1) g5 (bf_2 hS)
  have cu := cl_i (x := UWs 15 12 1 S L) (by have := uB.1; omega)
  have cv := cl_i (x := UWs 16 13 2 S L) (by have := vB.1; omega)
  have u1 := uB.1
  have v1 := vB.1
  have L3 : L ≤ 3 := by omega
  unfold uTot
  have h1 := uC_le (t := t) (d := d) (a := a) (I := S) (f := fU (UWs 15 12 1 S L).toNatClampNeg (bwU 15 S L) (bwU 16 S L) (fun l => (S.2.1 17 l).toNatClampNeg)) (cnt := fun l => bwU 15 S L l * bwU 16 S L l) (L := L) (rs := rsU e) ha hlv L3 ((UWs 15 12 1 S L).toNatClampNeg * (UWs 16 13 2 S L).toNatClampNeg) 0 (zz 3 (S.2.1 53)) (fun n' l' _ hn hl => ⟨hw l' hl, fun k hk => ?_⟩) (fun j hj => by rw [zz_0 hj]; exact ⟨by decide, by decide⟩)
  · have h2 := sumc_le (N := (UWs 15 12 1 S L).toNatClampNeg * (UWs 16 13 2 S L).toNatClampNeg) (cnt := fun l => bwU 15 S L l * bwU 16 S L l) L 0 (fun l' _ hl => by
      have a1 := (ub l' (by omega)).2
      have a2 := (ub2 l' (by omega)).2
      have a3 := Nat.mul_le_mul a1 a2
      have a4 : (UWs 15 12 1 S L).toNatClampNeg * (UWs 16 13 2 S L).toNatClampNeg * (bwU 15 S L l' * bwU 16 S L l') = (UWs 15 12 1 S L).toNatClampNeg * bwU 15 S L l' * ((UWs 16 13 2 S L).toNatClampNeg * bwU 16 S L l') := by
        rw [Nat.mul_assoc, Nat.mul_assoc, Nat.mul_left_comm (UWs 16 13 2 S L).toNatClampNeg]
      omega)
    have h3 : (d + 63 * a) * (((UWs 15 12 1 S L).toNatClampNeg * (UWs 16 13 2 S L).toNatClampNeg * sumc (fun l => bwU 15 S L l * bwU 16 S L l) L 0 : Nat) : Int) ≤ (d + 63 * a) * ((192 : Nat) : Int) := Int.mul_le_mul_of_nonneg_left (by omega) (by omega)
    have e192 : ((192 : Nat) : Int) = 192 := rfl
    rw [e192] at h3
    exact Int.le_trans h1 h3
  · have g17 := (g3 l' hl).2.2
    have c17 := cl_i (x := S.2.1 17 l') (by have := g17.1; omega)
    have := g17.2
    exact (fU_le (uh := (UWs 16 13 2 S L).toNatClampNeg) (ub l' hl).1 (ub2 l' hl).1 (by omega) (by omega) (ub l' hl).2 (ub2 l' hl).2 (by omega) hk).2.2
/-! sums of weights -/
section ADD
variable {t t1 t2 : Nat → Int}
theorem acT_add (h : ∀ j, t j = t1 j + t2 j) (c : Nat) (g : Nat → Int32) : ∀ m z, acT t c g m z = acT t1 c g m z + acT t2 c g m z
  | 0, z => by
    unfold acT
    split
    · exact h _
    · rfl
  | m + 1, z => by
    unfold acT
    split
    · exact acT_add h c g m _
    · rw [acT_add h c g m 0, h, h, Int.mul_add]
      omega
theorem kC_add (h : ∀ j, t j = t1 j + t2 j) {I : ms} {l : Nat} {f : Nat → Nat} : ∀ m k st, kC t I l f m k st = kC t1 I l f m k st + kC t2 I l f m k st
  | 0, _, _ => rfl
  | m + 1, k, st => by
    unfold kC blkT
    rw [kC_add h m, acT_add h, h]
    omega
theorem lC_add (h : ∀ j, t j = t1 j + t2 j) {I : ms} {f : Nat → Nat → Nat} {cnt : Nat → Nat} : ∀ m l st, lC t I f cnt m l st = lC t1 I f cnt m l st + lC t2 I f cnt m l st
  | 0, _, _ => rfl
  | m + 1, l, st => by
    unfold lC
    rw [lC_add h m, kC_add h]
    omega
theorem uC_add (h : ∀ j, t j = t1 j + t2 j) {I : ms} {f : Nat → Nat → Nat → Nat} {cnt : Nat → Nat} {L : Nat} {rs : Nat → Bool} : ∀ m n st, uC t I f cnt L rs m n st = uC t1 I f cnt L rs m n st + uC t2 I f cnt L rs m n st
  | 0, _, _ => rfl
  | m + 1, n, st => by
    unfold uC
    rw [uC_add h m, lC_add h]
    omega
theorem uTot_add (h : ∀ j, t j = t1 j + t2 j) {S : ms} {L e : Nat} : uTot t S L e = uTot t1 S L e + uTot t2 S L e := uC_add h _ _ _
theorem uTot_neg {S : ms} {L e : Nat} (h : ∀ j, t1 j = - t2 j) : uTot t1 S L e = - uTot t2 S L e := by
  have h0 : uTot (fun _ => 0) S L e = uTot (fun _ => 0) S L e + uTot (fun _ => 0) S L e := uTot_add (t1 := fun _ => 0) (t2 := fun _ => 0) (fun _ => rfl)
  have h1 : uTot (fun _ => 0) S L e = uTot t1 S L e + uTot t2 S L e := uTot_add (fun j => by rw [h j]; omega)
  omega
end ADD
/-! like states -/
theorem kS_c {I J : ms} (h : I.2.1 19 = J.2.1 19) {l : Nat} {f : Nat → Nat} : ∀ m k st, kS I l f m k st = kS J l f m k st
  | 0, _, _ => rfl
  | m + 1, k, st => by
    have e : lvh I l (f k) = lvh J l (f k) := by unfold lvh; rw [h]
    unfold kS
    rw [e, kS_c h m]
theorem kC_c {t : Nat → Int} {I J : ms} (h : I.2.1 19 = J.2.1 19) {l : Nat} {f : Nat → Nat} : ∀ m k st, kC t I l f m k st = kC t J l f m k st
  | 0, _, _ => rfl
  | m + 1, k, st => by
    have e : lvh I l (f k) = lvh J l (f k) := by unfold lvh; rw [h]
    unfold kC
    rw [e, kC_c h m]
theorem lS_c {I J : ms} (h : I.2.1 19 = J.2.1 19) {f : Nat → Nat → Nat} {cnt : Nat → Nat} : ∀ m l st, lS I f cnt m l st = lS J f cnt m l st
  | 0, _, _ => rfl
  | m + 1, l, st => by
    unfold lS
    rw [kS_c h, lS_c h m]
theorem lC_c {t : Nat → Int} {I J : ms} (h : I.2.1 19 = J.2.1 19) {f : Nat → Nat → Nat} {cnt : Nat → Nat} : ∀ m l st, lC t I f cnt m l st = lC t J f cnt m l st
  | 0, _, _ => rfl
  | m + 1, l, st => by
    unfold lC
    rw [kS_c h, kC_c h, lC_c h m]
theorem uC_c {t : Nat → Int} {I J : ms} (h : I.2.1 19 = J.2.1 19) {f : Nat → Nat → Nat → Nat} {cnt : Nat → Nat} {L : Nat} {rs : Nat → Bool} : ∀ m n st, uC t I f cnt L rs m n st = uC t J f cnt L rs m n st
  | 0, _, _ => rfl
  | m + 1, n, st => by
    unfold uC
    rw [lS_c h, lC_c h, uC_c h m]
theorem uTot_c {t : Nat → Int} {S T : ms} {L e : Nat} (h1 : T.1 1 = S.1 1) (h2 : T.1 2 = S.1 2) (h12 : T.2.1 12 = S.2.1 12) (h13 : T.2.1 13 = S.2.1 13) (h15 : T.2.1 15 = S.2.1 15) (h16 : T.2.1 16 = S.2.1 16) (h17 : T.2.1 17 = S.2.1 17) (h19 : T.2.1 19 = S.2.1 19) (h53 : ∀ j, 3 ≤ j → T.2.1 53 j = S.2.1 53 j) : uTot t T L e = uTot t S L e := by
  have eu : UWs 15 12 1 T L = UWs 15 12 1 S L := by unfold UWs; rw [h1, h12, h15]
  have ev : UWs 16 13 2 T L = UWs 16 13 2 S L := by unfold UWs; rw [h2, h13, h16]
  have eb : bwU 15 T L = bwU 15 S L := by funext l; unfold bwU; rw [h15]
  have ec : bwU 16 T L = bwU 16 S L := by funext l; unfold bwU; rw [h16]
  have ez : zz 3 (T.2.1 53) = zz 3 (S.2.1 53) := by
    funext j
    by_cases hj : j < 3
    · rw [zz_0 hj, zz_0 hj]
    · rw [zz_hi (by omega), zz_hi (by omega)]
      exact h53 j (by omega)
  unfold uTot
  rw [eu, ev, eb, ec, ez, h17]
  exact uC_c h19 _ _ _
