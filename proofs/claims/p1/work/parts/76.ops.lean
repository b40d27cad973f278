/-! EACH CALL ON THE FRESH OBJECTS -/
theorem fi {S : cs} (hS : RC S tB) (u k : Nat) (v : Int32) (hu : u < 116) (h : gv (l8 tB u) k < 4294967296 ∧ Int32.ofNat (gv (l8 tB u) k) = v) : S.1 u k = v := (hS.1 u hu k h.1).trans h.2
theorem frf {S : cs} (hS : RC S tB) (u k r : Nat) (hu : u < 116) (h : dr (gr (l8 tB (128 + u)) k) = r) : S.2.2 u k = r := (hS.2.1 u hu k).trans h
def FC (S : cs) : Prop := S.2.2 0 0 = 1 ∧ S.2.2 1 3 = 2 ∧ S.2.2 0 1 = 3 ∧ S.2.2 0 2 = 4 ∧ S.2.2 4 2 = 12 ∧ S.2.2 0 4 = 5 ∧ S.2.2 0 6 = 61 ∧ S.2.2 0 7 = 105 ∧ S.1 1 0 = 8 ∧ S.1 1 1 = 8 ∧ S.1 1 2 = 1 ∧ S.1 5 1 = 0 ∧ S.1 61 1 = 0 ∧ S.1 105 17 = 0 ∧ S.1 12 17 = 0 ∧ ∀ k, S.1 2 k = 0
theorem FC_of {S : cs} (hS : RC S tB) : FC S :=
  ⟨frf hS 0 0 1 (by decide) (by decide +kernel), frf hS 1 3 2 (by decide) (by decide +kernel), frf hS 0 1 3 (by decide) (by decide +kernel), frf hS 0 2 4 (by decide) (by decide +kernel), frf hS 4 2 12 (by decide) (by decide +kernel), frf hS 0 4 5 (by decide) (by decide +kernel), frf hS 0 6 61 (by decide) (by decide +kernel), frf hS 0 7 105 (by decide) (by decide +kernel), fi hS 1 0 8 (by decide) (by decide +kernel), fi hS 1 1 8 (by decide) (by decide +kernel), fi hS 1 2 1 (by decide) (by decide +kernel), fi hS 5 1 0 (by decide) (by decide +kernel), fi hS 61 1 0 (by decide) (by decide +kernel), fi hS 105 17 0 (by decide) (by decide +kernel), fi hS 12 17 0 (by decide) (by decide +kernel), fun k => by
    have e : l8 tB 2 = 0 := by decide +kernel
    have h := hS.1 2 (by decide) k
    rw [e, gv_0] at h
    exact h (by decide)⟩
def FM (M : ms) : Prop := M.1 1 = 8 ∧ M.1 2 = 8 ∧ M.1 3 = 1 ∧ M.1 7 = 0 ∧ M.1 9 = 0 ∧ (∀ k, M.2.1 4 k = 0) ∧ ∀ k, M.2.1 11 k = 0
theorem fm {M : ms} (hM : RM M tM) (k : Nat) (v : Int32) (h : gv (l6 tM 58) k < 4294967296 ∧ Int32.ofNat (gv (l6 tM 58) k) = v) : M.1 k = v := (hM.1 k h.1).trans h.2
theorem FM_of {M : ms} (hM : RM M tM) : FM M :=
  ⟨fm hM 1 8 (by decide +kernel), fm hM 2 8 (by decide +kernel), fm hM 3 1 (by decide +kernel), fm hM 7 0 (by decide +kernel), fm hM 9 0 (by decide +kernel), fun k => by
    have e : l6 tM 4 = 0 := by decide +kernel
    have h := hM.2.1 4 (by decide) (by decide +kernel) k
    rw [e, gv_0] at h
    exact h (by decide), fun k => by
    have e : l6 tM 11 = 0 := by decide +kernel
    have h := hM.2.1 11 (by decide) (by decide +kernel) k
    rw [e, gv_0] at h
    exact h (by decide)⟩
/-! numbers -/
theorem dd3 : ∀ r c : Fin 8, ((3 * (((64 * r.val) % 4294967296 + c.val) % 4294967296)) % 4294967296 + 0) % 4294967296 < 12288 := by decide
theorem u1n : ¬ (1 : Int32) ≤ 0 := by decide
theorem u2n : ¬ (2 : Int32) ≤ 0 := by decide
theorem u0l : (0 : Int32) ≤ 0 := by decide
theorem u1z : ¬ (1 : Int32) = 0 := by decide
theorem u2z : ¬ (2 : Int32) = 0 := by decide
theorem cn {j : Nat} (h : j < 2147483648) : (Int32.ofNat j).toNatClampNeg = j := Int32.toNatClampNeg_ofNat_of_lt h
theorem cs1 (j : Nat) : Int32.ofNat j + 1 = Int32.ofNat (j + 1) := (Int32.ofNat_add j 1).symm
theorem cle {a b : Nat} (ha : a < 2147483648) (hb : b < 2147483648) : Int32.ofNat a ≤ Int32.ofNat b ↔ a ≤ b := by
  rw [Int32.le_iff_toInt_le, Int32.toInt_ofNat_of_lt ha, Int32.toInt_ofNat_of_lt hb]; omega
theorem nu1 {a : Nat} (h : a < 1000000) : ¬ a = NU := fun e => by
  have : a = 1000000 := e
  omega
theorem isW {x lo hi : Int32} {K : Int32 → Prop} (h0 : (x < lo ∨ hi < x) → K 0) (h1 : ¬ x < lo → ¬ hi < x → K 1) : p_B_isWithin x lo hi K :=
  ⟨fun h => ⟨rfl, h0 (Or.inl h)⟩, fun h => ⟨fun h' => ⟨rfl, h0 (Or.inr h')⟩, fun h' => ⟨rfl, h1 h h'⟩⟩⟩
/-- a test, then one of two ways -/
theorem isW2 {x lo hi : Int32} {P Q : Prop} (h0 : (x < lo ∨ hi < x) → P) (h1 : ¬ x < lo → ¬ hi < x → Q) : p_B_isWithin x lo hi (fun v => (v = 0 → P) ∧ (¬ (v = 0) → Q)) :=
  isW (fun h => ⟨fun _ => h0 h, fun hn => absurd rfl hn⟩) (fun a b => ⟨fun h => absurd h (by decide), fun _ => h1 a b⟩)
theorem isW3 {x lo hi : Int32} {P Q : Prop} (h0 : (x < lo ∨ hi < x) → P) (h1 : ¬ x < lo → ¬ hi < x → Q) : p_B_isWithin x lo hi (fun v => (¬ v = 0 → Q) ∧ (v = 0 → P)) :=
  isW (fun h => ⟨fun hn => absurd rfl hn, fun _ => h0 h⟩) (fun a b => ⟨fun _ => h1 a b, fun h => absurd h (by decide)⟩)
theorem fillI_any {x0 N : Nat} {v : Int32} {S : cs} {K : cs → Prop} (hc : c_cl UL x0 = 902) (hn : c_ln UL x0 = N) (hN : N < 2147483647) (hK : ∀ S', K S') : p_Ar_fillI UL x0 v S K := by
  refine ⟨hc, fun y0 y1 y2 y3 yS => y0 = x0 ∧ y3 = Int32.ofNat N ∧ ∃ j, j ≤ N ∧ y2 = Int32.ofNat j, fun y0 y1 y2 y3 yS => N - y2.toNatClampNeg, ⟨rfl, by rw [hn]; rfl, 0, Nat.zero_le _, rfl⟩, fun y0 y1 y2 y3 yS hI => ?_⟩
  obtain ⟨rfl, rfl, j, hj, rfl⟩ := hI
  refine ⟨fun _ => hK _, fun hlt => ?_⟩
  have hjN : j < N := Nat.lt_of_not_le fun q => hlt ((cle (by omega) (by omega)).mpr q)
  refine ⟨hc, ?_, ⟨rfl, rfl, j + 1, hjN, cs1 j⟩, ?_⟩
  · rw [hn]
    exact n_vp rfl (Nat.ble_eq_true_of_le hjN) (by omega)
  · show N - (Int32.ofNat j + 1).toNatClampNeg < N - (Int32.ofNat j).toNatClampNeg
    rw [cs1, cn (by omega), cn (by omega)]
    omega
/-! canvas -/
def okC (a b c : Int32) : Prop := ¬ a < 1 ∧ ¬ 64 < a ∧ ¬ b < 1 ∧ ¬ 64 < b ∧ (c = 1 ∨ c = 3)
theorem oc_canvas {S : cs} {K : Int32 → cs → Prop} (F : FC S) {a b c : Int32} (h1 : ¬ okC a b c → ∀ S', K 1 S') (h0 : okC a b c → ∀ S', K 0 S') : p_Lw_canvas UL 0 a b c S K := by
  obtain ⟨f0, f1, -⟩ := F
  have b40 : okC a b c → b_B_canvas_40 UL 0 a b c S (fun S4 => K 0 S4) (fun c9 S9 => (c9 = 14 ∧ (K 1 S9))) := by
    intro ok
    unfold b_B_canvas_40 p_Ca_begin
    rw [f0, f1]
    exact ⟨nu1 (by decide), by decide +kernel, nu1 (by decide), fillI_any (N := 12288) (by decide +kernel) (by decide +kernel) (by decide) (fun S' => h0 ok S')⟩
  refine ⟨by decide +kernel, isW2 (fun h => ⟨rfl, h1 (fun o => h.elim o.1 o.2.1) S⟩) (fun a1 a2 => isW2 (fun h => ⟨rfl, h1 (fun o => h.elim o.2.2.1 o.2.2.2.1) S⟩) (fun b1 b2 => ⟨fun hc => b40 ⟨a1, a2, b1, b2, Or.inl hc⟩, fun hc => ⟨fun hd => b40 ⟨a1, a2, b1, b2, Or.inr hd⟩, fun hd => ⟨rfl, h1 (fun o => o.2.2.2.2.elim hc hd) S⟩⟩⟩))⟩
theorem om_canvas {M : ms} {K : ms → Prop} {a b c : Int32} (h1 : ¬ okC a b c → ∀ M' : ms, M'.1 0 = 1 → K M') (h0 : okC a b c → ∀ M' : ms, M'.1 0 = 0 → K M') : p_canvas a b c M K := by
  have b33 : ¬ okC a b c → b_canvas_33 a b c M K := fun hn => ⟨fun h => absurd h u1n, fun _ => h1 hn _ rfl⟩
  have b37 : okC a b c → b_canvas_37 a b c M K := by
    intro ok
    refine ⟨fun _ => ?_, fun h => absurd u0l h⟩
    refine ⟨fun y yM => yM.1 0 = 0 ∧ ∃ j, j ≤ 12288 ∧ y = Int32.ofNat j, fun y _ => 12288 - y.toNatClampNeg, ⟨rfl, 0, Nat.zero_le _, rfl⟩, fun y yM hI => ?_⟩
    obtain ⟨hz, j, hj, rfl⟩ := hI
    refine ⟨fun _ => h0 ok _ hz, fun hlt => ?_⟩
    have hjN : j < 12288 := Nat.lt_of_not_le fun q => hlt ((cle (a := 12288) (by decide) (by omega)).mpr q)
    refine ⟨n_vp rfl (Nat.ble_eq_true_of_le hjN) (by decide), ⟨hz, j + 1, hjN, cs1 j⟩, ?_⟩
    show 12288 - (Int32.ofNat j + 1).toNatClampNeg < 12288 - (Int32.ofNat j).toNatClampNeg
    rw [cs1, cn (by omega), cn (by omega)]
    omega
  exact ⟨fun h => b33 (fun o => o.1 h), fun a1 => ⟨fun h => b33 (fun o => o.2.1 h), fun a2 => ⟨fun h => b33 (fun o => o.2.2.1 h), fun a3 => ⟨fun h => b33 (fun o => o.2.2.2.1 h), fun a4 => ⟨fun h => b37 ⟨a1, a2, a3, a4, Or.inl h⟩, fun a5 => ⟨fun h => b37 ⟨a1, a2, a3, a4, Or.inr h⟩, fun a6 => b33 (fun o => o.2.2.2.2.elim a5 a6)⟩⟩⟩⟩⟩⟩
/-! rectangles -/
def rect (x y w h : Int32) : Prop := 0 ≤ x.toInt ∧ 0 ≤ y.toInt ∧ 1 ≤ w.toInt ∧ 1 ≤ h.toInt ∧ x.toInt + w.toInt ≤ 8 ∧ y.toInt + h.toInt ≤ 8
theorem lt0 {z : Int32} : z < 0 ↔ z.toInt < 0 := by rw [Int32.lt_iff_toInt_lt]; exact Iff.rfl
theorem lt1 {z : Int32} : z < 1 ↔ z.toInt < 1 := by rw [Int32.lt_iff_toInt_lt]; exact Iff.rfl
theorem le8 {z : Int32} : 8 ≤ z ↔ 8 ≤ z.toInt := by rw [Int32.le_iff_toInt_le]; exact Iff.rfl
theorem sub8 {x : Int32} (h : 0 ≤ x.toInt) : (8 - x).toInt = 8 - x.toInt := by
  have h1 := Int32.toInt_lt x
  rw [Int32.toInt_sub]
  show ((8 : Int) - x.toInt).bmod 4294967296 = _
  rw [Int.bmod_def]
  simp only [Int.reducePow] at h1
  split <;> omega
theorem natof {x : Int32} (h : 0 ≤ x.toInt) : ∃ a : Nat, x = Int32.ofNat a ∧ (a : Int) = x.toInt ∧ a < 2147483648 := by
  have h1 := Int32.toInt_lt x
  simp only [Int.reducePow] at h1
  refine ⟨x.toInt.toNat, ?_, by omega, by omega⟩
  apply Int32.toInt_inj.mp
  rw [Int32.toInt_ofNat_of_lt (show x.toInt.toNat < 2 ^ 31 by omega)]
  omega
theorem rect_nat {x y w h : Int32} (r : rect x y w h) : ∃ a b c d : Nat, x = Int32.ofNat a ∧ y = Int32.ofNat b ∧ w = Int32.ofNat c ∧ h = Int32.ofNat d ∧ 1 ≤ c ∧ 1 ≤ d ∧ a + c ≤ 8 ∧ b + d ≤ 8 := by
  obtain ⟨r1, r2, r3, r4, r5, r6⟩ := r
  obtain ⟨a, ea, ha, -⟩ := natof r1
  obtain ⟨b, eb, hb, -⟩ := natof r2
  obtain ⟨c, ec, hc, -⟩ := natof (show 0 ≤ w.toInt by omega)
  obtain ⟨d, ed, hd, -⟩ := natof (show 0 ≤ h.toInt by omega)
  exact ⟨a, b, c, d, ea, eb, ec, ed, by omega, by omega, by omega, by omega⟩
theorem oc_holds {S : cs} {K : Int32 → cs → Prop} {x y w h : Int32} (f8 : S.1 1 0 = 8) (f9 : S.1 1 1 = 8) (h1 : rect x y w h → K 1 S) (h0 : ¬ rect x y w h → K 0 S) : p_Ca_holds UL 1 x y w h S K := by
  unfold p_Ca_holds b_Ca_holds_44 b_Ca_holds_45
  rw [f8, f9]
  refine ⟨fun c => ⟨rfl, h0 (fun r => absurd r.1 (by have := lt0.mp c; omega))⟩, fun c1 => ⟨fun c => ⟨rfl, h0 (fun r => absurd r.2.1 (by have := lt0.mp c; omega))⟩, fun c2 => ⟨fun c => ⟨rfl, h0 (fun r => absurd r.2.2.1 (by have := lt1.mp c; omega))⟩, fun c3 => ⟨fun c => ⟨rfl, h0 (fun r => absurd r.2.2.2.1 (by have := lt1.mp c; omega))⟩, fun c4 => ?_⟩⟩⟩⟩
  have d1 : 0 ≤ x.toInt := Int.not_lt.mp (fun q => c1 (lt0.mpr q))
  have d2 : 0 ≤ y.toInt := Int.not_lt.mp (fun q => c2 (lt0.mpr q))
  have d3 : 1 ≤ w.toInt := Int.not_lt.mp (fun q => c3 (lt1.mpr q))
  have d4 : 1 ≤ h.toInt := Int.not_lt.mp (fun q => c4 (lt1.mpr q))
  have e5 : 8 - x < w ↔ 8 - x.toInt < w.toInt := by rw [Int32.lt_iff_toInt_lt, sub8 d1]
  have e6 : 8 - y < h ↔ 8 - y.toInt < h.toInt := by rw [Int32.lt_iff_toInt_lt, sub8 d2]
  refine ⟨fun c => ⟨rfl, h0 (fun r => absurd r.2.2.2.2.1 (by have := e5.mp c; omega))⟩, fun c5 => ⟨fun c => ⟨rfl, h0 (fun r => absurd r.2.2.2.2.2 (by have := e6.mp c; omega))⟩, fun c6 => ⟨rfl, h1 ⟨d1, d2, d3, d4, ?_, ?_⟩⟩⟩⟩
  · have : ¬ (8 - x.toInt < w.toInt) := fun q => c5 (e5.mpr q)
    omega
  · have : ¬ (8 - y.toInt < h.toInt) := fun q => c6 (e6.mpr q)
    omega
theorem oc_paint {S : cs} {K : cs → Prop} {x y w h c d : Int32} (r : rect x y w h) (f1 : S.1 1 2 = 1) (f2 : S.2.2 1 3 = 2) (hK : ∀ S', K S') : p_Ca_paint UL 1 x y w h c d S K := by
  obtain ⟨a, b, m, n, rfl, rfl, rfl, rfl, hm, hn, ham, hbn⟩ := rect_nat r
  refine ⟨fun _ => ?_, fun _ => hK S⟩
  refine ⟨fun y1 y2 y3 y4 y5 y6 y7 yS => y1 = Int32.ofNat a ∧ y2 = Int32.ofNat b ∧ y3 = Int32.ofNat m ∧ y4 = Int32.ofNat n ∧ (∃ p, p ≤ 1 ∧ y7 = Int32.ofNat p) ∧ yS.1 1 2 = 1 ∧ yS.2.2 1 3 = 2, fun y1 y2 y3 y4 y5 y6 y7 yS => 1 - y7.toNatClampNeg, ⟨rfl, rfl, rfl, rfl, ⟨0, by decide, rfl⟩, f1, f2⟩, fun y1 y2 y3 y4 y5 y6 y7 yS hI => ?_⟩
  obtain ⟨rfl, rfl, rfl, rfl, ⟨p, hp, rfl⟩, g1, g2⟩ := hI
  unfold b_Ca_paint_9
  rw [g1]
  refine ⟨fun _ => hK _, fun hlt => ?_⟩
  have hp0 : p = 0 := by
    have : ¬ 1 ≤ p := fun q => hlt ((cle (a := 1) (by decide) (by omega)).mpr q)
    omega
  subst hp0
  refine ⟨fun z1 z2 z3 z4 z5 z6 z7 z9 z10 z11 zS => z1 = Int32.ofNat a ∧ z2 = Int32.ofNat b ∧ z3 = Int32.ofNat m ∧ z4 = Int32.ofNat n ∧ z7 = Int32.ofNat 0 ∧ (∃ i, i ≤ m ∧ z11 = Int32.ofNat i) ∧ zS.1 1 2 = 1 ∧ zS.2.2 1 3 = 2, fun z1 z2 z3 z4 z5 z6 z7 z9 z10 z11 zS => m - z11.toNatClampNeg, ⟨rfl, rfl, rfl, rfl, rfl, ⟨0, Nat.zero_le _, rfl⟩, g1, g2⟩, fun z1 z2 z3 z4 z5 z6 z7 z9 z10 z11 zS hI => ?_⟩
  obtain ⟨rfl, rfl, rfl, rfl, rfl, ⟨i, hi, rfl⟩, k1, k2⟩ := hI
  refine ⟨fun _ => ⟨⟨rfl, rfl, rfl, rfl, ⟨1, by decide, rfl⟩, k1, k2⟩, (show 1 - (Int32.ofNat 0 + 1).toNatClampNeg < 1 - (Int32.ofNat 0).toNatClampNeg by decide)⟩, fun hlt2 => ?_⟩
  have him : i < m := Nat.lt_of_not_le fun q => hlt2 ((cle (by omega) (by omega)).mpr q)
  refine ⟨fun e => absurd (congrArg Int32.toNatClampNeg e) (by rw [cn (by omega)]; show ¬ m = 0; omega), ?_⟩
  refine ⟨fun w1 w2 w3 w4 w5 w6 w7 w9 w10 w11 w12 w13 wS => w1 = Int32.ofNat a ∧ w2 = Int32.ofNat b ∧ w3 = Int32.ofNat m ∧ w4 = Int32.ofNat n ∧ w7 = Int32.ofNat 0 ∧ w11 = Int32.ofNat i ∧ (∃ j, j ≤ n ∧ w13 = Int32.ofNat j) ∧ wS.1 1 2 = 1 ∧ wS.2.2 1 3 = 2, fun w1 w2 w3 w4 w5 w6 w7 w9 w10 w11 w12 w13 wS => n - w13.toNatClampNeg, ⟨rfl, rfl, rfl, rfl, rfl, rfl, ⟨0, Nat.zero_le _, rfl⟩, k1, k2⟩, fun w1 w2 w3 w4 w5 w6 w7 w9 w10 w11 w12 w13 wS hI => ?_⟩
  obtain ⟨rfl, rfl, rfl, rfl, rfl, rfl, ⟨j, hj, rfl⟩, l1, l2⟩ := hI
  unfold b_Ca_paint_81
  refine ⟨fun _ => ⟨⟨rfl, rfl, rfl, rfl, rfl, ⟨i + 1, him, cs1 i⟩, l1, l2⟩, ?_⟩, fun hlt3 => ?_⟩
  · show m - (Int32.ofNat i + 1).toNatClampNeg < m - (Int32.ofNat i).toNatClampNeg
    rw [cs1, cn (by omega), cn (by omega)]
    omega
  · have hjn : j < n := Nat.lt_of_not_le fun q => hlt3 ((cle (by omega) (by omega)).mpr q)
    rw [l2]
    refine ⟨nu1 (by decide), by decide +kernel, ?_, ⟨rfl, rfl, rfl, rfl, rfl, rfl, ⟨j + 1, hjn, cs1 j⟩, l1, l2⟩, ?_⟩
    · have e : c_ln UL 2 = 12288 := by decide +kernel
      rw [e]
      refine n_vp (n_add (n_add (n_mul (rfl : (4096 : Int32) = Int32.ofNat 4096) rfl) (n_mul (rfl : (64 : Int32) = Int32.ofNat 64) (n_add rfl rfl))) (n_add rfl rfl)) (Nat.ble_eq_true_of_le ?_) (by decide)
      show (((4096 * 0) % 4294967296 + (64 * ((b + j) % 4294967296)) % 4294967296) % 4294967296 + (a + i) % 4294967296) % 4294967296 < 12288
      omega
    · show n - (Int32.ofNat j + 1).toNatClampNeg < n - (Int32.ofNat j).toNatClampNeg
      rw [cs1, cn (by omega), cn (by omega)]
      omega
theorem oc_slope {S : cs} {K : Int32 → cs → Prop} (F : FC S) {x y w h c d : Int32} (h1 : ¬ rect x y w h → ∀ S', K 1 S') (h0 : rect x y w h → ∀ S', K 0 S') : p_Lw_slope UL 0 x y w h c d S K := by
  obtain ⟨f0, f1, -, -, -, -, -, -, f8, f9, f10, -⟩ := F
  unfold p_Lw_slope p_B_slope
  rw [f0]
  refine ⟨by decide +kernel, nu1 (by decide), by decide +kernel, oc_holds f8 f9 (fun r => ⟨fun _ => ?_, fun hn => absurd hn (by decide)⟩) (fun r => ⟨fun hn => absurd rfl hn, fun _ => ⟨rfl, h1 r S⟩⟩)⟩
  rw [f0]
  exact ⟨nu1 (by decide), by decide +kernel, oc_paint r f10 f1 (fun S' => h0 r S')⟩
theorem oc_fill {S : cs} {K : Int32 → cs → Prop} (F : FC S) {x y w h c : Int32} (h1 : ¬ rect x y w h → ∀ S', K 1 S') (h0 : rect x y w h → ∀ S', K 0 S') : p_Lw_fill UL 0 x y w h c S K := by
  obtain ⟨f0, f1, -, -, -, -, -, -, f8, f9, f10, -⟩ := F
  unfold p_Lw_fill p_B_fill
  rw [f0]
  refine ⟨by decide +kernel, nu1 (by decide), by decide +kernel, oc_holds f8 f9 (fun r => ⟨fun _ => ?_, fun hn => absurd hn (by decide)⟩) (fun r => ⟨fun hn => absurd rfl hn, fun _ => ⟨rfl, h1 r S⟩⟩)⟩
  rw [f0]
  exact ⟨nu1 (by decide), by decide +kernel, oc_paint r f10 f1 (fun S' => h0 r S')⟩
theorem om_isOut {M : ms} {K : Int32 → ms → Prop} (F : FM M) {x y w h : Int32} (h0 : rect x y w h → K 0 (upd M.1 0 0, M.2.1, M.2.2)) (h1 : ¬ rect x y w h → K 1 (upd M.1 0 1, M.2.1, M.2.2)) : p_isOut x y w h M K := by
  obtain ⟨f1, f2, -⟩ := F
  have b57 : ¬ rect x y w h → b_isOut_57 M K := fun r => ⟨fun q => absurd q u1n, fun _ => ⟨rfl, h1 r⟩⟩
  unfold p_isOut
  rw [f1, f2]
  refine ⟨fun c => b57 (fun r => absurd r.1 (by have := lt0.mp c; omega)), fun c1 => ⟨fun c => b57 (fun r => absurd r.2.1 (by have := lt0.mp c; omega)), fun c2 => ⟨fun c => b57 (fun r => absurd r.2.2.1 (by have := lt1.mp c; omega)), fun c3 => ⟨fun c => b57 (fun r => absurd r.2.2.2.1 (by have := lt1.mp c; omega)), fun c4 => ?_⟩⟩⟩⟩
  have d1 : 0 ≤ x.toInt := Int.not_lt.mp (fun q => c1 (lt0.mpr q))
  have d2 : 0 ≤ y.toInt := Int.not_lt.mp (fun q => c2 (lt0.mpr q))
  have d3 : 1 ≤ w.toInt := Int.not_lt.mp (fun q => c3 (lt1.mpr q))
  have d4 : 1 ≤ h.toInt := Int.not_lt.mp (fun q => c4 (lt1.mpr q))
  have e5 : 8 - x < w ↔ 8 - x.toInt < w.toInt := by rw [Int32.lt_iff_toInt_lt, sub8 d1]
  have e6 : h ≤ 8 - y ↔ h.toInt ≤ 8 - y.toInt := by rw [Int32.le_iff_toInt_le, sub8 d2]
  refine ⟨fun c => b57 (fun r => by have := le8.mp c; have := r.2.2.2.2.1; omega), fun c5 => ⟨fun c => b57 (fun r => by have := le8.mp c; have := r.2.2.2.2.2; omega), fun c6 => ⟨fun c => b57 (fun r => by have := e5.mp c; have := r.2.2.2.2.1; omega), fun c7 => ⟨fun c => ⟨fun _ => ⟨rfl, h0 ⟨d1, d2, d3, d4, ?_, ?_⟩⟩, fun q => absurd u0l q⟩, fun c => b57 (fun r => c (e6.mpr (by have := r.2.2.2.2.2; omega)))⟩⟩⟩⟩
  · have : ¬ (8 - x.toInt < w.toInt) := fun q => c7 (e5.mpr q)
    omega
  · have := e6.mp c; omega
theorem om_byte {M : ms} {K : Int32 → ms → Prop} {x k : Int32} (f : M.1 3 = 1) (h : K (x &&& 255) M) : p_byteOf x k M K := ⟨fun q => absurd f q, fun _ => h⟩
theorem om_slope {M : ms} {K : ms → Prop} (F : FM M) {x y w h c d : Int32} (h1 : ¬ rect x y w h → ∀ M' : ms, M'.1 0 = 1 → K M') (h0 : rect x y w h → ∀ M' : ms, M'.1 0 = 0 → K M') : p_slope x y w h c d M K := by
  have f3 := F.2.2.1
  refine om_isOut F (fun r => ⟨fun _ => ?_, fun q => absurd rfl q⟩) (fun r => ⟨fun q => absurd q (by decide), fun _ => h1 r _ rfl⟩)
  have h9 := h0 r
  obtain ⟨a, b, m, n, rfl, rfl, rfl, rfl, hm, hn, ham, hbn⟩ := rect_nat r
  refine ⟨fun y1 y2 y3 y4 y5 y6 y7 yS => y1 = Int32.ofNat a ∧ y2 = Int32.ofNat b ∧ y3 = Int32.ofNat m ∧ y4 = Int32.ofNat n ∧ (∃ p, p ≤ n ∧ y7 = Int32.ofNat p) ∧ yS.1 3 = 1 ∧ yS.1 0 = 0, fun y1 y2 y3 y4 y5 y6 y7 yS => n - y7.toNatClampNeg, ⟨rfl, rfl, rfl, rfl, ⟨0, Nat.zero_le _, rfl⟩, f3, rfl⟩, fun y1 y2 y3 y4 y5 y6 y7 yS hI => ?_⟩
  obtain ⟨rfl, rfl, rfl, rfl, ⟨p, hp, rfl⟩, g1, g2⟩ := hI
  refine ⟨fun _ => h9 _ g2, fun hlt => ?_⟩
  have hpn : p < n := Nat.lt_of_not_le fun q => hlt ((cle (by omega) (by omega)).mpr q)
  refine ⟨fun z1 z2 z3 z4 z5 z6 z7 z8 zS => z1 = Int32.ofNat a ∧ z2 = Int32.ofNat b ∧ z3 = Int32.ofNat m ∧ z4 = Int32.ofNat n ∧ z7 = Int32.ofNat p ∧ (∃ i, i ≤ m ∧ z8 = Int32.ofNat i) ∧ zS.1 3 = 1 ∧ zS.1 0 = 0, fun z1 z2 z3 z4 z5 z6 z7 z8 zS => m - z8.toNatClampNeg, ⟨rfl, rfl, rfl, rfl, rfl, ⟨0, Nat.zero_le _, rfl⟩, g1, g2⟩, fun z1 z2 z3 z4 z5 z6 z7 z8 zS hI => ?_⟩
  obtain ⟨rfl, rfl, rfl, rfl, rfl, ⟨i, hi, rfl⟩, k1, k2⟩ := hI
  refine ⟨fun _ => ⟨⟨rfl, rfl, rfl, rfl, ⟨p + 1, hpn, cs1 p⟩, k1, k2⟩, ?_⟩, fun hlt2 => ?_⟩
  · show n - (Int32.ofNat p + 1).toNatClampNeg < n - (Int32.ofNat p).toNatClampNeg
    rw [cs1, cn (by omega), cn (by omega)]
    omega
  have him : i < m := Nat.lt_of_not_le fun q => hlt2 ((cle (by omega) (by omega)).mpr q)
  refine ⟨fun w1 w2 w3 w4 w5 w6 w7 w8 w9 wS => w1 = Int32.ofNat a ∧ w2 = Int32.ofNat b ∧ w3 = Int32.ofNat m ∧ w4 = Int32.ofNat n ∧ w7 = Int32.ofNat p ∧ w8 = Int32.ofNat i ∧ (∃ j, j ≤ 1 ∧ w9 = Int32.ofNat j) ∧ wS.1 3 = 1 ∧ wS.1 0 = 0, fun w1 w2 w3 w4 w5 w6 w7 w8 w9 wS => 1 - w9.toNatClampNeg, ⟨rfl, rfl, rfl, rfl, rfl, rfl, ⟨0, Nat.zero_le _, rfl⟩, k1, k2⟩, fun w1 w2 w3 w4 w5 w6 w7 w8 w9 wS hI => ?_⟩
  obtain ⟨rfl, rfl, rfl, rfl, rfl, rfl, ⟨j, hj, rfl⟩, l1, l2⟩ := hI
  unfold b_slope_35
  rw [l1]
  refine ⟨fun _ => ⟨⟨rfl, rfl, rfl, rfl, rfl, ⟨i + 1, him, cs1 i⟩, l1, l2⟩, ?_⟩, fun hlt3 => ?_⟩
  · show m - (Int32.ofNat i + 1).toNatClampNeg < m - (Int32.ofNat i).toNatClampNeg
    rw [cs1, cn (by omega), cn (by omega)]
    omega
  · have hj0 : j = 0 := by
      have : ¬ 1 ≤ j := fun q => hlt3 ((cle (a := 1) (by decide) (by omega)).mpr q)
      omega
    subst hj0
    refine om_byte l1 (om_byte (M := (wS.1, wS.2.1, wS.2.2)) l1 ⟨fun e => absurd (congrArg Int32.toNatClampNeg e) (by rw [cn (by omega)]; show ¬ m = 0; omega), ?_, ⟨rfl, rfl, rfl, rfl, rfl, rfl, ⟨1, by decide, rfl⟩, l1, l2⟩, (show 1 - (Int32.ofNat 0 + 1).toNatClampNeg < 1 - (Int32.ofNat 0).toNatClampNeg by decide)⟩)
    refine n_vp (n_add (n_mul (rfl : (3 : Int32) = Int32.ofNat 3) (n_add (n_mul (rfl : (64 : Int32) = Int32.ofNat 64) (n_add rfl rfl)) (n_add rfl rfl))) rfl) (Nat.ble_eq_true_of_le ?_) (by decide)
    show ((3 * (((64 * ((b + p) % 4294967296)) % 4294967296 + (a + i) % 4294967296) % 4294967296)) % 4294967296 + 0) % 4294967296 < 12288
    rw [Nat.mod_eq_of_lt (show b + p < 4294967296 by omega), Nat.mod_eq_of_lt (show a + i < 4294967296 by omega)]
    exact dd3 ⟨b + p, by omega⟩ ⟨a + i, by omega⟩
theorem om_fill {M : ms} {K : ms → Prop} (F : FM M) {x y w h c : Int32} (h1 : ¬ rect x y w h → ∀ M' : ms, M'.1 0 = 1 → K M') (h0 : rect x y w h → ∀ M' : ms, M'.1 0 = 0 → K M') : p_fill x y w h c M K :=
  om_slope F (fun r M' e => h1 r (M'.1, M'.2.1, M'.2.2) e) (fun r M' e => h0 r (M'.1, M'.2.1, M'.2.2) e)
/-! answers that stand in the row -/
theorem outv {h : Nat → Nat → Int64} {z : Nat} {x : Int64} : va_up h 115 (vp_updL (h 115) z x) 115 z = x := by
  rw [up_at]
  unfold vp_updL
  rw [if_pos rfl]
theorem outK {S : cs} {K : Int32 → cs → Prop} {v : Int32} (h : ∀ S' : cs, S'.2.1 115 (0 : Int32).toNatClampNeg = v.toInt64 → K 0 S') : c_cl UL 115 = 904 ∧ (vp_in 0 (c_ln UL 115) ∧ (K 0 (S.1, va_up S.2.1 115 (vp_updL (S.2.1 115) (0 : Int32).toNatClampNeg v.toInt64), S.2.2))) :=
  ⟨by decide +kernel, vpc_ok (u := 115) (a := 0) (by decide +kernel) rfl rfl, h _ (show va_up S.2.1 115 (vp_updL (S.2.1 115) (0 : Int32).toNatClampNeg v.toInt64) 115 (0 : Int32).toNatClampNeg = v.toInt64 from outv)⟩
/-! at -/
def okA (x y p : Int32) : Prop := rect x y 1 1 ∧ ¬ p < 0 ∧ ¬ 0 < p
theorem p_z {p : Int32} (h1 : ¬ p < 0) (h2 : ¬ 0 < p) : p = 0 := by
  apply Int32.toInt_inj.mp
  have a1 : ¬ p.toInt < 0 := fun q => h1 (lt0.mpr q)
  have a2 : ¬ (0 : Int) < p.toInt := fun q => h2 (Int32.lt_iff_toInt_lt.mpr q)
  show p.toInt = 0
  omega
theorem oc_at {S : cs} {K : Int32 → cs → Prop} (F : FC S) {x y p : Int32} (h1 : ¬ okA x y p → ∀ S', K 1 S') (h0 : okA x y p → ∀ S' : cs, S'.2.1 115 (0 : Int32).toNatClampNeg = (0 : Int32).toInt64 → K 0 S') : p_Lw_at UL 0 x y p 115 S K := by
  obtain ⟨f0, f1, -, -, -, -, -, -, f8, f9, f10, -, -, -, -, fz⟩ := F
  unfold p_Lw_at p_B_at
  rw [f0]
  refine ⟨by decide +kernel, nu1 (by decide), by decide +kernel, oc_holds f8 f9 (fun r => ⟨fun hn => absurd hn (by decide), fun _ => ?_⟩) (fun r => ⟨fun _ => ⟨rfl, h1 (fun o => r o.1) S⟩, fun hn => absurd rfl hn⟩)⟩
  rw [f0, f10, f1]
  refine ⟨nu1 (by decide), by decide +kernel, isW3 (fun hh => ⟨rfl, h1 (fun o => hh.elim o.2.1 o.2.2) S⟩) (fun p1 p2 => ?_)⟩
  have ep : p = 0 := p_z p1 p2
  subst ep
  obtain ⟨a, b, m, n, rfl, rfl, em, en, hm, hn, ham, hbn⟩ := rect_nat r
  refine ⟨nu1 (by decide), nu1 (by decide), by decide +kernel, ?_, ?_⟩
  · have e : c_ln UL 2 = 12288 := by decide +kernel
    rw [e]
    refine n_vp (n_add (n_add (n_mul (rfl : (4096 : Int32) = Int32.ofNat 4096) (rfl : (0 : Int32) = Int32.ofNat 0)) (n_mul (rfl : (64 : Int32) = Int32.ofNat 64) rfl)) rfl) (Nat.ble_eq_true_of_le ?_) (by decide)
    show (((4096 * 0) % 4294967296 + (64 * b) % 4294967296) % 4294967296 + a) % 4294967296 < 12288
    omega
  · rw [fz]
    exact outK (h0 ⟨r, p1, p2⟩)
theorem om_at {M : ms} {K : Int32 → ms → Prop} (F : FM M) {x y p : Int32} (h1 : ¬ okA x y p → ∀ (v : Int32) (M' : ms), M'.1 0 = 1 → K v M') (h0 : okA x y p → ∀ M' : ms, M'.1 0 = 0 → K 0 M') : p_at x y p M K := by
  obtain ⟨f1, f2, f3, -, -, f4, -⟩ := F
  have b37 : ¬ okA x y p → b_at_37 x y p M K := fun r => ⟨fun q => absurd q u1n, fun _ => h1 r 0 _ rfl⟩
  unfold p_at
  rw [f1, f2, f3]
  refine ⟨fun c => b37 (fun o => absurd o.1.1 (by have := lt0.mp c; omega)), fun c1 => ⟨fun c => b37 (fun o => by have h5 := le8.mp c; have h6 := o.1.2.2.2.2.1; have h7 : (1 : Int32).toInt = 1 := rfl; omega), fun c2 => ⟨fun c => b37 (fun o => absurd o.1.2.1 (by have := lt0.mp c; omega)), fun c3 => ⟨fun c => b37 (fun o => by have h5 := le8.mp c; have h6 := o.1.2.2.2.2.2; have h7 : (1 : Int32).toInt = 1 := rfl; omega), fun c4 => ⟨fun c => b37 (fun o => o.2.1 c), fun c5 => ⟨fun c6 => ?_, fun c => b37 (fun o => c (by rw [p_z o.2.1 o.2.2]; decide))⟩⟩⟩⟩⟩⟩
  have d1 : 0 ≤ x.toInt := Int.not_lt.mp (fun q => c1 (lt0.mpr q))
  have d2 : 0 ≤ y.toInt := Int.not_lt.mp (fun q => c3 (lt0.mpr q))
  have d3 : x.toInt < 8 := Int.not_le.mp (fun q => c2 (le8.mpr q))
  have d4 : y.toInt < 8 := Int.not_le.mp (fun q => c4 (le8.mpr q))
  have h7 : (1 : Int32).toInt = 1 := rfl
  have r : rect x y 1 1 := ⟨d1, d2, by omega, by omega, by omega, by omega⟩
  have p2 : ¬ 0 < p := fun q => by
    have q1 : (0 : Int) < p.toInt := Int32.lt_iff_toInt_lt.mp q
    have q2 := lt1.mp c6
    omega
  have ep : p = 0 := p_z c5 p2
  subst ep
  obtain ⟨a, b, m, n, rfl, rfl, em, en, hm, hn, ham, hbn⟩ := rect_nat r
  refine ⟨fun _ => ⟨?_, ?_⟩, fun q => absurd u0l q⟩
  · refine n_vp (n_add (n_mul (rfl : (3 : Int32) = Int32.ofNat 3) (n_add (n_mul (rfl : (64 : Int32) = Int32.ofNat 64) rfl) rfl)) (rfl : (0 : Int32) = Int32.ofNat 0)) (Nat.ble_eq_true_of_le ?_) (by decide)
    exact dd3 ⟨b, by omega⟩ ⟨a, by omega⟩
  · rw [f4]
    exact h0 ⟨r, c5, p2⟩ _ rfl
/-! scale -/
def okS (t a b : Int32) : Prop := (¬ t < 0 ∧ ¬ 1 < t) ∧ (¬ a < (-1000) ∧ ¬ 1000 < a) ∧ ¬ b < (-1000) ∧ ¬ 1000 < b
theorem t01 {t : Int32} (h1 : ¬ t < 0) (h2 : ¬ 1 < t) : ∃ q : Nat, q ≤ 1 ∧ t = Int32.ofNat q := by
  have a1 : ¬ t.toInt < 0 := fun q => h1 (lt0.mpr q)
  have a2 : ¬ (1 : Int) < t.toInt := fun q => h2 (Int32.lt_iff_toInt_lt.mpr q)
  obtain ⟨a, ea, ha, -⟩ := natof (x := t) (by omega)
  exact ⟨a, by omega, ea⟩
theorem clamp_any {x a b : Int32} {K : Int32 → Prop} (h : ∀ v, K v) : p_B_clamp x a b K := ⟨fun _ => ⟨fun _ => h _, fun _ => h _⟩, fun _ => h _⟩
theorem i128 {q j : Nat} (hq : q ≤ 1) (hj : j < 64) : vp_in (64 * Int32.ofNat q + Int32.ofNat j) 128 := by
  refine n_vp (n_add (n_mul (rfl : (64 : Int32) = Int32.ofNat 64) rfl) rfl) (Nat.ble_eq_true_of_le ?_) (by decide)
  show ((64 * q) % 4294967296 + j) % 4294967296 < 128
  omega
theorem oc_scale {S : cs} {K : Int32 → cs → Prop} (F : FC S) {t a b : Int32} (h1 : ¬ okS t a b → ∀ S', K 1 S') (h0 : okS t a b → ∀ S', K 0 S') : p_Lw_scale UL 0 t a b S K := by
  obtain ⟨-, -, f2, -⟩ := F
  refine ⟨by decide +kernel, isW2 (fun h => ⟨rfl, h1 (fun o => h.elim o.1.1 o.1.2) S⟩) (fun t1 t2 => isW2 (fun h => ⟨rfl, h1 (fun o => h.elim o.2.1.1 o.2.1.2) S⟩) (fun a1 a2 => isW3 (fun h => ⟨rfl, h1 (fun o => h.elim o.2.2.1 o.2.2.2) S⟩) (fun b1 b2 => ?_)))⟩
  have h9 := h0 ⟨⟨t1, t2⟩, ⟨a1, a2⟩, b1, b2⟩
  obtain ⟨q, hq, rfl⟩ := t01 t1 t2
  refine ⟨fun y1 y2 y3 y4 yS => y1 = Int32.ofNat q ∧ (∃ j, j ≤ 64 ∧ y4 = Int32.ofNat j) ∧ yS.2.2 0 1 = 3, fun y1 y2 y3 y4 yS => 64 - y4.toNatClampNeg, ⟨rfl, ⟨0, by decide, rfl⟩, f2⟩, fun y1 y2 y3 y4 yS hI => ?_⟩
  obtain ⟨rfl, ⟨j, hj, rfl⟩, g⟩ := hI
  unfold b_B_scale_48
  refine ⟨fun _ => h9 _, fun hlt => ?_⟩
  have hj64 : j < 64 := Nat.lt_of_not_le fun z => hlt ((cle (a := 64) (by decide) (by omega)).mpr z)
  rw [g]
  refine ⟨nu1 (by decide), clamp_any (fun v => ⟨by decide +kernel, ?_, ⟨rfl, ⟨j + 1, hj64, cs1 j⟩, g⟩, ?_⟩)⟩
  · have e : c_ln UL 3 = 128 := by decide +kernel
    rw [e]
    exact i128 hq hj64
  · show 64 - (Int32.ofNat j + 1).toNatClampNeg < 64 - (Int32.ofNat j).toNatClampNeg
    rw [cs1, cn (by omega), cn (by omega)]
    omega
theorem om_scale {M : ms} {K : ms → Prop} {t a b : Int32} (h1 : ¬ okS t a b → ∀ M' : ms, M'.1 0 = 1 → K M') (h0 : okS t a b → ∀ M' : ms, M'.1 0 = 0 → K M') : p_scale t a b M K := by
  have b38 : ¬ okS t a b → b_scale_38 t a b M K := fun r => by
    refine ⟨fun y1 y2 y3 y4 yM => y4 = 0 ∧ yM.1 0 = 1, fun _ _ _ _ _ => 0, ⟨rfl, rfl⟩, fun y1 y2 y3 y4 yM hI => ?_⟩
    obtain ⟨rfl, g⟩ := hI
    unfold b_scale_49
    rw [g]
    exact ⟨fun h => absurd h (by decide), fun _ => ⟨fun _ => h1 r _ g, fun h => absurd h (by decide)⟩⟩
  have b43 : okS t a b → b_scale_43 t a b 0 M K := fun r => by
    have h9 := h0 r
    obtain ⟨q, hq, rfl⟩ := t01 r.1.1 r.1.2
    refine ⟨fun y1 y2 y3 y4 yM => y1 = Int32.ofNat q ∧ (∃ j, j ≤ 64 ∧ y4 = Int32.ofNat j) ∧ yM.1 0 = 0, fun y1 y2 y3 y4 yM => 64 - y4.toNatClampNeg, ⟨rfl, ⟨0, by decide, rfl⟩, rfl⟩, fun y1 y2 y3 y4 yM hI => ?_⟩
    obtain ⟨rfl, ⟨j, hj, rfl⟩, g⟩ := hI
    unfold b_scale_49
    rw [g]
    refine ⟨fun _ => h9 _ g, fun hlt => ⟨fun h => absurd rfl h, fun _ => ?_⟩⟩
    have hj64 : j < 64 := Nat.lt_of_not_le fun z => hlt ((cle (a := 64) (by decide) (by omega)).mpr z)
    have go : ∀ v : Int32, b_scale_117 (Int32.ofNat q) y2 y3 (Int32.ofNat j) (64 * Int32.ofNat q + Int32.ofNat j) v yM (fun zx1 zx2 zx3 zx4 zM => (zx1 = Int32.ofNat q ∧ (∃ j, j ≤ 64 ∧ zx4 = Int32.ofNat j) ∧ zM.1 0 = 0) ∧ 64 - zx4.toNatClampNeg < 64 - (Int32.ofNat j).toNatClampNeg) K := fun v => by
      refine ⟨i128 hq hj64, ⟨rfl, ⟨j + 1, hj64, cs1 j⟩, g⟩, ?_⟩
      rw [cs1, cn (by omega), cn (by omega)]
      omega
    exact ⟨fun _ => ⟨fun _ => go _, fun _ => go _⟩, fun _ => go _⟩
  have b10 : (¬ t < 0 ∧ ¬ 1 < t) → b_scale_10 t a b M K := fun ht => ⟨fun c => b38 (fun o => o.2.1.1 c), fun a1 => ⟨fun c => b38 (fun o => o.2.1.2 c), fun a2 => ⟨fun c => b38 (fun o => o.2.2.1 c), fun a3 => ⟨fun c => b43 ⟨ht, ⟨a1, a2⟩, a3, fun q => by
      have q1 : (1000 : Int) < b.toInt := Int32.lt_iff_toInt_lt.mp q
      have q2 : b.toInt ≤ 1000 := Int32.le_iff_toInt_le.mp c
      omega⟩, fun c => b38 (fun o => c (by
      have q1 : ¬ (1000 : Int) < b.toInt := fun q => o.2.2.2 (Int32.lt_iff_toInt_lt.mpr q)
      exact Int32.le_iff_toInt_le.mpr (show b.toInt ≤ 1000 by omega)))⟩⟩⟩⟩
  refine ⟨fun e => b10 (by rw [e]; decide), fun e0 => ⟨fun e1 => b38 (fun o => ?_), fun e1 => b10 (by rw [e1]; decide)⟩⟩
  obtain ⟨q, hq, rfl⟩ := t01 o.1.1 o.1.2
  rcases (show q = 0 ∨ q = 1 by omega) with rfl | rfl
  · exact e0 rfl
  · exact e1 rfl
/-! entry -/
def okE (v u : Int32) : Prop := (¬ v < 0 ∧ ¬ 7 < v) ∧ ¬ u < 0 ∧ ¬ 7 < u
def okF (t e : Int32) : Prop := (¬ t < 0 ∧ ¬ 1 < t) ∧ ¬ e < 1 ∧ ¬ 255 < e
theorem t07 {t : Int32} (h1 : ¬ t < 0) (h2 : ¬ 7 < t) : ∃ q : Nat, q ≤ 7 ∧ t = Int32.ofNat q := by
  have a1 : ¬ t.toInt < 0 := fun q => h1 (lt0.mpr q)
  have a2 : ¬ (7 : Int) < t.toInt := fun q => h2 (Int32.lt_iff_toInt_lt.mpr q)
  obtain ⟨a, ea, ha, -⟩ := natof (x := t) (by omega)
  exact ⟨a, by omega, ea⟩
theorem j128 {q r s : Nat} (hq : q ≤ 1) (hr : r ≤ 7) (hs : s ≤ 7) : vp_in ((64 * Int32.ofNat q + 8 * Int32.ofNat r) + Int32.ofNat s) 128 := by
  refine n_vp (n_add (n_add (n_mul (rfl : (64 : Int32) = Int32.ofNat 64) rfl) (n_mul (rfl : (8 : Int32) = Int32.ofNat 8) rfl)) rfl) (Nat.ble_eq_true_of_le ?_) (by decide)
  show (((64 * q) % 4294967296 + (8 * r) % 4294967296) % 4294967296 + s) % 4294967296 < 128
  omega
theorem oc_entry {S : cs} {K : Int32 → cs → Prop} (F : FC S) {t v u e : Int32} (h1 : ¬ okE v u → ∀ S', K 1 S') (h2 : okE v u → ¬ okF t e → ∀ S', K 2 S') (h0 : okE v u → okF t e → ∀ S', K 0 S') : p_Lw_entry UL 0 t v u e S K := by
  obtain ⟨-, -, f2, -⟩ := F
  refine ⟨by decide +kernel, isW2 (fun h => Or.inl ⟨rfl, h1 (fun o => h.elim o.1.1 o.1.2) S⟩) (fun v1 v2 => isW3 (fun h => Or.inl ⟨rfl, h1 (fun o => h.elim o.2.1 o.2.2) S⟩) (fun u1 u2 => isW2 (fun h => Or.inr ⟨rfl, h2 ⟨⟨v1, v2⟩, u1, u2⟩ (fun o => h.elim o.1.1 o.1.2) S⟩) (fun t1 t2 => isW3 (fun h => Or.inr ⟨rfl, h2 ⟨⟨v1, v2⟩, u1, u2⟩ (fun o => h.elim o.2.1 o.2.2) S⟩) (fun e1 e2 => ?_))))⟩
  have h9 := h0 ⟨⟨v1, v2⟩, u1, u2⟩ ⟨⟨t1, t2⟩, e1, e2⟩
  obtain ⟨q, hq, rfl⟩ := t01 t1 t2
  obtain ⟨r, hr, rfl⟩ := t07 v1 v2
  obtain ⟨s, hs, rfl⟩ := t07 u1 u2
  rw [f2]
  refine ⟨nu1 (by decide), by decide +kernel, ?_, h9 _⟩
  have e : c_ln UL 3 = 128 := by decide +kernel
  rw [e]
  exact j128 hq hr hs
theorem om_entry {M : ms} {K : ms → Prop} {t v u e : Int32} (h1 : ¬ okE v u → ∀ M' : ms, M'.1 0 = 1 → K M') (h2 : okE v u → ¬ okF t e → ∀ M' : ms, M'.1 0 = 2 → K M') (h0 : okE v u → okF t e → ∀ M' : ms, M'.1 0 = 0 → K M') : p_entry t v u e M K := by
  have b21 : ¬ okE v u → b_entry_21 t v u e M K := fun r => ⟨fun _ => h1 r _ rfl, fun q => absurd q u1z⟩
  have b48 : okE v u → ¬ okF t e → b_entry_48 t v u e M K := fun r r2 => ⟨fun _ => h2 r r2 _ rfl, fun q => absurd q u2z⟩
  have b53 : okE v u → okF t e → b_entry_53 t v u e 0 M K := fun r r2 => by
    have h9 := h0 r r2
    obtain ⟨q, hq, rfl⟩ := t01 r2.1.1 r2.1.2
    obtain ⟨w, hw, rfl⟩ := t07 r.1.1 r.1.2
    obtain ⟨s, hs, rfl⟩ := t07 r.2.1 r.2.2
    exact ⟨fun q => absurd rfl q, fun _ => ⟨j128 hq hw hs, h9 _ rfl⟩⟩
  have b34 : okE v u → (¬ t < 0 ∧ ¬ 1 < t) → b_entry_34 t v u e M K := fun r ht => ⟨fun c => b48 r (fun o => o.2.1 c), fun e1 => ⟨fun c => b53 r ⟨ht, e1, fun q => by
      have q1 : (255 : Int) < e.toInt := Int32.lt_iff_toInt_lt.mp q
      have q2 : e.toInt ≤ 255 := Int32.le_iff_toInt_le.mp c
      omega⟩, fun c => b48 r (fun o => c (by
      have q1 : ¬ (255 : Int) < e.toInt := fun q => o.2.2 (Int32.lt_iff_toInt_lt.mpr q)
      exact Int32.le_iff_toInt_le.mpr (show e.toInt ≤ 255 by omega)))⟩⟩
  refine ⟨fun c => b21 (fun o => o.1.1 c), fun v1 => ⟨fun c => b21 (fun o => o.1.2 c), fun v2 => ⟨fun c => b21 (fun o => o.2.1 c), fun u1 => ⟨fun c => ?_, fun c => b21 (fun o => c (by
      have q1 : ¬ (7 : Int) < u.toInt := fun q => o.2.2 (Int32.lt_iff_toInt_lt.mpr q)
      exact Int32.le_iff_toInt_le.mpr (show u.toInt ≤ 7 by omega)))⟩⟩⟩⟩
  have r : okE v u := ⟨⟨v1, v2⟩, u1, fun q => by
      have q1 : (7 : Int) < u.toInt := Int32.lt_iff_toInt_lt.mp q
      have q2 : u.toInt ≤ 7 := Int32.le_iff_toInt_le.mp c
      omega⟩
  refine ⟨fun e0 => b34 r (by rw [e0]; decide), fun e0 => ⟨fun e1 => b48 r (fun o => ?_), fun e1 => b34 r (by rw [e1]; decide)⟩⟩
  obtain ⟨q, hq, rfl⟩ := t01 o.1.1 o.1.2
  rcases (show q = 0 ∨ q = 1 by omega) with rfl | rfl
  · exact e0 rfl
  · exact e1 rfl
