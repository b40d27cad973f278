theorem nI_cl {x : Int32} (h : 0 ≤ x.toInt) : x = nI x.toNatClampNeg := by
  apply Int32.toInt.inj
  have q := cl_i h
  have q2 := (B_any x).2
  rw [nI_toInt (by omega), q]
theorem UW_ok {r r' k L : Nat} {S : ms} (hL : L = 1 ∨ L = 3) (hA : ∀ l, l < L → B 1 2 (S.2.1 r l)) (hW : B 1 64 (S.2.1 r' 0)) (hk : B 1 64 (S.1 k)) : B 1 8 (UWs r r' k S L) ∧ ∀ l, l < L → 1 ≤ bwU r S L l ∧ (UWs r r' k S L).toNatClampNeg * bwU r S L l ≤ 8 := by
  have ga : B 1 2 (gmx (S.2.1 r) 0 L) := gmx_B (fun j hj => by rw [Nat.zero_add]; exact hA j hj)
  have w1 := hW.1
  have w2 := hW.2
  have k1 := hk.1
  have k2 := hk.2
  have t1 : (1 : Int32).toInt = 1 := by decide
  have t2 : (2 : Int32).toInt = 2 := by decide
  have t8 : (8 : Int32).toInt = 8 := by decide
  rcases hL with rfl | rfl
  · have hg : gmx (S.2.1 r) 0 1 = S.2.1 r 0 := by
      have h0 := hA 0 (by decide)
      unfold gmx
      split
      · next hc =>
        have hc : (S.2.1 r 0).toInt ≤ (1 : Int32).toInt := i_le hc
        exact B_same (a := 1) (show B 1 1 (1 : Int32) from ⟨by decide, by decide⟩) ⟨h0.1, by omega⟩
      · rfl
    have hv : ∃ x : Int32, upw (S.2.1 r' 0 * S.2.1 r 0) (gmx (S.2.1 r) 0 1) = x ∧ B 1 64 x := by
      refine ⟨_, rfl, ?_⟩
      rw [hg]
      rcases sp_12 (hA 0 (by decide)) with e | e
      · rw [e]
        have em : (S.2.1 r' 0 * 1).toInt = (S.2.1 r' 0).toInt * 1 := t_mul hW (show B 1 1 (1 : Int32) from ⟨by decide, by decide⟩) (by decide) (by decide) (by decide)
        have := (upw_B (x := S.2.1 r' 0 * 1) (y := 1) (m := 64) (n := 1) ⟨by omega, by omega⟩ ⟨by decide, by decide⟩ (by decide)).2
        rw [t1] at this
        exact ⟨by omega, by omega⟩
      · rw [e]
        have em : (S.2.1 r' 0 * 2).toInt = (S.2.1 r' 0).toInt * 2 := t_mul hW (show B 2 2 (2 : Int32) from ⟨by decide, by decide⟩) (by decide) (by decide) (by decide)
        have := (upw_B (x := S.2.1 r' 0 * 2) (y := 2) (m := 128) (n := 2) ⟨by omega, by omega⟩ ⟨by decide, by decide⟩ (by decide)).2
        rw [t2] at this
        exact ⟨by omega, by omega⟩
    obtain ⟨x, ex, bx⟩ := hv
    have eu : UWs r r' k S 1 = upw x 8 := by unfold UWs; rw [if_pos rfl, ex]
    have h3 := (upw_B (x := x) (y := 8) (m := 64) (n := 8) bx ⟨by decide, by decide⟩ (by decide)).2
    rw [t8] at h3
    have x1 := bx.1
    have x2 := bx.2
    have hB : B 1 8 (UWs r r' k S 1) := by rw [eu]; exact ⟨by omega, by omega⟩
    refine ⟨hB, fun l hl => ?_⟩
    have : bwU r S 1 l = 1 := by unfold bwU; rw [if_pos rfl]
    rw [this]
    have := cl_i (x := UWs r r' k S 1) (by have := hB.1; omega)
    have := hB.2
    exact ⟨by omega, by omega⟩
  · have eu : UWs r r' k S 3 = upw (S.1 k) (8 * gmx (S.2.1 r) 0 3) := by unfold UWs; rw [if_neg (by decide)]
    have hbw : ∀ l, l < 3 → bwU r S 3 l = (S.2.1 r l).toNatClampNeg := fun l _ => by unfold bwU; rw [if_neg (by decide)]
    have hle : ∀ l, l < 3 → (S.2.1 r l).toInt ≤ (gmx (S.2.1 r) 0 3).toInt := fun l hl => by
      have := gmx_ge (g := S.2.1 r) (a := 0) (n := 3) (j := l) hl
      rw [Nat.zero_add] at this
      exact this
    rcases sp_12 ga with e | e
    · rw [e] at eu hle
      have h3 := (upw_B (x := S.1 k) (y := 8 * 1) (m := 64) (n := 8) hk ⟨by decide, by decide⟩ (by decide)).2
      have t81 : (8 * 1 : Int32).toInt = 8 := by decide
      rw [t81] at h3
      have hB : B 1 8 (UWs r r' k S 3) := by rw [eu]; exact ⟨by omega, by omega⟩
      refine ⟨hB, fun l hl => ?_⟩
      rw [hbw l hl]
      have q1 := (hA l hl).1
      have q2 := hle l hl
      have q3 := cl_i (x := S.2.1 r l) (by omega)
      have q4 := cl_i (x := UWs r r' k S 3) (by have := hB.1; omega)
      have q5 := hB.2
      have q6 : (S.2.1 r l).toNatClampNeg = 1 := by omega
      rw [q6]
      exact ⟨by omega, by omega⟩
    · rw [e] at eu hle
      have h3 := (upw_B (x := S.1 k) (y := 8 * 2) (m := 64) (n := 16) hk ⟨by decide, by decide⟩ (by decide)).2
      have t81 : (8 * 2 : Int32).toInt = 16 := by decide
      rw [t81] at h3
      have hB : B 1 4 (UWs r r' k S 3) := by rw [eu]; exact ⟨by omega, by omega⟩
      refine ⟨B_w hB (by decide) (by decide), fun l hl => ?_⟩
      rw [hbw l hl]
      have q1 := (hA l hl).1
      have q2 := hle l hl
      have q3 := cl_i (x := S.2.1 r l) (by omega)
      have q4 := cl_i (x := UWs r r' k S 3) (by have := hB.1; omega)
      have q5 := hB.2
      have q6 : (UWs r r' k S 3).toNatClampNeg * (S.2.1 r l).toNatClampNeg ≤ 4 * 2 := Nat.mul_le_mul (by omega) (by omega)
      exact ⟨by omega, q6⟩
section UNITS2
variable {x1 : Int32} {Q : ms → Prop} {ι : Type} {Y : ms → Int} {X : ι → ms → Int} {v : Nat → Int} {w : ι → Nat → Int} {vb : Nat → Int} {wb : ι → Nat → Int} {N ry : Int} {rx : ι → Int}
theorem h_units (H : TI x1 Q Y X v w vb wb N) (HF : FI x1 Q Y X N ry rx) {e L : Nat} {S : ms} {K : ms → Prop} (he : e ≤ 65535) (hI : IM S) (hQ : Q S) (hlv : qf (S.2.1 19) 0 12288 (-2049) 2049) (h14 : S.2.1 14 0 = nI L) (hL : L = 1 ∨ L = 3)
    (hA : ∀ l, l < L → B 1 2 (S.2.1 15 l) ∧ B 1 2 (S.2.1 16 l) ∧ B 1 8 (S.2.1 17 l)) (hW : B 1 64 (S.2.1 12 0)) (hH : B 1 64 (S.2.1 13 0))
    (hY : Y S + ry * (uNum S L : Nat) + uTot (fun j => v j + vb (bitj j)) S L e ≤ N)
    (hK : ∀ Z : ms, IM Z → Q Z → ag [9, 32, 33] [8, 26, 53] S Z → (∀ j, 3 ≤ j → Z.2.1 53 j = S.2.1 53 j) → Y Z ≤ Y S + ry * (uNum S L : Nat) + uTot (fun j => v j + vb (bitj j)) S L e → (∀ i, X i Z ≤ X i S + rx i * (uNum S L : Nat) + uTot (fun j => w i j + wb i (bitj j)) S L e) → K Z) : p_units x1 (nI e) S K := by
  have z31 : ∀ {n : Nat}, n < 1000000 → n < 2 ^ 31 := fun h => by omega
  have L3 : L ≤ 3 := by omega
  obtain ⟨uB, ub⟩ := UW_ok (r := 15) (r' := 12) (k := 1) hL (fun l hl => (hA l hl).1) hW (bf_1 hI)
  obtain ⟨vB, ub2⟩ := UW_ok (r := 16) (r' := 13) (k := 2) hL (fun l hl => (hA l hl).2.1) hH (bf_2 hI)
  have eu := nI_cl (x := UWs 15 12 1 S L) (by have := uB.1; omega)
  have ev := nI_cl (x := UWs 16 13 2 S L) (by have := vB.1; omega)
  have cu := cl_i (x := UWs 15 12 1 S L) (by have := uB.1; omega)
  have cv := cl_i (x := UWs 16 13 2 S L) (by have := vB.1; omega)
  have u1 := uB.1
  have u2 := uB.2
  have v1 := vB.1
  have v2 := vB.2
  have go : ∀ x3 : Int32, ((x3 = 0 ∧ ¬ L = 1) ∨ (x3 = 1 ∧ L = 1)) → e_units_99 x1 (nI e) x3 (UWs 15 12 1 S L) (UWs 16 13 2 S L) 0 S K := by
    intro x3 hx3
    refine ⟨fun y1 y2 y3 y6 y7 y8 yS => x1 = y1 ∧ nI e = y2 ∧ x3 = y3 ∧ UWs 15 12 1 S L = y6 ∧ UWs 16 13 2 S L = y7 ∧ IM yS ∧ Q yS ∧ ag [9, 32, 33] [8, 26, 53] S yS ∧ Y yS = Y S ∧ (∀ i, X i yS = X i S) ∧ ∃ a : Nat, y8 = nI a ∧ a ≤ 3 ∧ yS.2.1 53 = zz a (S.2.1 53), fun _ _ _ _ _ y8 _ => 3 - y8.toNatClampNeg, ⟨rfl, rfl, rfl, rfl, rfl, hI, hQ, ag_refl, rfl, fun _ => rfl, 0, rfl, by omega, rfl⟩, ?_⟩
    rintro _ _ _ _ _ _ C ⟨rfl, rfl, rfl, rfl, rfl, hC, qC, gC, yC, xC, a, rfl, ha, eC⟩
    unfold b_units_99
    have n3' : (3 : Int32) = nI 3 := rfl
    rw [n3', nI_leI (by decide) (z31 (by omega))]
    refine ⟨fun h => ?_, fun h => ⟨nI_in (by omega) (by decide), ?_⟩⟩
    · have : a = 3 := by omega
      subst this
      rw [eu, ev]
      refine h_units122 H HF (S := S) (T := C) (L := L) (e := e) he hlv h14 L3 hx3 (fun l hl => ⟨(ub l hl).1, (ub2 l hl).1, (ub l hl).2, (ub2 l hl).2, (hA l hl).1, (hA l hl).2.1, (hA l hl).2.2⟩) ⟨by omega, by omega⟩ ⟨by omega, by omega⟩ hC qC gC (fun j hj => ?_) (fun j hj => ?_) ?_ hY ?_ hK
      · rw [eC, zz_0 hj]
        exact ⟨by decide, by decide⟩
      · rw [eC, zz_hi hj]
      · rw [eC, yC]
        exact Int.le_refl _
      · intro i
        rw [eC, xC i]
        exact Int.le_refl _
    · have lc := H.loc (S := C) (g := upd (C.2.1 53) (nI a).toNatClampNeg 0)
      rw [nI_1]
      refine ⟨⟨rfl, rfl, rfl, rfl, rfl, IM_r (r := 53) (i := (nI a).toNatClampNeg) (v := 0) hC (B_any _) (by decide) (by decide), lc.1 qC, ag_r gC (by decide), lc.2.1.trans yC, fun i => (lc.2.2 i).trans (xC i), a + 1, rfl, by omega, ?_⟩, ?_⟩
      · show va_up C.2.1 53 _ 53 = _
        rw [up_at, eC, nI_clamp (z31 (by omega))]
        rfl
      · show 3 - (nI (a + 1)).toNatClampNeg < 3 - (nI a).toNatClampNeg
        rw [nI_clamp (z31 (by omega)), nI_clamp (z31 (by omega))]
        omega
  have ga15 : B 1 2 (gmx (S.2.1 15) 0 L) := gmx_B (fun j hj => by rw [Nat.zero_add]; exact (hA j hj).1)
  have ga16 : B 1 2 (gmx (S.2.1 16) 0 L) := gmx_B (fun j hj => by rw [Nat.zero_add]; exact (hA j hj).2.1)
  have nz8 : ∀ {a : Int32}, B 1 2 a → ¬ (8 * a = 0) := fun {a} ha => by
    rcases sp_12 ha with e | e <;> (rw [e]; decide)
  have nz1 : ∀ {a : Int32}, B 1 2 a → ¬ (a = 0) := fun {a} ha => by
    rcases sp_12 ha with e | e <;> (rw [e]; decide)
  have c30 : ((3 * 0 : Int32) + 0).toNatClampNeg = 0 := by decide
  have i9 : vp_in ((3 * 0 : Int32) + 0) 9 := nI_in (c := 0) (by decide) (by decide)
  have i3 : vp_in (0 : Int32) 3 := nI_in (c := 0) (by decide) (by decide)
  unfold p_units
  rw [z0c, h14]
  refine ⟨i3, fun h1 => ?_, fun h1 => ?_⟩
  · have hne : ¬ L = 1 := fun h => h1 (by rw [h]; rfl)
    have g := go 0 (Or.inl ⟨rfl, hne⟩)
    have e1 : UWs 15 12 1 S L = upw (S.1 1) (8 * gmx (S.2.1 15) 0 L) := by unfold UWs; rw [if_neg hne]
    have e2 : UWs 16 13 2 S L = upw (S.1 2) (8 * gmx (S.2.1 16) 0 L) := by unfold UWs; rw [if_neg hne]
    rw [e1, e2] at g
    unfold b_units_15
    refine hg15 h14 L3 ?_
    show p_greatest 0 0 S _
    refine hg16 h14 L3 ?_
    refine ⟨fun _ => ?_, fun h => absurd rfl h⟩
    unfold p_upward
    refine ⟨nz8 ga15, ?_⟩
    show b_units_62 x1 (nI e) 0 _ _ S K
    unfold b_units_62
    refine ⟨fun _ => ?_, fun h => absurd rfl h⟩
    unfold p_upward
    refine ⟨nz8 ga16, ?_⟩
    exact g
  · have hne : L = 1 := by
      have o1 : (1 : Int32) = nI 1 := rfl
      rw [o1, nI_eq (z31 (by omega)) (by decide)] at h1
      exact h1
    have g := go 1 (Or.inr ⟨rfl, hne⟩)
    have e1 : UWs 15 12 1 S L = upw (upw (S.2.1 12 0 * S.2.1 15 0) (gmx (S.2.1 15) 0 L)) 8 := by unfold UWs; rw [if_pos hne]
    have e2 : UWs 16 13 2 S L = upw (upw (S.2.1 13 0 * S.2.1 16 0) (gmx (S.2.1 16) 0 L)) 8 := by unfold UWs; rw [if_pos hne]
    rw [e1, e2] at g
    unfold b_units_15
    refine hg15 h14 L3 ?_
    show p_greatest 0 0 S _
    refine hg16 h14 L3 ?_
    refine ⟨fun h => absurd h (by decide), fun _ => ?_⟩
    show p_layerWide 0 0 S _
    unfold p_layerWide
    rw [z0c, c30]
    refine ⟨i3, i9, hg15 h14 L3 ?_⟩
    unfold p_upward
    refine ⟨nz1 ga15, ?_⟩
    refine ⟨by decide, ?_⟩
    show b_units_62 x1 (nI e) 1 _ _ S K
    unfold b_units_62
    refine ⟨fun h => absurd h (by decide), fun _ => ?_⟩
    unfold p_layerHigh
    rw [z0c, c30]
    refine ⟨i3, i9, hg16 h14 L3 ?_⟩
    unfold p_upward
    refine ⟨nz1 ga16, ?_⟩
    refine ⟨by decide, ?_⟩
    exact g
end UNITS2
