/-! making a code -/
theorem nI_m1 (a : Nat) : nI (a + 1) + (-1) = nI a := by
  rw [← Int32.sub_eq_add_neg]
  exact nI_pred a
theorem mc5 {c : Nat} (hc : c ≤ 3) {T : ms} {K : ms → Prop} (hT : IM T) (hK : ∀ Z : ms, IM Z → ag [] [28] T Z → K Z) : e_makeCode_586 (nI c) 0 1 T K := by
  have z31 : ∀ {n : Nat}, n < 1000000 → n < 2 ^ 31 := fun h => by omega
  have n16 : (16 : Int32) = nI 16 := rfl
  have n256 : (256 : Int32) = nI 256 := rfl
  have n257 : (257 : Int32) = nI 257 := rfl
  refine ⟨fun y1 _ y5 yS => nI c = y1 ∧ IM yS ∧ ag [] [28] T yS ∧ ∃ b : Nat, y5 = nI b ∧ b ≤ 17, fun _ _ y5 _ => 17 - y5.toNatClampNeg, ⟨rfl, hT, ag_refl, 1, rfl, by omega⟩, ?_⟩
  rintro _ x4 _ U ⟨rfl, hU, gU, b, rfl, hb⟩
  unfold b_makeCode_586
  rw [n16, nI_ltI (by decide) (z31 (by omega))]
  refine ⟨fun _ => hK U hU gU, fun h => ?_⟩
  refine ⟨fun y1 _ y5 y6 yS => nI c = y1 ∧ nI b = y5 ∧ IM yS ∧ ag [] [28] T yS ∧ ∃ s : Nat, y6 = nI s ∧ s ≤ 256, fun _ _ _ y6 _ => 256 - y6.toNatClampNeg, ⟨rfl, rfl, hU, gU, 0, rfl, by omega⟩, ?_⟩
  rintro _ x4 _ _ V ⟨rfl, rfl, hV, gV, s, rfl, hs⟩
  unfold b_makeCode_602
  rw [n256, nI_leI (by decide) (z31 (by omega))]
  refine ⟨fun _ => ?_, fun h2 => ?_⟩
  · rw [nI_1]
    refine ⟨⟨rfl, hV, gV, b + 1, rfl, by omega⟩, ?_⟩
    show 17 - (nI (b + 1)).toNatClampNeg < 17 - (nI b).toNatClampNeg
    rw [nI_clamp (z31 (by omega)), nI_clamp (z31 (by omega))]
    omega
  · rw [n257, nI_mul, nI_add]
    have hin : vp_in (nI (257 * c + s)) 1028 := nI_in (by omega) (by decide)
    have hme : 256 - (nI (s + 1)).toNatClampNeg < 256 - (nI s).toNatClampNeg := by
      rw [nI_clamp (z31 (by omega)), nI_clamp (z31 (by omega))]
      omega
    unfold b_makeCode_646
    rw [nI_1]
    refine ⟨hin, fun _ => ⟨⟨rfl, rfl, hV, gV, s + 1, rfl, by omega⟩, hme⟩, fun _ => ⟨hin, ⟨rfl, rfl, IM_r (r := 28) (i := (nI (257 * c + s)).toNatClampNeg) (v := x4) hV (B_any _) (by decide) (by decide), ag_r gV (by decide), s + 1, rfl, by omega⟩, hme⟩⟩
/-! what is taken -/
def tsum (T W : Nat → Int32) (a : Nat) : Nat → Int
  | 0 => 0
  | n + 1 => tsum T W a n + (if 0 < (T (a + n)).toInt then (W (a + n)).toInt else 0)
theorem ts_s (T W : Nat → Int32) (a n : Nat) : tsum T W a (n + 1) = tsum T W a n + (if 0 < (T (a + n)).toInt then (W (a + n)).toInt else 0) := rfl
theorem ts_hd (T W : Nat → Int32) (a : Nat) : ∀ n, tsum T W a (n + 1) = (if 0 < (T a).toInt then (W a).toInt else 0) + tsum T W (a + 1) n
  | 0 => by
    rw [ts_s]
    show (0 : Int) + _ = _ + 0
    rw [Nat.add_zero]
    omega
  | n + 1 => by
    rw [ts_s, ts_hd T W a n, ts_s T W (a + 1) n]
    have : a + (n + 1) = a + 1 + n := by omega
    rw [this]
    omega
theorem ts_off {T W : Nat → Int32} {a x : Nat} {v : Int32} : ∀ n, (x < a ∨ a + n ≤ x) → tsum (upd T x v) W a n = tsum T W a n
  | 0, _ => rfl
  | n + 1, h => by
    rw [ts_s, ts_s, ts_off n (by omega), upd_ne (by omega)]
theorem ts_up {T W : Nat → Int32} {a x : Nat} {v : Int32} (hx : 0 ≤ (W x).toInt) : ∀ n, tsum (upd T x v) W a n ≤ tsum T W a n + (W x).toInt
  | 0 => by
    show (0 : Int) ≤ 0 + _
    omega
  | n + 1 => by
    by_cases e : a + n = x
    · rw [ts_s, ts_s, ts_off n (Or.inr (by omega)), e]
      by_cases h1 : 0 < (upd T x v x).toInt
      · rw [if_pos h1]
        split <;> omega
      · rw [if_neg h1]
        split <;> omega
    · have := ts_up (T := T) (a := a) (v := v) hx n
      rw [ts_s, ts_s, upd_ne e]
      omega
def lsum (c : Nat) (f Ln : Nat → Int32) : Nat → Int
  | 0 => 0
  | s + 1 => lsum c f Ln s + owf c f s * (Ln (257 * c + s)).toInt
theorem ls_off {c m : Nat} {f Ln : Nat → Int32} {v : Int32} : ∀ n, n ≤ m → lsum c f (upd Ln (257 * c + m) v) n = lsum c f Ln n
  | 0, _ => rfl
  | n + 1, h => by
    unfold lsum
    rw [ls_off n (by omega), upd_ne (by omega)]
theorem ls_up {c m : Nat} {f Ln : Nat → Int32} {v : Int32} (hv : v.toInt = (Ln (257 * c + m)).toInt + 1) : ∀ n, m < n → lsum c f (upd Ln (257 * c + m) v) n = lsum c f Ln n + owf c f m
  | 0, h => by omega
  | n + 1, h => by
    unfold lsum
    by_cases e : m = n
    · subst e
      rw [ls_off m (Nat.le_refl _), upd_at, hv, Int.mul_add]
      omega
    · rw [ls_up hv n (by omega), upd_ne (by omega)]
      omega
/-- what a code's lengths are worth -/
def LQ (c : Nat) (f : Nat → Int32) (S : ms) (P0 : Int) (Z : ms) : Prop := (∀ j, (j < 257 * c ∨ 257 * c + 257 ≤ j) → Z.2.1 27 j = S.2.1 27 j) ∧ (∀ s, s < 256 → (f (257 * c + s)).toInt ≤ 0 → Z.2.1 27 (257 * c + s) = 0) ∧ lsum c f (Z.2.1 27) 257 ≤ P0
set_option maxHeartbeats 1000000 in
theorem mc4 {c n : Nat} (hc : c ≤ 3) (hn1 : 1 ≤ n) (hn : n ≤ 257) {S T : ms} {f W M : Nat → Int32} {P0 : Int} {K : ms → Prop} (hLN : ∀ l, l ≤ 15 → LNf c f W M n l (sz n l)) (hK : ∀ Z : ms, IM Z → ag [] [27, 28, 29, 30, 31] S Z → LQ c f S P0 Z → K Z)
    (hT : IM T) (gT : ag [] [27, 28, 29, 30, 31] S T) (eW : T.2.1 29 = W) (eM : T.2.1 30 = M)
    (h0 : ∀ s, s ≤ 256 → (T.2.1 27 (257 * c + s)).toInt = 0) (hout : ∀ j, (j < 257 * c ∨ 257 * c + 257 ≤ j) → T.2.1 27 j = S.2.1 27 j)
    (hV : ∀ l k, l ≤ 15 → k < 520 → 0 < (T.2.1 31 (520 * l + k)).toInt → k < sz n l)
    (hP : lsum c f (T.2.1 27) 257 + (tsum (T.2.1 31) W 0 (520 * 16)) ≤ P0) : e_makeCode_446 (nI c) 15 T K := by
  have z31 : ∀ {n : Nat}, n < 1000000 → n < 2 ^ 31 := fun h => by omega
  have n0 : (0 : Int32) = nI 0 := rfl
  have n1' : (1 : Int32) = nI 1 := rfl
  have n2 : (2 : Int32) = nI 2 := rfl
  have n257 : (257 : Int32) = nI 257 := rfl
  have n520 : (520 : Int32) = nI 520 := rfl
  have hz : ∀ l', sz n l' ≤ 513 := fun l' => by have := sz_le hn1 l'; omega
  refine ⟨fun y1 y4 yS => nI c = y1 ∧ IM yS ∧ ag [] [27, 28, 29, 30, 31] S yS ∧ yS.2.1 29 = W ∧ yS.2.1 30 = M ∧ (∀ j, (j < 257 * c ∨ 257 * c + 257 ≤ j) → yS.2.1 27 j = S.2.1 27 j) ∧ (∀ s, s < 256 → (f (257 * c + s)).toInt ≤ 0 → yS.2.1 27 (257 * c + s) = 0) ∧ ∃ a : Nat, y4 = nI a + (-1) ∧ a ≤ 16 ∧ (∀ s, s ≤ 256 → (yS.2.1 27 (257 * c + s)).toInt ≤ ((520 * (16 - a) : Nat) : Int)) ∧ (∀ l k, l < a → k < 520 → 0 < (yS.2.1 31 (520 * l + k)).toInt → k < sz n l) ∧ lsum c f (yS.2.1 27) 257 + tsum (yS.2.1 31) W 0 (520 * a) ≤ P0, fun _ y4 _ => (y4.toInt + 1).toNat, ⟨rfl, hT, gT, eW, eM, hout, fun s hs _ => Int32.toInt.inj (h0 s (by omega)), 16, by decide, by omega, fun s hs => by rw [h0 s hs]; decide, fun l k hl => hV l k (by omega), hP⟩, ?_⟩
  rintro _ _ U ⟨rfl, hU, gU, uW, uM, uo, uz, a, rfl, ha, ub, uv, uP⟩
  unfold b_makeCode_446
  cases a with
  | zero =>
    have em : nI 0 + (-1) = (-1 : Int32) := by decide
    rw [em]
    refine ⟨fun _ => ?_, fun h => absurd (by decide) h⟩
    refine mc5 hc hU (fun Z hZ gZ => hK Z hZ (ag_tr gU gZ (by decide) (by decide)) ⟨fun j hj => ?_, fun s hs hf => ?_, ?_⟩)
    · rw [gZ.2 27 rfl]; exact uo j hj
    · rw [gZ.2 27 rfl]; exact uz s hs hf
    · rw [gZ.2 27 rfl]
      have e : tsum (U.2.1 31) W 0 (520 * 0) = 0 := rfl
      omega
  | succ l =>
    rw [nI_m1]
    refine ⟨fun h => absurd h (nI_pos (z31 (by omega))), fun _ => ?_⟩
    have zl := hz l
    have el : (nI l).toInt = l := nI_toInt (z31 (by omega))
    obtain ⟨lb, ls, lm⟩ := hLN l (by omega)
    -- the line's places
    refine ⟨fun y1 y4 y5 yS => nI c = y1 ∧ nI l = y4 ∧ IM yS ∧ ag [] [27, 28, 29, 30, 31] S yS ∧ yS.2.1 29 = W ∧ yS.2.1 30 = M ∧ (∀ j, (j < 257 * c ∨ 257 * c + 257 ≤ j) → yS.2.1 27 j = S.2.1 27 j) ∧ (∀ s, s < 256 → (f (257 * c + s)).toInt ≤ 0 → yS.2.1 27 (257 * c + s) = 0) ∧ ∃ k : Nat, y5 = nI k ∧ k ≤ 520 ∧ (∀ s, s ≤ 256 → (yS.2.1 27 (257 * c + s)).toInt ≤ ((520 * (15 - l) + k : Nat) : Int)) ∧ (∀ l' k', l' < l + 1 → k' < 520 → (l' < l ∨ k ≤ k') → 0 < (yS.2.1 31 (520 * l' + k')).toInt → k' < sz n l') ∧ lsum c f (yS.2.1 27) 257 + (tsum (yS.2.1 31) W 0 (520 * l) + tsum (yS.2.1 31) W (520 * l + k) (520 - k)) ≤ P0, fun _ _ y5 _ => 520 - y5.toNatClampNeg, ⟨rfl, rfl, hU, gU, uW, uM, uo, uz, 0, rfl, by omega, fun s hs => by have := ub s hs; omega, fun l' k' h h' _ => uv l' k' h h', ?_⟩, ?_⟩
    · have split : ∀ q, tsum (U.2.1 31) W 0 (520 * l + q) = tsum (U.2.1 31) W 0 (520 * l) + tsum (U.2.1 31) W (520 * l) q := by
        intro q
        induction q with
        | zero => show _ = _ + (0 : Int); rw [Nat.add_zero]; omega
        | succ q ih =>
          rw [← Nat.add_assoc, ts_s, ih, ts_s, Nat.zero_add]
          omega
      have e := split 520
      have e2 : 520 * l + 520 = 520 * (l + 1) := by omega
      rw [e2] at e
      show lsum c f (U.2.1 27) 257 + (tsum (U.2.1 31) W 0 (520 * l) + tsum (U.2.1 31) W (520 * l) 520) ≤ P0
      omega
    rintro _ _ _ V ⟨rfl, rfl, hV, gV, vW, vM, vo, vz, k, rfl, hk, vb, vv, vP⟩
    unfold b_makeCode_454
    rw [n520, nI_leI (by decide) (z31 (by omega))]
    refine ⟨fun h5 => ?_, fun h5 => ?_⟩
    · have ek : k = 520 := by omega
      subst ek
      refine ⟨⟨rfl, hV, gV, vW, vM, vo, vz, l, rfl, by omega, fun s hs => by have := vb s hs; omega, fun l' k' h h' => vv l' k' (by omega) h' (Or.inl h), ?_⟩, ?_⟩
      · have e : tsum (V.2.1 31) W (520 * l + 520) (520 - 520) = 0 := rfl
        omega
      · show ((nI l + (-1)).toInt + 1).toNat < ((nI l).toInt + 1).toNat
        have e1 : (nI l + (-1)).toInt = (nI l).toInt + (-1) := t_add (a := 0) (b := 15) (c := -1) (d := -1) ⟨by omega, by omega⟩ ⟨by decide, by decide⟩ (by decide) (by decide)
        revert e1
        generalize (nI l + (-1)).toInt = dd
        intro e1
        omega
    · -- the place's number
      rw [nI_mul, nI_add]
      have hin : vp_in (nI (520 * l + k)) 8320 := nI_in (by omega) (by decide)
      have ecl : (nI (520 * l + k)).toNatClampNeg = 520 * l + k := nI_clamp (z31 (by omega))
      rw [ecl]
      have e520 : ∃ q, 520 - k = q + 1 ∧ 520 - (k + 1) = q := ⟨519 - k, by omega, by omega⟩
      obtain ⟨q, eq1, eq2⟩ := e520
      have hd := ts_hd (V.2.1 31) W (520 * l + k) q
      rw [← eq1] at hd
      have hme : 520 - (nI (k + 1)).toNatClampNeg < 520 - (nI k).toNatClampNeg := by
        rw [nI_clamp (z31 (by omega)), nI_clamp (z31 (by omega))]
        omega
      have nt : ¬ (0 < (V.2.1 31 (520 * l + k)).toInt) → b_makeCode_568 (nI c) (nI l) (nI k) V (fun zx1 zx4 zS => (nI c = zx1 ∧ IM zS ∧ ag [] [27, 28, 29, 30, 31] S zS ∧ zS.2.1 29 = W ∧ zS.2.1 30 = M ∧ (∀ j, (j < 257 * c ∨ 257 * c + 257 ≤ j) → zS.2.1 27 j = S.2.1 27 j) ∧ (∀ s, s < 256 → (f (257 * c + s)).toInt ≤ 0 → zS.2.1 27 (257 * c + s) = 0) ∧ ∃ a : Nat, zx4 = nI a + (-1) ∧ a ≤ 16 ∧ (∀ s, s ≤ 256 → (zS.2.1 27 (257 * c + s)).toInt ≤ ((520 * (16 - a) : Nat) : Int)) ∧ (∀ l k, l < a → k < 520 → 0 < (zS.2.1 31 (520 * l + k)).toInt → k < sz n l) ∧ lsum c f (zS.2.1 27) 257 + tsum (zS.2.1 31) W 0 (520 * a) ≤ P0) ∧ (zx4.toInt + 1).toNat < ((nI l).toInt + 1).toNat) (fun zx1 zx4 zx5 zS => (nI c = zx1 ∧ nI l = zx4 ∧ IM zS ∧ ag [] [27, 28, 29, 30, 31] S zS ∧ zS.2.1 29 = W ∧ zS.2.1 30 = M ∧ (∀ j, (j < 257 * c ∨ 257 * c + 257 ≤ j) → zS.2.1 27 j = S.2.1 27 j) ∧ (∀ s, s < 256 → (f (257 * c + s)).toInt ≤ 0 → zS.2.1 27 (257 * c + s) = 0) ∧ ∃ k : Nat, zx5 = nI k ∧ k ≤ 520 ∧ (∀ s, s ≤ 256 → (zS.2.1 27 (257 * c + s)).toInt ≤ ((520 * (15 - l) + k : Nat) : Int)) ∧ (∀ l' k', l' < l + 1 → k' < 520 → (l' < l ∨ k ≤ k') → 0 < (zS.2.1 31 (520 * l' + k')).toInt → k' < sz n l') ∧ lsum c f (zS.2.1 27) 257 + (tsum (zS.2.1 31) W 0 (520 * l) + tsum (zS.2.1 31) W (520 * l + k) (520 - k)) ≤ P0) ∧ 520 - zx5.toNatClampNeg < 520 - (nI k).toNatClampNeg) K := by
        intro hnt
        unfold b_makeCode_568
        rw [nI_1]
        rw [if_neg hnt] at hd
        refine ⟨⟨rfl, rfl, hV, gV, vW, vM, vo, vz, k + 1, rfl, by omega, fun s hs => by have := vb s hs; omega, fun l' k' h h' h2 => vv l' k' h h' (by omega), ?_⟩, hme⟩
        rw [eq2, ← Nat.add_assoc]
        omega
      refine ⟨hin, fun ht => ?_, fun ht => ?_⟩
      · have ht' : ¬ (0 < (V.2.1 31 (520 * l + k)).toInt) := by
          have h1 : (V.2.1 31 (520 * l + k)).toInt ≤ (0 : Int32).toInt := i_le ht
          have h2 : (0 : Int32).toInt = 0 := by decide
          omega
        unfold b_makeCode_518
        rw [ecl]
        exact ⟨hin, fun _ => nt ht', fun h => absurd ht h⟩
      · have ht' : 0 < (V.2.1 31 (520 * l + k)).toInt := by
          have h1 := i_lt (nle_lt ht)
          have h2 : (0 : Int32).toInt = 0 := by decide
          omega
        rw [if_pos ht'] at hd
        have hks := vv l k (by omega) (by omega) (Or.inr (Nat.le_refl _)) ht'
        have hmf := lm k hks
        have h00 : (0 : Int32).toInt = 0 := by decide
        rw [vM]
        refine ⟨hin, fun hneg => ?_, fun hneg => ?_⟩
        · -- a pair
          have hneg' : (M (520 * l + k)).toInt < 0 := by have := i_lt hneg; omega
          unfold b_makeCode_518
          rw [ecl, vM]
          refine ⟨hin, fun h => absurd h ht, fun _ => ?_⟩
          rcases hmf with ⟨m, m1, m2, _⟩ | ⟨p, l', rfl, p1, p2, p3⟩
          · rw [m2, nI_toInt (z31 (by omega))] at hneg'
            omega
          · have zl' := hz l'
            have e1 : ((-1) - M (520 * (l' + 1) + k) : Int32) = nI p := by
              apply Int32.toInt.inj
              rw [t_sub (a := -1) (b := -1) (c := -1000) (d := -1) ⟨by decide, by decide⟩ ⟨by omega, by omega⟩ (by decide) (by decide), p2, nI_toInt (z31 (by omega))]
              have : (-1 : Int32).toInt = -1 := by decide
              omega
            have e2 : (nI (l' + 1) - 1 : Int32) = nI l' := nI_pred l'
            rw [e1, e2, n2, nI_mul, n520, nI_mul, nI_add, n1', nI_add]
            have i1 : vp_in (nI (520 * l' + 2 * p)) 8320 := nI_in (by omega) (by decide)
            have i2 : vp_in (nI (520 * l' + 2 * p + 1)) 8320 := nI_in (by omega) (by decide)
            have c1 : (nI (520 * l' + 2 * p)).toNatClampNeg = 520 * l' + 2 * p := nI_clamp (z31 (by omega))
            have c2 : (nI (520 * l' + 2 * p + 1)).toNatClampNeg = 520 * l' + 2 * p + 1 := nI_clamp (z31 (by omega))
            rw [c1, c2]
            refine ⟨hin, i1, i2, ?_⟩
            unfold b_makeCode_568
            have hI1 := IM_r (r := 31) (i := 520 * l' + 2 * p) (v := nI 1) hV (show B 0 1 (nI 1) from ⟨by decide, by decide⟩) (by decide) (by decide)
            have hI2 := IM_r (r := 31) (i := 520 * l' + 2 * p + 1) (v := nI 1) hI1 (show B 0 1 (nI 1) from ⟨by decide, by decide⟩) (by decide) (by decide)
            have e31 : (va_up (va_up V.2.1 31 (upd (V.2.1 31) (520 * l' + 2 * p) (nI 1))) 31 (upd ((va_up V.2.1 31 (upd (V.2.1 31) (520 * l' + 2 * p) (nI 1))) 31) (520 * l' + 2 * p + 1) (nI 1))) 31 = upd (upd (V.2.1 31) (520 * l' + 2 * p) (nI 1)) (520 * l' + 2 * p + 1) (nI 1) := by
              rw [up_at, up_at]
            have eo : ∀ r, r ≠ 31 → (va_up (va_up V.2.1 31 (upd (V.2.1 31) (520 * l' + 2 * p) (nI 1))) 31 (upd ((va_up V.2.1 31 (upd (V.2.1 31) (520 * l' + 2 * p) (nI 1))) 31) (520 * l' + 2 * p + 1) (nI 1))) r = V.2.1 r := fun r hr => by rw [up_ne hr, up_ne hr]
            have hl1 := (hLN l' (by omega)).1
            have w1 := (hl1 (2 * p) (by omega)).1
            have w2 := (hl1 (2 * p + 1) (by omega)).1
            rw [← Nat.add_assoc] at w2 p3
            have t1 := ts_up (T := V.2.1 31) (W := W) (a := 0) (x := 520 * l' + 2 * p) (v := nI 1) w1 (520 * (l' + 1))
            have t2 := ts_up (T := upd (V.2.1 31) (520 * l' + 2 * p) (nI 1)) (W := W) (a := 0) (x := 520 * l' + 2 * p + 1) (v := nI 1) w2 (520 * (l' + 1))
            have t3 : tsum (upd (upd (V.2.1 31) (520 * l' + 2 * p) (nI 1)) (520 * l' + 2 * p + 1) (nI 1)) W (520 * (l' + 1) + k + 1) q = tsum (V.2.1 31) W (520 * (l' + 1) + k + 1) q := by
              rw [ts_off q (Or.inl (by omega)), ts_off q (Or.inl (by omega))]
            rw [nI_1]
            refine ⟨⟨rfl, rfl, hI2, ag_r (ag_r gV (by decide)) (by decide), ?_, ?_, fun j hj => ?_, fun s hs hf => ?_, k + 1, rfl, by omega, fun s hs => ?_, fun l2 k2 h h' h2 h3 => ?_, ?_⟩, hme⟩
            · exact (eo 29 (by decide)).trans vW
            · exact (eo 30 (by decide)).trans vM
            · exact (congrFun (eo 27 (by decide)) j).trans (vo j hj)
            · exact (congrFun (eo 27 (by decide)) _).trans (vz s hs hf)
            · have := vb s hs
              have e := congrArg Int32.toInt (congrFun (eo 27 (by decide)) (257 * c + s))
              dsimp only at e ⊢
              rw [e]
              omega
            · have h3 : 0 < ((va_up (va_up V.2.1 31 (upd (V.2.1 31) (520 * l' + 2 * p) (nI 1))) 31 (upd ((va_up V.2.1 31 (upd (V.2.1 31) (520 * l' + 2 * p) (nI 1))) 31) (520 * l' + 2 * p + 1) (nI 1))) 31 (520 * l2 + k2)).toInt := h3
              rw [e31] at h3
              by_cases x1 : 520 * l2 + k2 = 520 * l' + 2 * p + 1
              · have : l2 = l' := by omega
                subst this
                omega
              · rw [upd_ne x1] at h3
                by_cases x2 : 520 * l2 + k2 = 520 * l' + 2 * p
                · have : l2 = l' := by omega
                  subst this
                  omega
                · rw [upd_ne x2] at h3
                  exact vv l2 k2 h h' (by omega) h3
            · show lsum c f ((va_up (va_up V.2.1 31 (upd (V.2.1 31) (520 * l' + 2 * p) (nI 1))) 31 (upd ((va_up V.2.1 31 (upd (V.2.1 31) (520 * l' + 2 * p) (nI 1))) 31) (520 * l' + 2 * p + 1) (nI 1))) 27) 257 + (tsum ((va_up (va_up V.2.1 31 (upd (V.2.1 31) (520 * l' + 2 * p) (nI 1))) 31 (upd ((va_up V.2.1 31 (upd (V.2.1 31) (520 * l' + 2 * p) (nI 1))) 31) (520 * l' + 2 * p + 1) (nI 1))) 31) W 0 (520 * (l' + 1)) + tsum ((va_up (va_up V.2.1 31 (upd (V.2.1 31) (520 * l' + 2 * p) (nI 1))) 31 (upd ((va_up V.2.1 31 (upd (V.2.1 31) (520 * l' + 2 * p) (nI 1))) 31) (520 * l' + 2 * p + 1) (nI 1))) 31) W (520 * (l' + 1) + (k + 1)) (520 - (k + 1))) ≤ P0
              rw [eo 27 (by decide), e31, eq2, ← Nat.add_assoc, t3]
              omega
        · -- a symbol
          have hneg' : 0 ≤ (M (520 * l + k)).toInt := by have := i_le (nlt_le hneg); omega
          rcases hmf with ⟨m, m1, m2, m3, m4⟩ | ⟨p, l', rfl, p1, p2, p3⟩
          · rw [m2, n257, nI_mul, nI_add]
            have i1 : vp_in (nI (257 * c + m)) 1028 := nI_in (by omega) (by decide)
            have c1 : (nI (257 * c + m)).toNatClampNeg = 257 * c + m := nI_clamp (z31 (by omega))
            rw [c1]
            refine ⟨hin, i1, i1, ?_⟩
            unfold b_makeCode_568
            have b0 := (br_27 hV (257 * c + m)).1
            have b1 := vb m m1
            have ei : (V.2.1 27 (257 * c + m) + 1).toInt = (V.2.1 27 (257 * c + m)).toInt + 1 := t_add (a := 0) (b := 8320) ⟨b0, by omega⟩ (show B 1 1 (1 : Int32) from ⟨by decide, by decide⟩) (by decide) (by decide)
            have hI1 := IM_r (r := 27) (i := 257 * c + m) (v := V.2.1 27 (257 * c + m) + 1) hV (show B 0 8320 _ from ⟨by omega, by omega⟩) (by decide) (by decide)
            have e27 : (va_up V.2.1 27 (upd (V.2.1 27) (257 * c + m) (V.2.1 27 (257 * c + m) + 1))) 27 = upd (V.2.1 27) (257 * c + m) (V.2.1 27 (257 * c + m) + 1) := up_at
            have eo : ∀ r, r ≠ 27 → (va_up V.2.1 27 (upd (V.2.1 27) (257 * c + m) (V.2.1 27 (257 * c + m) + 1))) r = V.2.1 r := fun r hr => up_ne hr
            rw [nI_1]
            refine ⟨⟨rfl, rfl, hI1, ag_r gV (by decide), ?_, ?_, fun j hj => ?_, fun s hs hf => ?_, k + 1, rfl, by omega, fun s hs => ?_, fun l2 k2 h h' h2 h3 => ?_, ?_⟩, hme⟩
            · exact (eo 29 (by decide)).trans vW
            · exact (eo 30 (by decide)).trans vM
            · show (va_up V.2.1 27 (upd (V.2.1 27) (257 * c + m) (V.2.1 27 (257 * c + m) + 1))) 27 j = _
              rw [e27, upd_ne (by omega)]
              exact vo j hj
            · show (va_up V.2.1 27 (upd (V.2.1 27) (257 * c + m) (V.2.1 27 (257 * c + m) + 1))) 27 (257 * c + s) = _
              have : s ≠ m := by
                intro e
                subst e
                omega
              rw [e27, upd_ne (by omega)]
              exact vz s hs hf
            · show ((va_up V.2.1 27 (upd (V.2.1 27) (257 * c + m) (V.2.1 27 (257 * c + m) + 1))) 27 (257 * c + s)).toInt ≤ _
              rw [e27]
              by_cases e : s = m
              · subst e
                rw [upd_at]
                omega
              · rw [upd_ne (by omega)]
                have := vb s hs
                omega
            · have h3 : 0 < ((va_up V.2.1 27 (upd (V.2.1 27) (257 * c + m) (V.2.1 27 (257 * c + m) + 1))) 31 (520 * l2 + k2)).toInt := h3
              rw [eo 31 (by decide)] at h3
              exact vv l2 k2 h h' (by omega) h3
            · show lsum c f ((va_up V.2.1 27 (upd (V.2.1 27) (257 * c + m) (V.2.1 27 (257 * c + m) + 1))) 27) 257 + (tsum ((va_up V.2.1 27 (upd (V.2.1 27) (257 * c + m) (V.2.1 27 (257 * c + m) + 1))) 31) W 0 (520 * l) + tsum ((va_up V.2.1 27 (upd (V.2.1 27) (257 * c + m) (V.2.1 27 (257 * c + m) + 1))) 31) W (520 * l + (k + 1)) (520 - (k + 1))) ≤ P0
              rw [e27, eo 31 (by decide), ls_up ei 257 (by omega), eq2, ← Nat.add_assoc]
              omega
          · omega
