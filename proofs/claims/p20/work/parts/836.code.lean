theorem ts_z {T W : Nat → Int32} {a : Nat} : ∀ n, (∀ k, k < n → (T (a + k)).toInt = 0) → tsum T W a n = 0
  | 0, _ => rfl
  | n + 1, h => by
    rw [ts_s, ts_z n (fun k hk => h k (by omega)), if_neg (by have := h n (by omega); omega)]
    rfl
theorem ts_1 {T W : Nat → Int32} {a : Nat} : ∀ n, (∀ k, k < n → 0 < (T (a + k)).toInt) → tsum T W a n = csum W a n
  | 0, _ => rfl
  | n + 1, h => by
    rw [ts_s, ts_1 n (fun k hk => h k (by omega)), if_pos (h n (by omega)), cs_s]
theorem ts_app {T W : Nat → Int32} {a : Nat} (m : Nat) : ∀ n, tsum T W a (m + n) = tsum T W a m + tsum T W (a + m) n
  | 0 => by show _ = _ + (0 : Int); rw [Nat.add_zero]; omega
  | n + 1 => by
    rw [← Nat.add_assoc, ts_s, ts_app m n, ts_s, ← Nat.add_assoc]
    omega
theorem ls_z {c : Nat} {f Ln : Nat → Int32} : ∀ n, (∀ s, s < n → (Ln (257 * c + s)).toInt = 0) → lsum c f Ln n = 0
  | 0, _ => rfl
  | n + 1, h => by
    unfold lsum
    rw [ls_z n (fun s hs => h s (by omega)), h n (by omega), Int.mul_zero]
    rfl
theorem mc3 {c n : Nat} (hc : c ≤ 3) (hn1 : 1 ≤ n) (hn : n ≤ 256) {S T : ms} {f W M : Nat → Int32} {P0 : Int} {K : ms → Prop} (hLN : ∀ l, l ≤ 15 → LNf c f W M n l (sz n l)) (hK : ∀ Z : ms, IM Z → ag [] [27, 28, 29, 30, 31] S Z → LQ c f S P0 Z → K Z)
    (hT : IM T) (gT : ag [] [27, 28, 29, 30, 31] S T) (eW : T.2.1 29 = W) (eM : T.2.1 30 = M)
    (h0 : ∀ s, s ≤ 256 → (T.2.1 27 (257 * c + s)).toInt = 0) (hout : ∀ j, (j < 257 * c ∨ 257 * c + 257 ≤ j) → T.2.1 27 j = S.2.1 27 j)
    (hP : csum W 7800 (2 * n - 2) ≤ P0) : e_makeCode_394 (nI c) (nI n) 0 T K := by
  have z31 : ∀ {n : Nat}, n < 1000000 → n < 2 ^ 31 := fun h => by omega
  have n2 : (2 : Int32) = nI 2 := rfl
  have n78 : (7800 : Int32) = nI 7800 := rfl
  have n83 : (8320 : Int32) = nI 8320 := rfl
  refine ⟨fun y1 y2 y4 yS => nI c = y1 ∧ nI n = y2 ∧ IM yS ∧ ag [] [27, 28, 29, 30, 31] S yS ∧ yS.2.1 29 = W ∧ yS.2.1 30 = M ∧ yS.2.1 27 = T.2.1 27 ∧ ∃ k : Nat, y4 = nI k ∧ k ≤ 8320 ∧ ∀ j, j < k → (yS.2.1 31 j).toInt = if 7800 ≤ j ∧ j < 7798 + 2 * n then 1 else 0, fun _ _ y4 _ => 8320 - y4.toNatClampNeg, ⟨rfl, rfl, hT, gT, eW, eM, rfl, 0, rfl, by omega, fun j hj => by omega⟩, ?_⟩
  rintro _ _ _ U ⟨rfl, rfl, hU, gU, uW, uM, u27, k, rfl, hk, u31⟩
  unfold b_makeCode_394
  have e2 : ((7800 + (2 * nI n)) - 2 : Int32) = nI (7798 + 2 * n) := by
    rw [n78, n2, nI_mul, nI_add, nI_sub (by omega)]
    congr 1
    omega
  rw [n83, e2, n78, nI_leI (by decide) (z31 (by omega)), nI_ltI (z31 (by omega)) (by decide), nI_leI (z31 (by omega)) (z31 (by omega))]
  have ecl : (nI k).toNatClampNeg = k := nI_clamp (z31 (by omega))
  have wr : ∀ v : Int32, k < 8320 → (v.toInt = if 7800 ≤ k ∧ k < 7798 + 2 * n then 1 else 0) → b_makeCode_435 (nI c) (nI n) (nI k) (nI k) v U (fun zx1 zx2 zx4 zS => (nI c = zx1 ∧ nI n = zx2 ∧ IM zS ∧ ag [] [27, 28, 29, 30, 31] S zS ∧ zS.2.1 29 = W ∧ zS.2.1 30 = M ∧ zS.2.1 27 = T.2.1 27 ∧ ∃ k : Nat, zx4 = nI k ∧ k ≤ 8320 ∧ ∀ j, j < k → (zS.2.1 31 j).toInt = if 7800 ≤ j ∧ j < 7798 + 2 * n then 1 else 0) ∧ 8320 - zx4.toNatClampNeg < 8320 - (nI k).toNatClampNeg) K := by
    intro v hk2 hv
    unfold b_makeCode_435
    rw [ecl, nI_1]
    have bv : B 0 1 v := by
      unfold B
      rw [hv]
      split <;> omega
    refine ⟨nI_in (by omega) (by decide), ⟨rfl, rfl, IM_r (r := 31) (i := k) (v := v) hU bv (by decide) (by decide), ag_r gU (by decide), ?_, ?_, ?_, k + 1, rfl, by omega, fun j hj => ?_⟩, ?_⟩
    · show va_up U.2.1 31 (upd (U.2.1 31) k v) 29 = _
      rw [up_ne (by decide)]
      exact uW
    · show va_up U.2.1 31 (upd (U.2.1 31) k v) 30 = _
      rw [up_ne (by decide)]
      exact uM
    · show va_up U.2.1 31 (upd (U.2.1 31) k v) 27 = _
      rw [up_ne (by decide)]
      exact u27
    · show ((va_up U.2.1 31 (upd (U.2.1 31) k v)) 31 j).toInt = _
      rw [up_at]
      by_cases e : j = k
      · subst e
        rw [upd_at]
        exact hv
      · rw [upd_ne e]
        exact u31 j (by omega)
    · rw [nI_clamp (z31 (by omega))]
      omega
  refine ⟨fun h => ?_, fun h => ⟨fun h2 => ?_, fun h2 => ⟨fun h3 => ?_, fun h3 => ?_⟩⟩⟩
  · have ek : k = 8320 := by omega
    subst ek
    have s15 := sz_15 n (by omega)
    refine mc4 hc hn1 (by omega) hLN hK hU gU uW uM (fun s hs => by rw [u27]; exact h0 s hs) (fun j hj => by rw [u27]; exact hout j hj) (fun l k hl hk ht => ?_) ?_
    · rw [u31 _ (by omega)] at ht
      split at ht
      · next e =>
        have : l = 15 := by omega
        subst this
        omega
      · omega
    · have a1 : lsum c f (U.2.1 27) 257 = 0 := ls_z 257 (fun s hs => by rw [u27]; exact h0 s (by omega))
      have a2 : tsum (U.2.1 31) W 0 (7800 + 520) = tsum (U.2.1 31) W 0 7800 + tsum (U.2.1 31) W (0 + 7800) 520 := ts_app 7800 520
      have a3 : tsum (U.2.1 31) W 0 7800 = 0 := ts_z 7800 (fun k hk => by rw [u31 _ (by omega), if_neg (by omega)])
      have a4 : tsum (U.2.1 31) W 7800 ((2 * n - 2) + (522 - 2 * n)) = tsum (U.2.1 31) W 7800 (2 * n - 2) + tsum (U.2.1 31) W (7800 + (2 * n - 2)) (522 - 2 * n) := ts_app _ _
      have a5 : tsum (U.2.1 31) W 7800 (2 * n - 2) = csum W 7800 (2 * n - 2) := ts_1 _ (fun k hk => by rw [u31 _ (by omega), if_pos (by omega)]; decide)
      have a6 : tsum (U.2.1 31) W (7800 + (2 * n - 2)) (522 - 2 * n) = 0 := ts_z _ (fun k hk => by rw [u31 _ (by omega), if_neg (by omega)])
      have a7 : 2 * n - 2 + (522 - 2 * n) = 520 := by omega
      rw [a7] at a4
      rw [Nat.zero_add] at a2
      show lsum c f (U.2.1 27) 257 + tsum (U.2.1 31) W 0 (7800 + 520) ≤ P0
      omega
  · unfold b_makeCode_434
    exact wr 0 (by omega) (by rw [if_neg (by omega)]; decide)
  · unfold b_makeCode_434
    exact wr 0 (by omega) (by rw [if_neg (by omega)]; decide)
  · exact wr 1 (by omega) (by rw [if_pos (by omega)]; decide)
/-! merging -/
theorem pow_b : ∀ l, l ≤ 15 → (20000 * 2 ^ l : Int) ≤ 655360000 := by decide +kernel
theorem m1p {p : Nat} (h : p ≤ 600) : ((-1) - nI p : Int32).toInt = -1 - p := by
  have e : (nI p).toInt = p := nI_toInt (by omega)
  rw [t_sub (a := -1) (b := -1) (c := 0) (d := 600) ⟨by decide, by decide⟩ ⟨by omega, by omega⟩ (by decide) (by decide), e]
  rfl
set_option maxHeartbeats 1000000 in
theorem mc2 {c n : Nat} (hc : c ≤ 3) (hn1 : 1 ≤ n) (hn : n ≤ 256) {S T : ms} {f : Nat → Int32} {K : ms → Prop} (hK : ∀ Z : ms, IM Z → ag [] [27, 28, 29, 30, 31] S Z → LQ c f S (8 * csum (T.2.1 29) 0 n) Z → K Z)
    (hT : IM T) (gT : ag [] [27, 28, 29, 30, 31] S T) (hL : LNf c f (T.2.1 29) (T.2.1 30) n 0 n)
    (h0 : ∀ s, s ≤ 256 → (T.2.1 27 (257 * c + s)).toInt = 0) (hout : ∀ j, (j < 257 * c ∨ 257 * c + 257 ≤ j) → T.2.1 27 j = S.2.1 27 j) : e_makeCode_162 (nI c) (nI n) (nI n) 1 T K := by
  have z31 : ∀ {n : Nat}, n < 1000000 → n < 2 ^ 31 := fun h => by omega
  have n0 : (0 : Int32) = nI 0 := rfl
  have n1' : (1 : Int32) = nI 1 := rfl
  have n2 : (2 : Int32) = nI 2 := rfl
  have n16 : (16 : Int32) = nI 16 := rfl
  have n520 : (520 : Int32) = nI 520 := rfl
  have hz : ∀ l', sz n l' ≤ 511 := fun l' => by have := sz_le hn1 l'; omega
  refine ⟨fun y1 y2 y3 y4 yS => nI c = y1 ∧ nI n = y2 ∧ IM yS ∧ ag [] [27, 28, 29, 30, 31] S yS ∧ yS.2.1 27 = T.2.1 27 ∧ csum (yS.2.1 29) 0 n = csum (T.2.1 29) 0 n ∧ ∃ l : Nat, y3 = nI (sz n l) ∧ y4 = nI (l + 1) ∧ l ≤ 15 ∧ (∀ l', l' ≤ l → LNf c f (yS.2.1 29) (yS.2.1 30) n l' (sz n l')) ∧ ∀ l', l' < l → OPT (yS.2.1 29) n l', fun _ _ _ y4 _ => 16 - y4.toNatClampNeg, ⟨rfl, rfl, hT, gT, rfl, rfl, 0, rfl, rfl, by omega, fun l' h => by
    have : l' = 0 := by omega
    subst this
    exact hL, fun l' h => by omega⟩, ?_⟩
  rintro _ _ _ _ U ⟨rfl, rfl, hU, gU, u27, uS, l, rfl, rfl, hl, uL, uO⟩
  unfold b_makeCode_162
  rw [n16, nI_leI (by decide) (z31 (by omega))]
  refine ⟨fun h => ?_, fun h => ?_⟩
  · have el : l = 15 := by omega
    subst el
    refine mc3 (P0 := 8 * csum (T.2.1 29) 0 n) hc hn1 hn uL hK hU gU rfl rfl (fun s hs => by rw [u27]; exact h0 s hs) (fun j hj => by rw [u27]; exact hout j hj) ?_
    have h0' : ∀ k, k < n → 0 ≤ (U.2.1 29 (0 + k)).toInt := fun k hk => by
      have := ((uL 0 (by omega)).1 k hk).1
      rw [Nat.mul_zero] at this
      exact this
    have := opt_8 hn uO h0' 7 14 (2 * n - 2) (by omega) (by omega) (sz_15 n (by omega)) (by omega) (by
      have : 2 * n - (2 * n - 2) = 2 := by omega
      rw [this]
      decide)
    rw [uS] at this
    exact this
  · have zl := hz l
    have ed : nI (sz n l) / 2 = nI (sz n l / 2) := by rw [n2, nI_div (by decide) (z31 (by omega)) (by decide)]
    have e8 : (520 * (nI (l + 1) - 1) : Int32) = nI (520 * l) := by rw [nI_pred, n520, nI_mul]
    rw [ed, e8]
    refine ⟨fun y1 y2 y4 y5 y6 y7 y8 yS => nI c = y1 ∧ nI n = y2 ∧ nI (l + 1) = y4 ∧ nI (sz n l / 2) = y5 ∧ nI (520 * l) = y8 ∧ IM yS ∧ ag [] [27, 28, 29, 30, 31] S yS ∧ yS.2.1 27 = T.2.1 27 ∧ csum (yS.2.1 29) 0 n = csum (T.2.1 29) 0 n ∧ ∃ i p : Nat, y6 = nI i ∧ y7 = nI p ∧ PM c f n l (yS.2.1 29) (yS.2.1 30) i p, fun _ _ _ _ y6 y7 _ _ => (n - y6.toNatClampNeg) + (sz n l / 2 - y7.toNatClampNeg), ⟨rfl, rfl, rfl, rfl, rfl, hU, gU, u27, uS, 0, 0, rfl, rfl, PM_0 uL uO⟩, ?_⟩
    rintro _ _ _ _ _ _ _ V ⟨rfl, rfl, rfl, rfl, rfl, hV, gV, v27, vS, i, p, rfl, rfl, hP⟩
    have pi := hP.1
    have pp := hP.2.1
    have pL := hP.2.2.1 l (Nat.le_refl _)
    have p0 := hP.2.2.1 0 (Nat.zero_le _)
    have ci : (nI i).toNatClampNeg = i := nI_clamp (z31 (by omega))
    have ini : i < n → vp_in (nI i) 8320 := fun h => nI_in (by omega) (by decide)
    have pb := pow_b l hl
    -- one more thing stands in the line
    have en : ((520 * nI (l + 1)) + nI i) + nI p = nI (520 * (l + 1) + (i + p)) := by rw [n520, nI_mul, nI_add, nI_add, Nat.add_assoc]
    have inn : vp_in (nI (520 * (l + 1) + (i + p))) 8320 := nI_in (by omega) (by decide)
    have cn : (nI (520 * (l + 1) + (i + p))).toNatClampNeg = 520 * (l + 1) + (i + p) := nI_clamp (z31 (by omega))
    have fin : ∀ (v m : Int32) (i1 p1 : Nat), B (-257) 256 m → PM c f n l (upd (V.2.1 29) (520 * (l + 1) + (i + p)) v) (upd (V.2.1 30) (520 * (l + 1) + (i + p)) m) i1 p1 → i1 + p1 = i + p + 1 → i ≤ i1 → p ≤ p1 →
        (fun zx1 zx2 zx4 zx5 zx6 zx7 zx8 zS => (nI c = zx1 ∧ nI n = zx2 ∧ nI (l + 1) = zx4 ∧ nI (sz n l / 2) = zx5 ∧ nI (520 * l) = zx8 ∧ IM zS ∧ ag [] [27, 28, 29, 30, 31] S zS ∧ zS.2.1 27 = T.2.1 27 ∧ csum (zS.2.1 29) 0 n = csum (T.2.1 29) 0 n ∧ ∃ i p : Nat, zx6 = nI i ∧ zx7 = nI p ∧ PM c f n l (zS.2.1 29) (zS.2.1 30) i p) ∧ (n - zx6.toNatClampNeg) + (sz n l / 2 - zx7.toNatClampNeg) < (n - (nI i).toNatClampNeg) + (sz n l / 2 - (nI p).toNatClampNeg)) (nI c) (nI n) (nI (l + 1)) (nI (sz n l / 2)) (nI i1) (nI p1) (nI (520 * l)) (V.1, va_up (va_up V.2.1 29 (upd (V.2.1 29) (520 * (l + 1) + (i + p)) v)) 30 (upd ((va_up V.2.1 29 (upd (V.2.1 29) (520 * (l + 1) + (i + p)) v)) 30) (520 * (l + 1) + (i + p)) m), V.2.2) := by
      intro v m i1 p1 bm hP1 hs hi1 hp1
      have k1 := hP1.1
      have k2 := hP1.2.1
      have e30 : (va_up V.2.1 29 (upd (V.2.1 29) (520 * (l + 1) + (i + p)) v)) 30 = V.2.1 30 := up_ne (by decide)
      have hI1 := IM_r (r := 29) (i := 520 * (l + 1) + (i + p)) (v := v) hV (B_any _) (by decide) (by decide)
      have hI2 := IM_r (r := 30) (i := 520 * (l + 1) + (i + p)) (v := m) hI1 bm (by decide) (by decide)
      have r29 : (va_up (va_up V.2.1 29 (upd (V.2.1 29) (520 * (l + 1) + (i + p)) v)) 30 (upd ((va_up V.2.1 29 (upd (V.2.1 29) (520 * (l + 1) + (i + p)) v)) 30) (520 * (l + 1) + (i + p)) m)) 29 = upd (V.2.1 29) (520 * (l + 1) + (i + p)) v := by rw [up_ne (by decide), up_at]
      have r30 : (va_up (va_up V.2.1 29 (upd (V.2.1 29) (520 * (l + 1) + (i + p)) v)) 30 (upd ((va_up V.2.1 29 (upd (V.2.1 29) (520 * (l + 1) + (i + p)) v)) 30) (520 * (l + 1) + (i + p)) m)) 30 = upd (V.2.1 30) (520 * (l + 1) + (i + p)) m := by rw [up_at, e30]
      refine ⟨⟨rfl, rfl, rfl, rfl, rfl, hI2, ag_r (ag_r gV (by decide)) (by decide), ?_, ?_, i1, p1, rfl, rfl, ?_⟩, ?_⟩
      · show (va_up (va_up V.2.1 29 (upd (V.2.1 29) (520 * (l + 1) + (i + p)) v)) 30 (upd ((va_up V.2.1 29 (upd (V.2.1 29) (520 * (l + 1) + (i + p)) v)) 30) (520 * (l + 1) + (i + p)) m)) 27 = _
        rw [up_ne (by decide), up_ne (by decide)]
        exact v27
      · show csum ((va_up (va_up V.2.1 29 (upd (V.2.1 29) (520 * (l + 1) + (i + p)) v)) 30 (upd ((va_up V.2.1 29 (upd (V.2.1 29) (520 * (l + 1) + (i + p)) v)) 30) (520 * (l + 1) + (i + p)) m)) 29) 0 n = _
        rw [r29, cs_off n (Or.inr (by omega))]
        exact vS
      · show PM c f n l ((va_up (va_up V.2.1 29 (upd (V.2.1 29) (520 * (l + 1) + (i + p)) v)) 30 (upd ((va_up V.2.1 29 (upd (V.2.1 29) (520 * (l + 1) + (i + p)) v)) 30) (520 * (l + 1) + (i + p)) m)) 29) ((va_up (va_up V.2.1 29 (upd (V.2.1 29) (520 * (l + 1) + (i + p)) v)) 30 (upd ((va_up V.2.1 29 (upd (V.2.1 29) (520 * (l + 1) + (i + p)) v)) 30) (520 * (l + 1) + (i + p)) m)) 30) i1 p1
        rw [r29, r30]
        exact hP1
      · rw [nI_clamp (z31 (by omega)), nI_clamp (z31 (by omega)), nI_clamp (z31 (by omega)), nI_clamp (z31 (by omega))]
        omega
    have one : ∀ (RR : Int32 → Int32 → Int32 → Int32 → ms → Prop) (R2 : Int32 → Int32 → Int32 → Int32 → Int32 → Int32 → Int32 → ms → Prop), (∀ (v m : Int32) (i1 p1 : Nat), B (-257) 256 m → PM c f n l (upd (V.2.1 29) (520 * (l + 1) + (i + p)) v) (upd (V.2.1 30) (520 * (l + 1) + (i + p)) m) i1 p1 → i1 + p1 = i + p + 1 → i ≤ i1 → p ≤ p1 → R2 (nI c) (nI n) (nI (l + 1)) (nI (sz n l / 2)) (nI i1) (nI p1) (nI (520 * l)) (V.1, va_up (va_up V.2.1 29 (upd (V.2.1 29) (520 * (l + 1) + (i + p)) v)) 30 (upd ((va_up V.2.1 29 (upd (V.2.1 29) (520 * (l + 1) + (i + p)) v)) 30) (520 * (l + 1) + (i + p)) m), V.2.2)) → ∀ x9 : Int32, i < n → (p < sz n l / 2 → (V.2.1 29 i).toInt ≤ (V.2.1 29 (520 * l + 2 * p)).toInt + (V.2.1 29 (520 * l + (2 * p + 1))).toInt) → b_makeCode_273 (nI c) (nI n) (nI (l + 1)) (nI (sz n l / 2)) (nI i) (nI p) (nI (520 * l)) x9 1 V RR R2 K := by
      intro RR R2 fin x9 hin hle
      obtain ⟨m, m1, m2, m3, m4⟩ : ∃ m, m ≤ 256 ∧ V.2.1 30 i = nI m ∧ (m = 256 ∨ 0 < (f (257 * c + m)).toInt) ∧ (V.2.1 29 i).toInt = owf c f m := by
        have q := p0.2.2 i hin
        unfold MFk at q
        rw [Nat.mul_zero, Nat.zero_add] at q
        rcases q with q | ⟨_, _, q, _⟩
        · exact q
        · omega
      unfold b_makeCode_273
      refine ⟨fun h => absurd h (by decide), fun _ => ⟨ini hin, ?_⟩⟩
      unfold b_makeCode_308
      rw [en, cn, ci]
      refine ⟨inn, fun h => absurd h (by decide), fun _ => ⟨ini hin, ?_⟩⟩
      unfold b_makeCode_344
      rw [cn]
      refine ⟨inn, fun h => absurd h (by decide), fun _ => ?_⟩
      unfold b_makeCode_359
      refine ⟨fun h => absurd h (by decide), fun _ => ?_⟩
      unfold b_makeCode_375
      have e30 : (va_up V.2.1 29 (upd (V.2.1 29) (520 * (l + 1) + (i + p)) (V.2.1 29 i))) 30 i = V.2.1 30 i := congrFun (up_ne (by decide)) i
      rw [nI_1]
      dsimp only
      rw [e30]
      refine fin (V.2.1 29 i) (V.2.1 30 i) (i + 1) p ?_ ?_ (by omega) (by omega) (by omega)
      · rw [m2]
        unfold B
        rw [nI_toInt (z31 (by omega))]
        omega
      · refine PM_step hn1 (by omega) (by omega) hP (Or.inl ⟨rfl, rfl, hin, rfl⟩) (fun _ => Int.le_refl _) hle (Or.inl ⟨m, m1, ?_, m3, ?_⟩)
        · rw [upd_at]; exact m2
        · rw [upd_at]; exact m4
    have two : ∀ (RR : Int32 → Int32 → Int32 → Int32 → ms → Prop) (R2 : Int32 → Int32 → Int32 → Int32 → Int32 → Int32 → Int32 → ms → Prop), (∀ (v m : Int32) (i1 p1 : Nat), B (-257) 256 m → PM c f n l (upd (V.2.1 29) (520 * (l + 1) + (i + p)) v) (upd (V.2.1 30) (520 * (l + 1) + (i + p)) m) i1 p1 → i1 + p1 = i + p + 1 → i ≤ i1 → p ≤ p1 → R2 (nI c) (nI n) (nI (l + 1)) (nI (sz n l / 2)) (nI i1) (nI p1) (nI (520 * l)) (V.1, va_up (va_up V.2.1 29 (upd (V.2.1 29) (520 * (l + 1) + (i + p)) v)) 30 (upd ((va_up V.2.1 29 (upd (V.2.1 29) (520 * (l + 1) + (i + p)) v)) 30) (520 * (l + 1) + (i + p)) m), V.2.2)) → p < sz n l / 2 → (i < n → (V.2.1 29 (520 * l + 2 * p)).toInt + (V.2.1 29 (520 * l + (2 * p + 1))).toInt ≤ (V.2.1 29 i).toInt) → b_makeCode_273 (nI c) (nI n) (nI (l + 1)) (nI (sz n l / 2)) (nI i) (nI p) (nI (520 * l)) (V.2.1 29 (520 * l + 2 * p) + V.2.1 29 (520 * l + (2 * p + 1))) 0 V RR R2 K := by
      intro RR R2 fin hpn hle
      have w1 := pL.1 (2 * p) (by omega)
      have w2 := pL.1 (2 * p + 1) (by omega)
      have es : (V.2.1 29 (520 * l + 2 * p) + V.2.1 29 (520 * l + (2 * p + 1))).toInt = (V.2.1 29 (520 * l + 2 * p)).toInt + (V.2.1 29 (520 * l + (2 * p + 1))).toInt := t_add (a := 0) (b := 655360000) (c := 0) (d := 655360000) ⟨w1.1, by omega⟩ ⟨w2.1, by omega⟩ (by decide) (by decide)
      obtain ⟨mm, em, ep⟩ : ∃ m : Int32, (-1) - nI p = m ∧ m.toInt = -1 - p := ⟨_, rfl, m1p (by omega)⟩
      unfold b_makeCode_273
      refine ⟨fun _ => ?_, fun h => absurd rfl h⟩
      unfold b_makeCode_308
      rw [en, cn]
      refine ⟨inn, fun _ => ?_, fun h => absurd rfl h⟩
      unfold b_makeCode_344
      rw [cn]
      refine ⟨inn, fun _ => ?_, fun h => absurd rfl h⟩
      unfold b_makeCode_359
      refine ⟨fun _ => ?_, fun h => absurd rfl h⟩
      unfold b_makeCode_375
      rw [nI_1]
      rw [em]
      refine fin (V.2.1 29 (520 * l + 2 * p) + V.2.1 29 (520 * l + (2 * p + 1))) mm i (p + 1) ?_ ?_ (by omega) (by omega) (by omega)
      · unfold B
        rw [ep]
        omega
      · refine PM_step hn1 (by omega) (by omega) hP (Or.inr ⟨rfl, rfl, hpn, es.symm⟩) (fun h => by rw [es]; exact hle h) (fun _ => by rw [es]; exact Int.le_refl _) (Or.inr ⟨p, l, rfl, by omega, ?_, ?_⟩)
        · rw [upd_at]; exact ep
        · rw [upd_at, upd_ne (by omega), upd_ne (by omega)]; exact es
    have mid : ∀ (RR : Int32 → Int32 → Int32 → Int32 → ms → Prop) (R2 : Int32 → Int32 → Int32 → Int32 → Int32 → Int32 → Int32 → ms → Prop), (∀ (v m : Int32) (i1 p1 : Nat), B (-257) 256 m → PM c f n l (upd (V.2.1 29) (520 * (l + 1) + (i + p)) v) (upd (V.2.1 30) (520 * (l + 1) + (i + p)) m) i1 p1 → i1 + p1 = i + p + 1 → i ≤ i1 → p ≤ p1 → R2 (nI c) (nI n) (nI (l + 1)) (nI (sz n l / 2)) (nI i1) (nI p1) (nI (520 * l)) (V.1, va_up (va_up V.2.1 29 (upd (V.2.1 29) (520 * (l + 1) + (i + p)) v)) 30 (upd ((va_up V.2.1 29 (upd (V.2.1 29) (520 * (l + 1) + (i + p)) v)) 30) (520 * (l + 1) + (i + p)) m), V.2.2)) → ¬ (n ≤ i ∧ sz n l / 2 ≤ p) → b_makeCode_203 (nI c) (nI n) (nI (l + 1)) (nI (sz n l / 2)) (nI i) (nI p) (nI (520 * l)) V RR R2 K := by
      intro RR R2 fin hnd
      unfold b_makeCode_203
      rw [nI_leI (z31 (by omega)) (z31 (by omega))]
      refine ⟨fun hpe => ?_, fun hpe => ?_⟩
      · have ep : p = sz n l / 2 := by omega
        unfold b_makeCode_241
        refine ⟨fun _ => ?_, fun h => absurd (congrArg nI ep) h⟩
        unfold b_makeCode_268
        exact one _ _ fin _ (by omega) (fun h => by omega)
      · have hpn : p < sz n l / 2 := by omega
        have e1 : (nI (520 * l) + (2 * nI p) : Int32) = nI (520 * l + 2 * p) := by rw [n2, nI_mul, nI_add]
        have e2 : (nI (520 * l + 2 * p) + 1 : Int32) = nI (520 * l + (2 * p + 1)) := by rw [nI_1, Nat.add_assoc]
        have c1 : (nI (520 * l + 2 * p)).toNatClampNeg = 520 * l + 2 * p := nI_clamp (z31 (by omega))
        have c2 : (nI (520 * l + (2 * p + 1))).toNatClampNeg = 520 * l + (2 * p + 1) := nI_clamp (z31 (by omega))
        rw [e1, e2, c1, c2]
        refine ⟨nI_in (by omega) (by decide), nI_in (by omega) (by decide), ?_⟩
        have w1 := pL.1 (2 * p) (by omega)
        have w2 := pL.1 (2 * p + 1) (by omega)
        have es : (V.2.1 29 (520 * l + 2 * p) + V.2.1 29 (520 * l + (2 * p + 1))).toInt = (V.2.1 29 (520 * l + 2 * p)).toInt + (V.2.1 29 (520 * l + (2 * p + 1))).toInt := t_add (a := 0) (b := 655360000) (c := 0) (d := 655360000) ⟨w1.1, by omega⟩ ⟨w2.1, by omega⟩ (by decide) (by decide)
        unfold b_makeCode_241
        rw [nI_leI (z31 (by omega)) (z31 (by omega)), ci, nI_eq (z31 (by omega)) (z31 (by omega))]
        refine ⟨fun h => by omega, fun _ => ⟨fun hni => ?_, fun hni => ⟨ini (by omega), fun hlt => ?_, fun hlt => ?_⟩⟩⟩
        · exact two _ _ fin hpn (fun h => by omega)
        · exact two _ _ fin hpn (fun h => by have := i_lt hlt; omega)
        · unfold b_makeCode_268
          exact one _ _ fin _ (by omega) (fun _ => by have := i_le (nlt_le hlt); omega)
    unfold b_makeCode_190
    rw [nI_ltI (z31 (by omega)) (z31 (by omega)), nI_leI (z31 (by omega)) (z31 (by omega))]
    refine ⟨fun h1 => mid _ _ fin (by omega), fun h1 => ⟨fun h2 => ?_, fun h2 => mid _ _ fin (by omega)⟩⟩
    have ei : i = n := by omega
    have ep : p = sz n l / 2 := by omega
    subst ei ep
    obtain ⟨k1, k2⟩ := PM_end hP
    rw [nI_add, nI_1]
    refine ⟨⟨rfl, rfl, hV, gV, v27, vS, l + 1, rfl, rfl, by omega, k1, k2⟩, ?_⟩
    show 16 - (nI (l + 1 + 1)).toNatClampNeg < 16 - (nI (l + 1)).toNatClampNeg
    rw [nI_clamp (z31 (by omega)), nI_clamp (z31 (by omega))]
    omega
