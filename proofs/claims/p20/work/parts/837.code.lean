/-! sorting the symbols that are used -/
def osum (c : Nat) (f : Nat → Int32) : Nat → Int
  | 0 => 0
  | s + 1 => osum c f s + owf c f s
def BS (c : Nat) (f W M : Nat → Int32) (n s : Nat) : Prop :=
  (∀ k, k < n → ∃ m, m < s ∧ M k = nI m ∧ (m = 256 ∨ 0 < (f (257 * c + m)).toInt) ∧ (W k).toInt = owf c f m) ∧
  (∀ k, k + 1 < n → (W k).toInt ≤ (W (k + 1)).toInt) ∧ csum W 0 n = osum c f s
theorem cs_congr {W W' : Nat → Int32} {a : Nat} : ∀ n, (∀ k, k < n → W' (a + k) = W (a + k)) → csum W' a n = csum W a n
  | 0, _ => rfl
  | n + 1, h => by
    rw [cs_s, cs_s, cs_congr n (fun k hk => h k (by omega)), h n (by omega)]
theorem ins_sum {W W' : Nat → Int32} {w : Int32} {j : Nat} (h1 : ∀ k, k < j → W' k = W k) (h2 : W' j = w) : ∀ n, j ≤ n → (∀ k, j ≤ k → k < n → W' (k + 1) = W k) → csum W' 0 (n + 1) = csum W 0 n + w.toInt
  | 0, hj, _ => by
    have : j = 0 := by omega
    subst this
    show (0 : Int) + (W' (0 + 0)).toInt = 0 + _
    rw [Nat.add_zero, h2]
  | n + 1, hj, h3 => by
    by_cases e : j = n + 1
    · subst e
      have e := cs_congr (W := W) (W' := W') (a := 0) (n + 1) (fun k hk => by rw [Nat.zero_add]; exact h1 k hk)
      rw [cs_s, Nat.zero_add, h2, e]
    · rw [cs_s, Nat.zero_add, h3 n (by omega) (by omega), ins_sum h1 h2 n (by omega) (fun k a b => h3 k a (by omega)), cs_s, Nat.zero_add]
      omega
theorem BS_ins {c n s j : Nat} {f W M W' M' : Nat → Int32} {w : Int32} (hB : BS c f W M n s) (hj : j ≤ n) (w1 : ∀ k, k < j → W' k = W k) (w2 : W' j = w) (w3 : ∀ k, j ≤ k → k < n → W' (k + 1) = W k)
    (m1 : ∀ k, k < j → M' k = M k) (m2 : M' j = nI s) (m3 : ∀ k, j ≤ k → k < n → M' (k + 1) = M k) (hw : w.toInt = owf c f s) (hs : s = 256 ∨ 0 < (f (257 * c + s)).toInt) (hlo : ∀ k, k + 1 = j → (W k).toInt ≤ w.toInt) (hhi : ∀ k, j ≤ k → k < n → w.toInt < (W k).toInt) : BS c f W' M' (n + 1) (s + 1) := by
  obtain ⟨b1, b2, b3⟩ := hB
  refine ⟨fun k hk => ?_, fun k hk => ?_, ?_⟩
  · by_cases h1 : k < j
    · obtain ⟨m, q1, q2, q3, q4⟩ := b1 k (by omega)
      exact ⟨m, by omega, by rw [m1 k h1]; exact q2, q3, by rw [w1 k h1]; exact q4⟩
    · by_cases h2 : k = j
      · subst h2
        exact ⟨s, by omega, m2, hs, by rw [w2]; exact hw⟩
      · obtain ⟨k', rfl⟩ : ∃ k', k = k' + 1 := ⟨k - 1, by omega⟩
        obtain ⟨m, q1, q2, q3, q4⟩ := b1 k' (by omega)
        exact ⟨m, by omega, by rw [m3 k' (by omega) (by omega)]; exact q2, q3, by rw [w3 k' (by omega) (by omega)]; exact q4⟩
  · by_cases h1 : k + 1 < j
    · rw [w1 k (by omega), w1 (k + 1) h1]
      exact b2 k (by omega)
    · by_cases h2 : k + 1 = j
      · rw [w1 k (by omega), h2, w2]
        exact hlo k h2
      · by_cases h3 : k = j
        · subst h3
          rw [w2, w3 k (by omega) (by omega)]
          exact Int.le_of_lt (hhi k (by omega) (by omega))
        · obtain ⟨k', rfl⟩ : ∃ k', k = k' + 1 := ⟨k - 1, by omega⟩
          rw [w3 k' (by omega) (by omega), w3 (k' + 1) (by omega) (by omega)]
          exact b2 k' (by omega)
  · rw [ins_sum w1 w2 n hj w3, b3]
    show _ = osum c f s + owf c f s
    omega
theorem BS_skip {c n s : Nat} {f W M : Nat → Int32} (hB : BS c f W M n s) (h : owf c f s = 0) : BS c f W M n (s + 1) := by
  obtain ⟨b1, b2, b3⟩ := hB
  refine ⟨fun k hk => ?_, b2, ?_⟩
  · obtain ⟨m, q1, q⟩ := b1 k hk
    exact ⟨m, by omega, q⟩
  · rw [b3]
    show _ = osum c f s + owf c f s
    omega
set_option maxHeartbeats 1000000 in
theorem h_makeCode {c : Nat} (hc : c ≤ 3) {S : ms} {K : ms → Prop} (hS : IM S) (hf : ∀ j, 0 ≤ (S.2.1 26 j).toInt ∧ (S.2.1 26 j).toInt ≤ 20000) (h255 : (S.2.1 26 (257 * c + 255)).toInt ≤ 0)
    (hK : ∀ Z : ms, IM Z → ag [] [27, 28, 29, 30, 31] S Z → LQ c (S.2.1 26) S (8 * osum c (S.2.1 26) 257) Z → K Z) : p_makeCode (nI c) S K := by
  have z31 : ∀ {n : Nat}, n < 1000000 → n < 2 ^ 31 := fun h => by omega
  have n0 : (0 : Int32) = nI 0 := rfl
  have n256 : (256 : Int32) = nI 256 := rfl
  have n257 : (257 : Int32) = nI 257 := rfl
  have h00 : (0 : Int32).toInt = 0 := by decide
  unfold p_makeCode
  refine ⟨fun y1 y2 y3 yS => nI c = y1 ∧ IM yS ∧ ag [] [27, 28, 29, 30, 31] S yS ∧ (∀ j, (j < 257 * c ∨ 257 * c + 257 ≤ j) → yS.2.1 27 j = S.2.1 27 j) ∧ ∃ n s : Nat, y2 = nI n ∧ y3 = nI s ∧ s ≤ 257 ∧ n ≤ s ∧ (256 ≤ s → n + 1 ≤ s) ∧ (257 ≤ s → 1 ≤ n) ∧ (∀ s', s' < s → (yS.2.1 27 (257 * c + s')).toInt = 0) ∧ BS c (S.2.1 26) (yS.2.1 29) (yS.2.1 30) n s, fun _ _ y3 _ => 257 - y3.toNatClampNeg, ⟨rfl, hS, ag_refl, fun _ _ => rfl, 0, 0, rfl, rfl, by omega, by omega, fun h => by omega, fun h => by omega, fun s' h => by omega, fun k hk => by omega, fun k hk => by omega, rfl⟩, ?_⟩
  rintro _ _ _ U ⟨rfl, hU, gU, uo, n, s, rfl, rfl, hs, hn, hn1, hn2, u0, uB⟩
  have e26 : U.2.1 26 = S.2.1 26 := gU.2 26 rfl
  unfold b_makeCode_4
  rw [n256, nI_ltI (by decide) (z31 (by omega))]
  refine ⟨fun h => ?_, fun h => ?_⟩
  · have es : s = 257 := by omega
    subst es
    obtain ⟨b1, b2, b3⟩ := uB
    refine mc2 hc (hn2 (by omega)) (by have := hn1 (by omega); omega) (f := S.2.1 26) (fun Z hZ gZ q => hK Z hZ gZ (by rw [b3] at q; exact q)) hU gU ⟨fun k hk => ?_, fun k hk => ?_, fun k hk => Or.inl ?_⟩ (fun s hs => u0 s (by omega)) uo
    · rw [Nat.mul_zero, Nat.zero_add]
      obtain ⟨m, q1, q2, q3, q4⟩ := b1 k hk
      rw [q4]
      unfold owf
      split
      · decide
      · have := hf (257 * c + m)
        have e : (20000 * 2 ^ 0 : Int) = 20000 := by decide
        omega
    · rw [Nat.mul_zero, Nat.zero_add, Nat.zero_add]
      exact b2 k hk
    · obtain ⟨m, q1, q2, q3, q4⟩ := b1 k hk
      rw [Nat.mul_zero, Nat.zero_add]
      exact ⟨m, by omega, q2, q3, q4⟩
  · rw [n257, nI_mul, nI_add]
    have hin : vp_in (nI (257 * c + s)) 1028 := nI_in (by omega) (by decide)
    have ecl : (nI (257 * c + s)).toNatClampNeg = 257 * c + s := nI_clamp (z31 (by omega))
    rw [ecl]
    have r26a : (va_up U.2.1 27 (upd (U.2.1 27) (257 * c + s) 0)) 26 = S.2.1 26 := by rw [up_ne (by decide)]; exact e26
    have r27 : (va_up U.2.1 27 (upd (U.2.1 27) (257 * c + s) 0)) 27 = upd (U.2.1 27) (257 * c + s) 0 := up_at
    have r29 : (va_up U.2.1 27 (upd (U.2.1 27) (257 * c + s) 0)) 29 = U.2.1 29 := up_ne (by decide)
    have r30 : (va_up U.2.1 27 (upd (U.2.1 27) (257 * c + s) 0)) 30 = U.2.1 30 := up_ne (by decide)
    have hU1 := IM_r (r := 27) (i := 257 * c + s) (v := 0) hU (show B 0 8320 (0 : Int32) from ⟨by decide, by decide⟩) (by decide) (by decide)
    have gU1 : ag [] [27, 28, 29, 30, 31] S (U.1, va_up U.2.1 27 (upd (U.2.1 27) (257 * c + s) 0), U.2.2) := ag_r gU (by decide)
    have z27 : ∀ s', s' < s + 1 → (upd (U.2.1 27) (257 * c + s) 0 (257 * c + s')).toInt = 0 := fun s' h' => by
      by_cases e : s' = s
      · subst e; rw [upd_at]; exact h00
      · rw [upd_ne (by omega)]; exact u0 s' (by omega)
    have o27 : ∀ j, (j < 257 * c ∨ 257 * c + 257 ≤ j) → upd (U.2.1 27) (257 * c + s) 0 j = S.2.1 27 j := fun j hj => by
      rw [upd_ne (by omega)]; exact uo j hj
    have hme : 257 - (nI (s + 1)).toNatClampNeg < 257 - (nI s).toNatClampNeg := by
      rw [nI_clamp (z31 (by omega)), nI_clamp (z31 (by omega))]
      omega
    generalize hU1s : (U.1, va_up U.2.1 27 (upd (U.2.1 27) (257 * c + s) 0), U.2.2) = U1 at *
    have r26 : U1.2.1 26 = S.2.1 26 := by rw [← hU1s]; exact r26a
    have r27 : U1.2.1 27 = upd (U.2.1 27) (257 * c + s) 0 := by rw [← hU1s]; exact r27
    have r29 : U1.2.1 29 = U.2.1 29 := by rw [← hU1s]; exact r29
    have r30 : U1.2.1 30 = U.2.1 30 := by rw [← hU1s]; exact r30
    -- a symbol comes to its place
    have ins : ∀ (w : Int32) (R4 : Int32 → Int32 → Int32 → ms → Prop), w.toInt = owf c (S.2.1 26) s → (s = 256 ∨ 0 < (S.2.1 26 (257 * c + s)).toInt) → (∀ Z : ms, IM Z → ag [] [27, 28, 29, 30, 31] S Z → Z.2.1 27 = U1.2.1 27 → BS c (S.2.1 26) (Z.2.1 29) (Z.2.1 30) (n + 1) (s + 1) → R4 (nI c) (nI (n + 1)) (nI (s + 1)) Z) → b_makeCode_72 (nI c) (nI n) (nI s) (nI n) w U1 R4 K := by
      intro w R4 hw hs' hR
      unfold b_makeCode_72
      refine ⟨fun y1 y2 y3 y4 y5 yS => nI c = y1 ∧ nI n = y2 ∧ nI s = y3 ∧ w = y5 ∧ IM yS ∧ ag [] [27, 28, 29, 30, 31] S yS ∧ yS.2.1 27 = U1.2.1 27 ∧ ∃ j : Nat, y4 = nI j ∧ j ≤ n ∧ (∀ k, k < j → yS.2.1 29 k = U.2.1 29 k ∧ yS.2.1 30 k = U.2.1 30 k) ∧ (∀ k, j ≤ k → k < n → yS.2.1 29 (k + 1) = U.2.1 29 k ∧ yS.2.1 30 (k + 1) = U.2.1 30 k ∧ w.toInt < (U.2.1 29 k).toInt), fun _ _ _ y4 _ _ => y4.toNatClampNeg, ⟨rfl, rfl, rfl, rfl, hU1, gU1, rfl, n, rfl, by omega, fun k hk => ⟨by rw [r29], by rw [r30]⟩, fun k h1 h2 => by omega⟩, ?_⟩
      rintro _ _ _ _ _ V ⟨rfl, rfl, rfl, rfl, hV, gV, v27, j, rfl, hj, vlo, vhi⟩
      have cj : (nI j).toNatClampNeg = j := nI_clamp (z31 (by omega))
      have inj : vp_in (nI j) 8320 := nI_in (by omega) (by decide)
      have put : (∀ k, k + 1 = j → (U.2.1 29 k).toInt ≤ w.toInt) → b_makeCode_131 (nI c) (nI n) (nI s) (nI j) w V R4 K := by
        intro hlo
        unfold b_makeCode_131 b_makeCode_151
        rw [cj, nI_1, nI_1]
        refine ⟨inj, inj, ?_⟩
        have hI1 := IM_r (r := 29) (i := j) (v := w) hV (B_any _) (by decide) (by decide)
        have hI2 := IM_r (r := 30) (i := j) (v := nI s) hI1 (show B (-257) 256 (nI s) from by
          unfold B
          rw [nI_toInt (z31 (by omega))]
          omega) (by decide) (by decide)
        have q29 : (va_up (va_up V.2.1 29 (upd (V.2.1 29) j w)) 30 (upd ((va_up V.2.1 29 (upd (V.2.1 29) j w)) 30) j (nI s))) 29 = upd (V.2.1 29) j w := by rw [up_ne (by decide), up_at]
        have q30 : (va_up (va_up V.2.1 29 (upd (V.2.1 29) j w)) 30 (upd ((va_up V.2.1 29 (upd (V.2.1 29) j w)) 30) j (nI s))) 30 = upd (V.2.1 30) j (nI s) := by rw [up_at, up_ne (by decide)]
        have q27 : (va_up (va_up V.2.1 29 (upd (V.2.1 29) j w)) 30 (upd ((va_up V.2.1 29 (upd (V.2.1 29) j w)) 30) j (nI s))) 27 = V.2.1 27 := by rw [up_ne (by decide), up_ne (by decide)]
        refine hR _ hI2 (ag_r (ag_r gV (by decide)) (by decide)) (q27.trans v27) ?_
        show BS c (S.2.1 26) ((va_up (va_up V.2.1 29 (upd (V.2.1 29) j w)) 30 (upd ((va_up V.2.1 29 (upd (V.2.1 29) j w)) 30) j (nI s))) 29) ((va_up (va_up V.2.1 29 (upd (V.2.1 29) j w)) 30 (upd ((va_up V.2.1 29 (upd (V.2.1 29) j w)) 30) j (nI s))) 30) (n + 1) (s + 1)
        rw [q29, q30]
        refine BS_ins uB hj (fun k hk => ?_) upd_at (fun k h1 h2 => ?_) (fun k hk => ?_) upd_at (fun k h1 h2 => ?_) hw hs' hlo (fun k h1 h2 => (vhi k h1 h2).2.2)
        · rw [upd_ne (by omega)]; exact (vlo k hk).1
        · rw [upd_ne (by omega)]; exact (vhi k h1 h2).1
        · rw [upd_ne (by omega)]; exact (vlo k hk).2
        · rw [upd_ne (by omega)]; exact (vhi k h1 h2).2.1
      unfold b_makeCode_74
      rw [n0, nI_leI (z31 (by omega)) (by decide)]
      refine ⟨fun h0 => put (fun k hk => by omega), fun h0 => ?_⟩
      obtain ⟨j', rfl⟩ : ∃ j', j = j' + 1 := ⟨j - 1, by omega⟩
      have cj' : (nI j').toNatClampNeg = j' := nI_clamp (z31 (by omega))
      have inj' : vp_in (nI j') 8320 := nI_in (by omega) (by decide)
      rw [nI_pred, cj']
      refine ⟨inj', fun hle => put (fun k hk => ?_), fun hle => ⟨inj', inj, inj', inj, ?_⟩⟩
      · have : k = j' := by omega
        subst this
        have := i_le hle
        rw [(vlo k (by omega)).1] at this
        exact this
      · have hlt := i_lt (nle_lt hle)
        rw [(vlo j' (by omega)).1] at hlt
        rw [cj, nI_m1]
        have e30 : (va_up V.2.1 29 (upd (V.2.1 29) (j' + 1) (V.2.1 29 j'))) 30 = V.2.1 30 := up_ne (by decide)
        have hI1 := IM_r (r := 29) (i := j' + 1) (v := V.2.1 29 j') hV (B_any _) (by decide) (by decide)
        have hI2 := IM_r (r := 30) (i := j' + 1) (v := (va_up V.2.1 29 (upd (V.2.1 29) (j' + 1) (V.2.1 29 j'))) 30 j') hI1 (br_30 hI1 j') (by decide) (by decide)
        have q29 : (va_up (va_up V.2.1 29 (upd (V.2.1 29) (j' + 1) (V.2.1 29 j'))) 30 (upd ((va_up V.2.1 29 (upd (V.2.1 29) (j' + 1) (V.2.1 29 j'))) 30) (j' + 1) ((va_up V.2.1 29 (upd (V.2.1 29) (j' + 1) (V.2.1 29 j'))) 30 j'))) 29 = upd (V.2.1 29) (j' + 1) (V.2.1 29 j') := by rw [up_ne (by decide), up_at]
        have q30 : (va_up (va_up V.2.1 29 (upd (V.2.1 29) (j' + 1) (V.2.1 29 j'))) 30 (upd ((va_up V.2.1 29 (upd (V.2.1 29) (j' + 1) (V.2.1 29 j'))) 30) (j' + 1) ((va_up V.2.1 29 (upd (V.2.1 29) (j' + 1) (V.2.1 29 j'))) 30 j'))) 30 = upd (V.2.1 30) (j' + 1) (V.2.1 30 j') := by rw [up_at, e30]
        have q27 : (va_up (va_up V.2.1 29 (upd (V.2.1 29) (j' + 1) (V.2.1 29 j'))) 30 (upd ((va_up V.2.1 29 (upd (V.2.1 29) (j' + 1) (V.2.1 29 j'))) 30) (j' + 1) ((va_up V.2.1 29 (upd (V.2.1 29) (j' + 1) (V.2.1 29 j'))) 30 j'))) 27 = V.2.1 27 := by rw [up_ne (by decide), up_ne (by decide)]
        refine ⟨⟨rfl, rfl, rfl, rfl, hI2, ag_r (ag_r gV (by decide)) (by decide), q27.trans v27, j', rfl, by omega, fun k hk => ?_, fun k h1 h2 => ?_⟩, ?_⟩
        · show (va_up (va_up V.2.1 29 (upd (V.2.1 29) (j' + 1) (V.2.1 29 j'))) 30 (upd ((va_up V.2.1 29 (upd (V.2.1 29) (j' + 1) (V.2.1 29 j'))) 30) (j' + 1) ((va_up V.2.1 29 (upd (V.2.1 29) (j' + 1) (V.2.1 29 j'))) 30 j'))) 29 k = _ ∧ (va_up (va_up V.2.1 29 (upd (V.2.1 29) (j' + 1) (V.2.1 29 j'))) 30 (upd ((va_up V.2.1 29 (upd (V.2.1 29) (j' + 1) (V.2.1 29 j'))) 30) (j' + 1) ((va_up V.2.1 29 (upd (V.2.1 29) (j' + 1) (V.2.1 29 j'))) 30 j'))) 30 k = _
          rw [q29, q30, upd_ne (by omega), upd_ne (by omega)]
          exact vlo k (by omega)
        · show (va_up (va_up V.2.1 29 (upd (V.2.1 29) (j' + 1) (V.2.1 29 j'))) 30 (upd ((va_up V.2.1 29 (upd (V.2.1 29) (j' + 1) (V.2.1 29 j'))) 30) (j' + 1) ((va_up V.2.1 29 (upd (V.2.1 29) (j' + 1) (V.2.1 29 j'))) 30 j'))) 29 (k + 1) = _ ∧ (va_up (va_up V.2.1 29 (upd (V.2.1 29) (j' + 1) (V.2.1 29 j'))) 30 (upd ((va_up V.2.1 29 (upd (V.2.1 29) (j' + 1) (V.2.1 29 j'))) 30) (j' + 1) ((va_up V.2.1 29 (upd (V.2.1 29) (j' + 1) (V.2.1 29 j'))) 30 j'))) 30 (k + 1) = _ ∧ _
          rw [q29, q30]
          by_cases e : k = j'
          · subst e
            rw [upd_at, upd_at]
            have := vlo k (by omega)
            exact ⟨this.1, this.2, hlt⟩
          · rw [upd_ne (by omega), upd_ne (by omega)]
            exact vhi k (by omega) h2
        · show (nI j').toNatClampNeg < (nI (j' + 1)).toNatClampNeg
          rw [cj, cj']
          omega
    refine ⟨hin, fun h6 => ?_, fun h6 => ⟨hin, fun h7 => ?_, fun h7 => ?_⟩⟩
    · rw [nI_eq (z31 (by omega)) (by decide)] at h6
      unfold b_makeCode_46
      refine ⟨fun h => absurd (by rw [h6]; rfl) h, fun _ => ?_⟩
      refine ins 0 _ (by unfold owf; rw [if_pos h6]; exact h00) (Or.inl h6) (fun Z hZ gZ z27' zB => ?_)
      refine ⟨⟨rfl, hZ, gZ, fun j hj => ?_, n + 1, s + 1, rfl, rfl, by omega, by omega, fun _ => by have := hn1 (by omega); omega, fun _ => by omega, fun s' hs' => ?_, zB⟩, hme⟩
      · rw [z27', r27]; exact o27 j hj
      · rw [z27', r27]; exact z27 s' hs'
    · rw [nI_eq (z31 (by omega)) (by decide)] at h6
      rw [r26a] at h7
      have h7 := i_le h7
      have h8 := (hf (257 * c + s)).1
      unfold b_makeCode_151
      rw [nI_1]
      refine ⟨⟨rfl, hU1, gU1, fun j hj => ?_, n, s + 1, rfl, rfl, by omega, by omega, fun _ => by omega, fun _ => by omega, fun s' hs' => ?_, ?_⟩, hme⟩
      · rw [r27]; exact o27 j hj
      · rw [r27]; exact z27 s' hs'
      · rw [r29, r30]
        refine BS_skip uB ?_
        unfold owf
        rw [if_neg h6]
        omega
    · rw [nI_eq (z31 (by omega)) (by decide)] at h6
      rw [r26a] at h7
      have h7 := i_lt (nle_lt h7)
      have hs255 : s ≠ 255 := by
        intro e
        subst e
        omega
      unfold b_makeCode_46
      refine ⟨fun _ => ⟨by rw [n257, nI_mul, nI_add]; exact hin, ?_⟩, fun h => absurd h (by rw [n256, nI_eq (z31 (by omega)) (by decide)]; exact h6)⟩
      rw [n257, nI_mul, nI_add, ecl, r26]
      refine ins (S.2.1 26 (257 * c + s)) _ (by unfold owf; rw [if_neg h6]) (Or.inr (by omega)) (fun Z hZ gZ z27' zB => ?_)
      refine ⟨⟨rfl, hZ, gZ, fun j hj => ?_, n + 1, s + 1, rfl, rfl, by omega, by omega, fun _ => by omega, fun _ => by omega, fun s' hs' => ?_, zB⟩, hme⟩
      · rw [z27', r27]; exact o27 j hj
      · rw [z27', r27]; exact z27 s' hs'
