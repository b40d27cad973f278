/-! writing a code -/
def pcN (g : Nat → Int32) (a : Nat) (b : Int) : Nat → Int
  | 0 => 0
  | n + 1 => pcN g a b n + (if 1 ≤ (g (a + n)).toInt ∧ (g (a + n)).toInt ≤ b then 1 else 0)
theorem pc_s (g : Nat → Int32) (a : Nat) (b : Int) (n : Nat) : pcN g a b (n + 1) = pcN g a b n + (if 1 ≤ (g (a + n)).toInt ∧ (g (a + n)).toInt ≤ b then 1 else 0) := rfl
theorem pc_le {g : Nat → Int32} {a : Nat} {b : Int} : ∀ n, 0 ≤ pcN g a b n ∧ pcN g a b n ≤ n
  | 0 => ⟨Int.le_refl _, Int.le_refl _⟩
  | n + 1 => by
    have := pc_le (g := g) (a := a) (b := b) n
    rw [pc_s]
    split <;> (refine ⟨by omega, by omega⟩)
theorem pc_0 {g : Nat → Int32} {a : Nat} : ∀ n, pcN g a 0 n = 0
  | 0 => rfl
  | n + 1 => by
    rw [pc_s, pc_0 n, if_neg (by omega)]
    rfl
/-- no code has a word for 255 -/
def LZ (S : ms) : Prop := ∀ c : Nat, c ≤ 3 → (S.2.1 27 (257 * c + 255)).toInt = 0
theorem LZ_tr {S T : ms} (h : LZ S) (e : T.2.1 27 = S.2.1 27) : LZ T := fun c hc => by
  rw [e]
  exact h c hc
set_option maxHeartbeats 1000000 in
theorem h_putCode {x1 x2 : Int32} {S : ms} {K : ms → Prop} (b_x1 : B 0 3 x1) (b_x2 : B 0 255 x2) (hI : IM S) (pre0 : (S.1 9).toInt ≤ 60000) (pre1 : LZ S) (hK : ∀ {Z : ms}, IM Z → ag [9] [8] S Z → ((Z.1 9).toInt ≤ (S.1 9).toInt + 273) → K Z) : p_putCode x1 x2 S K := by
  have z31 : ∀ {n : Nat}, n < 1000000 → n < 2 ^ 31 := fun h => by omega
  have n16 : (16 : Int32) = nI 16 := rfl
  have n256 : (256 : Int32) = nI 256 := rfl
  have n257 : (257 : Int32) = nI 257 := rfl
  have q1 := b_x1.1
  have q2 := b_x1.2
  have ec := cl_i (x := x1) q1
  have e1 := nI_cl (x := x1) q1
  generalize hcc : x1.toNatClampNeg = c at *
  have hc : c ≤ 3 := by omega
  rw [e1]
  have hz := pre1 c hc
  unfold p_putCode
  refine h_put b_x2 hI (by omega) (fun {S2} hS2 g2 r2 => ?_)
  have r2 : (S2.1 9).toInt = (S.1 9).toInt + 1 := r2
  have g2 : ag [9] [8] S S2 := g2
  -- how many of each length
  have part2 : ∀ T : ms, IM T → ag [9] [8] S T → (T.1 9).toInt ≤ (S.1 9).toInt + 17 → e_putCode_75 (nI c) 1 T K := by
    intro T hT gT rT
    refine ⟨fun y1 y3 yS => nI c = y1 ∧ IM yS ∧ ag [9] [8] S yS ∧ ∃ b : Nat, y3 = nI b ∧ 1 ≤ b ∧ b ≤ 17 ∧ (yS.1 9).toInt ≤ (S.1 9).toInt + 17 + pcN (S.2.1 27) (257 * c) ((b : Int) - 1) 256, fun _ y3 _ => 17 - y3.toNatClampNeg, ⟨rfl, hT, gT, 1, rfl, by omega, by omega, by have e : pcN (S.2.1 27) (257 * c) (((1 : Nat) : Int) - 1) 256 = 0 := pc_0 256; rw [e]; omega⟩, ?_⟩
    rintro _ _ U ⟨rfl, hU, gU, b, rfl, b1, b17, rU⟩
    unfold b_putCode_75
    rw [n16, nI_ltI (by decide) (z31 (by omega))]
    have l256 := (pc_le (g := S.2.1 27) (a := 257 * c) (b := (b : Int) - 1) 256).2
    refine ⟨fun h => hK hU gU (by omega), fun h => ?_⟩
    refine ⟨fun y1 y3 y4 yS => nI c = y1 ∧ nI b = y3 ∧ IM yS ∧ ag [9] [8] S yS ∧ ∃ s : Nat, y4 = nI s ∧ s ≤ 256 ∧ (yS.1 9).toInt ≤ (S.1 9).toInt + 17 + (pcN (S.2.1 27) (257 * c) b s + (pcN (S.2.1 27) (257 * c) ((b : Int) - 1) 256 - pcN (S.2.1 27) (257 * c) ((b : Int) - 1) s)), fun _ _ y4 _ => 256 - y4.toNatClampNeg, ⟨rfl, rfl, hU, gU, 0, rfl, by omega, by show _ ≤ _ + ((0 : Int) + (_ - 0)); omega⟩, ?_⟩
    rintro _ _ _ V ⟨rfl, rfl, hV, gV, s, rfl, hs, rV⟩
    have e27 : V.2.1 27 = S.2.1 27 := gV.2 27 rfl
    unfold b_putCode_84
    rw [n256, nI_leI (by decide) (z31 (by omega))]
    refine ⟨fun h2 => ?_, fun h2 => ?_⟩
    · have es : s = 256 := by omega
      subst es
      rw [nI_1]
      refine ⟨⟨rfl, hV, gV, b + 1, rfl, by omega, by omega, ?_⟩, ?_⟩
      · have : (((b + 1 : Nat) : Int) - 1) = b := by omega
        rw [this]
        omega
      · show 17 - (nI (b + 1)).toNatClampNeg < 17 - (nI b).toNatClampNeg
        rw [nI_clamp (z31 (by omega)), nI_clamp (z31 (by omega))]
        omega
    · rw [n257, nI_mul, nI_add]
      have ecl : (nI (257 * c + s)).toNatClampNeg = 257 * c + s := nI_clamp (z31 (by omega))
      rw [ecl, e27]
      have hme : 256 - (nI (s + 1)).toNatClampNeg < 256 - (nI s).toNatClampNeg := by
        rw [nI_clamp (z31 (by omega)), nI_clamp (z31 (by omega))]
        omega
      have p1 := pc_s (S.2.1 27) (257 * c) b s
      have p2 := pc_s (S.2.1 27) (257 * c) ((b : Int) - 1) s
      have lb := (pc_le (g := S.2.1 27) (a := 257 * c) (b := b) s).2
      have lb2 := (pc_le (g := S.2.1 27) (a := 257 * c) (b := (b : Int) - 1) s).1
      have eb : (nI b).toInt = b := nI_toInt (z31 (by omega))
      unfold b_putCode_115
      rw [nI_1]
      refine ⟨nI_in (by omega) (by decide), fun hne => ?_, fun heq => ?_⟩
      · have hne : (S.2.1 27 (257 * c + s)).toInt ≠ b := fun e => hne (Int32.toInt.inj (by rw [e, eb]))
        refine ⟨⟨rfl, rfl, hV, gV, s + 1, rfl, by omega, ?_⟩, hme⟩
        rw [p1, p2]
        by_cases x1 : 1 ≤ (S.2.1 27 (257 * c + s)).toInt ∧ (S.2.1 27 (257 * c + s)).toInt ≤ b
        · rw [if_pos x1, if_pos (by omega)]
          omega
        · rw [if_neg x1, if_neg (by omega)]
          omega
      · have heq : (S.2.1 27 (257 * c + s)).toInt = b := by rw [heq, eb]
        rw [if_pos (by omega)] at p1
        rw [if_neg (by omega)] at p2
        refine h_put (x1 := nI s) ⟨by rw [nI_toInt (z31 (by omega))]; omega, by rw [nI_toInt (z31 (by omega))]; omega⟩ hV (by omega) (fun {Z} hZ gZ rZ => ?_)
        have rZ : (Z.1 9).toInt = (V.1 9).toInt + 1 := rZ
        refine ⟨⟨rfl, rfl, hZ, ag_tr gV gZ (by decide) (by decide), s + 1, rfl, by omega, ?_⟩, hme⟩
        show (Z.1 9).toInt ≤ _
        rw [p1, p2]
        omega
  refine ⟨fun y1 y3 yS => nI c = y1 ∧ IM yS ∧ ag [9] [8] S yS ∧ ∃ b : Nat, y3 = nI b ∧ 1 ≤ b ∧ b ≤ 17 ∧ (yS.1 9).toInt ≤ (S.1 9).toInt + b, fun _ y3 _ => 17 - y3.toNatClampNeg, ⟨rfl, hS2, g2, 1, rfl, by omega, by omega, by show (S2.1 9).toInt ≤ _; omega⟩, ?_⟩
  rintro _ _ U ⟨rfl, hU, gU, b, rfl, b1, b17, rU⟩
  unfold b_putCode_7
  rw [n16, nI_ltI (by decide) (z31 (by omega))]
  refine ⟨fun h => part2 U hU gU (by omega), fun h => ?_⟩
  have e27 : U.2.1 27 = S.2.1 27 := gU.2 27 rfl
  refine ⟨fun y1 y3 y4 y5 yS => nI c = y1 ∧ nI b = y3 ∧ U = yS ∧ ∃ m s : Nat, y4 = nI m ∧ y5 = nI s ∧ s ≤ 256 ∧ m ≤ s ∧ m ≤ 255, fun _ _ _ y5 _ => 256 - y5.toNatClampNeg, ⟨rfl, rfl, rfl, 0, 0, rfl, rfl, by omega, by omega, by omega⟩, ?_⟩
  rintro _ _ _ _ _ ⟨rfl, rfl, rfl, m, s, rfl, rfl, hs, hm, hm2⟩
  unfold b_putCode_19
  rw [n256, nI_leI (by decide) (z31 (by omega))]
  refine ⟨fun h2 => ?_, fun h2 => ?_⟩
  · refine h_put (x1 := nI m) ⟨by rw [nI_toInt (z31 (by omega))]; omega, by rw [nI_toInt (z31 (by omega))]; omega⟩ hU (by omega) (fun {Z} hZ gZ rZ => ?_)
    have rZ : (Z.1 9).toInt = (U.1 9).toInt + 1 := rZ
    rw [nI_1]
    refine ⟨⟨rfl, hZ, ag_tr gU gZ (by decide) (by decide), b + 1, rfl, by omega, by omega, by show (Z.1 9).toInt ≤ _; omega⟩, ?_⟩
    show 17 - (nI (b + 1)).toNatClampNeg < 17 - (nI b).toNatClampNeg
    rw [nI_clamp (z31 (by omega)), nI_clamp (z31 (by omega))]
    omega
  · rw [n257, nI_mul, nI_add]
    have ecl : (nI (257 * c + s)).toNatClampNeg = 257 * c + s := nI_clamp (z31 (by omega))
    rw [ecl, e27]
    have hme : 256 - (nI (s + 1)).toNatClampNeg < 256 - (nI s).toNatClampNeg := by
      rw [nI_clamp (z31 (by omega)), nI_clamp (z31 (by omega))]
      omega
    have eb : (nI b).toInt = b := nI_toInt (z31 (by omega))
    unfold b_putCode_53
    rw [nI_1, nI_1]
    refine ⟨nI_in (by omega) (by decide), fun hne => ⟨⟨rfl, rfl, rfl, m, s + 1, rfl, rfl, by omega, by omega, by omega⟩, hme⟩, fun heq => ⟨⟨rfl, rfl, rfl, m + 1, s + 1, rfl, rfl, by omega, by omega, ?_⟩, hme⟩⟩
    have heq : (S.2.1 27 (257 * c + s)).toInt = b := by rw [heq, eb]
    by_cases e : s = 255
    · subst e
      omega
    · omega
