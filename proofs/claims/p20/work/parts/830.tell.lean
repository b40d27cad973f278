/-! telling: which symbols a block gives, weighed by t (257 c + s) -/
def blx (x : Int32) : Nat := bl x.toInt.natAbs
def acT (t : Nat → Int) (c : Nat) (h : Nat → Int32) : Nat → Nat → Int
  | 0, z => if 0 < z then t (257 * c) else 0
  | m + 1, z => if h (63 - m) = 0 then acT t c h m (z + 1) else ((z / 16 : Nat) : Int) * t (257 * c + 240) + (t (257 * c + (16 * (z % 16) + blx (h (63 - m)))) + acT t c h m 0)
def blkT (t : Nat → Int) (c : Nat) (h : Nat → Int32) (s : Int32) : Int := t (257 * c + blx (h 0 - s)) + acT t (c + 1) h 63 0
def bitj (j : Nat) : Nat := (j % 257) % 16
theorem bitj_s {c s : Nat} (h : s < 257) : bitj (257 * c + s) = s % 16 := by
  unfold bitj
  rw [Nat.mul_add_mod, Nat.mod_eq_of_lt h]
theorem acT_nn {t : Nat → Int} (ht : ∀ j, 0 ≤ t j) (c : Nat) (h : Nat → Int32) : ∀ m z, 0 ≤ acT t c h m z
  | 0, z => by
    unfold acT
    split
    · exact ht _
    · exact Int.le_refl _
  | m + 1, z => by
    unfold acT
    split
    · exact acT_nn ht c h m _
    · have h1 := acT_nn ht c h m 0
      have h2 := ht (257 * c + (16 * (z % 16) + blx (h (63 - m))))
      have h3 : 0 ≤ ((z / 16 : Nat) : Int) * t (257 * c + 240) := Int.mul_nonneg (by omega) (ht _)
      omega
theorem acT_z {t : Nat → Int} {c : Nat} {h : Nat → Int32} {m z : Nat} (h0 : h (63 - m) = 0) : acT t c h (m + 1) z = acT t c h m (z + 1) := by
  rw [acT, if_pos h0]
theorem acT_n {t : Nat → Int} {c : Nat} {h : Nat → Int32} {m z : Nat} (h0 : ¬ h (63 - m) = 0) : acT t c h (m + 1) z = ((z / 16 : Nat) : Int) * t (257 * c + 240) + (t (257 * c + (16 * (z % 16) + blx (h (63 - m)))) + acT t c h m 0) := by
  rw [acT, if_neg h0]
theorem nI_mul (a b : Nat) : nI a * nI b = nI (a * b) := (Int32.ofNat_mul a b).symm
theorem nI_sub {a b : Nat} (h : b ≤ a) : nI a - nI b = nI (a - b) := by
  have : nI a = nI (a - b) + nI b := by rw [nI_add, Nat.sub_add_cancel h]
  rw [this]
  exact Int32.add_sub_cancel _ _
theorem nI_div {a b : Nat} (hb : 0 < b) (ha : a < 2 ^ 31) (hb2 : b < 2 ^ 31) : nI a / nI b = nI (a / b) := by
  apply Int32.toInt.inj
  have e := t_div (x := nI a) (y := nI b) (a := 0) (b := a) (c := 1) (d := b) ⟨by rw [nI_toInt ha]; omega, by rw [nI_toInt ha]; exact Int.le_refl _⟩ ⟨by rw [nI_toInt hb2]; omega, by rw [nI_toInt hb2]; exact Int.le_refl _⟩ (by decide) (by decide)
  have h3 : a / b < 2 ^ 31 := Nat.lt_of_le_of_lt (Nat.div_le_self a b) ha
  rw [e, nI_toInt ha, nI_toInt hb2, nI_toInt h3]
  rfl
/-- what the two walks have in common: the state's potentials Y (it has room up to N) and X -/
def TI {ι : Type} (x1 : Int32) (Q : ms → Prop) (Y : ms → Int) (X : ι → ms → Int) (v : Nat → Int) (w : ι → Nat → Int) (vb : Nat → Int) (wb : ι → Nat → Int) (N : Int) : Prop :=
  (∀ {c s : Nat} {S : ms} {K : ms → Prop}, c ≤ 3 → s ≤ 254 → s % 16 ≤ 13 → IM S → Q S → Y S + v (257 * c + s) ≤ N → (∀ Z : ms, IM Z → Q Z → ag [9, 32, 33] [8, 26] S Z → Y Z ≤ Y S + v (257 * c + s) → (∀ i, X i Z ≤ X i S + w i (257 * c + s)) → K Z) → p_symbol x1 (nI c) (nI s) S K) ∧
  (∀ {n : Nat} {a : Int32} {S : ms} {K : ms → Prop}, n ≤ 13 → IM S → Q S → Y S + vb n ≤ N → (∀ Z : ms, IM Z → Q Z → ag [9, 32, 33] [8, 26] S Z → Y Z ≤ Y S + vb n → (∀ i, X i Z ≤ X i S + wb i n) → K Z) → p_number x1 a (nI n) S K) ∧
  (∀ {S : ms} {g : Nat → Int32}, (Q S → Q (S.1, va_up S.2.1 53 g, S.2.2)) ∧ Y (S.1, va_up S.2.1 53 g, S.2.2) = Y S ∧ ∀ i, X i (S.1, va_up S.2.1 53 g, S.2.2) = X i S) ∧
  (∀ j, 0 ≤ v j) ∧
  (∀ n, 0 ≤ vb n) ∧
  (vb 0 = 0) ∧
  (∀ i, wb i 0 = 0)
section TIF
variable {x1 : Int32} {Q : ms → Prop} {ι : Type} {Y : ms → Int} {X : ι → ms → Int} {v : Nat → Int} {w : ι → Nat → Int} {vb : Nat → Int} {wb : ι → Nat → Int} {N : Int}
theorem TI.sym (H : TI x1 Q Y X v w vb wb N) : ∀ {c s : Nat} {S : ms} {K : ms → Prop}, c ≤ 3 → s ≤ 254 → s % 16 ≤ 13 → IM S → Q S → Y S + v (257 * c + s) ≤ N → (∀ Z : ms, IM Z → Q Z → ag [9, 32, 33] [8, 26] S Z → Y Z ≤ Y S + v (257 * c + s) → (∀ i, X i Z ≤ X i S + w i (257 * c + s)) → K Z) → p_symbol x1 (nI c) (nI s) S K := H.1
theorem TI.num (H : TI x1 Q Y X v w vb wb N) : ∀ {n : Nat} {a : Int32} {S : ms} {K : ms → Prop}, n ≤ 13 → IM S → Q S → Y S + vb n ≤ N → (∀ Z : ms, IM Z → Q Z → ag [9, 32, 33] [8, 26] S Z → Y Z ≤ Y S + vb n → (∀ i, X i Z ≤ X i S + wb i n) → K Z) → p_number x1 a (nI n) S K := H.2.1
theorem TI.loc (H : TI x1 Q Y X v w vb wb N) : ∀ {S : ms} {g : Nat → Int32}, (Q S → Q (S.1, va_up S.2.1 53 g, S.2.2)) ∧ Y (S.1, va_up S.2.1 53 g, S.2.2) = Y S ∧ ∀ i, X i (S.1, va_up S.2.1 53 g, S.2.2) = X i S := H.2.2.1
theorem TI.nn (H : TI x1 Q Y X v w vb wb N) : ∀ j, 0 ≤ v j := H.2.2.2.1
theorem TI.nb (H : TI x1 Q Y X v w vb wb N) : ∀ n, 0 ≤ vb n := H.2.2.2.2.1
theorem TI.v0 (H : TI x1 Q Y X v w vb wb N) : vb 0 = 0 := H.2.2.2.2.2.1
theorem TI.w0 (H : TI x1 Q Y X v w vb wb N) : ∀ i, wb i 0 = 0 := H.2.2.2.2.2.2
end TIF
/-- the levels of a block -/
def lvh (S : ms) (l b : Nat) : Nat → Int32 := fun k => S.2.1 19 (64 * (64 * l + b) + k)
theorem cellN {l b k : Nat} (hl : l ≤ 2) (hb : b ≤ 63) (hk : k ≤ 63) : ((64 * ((64 * ((3 * 0) + nI l)) + nI b)) + nI k : Int32) = nI (64 * (64 * l + b) + k) := by
  have e1 : ((3 * 0) + nI l : Int32) = nI l := by
    have : (3 * 0 : Int32) = nI 0 := by decide
    rw [this, nI_add, Nat.zero_add]
  have e2 : (64 : Int32) = nI 64 := by decide
  rw [e1, e2, nI_mul, nI_add, nI_mul, nI_add]
theorem bf_n {x : Int32} : bf x = nI (blx x) := rfl
theorem blx_le {x : Int32} {m : Nat} (h : x.toInt.natAbs < 2 ^ m) : blx x ≤ m := bl_le.mpr h
section TELL
variable {x1 : Int32} {Q : ms → Prop} {ι : Type} {Y : ms → Int} {X : ι → ms → Int} {v : Nat → Int} {w : ι → Nat → Int} {vb : Nat → Int} {wb : ι → Nat → Int} {N : Int}
theorem h_tell (H : TI x1 Q Y X v w vb wb N) {l b : Nat} {S : ms} {K : ms → Prop} (hl : l ≤ 2) (hb : b ≤ 63) (hI : IM S) (hQ : Q S) (hlv : qf (S.2.1 19) 0 12288 (-2049) 2049) (hst : B (-2049) 2049 (S.2.1 53 l))
    (hY : Y S + blkT (fun j => v j + vb (bitj j)) (if l = 0 then 0 else 2) (lvh S l b) (S.2.1 53 l) ≤ N)
    (hK : ∀ Z : ms, IM Z → Q Z → ag [9, 32, 33] [8, 26, 53] S Z → Z.2.1 53 = upd (S.2.1 53) l (lvh S l b 0) → Y Z ≤ Y S + blkT (fun j => v j + vb (bitj j)) (if l = 0 then 0 else 2) (lvh S l b) (S.2.1 53 l) → (∀ i, X i Z ≤ X i S + blkT (fun j => w i j + wb i (bitj j)) (if l = 0 then 0 else 2) (lvh S l b) (S.2.1 53 l)) → K Z) : p_tell x1 (nI l) (nI b) S K := by
  have z31 : ∀ {n : Nat}, n < 1000000 → n < 2 ^ 31 := fun h => by omega
  have hvn : ∀ j, 0 ≤ (fun j => v j + vb (bitj j)) j := fun j => by have := H.nn j; have := H.nb (bitj j); simp only; omega
  -- the first, then the rest, for the code of the layer's kind
  have go : ∀ c : Nat, c = (if l = 0 then 0 else 2) → b_tell_9 x1 (nI l) (nI b) (nI c) S K := by
    intro c hc
    rw [← hc] at hY hK
    have c2 : c ≤ 2 := by rw [hc]; split <;> omega
    unfold b_tell_9 p_levelCell
    have ec := cellN (k := 0) hl hb (by omega)
    rw [nI_0] at ec
    rw [ec]
    dsimp only
    have ecl : (nI (64 * (64 * l + b) + 0)).toNatClampNeg = 64 * (64 * l + b) + 0 := nI_clamp (z31 (by omega))
    have lcl : (nI l).toNatClampNeg = l := nI_clamp (z31 (by omega))
    rw [ecl, lcl]
    refine ⟨nI_in (by omega) (by decide), nI_in (by omega) (by decide), nI_in (by omega) (by decide), ?_⟩
    have bh : ∀ k, k ≤ 63 → B (-2049) 2049 (lvh S l b k) := fun k hk => hlv _ (by omega) (by omega)
    have b0 := bh 0 (by omega)
    have e0 : (S.2.1 19 (64 * (64 * l + b) + 0)) = lvh S l b 0 := rfl
    rw [e0]
    have bd : B (-4098) 4098 (lvh S l b 0 - S.2.1 53 l) := B_sub b0 hst (by decide) (by decide)
    have hd : blx (lvh S l b 0 - S.2.1 53 l) ≤ 13 := blx_le (by have := bd.1; have := bd.2; omega)
    -- the state with the layer's start written
    let S' : ms := (S.1, va_up S.2.1 53 (upd (S.2.1 53) l (lvh S l b 0)), S.2.2)
    have hI' : IM S' := IM_r (r := 53) (i := l) (v := lvh S l b 0) hI (B_any _) (by decide) (by decide)
    have hS' := H.loc (S := S) (g := upd (S.2.1 53) l (lvh S l b 0))
    have g' : ag [9, 32, 33] [8, 26, 53] S S' := ag_r ag_refl (by decide)
    have e53 : S'.2.1 53 = upd (S.2.1 53) l (lvh S l b 0) := by
      show va_up S.2.1 53 (upd (S.2.1 53) l (lvh S l b 0)) 53 = _
      exact up_at
    have hY' : Y S' = Y S := hS'.2.1
    have hX' : ∀ i, X i S' = X i S := hS'.2.2
    refine h_bitsOf (B_w bd (by decide) (by decide)) ?_
    rw [bf_n]
    have hb1 : bitj (257 * c + blx (lvh S l b 0 - S.2.1 53 l)) = blx (lvh S l b 0 - S.2.1 53 l) := by
      unfold bitj
      omega
    have an := acT_nn (t := fun j => v j + vb (bitj j)) hvn (c + 1) (lvh S l b) 63 0
    have ab : 0 ≤ vb (blx (lvh S l b 0 - S.2.1 53 l)) := H.nb _
    unfold blkT at hY hK
    simp only [hb1] at hY hK
    refine H.sym (by omega) (by omega) (by omega) hI' (hS'.1 hQ) (by show Y S' + _ ≤ _; omega) (fun Z hZ qZ gZ yZ xZ => ?_)
    refine h_bitsOf (B_w bd (by decide) (by decide)) ?_
    rw [bf_n]
    show p_number x1 _ _ Z _
    refine H.num hd hZ qZ (by omega) (fun T hT qT gT yT xT => ?_)
    have gST : ag [9, 32, 33] [8, 26, 53] S T := ag_tr (ag_tr g' gZ (by decide) (by decide)) gT (by decide) (by decide)
    have e53T : T.2.1 53 = upd (S.2.1 53) l (lvh S l b 0) := (gT.2 53 rfl).trans ((gZ.2 53 rfl).trans e53)
    -- the walk over the other places
    refine ⟨fun y1 y2 y3 y4 y7 y8 yS => x1 = y1 ∧ y2 = nI l ∧ y3 = nI b ∧ y4 = nI c ∧ IM yS ∧ Q yS ∧ ag [9, 32, 33] [8, 26, 53] S yS ∧ yS.2.1 53 = upd (S.2.1 53) l (lvh S l b 0) ∧ ∃ k z : Nat, y8 = nI k ∧ y7 = nI z ∧ 1 ≤ k ∧ k ≤ 64 ∧ z < k ∧ Y yS + acT (fun j => v j + vb (bitj j)) (c + 1) (lvh S l b) (64 - k) z ≤ Y S + (v (257 * c + blx (lvh S l b 0 - S.2.1 53 l)) + vb (blx (lvh S l b 0 - S.2.1 53 l)) + acT (fun j => v j + vb (bitj j)) (c + 1) (lvh S l b) 63 0) ∧ ∀ i, X i yS + acT (fun j => w i j + wb i (bitj j)) (c + 1) (lvh S l b) (64 - k) z ≤ X i S + (w i (257 * c + blx (lvh S l b 0 - S.2.1 53 l)) + wb i (blx (lvh S l b 0 - S.2.1 53 l)) + acT (fun j => w i j + wb i (bitj j)) (c + 1) (lvh S l b) 63 0), fun _ _ _ _ _ y8 _ => 64 - y8.toNatClampNeg, ⟨rfl, rfl, rfl, rfl, hT, qT, gST, e53T, 1, 0, rfl, rfl, by omega, by omega, by omega, by show Y T + acT _ _ _ 63 0 ≤ _; omega, fun i => by have a1 := xT i; have a2 : X i Z ≤ X i S' + _ := xZ i; have a3 := hX' i; show X i T + acT _ _ _ 63 0 ≤ _; omega⟩, ?_⟩
    rintro _ _ _ _ _ _ U ⟨rfl, rfl, rfl, rfl, hU, qU, gU, eU, k, z, rfl, rfl, k1, k64, hz, yU, xU⟩
    have n0 : (0 : Int32) = nI 0 := rfl
    have n64 : (64 : Int32) = nI 64 := rfl
    have n1 : nI c + 1 = nI (c + 1) := nI_1 c
    unfold b_tell_74
    refine ⟨fun h64 => ?_, fun h64 => ?_⟩
    · have hk : k = 64 := by
        rw [n64, nI_leI (by decide) (z31 (by omega))] at h64
        omega
      subst hk
      refine ⟨fun hz0 => ?_, fun hz0 => ?_⟩
      · rw [n0, nI_leI (z31 (by omega)) (by decide)] at hz0
        have hz1 : z = 0 := by omega
        subst hz1
        have q1 : acT (fun j => v j + vb (bitj j)) (c + 1) (lvh S l b) (64 - 64) 0 = 0 := rfl
        have q2 : ∀ i, acT (fun j => w i j + wb i (bitj j)) (c + 1) (lvh S l b) (64 - 64) 0 = 0 := fun _ => rfl
        exact hK U hU qU gU eU (by omega) (fun i => by have := xU i; have := q2 i; omega)
      · rw [n0, nI_leI (z31 (by omega)) (by decide)] at hz0
        have q1 : acT (fun j => v j + vb (bitj j)) (c + 1) (lvh S l b) (64 - 64) z = v (257 * (c + 1)) + vb 0 := by
          show acT _ _ _ 0 z = _
          have : bitj (257 * (c + 1)) = 0 := by unfold bitj; omega
          rw [acT, if_pos (by omega), this]
        have q2 : ∀ i, acT (fun j => w i j + wb i (bitj j)) (c + 1) (lvh S l b) (64 - 64) z = w i (257 * (c + 1)) := fun i => by
          show acT _ _ _ 0 z = _
          have : bitj (257 * (c + 1)) = 0 := by unfold bitj; omega
          rw [acT, if_pos (by omega), this, H.w0 i]
          omega
        rw [H.v0] at q1
        rw [n1, n0]
        refine H.sym (by omega) (by omega) (by omega) hU qU (by rw [Nat.add_zero]; omega) (fun V hV qV gV yV xV => ?_)
        rw [Nat.add_zero] at yV
        exact hK V hV qV (ag_tr gU gV (by decide) (by decide)) ((gV.2 53 rfl).trans eU) (by omega) (fun i => by have a1 := xV i; rw [Nat.add_zero] at a1; have := xU i; have := q2 i; omega)
    · rw [n64, nI_leI (by decide) (z31 (by omega))] at h64
      obtain ⟨m, hm⟩ : ∃ m, 64 - k = m + 1 := ⟨63 - k, by omega⟩
      have hkm : k = 63 - m := by omega
      unfold p_levelCell
      rw [cellN hl hb (by omega)]
      dsimp only
      have ecl : (nI (64 * (64 * l + b) + k)).toNatClampNeg = 64 * (64 * l + b) + k := nI_clamp (z31 (by omega))
      rw [ecl]
      have e19 : U.2.1 19 (64 * (64 * l + b) + k) = lvh S l b k := congrFun (gU.2 19 rfl) _
      rw [e19]
      refine ⟨nI_in (by omega) (by decide), fun hne => ?_, fun heq => ?_⟩
      · rw [hkm] at hne
        rw [hm, acT_n hne] at yU
        have xU := fun i => (by have a := xU i; rw [hm, acT_n hne, ← hkm] at a; exact a : _)
        rw [← hkm] at hne yU
        have bk := bh k (by omega)
        have hn12 : blx (lvh S l b k) ≤ 12 := blx_le (by have := bk.1; have := bk.2; omega)
        -- sixteen zeros at a time
        refine ⟨fun y1 y2 y3 y4 y7 y8 y9 yS => x1 = y1 ∧ y2 = nI l ∧ y3 = nI b ∧ y4 = nI c ∧ y8 = nI k ∧ y9 = lvh S l b k ∧ IM yS ∧ Q yS ∧ ag [9, 32, 33] [8, 26, 53] S yS ∧ yS.2.1 53 = upd (S.2.1 53) l (lvh S l b 0) ∧ ∃ z : Nat, y7 = nI z ∧ z < k ∧ Y yS + (((z / 16 : Nat) : Int) * (v (257 * (c + 1) + 240) + vb (bitj (257 * (c + 1) + 240))) + (v (257 * (c + 1) + (16 * (z % 16) + blx (lvh S l b k))) + vb (bitj (257 * (c + 1) + (16 * (z % 16) + blx (lvh S l b k)))) + acT (fun j => v j + vb (bitj j)) (c + 1) (lvh S l b) m 0)) ≤ Y S + (v (257 * c + blx (lvh S l b 0 - S.2.1 53 l)) + vb (blx (lvh S l b 0 - S.2.1 53 l)) + acT (fun j => v j + vb (bitj j)) (c + 1) (lvh S l b) 63 0) ∧ ∀ i, X i yS + (((z / 16 : Nat) : Int) * (w i (257 * (c + 1) + 240) + wb i (bitj (257 * (c + 1) + 240))) + (w i (257 * (c + 1) + (16 * (z % 16) + blx (lvh S l b k))) + wb i (bitj (257 * (c + 1) + (16 * (z % 16) + blx (lvh S l b k)))) + acT (fun j => w i j + wb i (bitj j)) (c + 1) (lvh S l b) m 0)) ≤ X i S + (w i (257 * c + blx (lvh S l b 0 - S.2.1 53 l)) + wb i (blx (lvh S l b 0 - S.2.1 53 l)) + acT (fun j => w i j + wb i (bitj j)) (c + 1) (lvh S l b) 63 0), fun _ _ _ _ y7 _ _ _ => y7.toNatClampNeg, ⟨rfl, rfl, rfl, rfl, rfl, rfl, hU, qU, gU, eU, z, rfl, hz, yU, xU⟩, ?_⟩
        rintro _ _ _ _ _ _ _ T2 ⟨rfl, rfl, rfl, rfl, rfl, rfl, hT2, qT2, gT2, eT2, z, rfl, hz, yU, xU⟩
        have n15 : (15 : Int32) = nI 15 := rfl
        have n16 : (16 : Int32) = nI 16 := rfl
        have am := acT_nn (t := fun j => v j + vb (bitj j)) hvn (c + 1) (lvh S l b) m 0
        have b240 : bitj (257 * (c + 1) + 240) = 0 := by unfold bitj; omega
        rw [b240, H.v0] at yU
        have xU := fun i => (by have a := xU i; rw [b240, H.w0 i] at a; exact a : _)
        unfold b_tell_107
        refine ⟨fun hz15 => ?_, fun hz15 => ?_⟩
        · rw [n15, nI_leI (z31 (by omega)) (by decide)] at hz15
          have hz0 : z / 16 = 0 := by omega
          have hzm : z % 16 = z := by omega
          have hbj : bitj (257 * (c + 1) + (16 * z + blx (lvh S l b k))) = blx (lvh S l b k) := by rw [bitj_s (by omega)]; omega
          rw [hz0, hzm, hbj] at yU
          have xU := fun i => (by have a := xU i; rw [hz0, hzm, hbj] at a; exact a : _)
          have ab := H.nb (blx (lvh S l b k))
          refine h_bitsOf (B_w bk (by decide) (by decide)) ?_
          rw [bf_n, n1, n16, nI_mul, nI_add]
          refine H.sym (by omega) (by omega) (by omega) hT2 qT2 (by omega) (fun V hV qV gV yV xV => ?_)
          refine h_bitsOf (B_w bk (by decide) (by decide)) ?_
          rw [bf_n]
          show p_number x1 _ _ V _
          refine H.num (by omega) hV qV (by omega) (fun V2 hV2 qV2 gV2 yV2 xV2 => ?_)
          unfold b_tell_167
          rw [nI_1]
          have em : 64 - (k + 1) = m := by omega
          refine ⟨⟨rfl, rfl, rfl, rfl, hV2, qV2, ag_tr (ag_tr gT2 gV (by decide) (by decide)) gV2 (by decide) (by decide), (gV2.2 53 rfl).trans ((gV.2 53 rfl).trans eT2), k + 1, 0, rfl, rfl, by omega, by omega, by omega, ?_, ?_⟩, ?_⟩
          · rw [em]
            show Y V2 + _ ≤ _
            omega
          · intro i
            have a1 := xU i
            have a2 := xV i
            have a3 := xV2 i
            rw [em]
            show X i V2 + _ ≤ _
            omega
          · rw [nI_clamp (z31 (by omega)), nI_clamp (z31 (by omega))]
            omega
        · rw [n15, nI_leI (z31 (by omega)) (by decide)] at hz15
          have hz1 : (z - 16) / 16 = z / 16 - 1 := by omega
          have hz2 : (z - 16) % 16 = z % 16 := by omega
          have hz3 : ((z / 16 : Nat) : Int) = ((z / 16 - 1 : Nat) : Int) + 1 := by omega
          have h7 := hvn (257 * (c + 1) + (16 * (z % 16) + blx (lvh S l b k)))
          simp only at h7
          have xU := fun i => (by have a := xU i; rw [hz3, Int.add_mul] at a; exact a : _)
          rw [hz3, Int.add_mul] at yU
          have h8 : 0 ≤ ((z / 16 - 1 : Nat) : Int) * (v (257 * (c + 1) + 240) + 0) := Int.mul_nonneg (by omega) (by have := H.nn (257 * (c + 1) + 240); omega)
          have e240 : (240 : Int32) = nI 240 := rfl
          have em16 : nI z + (-16) = nI (z - 16) := by
            have h1 : (-16 : Int32) = 0 - nI 16 := by decide
            have h2 : nI z = nI (z - 16) + nI 16 := by rw [nI_add, Nat.sub_add_cancel (by omega)]
            rw [h2, h1, n0]
            have : nI (z - 16) + nI 16 + (nI 0 - nI 16) = nI (z - 16) + (nI 16 + (nI 0 - nI 16)) := Int32.add_assoc _ _ _
            rw [this]
            have : nI 16 + (nI 0 - nI 16) = nI 0 := by decide
            rw [this, nI_add, Nat.add_zero]
          rw [n1, e240, em16]
          refine H.sym (by omega) (by omega) (by omega) hT2 qT2 (by omega) (fun V hV qV gV yV xV => ?_)
          refine ⟨⟨rfl, rfl, rfl, rfl, rfl, rfl, hV, qV, ag_tr gT2 gV (by decide) (by decide), (gV.2 53 rfl).trans eT2, z - 16, rfl, by omega, ?_, ?_⟩, ?_⟩
          · rw [hz1, hz2, b240, H.v0]
            show Y V + _ ≤ _
            omega
          · intro i
            have a1 := xU i
            have a2 := xV i
            rw [hz1, hz2, b240, H.w0 i]
            show X i V + _ ≤ _
            omega
          · show (nI (z - 16)).toNatClampNeg < (nI z).toNatClampNeg
            rw [nI_clamp (z31 (by omega)), nI_clamp (z31 (by omega))]
            omega
      · rw [hkm] at heq
        rw [hm, acT_z heq] at yU
        have xU := fun i => (by have a := xU i; rw [hm, acT_z heq] at a; exact a : _)
        unfold b_tell_167
        rw [nI_1, nI_1]
        have em : 64 - (k + 1) = m := by omega
        refine ⟨⟨rfl, rfl, rfl, rfl, hU, qU, gU, eU, k + 1, z + 1, rfl, rfl, by omega, by omega, by omega, by rw [em]; exact yU, by rw [em]; exact xU⟩, ?_⟩
        rw [nI_clamp (z31 (by omega)), nI_clamp (z31 (by omega))]
        omega
  unfold p_tell
  refine ⟨fun hn => ?_, fun hn => ?_⟩
  · refine go 2 ?_
    rw [if_neg]
    intro h
    exact hn (by rw [h]; rfl)
  · refine go 0 ?_
    rw [if_pos]
    have h0 : (0 : Int32) = nI 0 := rfl
    rw [h0, nI_eq (z31 (by omega)) (by decide)] at hn
    exact hn
end TELL
