/-! the two walks: the first counts, the second tells -/
def dsum (w : Nat → Int) (g : Nat → Int32) : Nat → Int
  | 0 => 0
  | n + 1 => dsum w g n + w n * (g n).toInt
theorem ds_off {w : Nat → Int} {g : Nat → Int32} {i : Nat} {x : Int32} : ∀ n, n ≤ i → dsum w (upd g i x) n = dsum w g n
  | 0, _ => rfl
  | n + 1, h => by
    unfold dsum
    rw [ds_off n (by omega)]
    have : upd g i x n = g n := by
      unfold upd
      rw [if_neg (by omega)]
    rw [this]
theorem ds_up {w : Nat → Int} {g : Nat → Int32} {i : Nat} {x : Int32} (hx : x.toInt = (g i).toInt + 1) : ∀ n, i < n → dsum w (upd g i x) n = dsum w g n + w i
  | 0, h => by omega
  | n + 1, h => by
    unfold dsum
    by_cases e : i = n
    · subst e
      have : upd g i x i = x := by
        unfold upd
        rw [if_pos rfl]
      rw [ds_off i (Nat.le_refl _), this, hx, Int.mul_add]
      omega
    · have : upd g i x n = g n := by
        unfold upd
        rw [if_neg (by omega)]
      rw [ds_up hx n (by omega), this]
      omega
theorem ds_ge {g : Nat → Int32} (h : ∀ j, 0 ≤ (g j).toInt) : ∀ n i, i < n → (g i).toInt ≤ dsum (fun _ => 1) g n
  | 0, i, hi => by omega
  | n + 1, i, hi => by
    unfold dsum
    rw [Int.one_mul]
    have hn : ∀ m, 0 ≤ dsum (fun _ => 1) g m := by
      intro m
      induction m with
      | zero => exact Int.le_refl _
      | succ m ih =>
        unfold dsum
        have := h m
        omega
    have h1 := hn n
    have h2 := h n
    by_cases e : i = n
    · subst e; omega
    · have := ds_ge h n i (by omega)
      omega
theorem ds_mono {w w' : Nat → Int} {g : Nat → Int32} (h : ∀ j, 0 ≤ (g j).toInt) : ∀ n, (∀ j, j < n → w j ≤ w' j) → dsum w g n ≤ dsum w' g n
  | 0, _ => Int.le_refl _
  | n + 1, hw => by
    unfold dsum
    have h1 := ds_mono h n (fun j hj => hw j (by omega))
    have h2 : w n * (g n).toInt ≤ w' n * (g n).toInt := Int.mul_le_mul_of_nonneg_right (hw n (by omega)) (h n)
    omega
/-- the place of a symbol -/
theorem symN {c s : Nat} (hc : c ≤ 3) (hs : s ≤ 254) : ((257 * nI c) + nI s : Int32) = nI (257 * c + s) ∧ vp_in (nI (257 * c + s)) 1028 ∧ (nI (257 * c + s)).toNatClampNeg = 257 * c + s := by
  have e : (257 : Int32) = nI 257 := rfl
  refine ⟨by rw [e, nI_mul, nI_add], nI_in (by omega) (by decide), nI_clamp (by omega)⟩
/-- the first walk: all weights at once -/
theorem TI_count : TI (ι := Nat → Int) 1 (fun S => ∀ j, 0 ≤ (S.2.1 26 j).toInt) (fun S => dsum (fun _ => 1) (S.2.1 26) 1028) (fun t S => - dsum t (S.2.1 26) 1028) (fun _ => 1) (fun t j => - t j) (fun _ => 0) (fun _ _ => 0) 20000 := by
  refine ⟨?_, ?_, ?_, fun _ => (by decide : (0 : Int) ≤ 1), fun _ => Int.le_refl 0, rfl, fun _ => rfl⟩
  · intro c s S K hc hs _ hI hQ hY hK
    have hY : dsum (fun _ => 1) (S.2.1 26) 1028 + 1 ≤ 20000 := hY
    obtain ⟨e1, e2, e3⟩ := symN hc hs
    unfold p_symbol b_symbol_51
    rw [e1, e3]
    refine ⟨fun h => absurd h (by decide), fun _ => ⟨e2, e2, ?_⟩⟩
    have g0 := hQ (257 * c + s)
    have g1 := ds_ge hQ 1028 (257 * c + s) (by omega)
    have ex : (S.2.1 26 (257 * c + s) + 1).toInt = (S.2.1 26 (257 * c + s)).toInt + 1 := t_add (a := 0) (b := 20000) ⟨g0, by omega⟩ (show B 1 1 (1 : Int32) from ⟨by decide, by decide⟩) (by decide) (by decide)
    have e26 : (va_up S.2.1 26 (upd (S.2.1 26) (257 * c + s) (S.2.1 26 (257 * c + s) + 1))) 26 = upd (S.2.1 26) (257 * c + s) (S.2.1 26 (257 * c + s) + 1) := up_at
    refine hK _ (IM_r (r := 26) (i := 257 * c + s) (v := S.2.1 26 (257 * c + s) + 1) hI (show B 0 20000 _ from ⟨by omega, by omega⟩) (by decide) (by decide)) (fun j => ?_) (ag_r ag_refl (by decide)) ?_ (fun t => ?_)
    · show 0 ≤ ((va_up S.2.1 26 (upd (S.2.1 26) (257 * c + s) (S.2.1 26 (257 * c + s) + 1))) 26 j).toInt
      rw [e26]
      unfold upd
      split
      · rw [ex]; omega
      · exact hQ j
    · show dsum (fun _ => 1) ((va_up S.2.1 26 (upd (S.2.1 26) (257 * c + s) (S.2.1 26 (257 * c + s) + 1))) 26) 1028 ≤ _
      rw [e26, ds_up ex 1028 (by omega)]
      exact Int.le_refl _
    · show - dsum t ((va_up S.2.1 26 (upd (S.2.1 26) (257 * c + s) (S.2.1 26 (257 * c + s) + 1))) 26) 1028 ≤ _
      rw [e26, ds_up ex 1028 (by omega)]
      show _ ≤ - dsum t (S.2.1 26) 1028 + - t (257 * c + s)
      omega
  · intro n a S K hn hI hQ hY hK
    unfold p_number b_number_24
    refine ⟨fun _ => hK S hI hQ ag_refl (by show _ ≤ _ + (0 : Int); omega) (fun t => by show _ ≤ _ + (0 : Int); omega), fun h => absurd h (by decide)⟩
  · intro S g
    have e : (va_up S.2.1 53 g) 26 = S.2.1 26 := up_ne (by decide)
    refine ⟨fun h j => ?_, ?_, fun t => ?_⟩
    · show 0 ≤ ((va_up S.2.1 53 g) 26 j).toInt
      rw [e]
      exact h j
    · show dsum _ ((va_up S.2.1 53 g) 26) _ = _
      rw [e]
    · show - dsum _ ((va_up S.2.1 53 g) 26) _ = _
      rw [e]
theorem FI_count : FI (ι := Nat → Int) 1 (fun S => ∀ j, 0 ≤ (S.2.1 26 j).toInt) (fun S => dsum (fun _ => 1) (S.2.1 26) 1028) (fun t S => - dsum t (S.2.1 26) 1028) 20000 0 (fun _ => 0) :=
  ⟨fun h => absurd h (by decide), by decide, fun _ => Int.le_refl 0⟩
/-- the second walk, with these lengths -/
def GBq (len : Nat → Int32) (S : ms) : Prop := (0 ≤ (S.1 33).toInt ∧ (S.1 33).toInt ≤ gb (S.1 32).toInt ∧ (S.1 32).toInt ≤ 7) ∧ S.2.1 27 = len
def PhI (S : ms) : Int := 4 * (S.1 9).toInt + (S.1 32).toInt
theorem Ph_nn {S : ms} (h : IM S) : 0 ≤ PhI S := by
  have h1 := (bf_9 h).1
  have h2 := (bf_32 h).1
  unfold PhI
  omega
theorem pb_T {len : Nat → Int32} {a n : Int32} {S : ms} {K : ms → Prop} (hI : IM S) (hQ : GBq len S) (h0 : 0 ≤ n.toInt) (hY : PhI S + n.toInt ≤ 262100) (hK : ∀ Z : ms, IM Z → GBq len Z → ag [9, 32, 33] [8, 26] S Z → PhI Z ≤ PhI S + n.toInt → K Z) : p_putBits a n S K := by
  have hp := Ph_nn hI
  unfold PhI at hY hp hK
  refine h_putBits ⟨h0, by omega⟩ hI hQ.1 (by omega) (fun {Z} hZ gZ q1 q2 _ _ => hK Z hZ ⟨q1, (gZ.2 27 rfl).trans hQ.2⟩ (ag_tr ag_refl gZ (by decide) (by decide)) q2)
theorem TI_tell {len : Nat → Int32} (hlen : ∀ j, 0 ≤ (len j).toInt) : TI (ι := Unit) 0 (GBq len) PhI (fun _ => PhI) (fun j => (len j).toInt) (fun _ j => (len j).toInt) (fun n => (n : Int)) (fun _ n => (n : Int)) 262100 := by
  refine ⟨?_, ?_, ?_, hlen, fun n => Int.natCast_nonneg n, rfl, fun _ => rfl⟩
  · intro c s S K hc hs _ hI hQ hY hK
    obtain ⟨e1, e2, e3⟩ := symN hc hs
    unfold p_symbol b_symbol_51
    rw [e1, e3]
    refine ⟨fun _ => ⟨e2, e2, ?_⟩, fun h => absurd rfl h⟩
    have hl := hlen (257 * c + s)
    rw [hQ.2]
    exact pb_T hI hQ hl hY (fun Z hZ qZ gZ yZ => hK Z hZ qZ gZ yZ (fun _ => yZ))
  · intro n a S K hn hI hQ hY hK
    have en : (nI n).toInt = n := nI_toInt (by omega)
    have go : ∀ s1 : Int32, b_number_20 (nI n) s1 S K := by
      intro s1
      unfold b_number_20 b_number_24
      exact pb_T hI hQ (by omega) (by rw [en]; exact hY) (fun Z hZ qZ gZ yZ => hK Z hZ qZ gZ (by rw [en] at yZ; exact yZ) (fun _ => by rw [en] at yZ; exact yZ))
    unfold p_number
    exact ⟨fun h => absurd rfl h, fun _ => ⟨fun _ => go _, fun _ => go _⟩⟩
  · intro S g
    refine ⟨fun h => ⟨h.1, ?_⟩, rfl, fun _ => rfl⟩
    show (va_up S.2.1 53 g) 27 = len
    rw [up_ne (by decide)]
    exact h.2
theorem FI_tell {len : Nat → Int32} : FI (ι := Unit) 0 (GBq len) PhI (fun _ => PhI) 262100 16 (fun _ => 16) := by
  refine ⟨fun _ {c} {m} {S} {K} hc hm hI hQ hY hK => ?_, by decide, fun _ => (by decide : (0 : Int) ≤ 16)⟩
  unfold PhI at hY hK
  have g7 := gb_v
  refine h_fillUp hI hQ.1 (by omega) (fun {Z} hZ gZ q1 q2 q3 q4 => ⟨hc, ?_⟩)
  have q2 : (Z.1 32).toInt = 0 := q2
  have q3 : 4 * (Z.1 9).toInt + (Z.1 32).toInt ≤ 4 * (S.1 9).toInt + (S.1 32).toInt + 8 := q3
  show p_mark m Z K
  refine h_mark hm hZ (by omega) (fun {V} hV gV q5 => ?_)
  have q5 : (V.1 9).toInt = (Z.1 9).toInt + 2 := q5
  have e32 : V.1 32 = Z.1 32 := gV.1 32 rfl
  have e33 : V.1 33 = Z.1 33 := gV.1 33 rfl
  have hf : 4 * (V.1 9).toInt + (V.1 32).toInt ≤ 4 * (S.1 9).toInt + (S.1 32).toInt + 16 := by
    rw [e32]
    omega
  refine hK V hV ⟨?_, (gV.2 27 rfl).trans ((gZ.2 27 rfl).trans hQ.2)⟩ (ag_tr (ag_tr ag_refl gZ (by decide) (by decide)) gV (by decide) (by decide)) hf (fun _ => hf)
  rw [e32, e33]
  exact q1
