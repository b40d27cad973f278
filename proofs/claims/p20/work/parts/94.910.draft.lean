/-! THE CANVAS on the reference's side: what its calls leave there -/
theorem vu_at {α : Type} {f : Nat → α} {r : Nat} {g : α} : va_up f r g r = g := by
  unfold va_up
  rw [if_pos rfl]
theorem vu_ne {α : Type} {f : Nat → α} {r k : Nat} {g : α} (h : k ≠ r) : va_up f r g k = f k := by
  unfold va_up
  rw [if_neg h]
def cv (S : ms) (x y p : Nat) : Int32 := S.2.1 4 (3 * (64 * y + x) + p)
def bvo (n : Int32) (c : Int32) (p : Nat) : Int32 := if n = 1 then c &&& 255 else (c >>> ((16 - (8 * nI p)) &&& 31 : Int32) : Int32) &&& 255
def slv (n c d w : Int32) (i p : Nat) : Int32 := bvo n c p + (((bvo n d p - bvo n c p) * nI i) / w)
theorem q_byteOf {c : Int32} {p : Nat} {S : ms} {K : Int32 → ms → Prop} (h : p_byteOf c (nI p) S K) : K (bvo (S.1 3) c p) S := by
  unfold p_byteOf at h
  unfold bvo
  by_cases e : S.1 3 = 1
  · rw [if_pos e]
    exact h.2 e
  · rw [if_neg e]
    exact h.1 e
theorem cv_up {T : ms} {X Y q x y p : Nat} {v : Int32} (hX : X < 64) (hq : q < 3) (hx : x < 64) (hp : p < 3) : upd (T.2.1 4) (3 * (64 * Y + X) + q) v (3 * (64 * y + x) + p) = if x = X ∧ y = Y ∧ p = q then v else cv T x y p := by
  by_cases e : x = X ∧ y = Y ∧ p = q
  · obtain ⟨rfl, rfl, rfl⟩ := e
    rw [if_pos ⟨rfl, rfl, rfl⟩, upd_at]
  · rw [if_neg e, upd_ne (by omega)]
    rfl
theorem cell_n {X Y q : Nat} : ((3 * ((64 * nI Y) + nI X)) + nI q : Int32) = nI (3 * (64 * Y + X) + q) := by
  rw [show (64 : Int32) = nI 64 from rfl, show (3 : Int32) = nI 3 from rfl, pk_mul, nI_add, pk_mul, nI_add]
section SLOPE
variable {x1 x2 x3 x4 x5 x6 x7 x8 : Int32} {S : ms} {R16 : Int32 → Int32 → Int32 → Int32 → Int32 → Int32 → Int32 → ms → Prop} {R26 : Int32 → Int32 → Int32 → Int32 → Int32 → Int32 → Int32 → Int32 → ms → Prop} {K : ms → Prop} {X Y W H I n : Nat}
theorem q_slope35 (h : e_slope_35 x1 x2 x3 x4 x5 x6 x7 x8 0 S R16 R26 K) (hx : x1 + x8 = nI X) (hy : x2 + x7 = nI Y) (hX : X < 64) (hY : Y < 64) (h8 : x8 = nI I) (h3 : S.1 3 = nI n) (hn : n ≤ 3) :
    ∃ Z, ag [] [4] S Z ∧ (∀ x y p, x < 64 → y < 64 → p < 3 → cv Z x y p = if x = X ∧ y = Y ∧ p < n then slv (S.1 3) x5 x6 x3 I p else cv S x y p) ∧ R26 x1 x2 x3 x4 x5 x6 x7 (x8 + 1) Z := by
  refine v_e_slope_35 h (fun y9 T => ∃ q, y9 = nI q ∧ q ≤ n ∧ ag [] [4] S T ∧ ∀ x y p, x < 64 → y < 64 → p < 3 → cv T x y p = if x = X ∧ y = Y ∧ p < q then slv (S.1 3) x5 x6 x3 I p else cv S x y p) ⟨0, rfl, Nat.zero_le _, ag_refl, fun x y p _ _ _ => by rw [if_neg (by omega)]⟩ ?_
  rintro y9 T R ⟨q, rfl, hq, ha, hc⟩ hb
  unfold b_slope_35 at hb
  have e0 : T.1 3 = S.1 3 := ha.1 3 rfl
  have e3 : T.1 3 = nI n := e0.trans h3
  by_cases hqn : q = n
  · right
    refine ⟨T, ha, ?_, hb.1 (by rw [e3, hqn]; exact Int32.le_refl _)⟩
    rw [← hqn]
    exact hc
  · left
    have hb := hb.2 (by rw [e3]; exact nI_ge (by omega) (by omega))
    have hb := q_byteOf hb
    unfold p_cell at hb
    have hb := q_byteOf hb
    obtain ⟨-, -, hR⟩ := hb
    refine ⟨_, _, hR, q + 1, nI_1 q, by omega, ag_r ha rfl, ?_⟩
    intro x y p hx' hy' hp
    have ei : ((3 * ((64 * (x2 + x7)) + (x1 + x8))) + nI q : Int32).toNatClampNeg = 3 * (64 * Y + X) + q := by
      rw [hx, hy, cell_n, nI_clamp (by omega)]
    show va_up T.2.1 4 (upd (T.2.1 4) ((3 * ((64 * (x2 + x7)) + (x1 + x8))) + nI q : Int32).toNatClampNeg (bvo (T.1 3) x5 q + (((bvo (T.1 3) x6 q - bvo (T.1 3) x5 q) * x8) / x3))) 4 (3 * (64 * y + x) + p) = _
    rw [vu_at, ei, cv_up hX (by omega) hx' hp, hc x y p hx' hy' hp, e0, h8]
    by_cases e : x = X ∧ y = Y ∧ p = q
    · rw [if_pos e, if_pos ⟨e.1, e.2.1, by omega⟩, e.2.2]
      rfl
    · rw [if_neg e]
      by_cases e2 : x = X ∧ y = Y ∧ p < q
      · rw [if_pos e2, if_pos ⟨e2.1, e2.2.1, by omega⟩]
      · rw [if_neg e2, if_neg (by omega)]
theorem q_slope26 (h : e_slope_26 x1 x2 x3 x4 x5 x6 x7 0 S R16 K) (h1 : x1 = nI X) (hy : x2 + x7 = nI Y) (hw : x3 = nI W) (hX : X + W ≤ 64) (hY : Y < 64) (h3 : S.1 3 = nI n) (hn : n ≤ 3) :
    ∃ Z, ag [] [4] S Z ∧ (∀ x y p, x < 64 → y < 64 → p < 3 → cv Z x y p = if X ≤ x ∧ x < X + W ∧ y = Y ∧ p < n then slv (S.1 3) x5 x6 x3 (x - X) p else cv S x y p) ∧ R16 x1 x2 x3 x4 x5 x6 (x7 + 1) Z := by
  refine v_e_slope_26 h (fun y8 T => ∃ q, y8 = nI q ∧ q ≤ W ∧ ag [] [4] S T ∧ ∀ x y p, x < 64 → y < 64 → p < 3 → cv T x y p = if X ≤ x ∧ x < X + q ∧ y = Y ∧ p < n then slv (S.1 3) x5 x6 x3 (x - X) p else cv S x y p) ⟨0, rfl, Nat.zero_le _, ag_refl, fun x y p _ _ _ => by rw [if_neg (by omega)]⟩ ?_
  rintro y8 T R ⟨q, rfl, hq, ha, hc⟩ hb
  unfold b_slope_26 at hb
  have e0 : T.1 3 = S.1 3 := ha.1 3 rfl
  by_cases hqn : q = W
  · right
    refine ⟨T, ha, ?_, hb.1 (by rw [hw, hqn]; exact Int32.le_refl _)⟩
    rw [← hqn]
    exact hc
  · left
    have hb := hb.2 (by rw [hw]; exact nI_ge (by omega) (by omega))
    obtain ⟨Z, hz, hzc, hR⟩ := q_slope35 (X := X + q) (Y := Y) (I := q) (n := n) hb (by rw [h1, nI_add]) hy (by omega) hY rfl (e0.trans h3) hn
    refine ⟨_, _, hR, q + 1, nI_1 q, by omega, ag_tr ha hz rfl rfl, ?_⟩
    intro x y p hx' hy' hp
    rw [hzc x y p hx' hy' hp, hc x y p hx' hy' hp, e0]
    by_cases e : x = X + q ∧ y = Y ∧ p < n
    · rw [if_pos e, if_pos (by omega), show x - X = q by omega]
    · rw [if_neg e]
      by_cases e2 : X ≤ x ∧ x < X + q ∧ y = Y ∧ p < n
      · rw [if_pos e2, if_pos (by omega)]
      · rw [if_neg e2, if_neg (by omega)]
theorem q_slope16 (h : e_slope_16 x1 x2 x3 x4 x5 x6 0 S K) (h1 : x1 = nI X) (h2 : x2 = nI Y) (hw : x3 = nI W) (hh : x4 = nI H) (hX : X + W ≤ 64) (hY : Y + H ≤ 64) (h3 : S.1 3 = nI n) (hn : n ≤ 3) :
    ∃ Z, ag [] [4] S Z ∧ (∀ x y p, x < 64 → y < 64 → p < 3 → cv Z x y p = if X ≤ x ∧ x < X + W ∧ Y ≤ y ∧ y < Y + H ∧ p < n then slv (S.1 3) x5 x6 x3 (x - X) p else cv S x y p) ∧ K Z := by
  refine v_e_slope_16 h (fun y7 T => ∃ q, y7 = nI q ∧ q ≤ H ∧ ag [] [4] S T ∧ ∀ x y p, x < 64 → y < 64 → p < 3 → cv T x y p = if X ≤ x ∧ x < X + W ∧ Y ≤ y ∧ y < Y + q ∧ p < n then slv (S.1 3) x5 x6 x3 (x - X) p else cv S x y p) ⟨0, rfl, Nat.zero_le _, ag_refl, fun x y p _ _ _ => by rw [if_neg (by omega)]⟩ ?_
  rintro y7 T R ⟨q, rfl, hq, ha, hc⟩ hb
  unfold b_slope_16 at hb
  have e0 : T.1 3 = S.1 3 := ha.1 3 rfl
  by_cases hqn : q = H
  · right
    refine ⟨T, ha, ?_, hb.1 (by rw [hh, hqn]; exact Int32.le_refl _)⟩
    rw [← hqn]
    exact hc
  · left
    have hb := hb.2 (by rw [hh]; exact nI_ge (by omega) (by omega))
    obtain ⟨Z, hz, hzc, hR⟩ := q_slope26 (X := X) (Y := Y + q) (W := W) (n := n) hb h1 (by rw [h2, nI_add]) hw hX (by omega) (e0.trans h3) hn
    refine ⟨_, _, hR, q + 1, nI_1 q, by omega, ag_tr ha hz rfl rfl, ?_⟩
    intro x y p hx' hy' hp
    rw [hzc x y p hx' hy' hp, hc x y p hx' hy' hp, e0]
    by_cases e : X ≤ x ∧ x < X + W ∧ y = Y + q ∧ p < n
    · rw [if_pos e, if_pos (by omega)]
    · rw [if_neg e]
      by_cases e2 : X ≤ x ∧ x < X + W ∧ Y ≤ y ∧ y < Y + q ∧ p < n
      · rw [if_pos e2, if_pos (by omega)]
      · rw [if_neg e2, if_neg (by omega)]
end SLOPE
/-- a rectangle on a canvas w wide and h high -/
def onC (w h x1 x2 x3 x4 : Int32) : Prop := 0 ≤ x1.toInt ∧ 0 ≤ x2.toInt ∧ 1 ≤ x3.toInt ∧ 1 ≤ x4.toInt ∧ x1.toInt + x3.toInt ≤ w.toInt ∧ x2.toInt + x4.toInt ≤ h.toInt
section ISOUT
variable {x1 x2 x3 x4 : Int32} {S : ms} {K : Int32 → ms → Prop}
theorem o_57 (h : b_isOut_57 S K) : K 1 (upd S.1 0 1, S.2.1, S.2.2) := by
  unfold b_isOut_57 b_isOut_62 at h
  have h := h.2 (by rw [upd_at]; decide)
  unfold b_isOut_77 at h
  exact h.2
theorem o_62 (h : b_isOut_62 0 S K) : K 0 (upd S.1 0 0, S.2.1, S.2.2) := by
  unfold b_isOut_62 at h
  have h := h.1 (by rw [upd_at]; decide)
  unfold b_isOut_77 at h
  exact h.2
theorem q_isOut (hw : B 1 64 (S.1 1)) (hh : B 1 64 (S.1 2)) (h : p_isOut x1 x2 x3 x4 S K) : (onC (S.1 1) (S.1 2) x1 x2 x3 x4 ∧ K 0 (upd S.1 0 0, S.2.1, S.2.2)) ∨ (¬ onC (S.1 1) (S.1 2) x1 x2 x3 x4 ∧ K 1 (upd S.1 0 1, S.2.1, S.2.2)) := by
  have w1 := hw.1
  have w2 := hw.2
  have g1 := hh.1
  have g2 := hh.2
  have z0 : (0 : Int32).toInt = 0 := by decide
  have z1 : (1 : Int32).toInt = 1 := by decide
  unfold p_isOut at h
  unfold onC
  refine dt_p h (fun c h => ?_) (fun c h => ?_)
  · have c := i_lt c
    exact Or.inr ⟨by omega, o_57 h⟩
  have c1 := i_le (nlt_le c)
  refine dt_p h (fun c h => ?_) (fun c h => ?_)
  · have c := i_lt c
    exact Or.inr ⟨by omega, o_57 h⟩
  have c2 := i_le (nlt_le c)
  refine dt_p h (fun c h => ?_) (fun c h => ?_)
  · have c := i_lt c
    exact Or.inr ⟨by omega, o_57 h⟩
  have c3 := i_le (nlt_le c)
  refine dt_p h (fun c h => ?_) (fun c h => ?_)
  · have c := i_lt c
    exact Or.inr ⟨by omega, o_57 h⟩
  have c4 := i_le (nlt_le c)
  refine dt_p h (fun c h => ?_) (fun c h => ?_)
  · have c := i_le c
    exact Or.inr ⟨by omega, o_57 h⟩
  have c5 := i_lt (nle_lt c)
  refine dt_p h (fun c h => ?_) (fun c h => ?_)
  · have c := i_le c
    exact Or.inr ⟨by omega, o_57 h⟩
  have c6 := i_lt (nle_lt c)
  have s1 : (S.1 1 - x1).toInt = (S.1 1).toInt - x1.toInt := t_sub (a := 1) (b := 64) (c := 0) (d := 64) hw ⟨by omega, by omega⟩ (by decide) (by decide)
  have s2 : (S.1 2 - x2).toInt = (S.1 2).toInt - x2.toInt := t_sub (a := 1) (b := 64) (c := 0) (d := 64) hh ⟨by omega, by omega⟩ (by decide) (by decide)
  refine dt_p h (fun c h => ?_) (fun c h => ?_)
  · have c := i_lt c
    exact Or.inr ⟨by omega, o_57 h⟩
  have c7 := i_le (nlt_le c)
  refine dt_p h (fun c h => ?_) (fun c h => ?_)
  · have c := i_le c
    exact Or.inl ⟨by omega, o_62 h⟩
  · have c := i_lt (nle_lt c)
    exact Or.inr ⟨by omega, o_57 h⟩
end ISOUT
theorem nI_i {x : Int32} (h : 0 ≤ x.toInt) : x = nI x.toInt.toNat := by
  apply Int32.toInt.inj
  have h2 := (B_any x).2
  rw [nI_toInt (by omega)]
  omega
/-- slope, all of it -/
theorem q_slope {x1 x2 x3 x4 x5 x6 : Int32} {S : ms} {K : ms → Prop} (hI : IM S) (h : p_slope x1 x2 x3 x4 x5 x6 S K) :
    (onC (S.1 1) (S.1 2) x1 x2 x3 x4 ∧ ∃ Z, ag [0] [4] S Z ∧ Z.1 0 = 0 ∧ (∀ x y p : Nat, x < 64 → y < 64 → p < 3 → cv Z x y p = if x1.toInt ≤ x ∧ (x : Int) < x1.toInt + x3.toInt ∧ x2.toInt ≤ y ∧ (y : Int) < x2.toInt + x4.toInt ∧ (p : Int) < (S.1 3).toInt then slv (S.1 3) x5 x6 x3 (x - x1.toInt.toNat) p else cv S x y p) ∧ K Z)
    ∨ (¬ onC (S.1 1) (S.1 2) x1 x2 x3 x4 ∧ K (upd S.1 0 1, S.2.1, S.2.2)) := by
  unfold p_slope at h
  have w2 := (bf_1 hI).2
  have g2 := (bf_2 hI).2
  have p1 := (bf_3 hI).1
  have p2 := (bf_3 hI).2
  rcases q_isOut (bf_1 hI) (bf_2 hI) h with ⟨hc, h⟩ | ⟨hc, h⟩
  · refine Or.inl ⟨hc, ?_⟩
    obtain ⟨c1, c2, c3, c4, c5, c6⟩ := hc
    have h := h.1 rfl
    obtain ⟨Z, hz, hzc, hk⟩ := q_slope16 (X := x1.toInt.toNat) (Y := x2.toInt.toNat) (W := x3.toInt.toNat) (H := x4.toInt.toNat) (n := (S.1 3).toInt.toNat) h (nI_i c1) (nI_i c2) (nI_i (by omega)) (nI_i (by omega)) (by omega) (by omega) (by
      show upd S.1 0 0 3 = _
      rw [upd_ne (by decide)]
      exact nI_i (by omega)) (by omega)
    refine ⟨Z, ag_tr (ag_f ag_refl rfl) hz rfl rfl, (hz.1 0 rfl).trans (show upd S.1 0 0 0 = 0 from upd_at), ?_, hk⟩
    intro x y p hx hy hp
    refine (hzc x y p hx hy hp).trans ?_
    show (if _ then slv (upd S.1 0 0 3) x5 x6 x3 (x - x1.toInt.toNat) p else cv S x y p) = _
    rw [upd_ne (show (3 : Nat) ≠ 0 by decide)]
    by_cases e : x1.toInt ≤ x ∧ (x : Int) < x1.toInt + x3.toInt ∧ x2.toInt ≤ y ∧ (y : Int) < x2.toInt + x4.toInt ∧ (p : Int) < (S.1 3).toInt
    · rw [if_pos e, if_pos (by omega)]
    · rw [if_neg e, if_neg (by omega)]
  · exact Or.inr ⟨hc, h.2 (by decide)⟩

/-! THE CANVAS on the class's side -/
def cvw (F : cF) (x y p : Nat) : Int32 := F 2 (4096 * p + 64 * y + x)
theorem cvw_up {F : cF} {X Y q x y p : Nat} {v : Int32} (hX : X < 64) (hY : Y < 64) (hx : x < 64) (hy : y < 64) : upd (F 2) (4096 * q + 64 * Y + X) v (4096 * p + 64 * y + x) = if x = X ∧ y = Y ∧ p = q then v else cvw F x y p := by
  by_cases e : x = X ∧ y = Y ∧ p = q
  · obtain ⟨rfl, rfl, rfl⟩ := e
    rw [if_pos ⟨rfl, rfl, rfl⟩, upd_at]
  · rw [if_neg e, upd_ne (by omega)]
    rfl
theorem spot_n {X Y q : Nat} : (((4096 * nI q) + (64 * nI Y)) + nI X : Int32) = nI (4096 * q + 64 * Y + X) := by
  rw [show (64 : Int32) = nI 64 from rfl, show (4096 : Int32) = nI 4096 from rfl, pk_mul, pk_mul, nI_add, nI_add]
theorem q_isWithin {x a b : Int32} {K : Int32 → Prop} (h : p_B_isWithin x a b K) : (a.toInt ≤ x.toInt ∧ x.toInt ≤ b.toInt ∧ K 1) ∨ ((x.toInt < a.toInt ∨ b.toInt < x.toInt) ∧ K 0) := by
  unfold p_B_isWithin at h
  refine dt_p h (fun c h => ?_) (fun c h => ?_)
  · unfold b_B_isWithin_14 b_B_isWithin_15 at h
    exact Or.inr ⟨Or.inl (i_lt c), h.2⟩
  have c1 := i_le (nlt_le c)
  refine dt_p h (fun c h => ?_) (fun c h => ?_)
  · unfold b_B_isWithin_14 b_B_isWithin_15 at h
    exact Or.inr ⟨Or.inr (i_lt c), h.2⟩
  · unfold b_B_isWithin_15 at h
    exact Or.inl ⟨c1, i_le (nlt_le c), h.2⟩
theorem shr0 (c : Int32) : (c >>> ((0 : Int32) &&& 31 : Int32) : Int32) = c := by
  apply Int32.toInt.inj
  rw [t_shr (k := 0) (by decide)]
  exact Int.ediv_one _
theorem bvc {n p : Nat} {c : Int32} (hn : n = 1 ∨ n = 3) (hp : p < n) : ((c >>> ((8 * ((nI n - 1) - nI p)) &&& 31 : Int32) : Int32) &&& 255) = bvo (nI n) c p := by
  unfold bvo
  rcases hn with rfl | rfl
  · obtain rfl : p = 0 := by omega
    rw [if_pos (by decide), show (8 * ((nI 1 - 1) - nI 0) : Int32) = 0 by decide, shr0]
  · rw [if_neg (by decide)]
    have e : p = 0 ∨ p = 1 ∨ p = 2 := by omega
    rcases e with rfl | rfl | rfl
    · rw [show (8 * ((nI 3 - 1) - nI 0) : Int32) = 16 - (8 * nI 0) by decide]
    · rw [show (8 * ((nI 3 - 1) - nI 1) : Int32) = 16 - (8 * nI 1) by decide]
    · rw [show (8 * ((nI 3 - 1) - nI 2) : Int32) = 16 - (8 * nI 2) by decide]
section PAINT
variable {x1 x2 x3 x4 x5 x6 x7 x9 x10 x11 x12 : Int32} {F : cF} {L : cL} {a b : Bool} {P : Nat → Nat → Nat} {R9 : Int32 → Int32 → Int32 → Int32 → Int32 → Int32 → Int32 → cs → Prop} {R57 : Int32 → Int32 → Int32 → Int32 → Int32 → Int32 → Int32 → Int32 → Int32 → Int32 → cs → Prop} {K : cs → Prop} {X Y W H p0 n : Nat}
theorem q_paint81 (h : e_Ca_paint_81 UL 1 x1 x2 x3 x4 x5 x6 x7 x9 x10 x11 x12 0 (F, L, PC a b P) R9 R57 K) (hx : x1 + x11 = nI X) (h2 : x2 = nI Y) (h4 : x4 = nI H) (hX : X < 64) (hY : Y + H ≤ 64) (h7 : x7 = nI p0) (hp0 : p0 < 3) :
    ∃ Z, agc [] [2] F Z ∧ (∀ x y p, x < 64 → y < 64 → p < 3 → cvw Z x y p = if x = X ∧ Y ≤ y ∧ y < Y + H ∧ p = p0 then x12 else cvw F x y p) ∧ R57 x1 x2 x3 x4 x5 x6 x7 x9 x10 (x11 + 1) (Z, L, PC a b P) := by
  refine v_e_Ca_paint_81 h (fun y13 T => ∃ q G, y13 = nI q ∧ T = (G, L, PC a b P) ∧ q ≤ H ∧ agc [] [2] F G ∧ ∀ x y p, x < 64 → y < 64 → p < 3 → cvw G x y p = if x = X ∧ Y ≤ y ∧ y < Y + q ∧ p = p0 then x12 else cvw F x y p) ⟨0, F, rfl, rfl, Nat.zero_le _, agc_refl, fun x y p _ _ _ => by rw [if_neg (by omega)]⟩ ?_
  rintro y13 T R ⟨q, G, rfl, rfl, hq, ha, hc⟩ hb
  unfold b_Ca_paint_81 at hb
  by_cases hqn : q = H
  · right
    refine ⟨G, ha, ?_, hb.1 (by rw [h4, hqn]; exact Int32.le_refl _)⟩
    rw [← hqn]
    exact hc
  · left
    have hb := hb.2 (by rw [h4]; exact nI_ge (by omega) (by omega))
    unfold p_B_spot at hb
    obtain ⟨-, -, -, hR⟩ := hb
    have hR : R x1 x2 x3 x4 x5 x6 x7 x9 x10 x11 x12 (nI q + 1) (va_up G 2 (upd (G 2) (((4096 * x7) + (64 * (x2 + nI q))) + (x1 + x11) : Int32).toNatClampNeg x12), L, PC a b P) := hR
    have ei : (((4096 * x7) + (64 * (x2 + nI q))) + (x1 + x11) : Int32).toNatClampNeg = 4096 * p0 + 64 * (Y + q) + X := by
      rw [hx, h2, h7, nI_add, spot_n, nI_clamp (by omega)]
    rw [ei] at hR
    refine ⟨_, _, hR, q + 1, _, nI_1 q, rfl, by omega, agc_r ha rfl rfl, ?_⟩
    intro x y p hx' hy' hp
    show va_up G 2 (upd (G 2) (4096 * p0 + 64 * (Y + q) + X) x12) 2 (4096 * p + 64 * y + x) = _
    rw [vu_at, cvw_up hX (by omega) hx' hy', hc x y p hx' hy' hp]
    by_cases e : x = X ∧ y = Y + q ∧ p = p0
    · rw [if_pos e, if_pos (by omega)]
    · rw [if_neg e]
      by_cases e2 : x = X ∧ Y ≤ y ∧ y < Y + q ∧ p = p0
      · rw [if_pos e2, if_pos (by omega)]
      · rw [if_neg e2, if_neg (by omega)]
theorem q_paint57 (h : e_Ca_paint_57 UL 1 x1 x2 x3 x4 x5 x6 x7 x9 x10 0 (F, L, PC a b P) R9 K) (h1 : x1 = nI X) (h2 : x2 = nI Y) (h3 : x3 = nI W) (h4 : x4 = nI H) (hX : X + W ≤ 64) (hY : Y + H ≤ 64) (h7 : x7 = nI p0) (hp0 : p0 < 3) :
    ∃ Z, agc [] [2] F Z ∧ (∀ x y p, x < 64 → y < 64 → p < 3 → cvw Z x y p = if X ≤ x ∧ x < X + W ∧ Y ≤ y ∧ y < Y + H ∧ p = p0 then x9 + (((x10 - x9) * nI (x - X)) / x3) else cvw F x y p) ∧ R9 x1 x2 x3 x4 x5 x6 (x7 + 1) (Z, L, PC a b P) := by
  refine v_e_Ca_paint_57 h (fun y11 T => ∃ q G, y11 = nI q ∧ T = (G, L, PC a b P) ∧ q ≤ W ∧ agc [] [2] F G ∧ ∀ x y p, x < 64 → y < 64 → p < 3 → cvw G x y p = if X ≤ x ∧ x < X + q ∧ Y ≤ y ∧ y < Y + H ∧ p = p0 then x9 + (((x10 - x9) * nI (x - X)) / x3) else cvw F x y p) ⟨0, F, rfl, rfl, Nat.zero_le _, agc_refl, fun x y p _ _ _ => by rw [if_neg (by omega)]⟩ ?_
  rintro y11 T R ⟨q, G, rfl, rfl, hq, ha, hc⟩ hb
  unfold b_Ca_paint_57 at hb
  by_cases hqn : q = W
  · right
    refine ⟨G, ha, ?_, hb.1 (by rw [h3, hqn]; exact Int32.le_refl _)⟩
    rw [← hqn]
    exact hc
  · left
    obtain ⟨-, hb⟩ := hb.2 (by rw [h3]; exact nI_ge (by omega) (by omega))
    obtain ⟨Z, hz, hzc, hR⟩ := q_paint81 (X := X + q) (Y := Y) (H := H) (p0 := p0) hb (by rw [h1, nI_add]) h2 h4 (by omega) hY h7 hp0
    refine ⟨_, _, hR, q + 1, _, nI_1 q, rfl, by omega, agc_tr ha hz rfl rfl, ?_⟩
    intro x y p hx' hy' hp
    rw [hzc x y p hx' hy' hp, hc x y p hx' hy' hp]
    by_cases e : x = X + q ∧ Y ≤ y ∧ y < Y + H ∧ p = p0
    · rw [if_pos e, if_pos (by omega), show x - X = q by omega]
    · rw [if_neg e]
      by_cases e2 : X ≤ x ∧ x < X + q ∧ Y ≤ y ∧ y < Y + H ∧ p = p0
      · rw [if_pos e2, if_pos (by omega)]
      · rw [if_neg e2, if_neg (by omega)]
theorem q_paint9 (h : e_Ca_paint_9 UL 1 x1 x2 x3 x4 x5 x6 0 (F, L, PC a b P) K) (h1 : x1 = nI X) (h2 : x2 = nI Y) (h3 : x3 = nI W) (h4 : x4 = nI H) (hX : X + W ≤ 64) (hY : Y + H ≤ 64) (hpl : F 1 2 = nI n) (hn : n = 1 ∨ n = 3) :
    ∃ Z, agc [] [2] F Z ∧ (∀ x y p, x < 64 → y < 64 → p < 3 → cvw Z x y p = if X ≤ x ∧ x < X + W ∧ Y ≤ y ∧ y < Y + H ∧ p < n then slv (nI n) x5 x6 x3 (x - X) p else cvw F x y p) ∧ K (Z, L, PC a b P) := by
  refine v_e_Ca_paint_9 h (fun y7 T => ∃ q G, y7 = nI q ∧ T = (G, L, PC a b P) ∧ q ≤ n ∧ agc [] [2] F G ∧ ∀ x y p, x < 64 → y < 64 → p < 3 → cvw G x y p = if X ≤ x ∧ x < X + W ∧ Y ≤ y ∧ y < Y + H ∧ p < q then slv (nI n) x5 x6 x3 (x - X) p else cvw F x y p) ⟨0, F, rfl, rfl, Nat.zero_le _, agc_refl, fun x y p _ _ _ => by rw [if_neg (by omega)]⟩ ?_
  rintro y7 T R ⟨q, G, rfl, rfl, hq, ha, hc⟩ hb
  unfold b_Ca_paint_9 at hb
  have e0 : G 1 2 = nI n := (ha.1 1 2 rfl rfl).trans hpl
  have hb : (G 1 2 ≤ nI q → K (G, L, PC a b P)) ∧ (¬ G 1 2 ≤ nI q → e_Ca_paint_57 UL 1 x1 x2 x3 x4 x5 x6 (nI q) ((x5 >>> ((8 * ((G 1 2 - 1) - nI q)) &&& 31 : Int32) : Int32) &&& 255) ((x6 >>> ((8 * ((G 1 2 - 1) - nI q)) &&& 31 : Int32) : Int32) &&& 255) 0 (G, L, PC a b P) R K) := hb
  rw [e0] at hb
  by_cases hqn : q = n
  · right
    refine ⟨G, ha, ?_, hb.1 (by rw [hqn]; exact Int32.le_refl _)⟩
    rw [← hqn]
    intro x y p h1 h2 h3
    rw [hc x y p h1 h2 h3, hqn]
  · left
    have hb := hb.2 (nI_ge (by omega) (by omega))
    rw [bvc hn (by omega), bvc hn (by omega)] at hb
    obtain ⟨Z, hz, hzc, hR⟩ := q_paint57 (X := X) (Y := Y) (W := W) (H := H) (p0 := q) hb h1 h2 h3 h4 hX hY rfl (by omega)
    refine ⟨_, _, hR, q + 1, _, nI_1 q, rfl, by omega, agc_tr ha hz rfl rfl, ?_⟩
    intro x y p hx' hy' hp
    rw [hzc x y p hx' hy' hp, hc x y p hx' hy' hp]
    by_cases e : X ≤ x ∧ x < X + W ∧ Y ≤ y ∧ y < Y + H ∧ p = q
    · rw [if_pos e, if_pos (by omega), e.2.2.2.2]
      rfl
    · rw [if_neg e]
      by_cases e2 : X ≤ x ∧ x < X + W ∧ Y ≤ y ∧ y < Y + H ∧ p < q
      · rw [if_pos e2, if_pos (by omega)]
      · rw [if_neg e2, if_neg (by omega)]
end PAINT
section HOLDS
variable {x1 x2 x3 x4 : Int32} {F : cF} {L : cL} {a b : Bool} {P : Nat → Nat → Nat} {K : Int32 → cs → Prop}
theorem ho_44 {U : ut} {u : Nat} {S : cs} (h : b_Ca_holds_44 U u S K) : K 0 S := by
  unfold b_Ca_holds_44 b_Ca_holds_45 at h
  exact h.2
theorem q_holds (hw : B 1 64 (F 1 0)) (hh : B 1 64 (F 1 1)) (h : p_Ca_holds UL 1 x1 x2 x3 x4 (F, L, PC a b P) K) : (onC (F 1 0) (F 1 1) x1 x2 x3 x4 ∧ K 1 (F, L, PC a b P)) ∨ (¬ onC (F 1 0) (F 1 1) x1 x2 x3 x4 ∧ K 0 (F, L, PC a b P)) := by
  have w1 := hw.1
  have w2 := hw.2
  have g1 := hh.1
  have g2 := hh.2
  have z0 : (0 : Int32).toInt = 0 := by decide
  have z1 : (1 : Int32).toInt = 1 := by decide
  have b1 := (B_any x1).2
  have b2 := (B_any x2).2
  unfold p_Ca_holds at h
  unfold onC
  refine dt_p h (fun c h => ?_) (fun c h => ?_)
  · have c := i_lt c
    exact Or.inr ⟨by omega, ho_44 h⟩
  have c1 := i_le (nlt_le c)
  refine dt_p h (fun c h => ?_) (fun c h => ?_)
  · have c := i_lt c
    exact Or.inr ⟨by omega, ho_44 h⟩
  have c2 := i_le (nlt_le c)
  refine dt_p h (fun c h => ?_) (fun c h => ?_)
  · have c := i_lt c
    exact Or.inr ⟨by omega, ho_44 h⟩
  have c3 := i_le (nlt_le c)
  refine dt_p h (fun c h => ?_) (fun c h => ?_)
  · have c := i_lt c
    exact Or.inr ⟨by omega, ho_44 h⟩
  have c4 := i_le (nlt_le c)
  have s1 : (F 1 0 - x1).toInt = (F 1 0).toInt - x1.toInt := t_sub (a := 1) (b := 64) (c := 0) (d := 2147483647) hw ⟨by omega, by omega⟩ (by decide) (by decide)
  have s2 : (F 1 1 - x2).toInt = (F 1 1).toInt - x2.toInt := t_sub (a := 1) (b := 64) (c := 0) (d := 2147483647) hh ⟨by omega, by omega⟩ (by decide) (by decide)
  refine dt_p h (fun c h => ?_) (fun c h => ?_)
  · have c : (F 1 0 - x1).toInt < x3.toInt := i_lt c
    exact Or.inr ⟨by omega, ho_44 h⟩
  have c5 : x3.toInt ≤ (F 1 0 - x1).toInt := i_le (nlt_le c)
  refine dt_p h (fun c h => ?_) (fun c h => ?_)
  · have c : (F 1 1 - x2).toInt < x4.toInt := i_lt c
    exact Or.inr ⟨by omega, ho_44 h⟩
  have c6 : x4.toInt ≤ (F 1 1 - x2).toInt := i_le (nlt_le c)
  unfold b_Ca_holds_45 at h
  exact Or.inl ⟨by omega, h.2⟩
end HOLDS
section CANV
variable {x1 x2 x3 x4 x5 x6 : Int32} {F : cF} {L : cL} {a b : Bool} {P : Nat → Nat → Nat} {K : cs → Prop} {T : Nat → cs → Prop}
/-- paint, where the rectangle is on the canvas -/
theorem q_paint {n : Nat} (hw : B 1 64 (F 1 0)) (hh : B 1 64 (F 1 1)) (hpl : F 1 2 = nI n) (hn : n = 1 ∨ n = 3) (hc : onC (F 1 0) (F 1 1) x1 x2 x3 x4) (h : p_Ca_paint UL 1 x1 x2 x3 x4 x5 x6 (F, L, PC a b P) K) :
    ∃ Z, agc [] [2] F Z ∧ (∀ x y p : Nat, x < 64 → y < 64 → p < 3 → cvw Z x y p = if x1.toInt ≤ x ∧ (x : Int) < x1.toInt + x3.toInt ∧ x2.toInt ≤ y ∧ (y : Int) < x2.toInt + x4.toInt ∧ p < n then slv (nI n) x5 x6 x3 (x - x1.toInt.toNat) p else cvw F x y p) ∧ K (Z, L, PC a b P) := by
  have w2 := hw.2
  have g2 := hh.2
  obtain ⟨c1, c2, c3, c4, c5, c6⟩ := hc
  unfold p_Ca_paint at h
  have h := h.1 (Int32.le_iff_toInt_le.mpr (show (1 : Int32).toInt ≤ x3.toInt by rw [show (1 : Int32).toInt = 1 by decide]; exact c3))
  obtain ⟨Z, hz, hzc, hk⟩ := q_paint9 (X := x1.toInt.toNat) (Y := x2.toInt.toNat) (W := x3.toInt.toNat) (H := x4.toInt.toNat) (n := n) h (nI_i c1) (nI_i c2) (nI_i (by omega)) (nI_i (by omega)) (by omega) (by omega) hpl hn
  refine ⟨Z, hz, fun x y p hx hy hp => ?_, hk⟩
  rw [hzc x y p hx hy hp]
  by_cases e : x1.toInt ≤ x ∧ (x : Int) < x1.toInt + x3.toInt ∧ x2.toInt ≤ y ∧ (y : Int) < x2.toInt + x4.toInt ∧ p < n
  · rw [if_pos e, if_pos (by omega)]
  · rw [if_neg e, if_neg (by omega)]
theorem q_Bslope {n : Nat} (hw : B 1 64 (F 1 0)) (hh : B 1 64 (F 1 1)) (hpl : F 1 2 = nI n) (hn : n = 1 ∨ n = 3) (h : p_B_slope UL 0 x1 x2 x3 x4 x5 x6 (F, L, PC a b P) K T) :
    (onC (F 1 0) (F 1 1) x1 x2 x3 x4 ∧ ∃ Z, agc [] [2] F Z ∧ (∀ x y p : Nat, x < 64 → y < 64 → p < 3 → cvw Z x y p = if x1.toInt ≤ x ∧ (x : Int) < x1.toInt + x3.toInt ∧ x2.toInt ≤ y ∧ (y : Int) < x2.toInt + x4.toInt ∧ p < n then slv (nI n) x5 x6 x3 (x - x1.toInt.toNat) p else cvw F x y p) ∧ K (Z, L, PC a b P))
    ∨ (¬ onC (F 1 0) (F 1 1) x1 x2 x3 x4 ∧ T 15 (F, L, PC a b P)) := by
  unfold p_B_slope at h
  obtain ⟨-, -, h⟩ := h
  rcases q_holds hw hh h with ⟨hc, h⟩ | ⟨hc, h⟩
  · obtain ⟨-, -, h⟩ := h.1 (by decide)
    exact Or.inl ⟨hc, q_paint hw hh hpl hn hc h⟩
  · exact Or.inr ⟨hc, h.2 rfl⟩
theorem q_Bfill {n : Nat} (hw : B 1 64 (F 1 0)) (hh : B 1 64 (F 1 1)) (hpl : F 1 2 = nI n) (hn : n = 1 ∨ n = 3) (h : p_B_fill UL 0 x1 x2 x3 x4 x5 (F, L, PC a b P) K T) :
    (onC (F 1 0) (F 1 1) x1 x2 x3 x4 ∧ ∃ Z, agc [] [2] F Z ∧ (∀ x y p : Nat, x < 64 → y < 64 → p < 3 → cvw Z x y p = if x1.toInt ≤ x ∧ (x : Int) < x1.toInt + x3.toInt ∧ x2.toInt ≤ y ∧ (y : Int) < x2.toInt + x4.toInt ∧ p < n then slv (nI n) x5 x5 x3 (x - x1.toInt.toNat) p else cvw F x y p) ∧ K (Z, L, PC a b P))
    ∨ (¬ onC (F 1 0) (F 1 1) x1 x2 x3 x4 ∧ T 15 (F, L, PC a b P)) := by
  unfold p_B_fill at h
  obtain ⟨-, -, h⟩ := h
  rcases q_holds hw hh h with ⟨hc, h⟩ | ⟨hc, h⟩
  · obtain ⟨-, -, h⟩ := h.1 (by decide)
    exact Or.inl ⟨hc, q_paint hw hh hpl hn hc h⟩
  · exact Or.inr ⟨hc, h.2 rfl⟩
end CANV

/-! TAPE and OUT: rows of bytes on both sides -/
def by4 (x : Int32) (j : Nat) : Int32 := (x >>> ((24 - (8 * nI j)) &&& 31 : Int32) : Int32) &&& 255
def fby (x1 x2 x3 x4 x5 : Int32) (j : Nat) : Int32 := by4 (if j < 4 then x1 else if j < 8 then x2 else if j < 12 then x3 else if j < 16 then x4 else x5) (j % 4)
theorem r4_n {q : Nat} (h : q < 100) : (nI q - nI q / 4 * 4 : Int32) = nI (q % 4) := pk_rem (d := 4) (by omega) (by decide) (by decide)
section FEED
variable {x1 x2 x3 x4 x5 : Int32} {S : ms} {K : Int32 → ms → Prop} {t : Nat}
theorem q_feed33 (h : e_feed_33 x1 x2 x3 x4 x5 0 S K) (h7 : S.1 7 = nI t) (ht : t + 20 ≤ 32768) :
    ∃ Z, ag [7] [6] S Z ∧ Z.1 7 = nI (t + 20) ∧ (∀ k, Z.2.1 6 k = if t ≤ k ∧ k < t + 20 then fby x1 x2 x3 x4 x5 (k - t) else S.2.1 6 k) ∧ K (nI (t + 20)) Z := by
  refine v_e_feed_33 h (fun y6 T => ∃ q, y6 = nI q ∧ q ≤ 20 ∧ ag [7] [6] S T ∧ T.1 7 = nI (t + q) ∧ ∀ k, T.2.1 6 k = if t ≤ k ∧ k < t + q then fby x1 x2 x3 x4 x5 (k - t) else S.2.1 6 k) ⟨0, rfl, by decide, ag_refl, h7, fun k => by rw [if_neg (by omega)]⟩ ?_
  rintro y6 T R ⟨q, rfl, hq, ha, e7, hc⟩ hb
  unfold b_feed_33 at hb
  by_cases hqn : q = 20
  · right
    subst hqn
    have hb := hb.1 (Int32.le_refl _)
    rw [e7] at hb
    exact ⟨T, ha, e7, hc, hb⟩
  · left
    have step : ∀ w : Int32, b_feed_86 x1 x2 x3 x4 x5 (nI q) w T R K → fby x1 x2 x3 x4 x5 q = by4 w (q % 4) → (∃ (zx6 : Int32) (zS : ms), R x1 x2 x3 x4 x5 zx6 zS ∧ ∃ q, zx6 = nI q ∧ q ≤ 20 ∧ ag [7] [6] S zS ∧ zS.1 7 = nI (t + q) ∧ ∀ k, zS.2.1 6 k = if t ≤ k ∧ k < t + q then fby x1 x2 x3 x4 x5 (k - t) else S.2.1 6 k) := by
      intro w hb hw
      unfold b_feed_86 at hb
      obtain ⟨-, hR⟩ := hb
      refine ⟨_, _, hR, q + 1, nI_1 q, by omega, ag_r (T := (upd T.1 7 (T.1 7 + 1), T.2.1, T.2.2)) (ag_f ha rfl) rfl, ?_, ?_⟩
      · show upd T.1 7 (T.1 7 + 1) 7 = _
        rw [upd_at, e7, nI_1]
        rfl
      · intro k
        show va_up T.2.1 6 (upd (T.2.1 6) (T.1 7).toNatClampNeg ((w >>> ((24 - (8 * (nI q - nI q / 4 * 4))) &&& 31 : Int32) : Int32) &&& 255)) 6 k = _
        rw [vu_at, e7, nI_clamp (by omega), r4_n (by omega)]
        by_cases e : k = t + q
        · subst e
          rw [upd_at, if_pos (by omega), show t + q - t = q by omega, hw]
          rfl
        · rw [upd_ne e, hc k]
          by_cases e2 : t ≤ k ∧ k < t + q
          · rw [if_pos e2, if_pos (by omega)]
          · rw [if_neg e2, if_neg (by omega)]
    have hb := hb.2 (nI_ge (b := 20) (by omega) (by omega))
    by_cases h4 : q < 4
    · exact step x1 (hb.2 (nI_ge (b := 4) h4 (by omega))) (by unfold fby; rw [if_pos h4])
    have hb := hb.1 (nI_le (a := 4) (by omega) (by omega))
    by_cases h8 : q < 8
    · exact step x2 (hb.2 (nI_ge (b := 8) h8 (by omega))) (by unfold fby; rw [if_neg h4, if_pos h8])
    have hb := hb.1 (nI_le (a := 8) (by omega) (by omega))
    by_cases h12 : q < 12
    · exact step x3 (hb.2 (nI_ge (b := 12) h12 (by omega))) (by unfold fby; rw [if_neg h4, if_neg h8, if_pos h12])
    have hb := hb.1 (nI_le (a := 12) (by omega) (by omega))
    by_cases h16 : q < 16
    · exact step x4 (hb.2 (nI_ge (b := 16) h16 (by omega))) (by unfold fby; rw [if_neg h4, if_neg h8, if_neg h12, if_pos h16])
    · exact step x5 (hb.1 (nI_le (a := 16) (by omega) (by omega))) (by unfold fby; rw [if_neg h4, if_neg h8, if_neg h12, if_neg h16])
theorem q_feed (h : p_feed x1 x2 x3 x4 x5 S K) (h7 : S.1 7 = nI t) (ht : t ≤ 32768) :
    (t + 20 ≤ 32768 ∧ ∃ Z, ag [0, 7] [6] S Z ∧ Z.1 0 = 0 ∧ Z.1 7 = nI (t + 20) ∧ (∀ k, Z.2.1 6 k = if t ≤ k ∧ k < t + 20 then fby x1 x2 x3 x4 x5 (k - t) else S.2.1 6 k) ∧ K (nI (t + 20)) Z)
    ∨ (32768 < t + 20 ∧ K 0 (upd S.1 0 1, S.2.1, S.2.2)) := by
  unfold p_feed at h
  rw [h7, show nI t + 20 = nI (t + 20) from nI_add t 20] at h
  by_cases e : t + 20 ≤ 32768
  · left
    have h := h.1 (nI_le (b := 32768) e (by decide))
    unfold b_feed_18 at h
    have h := h.1 (by rw [upd_at]; decide)
    obtain ⟨Z, hz, e7, hc, hk⟩ := q_feed33 (t := t) h (by show upd S.1 0 0 7 = _; rw [upd_ne (by decide)]; exact h7) e
    refine ⟨e, Z, ag_tr (ag_f ag_refl rfl) hz rfl rfl, (hz.1 0 rfl).trans (show upd S.1 0 0 0 = 0 from upd_at), e7, hc, hk⟩
  · right
    have h := h.2 (nI_ge (a := 32768) (by omega) (by omega))
    unfold b_feed_18 at h
    exact ⟨by omega, h.2 (by rw [upd_at]; decide)⟩
end FEED
/-- a Row of the class (61: TAPE, its bytes 62; 5: OUT, its bytes 6) takes a byte -/
def isRow (u r N : Nat) : Prop := (u = 61 ∧ r = 62 ∧ N = 32768) ∨ (u = 5 ∧ r = 6 ∧ N = 65536)
section ADD
variable {x : Int32} {F : cF} {L : cL} {a b : Bool} {P : Nat → Nat → Nat} {K : cs → Prop} {u r N s : Nat}
theorem q_add (hR : isRow u r N) (h : p_Ro_add UL u x (F, L, PC a b P) K) (hs : F u 1 = nI s) (hN : s < N) :
    ∃ Z, agc [100 * u + 1] [r] F Z ∧ Z u 1 = nI (s + 1) ∧ (∀ k, Z r k = if k = s then x &&& 255 else F r k) ∧ K (Z, L, PC a b P) := by
  rcases hR with ⟨rfl, rfl, rfl⟩ | ⟨rfl, rfl, rfl⟩
  · unfold p_Ro_add at h
    obtain ⟨-, -, h⟩ := h
    have h : (nI 32768 ≤ F 61 1 → K (F, L, PC a b P)) ∧ (¬ nI 32768 ≤ F 61 1 → (_ ∧ (_ ∧ K (va_up (va_up F 62 (upd (F 62) (F 61 1).toNatClampNeg (x &&& 255))) 61 (upd ((va_up F 62 (upd (F 62) (F 61 1).toNatClampNeg (x &&& 255))) 61) 1 ((va_up F 62 (upd (F 62) (F 61 1).toNatClampNeg (x &&& 255))) 61 1 + 1)), L, PC a b P)))) := h
    have h := (h.2 (by rw [hs]; exact nI_ge hN (by decide))).2.2
    refine ⟨_, agc_f (agc_r agc_refl rfl rfl) rfl rfl, ?_, ?_, h⟩
    · rw [vu_at, upd_at, vu_ne (by decide), hs, nI_1]
    · intro k
      rw [vu_ne (by decide), vu_at, hs, nI_clamp (by omega)]
      by_cases e : k = s
      · rw [e, upd_at, if_pos rfl]
      · rw [upd_ne e, if_neg e]
  · unfold p_Ro_add at h
    obtain ⟨-, -, h⟩ := h
    have h : (nI 65536 ≤ F 5 1 → K (F, L, PC a b P)) ∧ (¬ nI 65536 ≤ F 5 1 → (_ ∧ (_ ∧ K (va_up (va_up F 6 (upd (F 6) (F 5 1).toNatClampNeg (x &&& 255))) 5 (upd ((va_up F 6 (upd (F 6) (F 5 1).toNatClampNeg (x &&& 255))) 5) 1 ((va_up F 6 (upd (F 6) (F 5 1).toNatClampNeg (x &&& 255))) 5 1 + 1)), L, PC a b P)))) := h
    have h := (h.2 (by rw [hs]; exact nI_ge hN (by decide))).2.2
    refine ⟨_, agc_f (agc_r agc_refl rfl rfl) rfl rfl, ?_, ?_, h⟩
    · rw [vu_at, upd_at, vu_ne (by decide), hs, nI_1]
    · intro k
      rw [vu_ne (by decide), vu_at, hs, nI_clamp (by omega)]
      by_cases e : k = s
      · rw [e, upd_at, if_pos rfl]
      · rw [upd_ne e, if_neg e]
theorem row_all (hR : isRow u r N) : ([100 * u + 1].all [100 * u + 1].contains = true) ∧ ([r].all [r].contains = true) := by
  rcases hR with ⟨rfl, rfl, rfl⟩ | ⟨rfl, rfl, rfl⟩ <;> exact ⟨by decide, by decide⟩
theorem q_addTwo (hR : isRow u r N) (h : p_Ro_addTwo UL u x (F, L, PC a b P) K) (hs : F u 1 = nI s) (hN : s + 1 < N) :
    ∃ Z, agc [100 * u + 1] [r] F Z ∧ Z u 1 = nI (s + 2) ∧ (∀ k, Z r k = if k = s then (x >>> (8 &&& 31 : Int32) : Int32) &&& 255 else if k = s + 1 then x &&& 255 else F r k) ∧ K (Z, L, PC a b P) := by
  unfold p_Ro_addTwo at h
  obtain ⟨Z, h1, h2, h3, h⟩ := q_add hR h hs (by omega)
  obtain ⟨Y, g1, g2, g3, h⟩ := q_add hR h h2 hN
  refine ⟨Y, agc_tr h1 g1 (row_all hR).1 (row_all hR).2, g2, fun k => ?_, h⟩
  rw [g3 k, h3 k]
  by_cases e : k = s + 1
  · rw [if_pos e, if_neg (by omega), if_pos e]
  · rw [if_neg e, if_neg e]
theorem shr_shr (y : Int32) : ((y >>> (16 &&& 31 : Int32) : Int32) >>> (8 &&& 31 : Int32) : Int32) = (y >>> ((24 - (8 * nI 0)) &&& 31 : Int32) : Int32) := by
  apply Int32.toInt.inj
  rw [t_shr (k := 8) (by decide), t_shr (k := 16) (by decide), t_shr (k := 24) (by decide)]
  rw [Int.ediv_ediv_of_nonneg (by decide)]
  rfl
theorem q_addFour (hR : isRow u r N) (h : p_Ro_addFour UL u x (F, L, PC a b P) K) (hs : F u 1 = nI s) (hN : s + 3 < N) :
    ∃ Z, agc [100 * u + 1] [r] F Z ∧ Z u 1 = nI (s + 4) ∧ (∀ k, Z r k = if s ≤ k ∧ k < s + 4 then by4 x (k - s) else F r k) ∧ K (Z, L, PC a b P) := by
  unfold p_Ro_addFour at h
  obtain ⟨Z, h1, h2, h3, h⟩ := q_addTwo hR h hs (by omega)
  obtain ⟨Y, g1, g2, g3, h⟩ := q_addTwo hR h h2 (by omega)
  refine ⟨Y, agc_tr h1 g1 (row_all hR).1 (row_all hR).2, g2, fun k => ?_, h⟩
  rw [g3 k, h3 k]
  by_cases e0 : k = s
  · rw [if_neg (by omega), if_neg (by omega), if_pos e0, if_pos (by omega), show k - s = 0 by omega, shr_shr]
    rfl
  by_cases e1 : k = s + 1
  · rw [if_neg (by omega), if_neg (by omega), if_neg e0, if_pos e1, if_pos (by omega), show k - s = 1 by omega]
    unfold by4
    rw [show ((24 - (8 * nI 1)) &&& 31 : Int32) = (16 &&& 31 : Int32) by decide]
  by_cases e2 : k = s + 2
  · rw [if_pos e2, if_pos (by omega), show k - s = 2 by omega]
    unfold by4
    rw [show ((24 - (8 * nI 2)) &&& 31 : Int32) = (8 &&& 31 : Int32) by decide]
  by_cases e3 : k = s + 3
  · rw [if_neg e2, if_pos (by omega), if_pos (by omega), show k - s = 3 by omega]
    unfold by4
    rw [show ((24 - (8 * nI 3)) &&& 31 : Int32) = ((0 : Int32) &&& 31 : Int32) by decide, shr0]
  · rw [if_neg e2, if_neg (by omega), if_neg e0, if_neg e1, if_neg (by omega)]
theorem q_has (hR : isRow u r N) {K : Int32 → cs → Prop} (h : p_Ro_has UL u x (F, L, PC a b P) K) : (0 ≤ x.toInt ∧ x.toInt < (F u 1).toInt ∧ K 1 (F, L, PC a b P)) ∨ (¬ (0 ≤ x.toInt ∧ x.toInt < (F u 1).toInt) ∧ K 0 (F, L, PC a b P)) := by
  have z0 : (0 : Int32).toInt = 0 := by decide
  unfold p_Ro_has at h
  refine dt_p h (fun c h => ?_) (fun c h => ?_)
  · have c := i_lt c
    unfold b_Ro_has_16 b_Ro_has_17 at h
    exact Or.inr ⟨by omega, h.2⟩
  have c1 := i_le (nlt_le c)
  refine dt_p h (fun c h => ?_) (fun c h => ?_)
  · have c : (F u 1).toInt ≤ x.toInt := i_le c
    unfold b_Ro_has_16 b_Ro_has_17 at h
    exact Or.inr ⟨by omega, h.2⟩
  · have c : x.toInt < (F u 1).toInt := i_lt (nle_lt c)
    unfold b_Ro_has_17 at h
    exact Or.inl ⟨by omega, c, h.2⟩
end ADD
section CFEED
variable {x1 x2 x3 x4 x5 : Int32} {F : cF} {L : cL} {a b : Bool} {P : Nat → Nat → Nat} {K : Int32 → cs → Prop} {T : Nat → cs → Prop} {t : Nat}
theorem q_Bfeed (h : p_B_feed UL 0 x1 x2 x3 x4 x5 (F, L, PC a b P) K T) (h7 : F 61 1 = nI t) (ht : t ≤ 32768) :
    (t + 20 ≤ 32768 ∧ ∃ Z, agc [6101] [62] F Z ∧ Z 61 1 = nI (t + 20) ∧ (∀ k, Z 62 k = if t ≤ k ∧ k < t + 20 then fby x1 x2 x3 x4 x5 (k - t) else F 62 k) ∧ K (nI (t + 20)) (Z, L, PC a b P))
    ∨ (32768 < t + 20 ∧ T 13 (F, L, PC a b P)) := by
  have hR : isRow 61 62 32768 := Or.inl ⟨rfl, rfl, rfl⟩
  unfold p_B_feed at h
  obtain ⟨-, -, h⟩ := h
  by_cases e : t + 20 ≤ 32768
  · left
    obtain ⟨-, h⟩ := h.1 (by
      show F 61 1 + 20 ≤ 32768
      rw [h7, show nI t + 20 = nI (t + 20) from nI_add t 20]
      exact nI_le (b := 32768) e (by decide))
    obtain ⟨Z1, a1, s1, c1, -, -, h⟩ := q_addFour hR h h7 (by omega)
    obtain ⟨Z2, a2, s2, c2, -, -, h⟩ := q_addFour hR h s1 (by omega)
    obtain ⟨Z3, a3, s3, c3, -, -, h⟩ := q_addFour hR h s2 (by omega)
    obtain ⟨Z4, a4, s4, c4, -, -, h⟩ := q_addFour hR h s3 (by omega)
    obtain ⟨Z5, a5, s5, c5, -, -, h⟩ := q_addFour hR h s4 (by omega)
    refine ⟨e, Z5, agc_tr (agc_tr (agc_tr (agc_tr a1 a2 rfl rfl) a3 rfl rfl) a4 rfl rfl) a5 rfl rfl, s5, fun k => ?_, ?_⟩
    · rw [c5 k, c4 k, c3 k, c2 k, c1 k]
      unfold fby
      by_cases e0 : t ≤ k ∧ k < t + 4
      · rw [if_neg (by omega), if_neg (by omega), if_neg (by omega), if_neg (by omega), if_pos e0, if_pos (by omega), if_pos (by omega), show (k - t) % 4 = k - t by omega]
      by_cases e1 : t + 4 ≤ k ∧ k < t + 4 + 4
      · rw [if_neg (by omega), if_neg (by omega), if_neg (by omega), if_pos e1, if_pos (by omega), if_neg (by omega), if_pos (by omega), show (k - t) % 4 = k - (t + 4) by omega]
      by_cases e2 : t + 4 + 4 ≤ k ∧ k < t + 4 + 4 + 4
      · rw [if_neg (by omega), if_neg (by omega), if_pos e2, if_pos (by omega), if_neg (by omega), if_neg (by omega), if_pos (by omega), show (k - t) % 4 = k - (t + 4 + 4) by omega]
      by_cases e3 : t + 4 + 4 + 4 ≤ k ∧ k < t + 4 + 4 + 4 + 4
      · rw [if_neg (by omega), if_pos e3, if_pos (by omega), if_neg (by omega), if_neg (by omega), if_neg (by omega), if_pos (by omega), show (k - t) % 4 = k - (t + 4 + 4 + 4) by omega]
      by_cases e4 : t + 4 + 4 + 4 + 4 ≤ k ∧ k < t + 4 + 4 + 4 + 4 + 4
      · rw [if_pos e4, if_pos (by omega), if_neg (by omega), if_neg (by omega), if_neg (by omega), if_neg (by omega), show (k - t) % 4 = k - (t + 4 + 4 + 4 + 4) by omega]
      · rw [if_neg e4, if_neg e3, if_neg e2, if_neg e1, if_neg e0, if_neg (by omega)]
    · have h : K (Z5 61 1) (Z5, L, PC a b P) := h
      rw [s5] at h
      exact h
  · right
    exact ⟨by omega, h.2 (by
      show ¬ F 61 1 + 20 ≤ 32768
      rw [h7, show nI t + 20 = nI (t + 20) from nI_add t 20]
      exact nI_ge (a := 32768) (by omega) (by omega))⟩
end CFEED

/-! the other calls on TAPE and OUT -/
def rTape (M : ms) (F : cF) : Prop := F 61 1 = M.1 7 ∧ ∀ k, k < 32768 → F 62 k = M.2.1 6 k
def rOut (M : ms) (F : cF) : Prop := F 5 1 = M.1 9 ∧ ∀ k : Nat, (k : Int) < (M.1 9).toInt → F 6 k = M.2.1 8 k
def rTab (M : ms) (F : cF) : Prop := ∀ k, k < 128 → F 3 k = M.2.1 5 k
def rCan (M : ms) (F : cF) : Prop := F 1 0 = M.1 1 ∧ F 1 1 = M.1 2 ∧ F 1 2 = M.1 3 ∧ ∀ x y p, x < 64 → y < 64 → p < 3 → cvw F x y p = cv M x y p
theorem and255 {x : Int32} (h : B 0 255 x) : x &&& 255 = x := by
  have h1 := h.1
  have h2 := h.2
  have e : x = nI x.toInt.toNat := nI_i h1
  have g : ∀ n : Fin 256, nI n.val &&& 255 = nI n.val := by decide +kernel
  rw [e]
  exact g ⟨x.toInt.toNat, by omega⟩
section TURN
variable {S : ms} {K : Int32 → ms → Prop} {m : Nat}
theorem q_turn29 (h : e_turn2_29 0 S K) (h9 : S.1 9 = nI m) (hm : m ≤ 32768) :
    ∃ Z, ag [7] [6] S Z ∧ Z.1 7 = nI m ∧ (∀ k, Z.2.1 6 k = if k < m then S.2.1 8 k else S.2.1 6 k) ∧ K (nI m) Z := by
  refine v_e_turn2_29 h (fun y1 T => ∃ q, y1 = nI q ∧ q ≤ m ∧ ag [] [6] S T ∧ ∀ k, T.2.1 6 k = if k < q then S.2.1 8 k else S.2.1 6 k) ⟨0, rfl, Nat.zero_le _, ag_refl, fun k => by rw [if_neg (by omega)]⟩ ?_
  rintro y1 T R ⟨q, rfl, hq, ha, hc⟩ hb
  unfold b_turn2_29 at hb
  have e9 : T.1 9 = nI m := (ha.1 9 rfl).trans h9
  rw [e9] at hb
  by_cases hqn : q = m
  · right
    subst hqn
    have hb := hb.1 (Int32.le_refl _)
    rw [upd_at] at hb
    exact ⟨_, ag_f (ag_tr (ag_refl (fs := [7]) (rs := [6])) ha rfl rfl) rfl, upd_at, hc, hb⟩
  · left
    obtain ⟨-, -, hR⟩ := hb.2 (nI_ge (by omega) (by omega))
    refine ⟨_, _, hR, q + 1, nI_1 q, by omega, ag_r ha rfl, fun k => ?_⟩
    show va_up T.2.1 6 (upd (T.2.1 6) (nI q).toNatClampNeg (T.2.1 8 (nI q).toNatClampNeg)) 6 k = _
    rw [vu_at, nI_clamp (by omega), show T.2.1 8 = S.2.1 8 from ha.2 8 rfl]
    by_cases e : k = q
    · subst e
      rw [upd_at, if_pos (by omega)]
    · rw [upd_ne e, hc k]
      by_cases e2 : k < q
      · rw [if_pos e2, if_pos (by omega)]
      · rw [if_neg e2, if_neg (by omega)]
theorem q_turn2 (h : p_turn2 S K) (h9 : S.1 9 = nI m) (hm : m ≤ 65536) :
    (m ≤ 32768 ∧ ∃ Z, ag [0, 7] [6] S Z ∧ Z.1 0 = 0 ∧ Z.1 7 = nI m ∧ (∀ k, Z.2.1 6 k = if k < m then S.2.1 8 k else S.2.1 6 k) ∧ K (nI m) Z) ∨ (32768 < m ∧ K 0 (upd S.1 0 1, S.2.1, S.2.2)) := by
  unfold p_turn2 at h
  rw [h9] at h
  by_cases e : m ≤ 32768
  · left
    have h := h.1 (nI_le (b := 32768) e (by decide))
    unfold b_turn2_15 at h
    have h := h.1 (by rw [upd_at]; decide)
    obtain ⟨Z, hz, e7, hc, hk⟩ := q_turn29 (m := m) h (by show upd S.1 0 0 9 = _; rw [upd_ne (by decide)]; exact h9) e
    exact ⟨e, Z, ag_tr (ag_f ag_refl rfl) hz rfl rfl, (hz.1 0 rfl).trans (show upd S.1 0 0 0 = 0 from upd_at), e7, hc, hk⟩
  · right
    have h := h.2 (nI_ge (a := 32768) (by omega) (by omega))
    unfold b_turn2_15 at h
    exact ⟨by omega, h.2 (by rw [upd_at]; decide)⟩
end TURN
section CTURN
variable {F : cF} {L : cL} {a b : Bool} {P : Nat → Nat → Nat} {K : Int32 → cs → Prop} {T : Nat → cs → Prop} {m : Nat}
theorem q_Bturn32 (h : e_B_turn_32 UL 0 0 (F, L, PC a b P) K T) (h0 : F 61 1 = 0) (h9 : F 5 1 = nI m) (hm : m ≤ 32768) (hB : ∀ k, B 0 255 (F 6 k)) :
    ∃ Z, agc [6101] [62] F Z ∧ Z 61 1 = nI m ∧ (∀ k, Z 62 k = if k < m then F 6 k else F 62 k) ∧ K (nI m) (Z, L, PC a b P) := by
  have hR : isRow 61 62 32768 := Or.inl ⟨rfl, rfl, rfl⟩
  refine v_e_B_turn_32 h (fun y1 V => ∃ q G, y1 = nI q ∧ V = (G, L, PC a b P) ∧ q ≤ m ∧ agc [6101] [62] F G ∧ G 61 1 = nI q ∧ ∀ k, G 62 k = if k < q then F 6 k else F 62 k) ⟨0, F, rfl, rfl, Nat.zero_le _, agc_refl, h0, fun k => by rw [if_neg (by omega)]⟩ ?_
  rintro y1 V R ⟨q, G, rfl, rfl, hq, ha, e7, hc⟩ hb
  unfold b_B_turn_32 at hb
  obtain ⟨-, -, hb⟩ := hb
  have e5 : G 5 1 = nI m := (ha.1 5 1 rfl rfl).trans h9
  have e6 : G 6 = F 6 := ha.2 6 rfl rfl
  by_cases hqn : q = m
  · right
    subst hqn
    obtain ⟨-, -, hb⟩ := hb.1 (by show G 5 1 ≤ nI q; rw [e5]; exact Int32.le_refl _)
    have hb : K (G 61 1) (G, L, PC a b P) := hb
    rw [e7] at hb
    exact ⟨G, ha, e7, hc, hb⟩
  · left
    obtain ⟨-, -, -, -, -, -, hb⟩ := hb.2 (by show ¬ G 5 1 ≤ nI q; rw [e5]; exact nI_ge (by omega) (by omega))
    have hb : p_Ro_add UL 61 (G 6 (nI q).toNatClampNeg) (G, L, PC a b P) (fun S56 => R (nI q + 1) S56) := hb
    obtain ⟨Z, g1, g2, g3, h⟩ := q_add hR hb e7 (by omega)
    refine ⟨_, _, h, q + 1, Z, nI_1 q, rfl, by omega, agc_tr ha g1 rfl rfl, g2, fun k => ?_⟩
    rw [g3 k, hc k, e6, nI_clamp (by omega), and255 (hB q)]
    by_cases e : k = q
    · subst e
      rw [if_pos rfl, if_pos (by omega)]
    · rw [if_neg e]
      by_cases e2 : k < q
      · rw [if_pos e2, if_pos (by omega)]
      · rw [if_neg e2, if_neg (by omega)]
theorem q_Bturn (h : p_B_turn UL 0 (F, L, PC a b P) K T) (h9 : F 5 1 = nI m) (hm : m ≤ 65536) (hB : ∀ k, B 0 255 (F 6 k)) :
    (m ≤ 32768 ∧ ∃ Z, agc [6101] [62] F Z ∧ Z 61 1 = nI m ∧ (∀ k, Z 62 k = if k < m then F 6 k else F 62 k) ∧ K (nI m) (Z, L, PC a b P)) ∨ (32768 < m ∧ T 13 (F, L, PC a b P)) := by
  unfold p_B_turn at h
  obtain ⟨-, -, h⟩ := h
  by_cases e : m ≤ 32768
  · left
    obtain ⟨-, -, h⟩ := h.1 (by show F 5 1 ≤ 32768; rw [h9]; exact nI_le (b := 32768) e (by decide))
    have h : e_B_turn_32 UL 0 0 (va_up F 61 (upd (F 61) 1 0), L, PC a b P) K T := h
    have f6 : va_up F 61 (upd (F 61) 1 0) 6 = F 6 := vu_ne (by decide)
    have f62 : va_up F 61 (upd (F 61) 1 0) 62 = F 62 := vu_ne (by decide)
    obtain ⟨Z, g1, g2, g3, hk⟩ := q_Bturn32 (m := m) h (by rw [vu_at, upd_at]) (by rw [vu_ne (by decide)]; exact h9) e (by rw [f6]; exact hB)
    rw [f6, f62] at g3
    exact ⟨e, Z, agc_tr (agc_f agc_refl rfl rfl) g1 rfl rfl, g2, g3, hk⟩
  · right
    exact ⟨by omega, h.2 (by show ¬ F 5 1 ≤ 32768; rw [h9]; exact nI_ge (a := 32768) (by omega) (by omega))⟩
end CTURN
/-! both sides at once -/
section BOTH
variable {M : ms} {F : cF} {L : cL} {a b : Bool} {P : Nat → Nat → Nat} {x1 x2 x3 x4 x5 : Int32}
theorem x_feed {K1 : Int32 → ms → Prop} {K2 : Int32 → cs → Prop} {T2 : Nat → cs → Prop} (hM : IM M) (hr : rTape M F) (h1 : p_feed x1 x2 x3 x4 x5 M K1) (h2 : p_B_feed UL 0 x1 x2 x3 x4 x5 (F, L, PC a b P) K2 T2) :
    (∃ v M' F', ag [0, 7] [6] M M' ∧ agc [6101] [62] F F' ∧ M'.1 0 = 0 ∧ rTape M' F' ∧ K1 v M' ∧ K2 v (F', L, PC a b P)) ∨ (K1 0 (upd M.1 0 1, M.2.1, M.2.2) ∧ T2 13 (F, L, PC a b P)) := by
  have b1 := (bf_7 hM).1
  have b2 := (bf_7 hM).2
  have e7 : M.1 7 = nI (M.1 7).toInt.toNat := nI_i b1
  rcases q_feed h1 e7 (by omega) with ⟨c, Z, z1, z2, z3, z4, k1⟩ | ⟨c, k1⟩
  · rcases q_Bfeed h2 (hr.1.trans e7) (by omega) with ⟨-, Y, y1, y3, y4, k2⟩ | ⟨d, -⟩
    · refine Or.inl ⟨_, Z, Y, z1, y1, z2, ⟨y3.trans z3.symm, fun k hk => ?_⟩, k1, k2⟩
      rw [y4 k, z4 k, hr.2 k hk]
    · omega
  · rcases q_Bfeed h2 (hr.1.trans e7) (by omega) with ⟨d, -⟩ | ⟨d, k2⟩
    · omega
    · exact Or.inr ⟨k1, k2⟩
theorem x_turn {K1 : Int32 → ms → Prop} {K2 : Int32 → cs → Prop} {T2 : Nat → cs → Prop} (hM : IM M) (hF : IMc F) (hr : rTape M F) (ho : rOut M F) (h1 : p_turn2 M K1) (h2 : p_B_turn UL 0 (F, L, PC a b P) K2 T2) :
    (∃ v M' F', ag [0, 7] [6] M M' ∧ agc [6101] [62] F F' ∧ M'.1 0 = 0 ∧ rTape M' F' ∧ K1 v M' ∧ K2 v (F', L, PC a b P)) ∨ (K1 0 (upd M.1 0 1, M.2.1, M.2.2) ∧ T2 13 (F, L, PC a b P)) := by
  have b1 := (bf_9 hM).1
  have b2 := (bf_9 hM).2
  have e9 : M.1 9 = nI (M.1 9).toInt.toNat := nI_i b1
  have hB : ∀ k, B 0 255 (F 6 k) := fun k => hF 6 k
  rcases q_turn2 h1 e9 (by omega) with ⟨c, Z, z1, z2, z3, z4, k1⟩ | ⟨c, k1⟩
  · rcases q_Bturn h2 (ho.1.trans e9) (by omega) hB with ⟨-, Y, y1, y3, y4, k2⟩ | ⟨d, -⟩
    · refine Or.inl ⟨_, Z, Y, z1, y1, z2, ⟨y3.trans z3.symm, fun k hk => ?_⟩, k1, k2⟩
      rw [y4 k, z4 k]
      by_cases e : k < (M.1 9).toInt.toNat
      · rw [if_pos e, if_pos e, ho.2 k (by omega)]
      · rw [if_neg e, if_neg e, hr.2 k hk]
    · omega
  · rcases q_Bturn h2 (ho.1.trans e9) (by omega) hB with ⟨d, -⟩ | ⟨d, k2⟩
    · omega
    · exact Or.inr ⟨k1, k2⟩
theorem x_end {K1 : ms → Prop} {K2 : cs → Prop} {T2 : Nat → cs → Prop} (hr : rTape M F) (h1 : p_end x1 M K1) (h2 : p_B_end UL 0 x1 (F, L, PC a b P) K2 T2) :
    (∃ M' F', ag [0, 7] [] M M' ∧ agc [6101] [] F F' ∧ M'.1 0 = 0 ∧ rTape M' F' ∧ K1 M' ∧ K2 (F', L, PC a b P)) ∨ (∃ M', ag [0, 7] [] M M' ∧ M'.1 0 = 1 ∧ M'.1 7 = M.1 7 ∧ K1 M' ∧ T2 14 (F, L, PC a b P)) := by
  have z0 : (0 : Int32).toInt = 0 := by decide
  have no : b_end_13 x1 M K1 → ∃ M', ag [0, 7] [] M M' ∧ M'.1 0 = 1 ∧ M'.1 7 = M.1 7 ∧ K1 M' := by
    intro h
    unfold b_end_13 b_end_18 at h
    have h := h.2 (by rw [upd_at]; decide)
    unfold b_end_37 at h
    refine ⟨_, ag_f (ag_f ag_refl rfl) rfl, ?_, ?_, h⟩
    · show upd (upd M.1 0 1) 7 (M.1 7) 0 = 1
      rw [upd_ne (by decide), upd_at]
    · show upd (upd M.1 0 1) 7 ((upd M.1 0 1) 7) 7 = _
      rw [upd_at, upd_ne (by decide)]
  unfold p_B_end at h2
  obtain ⟨-, -, h2⟩ := h2
  have h2 : p_B_isWithin x1 0 (F 61 1) _ := h2
  unfold p_end at h1
  rcases q_isWithin h2 with ⟨c1, c2, h2⟩ | ⟨c, h2⟩
  · left
    obtain ⟨-, h2⟩ := h2.1 (by decide)
    have h1 := h1.2 (fun q => by have := i_lt q; omega)
    rw [hr.1] at c2
    have h1 := h1.1 (Int32.le_iff_toInt_le.mpr c2)
    unfold b_end_18 at h1
    have h1 := h1.1 (by rw [upd_at]; decide)
    unfold b_end_37 at h1
    refine ⟨_, va_up F 61 (upd (F 61) 1 x1), ag_f (ag_f ag_refl rfl) rfl, agc_f agc_refl rfl rfl, ?_, ⟨?_, ?_⟩, h1, h2⟩
    · show upd (upd M.1 0 0) 7 x1 0 = 0
      rw [upd_ne (by decide), upd_at]
    · show va_up F 61 (upd (F 61) 1 x1) 61 1 = upd (upd M.1 0 0) 7 x1 7
      rw [vu_at, upd_at, upd_at]
    · intro k hk
      rw [vu_ne (by decide)]
      exact hr.2 k hk
  · right
    have h2 := h2.2 rfl
    rw [hr.1] at c
    refine dt_p h1 (fun c1 h => ?_) (fun c1 h => ?_)
    · obtain ⟨M', p1, p2, p3, p4⟩ := no h
      exact ⟨M', p1, p2, p3, p4, h2⟩
    · refine dt_p h (fun c2 h => ?_) (fun c2 h => ?_)
      · have c1 := i_le (nlt_le c1)
        have c2 := i_le c2
        omega
      · obtain ⟨M', p1, p2, p3, p4⟩ := no h
        exact ⟨M', p1, p2, p3, p4, h2⟩
theorem x_size {K1 : Int32 → ms → Prop} {K2 : Int32 → cs → Prop} (ho : rOut M F) (h1 : p_size M K1) (h2 : p_B_size UL 0 (F, L, PC a b P) K2) : ∃ v, K1 v (upd M.1 0 0, M.2.1, M.2.2) ∧ K2 v (F, L, PC a b P) := by
  unfold p_size at h1
  unfold p_B_size at h2
  obtain ⟨-, -, h2⟩ := h2
  have h2 : K2 (F 5 1) (F, L, PC a b P) := h2
  rw [upd_ne (by decide)] at h1
  rw [ho.1] at h2
  exact ⟨_, h1, h2⟩
theorem x_out {K1 : Int32 → ms → Prop} {K2 : Int32 → cs → Prop} {T2 : Nat → cs → Prop} (ho : rOut M F) (h1 : p_out x1 M K1) (h2 : p_B_out UL 0 x1 (F, L, PC a b P) K2 T2) :
    (∃ v, K1 v (upd M.1 0 0, M.2.1, M.2.2) ∧ K2 v (F, L, PC a b P)) ∨ (K1 0 (upd M.1 0 1, M.2.1, M.2.2) ∧ T2 15 (F, L, PC a b P)) := by
  have z0 : (0 : Int32).toInt = 0 := by decide
  have hR : isRow 5 6 65536 := Or.inr ⟨rfl, rfl, rfl⟩
  have no : b_out_13 x1 M K1 → K1 0 (upd M.1 0 1, M.2.1, M.2.2) := by
    intro h
    unfold b_out_13 b_out_18 at h
    have h := h.2 (by rw [upd_at]; decide)
    exact h
  unfold p_B_out at h2
  obtain ⟨-, -, h2⟩ := h2
  have h2 : p_Ro_has UL 5 x1 (F, L, PC a b P) _ := h2
  unfold p_out at h1
  rcases q_has hR h2 with ⟨c1, c2, h2⟩ | ⟨c, h2⟩
  · left
    obtain ⟨-, -, -, -, -, h2⟩ := h2.1 (by decide)
    have h2 : K2 (F 6 x1.toNatClampNeg) (F, L, PC a b P) := h2
    rw [ho.1] at c2
    have h1 := h1.2 (fun q => by have := i_lt q; omega)
    have h1 := h1.1 (Int32.lt_iff_toInt_lt.mpr c2)
    unfold b_out_18 at h1
    have h1 := (h1.1 (by rw [upd_at]; decide)).2
    have h1 : K1 (M.2.1 8 x1.toNatClampNeg) (upd M.1 0 0, M.2.1, M.2.2) := h1
    have ec := cl_i c1
    rw [ho.2 _ (by omega)] at h2
    exact ⟨_, h1, h2⟩
  · right
    have h2 := h2.2 rfl
    rw [ho.1] at c
    refine dt_p h1 (fun c1 h => ?_) (fun c1 h => ?_)
    · exact ⟨no h, h2⟩
    · refine dt_p h (fun c2 h => ?_) (fun c2 h => ?_)
      · have c1 := i_le (nlt_le c1)
        have c2 := i_lt c2
        omega
      · exact ⟨no h, h2⟩
theorem x_change {K1 : Int32 → ms → Prop} {K2 : Int32 → cs → Prop} {T2 : Nat → cs → Prop} (hM : IM M) (hr : rTape M F) (h1 : p_change x1 x2 M K1) (h2 : p_B_change UL 0 x1 x2 (F, L, PC a b P) K2 T2) :
    (∃ v M' F', ag [0] [6] M M' ∧ agc [] [62] F F' ∧ M'.1 0 = 0 ∧ rTape M' F' ∧ K1 v M' ∧ K2 v (F', L, PC a b P)) ∨ (K1 0 (upd M.1 0 1, M.2.1, M.2.2) ∧ T2 15 (F, L, PC a b P)) ∨ (K1 0 (upd M.1 0 2, M.2.1, M.2.2) ∧ T2 14 (F, L, PC a b P)) := by
  have z0 : (0 : Int32).toInt = 0 := by decide
  have z255 : (255 : Int32).toInt = 255 := by decide
  have b2 := (bf_7 hM).2
  have hR : isRow 61 62 32768 := Or.inl ⟨rfl, rfl, rfl⟩
  have no1 : b_change_13 x1 x2 M K1 → K1 0 (upd M.1 0 1, M.2.1, M.2.2) := by
    intro h
    unfold b_change_13 b_change_33 at h
    exact h.2 (by rw [upd_at]; decide)
  have no2 : b_change_28 x1 x2 M K1 → K1 0 (upd M.1 0 2, M.2.1, M.2.2) := by
    intro h
    unfold b_change_28 b_change_33 at h
    exact h.2 (by rw [upd_at]; decide)
  unfold p_B_change at h2
  obtain ⟨-, -, h2⟩ := h2
  have h2 : p_Ro_has UL 61 x1 (F, L, PC a b P) _ := h2
  unfold p_change at h1
  rcases q_has hR h2 with ⟨c1, c2, h2⟩ | ⟨c, h2⟩
  · have h2 := h2.1 (by decide)
    rw [hr.1] at c2
    have h1 := h1.2 (fun q => by have := i_lt q; omega)
    have h1 := h1.1 (Int32.lt_iff_toInt_lt.mpr c2)
    rcases q_isWithin h2 with ⟨d1, d2, h2⟩ | ⟨d, h2⟩
    · left
      obtain ⟨-, -, -, -, -, -, -, -, -, h2⟩ := h2.1 (by decide)
      have h2 : K2 ((va_up F 62 (upd (F 62) x1.toNatClampNeg (F 62 x1.toNatClampNeg ^^^ x2))) 62 x1.toNatClampNeg) (va_up F 62 (upd (F 62) x1.toNatClampNeg (F 62 x1.toNatClampNeg ^^^ x2)), L, PC a b P) := h2
      have h1 := h1.2 (fun q => by have := i_lt q; omega)
      have h1 := h1.1 (Int32.le_iff_toInt_le.mpr d2)
      unfold b_change_33 at h1
      obtain ⟨-, -, -, h1⟩ := h1.1 (by rw [upd_at]; decide)
      have ec := cl_i c1
      rw [vu_at, upd_at] at h1 h2
      have e : F 62 x1.toNatClampNeg = M.2.1 6 x1.toNatClampNeg := hr.2 _ (by omega)
      rw [e] at h2
      refine ⟨_, _, _, ag_r (T := (upd M.1 0 0, M.2.1, M.2.2)) (ag_f ag_refl rfl) rfl, agc_r agc_refl rfl rfl, (show upd M.1 0 0 0 = 0 from upd_at), ⟨?_, fun k hk => ?_⟩, h1, h2⟩
      · show va_up F 62 _ 61 1 = upd M.1 0 0 7
        rw [vu_ne (by decide), upd_ne (by decide), hr.1]
      · show va_up F 62 (upd (F 62) x1.toNatClampNeg (M.2.1 6 x1.toNatClampNeg ^^^ x2)) 62 k = va_up M.2.1 6 (upd (M.2.1 6) x1.toNatClampNeg (M.2.1 6 x1.toNatClampNeg ^^^ x2)) 6 k
        rw [vu_at, vu_at]
        by_cases ek : k = x1.toNatClampNeg
        · rw [ek, upd_at, upd_at]
        · rw [upd_ne ek, upd_ne ek]
          exact hr.2 k hk
    · right
      right
      have h2 := h2.2 rfl
      refine dt_p h1 (fun c1 h => ?_) (fun c1 h => ?_)
      · exact ⟨no2 h, h2⟩
      · refine dt_p h (fun c2 h => ?_) (fun c2 h => ?_)
        · have c1 := i_le (nlt_le c1)
          have c2 := i_le c2
          omega
        · exact ⟨no2 h, h2⟩
  · right
    left
    have h2 := h2.2 rfl
    rw [hr.1] at c
    refine dt_p h1 (fun c1 h => ?_) (fun c1 h => ?_)
    · exact ⟨no1 h, h2⟩
    · refine dt_p h (fun c2 h => ?_) (fun c2 h => ?_)
      · have c1 := i_le (nlt_le c1)
        have c2 := i_lt c2
        omega
      · exact ⟨no1 h, h2⟩
end BOTH

/-! canvas, fill, slope, at, scale, entry: both sides at once -/
section CANVAS
variable {S : ms} {K : ms → Prop}
theorem q_canvas67 (h : e_canvas_67 0 S K) : ∃ Z, ag [] [4] S Z ∧ (∀ k, k < 12288 → Z.2.1 4 k = 0) ∧ K Z := by
  refine v_e_canvas_67 h (fun y4 T => ∃ q, y4 = nI q ∧ q ≤ 12288 ∧ ag [] [4] S T ∧ ∀ k, k < q → T.2.1 4 k = 0) ⟨0, rfl, Nat.zero_le _, ag_refl, fun k hk => absurd hk (Nat.not_lt_zero _)⟩ ?_
  rintro y4 T R ⟨q, rfl, hq, ha, hc⟩ hb
  unfold b_canvas_67 at hb
  by_cases hqn : q = 12288
  · right
    subst hqn
    exact ⟨T, ha, hc, hb.1 (Int32.le_refl _)⟩
  · left
    obtain ⟨-, hR⟩ := hb.2 (nI_ge (b := 12288) (by omega) (by omega))
    refine ⟨_, _, hR, q + 1, nI_1 q, by omega, ag_r ha rfl, fun k hk => ?_⟩
    show va_up T.2.1 4 (upd (T.2.1 4) (nI q).toNatClampNeg 0) 4 k = _
    rw [vu_at, nI_clamp (by omega)]
    by_cases e : k = q
    · rw [e, upd_at]
    · rw [upd_ne e]
      exact hc k (by omega)
/-- canvas(x1, x2, x3) is refused, or all of it is black -/
def okC (x1 x2 x3 : Int32) : Prop := 1 ≤ x1.toInt ∧ x1.toInt ≤ 64 ∧ 1 ≤ x2.toInt ∧ x2.toInt ≤ 64 ∧ (x3 = 1 ∨ x3 = 3)
theorem q_canvas {x1 x2 x3 : Int32} (h : p_canvas x1 x2 x3 S K) :
    (okC x1 x2 x3 ∧ ∃ Z, ag [0, 1, 2, 3] [4] S Z ∧ Z.1 0 = 0 ∧ Z.1 1 = x1 ∧ Z.1 2 = x2 ∧ Z.1 3 = x3 ∧ (∀ k, k < 12288 → Z.2.1 4 k = 0) ∧ K Z) ∨ (¬ okC x1 x2 x3 ∧ K (upd S.1 0 1, S.2.1, S.2.2)) := by
  have z1 : (1 : Int32).toInt = 1 := by decide
  have z64 : (64 : Int32).toInt = 64 := by decide
  have no : b_canvas_33 x1 x2 x3 S K → K (upd S.1 0 1, S.2.1, S.2.2) := by
    intro h
    unfold b_canvas_33 b_canvas_38 at h
    exact h.2 (by rw [upd_at]; decide)
  have yes : b_canvas_37 x1 x2 x3 S K → ∃ Z, ag [0, 1, 2, 3] [4] S Z ∧ Z.1 0 = 0 ∧ Z.1 1 = x1 ∧ Z.1 2 = x2 ∧ Z.1 3 = x3 ∧ (∀ k, k < 12288 → Z.2.1 4 k = 0) ∧ K Z := by
    intro h
    unfold b_canvas_37 b_canvas_38 at h
    have h := h.1 (by rw [upd_at]; decide)
    obtain ⟨Z, ha, hc, hk⟩ := q_canvas67 h
    have f : ∀ k, Z.1 k = upd (upd (upd (upd S.1 0 0) 1 x1) 2 x2) 3 x3 k := fun k => ha.1 k rfl
    refine ⟨Z, ag_tr (ag_f (T := (upd (upd (upd S.1 0 0) 1 x1) 2 x2, S.2.1, S.2.2)) (ag_f (T := (upd (upd S.1 0 0) 1 x1, S.2.1, S.2.2)) (ag_f (T := (upd S.1 0 0, S.2.1, S.2.2)) (ag_f ag_refl rfl) rfl) rfl) rfl) ha rfl rfl, ?_, ?_, ?_, ?_, hc, hk⟩
    · rw [f, upd_ne (by decide), upd_ne (by decide), upd_ne (by decide), upd_at]
    · rw [f, upd_ne (by decide), upd_ne (by decide), upd_at]
    · rw [f, upd_ne (by decide), upd_at]
    · rw [f, upd_at]
  unfold p_canvas at h
  unfold okC
  refine dt_p h (fun c h => ?_) (fun c h => ?_)
  · have c := i_lt c
    exact Or.inr ⟨by omega, no h⟩
  have c1 := i_le (nlt_le c)
  refine dt_p h (fun c h => ?_) (fun c h => ?_)
  · have c := i_lt c
    exact Or.inr ⟨by omega, no h⟩
  have c2 := i_le (nlt_le c)
  refine dt_p h (fun c h => ?_) (fun c h => ?_)
  · have c := i_lt c
    exact Or.inr ⟨by omega, no h⟩
  have c3 := i_le (nlt_le c)
  refine dt_p h (fun c h => ?_) (fun c h => ?_)
  · have c := i_lt c
    exact Or.inr ⟨by omega, no h⟩
  have c4 := i_le (nlt_le c)
  refine dt_p h (fun c h => ?_) (fun c h => ?_)
  · exact Or.inl ⟨⟨by omega, by omega, by omega, by omega, Or.inl c⟩, yes h⟩
  have c5 := c
  refine dt_p h (fun c h => ?_) (fun c h => ?_)
  · exact Or.inl ⟨⟨by omega, by omega, by omega, by omega, Or.inr c⟩, yes h⟩
  · exact Or.inr ⟨fun q => q.2.2.2.2.elim c5 c, no h⟩
end CANVAS
section CCANVAS
variable {F : cF} {L : cL} {a b : Bool} {P : Nat → Nat → Nat} {K : cs → Prop} {T : Nat → cs → Prop} {x1 x2 x3 : Int32}
/-- Arrays.fill of a row of ints, all of it -/
theorem q_fillI {r N : Nat} {v : Int32} (hN : c_ln UL r = N) (hr : OB r = false) (hN2 : N < 2 ^ 31) (h : p_Ar_fillI UL r v (F, L, PC a b P) K) : ∃ Z, agc [] [r] F Z ∧ (∀ k, k < N → Z r k = v) ∧ K (Z, L, PC a b P) := by
  unfold p_Ar_fillI at h
  obtain ⟨-, h⟩ := h
  rw [hN] at h
  refine v_e_Ar_fillI_5 h (fun y2 V => ∃ q G, y2 = nI q ∧ V = (G, L, PC a b P) ∧ q ≤ N ∧ agc [] [r] F G ∧ ∀ k, k < q → G r k = v) ⟨0, F, rfl, rfl, Nat.zero_le _, agc_refl, fun k hk => absurd hk (Nat.not_lt_zero _)⟩ ?_
  rintro y2 V R ⟨q, G, rfl, rfl, hq, ha, hc⟩ hb
  unfold b_Ar_fillI_5 at hb
  by_cases hqn : q = N
  · right
    subst hqn
    exact ⟨G, ha, hc, hb.1 (Int32.le_refl _)⟩
  · left
    obtain ⟨-, -, hR⟩ := hb.2 (nI_ge (by omega) hN2)
    have hR : R r v (nI q + 1) (nI N) (va_up G r (upd (G r) (nI q).toNatClampNeg v), L, PC a b P) := hR
    refine ⟨_, _, hR, q + 1, _, nI_1 q, rfl, by omega, agc_r ha hr (by simp), fun k hk => ?_⟩
    rw [vu_at, nI_clamp (by omega)]
    by_cases e : k = q
    · rw [e, upd_at]
    · rw [upd_ne e]
      exact hc k (by omega)
theorem q_Cbegin (h : p_Ca_begin UL 1 x1 x2 x3 (F, L, PC a b P) K) : ∃ Z, agc [100, 101, 102] [2] F Z ∧ Z 1 0 = x1 ∧ Z 1 1 = x2 ∧ Z 1 2 = x3 ∧ (∀ k, k < 12288 → Z 2 k = 0) ∧ K (Z, L, PC a b P) := by
  unfold p_Ca_begin at h
  obtain ⟨-, h⟩ := h
  have h : p_Ar_fillI UL 2 0 (va_up (va_up (va_up F 1 (upd (F 1) 0 x1)) 1 (upd ((va_up F 1 (upd (F 1) 0 x1)) 1) 1 x2)) 1 (upd ((va_up (va_up F 1 (upd (F 1) 0 x1)) 1 (upd ((va_up F 1 (upd (F 1) 0 x1)) 1) 1 x2)) 1) 2 x3), L, PC a b P) (fun S20 => K S20) := h
  obtain ⟨Z, ha, hc, hk⟩ := q_fillI (N := 12288) rfl rfl (by decide) h
  have f : ∀ k, Z 1 k = upd (upd (upd (F 1) 0 x1) 1 x2) 2 x3 k := fun k => by rw [ha.1 1 k rfl rfl, vu_at, vu_at, vu_at]
  refine ⟨Z, agc_tr (agc_f (agc_f (agc_f agc_refl rfl rfl) rfl rfl) rfl rfl) ha rfl rfl, ?_, ?_, ?_, hc, hk⟩
  · rw [f, upd_ne (by decide), upd_ne (by decide), upd_at]
  · rw [f, upd_ne (by decide), upd_at]
  · rw [f, upd_at]
theorem q_Bcanvas (h : p_B_canvas UL 0 x1 x2 x3 (F, L, PC a b P) K T) :
    (okC x1 x2 x3 ∧ ∃ Z, agc [100, 101, 102] [2] F Z ∧ Z 1 0 = x1 ∧ Z 1 1 = x2 ∧ Z 1 2 = x3 ∧ (∀ k, k < 12288 → Z 2 k = 0) ∧ K (Z, L, PC a b P)) ∨ (¬ okC x1 x2 x3 ∧ T 14 (F, L, PC a b P)) := by
  have z1 : (1 : Int32).toInt = 1 := by decide
  have z64 : (64 : Int32).toInt = 64 := by decide
  have no : b_B_canvas_30 UL 0 (F, L, PC a b P) K T → T 14 (F, L, PC a b P) := fun h => h
  have yes : b_B_canvas_40 UL 0 x1 x2 x3 (F, L, PC a b P) K T → ∃ Z, agc [100, 101, 102] [2] F Z ∧ Z 1 0 = x1 ∧ Z 1 1 = x2 ∧ Z 1 2 = x3 ∧ (∀ k, k < 12288 → Z 2 k = 0) ∧ K (Z, L, PC a b P) := by
    intro h
    unfold b_B_canvas_40 at h
    obtain ⟨-, -, h⟩ := h
    exact q_Cbegin h
  unfold p_B_canvas at h
  unfold okC
  rcases q_isWithin h with ⟨c1, c2, h⟩ | ⟨c, h⟩
  · have h := h.2 (by decide)
    rcases q_isWithin h with ⟨c3, c4, h⟩ | ⟨c, h⟩
    · have h := h.2 (by decide)
      refine dt_p h (fun c h => ?_) (fun c h => ?_)
      · exact Or.inl ⟨⟨by omega, by omega, by omega, by omega, Or.inl c⟩, yes h⟩
      have c5 := c
      refine dt_p h (fun c h => ?_) (fun c h => ?_)
      · exact Or.inl ⟨⟨by omega, by omega, by omega, by omega, Or.inr c⟩, yes h⟩
      · exact Or.inr ⟨fun q => q.2.2.2.2.elim c5 c, no h⟩
    · exact Or.inr ⟨by omega, no (h.1 rfl)⟩
  · exact Or.inr ⟨by omega, no (h.1 rfl)⟩
end CCANVAS
section BOTH
variable {M : ms} {F : cF} {L : cL} {a b : Bool} {P : Nat → Nat → Nat} {x1 x2 x3 x4 x5 x6 : Int32}
theorem x_canvas {K1 : ms → Prop} {K2 : cs → Prop} {T2 : Nat → cs → Prop} (h1 : p_canvas x1 x2 x3 M K1) (h2 : p_B_canvas UL 0 x1 x2 x3 (F, L, PC a b P) K2 T2) :
    (∃ M' F', ag [0, 1, 2, 3] [4] M M' ∧ agc [100, 101, 102] [2] F F' ∧ M'.1 0 = 0 ∧ rCan M' F' ∧ K1 M' ∧ K2 (F', L, PC a b P)) ∨ (K1 (upd M.1 0 1, M.2.1, M.2.2) ∧ T2 14 (F, L, PC a b P)) := by
  rcases q_canvas h1 with ⟨c, Z, z1, z2, z3, z4, z5, z6, k1⟩ | ⟨c, k1⟩
  · rcases q_Bcanvas h2 with ⟨-, Y, y1, y3, y4, y5, y6, k2⟩ | ⟨d, -⟩
    · refine Or.inl ⟨Z, Y, z1, y1, z2, ⟨y3.trans z3.symm, y4.trans z4.symm, y5.trans z5.symm, fun x y p hx hy hp => ?_⟩, k1, k2⟩
      show Y 2 _ = Z.2.1 4 _
      rw [y6 _ (by omega), z6 _ (by omega)]
    · exact absurd c d
  · rcases q_Bcanvas h2 with ⟨d, -⟩ | ⟨d, k2⟩
    · exact absurd d c
    · exact Or.inr ⟨k1, k2⟩
theorem x_paint {n : Nat} (hr : rCan M F) (h3 : M.1 3 = nI n) (hn : n = 1 ∨ n = 3) {Z : ms} {Y : cF} (z1 : ag [0] [4] M Z) (y1 : agc [] [2] F Y)
    (z3 : ∀ x y p : Nat, x < 64 → y < 64 → p < 3 → cv Z x y p = if x1.toInt ≤ x ∧ (x : Int) < x1.toInt + x3.toInt ∧ x2.toInt ≤ y ∧ (y : Int) < x2.toInt + x4.toInt ∧ (p : Int) < (M.1 3).toInt then slv (M.1 3) x5 x6 x3 (x - x1.toInt.toNat) p else cv M x y p)
    (y3 : ∀ x y p : Nat, x < 64 → y < 64 → p < 3 → cvw Y x y p = if x1.toInt ≤ x ∧ (x : Int) < x1.toInt + x3.toInt ∧ x2.toInt ≤ y ∧ (y : Int) < x2.toInt + x4.toInt ∧ p < n then slv (nI n) x5 x6 x3 (x - x1.toInt.toNat) p else cvw F x y p) : rCan Z Y := by
  refine ⟨?_, ?_, ?_, fun x y p hx hy hp => ?_⟩
  · rw [y1.1 1 0 rfl rfl, z1.1 1 rfl]
    exact hr.1
  · rw [y1.1 1 1 rfl rfl, z1.1 2 rfl]
    exact hr.2.1
  · rw [y1.1 1 2 rfl rfl, z1.1 3 rfl]
    exact hr.2.2.1
  · rw [z3 x y p hx hy hp, y3 x y p hx hy hp, h3, nI_toInt (by omega), hr.2.2.2 x y p hx hy hp]
    by_cases e : x1.toInt ≤ x ∧ (x : Int) < x1.toInt + x3.toInt ∧ x2.toInt ≤ y ∧ (y : Int) < x2.toInt + x4.toInt ∧ p < n
    · rw [if_pos e, if_pos (by omega)]
    · rw [if_neg e, if_neg (by omega)]
theorem x_slope {n : Nat} {K1 : ms → Prop} {K2 : cs → Prop} {T2 : Nat → cs → Prop} (hM : IM M) (hr : rCan M F) (h3 : M.1 3 = nI n) (hn : n = 1 ∨ n = 3) (h1 : p_slope x1 x2 x3 x4 x5 x6 M K1) (h2 : p_B_slope UL 0 x1 x2 x3 x4 x5 x6 (F, L, PC a b P) K2 T2) :
    (∃ M' F', ag [0] [4] M M' ∧ agc [] [2] F F' ∧ M'.1 0 = 0 ∧ rCan M' F' ∧ K1 M' ∧ K2 (F', L, PC a b P)) ∨ (K1 (upd M.1 0 1, M.2.1, M.2.2) ∧ T2 15 (F, L, PC a b P)) := by
  have hw : B 1 64 (F 1 0) := by rw [hr.1]; exact bf_1 hM
  have hh : B 1 64 (F 1 1) := by rw [hr.2.1]; exact bf_2 hM
  rcases q_slope hM h1 with ⟨c, Z, z1, z2, z3, k1⟩ | ⟨c, k1⟩
  · rcases q_Bslope hw hh (hr.2.2.1.trans h3) hn h2 with ⟨-, Y, y1, y3, k2⟩ | ⟨d, -⟩
    · exact Or.inl ⟨Z, Y, z1, y1, z2, x_paint hr h3 hn z1 y1 z3 y3, k1, k2⟩
    · rw [hr.1, hr.2.1] at d
      exact absurd c d
  · rcases q_Bslope hw hh (hr.2.2.1.trans h3) hn h2 with ⟨d, -⟩ | ⟨d, k2⟩
    · rw [hr.1, hr.2.1] at d
      exact absurd d c
    · exact Or.inr ⟨k1, k2⟩
theorem x_fill {n : Nat} {K1 : ms → Prop} {K2 : cs → Prop} {T2 : Nat → cs → Prop} (hM : IM M) (hr : rCan M F) (h3 : M.1 3 = nI n) (hn : n = 1 ∨ n = 3) (h1 : p_fill x1 x2 x3 x4 x5 M K1) (h2 : p_B_fill UL 0 x1 x2 x3 x4 x5 (F, L, PC a b P) K2 T2) :
    (∃ M' F', ag [0] [4] M M' ∧ agc [] [2] F F' ∧ M'.1 0 = 0 ∧ rCan M' F' ∧ K1 M' ∧ K2 (F', L, PC a b P)) ∨ (K1 (upd M.1 0 1, M.2.1, M.2.2) ∧ T2 15 (F, L, PC a b P)) := by
  have hw : B 1 64 (F 1 0) := by rw [hr.1]; exact bf_1 hM
  have hh : B 1 64 (F 1 1) := by rw [hr.2.1]; exact bf_2 hM
  unfold p_fill at h1
  rcases q_slope hM h1 with ⟨c, Z, z1, z2, z3, k1⟩ | ⟨c, k1⟩
  · rcases q_Bfill hw hh (hr.2.2.1.trans h3) hn h2 with ⟨-, Y, y1, y3, k2⟩ | ⟨d, -⟩
    · exact Or.inl ⟨Z, Y, z1, y1, z2, x_paint hr h3 hn z1 y1 z3 y3, k1, k2⟩
    · rw [hr.1, hr.2.1] at d
      exact absurd c d
  · rcases q_Bfill hw hh (hr.2.2.1.trans h3) hn h2 with ⟨d, -⟩ | ⟨d, k2⟩
    · rw [hr.1, hr.2.1] at d
      exact absurd d c
    · exact Or.inr ⟨k1, k2⟩
theorem x_at {K1 : Int32 → ms → Prop} {K2 : Int32 → cs → Prop} {T2 : Nat → cs → Prop} (hM : IM M) (hr : rCan M F) (h1 : p_at x1 x2 x3 M K1) (h2 : p_B_at UL 0 x1 x2 x3 (F, L, PC a b P) K2 T2) :
    (∃ v, K1 v (upd M.1 0 0, M.2.1, M.2.2) ∧ K2 v (F, L, PC a b P)) ∨ (K1 0 (upd M.1 0 1, M.2.1, M.2.2) ∧ T2 15 (F, L, PC a b P)) := by
  have z0 : (0 : Int32).toInt = 0 := by decide
  have z1 : (1 : Int32).toInt = 1 := by decide
  have hw : B 1 64 (F 1 0) := by rw [hr.1]; exact bf_1 hM
  have hh : B 1 64 (F 1 1) := by rw [hr.2.1]; exact bf_2 hM
  have w2 := (bf_1 hM).2
  have g2 := (bf_2 hM).2
  have p1 := (bf_3 hM).1
  have p2 := (bf_3 hM).2
  have e3 : (F 1 2 - 1).toInt = (M.1 3).toInt - 1 := by
    rw [hr.2.2.1, t_sub (a := 1) (b := 3) (c := 1) (d := 1) (bf_3 hM) ⟨by decide, by decide⟩ (by decide) (by decide), z1]
  have no : b_at_37 x1 x2 x3 M K1 → K1 0 (upd M.1 0 1, M.2.1, M.2.2) := by
    intro h
    unfold b_at_37 b_at_42 at h
    exact h.2 (by rw [upd_at]; decide)
  have nos : (¬ (0 ≤ x1.toInt ∧ x1.toInt < (M.1 1).toInt ∧ 0 ≤ x2.toInt ∧ x2.toInt < (M.1 2).toInt ∧ 0 ≤ x3.toInt ∧ x3.toInt < (M.1 3).toInt)) → K1 0 (upd M.1 0 1, M.2.1, M.2.2) := by
    intro hn
    unfold p_at at h1
    refine dt_p h1 (fun c h => no h) (fun c h => ?_)
    have c1 := i_le (nlt_le c)
    refine dt_p h (fun c h => no h) (fun c h => ?_)
    have c2 := i_lt (nle_lt c)
    refine dt_p h (fun c h => no h) (fun c h => ?_)
    have c3 := i_le (nlt_le c)
    refine dt_p h (fun c h => no h) (fun c h => ?_)
    have c4 := i_lt (nle_lt c)
    refine dt_p h (fun c h => no h) (fun c h => ?_)
    have c5 := i_le (nlt_le c)
    refine dt_p h (fun c h => ?_) (fun c h => no h)
    have c6 := i_lt c
    exact absurd ⟨by omega, by omega, by omega, by omega, by omega, by omega⟩ hn
  unfold p_B_at at h2
  obtain ⟨-, -, h2⟩ := h2
  rcases q_holds hw hh h2 with ⟨c, h2⟩ | ⟨c, h2⟩
  · obtain ⟨-, -, h2⟩ := h2.2 (by decide)
    have h2 : p_B_isWithin x3 0 (F 1 2 - 1) _ := h2
    obtain ⟨c1, c2, -, -, c5, c6⟩ := c
    rw [hr.1] at c5
    rw [hr.2.1] at c6
    rcases q_isWithin h2 with ⟨d1, d2, h2⟩ | ⟨d, h2⟩
    · left
      obtain ⟨-, -, h2⟩ := h2.1 (by decide)
      unfold p_B_spot at h2
      obtain ⟨-, -, h2⟩ := h2
      have h2 : K2 (F 2 (((4096 * x3) + (64 * x2)) + x1 : Int32).toNatClampNeg) (F, L, PC a b P) := h2
      unfold p_at at h1
      have h1 := h1.2 (fun q => by have := i_lt q; omega)
      have h1 := h1.2 (fun q => by have := i_le q; omega)
      have h1 := h1.2 (fun q => by have := i_lt q; omega)
      have h1 := h1.2 (fun q => by have := i_le q; omega)
      have h1 := h1.2 (fun q => by have := i_lt q; omega)
      have h1 := h1.1 (Int32.lt_iff_toInt_lt.mpr (by omega))
      unfold b_at_42 at h1
      have h1 := h1.1 (by rw [upd_at]; decide)
      unfold p_cell at h1
      have h1 := h1.2
      have h1 : K1 (M.2.1 4 ((3 * ((64 * x2) + x1)) + x3 : Int32).toNatClampNeg) (upd M.1 0 0, M.2.1, M.2.2) := h1
      have e1 := nI_i c1
      have e2 := nI_i c2
      have e4 := nI_i (x := x3) (by omega)
      rw [e1, e2, e4, cell_n, nI_clamp (by omega)] at h1
      rw [e1, e2, e4, spot_n, nI_clamp (by omega)] at h2
      have q := hr.2.2.2 x1.toInt.toNat x2.toInt.toNat x3.toInt.toNat (by omega) (by omega) (by omega)
      unfold cvw cv at q
      rw [q] at h2
      exact ⟨_, h1, h2⟩
    · exact Or.inr ⟨nos (by omega), h2.2 rfl⟩
  · refine Or.inr ⟨nos (fun q => c ?_), h2.1 rfl⟩
    unfold onC
    rw [hr.1, hr.2.1]
    omega
theorem x_entry {K1 : ms → Prop} {K2 : cs → Prop} {T2 : Nat → cs → Prop} (hr : rTab M F) (h1 : p_entry x1 x2 x3 x4 M K1) (h2 : p_B_entry UL 0 x1 x2 x3 x4 (F, L, PC a b P) K2 T2) :
    (∃ M' F', ag [0] [5] M M' ∧ agc [] [3] F F' ∧ M'.1 0 = 0 ∧ rTab M' F' ∧ K1 M' ∧ K2 (F', L, PC a b P)) ∨ (K1 (upd M.1 0 1, M.2.1, M.2.2) ∧ T2 15 (F, L, PC a b P)) ∨ (K1 (upd M.1 0 2, M.2.1, M.2.2) ∧ T2 14 (F, L, PC a b P)) := by
  have z0 : (0 : Int32).toInt = 0 := by decide
  have z1 : (1 : Int32).toInt = 1 := by decide
  have z7 : (7 : Int32).toInt = 7 := by decide
  have z255 : (255 : Int32).toInt = 255 := by decide
  have no1 : b_entry_21 x1 x2 x3 x4 M K1 → K1 (upd M.1 0 1, M.2.1, M.2.2) := by
    intro h
    unfold b_entry_21 b_entry_53 at h
    exact h.1 (by rw [upd_at]; decide)
  have no2 : b_entry_48 x1 x2 x3 x4 M K1 → K1 (upd M.1 0 2, M.2.1, M.2.2) := by
    intro h
    unfold b_entry_48 b_entry_53 at h
    exact h.1 (by rw [upd_at]; decide)
  have nos1 : (¬ (0 ≤ x2.toInt ∧ x2.toInt ≤ 7 ∧ 0 ≤ x3.toInt ∧ x3.toInt ≤ 7)) → K1 (upd M.1 0 1, M.2.1, M.2.2) := by
    intro hn
    unfold p_entry at h1
    refine dt_p h1 (fun c h => no1 h) (fun c h => ?_)
    have c1 := i_le (nlt_le c)
    refine dt_p h (fun c h => no1 h) (fun c h => ?_)
    have c2 := i_le (nlt_le c)
    refine dt_p h (fun c h => no1 h) (fun c h => ?_)
    have c3 := i_le (nlt_le c)
    refine dt_p h (fun c h => ?_) (fun c h => no1 h)
    have c4 := i_le c
    exact absurd ⟨by omega, by omega, by omega, by omega⟩ hn
  have mid : (0 ≤ x2.toInt ∧ x2.toInt ≤ 7 ∧ 0 ≤ x3.toInt ∧ x3.toInt ≤ 7) → ((0 ≤ x1.toInt ∧ x1.toInt ≤ 1) ∧ b_entry_34 x1 x2 x3 x4 M K1) ∨ (¬ (0 ≤ x1.toInt ∧ x1.toInt ≤ 1) ∧ b_entry_48 x1 x2 x3 x4 M K1) := by
    intro hc
    unfold p_entry at h1
    have h1 := h1.2 (fun q => by have := i_lt q; omega)
    have h1 := h1.2 (fun q => by have := i_lt q; omega)
    have h1 := h1.2 (fun q => by have := i_lt q; omega)
    have h1 := h1.1 (Int32.le_iff_toInt_le.mpr (by omega))
    refine dt_p h1 (fun c h => ?_) (fun c h => ?_)
    · exact Or.inl ⟨by rw [c]; decide, h⟩
    have c1 := i_ne c
    refine dt_n h (fun c h => ?_) (fun c h => ?_)
    · have c2 := i_ne c
      exact Or.inr ⟨by omega, h⟩
    · exact Or.inl ⟨by rw [c]; decide, h⟩
  unfold p_B_entry at h2
  rcases q_isWithin h2 with ⟨c1, c2, h2⟩ | ⟨c, h2⟩
  · have h2 := h2.2 (by decide)
    rcases q_isWithin h2 with ⟨c3, c4, h2⟩ | ⟨c, h2⟩
    · have h2 := h2.1 (by decide)
      have mid := mid (by omega)
      rcases q_isWithin h2 with ⟨c5, c6, h2⟩ | ⟨c, h2⟩
      · have h2 := h2.2 (by decide)
        rcases mid with ⟨-, h1⟩ | ⟨d, -⟩
        · unfold b_entry_34 at h1
          rcases q_isWithin h2 with ⟨c7, c8, h2⟩ | ⟨c, h2⟩
          · left
            obtain ⟨-, -, -, h2⟩ := h2.1 (by decide)
            have h2 : K2 (va_up F 3 (upd (F 3) (((64 * x1) + (8 * x2)) + x3 : Int32).toNatClampNeg x4), L, PC a b P) := h2
            have h1 := h1.2 (fun q => by have := i_lt q; omega)
            have h1 := h1.1 (Int32.le_iff_toInt_le.mpr (by omega))
            unfold b_entry_53 at h1
            have h1 := (h1.2 (by rw [upd_at])).2
            unfold b_entry_81 at h1
            refine ⟨_, _, ag_r (T := (upd M.1 0 0, M.2.1, M.2.2)) (ag_f ag_refl rfl) rfl, agc_r agc_refl rfl rfl, (show upd M.1 0 0 0 = 0 from upd_at), fun k hk => ?_, h1, h2⟩
            show va_up F 3 (upd (F 3) (((64 * x1) + (8 * x2)) + x3 : Int32).toNatClampNeg x4) 3 k = va_up M.2.1 5 (upd (M.2.1 5) (((64 * x1) + (8 * x2)) + x3 : Int32).toNatClampNeg x4) 5 k
            rw [vu_at, vu_at]
            by_cases e : k = (((64 * x1) + (8 * x2)) + x3 : Int32).toNatClampNeg
            · rw [e, upd_at, upd_at]
            · rw [upd_ne e, upd_ne e]
              exact hr k hk
          · right
            right
            refine ⟨?_, h2.2 rfl⟩
            refine dt_p h1 (fun c h => no2 h) (fun c9 h => ?_)
            refine dt_p h (fun c8 h => ?_) (fun c h => no2 h)
            have c8 := i_le c8
            have c9 := i_le (nlt_le c9)
            omega
        · omega
      · rcases mid with ⟨d, -⟩ | ⟨d, h1⟩
        · omega
        · exact Or.inr (Or.inr ⟨no2 h1, h2.1 rfl⟩)
    · exact Or.inr (Or.inl ⟨nos1 (by omega), h2.2 rfl⟩)
  · exact Or.inr (Or.inl ⟨nos1 (by omega), h2.1 rfl⟩)
end BOTH

section SCALE
variable {M : ms} {F : cF} {L : cL} {a b : Bool} {P : Nat → Nat → Nat} {x1 x2 x3 : Int32}
def clv (e : Int32) : Int32 := if 1 ≤ e then (if e ≤ 255 then e else 255) else 1
theorem q_clamp {e : Int32} {K : Int32 → Prop} (h : p_B_clamp e 1 255 K) : K (clv e) := by
  unfold p_B_clamp b_B_clamp_19 at h
  unfold clv
  by_cases c : 1 ≤ e
  · rw [if_pos c]
    have h := h.1 c
    by_cases d : e ≤ 255
    · rw [if_pos d]
      exact h.1 d
    · rw [if_neg d]
      exact h.2 d
  · rw [if_neg c]
    exact h.2 c
theorem x_scale49 {K1 : ms → Prop} {K2 : cs → Prop} {T2 : Nat → cs → Prop} (hr : rTab M F) (h0 : M.1 0 = 0) (h1 : e_scale_49 x1 x2 x3 0 M K1) (h2 : e_B_scale_48 UL 0 x1 x2 x3 0 (F, L, PC a b P) K2 T2) :
    ∃ M' F', ag [] [5] M M' ∧ agc [] [3] F F' ∧ rTab M' F' ∧ K1 M' ∧ K2 (F', L, PC a b P) := by
  refine v_e_scale_49 h1 (fun y4 T => ∃ G, e_B_scale_48 UL 0 x1 x2 x3 y4 (G, L, PC a b P) K2 T2 ∧ ag [] [5] M T ∧ agc [] [3] F G ∧ rTab T G) ⟨F, h2, ag_refl, agc_refl, hr⟩ ?_
  rintro y4 T R ⟨G, h2, ha, hg, hr⟩ hb
  have h2 := r_e_B_scale_48 h2
  unfold b_scale_49 at hb
  unfold b_B_scale_48 at h2
  have e0 : T.1 0 = 0 := (ha.1 0 rfl).trans h0
  refine dt_p hb (fun c hb => ?_) (fun c hb => ?_)
  · right
    exact ⟨T, G, ha, hg, hr, hb, h2.1 c⟩
  · left
    obtain ⟨-, h2⟩ := h2.2 c
    have h2 := q_clamp h2
    obtain ⟨-, -, h2⟩ := h2
    have h2 : e_B_scale_48 UL 0 x1 x2 x3 (y4 + 1) (va_up G 3 (upd (G 3) ((64 * x1) + y4 : Int32).toNatClampNeg (clv (x2 + (x3 * ((y4 / 8) + (y4 - y4 / 8 * 8)))))), L, PC a b P) K2 T2 := h2
    have hb := hb.2 e0
    have hb : b_scale_117 x1 x2 x3 y4 ((64 * x1) + y4) (clv (x2 + (x3 * ((y4 / 8) + (y4 - y4 / 8 * 8))))) T R K1 := by
      unfold clv
      by_cases c : 1 ≤ x2 + (x3 * ((y4 / 8) + (y4 - y4 / 8 * 8)))
      · rw [if_pos c]
        have hb := hb.1 c
        by_cases d : x2 + (x3 * ((y4 / 8) + (y4 - y4 / 8 * 8))) ≤ 255
        · rw [if_pos d]
          exact hb.1 d
        · rw [if_neg d]
          exact hb.2 d
      · rw [if_neg c]
        exact hb.2 c
    unfold b_scale_117 at hb
    refine ⟨_, _, hb.2, _, h2, ag_r ha rfl, agc_r hg rfl rfl, fun k hk => ?_⟩
    show va_up G 3 (upd (G 3) ((64 * x1) + y4 : Int32).toNatClampNeg (clv (x2 + (x3 * ((y4 / 8) + (y4 - y4 / 8 * 8)))))) 3 k = va_up T.2.1 5 (upd (T.2.1 5) ((64 * x1) + y4 : Int32).toNatClampNeg (clv (x2 + (x3 * ((y4 / 8) + (y4 - y4 / 8 * 8)))))) 5 k
    rw [vu_at, vu_at]
    by_cases e : k = ((64 * x1) + y4 : Int32).toNatClampNeg
    · rw [e, upd_at, upd_at]
    · rw [upd_ne e, upd_ne e]
      exact hr k hk
theorem x_scale {K1 : ms → Prop} {K2 : cs → Prop} {T2 : Nat → cs → Prop} (hr : rTab M F) (h1 : p_scale x1 x2 x3 M K1) (h2 : p_B_scale UL 0 x1 x2 x3 (F, L, PC a b P) K2 T2) :
    (∃ M' F', ag [0] [5] M M' ∧ agc [] [3] F F' ∧ M'.1 0 = 0 ∧ rTab M' F' ∧ K1 M' ∧ K2 (F', L, PC a b P)) ∨ (K1 (upd M.1 0 1, M.2.1, M.2.2) ∧ T2 14 (F, L, PC a b P)) := by
  have z0 : (0 : Int32).toInt = 0 := by decide
  have z1 : (1 : Int32).toInt = 1 := by decide
  have zm : (-1000 : Int32).toInt = -1000 := by decide
  have zp : (1000 : Int32).toInt = 1000 := by decide
  have no : b_scale_38 x1 x2 x3 M K1 → K1 (upd M.1 0 1, M.2.1, M.2.2) := by
    intro h
    unfold b_scale_38 b_scale_43 at h
    have h := r_e_scale_49 h
    unfold b_scale_49 at h
    have h := (h.2 (by decide)).1 (by
      show ¬ upd M.1 0 1 0 = 0
      rw [upd_at]
      decide)
    exact h
  have t10 : b_scale_10 x1 x2 x3 M K1 → ((-1000 ≤ x2.toInt ∧ x2.toInt ≤ 1000 ∧ -1000 ≤ x3.toInt ∧ x3.toInt ≤ 1000) ∧ b_scale_43 x1 x2 x3 0 M K1) ∨ (¬ (-1000 ≤ x2.toInt ∧ x2.toInt ≤ 1000 ∧ -1000 ≤ x3.toInt ∧ x3.toInt ≤ 1000) ∧ K1 (upd M.1 0 1, M.2.1, M.2.2)) := by
    intro h
    unfold b_scale_10 at h
    refine dt_p h (fun c h => ?_) (fun c h => ?_)
    · have c := i_lt c
      exact Or.inr ⟨by omega, no h⟩
    have c1 := i_le (nlt_le c)
    refine dt_p h (fun c h => ?_) (fun c h => ?_)
    · have c := i_lt c
      exact Or.inr ⟨by omega, no h⟩
    have c2 := i_le (nlt_le c)
    refine dt_p h (fun c h => ?_) (fun c h => ?_)
    · have c := i_lt c
      exact Or.inr ⟨by omega, no h⟩
    have c3 := i_le (nlt_le c)
    refine dt_p h (fun c h => ?_) (fun c h => ?_)
    · have c := i_le c
      exact Or.inl ⟨by omega, h⟩
    · have c := i_lt (nle_lt c)
      exact Or.inr ⟨by omega, no h⟩
  have top : ((0 ≤ x1.toInt ∧ x1.toInt ≤ 1) ∧ b_scale_10 x1 x2 x3 M K1) ∨ (¬ (0 ≤ x1.toInt ∧ x1.toInt ≤ 1) ∧ K1 (upd M.1 0 1, M.2.1, M.2.2)) := by
    unfold p_scale at h1
    refine dt_p h1 (fun c h => ?_) (fun c h => ?_)
    · exact Or.inl ⟨by rw [c]; decide, h⟩
    have c1 := i_ne c
    refine dt_n h (fun c h => ?_) (fun c h => ?_)
    · have c2 := i_ne c
      exact Or.inr ⟨by omega, no h⟩
    · exact Or.inl ⟨by rw [c]; decide, h⟩
  unfold p_B_scale at h2
  rcases q_isWithin h2 with ⟨c1, c2, h2⟩ | ⟨c, h2⟩
  · have h2 := h2.2 (by decide)
    rcases top with ⟨-, h1⟩ | ⟨d, -⟩
    · have h1 := t10 h1
      rcases q_isWithin h2 with ⟨c3, c4, h2⟩ | ⟨c, h2⟩
      · have h2 := h2.2 (by decide)
        rcases q_isWithin h2 with ⟨c5, c6, h2⟩ | ⟨c, h2⟩
        · have h2 := h2.1 (by decide)
          rcases h1 with ⟨-, h1⟩ | ⟨d, -⟩
          · left
            unfold b_scale_43 at h1
            obtain ⟨M', F', p1, p2, p3, p4, p5⟩ := x_scale49 (M := (upd M.1 0 0, M.2.1, M.2.2)) hr (show upd M.1 0 0 0 = 0 from upd_at) h1 h2
            exact ⟨M', F', ag_tr (ag_f ag_refl rfl) p1 rfl rfl, p2, (p1.1 0 rfl).trans (show upd M.1 0 0 0 = 0 from upd_at), p3, p4, p5⟩
          · omega
        · rcases h1 with ⟨d, -⟩ | ⟨d, h1⟩
          · omega
          · exact Or.inr ⟨h1, h2.2 rfl⟩
      · rcases h1 with ⟨d, -⟩ | ⟨d, h1⟩
        · omega
        · exact Or.inr ⟨h1, h2.1 rfl⟩
    · omega
  · rcases top with ⟨d, -⟩ | ⟨d, h1⟩
    · omega
    · exact Or.inr ⟨h1, h2.1 rfl⟩
end SCALE

/-! GEOMETRY: factors, grids and layers of a picture, on the reference's side -/
def mx (A : Nat → Nat) : Nat → Nat
  | 0 => 1
  | l + 1 => max (mx A l) (A l)
def up (a b : Nat) : Nat := (a + b - 1) / b
theorem mx_12 {A : Nat → Nat} : ∀ n, (∀ l, l < n → A l = 1 ∨ A l = 2) → mx A n = 1 ∨ mx A n = 2
  | 0, _ => Or.inl rfl
  | n + 1, h => by
    have h1 := mx_12 n (fun l hl => h l (by omega))
    have h2 := h n (by omega)
    show max (mx A n) (A n) = 1 ∨ max (mx A n) (A n) = 2
    omega
theorem mx_ge {A : Nat → Nat} : ∀ n l, l < n → A l ≤ mx A n
  | 0, l, h => absurd h (Nat.not_lt_zero _)
  | n + 1, l, h => by
    show A l ≤ max (mx A n) (A n)
    by_cases e : l = n
    · subst e; omega
    · have := mx_ge (A := A) n l (by omega)
      omega
theorem q_upward {a b : Nat} {K : Int32 → Prop} (ha : a < 2 ^ 30) (h0 : 0 < b) (hb : b < 2 ^ 30) (h : p_upward (nI a) (nI b) K) : K (nI (up a b)) := by
  unfold p_upward at h
  have h := h.2
  have e : ((nI a + nI b) - 1 : Int32) = nI (a + b - 1) := by
    rw [nI_add, show (1 : Int32) = nI 1 from rfl, pk_sub (by omega)]
  rw [e, pk_div (by omega) h0 (by omega)] at h
  exact h
/-- factors of the picture q: A across, D down -/
def gR (q : Nat) (M : ms) (n W H : Nat) (A D : Nat → Nat) : Prop :=
  M.2.1 12 q = nI W ∧ M.2.1 13 q = nI H ∧ M.2.1 14 q = nI n ∧ (n = 1 ∨ n = 3) ∧ (1 ≤ W ∧ W ≤ 64) ∧ (1 ≤ H ∧ H ≤ 64) ∧ ∀ l, l < n → M.2.1 15 (3 * q + l) = nI (A l) ∧ M.2.1 16 (3 * q + l) = nI (D l) ∧ (A l = 1 ∨ A l = 2) ∧ (D l = 1 ∨ D l = 2)
section GR
variable {q n W H : Nat} {A D : Nat → Nat} {M : ms}
theorem q3_n {q l : Nat} : ((3 * nI q) + nI l : Int32) = nI (3 * q + l) := by
  rw [show (3 : Int32) = nI 3 from rfl, pk_mul, nI_add]
theorem q_greatest1 {K : Int32 → ms → Prop} (hq : q < 3) (hn : n ≤ 3) (h14 : M.2.1 14 q = nI n) (hA : ∀ l, l < n → M.2.1 15 (3 * q + l) = nI (A l) ∧ A l ≤ 15) (h : p_greatest (nI q) 1 M K) : K (nI (mx A n)) M := by
  unfold p_greatest at h
  refine v_e_greatest_5 h (fun y3 y4 T => ∃ l, T = M ∧ y3 = nI (mx A l) ∧ y4 = nI l ∧ l ≤ n ∧ mx A l ≤ 15) ⟨0, rfl, rfl, rfl, Nat.zero_le _, by show 1 ≤ 15; decide⟩ ?_
  rintro y3 y4 T R ⟨l, rfl, rfl, rfl, hl, h15⟩ hb
  unfold b_greatest_5 at hb
  rw [nI_clamp (show q < 2 ^ 31 by omega), h14] at hb
  obtain ⟨-, hb⟩ := hb
  by_cases e : l = n
  · right
    subst e
    exact hb.1 (Int32.le_refl _)
  · left
    have hb := (hb.2 (nI_ge (by omega) (by omega))).2 (by decide)
    obtain ⟨-, hb⟩ := hb
    have a1 := hA l (by omega)
    rw [q3_n, nI_clamp (by omega), a1.1] at hb
    unfold b_greatest_45 at hb
    refine ⟨nI (mx A (l + 1)), nI l + 1, T, ?_, l + 1, rfl, rfl, nI_1 l, by omega, ?_⟩
    · by_cases c : A l ≤ mx A l
      · have hb := hb.1 (nI_le c (by omega))
        unfold b_greatest_59 at hb
        rw [show mx A (l + 1) = mx A l from Nat.max_eq_left c]
        exact hb
      · have hb := hb.2 (nI_ge (by omega) (by omega))
        unfold b_greatest_59 at hb
        rw [show mx A (l + 1) = A l from Nat.max_eq_right (by omega)]
        exact hb
    · show max (mx A l) (A l) ≤ 15
      omega
theorem q_greatest0 {K : Int32 → ms → Prop} (hq : q < 3) (hn : n ≤ 3) (h14 : M.2.1 14 q = nI n) (hA : ∀ l, l < n → M.2.1 16 (3 * q + l) = nI (D l) ∧ D l ≤ 15) (h : p_greatest (nI q) 0 M K) : K (nI (mx D n)) M := by
  unfold p_greatest at h
  refine v_e_greatest_5 h (fun y3 y4 T => ∃ l, T = M ∧ y3 = nI (mx D l) ∧ y4 = nI l ∧ l ≤ n ∧ mx D l ≤ 15) ⟨0, rfl, rfl, rfl, Nat.zero_le _, by show 1 ≤ 15; decide⟩ ?_
  rintro y3 y4 T R ⟨l, rfl, rfl, rfl, hl, h15⟩ hb
  unfold b_greatest_5 at hb
  rw [nI_clamp (show q < 2 ^ 31 by omega), h14] at hb
  obtain ⟨-, hb⟩ := hb
  by_cases e : l = n
  · right
    subst e
    exact hb.1 (Int32.le_refl _)
  · left
    have hb := (hb.2 (nI_ge (by omega) (by omega))).1 rfl
    obtain ⟨-, hb⟩ := hb
    have a1 := hA l (by omega)
    rw [q3_n, nI_clamp (by omega), a1.1] at hb
    unfold b_greatest_45 at hb
    refine ⟨nI (mx D (l + 1)), nI l + 1, T, ?_, l + 1, rfl, rfl, nI_1 l, by omega, ?_⟩
    · by_cases c : D l ≤ mx D l
      · have hb := hb.1 (nI_le c (by omega))
        unfold b_greatest_59 at hb
        rw [show mx D (l + 1) = mx D l from Nat.max_eq_left c]
        exact hb
      · have hb := hb.2 (nI_ge (by omega) (by omega))
        unfold b_greatest_59 at hb
        rw [show mx D (l + 1) = D l from Nat.max_eq_right (by omega)]
        exact hb
    · show max (mx D l) (D l) ≤ 15
      omega
theorem gR.a (h : gR q M n W H A D) : ∀ l, l < n → M.2.1 15 (3 * q + l) = nI (A l) ∧ A l ≤ 15 := fun l hl => ⟨(h.2.2.2.2.2.2 l hl).1, by have := (h.2.2.2.2.2.2 l hl).2.2.1; omega⟩
theorem gR.d (h : gR q M n W H A D) : ∀ l, l < n → M.2.1 16 (3 * q + l) = nI (D l) ∧ D l ≤ 15 := fun l hl => ⟨(h.2.2.2.2.2.2 l hl).2.1, by have := (h.2.2.2.2.2.2 l hl).2.2.2; omega⟩
theorem gR.mA (h : gR q M n W H A D) : mx A n = 1 ∨ mx A n = 2 := mx_12 n (fun l hl => (h.2.2.2.2.2.2 l hl).2.2.1)
theorem gR.mD (h : gR q M n W H A D) : mx D n = 1 ∨ mx D n = 2 := mx_12 n (fun l hl => (h.2.2.2.2.2.2 l hl).2.2.2)
theorem gR.n3 (h : gR q M n W H A D) : n ≤ 3 := by have := h.2.2.2.1; omega
theorem q_layerWide {l : Nat} {K : Int32 → ms → Prop} (hq : q < 3) (g : gR q M n W H A D) (hl : l < n) (h : p_layerWide (nI q) (nI l) M K) : K (nI (up (W * A l) (mx A n))) M := by
  have n3 := g.n3
  have w := g.2.2.2.2.1
  have m1 := g.mA
  have al := (g.2.2.2.2.2.2 l hl).2.2.1
  unfold p_layerWide at h
  obtain ⟨-, -, h⟩ := h
  have h := q_greatest1 hq n3 g.2.2.1 g.a h
  rw [nI_clamp (show q < 2 ^ 31 by omega), q3_n, nI_clamp (by omega), g.1, (g.a l hl).1, pk_mul] at h
  have hW : W * A l ≤ 128 := by rcases al with e | e <;> rw [e] <;> omega
  exact q_upward (by omega) (by omega) (by omega) h
theorem q_layerHigh {l : Nat} {K : Int32 → ms → Prop} (hq : q < 3) (g : gR q M n W H A D) (hl : l < n) (h : p_layerHigh (nI q) (nI l) M K) : K (nI (up (H * D l) (mx D n))) M := by
  have n3 := g.n3
  have w := g.2.2.2.2.2.1
  have m1 := g.mD
  have al := (g.2.2.2.2.2.2 l hl).2.2.2
  unfold p_layerHigh at h
  obtain ⟨-, -, h⟩ := h
  have h := q_greatest0 hq n3 g.2.2.1 g.d h
  rw [nI_clamp (show q < 2 ^ 31 by omega), q3_n, nI_clamp (by omega), g.2.1, (g.d l hl).1, pk_mul] at h
  have hW : H * D l ≤ 128 := by rcases al with e | e <;> rw [e] <;> omega
  exact q_upward (by omega) (by omega) (by omega) h
/-- the grids of the picture q -/
def gG2 (q : Nat) (M : ms) (n W H : Nat) (A D : Nat → Nat) : Prop := ∀ l, l < n → M.2.1 17 (3 * q + l) = nI (A l * up W (8 * mx A n)) ∧ M.2.1 18 (3 * q + l) = nI (D l * up H (8 * mx D n))
theorem q_makeGrids109 {K : ms → Prop} (hq : q < 3) (h : e_makeGrids_109 (nI q) 0 M K) : ∃ Z, ag [] [19] M Z ∧ (∀ k, Z.2.1 19 k = if 12288 * q ≤ k ∧ k < 12288 * q + 12288 then 0 else M.2.1 19 k) ∧ K Z := by
  refine v_e_makeGrids_109 h (fun y4 T => ∃ j, y4 = nI j ∧ j ≤ 12288 ∧ ag [] [19] M T ∧ ∀ k, T.2.1 19 k = if 12288 * q ≤ k ∧ k < 12288 * q + j then 0 else M.2.1 19 k) ⟨0, rfl, Nat.zero_le _, ag_refl, fun k => by rw [if_neg (by omega)]⟩ ?_
  rintro y4 T R ⟨j, rfl, hj, ha, hc⟩ hb
  unfold b_makeGrids_109 at hb
  by_cases e : j = 12288
  · right
    subst e
    exact ⟨T, ha, hc, hb.1 (Int32.le_refl _)⟩
  · left
    obtain ⟨-, hR⟩ := hb.2 (nI_ge (b := 12288) (by omega) (by omega))
    refine ⟨_, _, hR, j + 1, nI_1 j, by omega, ag_r ha rfl, fun k => ?_⟩
    show va_up T.2.1 19 (upd (T.2.1 19) ((12288 * nI q) + nI j : Int32).toNatClampNeg 0) 19 k = _
    rw [show ((12288 * nI q) + nI j : Int32) = nI (12288 * q + j) by rw [show (12288 : Int32) = nI 12288 from rfl, pk_mul, nI_add], nI_clamp (by omega), vu_at]
    by_cases e : k = 12288 * q + j
    · rw [e, upd_at, if_pos (by omega)]
    · rw [upd_ne e, hc k]
      by_cases e2 : 12288 * q ≤ k ∧ k < 12288 * q + j
      · rw [if_pos e2, if_pos (by omega)]
      · rw [if_neg e2, if_neg (by omega)]
theorem q_makeGrids {K : ms → Prop} (hq : q < 3) (g : gR q M n W H A D) (h : p_makeGrids (nI q) M K) :
    ∃ Z, ag [] [17, 18, 19] M Z ∧ gG2 q Z n W H A D ∧ (∀ r k, (r = 17 ∨ r = 18) → ¬ (3 * q ≤ k ∧ k < 3 * q + 3) → Z.2.1 r k = M.2.1 r k) ∧ (∀ k, Z.2.1 19 k = if 12288 * q ≤ k ∧ k < 12288 * q + 12288 then 0 else M.2.1 19 k) ∧ K Z := by
  have n3 := g.n3
  have m1 := g.mA
  have m2 := g.mD
  unfold p_makeGrids at h
  have h := q_greatest1 hq n3 g.2.2.1 g.a h
  have h := q_greatest0 (M := (M.1, M.2.1, M.2.2)) hq n3 g.2.2.1 g.d h
  refine v_e_makeGrids_17 h (fun y4 T => ∃ j, y4 = nI j ∧ j ≤ n ∧ ag [] [17, 18] M T ∧ (∀ r k, (r = 17 ∨ r = 18) → ¬ (3 * q ≤ k ∧ k < 3 * q + 3) → T.2.1 r k = M.2.1 r k) ∧ ∀ l, l < j → T.2.1 17 (3 * q + l) = nI (A l * up W (8 * mx A n)) ∧ T.2.1 18 (3 * q + l) = nI (D l * up H (8 * mx D n))) ⟨0, rfl, Nat.zero_le _, ag_refl, fun _ _ _ _ => rfl, fun l hl => absurd hl (Nat.not_lt_zero _)⟩ ?_
  rintro y4 T R ⟨j, rfl, hj, ha, hk, hc⟩ hb
  have e12 : T.2.1 12 = M.2.1 12 := ha.2 12 rfl
  have e13 : T.2.1 13 = M.2.1 13 := ha.2 13 rfl
  have e14 : T.2.1 14 = M.2.1 14 := ha.2 14 rfl
  have e15 : T.2.1 15 = M.2.1 15 := ha.2 15 rfl
  have e16 : T.2.1 16 = M.2.1 16 := ha.2 16 rfl
  unfold b_makeGrids_17 at hb
  rw [nI_clamp (show q < 2 ^ 31 by omega), e14, g.2.2.1] at hb
  obtain ⟨-, hb⟩ := hb
  by_cases e : j = n
  · right
    subst e
    obtain ⟨Z, z1, z2, hK⟩ := q_makeGrids109 hq (hb.1 (Int32.le_refl _))
    refine ⟨Z, ag_tr (ag_tr (ag_refl (fs := []) (rs := [17, 18, 19])) ha rfl rfl) z1 rfl rfl, fun l hl => ?_, fun r k hr hk2 => ?_, fun k => ?_, hK⟩
    · rw [z1.2 17 rfl, z1.2 18 rfl]
      exact hc l hl
    · rw [← hk r k hr hk2]
      rcases hr with rfl | rfl
      · rw [z1.2 17 rfl]
      · rw [z1.2 18 rfl]
    · rw [z2 k, show T.2.1 19 = M.2.1 19 from ha.2 19 rfl]
  · left
    have g1 := g.2.2.2.2.2.2 j (by omega)
    have w := g.2.2.2.2.1
    have w2 := g.2.2.2.2.2.1
    obtain ⟨-, -, hb⟩ := hb.2 (nI_ge (by omega) (by omega))
    rw [e12, g.1, show (8 * nI (mx A n) : Int32) = nI (8 * mx A n) from pk_mul 8 _] at hb
    obtain ⟨-, -, -, hb⟩ := q_upward (by omega) (by omega) (by omega) hb
    rw [vu_ne (show (13 : Nat) ≠ 17 by decide), e13, g.2.1, show (8 * nI (mx D n) : Int32) = nI (8 * mx D n) from pk_mul 8 _] at hb
    obtain ⟨-, hR⟩ := q_upward (by omega) (by omega) (by omega) hb
    have c3 : (nI (3 * q + j)).toNatClampNeg = 3 * q + j := nI_clamp (by omega)
    rw [q3_n, c3, vu_ne (show (16 : Nat) ≠ 17 by decide), vu_ne (show (18 : Nat) ≠ 17 by decide), e15, e16, g1.1, g1.2.1, pk_mul, pk_mul] at hR
    refine ⟨_, _, hR, j + 1, nI_1 j, by omega, ag_r (T := (T.1, va_up T.2.1 17 (upd (T.2.1 17) (3 * q + j) (nI (A j * up W (8 * mx A n)))), T.2.2)) (ag_r ha rfl) rfl, ?_, ?_⟩
    · intro r k hr hk2
      show va_up (va_up T.2.1 17 (upd (T.2.1 17) (3 * q + j) (nI (A j * up W (8 * mx A n))))) 18 (upd (T.2.1 18) (3 * q + j) (nI (D j * up H (8 * mx D n)))) r k = _
      rcases hr with rfl | rfl
      · rw [vu_ne (by decide), vu_at, upd_ne (by omega)]
        exact hk 17 k (Or.inl rfl) hk2
      · rw [vu_at, upd_ne (by omega)]
        exact hk 18 k (Or.inr rfl) hk2
    · intro l hl
      show va_up (va_up T.2.1 17 (upd (T.2.1 17) (3 * q + j) (nI (A j * up W (8 * mx A n))))) 18 (upd (T.2.1 18) (3 * q + j) (nI (D j * up H (8 * mx D n)))) 17 (3 * q + l) = _ ∧ va_up (va_up T.2.1 17 (upd (T.2.1 17) (3 * q + j) (nI (A j * up W (8 * mx A n))))) 18 (upd (T.2.1 18) (3 * q + j) (nI (D j * up H (8 * mx D n)))) 18 (3 * q + l) = _
      rw [vu_ne (show (17 : Nat) ≠ 18 by decide), vu_at, vu_at]
      by_cases e2 : l = j
      · subst e2
        exact ⟨upd_at, upd_at⟩
      · rw [upd_ne (by omega), upd_ne (by omega)]
        exact hc l (by omega)
end GR

/-! GEOMETRY on the class's side: Picture u (12: packed; 63, 105: the picture and the one that is made) -/
theorem vu_vu {α : Type} {f : Nat → α} {r : Nat} {g g' : α} : va_up (va_up f r g) r g' = va_up f r g' := by
  funext k
  unfold va_up
  by_cases e : k = r
  · rw [if_pos e, if_pos e]
  · rw [if_neg e, if_neg e, if_neg e]
def isPic (u : Nat) : Prop := u = 12 ∨ u = 63 ∨ u = 105
section PIC
variable {u : Nat} {a b : Bool} {P : Nat → Nat → Nat}
theorem pp3 (hu : isPic u) : PC a b P u 3 = u + 1 := by rcases hu with rfl | rfl | rfl <;> rfl
theorem pp4 (hu : isPic u) : PC a b P u 4 = u + 2 := by rcases hu with rfl | rfl | rfl <;> rfl
theorem pp9 (hu : isPic u) : PC a b P u 9 = u + 3 := by rcases hu with rfl | rfl | rfl <;> rfl
theorem pp10 (hu : isPic u) : PC a b P u 10 = u + 4 := by rcases hu with rfl | rfl | rfl <;> rfl
theorem pp11 (hu : isPic u) : PC a b P u 11 = u + 5 := by rcases hu with rfl | rfl | rfl <;> rfl
theorem pp12 (hu : isPic u) : PC a b P u 12 = u + 6 := by rcases hu with rfl | rfl | rfl <;> rfl
theorem pp13 (hu : isPic u) : PC a b P u 13 = u + 7 := by rcases hu with rfl | rfl | rfl <;> rfl
theorem pp14 (hu : isPic u) : PC a b P u 14 = u + 8 := by rcases hu with rfl | rfl | rfl <;> rfl
theorem pp15 (hu : isPic u) : PC a b P u 15 = u + 9 := by rcases hu with rfl | rfl | rfl <;> rfl
theorem pl7 (hu : isPic u) : c_ln UL (u + 7) = 12288 := by rcases hu with rfl | rfl | rfl <;> rfl
variable {F : cF} {L : cL} {K : cs → Prop}
theorem q_fillr {r N : Nat} {v : Int32} (hN : c_ln UL r = N) (hN2 : N < 2 ^ 31) (h : p_Ar_fillI UL r v (F, L, PC a b P) K) : ∃ Z, (∀ w, w ≠ r → Z w = F w) ∧ (∀ k, k < N → Z r k = v) ∧ (∀ k, N ≤ k → Z r k = F r k) ∧ K (Z, L, PC a b P) := by
  unfold p_Ar_fillI at h
  obtain ⟨-, h⟩ := h
  rw [hN] at h
  refine v_e_Ar_fillI_5 h (fun y2 V => ∃ q G, y2 = nI q ∧ V = (G, L, PC a b P) ∧ q ≤ N ∧ (∀ w, w ≠ r → G w = F w) ∧ (∀ k, k < q → G r k = v) ∧ ∀ k, N ≤ k → G r k = F r k) ⟨0, F, rfl, rfl, Nat.zero_le _, fun _ _ => rfl, fun k hk => absurd hk (Nat.not_lt_zero _), fun _ _ => rfl⟩ ?_
  rintro y2 V R ⟨q, G, rfl, rfl, hq, ha, hc, hd⟩ hb
  unfold b_Ar_fillI_5 at hb
  by_cases hqn : q = N
  · right
    subst hqn
    exact ⟨G, ha, hc, hd, hb.1 (Int32.le_refl _)⟩
  · left
    obtain ⟨-, -, hR⟩ := hb.2 (nI_ge (by omega) hN2)
    have hR : R r v (nI q + 1) (nI N) (va_up G r (upd (G r) (nI q).toNatClampNeg v), L, PC a b P) := hR
    rw [nI_clamp (by omega)] at hR
    refine ⟨_, _, hR, q + 1, _, nI_1 q, rfl, by omega, fun w hw => (vu_ne hw).trans (ha w hw), fun k hk => ?_, fun k hk => ?_⟩
    · rw [vu_at]
      by_cases e : k = q
      · rw [e, upd_at]
      · rw [upd_ne e]
        exact hc k (by omega)
    · rw [vu_at, upd_ne (by omega)]
      exact hd k hk
theorem q_Pbegin {x1 x2 x3 : Int32} (hu : isPic u) (h : p_Pi_begin UL u x1 x2 x3 (F, L, PC a b P) K) :
    ∃ Z, (∀ v, v ≠ u → v ≠ u + 7 → Z v = F v) ∧ Z u = upd (upd (upd (upd (upd (upd (F u) 0 x1) 1 x2) 2 x3) 5 1) 6 1) 16 0 ∧ (∀ k, k < 12288 → Z (u + 7) k = 0) ∧ K (Z, L, PC a b P) := by
  unfold p_Pi_begin at h
  obtain ⟨-, h⟩ := h
  dsimp only at h
  rw [pp13 hu] at h
  simp only [vu_vu, vu_at] at h
  obtain ⟨Z, z1, z2, -, hk⟩ := q_fillr (N := 12288) (pl7 hu) (by decide) h
  exact ⟨Z, fun v h1 h2 => (z1 v h2).trans (vu_ne h1), (z1 u (by omega)).trans vu_at, z2, hk⟩
theorem q_PsetFactors {l : Nat} {x2 x3 : Int32} (hu : isPic u) (hl : l < 3) (h : p_Pi_setFactors UL u (nI l) x2 x3 (F, L, PC a b P) K) :
    ∃ Z, (∀ v, v ≠ u → v ≠ u + 1 → v ≠ u + 2 → Z v = F v) ∧ Z u = upd (upd (F u) 5 (i_max (F u 5) x2)) 6 (i_max (F u 6) x3) ∧ Z (u + 1) = upd (F (u + 1)) l x2 ∧ Z (u + 2) = upd (F (u + 2)) l x3 ∧ K (Z, L, PC a b P) := by
  unfold p_Pi_setFactors at h
  obtain ⟨-, -, -, -, -, -, h⟩ := h
  dsimp only at h
  rw [pp3 hu, pp4 hu, nI_clamp (by omega)] at h
  refine ⟨_, ?_, ?_, ?_, ?_, h⟩
  · intro v h1 h2 h3
    rw [vu_vu, vu_ne h1, vu_ne h3, vu_ne h2]
  · rw [vu_at, vu_at, vu_ne (show u ≠ u + 2 by omega), vu_ne (show u ≠ u + 1 by omega), upd_ne (show (6 : Nat) ≠ 5 by decide)]
  · rw [vu_vu, vu_ne (show u + 1 ≠ u by omega), vu_ne (show u + 1 ≠ u + 2 by omega), vu_at]
  · rw [vu_vu, vu_ne (show u + 2 ≠ u by omega), vu_at, vu_ne (show u + 2 ≠ u + 1 by omega)]
theorem q_Pupward {x n : Nat} {K : Int32 → Prop} (hx : x < 2 ^ 30) (h0 : 0 < n) (hn : n < 2 ^ 30) (h : p_Pi_upward (nI x) (nI n) K) : K (nI (up x n)) := by
  unfold p_Pi_upward at h
  obtain ⟨-, h⟩ := h.1 (nI_le (a := 1) (by omega) (by omega))
  unfold b_Pi_upward_16 at h
  have e : ((nI x + nI n) - 1 : Int32) = nI (x + n - 1) := by
    rw [nI_add, show (1 : Int32) = nI 1 from rfl, pk_sub (by omega)]
  rw [e, pk_div (by omega) h0 (by omega)] at h
  exact h
/-- factors of Picture u, as gR -/
def gC (u : Nat) (F : cF) (n W H : Nat) (A D : Nat → Nat) : Prop :=
  F u 0 = nI W ∧ F u 1 = nI H ∧ F u 2 = nI n ∧ F u 5 = nI (mx A n) ∧ F u 6 = nI (mx D n) ∧ (n = 1 ∨ n = 3) ∧ (1 ≤ W ∧ W ≤ 64) ∧ (1 ≤ H ∧ H ≤ 64) ∧ ∀ l, l < n → F (u + 1) l = nI (A l) ∧ F (u + 2) l = nI (D l) ∧ (A l = 1 ∨ A l = 2) ∧ (D l = 1 ∨ D l = 2)
/-- what measure leaves there -/
def gM (u : Nat) (F : cF) (n W H : Nat) (A D : Nat → Nat) : Prop :=
  F u 7 = nI (up W (8 * mx A n)) ∧ F u 8 = nI (up H (8 * mx D n)) ∧ ∀ l, l < n → F (u + 3) l = nI (up (W * A l) (mx A n)) ∧ F (u + 4) l = nI (up (H * D l) (mx D n)) ∧ F (u + 5) l = nI (A l * up W (8 * mx A n)) ∧ F (u + 6) l = nI (A l * up W (8 * mx A n) * (D l * up H (8 * mx D n)))
theorem q_Pmeasure {n W H : Nat} {A D : Nat → Nat} (hu : isPic u) (g : gC u F n W H A D) (h : p_Pi_measure UL u (F, L, PC a b P) K) :
    ∃ Z, (∀ v, v ≠ u → v ≠ u + 3 → v ≠ u + 4 → v ≠ u + 5 → v ≠ u + 6 → Z v = F v) ∧ (∀ k, k ≠ 7 → k ≠ 8 → Z u k = F u k) ∧ gM u Z n W H A D ∧ K (Z, L, PC a b P) := by
  obtain ⟨g0, g1, g2, g5, g6, gn, gW, gH, gl⟩ := g
  have m1 : mx A n = 1 ∨ mx A n = 2 := mx_12 n (fun l hl => (gl l hl).2.2.1)
  have m2 : mx D n = 1 ∨ mx D n = 2 := mx_12 n (fun l hl => (gl l hl).2.2.2)
  unfold p_Pi_measure at h
  dsimp only at h
  rw [g0, g5, show (8 * nI (mx A n) : Int32) = nI (8 * mx A n) from pk_mul 8 _] at h
  have h := q_Pupward (by omega) (by omega) (by omega) h
  rw [vu_at, upd_ne (show (1 : Nat) ≠ 7 by decide), upd_ne (show (6 : Nat) ≠ 7 by decide), g1, g6, show (8 * nI (mx D n) : Int32) = nI (8 * mx D n) from pk_mul 8 _] at h
  have h := q_Pupward (by omega) (by omega) (by omega) h
  rw [vu_vu] at h
  refine v_e_Pi_measure_38 h (fun y1 V => ∃ j G, y1 = nI j ∧ V = (G, L, PC a b P) ∧ j ≤ n ∧ (∀ v, v ≠ u → v ≠ u + 3 → v ≠ u + 4 → v ≠ u + 5 → v ≠ u + 6 → G v = F v) ∧ G u = upd (upd (F u) 7 (nI (up W (8 * mx A n)))) 8 (nI (up H (8 * mx D n))) ∧ ∀ l, l < j → G (u + 3) l = nI (up (W * A l) (mx A n)) ∧ G (u + 4) l = nI (up (H * D l) (mx D n)) ∧ G (u + 5) l = nI (A l * up W (8 * mx A n)) ∧ G (u + 6) l = nI (A l * up W (8 * mx A n) * (D l * up H (8 * mx D n)))) ⟨0, _, rfl, rfl, Nat.zero_le _, fun v h1 _ _ _ _ => vu_ne h1, vu_at, fun l hl => absurd hl (Nat.not_lt_zero _)⟩ ?_
  rintro y1 V R ⟨j, G, rfl, rfl, hj, ha, hG, hc⟩ hb
  have k0 : G u 0 = nI W := by rw [hG, upd_ne (by decide), upd_ne (by decide)]; exact g0
  have k1 : G u 1 = nI H := by rw [hG, upd_ne (by decide), upd_ne (by decide)]; exact g1
  have k2 : G u 2 = nI n := by rw [hG, upd_ne (by decide), upd_ne (by decide)]; exact g2
  have k5 : G u 5 = nI (mx A n) := by rw [hG, upd_ne (by decide), upd_ne (by decide)]; exact g5
  have k6 : G u 6 = nI (mx D n) := by rw [hG, upd_ne (by decide), upd_ne (by decide)]; exact g6
  have k7 : G u 7 = nI (up W (8 * mx A n)) := by rw [hG, upd_ne (by decide), upd_at]
  have k8 : G u 8 = nI (up H (8 * mx D n)) := by rw [hG, upd_at]
  unfold b_Pi_measure_38 at hb
  dsimp only at hb
  rw [k2] at hb
  by_cases e : j = n
  · right
    subst e
    refine ⟨G, ha, fun k h1 h2 => by rw [hG, upd_ne h2, upd_ne h1], ⟨k7, k8, hc⟩, hb.1 (Int32.le_refl _)⟩
  · left
    have gj := gl j (by omega)
    have f1 : G (u + 1) = F (u + 1) := ha _ (by omega) (by omega) (by omega) (by omega) (by omega)
    have f2 : G (u + 2) = F (u + 2) := ha _ (by omega) (by omega) (by omega) (by omega) (by omega)
    have cj : (nI j).toNatClampNeg = j := nI_clamp (by omega)
    obtain ⟨-, -, -, -, hb⟩ := hb.2 (nI_ge (by omega) (by omega))
    rw [pp3 hu, pp4 hu, pp9 hu, pp10 hu, pp11 hu, pp12 hu, cj, k0, f1, gj.1, k5, pk_mul] at hb
    have wb : W * A j ≤ 128 := by rcases gj.2.2.1 with e | e <;> rw [e] <;> omega
    have hbb : H * D j ≤ 128 := by rcases gj.2.2.2 with e | e <;> rw [e] <;> omega
    obtain ⟨-, -, -, -, -, -, hb⟩ := q_Pupward (by omega) (by omega) (by omega) hb
    rw [vu_ne (show u ≠ u + 3 by omega), vu_ne (show u + 2 ≠ u + 3 by omega), k1, f2, gj.2.1, k6, pk_mul] at hb
    obtain ⟨-, -, -, -, -, -, -, -, -, -, -, -, -, -, hR⟩ := q_Pupward (by omega) (by omega) (by omega) hb
    refine ⟨_, _, hR, j + 1, _, nI_1 j, rfl, by omega, ?_, ?_, ?_⟩
    · intro v h1 h2 h3 h4 h5
      rw [vu_ne h5, vu_ne h4, vu_ne h3, vu_ne h2]
      exact ha v h1 h2 h3 h4 h5
    · rw [vu_ne (show u ≠ u + 6 by omega), vu_ne (show u ≠ u + 5 by omega), vu_ne (show u ≠ u + 4 by omega), vu_ne (show u ≠ u + 3 by omega)]
      exact hG
    · intro l hl
      have q3 : ∀ (g4 g5 g6 g3 : Nat → Int32), va_up (va_up (va_up (va_up G (u + 3) g3) (u + 4) g4) (u + 5) g5) (u + 6) g6 (u + 3) = g3 := fun g4 g5 g6 g3 => by
        rw [vu_ne (by omega), vu_ne (by omega), vu_ne (by omega), vu_at]
      have q4 : ∀ (g4 g5 g6 g3 : Nat → Int32), va_up (va_up (va_up (va_up G (u + 3) g3) (u + 4) g4) (u + 5) g5) (u + 6) g6 (u + 4) = g4 := fun g4 g5 g6 g3 => by
        rw [vu_ne (by omega), vu_ne (by omega), vu_at]
      have q5 : ∀ (g4 g5 g6 g3 : Nat → Int32), va_up (va_up (va_up (va_up G (u + 3) g3) (u + 4) g4) (u + 5) g5) (u + 6) g6 (u + 5) = g5 := fun g4 g5 g6 g3 => by
        rw [vu_ne (by omega), vu_at]
      rw [q3, q4, q5, vu_at]
      have o1 : ∀ (g3 g4 : Nat → Int32), va_up (va_up G (u + 3) g3) (u + 4) g4 (u + 1) = G (u + 1) := fun g3 g4 => by rw [vu_ne (by omega), vu_ne (by omega)]
      have ou : ∀ (g3 g4 : Nat → Int32), va_up (va_up G (u + 3) g3) (u + 4) g4 u = G u := fun g3 g4 => by rw [vu_ne (by omega), vu_ne (by omega)]
      have o4 : ∀ (g3 : Nat → Int32), va_up G (u + 3) g3 (u + 4) = G (u + 4) := fun g3 => vu_ne (by omega)
      have o5 : ∀ (g3 g4 : Nat → Int32), va_up (va_up G (u + 3) g3) (u + 4) g4 (u + 5) = G (u + 5) := fun g3 g4 => by rw [vu_ne (by omega), vu_ne (by omega)]
      have p2 : ∀ (g3 g4 g5 : Nat → Int32), va_up (va_up (va_up G (u + 3) g3) (u + 4) g4) (u + 5) g5 (u + 2) = G (u + 2) := fun g3 g4 g5 => by rw [vu_ne (by omega), vu_ne (by omega), vu_ne (by omega)]
      have p6 : ∀ (g3 g4 g5 : Nat → Int32), va_up (va_up (va_up G (u + 3) g3) (u + 4) g4) (u + 5) g5 (u + 6) = G (u + 6) := fun g3 g4 g5 => by rw [vu_ne (by omega), vu_ne (by omega), vu_ne (by omega)]
      have pu : ∀ (g3 g4 g5 : Nat → Int32), va_up (va_up (va_up G (u + 3) g3) (u + 4) g4) (u + 5) g5 u = G u := fun g3 g4 g5 => by rw [vu_ne (by omega), vu_ne (by omega), vu_ne (by omega)]
      rw [o1, ou, o4, o5, p2, p6, pu, vu_at, f1, f2, gj.1, gj.2.1, k7, k8]
      by_cases e2 : l = j
      · subst e2
        rw [upd_at, upd_at, upd_at, upd_at, pk_mul, pk_mul, pk_mul]
        refine ⟨rfl, rfl, rfl, ?_⟩
        rw [Nat.mul_assoc (A l * up W (8 * mx A n)) (D l)]
      · rw [upd_ne e2, upd_ne e2, upd_ne e2, upd_ne e2]
        exact hc l (by omega)
end PIC

/-! SCANS on the class's side: which blocks, in which order (v: 22 the packer's, 73 the unpacker's) -/
def isSc (v : Nat) : Prop := v = 22 ∨ v = 73
section SCAN
variable {u v : Nat} {a b : Bool} {P : Nat → Nat → Nat} {F : cF} {L : cL} {K : cs → Prop}
theorem sp1 (hv : isSc v) : PC a b P v 1 = v + 1 := by rcases hv with rfl | rfl <;> rfl
theorem sp2 (hv : isSc v) : PC a b P v 2 = v + 2 := by rcases hv with rfl | rfl <;> rfl
theorem sp3 (hv : isSc v) : PC a b P v 3 = v + 3 := by rcases hv with rfl | rfl <;> rfl
theorem sp7 (hv : isSc v) : PC a b P v 7 = v + 4 := by rcases hv with rfl | rfl <;> rfl
theorem sl4 (hv : isSc v) : c_ln UL (v + 4) = 192 := by rcases hv with rfl | rfl <;> rfl
/-- v and u are far from each other -/
theorem far (hv : isSc v) (hu : isPic u) : (u + 9 < v ∨ v + 4 < u) := by
  rcases hv with rfl | rfl <;> rcases hu with rfl | rfl | rfl <;> omega
/-- c blocks behind the first s of the order; all else as it was -/
def oad (v : Nat) (F Z : cF) (s c : Nat) (f : Nat → Int32) : Prop :=
  (∀ w, w ≠ v → w ≠ v + 4 → Z w = F w) ∧ (∀ k, k ≠ 6 → Z v k = F v k) ∧ Z v 6 = nI (s + c) ∧ ∀ k, Z (v + 4) k = if s ≤ k ∧ k < s + c then f (k - s) else F (v + 4) k
theorem oad_0 {s : Nat} {f : Nat → Int32} (h : F v 6 = nI s) : oad v F F s 0 f := ⟨fun _ _ _ => rfl, fun _ _ => rfl, h, fun k => by rw [if_neg (by omega)]⟩
theorem oad_tr {F G Z : cF} {s c d : Nat} {f g : Nat → Int32} (h1 : oad v F G s c f) (h2 : oad v G Z (s + c) d g) (hg : ∀ k, k < d → f (c + k) = g k) : oad v F Z s (c + d) f := by
  obtain ⟨a1, a2, a3, a4⟩ := h1
  obtain ⟨b1, b2, b3, b4⟩ := h2
  refine ⟨fun w h1 h2 => (b1 w h1 h2).trans (a1 w h1 h2), fun k h => (b2 k h).trans (a2 k h), by rw [b3, Nat.add_assoc], fun k => ?_⟩
  rw [b4 k, a4 k]
  by_cases e : s + c ≤ k ∧ k < s + c + d
  · rw [if_pos e, if_pos (by omega), ← hg (k - (s + c)) (by omega), show c + (k - (s + c)) = k - s by omega]
  · rw [if_neg e]
    by_cases e2 : s ≤ k ∧ k < s + c
    · rw [if_pos e2, if_pos (by omega)]
    · rw [if_neg e2, if_neg (by omega)]
theorem oad_f {F Z : cF} {s c : Nat} {f g : Nat → Int32} (h : oad v F Z s c f) (hf : ∀ k, k < c → g k = f k) : oad v F Z s c g := by
  obtain ⟨a1, a2, a3, a4⟩ := h
  refine ⟨a1, a2, a3, fun k => ?_⟩
  rw [a4 k]
  by_cases e : s ≤ k ∧ k < s + c
  · rw [if_pos e, if_pos e, hf _ (by omega)]
  · rw [if_neg e, if_neg e]
theorem q_addBlock {s : Nat} {x1 x2 : Int32} (hv : isSc v) (hs : F v 6 = nI s) (h192 : s < 192) (h : p_Sc_addBlock UL v x1 x2 (F, L, PC a b P) K) : ∃ Z, oad v F Z s 1 (fun _ => (64 * x1) + x2) ∧ K (Z, L, PC a b P) := by
  unfold p_Sc_addBlock at h
  obtain ⟨-, -, h⟩ := h
  dsimp only at h
  rw [sp7 hv, sl4 hv, hs] at h
  obtain ⟨-, -, h⟩ := h.2 (nI_ge h192 (by decide))
  unfold b_Sc_addBlock_37 at h
  rw [nI_clamp (by omega)] at h
  refine ⟨_, ⟨?_, ?_, ?_, ?_⟩, h⟩
  · intro w h1 h2
    rw [vu_ne h1, vu_ne h2]
  · intro k hk
    rw [vu_at, upd_ne hk, vu_ne (by omega)]
  · rw [vu_at, upd_at, vu_ne (by omega), hs, nI_1]
  · intro k
    rw [vu_ne (show v + 4 ≠ v by omega), vu_at]
    by_cases e : k = s
    · rw [e, upd_at, if_pos (by omega)]
    · rw [upd_ne e, if_neg (by omega)]
/-! one layer alone -/
section ALONE
variable {l gw uw uh r s : Nat} {x3 : Int32} {R2 : Nat → Int32 → Int32 → cs → Prop}
theorem q_alone18 (hv : isSc v) (hu : isPic u) (hl : l < 3) (h : e_Sc_arrangeAlone_18 UL v u (nI l) (nI r) 0 (F, L, PC a b P) R2 K) {lw : Nat} (hw : F (u + 3) l = nI lw) (hlw : lw ≤ 64) (h1 : 1 ≤ lw) (hg : F (u + 5) l = nI gw) (hs : F v 6 = nI s) (hsm : s + up lw 8 ≤ 192) :
    ∃ Z, oad v F Z s (up lw 8) (fun k => nI (64 * l + (r * gw + k))) ∧ R2 u (nI l) (nI r + 1) (Z, L, PC a b P) := by
  have fr := far hv hu
  refine v_e_Sc_arrangeAlone_18 h (fun y4 V => ∃ c G, y4 = nI c ∧ V = (G, L, PC a b P) ∧ c ≤ up lw 8 ∧ oad v F G s c (fun k => nI (64 * l + (r * gw + k)))) ⟨0, F, rfl, rfl, Nat.zero_le _, oad_0 hs⟩ ?_
  rintro y4 V R ⟨c, G, rfl, rfl, hc, ho⟩ hb
  have f3 : G (u + 3) = F (u + 3) := ho.1 _ (by omega) (by omega)
  have f5 : G (u + 5) = F (u + 5) := ho.1 _ (by omega) (by omega)
  unfold b_Sc_arrangeAlone_18 at hb
  obtain ⟨-, -, -, -, hb⟩ := hb
  dsimp only at hb
  have ul : up lw 8 = (lw + 7) / 8 := rfl
  rw [pp9 hu, pp11 hu, nI_clamp (show l < 2 ^ 31 by omega), f3, hw, f5, hg, show (8 * nI c : Int32) = nI (8 * c) from pk_mul 8 c] at hb
  by_cases e : c = up lw 8
  · right
    subst e
    exact ⟨G, ho, hb.1 (nI_le (by omega) (by omega))⟩
  · left
    obtain ⟨-, -, -, hb⟩ := hb.2 (nI_ge (by omega) (by omega))
    obtain ⟨Z, z1, hR⟩ := q_addBlock hv ho.2.2.1 (by omega) hb
    refine ⟨_, _, hR, c + 1, Z, nI_1 c, rfl, by omega, oad_tr ho z1 (fun k hk => ?_)⟩
    obtain rfl : k = 0 := by omega
    show nI (64 * l + (r * gw + (c + 0))) = (64 * nI l) + ((nI r * nI gw) + nI c)
    rw [pk_mul, show (64 : Int32) = nI 64 from rfl, pk_mul, nI_add, nI_add, Nat.add_zero]
theorem q_alone (hv : isSc v) (hu : isPic u) (hl : l < 3) (h : p_Sc_arrangeAlone UL v u (nI l) (F, L, PC a b P) K) {lw lh : Nat} (hw : F (u + 3) l = nI lw) (hlw : lw ≤ 64) (h1 : 1 ≤ lw) (hh : F (u + 4) l = nI lh) (hlh : lh ≤ 64) (h2 : 1 ≤ lh) (hg : F (u + 5) l = nI gw) (hs : F v 6 = nI 0) :
    ∃ Z, oad v F Z 0 (up lh 8 * up lw 8) (fun k => nI (64 * l + (k / up lw 8 * gw + k % up lw 8))) ∧ K (Z, L, PC a b P) := by
  have fr := far hv hu
  have uw : up lw 8 = (lw + 7) / 8 := rfl
  have uh : up lh 8 = (lh + 7) / 8 := rfl
  unfold p_Sc_arrangeAlone at h
  refine v_e_Sc_arrangeAlone_2 h (fun y3 V => ∃ c G, y3 = nI c ∧ V = (G, L, PC a b P) ∧ c ≤ up lh 8 ∧ oad v F G 0 (c * up lw 8) (fun k => nI (64 * l + (k / up lw 8 * gw + k % up lw 8)))) ⟨0, F, rfl, rfl, Nat.zero_le _, by rw [Nat.zero_mul]; exact oad_0 hs⟩ ?_
  rintro y3 V R ⟨c, G, rfl, rfl, hc, ho⟩ hb
  have f3 : G (u + 3) = F (u + 3) := ho.1 _ (by omega) (by omega)
  have f4 : G (u + 4) = F (u + 4) := ho.1 _ (by omega) (by omega)
  have f5 : G (u + 5) = F (u + 5) := ho.1 _ (by omega) (by omega)
  unfold b_Sc_arrangeAlone_2 at hb
  obtain ⟨-, -, -, -, hb⟩ := hb
  dsimp only at hb
  rw [pp10 hu, nI_clamp (show l < 2 ^ 31 by omega), f4, hh, show (8 * nI c : Int32) = nI (8 * c) from pk_mul 8 c] at hb
  by_cases e : c = up lh 8
  · right
    subst e
    exact ⟨G, ho, hb.1 (nI_le (by omega) (by omega))⟩
  · left
    have hb := hb.2 (nI_ge (by omega) (by omega))
    have hm : c * up lw 8 ≤ 56 := Nat.le_trans (Nat.mul_le_mul (show c ≤ 7 by omega) (show up lw 8 ≤ 8 by omega)) (by decide)
    obtain ⟨Z, z1, hR⟩ := q_alone18 (gw := gw) (s := c * up lw 8) hv hu hl hb (by rw [f3]; exact hw) hlw h1 (by rw [f5]; exact hg) (by have := ho.2.2.1; rw [Nat.zero_add] at this; exact this) (by omega)
    refine ⟨_, _, hR, c + 1, Z, nI_1 c, rfl, by omega, ?_⟩
    rw [Nat.succ_mul]
    refine oad_tr ho (by rw [Nat.zero_add]; exact z1) (fun k hk => ?_)
    have e1 : (c * up lw 8 + k) / up lw 8 = c := by
      rw [Nat.mul_comm, Nat.mul_add_div (by omega), Nat.div_eq_of_lt hk, Nat.add_zero]
    have e2 : (c * up lw 8 + k) % up lw 8 = k := by
      rw [Nat.mul_comm, Nat.mul_add_mod, Nat.mod_eq_of_lt hk]
    show nI (64 * l + ((c * up lw 8 + k) / up lw 8 * gw + (c * up lw 8 + k) % up lw 8)) = _
    rw [e1, e2]
end ALONE
/-! several layers together -/
section TOGETHER
variable {l A D gw s top left : Nat} {R24 : Nat → Int32 → Int32 → Int32 → Int32 → cs → Prop}
theorem q_stretch38 {j : Nat} (hv : isSc v) (hu : isPic u) (hl : l < 3) (h : e_Sc_addStretch_38 UL v u (nI l) (nI left) (nI top) (nI j) 0 (F, L, PC a b P) R24 K) (hA : F (u + 1) l = nI A) (hA2 : A ≤ 2) (hg : F (u + 5) l = nI gw) (hs : F v 6 = nI s) (hsm : s + A ≤ 192) :
    ∃ Z, oad v F Z s A (fun k => nI (64 * l + ((top + j) * gw + left + k))) ∧ R24 u (nI l) (nI left) (nI top) (nI j + 1) (Z, L, PC a b P) := by
  have fr := far hv hu
  refine v_e_Sc_addStretch_38 h (fun y8 V => ∃ c G, y8 = nI c ∧ V = (G, L, PC a b P) ∧ c ≤ A ∧ oad v F G s c (fun k => nI (64 * l + ((top + j) * gw + left + k)))) ⟨0, F, rfl, rfl, Nat.zero_le _, oad_0 hs⟩ ?_
  rintro y8 V R ⟨c, G, rfl, rfl, hc, ho⟩ hb
  have f1 : G (u + 1) = F (u + 1) := ho.1 _ (by omega) (by omega)
  have f5 : G (u + 5) = F (u + 5) := ho.1 _ (by omega) (by omega)
  unfold b_Sc_addStretch_38 at hb
  obtain ⟨-, -, -, -, hb⟩ := hb
  dsimp only at hb
  rw [pp3 hu, pp11 hu, nI_clamp (show l < 2 ^ 31 by omega), f1, hA, f5, hg] at hb
  by_cases e : c = A
  · right
    subst e
    exact ⟨G, ho, hb.1 (Int32.le_refl _)⟩
  · left
    obtain ⟨-, -, -, hb⟩ := hb.2 (nI_ge (by omega) (by omega))
    obtain ⟨Z, z1, hR⟩ := q_addBlock hv ho.2.2.1 (by omega) hb
    refine ⟨_, _, hR, c + 1, Z, nI_1 c, rfl, by omega, oad_tr ho z1 (fun k hk => ?_)⟩
    obtain rfl : k = 0 := by omega
    show nI (64 * l + ((top + j) * gw + left + (c + 0))) = (64 * nI l) + ((((nI top + nI j) * nI gw) + nI left) + nI c)
    rw [nI_add, pk_mul, show (64 : Int32) = nI 64 from rfl, pk_mul, nI_add, nI_add, nI_add, Nat.add_zero]
theorem q_stretch {x3 x4 : Nat} (hv : isSc v) (hu : isPic u) (hl : l < 3) (h : p_Sc_addStretch UL v u (nI l) (nI x3) (nI x4) (F, L, PC a b P) K) (hA : F (u + 1) l = nI A) (hA1 : A = 1 ∨ A = 2) (hD : F (u + 2) l = nI D) (hD1 : D = 1 ∨ D = 2) (hg : F (u + 5) l = nI gw) (hs : F v 6 = nI s) (hsm : s + D * A ≤ 192) :
    ∃ Z, oad v F Z s (D * A) (fun k => nI (64 * l + ((x4 * D + k / A) * gw + x3 * A + k % A))) ∧ K (Z, L, PC a b P) := by
  have fr := far hv hu
  unfold p_Sc_addStretch at h
  obtain ⟨-, -, -, -, -, -, -, h⟩ := h
  dsimp only at h
  rw [pp3 hu, pp4 hu, nI_clamp (show l < 2 ^ 31 by omega), hA, hD, pk_mul, pk_mul] at h
  refine v_e_Sc_addStretch_24 h (fun y7 V => ∃ c G, y7 = nI c ∧ V = (G, L, PC a b P) ∧ c ≤ D ∧ oad v F G s (c * A) (fun k => nI (64 * l + ((x4 * D + k / A) * gw + x3 * A + k % A)))) ⟨0, F, rfl, rfl, Nat.zero_le _, by rw [Nat.zero_mul]; exact oad_0 hs⟩ ?_
  rintro y7 V R ⟨c, G, rfl, rfl, hc, ho⟩ hb
  have f1 : G (u + 1) = F (u + 1) := ho.1 _ (by omega) (by omega)
  have f2 : G (u + 2) = F (u + 2) := ho.1 _ (by omega) (by omega)
  have f5 : G (u + 5) = F (u + 5) := ho.1 _ (by omega) (by omega)
  unfold b_Sc_addStretch_24 at hb
  obtain ⟨-, -, -, -, hb⟩ := hb
  dsimp only at hb
  rw [pp4 hu, nI_clamp (show l < 2 ^ 31 by omega), f2, hD] at hb
  by_cases e : c = D
  · right
    subst e
    exact ⟨G, ho, hb.1 (Int32.le_refl _)⟩
  · left
    have hb := hb.2 (nI_ge (by omega) (by omega))
    have hm : c * A + A ≤ D * A := by
      rw [← Nat.succ_mul]
      exact Nat.mul_le_mul_right A (by omega)
    obtain ⟨Z, z1, hR⟩ := q_stretch38 (s := s + c * A) (A := A) (gw := gw) hv hu hl hb (by rw [f1]; exact hA) (by omega) (by rw [f5]; exact hg) ho.2.2.1 (by omega)
    refine ⟨_, _, hR, c + 1, Z, nI_1 c, rfl, by omega, ?_⟩
    rw [Nat.succ_mul]
    refine oad_tr ho z1 (fun k hk => ?_)
    have e1 : (c * A + k) / A = c := by
      rw [Nat.mul_comm, Nat.mul_add_div (by omega), Nat.div_eq_of_lt hk, Nat.add_zero]
    have e2 : (c * A + k) % A = k := by
      rw [Nat.mul_comm, Nat.mul_add_mod, Nat.mod_eq_of_lt hk]
    show nI (64 * l + ((x4 * D + (c * A + k) / A) * gw + x3 * A + (c * A + k) % A)) = _
    rw [e1, e2]
end TOGETHER
end SCAN

/-! several layers together, all of it; arrange -/
def offs (A D ly : Nat → Nat) : Nat → Nat
  | 0 => 0
  | i + 1 => offs A D ly i + A (ly i) * D (ly i)
theorem offs_le {A D ly : Nat → Nat} {i : Nat} : ∀ m, i ≤ m → offs A D ly i ≤ offs A D ly m
  | 0, h => by
    obtain rfl : i = 0 := by omega
    exact Nat.le_refl _
  | m + 1, h => by
    by_cases e : i = m + 1
    · rw [e]
      exact Nat.le_refl _
    · exact Nat.le_trans (offs_le m (by omega)) (Nat.le_add_right _ _)
/-- the k-th block of layer l in the stretch (x across, y down) -/
def bkv (A D gw : Nat → Nat) (l x y k : Nat) : Nat := 64 * l + ((y * D l + k / A l) * gw l + x * A l + k % A l)
section TOG
variable {u v : Nat} {a b : Bool} {P : Nat → Nat → Nat} {F : cF} {L : cL} {K : cs → Prop} {n W H m : Nat} {A D gw ly : Nat → Nat}
theorem oad_app {F G Z : cF} {s c d : Nat} {f g : Nat → Int32} (h1 : oad v F G s c f) (h2 : oad v G Z (s + c) d g) : oad v F Z s (c + d) (fun t => if t < c then f t else g (t - c)) := by
  refine oad_tr (oad_f h1 (fun k hk => if_pos hk)) h2 (fun k hk => ?_)
  show (if c + k < c then f (c + k) else g (c + k - c)) = g k
  rw [if_neg (by omega), show c + k - c = k by omega]
/-- what the walk needs of scan and picture -/
def scI (u v : Nat) (F : cF) (n m : Nat) (A D gw ly : Nat → Nat) : Prop :=
  F v 0 = nI m ∧ m ≤ 3 ∧ (∀ i, i < m → F (v + 1) i = nI (ly i) ∧ ly i < n) ∧ n ≤ 3 ∧ ∀ l, l < n → F (u + 1) l = nI (A l) ∧ F (u + 2) l = nI (D l) ∧ (A l = 1 ∨ A l = 2) ∧ (D l = 1 ∨ D l = 2) ∧ F (u + 5) l = nI (gw l)
theorem scI_o {G : cF} {s c : Nat} {f : Nat → Int32} (hv : isSc v) (hu : isPic u) (h : scI u v F n m A D gw ly) (ho : oad v F G s c f) : scI u v G n m A D gw ly := by
  have fr := far hv hu
  obtain ⟨h0, h1, h2, h3, h4⟩ := h
  refine ⟨(ho.2.1 0 (by decide)).trans h0, h1, fun i hi => ?_, h3, fun l hl => ?_⟩
  · rw [ho.1 (v + 1) (by omega) (by omega)]
    exact h2 i hi
  · rw [ho.1 (u + 1) (by omega) (by omega), ho.1 (u + 2) (by omega) (by omega), ho.1 (u + 5) (by omega) (by omega)]
    exact h4 l hl
theorem scI.pr (h : scI u v F n m A D gw ly) {i : Nat} (hi : i < m) : 1 ≤ A (ly i) * D (ly i) ∧ A (ly i) * D (ly i) ≤ 4 := by
  have q := h.2.2.2.2 (ly i) (h.2.2.1 i hi).2
  rcases q.2.2.1 with e | e <;> rcases q.2.2.2.1 with d | d <;> rw [e, d] <;> decide
theorem q_tog23 {s x y : Nat} {R2 : Nat → Int32 → cs → Prop} {R12 : Nat → Int32 → Int32 → cs → Prop} (hv : isSc v) (hu : isPic u) (hi : scI u v F n m A D gw ly) (h : e_Sc_arrangeTogether_23 UL v u (nI y) (nI x) 0 (F, L, PC a b P) R2 R12 K) (hs : F v 6 = nI s) (hsm : s + offs A D ly m ≤ 192) :
    ∃ Z f, oad v F Z s (offs A D ly m) f ∧ (∀ i, i < m → ∀ k, k < A (ly i) * D (ly i) → f (offs A D ly i + k) = nI (bkv A D gw (ly i) x y k)) ∧ R12 u (nI y) (nI x + 1) (Z, L, PC a b P) := by
  have m3 := hi.2.1
  refine v_e_Sc_arrangeTogether_23 h (fun y4 V => ∃ c G f, y4 = nI c ∧ V = (G, L, PC a b P) ∧ c ≤ m ∧ oad v F G s (offs A D ly c) f ∧ ∀ i, i < c → ∀ k, k < A (ly i) * D (ly i) → f (offs A D ly i + k) = nI (bkv A D gw (ly i) x y k)) ⟨0, F, fun _ => 0, rfl, rfl, Nat.zero_le _, oad_0 hs, fun i hi => absurd hi (Nat.not_lt_zero _)⟩ ?_
  rintro y4 V R ⟨c, G, f, rfl, rfl, hc, ho, hf⟩ hb
  have hg := scI_o hv hu hi ho
  unfold b_Sc_arrangeTogether_23 at hb
  dsimp only at hb
  rw [hg.1] at hb
  by_cases e : c = m
  · right
    subst e
    exact ⟨G, f, ho, hf, hb.1 (Int32.le_refl _)⟩
  · left
    obtain ⟨-, -, -, hb⟩ := hb.2 (nI_ge (by omega) (by omega))
    have g1 := hg.2.2.1 c (by omega)
    have gn := hg.2.2.2.1
    have g2 := hg.2.2.2.2 (ly c) g1.2
    rw [sp1 hv, nI_clamp (show c < 2 ^ 31 by omega), g1.1] at hb
    have ol := offs_le (A := A) (D := D) (ly := ly) (i := c + 1) m (by omega)
    have oe : offs A D ly (c + 1) = offs A D ly c + A (ly c) * D (ly c) := rfl
    have mc := Nat.mul_comm (D (ly c)) (A (ly c))
    obtain ⟨Z, z1, hR⟩ := q_stretch (s := s + offs A D ly c) (l := ly c) (A := A (ly c)) (D := D (ly c)) (gw := gw (ly c)) hv hu (by omega) hb g2.1 g2.2.2.1 g2.2.1 g2.2.2.2.1 g2.2.2.2.2 ho.2.2.1 (by omega)
    rw [mc] at z1
    refine ⟨_, _, hR, c + 1, Z, _, nI_1 c, rfl, by omega, oad_app ho z1, fun i hi2 k hk => ?_⟩
    by_cases e2 : i = c
    · subst e2
      show (if offs A D ly i + k < offs A D ly i then _ else _) = _
      rw [if_neg (by omega), show offs A D ly i + k - offs A D ly i = k by omega]
      rfl
    · have oi := offs_le (A := A) (D := D) (ly := ly) (i := i + 1) c (by omega)
      have oj : offs A D ly (i + 1) = offs A D ly i + A (ly i) * D (ly i) := rfl
      show (if offs A D ly i + k < offs A D ly c then _ else _) = _
      rw [if_pos (by omega)]
      exact hf i (by omega) k hk
theorem q_tog12 {s y sa : Nat} {R2 : Nat → Int32 → cs → Prop} (hv : isSc v) (hu : isPic u) (hi : scI u v F n m A D gw ly) (h : e_Sc_arrangeTogether_12 UL v u (nI y) 0 (F, L, PC a b P) R2 K) (ha : F u 7 = nI sa) (hsa : sa ≤ 8) (hs : F v 6 = nI s) (hsm : s + sa * offs A D ly m ≤ 192) :
    ∃ Z f, oad v F Z s (sa * offs A D ly m) f ∧ (∀ x, x < sa → ∀ i, i < m → ∀ k, k < A (ly i) * D (ly i) → f (x * offs A D ly m + (offs A D ly i + k)) = nI (bkv A D gw (ly i) x y k)) ∧ R2 u (nI y + 1) (Z, L, PC a b P) := by
  have fr := far hv hu
  have hi0 := hi
  refine v_e_Sc_arrangeTogether_12 h (fun y3 V => ∃ c G f, y3 = nI c ∧ V = (G, L, PC a b P) ∧ c ≤ sa ∧ oad v F G s (c * offs A D ly m) f ∧ ∀ x, x < c → ∀ i, i < m → ∀ k, k < A (ly i) * D (ly i) → f (x * offs A D ly m + (offs A D ly i + k)) = nI (bkv A D gw (ly i) x y k)) ⟨0, F, fun _ => 0, rfl, rfl, Nat.zero_le _, by rw [Nat.zero_mul]; exact oad_0 hs, fun i hi => absurd hi (Nat.not_lt_zero _)⟩ ?_
  rintro y3 V R ⟨c, G, f, rfl, rfl, hc, ho, hf⟩ hb
  have hg := scI_o hv hu hi ho
  unfold b_Sc_arrangeTogether_12 at hb
  obtain ⟨-, hb⟩ := hb
  dsimp only at hb
  rw [ho.1 u (by omega) (by omega), ha] at hb
  by_cases e : c = sa
  · right
    subst e
    exact ⟨G, f, ho, hf, hb.1 (Int32.le_refl _)⟩
  · left
    have hb := hb.2 (nI_ge (by omega) (by omega))
    have hm : c * offs A D ly m + offs A D ly m ≤ sa * offs A D ly m := by
      rw [← Nat.succ_mul]
      exact Nat.mul_le_mul_right _ (by omega)
    obtain ⟨Z, g, z1, hg2, hR⟩ := q_tog23 (s := s + c * offs A D ly m) hv hu hg hb ho.2.2.1 (by omega)
    refine ⟨_, _, hR, c + 1, Z, _, nI_1 c, rfl, by omega, by rw [Nat.succ_mul]; exact oad_app ho z1, fun x hx i hi2 k hk => ?_⟩
    have oi := offs_le (A := A) (D := D) (ly := ly) (i := i + 1) m (by omega)
    have oj : offs A D ly (i + 1) = offs A D ly i + A (ly i) * D (ly i) := rfl
    by_cases e2 : x = c
    · subst e2
      show (if x * offs A D ly m + (offs A D ly i + k) < x * offs A D ly m then _ else _) = _
      rw [if_neg (by omega), show x * offs A D ly m + (offs A D ly i + k) - x * offs A D ly m = offs A D ly i + k by omega]
      exact hg2 i hi2 k hk
    · have hx2 : x * offs A D ly m + offs A D ly m ≤ c * offs A D ly m := by
        rw [← Nat.succ_mul]
        exact Nat.mul_le_mul_right _ (by omega)
      show (if x * offs A D ly m + (offs A D ly i + k) < c * offs A D ly m then _ else _) = _
      rw [if_pos (by omega)]
      exact hf x (by omega) i hi2 k hk
theorem q_tog {sa sd : Nat} (hv : isSc v) (hu : isPic u) (hi : scI u v F n m A D gw ly) (h : p_Sc_arrangeTogether UL v u (F, L, PC a b P) K) (ha : F u 7 = nI sa) (h1 : 1 ≤ sa) (hsa : sa ≤ 8) (hd : F u 8 = nI sd) (hsd : sd ≤ 8) (hs : F v 6 = nI 0) (hsm : sd * (sa * offs A D ly m) ≤ 192) :
    ∃ Z f, oad v F Z 0 (sd * (sa * offs A D ly m)) f ∧ (∀ j, j < sd * sa → ∀ i, i < m → ∀ k, k < A (ly i) * D (ly i) → f (j * offs A D ly m + (offs A D ly i + k)) = nI (bkv A D gw (ly i) (j % sa) (j / sa) k)) ∧ K (Z, L, PC a b P) := by
  have fr := far hv hu
  unfold p_Sc_arrangeTogether at h
  refine v_e_Sc_arrangeTogether_2 h (fun y2 V => ∃ c G f, y2 = nI c ∧ V = (G, L, PC a b P) ∧ c ≤ sd ∧ oad v F G 0 (c * (sa * offs A D ly m)) f ∧ ∀ j, j < c * sa → ∀ i, i < m → ∀ k, k < A (ly i) * D (ly i) → f (j * offs A D ly m + (offs A D ly i + k)) = nI (bkv A D gw (ly i) (j % sa) (j / sa) k)) ⟨0, F, fun _ => 0, rfl, rfl, Nat.zero_le _, by rw [Nat.zero_mul]; exact oad_0 hs, fun j hj => by rw [Nat.zero_mul] at hj; exact absurd hj (Nat.not_lt_zero _)⟩ ?_
  rintro y2 V R ⟨c, G, f, rfl, rfl, hc, ho, hf⟩ hb
  have hg := scI_o hv hu hi ho
  unfold b_Sc_arrangeTogether_2 at hb
  obtain ⟨-, hb⟩ := hb
  dsimp only at hb
  rw [ho.1 u (by omega) (by omega), hd] at hb
  by_cases e : c = sd
  · right
    subst e
    exact ⟨G, f, ho, hf, hb.1 (Int32.le_refl _)⟩
  · left
    have hb := hb.2 (nI_ge (by omega) (by omega))
    have hm : c * (sa * offs A D ly m) + sa * offs A D ly m ≤ sd * (sa * offs A D ly m) := by
      rw [← Nat.succ_mul]
      exact Nat.mul_le_mul_right _ (by omega)
    obtain ⟨Z, g, z1, hg2, hR⟩ := q_tog12 (s := c * (sa * offs A D ly m)) (sa := sa) hv hu hg hb (by rw [ho.1 u (by omega) (by omega)]; exact ha) hsa (by have := ho.2.2.1; rw [Nat.zero_add] at this; exact this) (by omega)
    refine ⟨_, _, hR, c + 1, Z, _, nI_1 c, rfl, by omega, by rw [Nat.succ_mul]; exact oad_app ho (by rw [Nat.zero_add]; exact z1), fun j hj i hi2 k hk => ?_⟩
    have oi := offs_le (A := A) (D := D) (ly := ly) (i := i + 1) m (by omega)
    have oj : offs A D ly (i + 1) = offs A D ly i + A (ly i) * D (ly i) := rfl
    rw [Nat.succ_mul] at hj
    by_cases e2 : c * sa ≤ j
    · obtain ⟨x, rfl⟩ : ∃ x, j = c * sa + x := ⟨j - c * sa, by omega⟩
      have e3 : (c * sa + x) * offs A D ly m = c * (sa * offs A D ly m) + x * offs A D ly m := by rw [Nat.add_mul, Nat.mul_assoc]
      have e4 : (c * sa + x) % sa = x := by rw [Nat.mul_comm, Nat.mul_add_mod, Nat.mod_eq_of_lt (by omega)]
      have e5 : (c * sa + x) / sa = c := by rw [Nat.mul_comm, Nat.mul_add_div (by omega), Nat.div_eq_of_lt (by omega), Nat.add_zero]
      rw [e3, e4, e5]
      show (if c * (sa * offs A D ly m) + x * offs A D ly m + (offs A D ly i + k) < c * (sa * offs A D ly m) then _ else _) = _
      rw [if_neg (by omega), show c * (sa * offs A D ly m) + x * offs A D ly m + (offs A D ly i + k) - c * (sa * offs A D ly m) = x * offs A D ly m + (offs A D ly i + k) by omega]
      exact hg2 x (by omega) i hi2 k hk
    · have hx2 : j * offs A D ly m + offs A D ly m ≤ c * (sa * offs A D ly m) := by
        rw [← Nat.succ_mul, ← Nat.mul_assoc]
        exact Nat.mul_le_mul_right _ (by omega)
      show (if j * offs A D ly m + (offs A D ly i + k) < c * (sa * offs A D ly m) then _ else _) = _
      rw [if_pos (by omega)]
      exact hf j (by omega) i hi2 k hk
theorem q_blocksT {K : Int32 → cs → Prop} (hv : isSc v) (hu : isPic u) (hi : scI u v F n m A D gw ly) (h : p_Sc_blocksTogether UL v u (F, L, PC a b P) K) : K (nI (offs A D ly m)) (F, L, PC a b P) := by
  have m3 := hi.2.1
  unfold p_Sc_blocksTogether at h
  refine v_e_Sc_blocksTogether_4 h (fun y2 y3 V => ∃ c, y2 = nI (offs A D ly c) ∧ y3 = nI c ∧ V = (F, L, PC a b P) ∧ c ≤ m) ⟨0, rfl, rfl, rfl, Nat.zero_le _⟩ ?_
  rintro y2 y3 V R ⟨c, rfl, rfl, rfl, hc⟩ hb
  unfold b_Sc_blocksTogether_4 at hb
  dsimp only at hb
  rw [hi.1] at hb
  by_cases e : c = m
  · right
    subst e
    exact hb.1 (Int32.le_refl _)
  · left
    obtain ⟨-, -, -, -, -, -, -, -, -, -, -, -, hR⟩ := hb.2 (nI_ge (by omega) (by omega))
    have g1 := hi.2.2.1 c (by omega)
    have gn := hi.2.2.2.1
    have g2 := hi.2.2.2.2 (ly c) g1.2
    rw [sp1 hv, pp3 hu, pp4 hu, nI_clamp (show c < 2 ^ 31 by omega), g1.1, nI_clamp (show ly c < 2 ^ 31 by omega), g2.1, g2.2.1, pk_mul, nI_add] at hR
    exact ⟨_, _, _, hR, c + 1, rfl, nI_1 c, rfl, by omega⟩
end TOG

/-! WAVES: samples into weights, both sides -/
def s64 (c : Int64) (f : Nat → Int64) : Nat → Int64
  | 0 => c
  | k + 1 => s64 c f k + f k
theorem s64_congr {c : Int64} {f g : Nat → Int64} : ∀ n, (∀ k, k < n → f k = g k) → s64 c f n = s64 c g n
  | 0, _ => rfl
  | n + 1, h => by
    show s64 c f n + f n = s64 c g n + g n
    rw [s64_congr n (fun k hk => h k (by omega)), h n (by omega)]
theorem ul_at {g : Nat → Int64} {i : Nat} {v : Int64} : vp_updL g i v i = v := by
  unfold vp_updL
  rw [if_pos rfl]
theorem ul_ne {g : Nat → Int64} {i j : Nat} {v : Int64} (h : j ≠ i) : vp_updL g i v j = g j := by
  unfold vp_updL
  rw [if_neg h]
theorem n8 {x y : Nat} : ((8 * nI x) + nI y : Int32) = nI (8 * x + y) := by
  rw [show (8 : Int32) = nI 8 from rfl, pk_mul, nI_add]
theorem n8c {x y : Nat} (hx : x ≤ 8) (hy : y ≤ 8) : ((8 * nI x) + nI y : Int32).toNatClampNeg = 8 * x + y := by
  rw [n8, nI_clamp (by omega)]
theorem t_8 {q : Nat} (h : q < 8) : ¬ (8 : Int32) ≤ nI q := nI_ge (b := 8) h (by decide)
/-- halfway, and the weight, out of rows W (waves: 8 x + u), s (samples) and h (halfway) -/
def hfv (W s : Nat → Int32) (y u : Nat) : Int64 := (s64 256 (fun x => (W (8 * x + u)).toInt64 * ((s (8 * y + x) - 128).toInt64)) 8 >>> ((9 : Int32).toInt64 &&& 63 : Int64) : Int64)
def wgv (W : Nat → Int32) (h : Nat → Int64) (v u : Nat) : Int32 := ((s64 65536 (fun y => (W (8 * y + v)).toInt64 * h (8 * y + u)) 8 >>> ((17 : Int32).toInt64 &&& 63 : Int64) : Int64)).toInt32
section TW
variable {S : ms} {K : ms → Prop}
theorem q_tw23 {y u : Nat} {R2 : Int32 → ms → Prop} {R10 : Int32 → Int32 → ms → Prop} (hy : y < 8) (hu : u < 8) (h : e_toWeights_23 (nI y) (nI u) 256 0 S R2 R10 K) : R10 (nI y) (nI u + 1) (S.1, S.2.1, va_up S.2.2 24 (vp_updL (S.2.2 24) (8 * y + u) (hfv (S.2.1 23) (S.2.1 25) y u))) := by
  refine v_e_toWeights_23 h (fun y3 y5 T => ∃ k, y3 = s64 256 (fun x => (S.2.1 23 (8 * x + u)).toInt64 * ((S.2.1 25 (8 * y + x) - 128).toInt64)) k ∧ y5 = nI k ∧ T = S ∧ k ≤ 8) ⟨0, rfl, rfl, rfl, by decide⟩ ?_
  rintro y3 y5 T R ⟨k, rfl, rfl, rfl, hk⟩ hb
  unfold b_toWeights_23 at hb
  by_cases e : k = 8
  · right
    subst e
    obtain ⟨-, hb⟩ := hb.1 (Int32.le_refl _)
    rw [n8c (by omega) (by omega)] at hb
    exact hb
  · left
    obtain ⟨-, -, hR⟩ := hb.2 (t_8 (by omega))
    rw [n8c (by omega) (by omega), n8c (by omega) (by omega)] at hR
    exact ⟨_, _, _, hR, k + 1, rfl, nI_1 k, rfl, by omega⟩
theorem q_tw10 {y : Nat} {R2 : Int32 → ms → Prop} (hy : y < 8) (h : e_toWeights_10 (nI y) 0 S R2 K) : ∃ Z, Z.1 = S.1 ∧ Z.2.1 = S.2.1 ∧ (∀ k, Z.2.2 24 k = if 8 * y ≤ k ∧ k < 8 * y + 8 then hfv (S.2.1 23) (S.2.1 25) y (k - 8 * y) else S.2.2 24 k) ∧ R2 (nI y + 1) Z := by
  refine v_e_toWeights_10 h (fun y2 T => ∃ q, y2 = nI q ∧ q ≤ 8 ∧ T.1 = S.1 ∧ T.2.1 = S.2.1 ∧ ∀ k, T.2.2 24 k = if 8 * y ≤ k ∧ k < 8 * y + q then hfv (S.2.1 23) (S.2.1 25) y (k - 8 * y) else S.2.2 24 k) ⟨0, rfl, by decide, rfl, rfl, fun k => by rw [if_neg (by omega)]⟩ ?_
  rintro y2 T R ⟨q, rfl, hq, a1, a2, hc⟩ hb
  unfold b_toWeights_10 at hb
  by_cases e : q = 8
  · right
    subst e
    exact ⟨T, a1, a2, hc, hb.1 (Int32.le_refl _)⟩
  · left
    have hR := q_tw23 hy (by omega) (hb.2 (t_8 (by omega)))
    refine ⟨_, _, hR, q + 1, nI_1 q, by omega, a1, a2, fun k => ?_⟩
    show va_up T.2.2 24 (vp_updL (T.2.2 24) (8 * y + q) (hfv (T.2.1 23) (T.2.1 25) y q)) 24 k = _
    rw [vu_at, a2]
    by_cases e2 : k = 8 * y + q
    · rw [e2, ul_at, if_pos (by omega), show 8 * y + q - 8 * y = q by omega]
    · rw [ul_ne e2, hc k]
      by_cases e3 : 8 * y ≤ k ∧ k < 8 * y + q
      · rw [if_pos e3, if_pos (by omega)]
      · rw [if_neg e3, if_neg (by omega)]
theorem q_tw120 {v u : Nat} {R99 : Int32 → ms → Prop} {R107 : Int32 → Int32 → ms → Prop} (hv : v < 8) (hu : u < 8) (h : e_toWeights_120 (nI u) (nI v) 65536 0 S R99 R107 K) : R107 (nI u) (nI v + 1) (S.1, va_up S.2.1 25 (upd (S.2.1 25) (8 * v + u) (wgv (S.2.1 23) (S.2.2 24) v u)), S.2.2) := by
  refine v_e_toWeights_120 h (fun y3 y5 T => ∃ k, y3 = s64 65536 (fun y => (S.2.1 23 (8 * y + v)).toInt64 * S.2.2 24 (8 * y + u)) k ∧ y5 = nI k ∧ T = S ∧ k ≤ 8) ⟨0, rfl, rfl, rfl, by decide⟩ ?_
  rintro y3 y5 T R ⟨k, rfl, rfl, rfl, hk⟩ hb
  unfold b_toWeights_120 at hb
  by_cases e : k = 8
  · right
    subst e
    obtain ⟨-, hb⟩ := hb.1 (Int32.le_refl _)
    rw [n8c (by omega) (by omega)] at hb
    exact hb
  · left
    obtain ⟨-, -, hR⟩ := hb.2 (t_8 (by omega))
    rw [n8c (by omega) (by omega), n8c (by omega) (by omega)] at hR
    exact ⟨_, _, _, hR, k + 1, rfl, nI_1 k, rfl, by omega⟩
/-- the rows that a walk by columns has made -/
theorem q_tw107 {u : Nat} {R99 : Int32 → ms → Prop} (hu : u < 8) (h : e_toWeights_107 (nI u) 0 S R99 K) : ∃ Z, ag [] [25] S Z ∧ Z.2.2 = S.2.2 ∧ (∀ k, Z.2.1 25 k = if k % 8 = u ∧ k < 64 then wgv (S.2.1 23) (S.2.2 24) (k / 8) u else S.2.1 25 k) ∧ R99 (nI u + 1) Z := by
  refine v_e_toWeights_107 h (fun y2 T => ∃ q, y2 = nI q ∧ q ≤ 8 ∧ ag [] [25] S T ∧ T.2.2 = S.2.2 ∧ ∀ k, T.2.1 25 k = if k % 8 = u ∧ k < 8 * q then wgv (S.2.1 23) (S.2.2 24) (k / 8) u else S.2.1 25 k) ⟨0, rfl, by decide, ag_refl, rfl, fun k => by rw [if_neg (by omega)]⟩ ?_
  rintro y2 T R ⟨q, rfl, hq, a1, a2, hc⟩ hb
  unfold b_toWeights_107 at hb
  by_cases e : q = 8
  · right
    subst e
    exact ⟨T, a1, a2, hc, hb.1 (Int32.le_refl _)⟩
  · left
    have hR := q_tw120 (by omega) hu (hb.2 (t_8 (by omega)))
    refine ⟨_, _, hR, q + 1, nI_1 q, by omega, ag_r a1 rfl, a2, fun k => ?_⟩
    show va_up T.2.1 25 (upd (T.2.1 25) (8 * q + u) (wgv (T.2.1 23) (T.2.2 24) q u)) 25 k = _
    rw [vu_at, a2, show T.2.1 23 = S.2.1 23 from a1.2 23 rfl]
    by_cases e2 : k = 8 * q + u
    · rw [e2, upd_at, if_pos (by omega), show (8 * q + u) / 8 = q by omega]
    · rw [upd_ne e2, hc k]
      by_cases e3 : k % 8 = u ∧ k < 8 * q
      · rw [if_pos e3, if_pos (by omega)]
      · rw [if_neg e3, if_neg (by omega)]
theorem q_toWeights (h : p_toWeights S K) : ∃ Z, ag [] [25] S Z ∧ (∀ k, k < 64 → Z.2.1 25 k = wgv (S.2.1 23) (fun j => hfv (S.2.1 23) (S.2.1 25) (j / 8) (j % 8)) (k / 8) (k % 8)) ∧ K Z := by
  unfold p_toWeights at h
  have h99 : ∃ Z, Z.1 = S.1 ∧ Z.2.1 = S.2.1 ∧ (∀ k, k < 64 → Z.2.2 24 k = hfv (S.2.1 23) (S.2.1 25) (k / 8) (k % 8)) ∧ e_toWeights_99 0 Z K := by
    refine v_e_toWeights_2 h (fun y1 T => ∃ q, y1 = nI q ∧ q ≤ 8 ∧ T.1 = S.1 ∧ T.2.1 = S.2.1 ∧ ∀ k, k < 8 * q → T.2.2 24 k = hfv (S.2.1 23) (S.2.1 25) (k / 8) (k % 8)) ⟨0, rfl, by decide, rfl, rfl, fun k hk => absurd hk (by omega)⟩ ?_
    rintro y1 T R ⟨q, rfl, hq, a1, a2, hc⟩ hb
    unfold b_toWeights_2 at hb
    by_cases e : q = 8
    · right
      subst e
      exact ⟨T, a1, a2, hc, hb.1 (Int32.le_refl _)⟩
    · left
      obtain ⟨Z, z1, z2, z3, hR⟩ := q_tw10 (by omega) (hb.2 (t_8 (by omega)))
      refine ⟨_, _, hR, q + 1, nI_1 q, by omega, z1.trans a1, z2.trans a2, fun k hk => ?_⟩
      rw [z3 k, a2]
      by_cases e2 : 8 * q ≤ k ∧ k < 8 * q + 8
      · rw [if_pos e2, show k / 8 = q by omega, show k % 8 = k - 8 * q by omega]
      · rw [if_neg e2]
        exact hc k (by omega)
  obtain ⟨Y, y1, y2, y3, h⟩ := h99
  refine v_e_toWeights_99 h (fun x1 T => ∃ q, x1 = nI q ∧ q ≤ 8 ∧ ag [] [25] Y T ∧ T.2.2 = Y.2.2 ∧ ∀ k, k < 64 → k % 8 < q → T.2.1 25 k = wgv (Y.2.1 23) (Y.2.2 24) (k / 8) (k % 8)) ⟨0, rfl, by decide, ag_refl, rfl, fun k _ hk => absurd hk (by omega)⟩ ?_
  rintro x1 T R ⟨q, rfl, hq, a1, a2, hc⟩ hb
  unfold b_toWeights_99 at hb
  by_cases e : q = 8
  · right
    subst e
    refine ⟨T, ⟨fun k hk => (a1.1 k hk).trans (by rw [y1]), fun r hr => (a1.2 r hr).trans (by rw [y2])⟩, fun k hk => ?_, hb.1 (Int32.le_refl _)⟩
    rw [hc k hk (by omega), y2]
    unfold wgv
    rw [s64_congr 8 (fun j hj => ?_)]
    rw [y3 _ (by omega)]
  · left
    obtain ⟨Z, z1, z2, z3, hR⟩ := q_tw107 (by omega) (hb.2 (t_8 (by omega)))
    refine ⟨_, _, hR, q + 1, nI_1 q, by omega, ag_tr a1 z1 rfl rfl, z2.trans a2, fun k hk h8 => ?_⟩
    rw [z3 k, a2, show T.2.1 23 = Y.2.1 23 from a1.2 23 rfl]
    by_cases e2 : k % 8 = q ∧ k < 64
    · rw [if_pos e2, e2.1]
    · rw [if_neg e2]
      exact hc k hk (by omega)
end TW

/-! the class's waves (7: Waves; 8 waves, 9 samples, 10 weights, 11 halfway) -/
def s32 (c : Int32) (f : Nat → Int32) : Nat → Int32
  | 0 => c
  | k + 1 => s32 c f k + f k
/-- the first sums are small: ints and longs say the same -/
theorem s32_64 {f g : Nat → Int32} (hf : ∀ k, k < 8 → B (-4096) 4096 (f k)) (hg : ∀ k, k < 8 → B (-128) 128 (g k)) : ∀ n : Nat, n ≤ 8 → B (256 - 524288 * n) (256 + 524288 * n) (s32 256 (fun k => f k * g k) n) ∧ (s32 256 (fun k => f k * g k) n).toInt64 = s64 256 (fun k => (f k).toInt64 * (g k).toInt64) n
  | 0, _ => ⟨⟨show 256 - 524288 * ((0 : Nat) : Int) ≤ (256 : Int32).toInt by decide, show (256 : Int32).toInt ≤ 256 + 524288 * ((0 : Nat) : Int) by decide⟩, show (256 : Int32).toInt64 = 256 by decide⟩
  | n + 1, h => by
    obtain ⟨h1, h2⟩ := s32_64 hf hg n (by omega)
    have bf := hf n (by omega)
    have bg := hg n (by omega)
    have bm := B_mulS (m := 4096) (n := 128) bf bg (by decide)
    have tm := t_mulS (m := 4096) (n := 128) bf bg (by decide)
    have p1 := h1.1
    have p2 := h1.2
    have p3 := bm.1
    have p4 := bm.2
    have e1 : (s32 256 (fun k => f k * g k) n + f n * g n).toInt = (s32 256 (fun k => f k * g k) n).toInt + (f n * g n).toInt := t_add (a := 256 - 524288 * 8) (b := 256 + 524288 * 8) ⟨by omega, by omega⟩ bm (by decide) (by decide)
    refine ⟨⟨?_, ?_⟩, ?_⟩
    · show _ ≤ (s32 256 (fun k => f k * g k) n + f n * g n).toInt
      omega
    · show (s32 256 (fun k => f k * g k) n + f n * g n).toInt ≤ _
      omega
    · show (s32 256 (fun k => f k * g k) n + f n * g n).toInt64 = s64 256 (fun k => (f k).toInt64 * (g k).toInt64) n + (f n).toInt64 * (g n).toInt64
      rw [← h2]
      apply Int64.toInt_inj.mp
      have lm := (l_mul (m := 4096) (n := 128) (l_of bf) (l_of bg) (by decide)).1
      rw [Int32.toInt_toInt64, Int32.toInt_toInt64] at lm
      rw [Int32.toInt_toInt64, e1, l_add (by rw [lm, Int32.toInt_toInt64, ← tm]; omega) (by rw [lm, Int32.toInt_toInt64, ← tm]; omega), lm, Int32.toInt_toInt64, ← tm]
theorem shr9 {x : Int32} : ((x >>> (9 &&& 31 : Int32) : Int32)).toInt64 = (x.toInt64 >>> ((9 : Int32).toInt64 &&& 63 : Int64) : Int64) := by
  apply Int64.toInt_inj.mp
  rw [Int32.toInt_toInt64, t_shr (k := 9) (by decide), l_shr (k := 9) (by decide), Int32.toInt_toInt64]
section CTW
variable {F : cF} {L : cL} {a b : Bool} {P : Nat → Nat → Nat} {K : cs → Prop}
theorem q_cw23 {y u : Nat} {R2 : Int32 → cs → Prop} {R10 : Int32 → Int32 → cs → Prop} (hy : y < 8) (hu : u < 8) (h : e_Wa_makeWeights_23 UL 7 (nI y) (nI u) 256 0 (F, L, PC a b P) R2 R10 K) : R10 (nI y) (nI u + 1) (F, va_up L 11 (vp_updL (L 11) (8 * y + u) ((s32 256 (fun x => F 8 (8 * u + x) * (F 9 (8 * y + x) - 128)) 8 >>> (9 &&& 31 : Int32) : Int32)).toInt64), PC a b P) := by
  refine v_e_Wa_makeWeights_23 h (fun y3 y4 T => ∃ k, y3 = s32 256 (fun x => F 8 (8 * u + x) * (F 9 (8 * y + x) - 128)) k ∧ y4 = nI k ∧ T = (F, L, PC a b P) ∧ k ≤ 8) ⟨0, rfl, rfl, rfl, by decide⟩ ?_
  rintro y3 y4 T R ⟨k, rfl, rfl, rfl, hk⟩ hb
  unfold b_Wa_makeWeights_23 at hb
  by_cases e : k = 8
  · right
    subst e
    obtain ⟨-, -, -, hb⟩ := hb.1 (Int32.le_refl _)
    rw [n8c (by omega) (by omega)] at hb
    exact hb
  · left
    obtain ⟨-, -, -, -, -, -, hR⟩ := hb.2 (t_8 (by omega))
    rw [n8c (by omega) (by omega), n8c (by omega) (by omega)] at hR
    exact ⟨_, _, _, hR, k + 1, rfl, nI_1 k, rfl, by omega⟩
theorem q_cw10 {y : Nat} {R2 : Int32 → cs → Prop} (hy : y < 8) (hW : ∀ k, B (-4096) 4096 (F 8 k)) (hS : ∀ k, k < 64 → B 0 255 (F 9 k)) (h : e_Wa_makeWeights_10 UL 7 (nI y) 0 (F, L, PC a b P) R2 K) :
    ∃ L', (∀ k, L' 11 k = if 8 * y ≤ k ∧ k < 8 * y + 8 then hfv (fun j => F 8 (8 * (j % 8) + j / 8)) (F 9) y (k - 8 * y) else L 11 k) ∧ R2 (nI y + 1) (F, L', PC a b P) := by
  refine v_e_Wa_makeWeights_10 h (fun y2 T => ∃ q L', y2 = nI q ∧ q ≤ 8 ∧ T = (F, L', PC a b P) ∧ ∀ k, L' 11 k = if 8 * y ≤ k ∧ k < 8 * y + q then hfv (fun j => F 8 (8 * (j % 8) + j / 8)) (F 9) y (k - 8 * y) else L 11 k) ⟨0, L, rfl, by decide, rfl, fun k => by rw [if_neg (by omega)]⟩ ?_
  rintro y2 T R ⟨q, L', rfl, hq, rfl, hc⟩ hb
  unfold b_Wa_makeWeights_10 at hb
  by_cases e : q = 8
  · right
    subst e
    exact ⟨L', hc, hb.1 (Int32.le_refl _)⟩
  · left
    have hR := q_cw23 hy (by omega) (hb.2 (t_8 (by omega)))
    refine ⟨_, _, hR, q + 1, _, nI_1 q, by omega, rfl, fun k => ?_⟩
    rw [vu_at]
    by_cases e2 : k = 8 * y + q
    · rw [e2, ul_at, if_pos (by omega), show 8 * y + q - 8 * y = q by omega, shr9]
      have := (s32_64 (f := fun x => F 8 (8 * q + x)) (g := fun x => F 9 (8 * y + x) - 128) (fun k _ => hW _) (fun k hk => by
        have h1 := (hS (8 * y + k) (by omega))
        exact B_w (B_sub (c := 128) (d := 128) h1 ⟨by decide, by decide⟩ (by decide) (by decide)) (by decide) (by decide)) 8 (by decide)).2
      rw [this]
      unfold hfv
      rw [s64_congr 8 (fun x hx => ?_)]
      show _ = (F 8 (8 * ((8 * x + q) % 8) + (8 * x + q) / 8)).toInt64 * _
      rw [show (8 * x + q) % 8 = q by omega, show (8 * x + q) / 8 = x by omega]
    · rw [ul_ne e2, hc k]
      by_cases e3 : 8 * y ≤ k ∧ k < 8 * y + q
      · rw [if_pos e3, if_pos (by omega)]
      · rw [if_neg e3, if_neg (by omega)]
theorem q_cw119 {v u : Nat} {R98 : Int32 → cs → Prop} {R106 : Int32 → Int32 → cs → Prop} (hv : v < 8) (hu : u < 8) (h : e_Wa_makeWeights_119 UL 7 (nI v) (nI u) 65536 0 (F, L, PC a b P) R98 R106 K) : R106 (nI v) (nI u + 1) (va_up F 10 (upd (F 10) (8 * v + u) (wgv (fun j => F 8 (8 * (j % 8) + j / 8)) (L 11) v u)), L, PC a b P) := by
  refine v_e_Wa_makeWeights_119 h (fun y3 y5 T => ∃ k, y3 = s64 65536 (fun y => (F 8 (8 * v + y)).toInt64 * L 11 (8 * y + u)) k ∧ y5 = nI k ∧ T = (F, L, PC a b P) ∧ k ≤ 8) ⟨0, rfl, rfl, rfl, by decide⟩ ?_
  rintro y3 y5 T R ⟨k, rfl, rfl, rfl, hk⟩ hb
  unfold b_Wa_makeWeights_119 at hb
  by_cases e : k = 8
  · right
    subst e
    obtain ⟨-, -, -, hb⟩ := hb.1 (Int32.le_refl _)
    rw [n8c (by omega) (by omega)] at hb
    have q : wgv (fun j => F 8 (8 * (j % 8) + j / 8)) (L 11) v u = ((s64 65536 (fun y => (F 8 (8 * v + y)).toInt64 * L 11 (8 * y + u)) 8 >>> ((17 : Int32).toInt64 &&& 63 : Int64) : Int64)).toInt32 := by
      unfold wgv
      rw [s64_congr 8 (fun y hy => ?_)]
      show (F 8 (8 * ((8 * y + v) % 8) + (8 * y + v) / 8)).toInt64 * _ = _
      rw [show (8 * y + v) % 8 = v by omega, show (8 * y + v) / 8 = y by omega]
    rw [q]
    exact hb
  · left
    obtain ⟨-, -, -, -, -, -, hR⟩ := hb.2 (t_8 (by omega))
    rw [n8c (by omega) (by omega), n8c (by omega) (by omega)] at hR
    exact ⟨_, _, _, hR, k + 1, rfl, nI_1 k, rfl, by omega⟩
theorem q_cw106 {v : Nat} {R98 : Int32 → cs → Prop} (hv : v < 8) (h : e_Wa_makeWeights_106 UL 7 (nI v) 0 (F, L, PC a b P) R98 K) : ∃ Z, agc [] [10] F Z ∧ (∀ k, Z 10 k = if 8 * v ≤ k ∧ k < 8 * v + 8 then wgv (fun j => F 8 (8 * (j % 8) + j / 8)) (L 11) v (k - 8 * v) else F 10 k) ∧ R98 (nI v + 1) (Z, L, PC a b P) := by
  refine v_e_Wa_makeWeights_106 h (fun y2 T => ∃ q G, y2 = nI q ∧ q ≤ 8 ∧ T = (G, L, PC a b P) ∧ agc [] [10] F G ∧ ∀ k, G 10 k = if 8 * v ≤ k ∧ k < 8 * v + q then wgv (fun j => F 8 (8 * (j % 8) + j / 8)) (L 11) v (k - 8 * v) else F 10 k) ⟨0, F, rfl, by decide, rfl, agc_refl, fun k => by rw [if_neg (by omega)]⟩ ?_
  rintro y2 T R ⟨q, G, rfl, hq, rfl, ha, hc⟩ hb
  unfold b_Wa_makeWeights_106 at hb
  by_cases e : q = 8
  · right
    subst e
    exact ⟨G, ha, hc, hb.1 (Int32.le_refl _)⟩
  · left
    have hR := q_cw119 hv (by omega) (hb.2 (t_8 (by omega)))
    refine ⟨_, _, hR, q + 1, _, nI_1 q, by omega, rfl, agc_r ha rfl rfl, fun k => ?_⟩
    rw [vu_at, show G 8 = F 8 from ha.2 8 rfl rfl]
    by_cases e2 : k = 8 * v + q
    · rw [e2, upd_at, if_pos (by omega), show 8 * v + q - 8 * v = q by omega]
    · rw [upd_ne e2, hc k]
      by_cases e3 : 8 * v ≤ k ∧ k < 8 * v + q
      · rw [if_pos e3, if_pos (by omega)]
      · rw [if_neg e3, if_neg (by omega)]
theorem q_makeWeights (hW : ∀ k, B (-4096) 4096 (F 8 k)) (hS : ∀ k, k < 64 → B 0 255 (F 9 k)) (h : p_Wa_makeWeights UL 7 (F, L, PC a b P) K) :
    ∃ Z L', agc [] [10] F Z ∧ (∀ k, k < 64 → Z 10 k = wgv (fun j => F 8 (8 * (j % 8) + j / 8)) (fun j => hfv (fun j => F 8 (8 * (j % 8) + j / 8)) (F 9) (j / 8) (j % 8)) (k / 8) (k % 8)) ∧ K (Z, L', PC a b P) := by
  unfold p_Wa_makeWeights at h
  have h98 : ∃ L', (∀ k, k < 64 → L' 11 k = hfv (fun j => F 8 (8 * (j % 8) + j / 8)) (F 9) (k / 8) (k % 8)) ∧ e_Wa_makeWeights_98 UL 7 0 (F, L', PC a b P) K := by
    refine v_e_Wa_makeWeights_2 h (fun y1 T => ∃ q L', y1 = nI q ∧ q ≤ 8 ∧ T = (F, L', PC a b P) ∧ ∀ k, k < 8 * q → L' 11 k = hfv (fun j => F 8 (8 * (j % 8) + j / 8)) (F 9) (k / 8) (k % 8)) ⟨0, L, rfl, by decide, rfl, fun k hk => absurd hk (by omega)⟩ ?_
    rintro y1 T R ⟨q, L', rfl, hq, rfl, hc⟩ hb
    unfold b_Wa_makeWeights_2 at hb
    by_cases e : q = 8
    · right
      subst e
      exact ⟨L', hc, hb.1 (Int32.le_refl _)⟩
    · left
      obtain ⟨L2, z3, hR⟩ := q_cw10 (by omega) hW hS (hb.2 (t_8 (by omega)))
      refine ⟨_, _, hR, q + 1, L2, nI_1 q, by omega, rfl, fun k hk => ?_⟩
      rw [z3 k]
      by_cases e2 : 8 * q ≤ k ∧ k < 8 * q + 8
      · rw [if_pos e2, show k / 8 = q by omega, show k % 8 = k - 8 * q by omega]
      · rw [if_neg e2]
        exact hc k (by omega)
  obtain ⟨L', y3, h⟩ := h98
  refine v_e_Wa_makeWeights_98 h (fun x1 T => ∃ q G, x1 = nI q ∧ q ≤ 8 ∧ T = (G, L', PC a b P) ∧ agc [] [10] F G ∧ ∀ k, k < 8 * q → G 10 k = wgv (fun j => F 8 (8 * (j % 8) + j / 8)) (L' 11) (k / 8) (k % 8)) ⟨0, F, rfl, by decide, rfl, agc_refl, fun k hk => absurd hk (by omega)⟩ ?_
  rintro x1 T R ⟨q, G, rfl, hq, rfl, ha, hc⟩ hb
  unfold b_Wa_makeWeights_98 at hb
  by_cases e : q = 8
  · right
    subst e
    refine ⟨G, L', ha, fun k hk => ?_, hb.1 (Int32.le_refl _)⟩
    rw [hc k (by omega)]
    unfold wgv
    rw [s64_congr 8 (fun j hj => ?_)]
    rw [y3 _ (by omega)]
  · left
    obtain ⟨Z, z1, z3, hR⟩ := q_cw106 (by omega) (hb.2 (t_8 (by omega)))
    refine ⟨_, _, hR, q + 1, Z, nI_1 q, by omega, rfl, agc_tr ha z1 rfl rfl, fun k hk => ?_⟩
    rw [z3 k, show G 8 = F 8 from ha.2 8 rfl rfl]
    by_cases e2 : 8 * q ≤ k ∧ k < 8 * q + 8
    · rw [if_pos e2, show k / 8 = q by omega, show k % 8 = k - 8 * q by omega]
    · rw [if_neg e2]
      exact hc k (by omega)
end CTW

/-! WAVES: weights into samples, the reference -/
def hrv (W w : Nat → Int32) (v x : Nat) : Int64 := (s64 256 (fun u => (W (8 * x + u)).toInt64 * (w (8 * v + u)).toInt64) 8 >>> ((9 : Int32).toInt64 &&& 63 : Int64) : Int64)
def clL (s : Int64) : Int32 := if 0 ≤ lg_cmp s 0 then (if lg_cmp s 255 ≤ 0 then s.toInt32 else 255) else 0
def smv (W : Nat → Int32) (h : Nat → Int64) (y x : Nat) : Int32 := clL (128 + (s64 65536 (fun v => (W (8 * y + v)).toInt64 * h (8 * v + x)) 8 >>> ((17 : Int32).toInt64 &&& 63 : Int64) : Int64))
section TS
variable {S : ms} {K : ms → Prop}
theorem q_ts23 {v x : Nat} {R2 : Int32 → ms → Prop} {R10 : Int32 → Int32 → ms → Prop} (hv : v < 8) (hx : x < 8) (h : e_toSamples_23 (nI v) (nI x) 256 0 S R2 R10 K) : R10 (nI v) (nI x + 1) (S.1, S.2.1, va_up S.2.2 24 (vp_updL (S.2.2 24) (8 * v + x) (hrv (S.2.1 23) (S.2.1 25) v x))) := by
  refine v_e_toSamples_23 h (fun y3 y5 T => ∃ k, y3 = s64 256 (fun u => (S.2.1 23 (8 * x + u)).toInt64 * (S.2.1 25 (8 * v + u)).toInt64) k ∧ y5 = nI k ∧ T = S ∧ k ≤ 8) ⟨0, rfl, rfl, rfl, by decide⟩ ?_
  rintro y3 y5 T R ⟨k, rfl, rfl, rfl, hk⟩ hb
  unfold b_toSamples_23 at hb
  by_cases e : k = 8
  · right
    subst e
    obtain ⟨-, hb⟩ := hb.1 (Int32.le_refl _)
    rw [n8c (by omega) (by omega)] at hb
    exact hb
  · left
    obtain ⟨-, -, hR⟩ := hb.2 (t_8 (by omega))
    rw [n8c (by omega) (by omega), n8c (by omega) (by omega)] at hR
    exact ⟨_, _, _, hR, k + 1, rfl, nI_1 k, rfl, by omega⟩
theorem q_ts10 {v : Nat} {R2 : Int32 → ms → Prop} (hv : v < 8) (h : e_toSamples_10 (nI v) 0 S R2 K) : ∃ Z, Z.1 = S.1 ∧ Z.2.1 = S.2.1 ∧ (∀ k, Z.2.2 24 k = if 8 * v ≤ k ∧ k < 8 * v + 8 then hrv (S.2.1 23) (S.2.1 25) v (k - 8 * v) else S.2.2 24 k) ∧ R2 (nI v + 1) Z := by
  refine v_e_toSamples_10 h (fun y2 T => ∃ q, y2 = nI q ∧ q ≤ 8 ∧ T.1 = S.1 ∧ T.2.1 = S.2.1 ∧ ∀ k, T.2.2 24 k = if 8 * v ≤ k ∧ k < 8 * v + q then hrv (S.2.1 23) (S.2.1 25) v (k - 8 * v) else S.2.2 24 k) ⟨0, rfl, by decide, rfl, rfl, fun k => by rw [if_neg (by omega)]⟩ ?_
  rintro y2 T R ⟨q, rfl, hq, a1, a2, hc⟩ hb
  unfold b_toSamples_10 at hb
  by_cases e : q = 8
  · right
    subst e
    exact ⟨T, a1, a2, hc, hb.1 (Int32.le_refl _)⟩
  · left
    have hR := q_ts23 hv (by omega) (hb.2 (t_8 (by omega)))
    refine ⟨_, _, hR, q + 1, nI_1 q, by omega, a1, a2, fun k => ?_⟩
    show va_up T.2.2 24 (vp_updL (T.2.2 24) (8 * v + q) (hrv (T.2.1 23) (T.2.1 25) v q)) 24 k = _
    rw [vu_at, a2]
    by_cases e2 : k = 8 * v + q
    · rw [e2, ul_at, if_pos (by omega), show 8 * v + q - 8 * v = q by omega]
    · rw [ul_ne e2, hc k]
      by_cases e3 : 8 * v ≤ k ∧ k < 8 * v + q
      · rw [if_pos e3, if_pos (by omega)]
      · rw [if_neg e3, if_neg (by omega)]
theorem q_ts116 {y x : Nat} {R95 : Int32 → ms → Prop} {R103 : Int32 → Int32 → ms → Prop} (hy : y < 8) (hx : x < 8) (h : e_toSamples_116 (nI y) (nI x) 65536 0 S R95 R103 K) : R103 (nI y) (nI x + 1) (S.1, va_up S.2.1 25 (upd (S.2.1 25) (8 * y + x) (smv (S.2.1 23) (S.2.2 24) y x)), S.2.2) := by
  refine v_e_toSamples_116 h (fun y3 y5 T => ∃ k, y3 = s64 65536 (fun v => (S.2.1 23 (8 * y + v)).toInt64 * S.2.2 24 (8 * v + x)) k ∧ y5 = nI k ∧ T = S ∧ k ≤ 8) ⟨0, rfl, rfl, rfl, by decide⟩ ?_
  rintro y3 y5 T R ⟨k, rfl, rfl, rfl, hk⟩ hb
  unfold b_toSamples_116 at hb
  by_cases e : k = 8
  · right
    subst e
    have hb := hb.1 (Int32.le_refl _)
    have fin : ∀ w : Int32, b_toSamples_203 (nI y) (nI x) ((8 * nI y) + nI x) w T R95 R103 K → R103 (nI y) (nI x + 1) (T.1, va_up T.2.1 25 (upd (T.2.1 25) (8 * y + x) w), T.2.2) := by
      intro w hw
      unfold b_toSamples_203 at hw
      have hw := hw.2
      rw [n8c (by omega) (by omega)] at hw
      exact hw
    unfold smv clL
    by_cases c : 0 ≤ lg_cmp (128 + (s64 65536 (fun v => (T.2.1 23 (8 * y + v)).toInt64 * T.2.2 24 (8 * v + x)) 8 >>> ((17 : Int32).toInt64 &&& 63 : Int64) : Int64)) 0
    · rw [if_pos c]
      have hb := hb.1 c
      by_cases d : lg_cmp (128 + (s64 65536 (fun v => (T.2.1 23 (8 * y + v)).toInt64 * T.2.2 24 (8 * v + x)) 8 >>> ((17 : Int32).toInt64 &&& 63 : Int64) : Int64)) 255 ≤ 0
      · rw [if_pos d]
        exact fin _ (hb.1 d)
      · rw [if_neg d]
        exact fin _ (hb.2 d)
    · rw [if_neg c]
      exact fin _ (hb.2 c)
  · left
    obtain ⟨-, -, hR⟩ := hb.2 (t_8 (by omega))
    rw [n8c (by omega) (by omega), n8c (by omega) (by omega)] at hR
    exact ⟨_, _, _, hR, k + 1, rfl, nI_1 k, rfl, by omega⟩
theorem q_ts103 {y : Nat} {R95 : Int32 → ms → Prop} (hy : y < 8) (h : e_toSamples_103 (nI y) 0 S R95 K) : ∃ Z, ag [] [25] S Z ∧ Z.2.2 = S.2.2 ∧ (∀ k, Z.2.1 25 k = if 8 * y ≤ k ∧ k < 8 * y + 8 then smv (S.2.1 23) (S.2.2 24) y (k - 8 * y) else S.2.1 25 k) ∧ R95 (nI y + 1) Z := by
  refine v_e_toSamples_103 h (fun y2 T => ∃ q, y2 = nI q ∧ q ≤ 8 ∧ ag [] [25] S T ∧ T.2.2 = S.2.2 ∧ ∀ k, T.2.1 25 k = if 8 * y ≤ k ∧ k < 8 * y + q then smv (S.2.1 23) (S.2.2 24) y (k - 8 * y) else S.2.1 25 k) ⟨0, rfl, by decide, ag_refl, rfl, fun k => by rw [if_neg (by omega)]⟩ ?_
  rintro y2 T R ⟨q, rfl, hq, a1, a2, hc⟩ hb
  unfold b_toSamples_103 at hb
  by_cases e : q = 8
  · right
    subst e
    exact ⟨T, a1, a2, hc, hb.1 (Int32.le_refl _)⟩
  · left
    have hR := q_ts116 hy (by omega) (hb.2 (t_8 (by omega)))
    refine ⟨_, _, hR, q + 1, nI_1 q, by omega, ag_r a1 rfl, a2, fun k => ?_⟩
    show va_up T.2.1 25 (upd (T.2.1 25) (8 * y + q) (smv (T.2.1 23) (T.2.2 24) y q)) 25 k = _
    rw [vu_at, a2, show T.2.1 23 = S.2.1 23 from a1.2 23 rfl]
    by_cases e2 : k = 8 * y + q
    · rw [e2, upd_at, if_pos (by omega), show 8 * y + q - 8 * y = q by omega]
    · rw [upd_ne e2, hc k]
      by_cases e3 : 8 * y ≤ k ∧ k < 8 * y + q
      · rw [if_pos e3, if_pos (by omega)]
      · rw [if_neg e3, if_neg (by omega)]
theorem q_toSamples (h : p_toSamples S K) : ∃ Z, ag [] [25] S Z ∧ (∀ k, k < 64 → Z.2.1 25 k = smv (S.2.1 23) (fun j => hrv (S.2.1 23) (S.2.1 25) (j / 8) (j % 8)) (k / 8) (k % 8)) ∧ K Z := by
  unfold p_toSamples at h
  have h95 : ∃ Z, Z.1 = S.1 ∧ Z.2.1 = S.2.1 ∧ (∀ k, k < 64 → Z.2.2 24 k = hrv (S.2.1 23) (S.2.1 25) (k / 8) (k % 8)) ∧ e_toSamples_95 0 Z K := by
    refine v_e_toSamples_2 h (fun y1 T => ∃ q, y1 = nI q ∧ q ≤ 8 ∧ T.1 = S.1 ∧ T.2.1 = S.2.1 ∧ ∀ k, k < 8 * q → T.2.2 24 k = hrv (S.2.1 23) (S.2.1 25) (k / 8) (k % 8)) ⟨0, rfl, by decide, rfl, rfl, fun k hk => absurd hk (by omega)⟩ ?_
    rintro y1 T R ⟨q, rfl, hq, a1, a2, hc⟩ hb
    unfold b_toSamples_2 at hb
    by_cases e : q = 8
    · right
      subst e
      exact ⟨T, a1, a2, hc, hb.1 (Int32.le_refl _)⟩
    · left
      obtain ⟨Z, z1, z2, z3, hR⟩ := q_ts10 (by omega) (hb.2 (t_8 (by omega)))
      refine ⟨_, _, hR, q + 1, nI_1 q, by omega, z1.trans a1, z2.trans a2, fun k hk => ?_⟩
      rw [z3 k, a2]
      by_cases e2 : 8 * q ≤ k ∧ k < 8 * q + 8
      · rw [if_pos e2, show k / 8 = q by omega, show k % 8 = k - 8 * q by omega]
      · rw [if_neg e2]
        exact hc k (by omega)
  obtain ⟨Y, y1, y2, y3, h⟩ := h95
  refine v_e_toSamples_95 h (fun x1 T => ∃ q, x1 = nI q ∧ q ≤ 8 ∧ ag [] [25] Y T ∧ T.2.2 = Y.2.2 ∧ ∀ k, k < 8 * q → T.2.1 25 k = smv (Y.2.1 23) (Y.2.2 24) (k / 8) (k % 8)) ⟨0, rfl, by decide, ag_refl, rfl, fun k hk => absurd hk (by omega)⟩ ?_
  rintro x1 T R ⟨q, rfl, hq, a1, a2, hc⟩ hb
  unfold b_toSamples_95 at hb
  by_cases e : q = 8
  · right
    subst e
    refine ⟨T, ⟨fun k hk => (a1.1 k hk).trans (by rw [y1]), fun r hr => (a1.2 r hr).trans (by rw [y2])⟩, fun k hk => ?_, hb.1 (Int32.le_refl _)⟩
    rw [hc k (by omega), y2]
    unfold smv
    rw [s64_congr 8 (fun j hj => ?_)]
    rw [y3 _ (by omega)]
  · left
    obtain ⟨Z, z1, z2, z3, hR⟩ := q_ts103 (by omega) (hb.2 (t_8 (by omega)))
    refine ⟨_, _, hR, q + 1, nI_1 q, by omega, ag_tr a1 z1 rfl rfl, z2.trans a2, fun k hk => ?_⟩
    rw [z3 k, a2, show T.2.1 23 = Y.2.1 23 from a1.2 23 rfl]
    by_cases e2 : 8 * q ≤ k ∧ k < 8 * q + 8
    · rw [if_pos e2, show k / 8 = q by omega, show k % 8 = k - 8 * q by omega]
    · rw [if_neg e2]
      exact hc k (by omega)
end TS

/-! WAVES: weights into samples, the class -/
theorem lg_ge {x y : Int64} : 0 ≤ lg_cmp x y ↔ y.toInt ≤ x.toInt := by
  unfold lg_cmp
  constructor
  · intro h
    split at h
    · next g => have := Int64.lt_iff_toInt_lt.mp g; omega
    · split at h
      · next g => rw [g]; exact Int.le_refl _
      · exact absurd h (by decide)
  · intro h
    split
    · decide
    · next g =>
      split
      · decide
      · next g2 =>
        have h1 : ¬ y.toInt < x.toInt := fun q => g (Int64.lt_iff_toInt_lt.mpr q)
        exact absurd (Int64.toInt_inj.mp (by omega)) g2
theorem lg_le {x y : Int64} : lg_cmp x y ≤ 0 ↔ x.toInt ≤ y.toInt := by
  unfold lg_cmp
  constructor
  · intro h
    split at h
    · exact absurd h (by decide)
    · next g =>
      have h1 : ¬ y.toInt < x.toInt := fun q => g (Int64.lt_iff_toInt_lt.mpr q)
      omega
  · intro h
    split
    · next g => have := Int64.lt_iff_toInt_lt.mp g; omega
    · split
      · decide
      · decide
def clI (e : Int32) : Int32 := if 0 ≤ e then (if e ≤ 255 then e else 255) else 0
theorem q_clamp0 {e : Int32} {K : Int32 → Prop} (h : p_B_clamp e 0 255 K) : K (clI e) := by
  unfold p_B_clamp b_B_clamp_19 at h
  unfold clI
  by_cases c : 0 ≤ e
  · rw [if_pos c]
    have h := h.1 c
    by_cases d : e ≤ 255
    · rw [if_pos d]
      exact h.1 d
    · rw [if_neg d]
      exact h.2 d
  · rw [if_neg c]
    exact h.2 c
theorem clL_I {t : Int64} (h : BL (-1000000000) 1000000000 t) : clL (128 + t) = clI (128 + t.toInt32) := by
  have h1 := h.1
  have h2 := h.2
  have z : (128 : Int64).toInt = 128 := by decide
  have z0 : (0 : Int64).toInt = 0 := by decide
  have z1 : (255 : Int64).toInt = 255 := by decide
  have w0 : (0 : Int32).toInt = 0 := by decide
  have w1 : (255 : Int32).toInt = 255 := by decide
  have e1 : (128 + t).toInt = 128 + t.toInt := by rw [l_add (by omega) (by omega), z]
  have b3 := l_i32 h (by decide) (by decide)
  have e3 : t.toInt32.toInt = t.toInt := by
    rw [Int64.toInt_toInt32]
    exact bm_id (by omega) (by omega)
  have e2 : (128 + t.toInt32).toInt = 128 + t.toInt := by
    rw [t_add (a := 128) (b := 128) ⟨by decide, by decide⟩ b3 (by decide) (by decide), e3]
    rfl
  unfold clL clI
  by_cases c : 0 ≤ 128 + t.toInt
  · rw [if_pos (show 0 ≤ lg_cmp (128 + t) 0 from lg_ge.mpr (by omega)), if_pos (show (0 : Int32) ≤ 128 + t.toInt32 from Int32.le_iff_toInt_le.mpr (by omega))]
    by_cases d : 128 + t.toInt ≤ 255
    · rw [if_pos (show lg_cmp (128 + t) 255 ≤ 0 from lg_le.mpr (by omega)), if_pos (show (128 + t.toInt32 : Int32) ≤ 255 from Int32.le_iff_toInt_le.mpr (by omega))]
      apply Int32.toInt.inj
      rw [e2, Int64.toInt_toInt32, e1]
      exact bm_id (by omega) (by omega)
    · rw [if_neg (show ¬ lg_cmp (128 + t) 255 ≤ 0 from fun q => by have := lg_le.mp q; omega), if_neg (show ¬ (128 + t.toInt32 : Int32) ≤ 255 from fun q => by have := i_le q; omega)]
  · rw [if_neg (show ¬ 0 ≤ lg_cmp (128 + t) 0 from fun q => by have := lg_ge.mp q; omega), if_neg (show ¬ (0 : Int32) ≤ 128 + t.toInt32 from fun q => by have := i_le q; omega)]
/-- how great such sums may be -/
theorem s64_B {c : Int64} {f : Nat → Int64} {e m : Int} (hc : BL (-e) e c) (hf : ∀ k, k < 8 → BL (-m) m (f k)) (hm : e + 8 * m ≤ 9223372036854775807) (h0 : 0 ≤ m) : ∀ n : Nat, n ≤ 8 → BL (-(e + n * m)) (e + n * m) (s64 c f n)
  | 0, _ => by
    rw [show ((0 : Nat) : Int) * m = 0 from Int.zero_mul m, Int.add_zero]
    exact hc
  | n + 1, h => by
    have h1 := s64_B hc hf hm h0 n (by omega)
    have h2 := hf n (by omega)
    have p1 := h1.1
    have p2 := h1.2
    have p3 := h2.1
    have p4 := h2.2
    have p5 : (n : Int) * m ≤ 7 * m := Int.mul_le_mul_of_nonneg_right (by omega) h0
    have p6 : ((n + 1 : Nat) : Int) * m = (n : Int) * m + m := by rw [Int.natCast_add, Int.add_mul]; simp
    have e1 : (s64 c f n + f n).toInt = (s64 c f n).toInt + (f n).toInt := l_add (by omega) (by omega)
    constructor
    · show _ ≤ (s64 c f n + f n).toInt
      omega
    · show (s64 c f n + f n).toInt ≤ _
      omega
theorem hrv_B {W w : Nat → Int32} {v x : Nat} (hW : ∀ k, B (-4096) 4096 (W k)) (hw : ∀ k, k < 64 → B (-1048576) 1048576 (w k)) (hv : v < 8) : BL (-70000000) 70000000 (hrv W w v x) := by
  have h := s64_B (c := 256) (f := fun u => (W (8 * x + u)).toInt64 * (w (8 * v + u)).toInt64) (e := 256) (m := 4294967296) ⟨by decide, by decide⟩ (fun k hk => (l_mul (m := 4096) (n := 1048576) (l_of (hW _)) (l_of (hw _ (by omega))) (by decide)).2) (by decide) (by decide) 8 (by decide)
  have h1 := h.1
  have h2 := h.2
  unfold hrv BL
  rw [l_shr (k := 9) (by decide)]
  omega
theorem hrv_0 {W w : Nat → Int32} {v x : Nat} (h : ∀ u, u < 8 → w (8 * v + u) = 0) : hrv W w v x = 0 := by
  have e : s64 256 (fun u => (W (8 * x + u)).toInt64 * (w (8 * v + u)).toInt64) 8 = s64 256 (fun _ => 0) 8 := s64_congr 8 (fun u hu => by
    show (W (8 * x + u)).toInt64 * (w (8 * v + u)).toInt64 = 0
    rw [h u hu, show (0 : Int32).toInt64 = 0 by decide, Int64.mul_zero])
  unfold hrv
  rw [e]
  decide
theorem s64_z {c : Int64} {f : Nat → Int64} {r : Nat} : ∀ n, r ≤ n → (∀ k, r ≤ k → k < n → f k = 0) → s64 c f n = s64 c f r
  | 0, h, _ => by
    obtain rfl : r = 0 := by omega
    rfl
  | n + 1, h, hf => by
    by_cases e : r = n + 1
    · rw [e]
    · show s64 c f n + f n = _
      rw [hf n (by omega) (by omega), Int64.add_zero]
      exact s64_z n (by omega) (fun k h1 h2 => hf k h1 (by omega))
section CTS
variable {F : cF} {L : cL} {a b : Bool} {P : Nat → Nat → Nat} {K : cs → Prop}
abbrev tW (F : cF) : Nat → Int32 := fun j => F 8 (8 * (j % 8) + j / 8)
theorem q_hasWeights {v : Nat} {K : Int32 → cs → Prop} (hv : v < 8) (h : p_Wa_hasWeights UL 7 (nI v) (F, L, PC a b P) K) : ((∀ u, u < 8 → F 10 (8 * v + u) = 0) ∧ K 0 (F, L, PC a b P)) ∨ K 1 (F, L, PC a b P) := by
  unfold p_Wa_hasWeights at h
  refine v_e_Wa_hasWeights_4 h (fun y2 y3 T => ∃ q, y3 = nI q ∧ q ≤ 8 ∧ T = (F, L, PC a b P) ∧ (y2 = 1 ∨ (y2 = 0 ∧ ∀ u, u < q → F 10 (8 * v + u) = 0))) ⟨0, rfl, by decide, rfl, Or.inr ⟨rfl, fun u hu => absurd hu (by omega)⟩⟩ ?_
  rintro y2 y3 T R ⟨q, rfl, hq, rfl, hc⟩ hb
  unfold b_Wa_hasWeights_4 at hb
  by_cases e : q = 8
  · right
    subst e
    have hb := (hb.1 (Int32.le_refl _)).2
    rcases hc with rfl | ⟨rfl, hc⟩
    · exact Or.inr hb
    · exact Or.inl ⟨hc, hb⟩
  · left
    have hb := hb.2 (t_8 (by omega))
    rcases hc with rfl | ⟨rfl, hc⟩
    · have hb := hb.1 (by decide)
      unfold b_Wa_hasWeights_28 b_Wa_hasWeights_33 at hb
      exact ⟨_, _, _, hb, q + 1, nI_1 q, by omega, rfl, Or.inl rfl⟩
    · obtain ⟨-, -, -, hb⟩ := hb.2 rfl
      rw [n8c (by omega) (by omega)] at hb
      refine dt_p hb (fun c hb => ?_) (fun c hb => ?_)
      · unfold b_Wa_hasWeights_33 at hb
        refine ⟨_, _, _, hb, q + 1, nI_1 q, by omega, rfl, Or.inr ⟨rfl, fun u hu => ?_⟩⟩
        by_cases e2 : u = q
        · rw [e2]
          exact c
        · exact hc u (by omega)
      · unfold b_Wa_hasWeights_28 b_Wa_hasWeights_33 at hb
        exact ⟨_, _, _, hb, q + 1, nI_1 q, by omega, rfl, Or.inl rfl⟩
theorem q_makeRow {v : Nat} (hv : v < 8) (h : p_Wa_makeRow UL 7 (nI v) (F, L, PC a b P) K) : ∃ L', (∀ k, L' 11 k = if 8 * v ≤ k ∧ k < 8 * v + 8 then hrv (tW F) (F 10) v (k - 8 * v) else L 11 k) ∧ K (F, L', PC a b P) := by
  unfold p_Wa_makeRow at h
  refine v_e_Wa_makeRow_2 h (fun y2 T => ∃ q L', y2 = nI q ∧ q ≤ 8 ∧ T = (F, L', PC a b P) ∧ ∀ k, L' 11 k = if 8 * v ≤ k ∧ k < 8 * v + q then hrv (tW F) (F 10) v (k - 8 * v) else L 11 k) ⟨0, L, rfl, by decide, rfl, fun k => by rw [if_neg (by omega)]⟩ ?_
  rintro y2 T R ⟨q, L', rfl, hq, rfl, hc⟩ hb
  unfold b_Wa_makeRow_2 at hb
  by_cases e : q = 8
  · right
    subst e
    exact ⟨L', hc, hb.1 (Int32.le_refl _)⟩
  · left
    have hb := hb.2 (t_8 (by omega))
    have hR : R (nI v) (nI q + 1) (F, va_up L' 11 (vp_updL (L' 11) (8 * v + q) (hrv (tW F) (F 10) v q)), PC a b P) := by
      refine v_e_Wa_makeRow_15 hb (fun y3 y5 T => ∃ k, y3 = s64 256 (fun u => (F 8 (8 * u + q)).toInt64 * (F 10 (8 * v + u)).toInt64) k ∧ y5 = nI k ∧ T = (F, L', PC a b P) ∧ k ≤ 8) ⟨0, rfl, rfl, rfl, by decide⟩ ?_
      rintro y3 y5 T R' ⟨k, rfl, rfl, rfl, hk⟩ hb
      unfold b_Wa_makeRow_15 at hb
      by_cases e : k = 8
      · right
        subst e
        obtain ⟨-, -, -, hb⟩ := hb.1 (Int32.le_refl _)
        rw [n8c (by omega) (by omega)] at hb
        have q2 : hrv (tW F) (F 10) v q = (s64 256 (fun u => (F 8 (8 * u + q)).toInt64 * (F 10 (8 * v + u)).toInt64) 8 >>> ((9 : Int32).toInt64 &&& 63 : Int64) : Int64) := by
          unfold hrv
          rw [s64_congr 8 (fun u hu => ?_)]
          show (F 8 (8 * ((8 * q + u) % 8) + (8 * q + u) / 8)).toInt64 * _ = _
          rw [show (8 * q + u) % 8 = u by omega, show (8 * q + u) / 8 = q by omega]
        rw [q2]
        exact hb
      · left
        obtain ⟨-, -, -, -, -, -, hR⟩ := hb.2 (t_8 (by omega))
        rw [n8c (by omega) (by omega), n8c (by omega) (by omega)] at hR
        exact ⟨_, _, _, hR, k + 1, rfl, nI_1 k, rfl, by omega⟩
    refine ⟨_, _, hR, q + 1, _, nI_1 q, by omega, rfl, fun k => ?_⟩
    rw [vu_at]
    by_cases e2 : k = 8 * v + q
    · rw [e2, ul_at, if_pos (by omega), show 8 * v + q - 8 * v = q by omega]
    · rw [ul_ne e2, hc k]
      by_cases e3 : 8 * v ≤ k ∧ k < 8 * v + q
      · rw [if_pos e3, if_pos (by omega)]
      · rw [if_neg e3, if_neg (by omega)]
theorem q_fillJ8 {v : Nat} (hv : v < 8) (h : p_Ar_fillJ UL 11 (8 * nI v) ((8 * nI v) + 8) 0 (F, L, PC a b P) K) : ∃ L', (∀ k, L' 11 k = if 8 * v ≤ k ∧ k < 8 * v + 8 then 0 else L 11 k) ∧ K (F, L', PC a b P) := by
  unfold p_Ar_fillJ at h
  obtain ⟨-, h⟩ := h
  have e8 : (8 * nI v : Int32) = nI (8 * v) := pk_mul 8 v
  have e9 : ((8 * nI v) + 8 : Int32) = nI (8 * v + 8) := by rw [e8]; exact nI_add _ 8
  unfold p_Ar_rangeCheck at h
  rw [e9, e8] at h
  have h := h.1 (nI_le (by omega) (by omega))
  have h := h.1 (nI_pos' (by omega))
  have h := h.1 (by show nI (8 * v + 8) ≤ nI 64; exact nI_le (by omega) (by decide))
  refine v_e_Ar_fillJ_10 h (fun y5 T => ∃ q L', y5 = nI (8 * v + q) ∧ q ≤ 8 ∧ T = (F, L', PC a b P) ∧ ∀ k, L' 11 k = if 8 * v ≤ k ∧ k < 8 * v + q then 0 else L 11 k) ⟨0, L, rfl, by decide, rfl, fun k => by rw [if_neg (by omega)]⟩ ?_
  rintro y5 T R ⟨q, L', rfl, hq, rfl, hc⟩ hb
  unfold b_Ar_fillJ_10 at hb
  by_cases e : q = 8
  · right
    subst e
    exact ⟨L', hc, hb.1 (Int32.le_refl _)⟩
  · left
    obtain ⟨-, -, hR⟩ := hb.2 (nI_ge (by omega) (by omega))
    rw [nI_clamp (by omega)] at hR
    refine ⟨_, _, hR, q + 1, _, nI_1 _, by omega, rfl, fun k => ?_⟩
    rw [vu_at]
    by_cases e2 : k = 8 * v + q
    · rw [e2, ul_at, if_pos (by omega)]
    · rw [ul_ne e2]
      show L' 11 k = _
      rw [hc k]
      by_cases e3 : 8 * v ≤ k ∧ k < 8 * v + q
      · rw [if_pos e3, if_pos (by omega)]
      · rw [if_neg e3, if_neg (by omega)]
theorem q_cs79 {r y x : Nat} {R57 : Int32 → Int32 → cs → Prop} {R65 : Int32 → Int32 → Int32 → cs → Prop} (hr : r ≤ 8) (hy : y < 8) (hx : x < 8) (hW : ∀ k, B (-4096) 4096 (F 8 k)) (hL : ∀ k, k < 64 → BL (-70000000) 70000000 (L 11 k)) (hz : ∀ v, r ≤ v → v < 8 → L 11 (8 * v + x) = 0) (h : e_Wa_makeSamples_79 UL 7 (nI r) (nI y) (nI x) 65536 0 (F, L, PC a b P) R57 R65 K) : R65 (nI r) (nI y) (nI x + 1) (va_up F 9 (upd (F 9) (8 * y + x) (smv (tW F) (L 11) y x)), L, PC a b P) := by
  refine v_e_Wa_makeSamples_79 h (fun y4 y6 T => ∃ k, y4 = s64 65536 (fun v => (F 8 (8 * v + y)).toInt64 * L 11 (8 * v + x)) k ∧ y6 = nI k ∧ T = (F, L, PC a b P) ∧ k ≤ r) ⟨0, rfl, rfl, rfl, Nat.zero_le _⟩ ?_
  rintro y4 y6 T R ⟨k, rfl, rfl, rfl, hk⟩ hb
  unfold b_Wa_makeSamples_79 at hb
  by_cases e : k = r
  · right
    subst e
    obtain ⟨-, hb⟩ := hb.1 (Int32.le_refl _)
    have hb := q_clamp0 hb
    obtain ⟨-, -, hb⟩ := hb
    rw [n8c (by omega) (by omega)] at hb
    have q1 : s64 65536 (fun v => (tW F (8 * y + v)).toInt64 * L 11 (8 * v + x)) 8 = s64 65536 (fun v => (F 8 (8 * v + y)).toInt64 * L 11 (8 * v + x)) k := by
      rw [s64_congr (g := fun v => (F 8 (8 * v + y)).toInt64 * L 11 (8 * v + x)) 8 (fun v hv => ?_)]
      · exact s64_z 8 hr (fun v h1 h2 => by
          show (F 8 (8 * v + y)).toInt64 * L 11 (8 * v + x) = 0
          rw [hz v h1 h2, Int64.mul_zero])
      · show (F 8 (8 * ((8 * y + v) % 8) + (8 * y + v) / 8)).toInt64 * _ = _
        rw [show (8 * y + v) % 8 = v by omega, show (8 * y + v) / 8 = y by omega]
    have q2 : smv (tW F) (L 11) y x = clI (128 + ((s64 65536 (fun v => (F 8 (8 * v + y)).toInt64 * L 11 (8 * v + x)) k >>> ((17 : Int32).toInt64 &&& 63 : Int64) : Int64)).toInt32) := by
      unfold smv
      rw [q1]
      apply clL_I
      have h := s64_B (c := 65536) (f := fun v => (F 8 (8 * v + y)).toInt64 * L 11 (8 * v + x)) (e := 65536) (m := 286720000000) ⟨by decide, by decide⟩ (fun v hv => (l_mul (m := 4096) (n := 70000000) (l_of (hW _)) (hL _ (by omega)) (by decide)).2) (by decide) (by decide) k (by omega)
      have h1 := h.1
      have h2 := h.2
      have h3 : (k : Int) * 286720000000 ≤ 8 * 286720000000 := Int.mul_le_mul_of_nonneg_right (by omega) (by decide)
      unfold BL
      rw [l_shr (k := 17) (by decide)]
      omega
    rw [q2]
    exact hb
  · left
    obtain ⟨-, -, -, -, -, -, hR⟩ := hb.2 (nI_ge (by omega) (by omega))
    rw [n8c (by omega) (by omega), n8c (by omega) (by omega)] at hR
    exact ⟨_, _, _, hR, k + 1, rfl, nI_1 k, rfl, by omega⟩
theorem q_makeSamples (hW : ∀ k, B (-4096) 4096 (F 8 k)) (hw : ∀ k, k < 64 → B (-1048576) 1048576 (F 10 k)) (h : p_Wa_makeSamples UL 7 (F, L, PC a b P) K) :
    ∃ Z L', agc [] [9] F Z ∧ (∀ k, k < 64 → Z 9 k = smv (tW F) (fun j => hrv (tW F) (F 10) (j / 8) (j % 8)) (k / 8) (k % 8)) ∧ K (Z, L', PC a b P) := by
  have hWt : ∀ k, B (-4096) 4096 (tW F k) := fun k => hW _
  unfold p_Wa_makeSamples at h
  have h57 : ∃ r L', r ≤ 8 ∧ (∀ k, k < 64 → L' 11 k = hrv (tW F) (F 10) (k / 8) (k % 8)) ∧ (∀ v, r ≤ v → v < 8 → ∀ x, x < 8 → L' 11 (8 * v + x) = 0) ∧ e_Wa_makeSamples_57 UL 7 (nI r) 0 (F, L', PC a b P) K := by
    refine v_e_Wa_makeSamples_4 h (fun y1 y2 T => ∃ r q L', y1 = nI r ∧ y2 = nI q ∧ r ≤ q ∧ q ≤ 8 ∧ T = (F, L', PC a b P) ∧ (∀ k, k < 8 * q → L' 11 k = hrv (tW F) (F 10) (k / 8) (k % 8)) ∧ ∀ v, r ≤ v → v < q → ∀ x, x < 8 → L' 11 (8 * v + x) = 0) ⟨0, 0, L, rfl, rfl, Nat.le_refl _, by decide, rfl, fun k hk => absurd hk (by omega), fun v _ hv => absurd hv (by omega)⟩ ?_
    rintro y1 y2 T R ⟨r, q, L', rfl, rfl, hrq, hq, rfl, hc, hz⟩ hb
    unfold b_Wa_makeSamples_4 at hb
    by_cases e : q = 8
    · right
      subst e
      exact ⟨r, L', hrq, hc, hz, hb.1 (Int32.le_refl _)⟩
    · left
      have hb := hb.2 (t_8 (by omega))
      rcases q_hasWeights (by omega) hb with ⟨h0, hb⟩ | hb
      · obtain ⟨-, hb⟩ := hb.1 rfl
        obtain ⟨L2, l2, hb⟩ := q_fillJ8 (by omega) hb
        unfold b_Wa_makeSamples_49 at hb
        refine ⟨_, _, _, hb, r, q + 1, L2, rfl, nI_1 q, by omega, by omega, rfl, fun k hk => ?_, fun v h1 h2 x hx => ?_⟩
        · rw [l2 k]
          by_cases e2 : 8 * q ≤ k ∧ k < 8 * q + 8
          · rw [if_pos e2, hrv_0]
            intro u hu
            rw [show k / 8 = q by omega]
            exact h0 u hu
          · rw [if_neg e2]
            exact hc k (by omega)
        · rw [l2]
          by_cases e2 : v = q
          · rw [if_pos (by omega)]
          · rw [if_neg (by omega)]
            exact hz v h1 (by omega) x hx
      · have hb := hb.2 (by decide)
        obtain ⟨L2, l2, hb⟩ := q_makeRow (by omega) hb
        unfold b_Wa_makeSamples_49 at hb
        refine ⟨_, _, _, hb, q + 1, q + 1, L2, nI_1 q, nI_1 q, by omega, by omega, rfl, fun k hk => ?_, fun v h1 h2 => absurd h2 (by omega)⟩
        rw [l2 k]
        by_cases e2 : 8 * q ≤ k ∧ k < 8 * q + 8
        · rw [if_pos e2, show k / 8 = q by omega, show k % 8 = k - 8 * q by omega]
        · rw [if_neg e2]
          exact hc k (by omega)
  obtain ⟨r, L', hr, y3, hz, h⟩ := h57
  have hL : ∀ k, k < 64 → BL (-70000000) 70000000 (L' 11 k) := fun k hk => by
    rw [y3 k hk]
    exact hrv_B hWt hw (by omega)
  refine v_e_Wa_makeSamples_57 h (fun x2 T => ∃ q G, x2 = nI q ∧ q ≤ 8 ∧ T = (G, L', PC a b P) ∧ agc [] [9] F G ∧ ∀ k, k < 8 * q → G 9 k = smv (tW F) (L' 11) (k / 8) (k % 8)) ⟨0, F, rfl, by decide, rfl, agc_refl, fun k hk => absurd hk (by omega)⟩ ?_
  rintro x2 T R ⟨q, G, rfl, hq, rfl, ha, hc⟩ hb
  unfold b_Wa_makeSamples_57 at hb
  by_cases e : q = 8
  · right
    subst e
    refine ⟨G, L', ha, fun k hk => ?_, hb.1 (Int32.le_refl _)⟩
    rw [hc k (by omega)]
    unfold smv
    rw [s64_congr 8 (fun j hj => ?_)]
    rw [y3 _ (by omega)]
  · left
    have hb := hb.2 (t_8 (by omega))
    have g8 : G 8 = F 8 := ha.2 8 rfl rfl
    have step : ∃ Z, agc [] [9] G Z ∧ (∀ k, Z 9 k = if 8 * q ≤ k ∧ k < 8 * q + 8 then smv (tW F) (L' 11) q (k - 8 * q) else G 9 k) ∧ R (nI r) (nI q + 1) (Z, L', PC a b P) := by
      refine v_e_Wa_makeSamples_65 hb (fun y3 T => ∃ x Y, y3 = nI x ∧ x ≤ 8 ∧ T = (Y, L', PC a b P) ∧ agc [] [9] G Y ∧ ∀ k, Y 9 k = if 8 * q ≤ k ∧ k < 8 * q + x then smv (tW F) (L' 11) q (k - 8 * q) else G 9 k) ⟨0, G, rfl, by decide, rfl, agc_refl, fun k => by rw [if_neg (by omega)]⟩ ?_
      rintro y3 T R' ⟨x, Y, rfl, hx, rfl, hy, hyc⟩ hb
      unfold b_Wa_makeSamples_65 at hb
      by_cases e : x = 8
      · right
        subst e
        exact ⟨Y, hy, hyc, hb.1 (Int32.le_refl _)⟩
      · left
        have g8' : Y 8 = F 8 := (hy.2 8 rfl rfl).trans g8
        have hR := q_cs79 hr (by omega) (by omega) (by rw [g8']; exact hW) hL (fun v h1 h2 => hz v h1 h2 x (by omega)) (hb.2 (t_8 (by omega)))
        refine ⟨_, _, hR, x + 1, _, nI_1 x, by omega, rfl, agc_r hy rfl rfl, fun k => ?_⟩
        have et : tW Y = tW F := by
          funext j
          show Y 8 _ = F 8 _
          rw [g8']
        rw [vu_at, et]
        by_cases e2 : k = 8 * q + x
        · rw [e2, upd_at, if_pos (by omega), show 8 * q + x - 8 * q = x by omega]
        · rw [upd_ne e2, hyc k]
          by_cases e3 : 8 * q ≤ k ∧ k < 8 * q + x
          · rw [if_pos e3, if_pos (by omega)]
          · rw [if_neg e3, if_neg (by omega)]
    obtain ⟨Z, z1, z3, hR⟩ := step
    refine ⟨_, _, hR, q + 1, Z, nI_1 q, by omega, rfl, agc_tr ha z1 rfl rfl, fun k hk => ?_⟩
    rw [z3 k]
    by_cases e2 : 8 * q ≤ k ∧ k < 8 * q + 8
    · rw [if_pos e2, show k / 8 = q by omega, show k % 8 = k - 8 * q by omega]
    · rw [if_neg e2]
      exact hc k (by omega)
end CTS

/-! LAYERS: what a sample of a layer is made of, both sides -/
def k255 (v : Int32) : Int32 := if v ≤ 255 then v else 255
def kv (n r g b : Int32) (l : Nat) : Int32 :=
  if n = 1 then r else k255 (if l = 0 then ((((19595 * r) + (38470 * g)) + (7471 * b)) + 32768) >>> (16 &&& 31 : Int32) else if l = 1 then 128 + (((((-11059) * r) - (21709 * g)) + (32768 * b)) + 32768) >>> (16 &&& 31 : Int32) else 128 + ((((32768 * r) - (27439 * g)) - (5329 * b)) + 32768) >>> (16 &&& 31 : Int32))
def kvM (M : ms) (l x y : Nat) : Int32 := kv (M.1 3) (cv M x y 0) (cv M x y 1) (cv M x y 2) l
def kvF (F : cF) (l x y : Nat) : Int32 := kv (F 1 2) (cvw F x y 0) (cvw F x y 1) (cvw F x y 2) l
/-- the sample (x, y) of a layer whose steps are sx, sy on a canvas of W by H; k: the kind's samples -/
def rsv (k : Nat → Nat → Int32) (W H sx sy x y : Nat) : Int32 := s32 (nI (sx * sy / 2)) (fun t => k (min (W - 1) (x * sx + t % sx)) (min (H - 1) (y * sy + t / sx))) (sx * sy) / nI (sx * sy)
theorem rsv_congr {k k' : Nat → Nat → Int32} {W H sx sy x y : Nat} (hW : 1 ≤ W) (hH : 1 ≤ H) (h : ∀ x y, x < W → y < H → k x y = k' x y) : rsv k W H sx sy x y = rsv k' W H sx sy x y := by
  unfold rsv
  congr 1
  have : ∀ n, s32 (nI (sx * sy / 2)) (fun t => k (min (W - 1) (x * sx + t % sx)) (min (H - 1) (y * sy + t / sx))) n = s32 (nI (sx * sy / 2)) (fun t => k' (min (W - 1) (x * sx + t % sx)) (min (H - 1) (y * sy + t / sx))) n := by
    intro n
    induction n with
    | zero => rfl
    | succ n ih =>
      show s32 _ _ n + k _ _ = s32 _ _ n + k' _ _
      rw [ih, h _ _ (by omega) (by omega)]
  exact this _
section REF
variable {S : ms} {l W H sx sy : Nat}
theorem q_sampleOf {x y : Nat} {K : Int32 → ms → Prop} (hl : l < 3) (hx : x < 64) (hy : y < 64) (h : p_sampleOf (nI x) (nI y) (nI l) S K) : K (kvM S l x y) S := by
  unfold p_sampleOf p_cell at h
  obtain ⟨-, h⟩ := h
  have c0 : ((3 * ((64 * nI y) + nI x)) + 0 : Int32).toNatClampNeg = 3 * (64 * y + x) + 0 := by
    rw [show (0 : Int32) = nI 0 from rfl, cell_n, nI_clamp (by omega)]
  have c1 : ((3 * ((64 * nI y) + nI x)) + 1 : Int32).toNatClampNeg = 3 * (64 * y + x) + 1 := by
    rw [show (1 : Int32) = nI 1 from rfl, cell_n, nI_clamp (by omega)]
  have c2 : ((3 * ((64 * nI y) + nI x)) + 2 : Int32).toNatClampNeg = 3 * (64 * y + x) + 2 := by
    rw [show (2 : Int32) = nI 2 from rfl, cell_n, nI_clamp (by omega)]
  dsimp only at h
  rw [c0, c1, c2] at h
  unfold kvM kv
  by_cases e : S.1 3 = 1
  · rw [if_pos e]
    exact h.2 e
  · rw [if_neg e]
    obtain ⟨-, -, h⟩ := h.1 e
    have fin : ∀ w : Int32, b_sampleOf_148 w S K → K (k255 w) S := by
      intro w hw
      unfold b_sampleOf_148 b_sampleOf_166 at hw
      unfold k255
      by_cases d : w ≤ 255
      · rw [if_pos d]
        exact hw.1 d
      · rw [if_neg d]
        exact hw.2 d
    have e3 : l = 0 ∨ l = 1 ∨ l = 2 := by omega
    rcases e3 with rfl | rfl | rfl
    · rw [if_pos rfl]
      exact fin _ (h.2 rfl)
    · rw [if_neg (by decide), if_pos rfl]
      exact fin _ ((h.1 (by decide)).2 rfl)
    · rw [if_neg (by decide), if_neg (by decide)]
      exact fin _ ((h.1 (by decide)).1 (by decide))
/-- what makeRaster needs of the canvas' size -/
def czR (S : ms) (W H : Nat) : Prop := S.1 1 = nI W ∧ S.1 2 = nI H ∧ 1 ≤ W ∧ W ≤ 64 ∧ 1 ≤ H ∧ H ≤ 64
section R79
variable {x4 : Int32} {x y : Nat} {R36 : Int32 → Int32 → Int32 → Int32 → Int32 → ms → Prop} {R50 : Int32 → Int32 → Int32 → Int32 → Int32 → Int32 → ms → Prop} {R70 : Int32 → Int32 → Int32 → Int32 → Int32 → Int32 → Int32 → Int32 → ms → Prop} {K : ms → Prop}
abbrev rsf (S : ms) (l W H sx sy x y : Nat) : Nat → Int32 := fun t => kvM S l (min (W - 1) (x * sx + t % sx)) (min (H - 1) (y * sy + t / sx))
theorem q_mr79 {j : Nat} {c : Int32} (hl : l < 3) (hz : czR S W H) (hsx : sx = 1 ∨ sx = 2) (hsy : sy = 1 ∨ sy = 2) (hx : x < 64) (hy : y < 64) (hj : j < sy) (h : e_makeRaster_79 (nI l) (nI sx) (nI sy) x4 (nI y) (nI x) (s32 c (rsf S l W H sx sy x y) (j * sx)) (nI j) 0 S R36 R50 R70 K) :
    R70 (nI l) (nI sx) (nI sy) x4 (nI y) (nI x) (s32 c (rsf S l W H sx sy x y) (j * sx + sx)) (nI j + 1) S := by
  obtain ⟨z1, z2, z3, z4, z5, z6⟩ := hz
  refine v_e_makeRaster_79 h (fun y7 y9 T => ∃ i, y7 = s32 c (rsf S l W H sx sy x y) (j * sx + i) ∧ y9 = nI i ∧ i ≤ sx ∧ T = S) ⟨0, rfl, rfl, Nat.zero_le _, rfl⟩ ?_
  rintro y7 y9 T R ⟨i, rfl, rfl, hi, rfl⟩ hb
  unfold b_makeRaster_79 at hb
  by_cases e : i = sx
  · right
    subst e
    exact hb.1 (Int32.le_refl _)
  · left
    have hb := hb.2 (nI_ge (by omega) (by omega))
    have xs : x * sx ≤ 126 := by rcases hsx with e | e <;> rw [e] <;> omega
    have ys : y * sy ≤ 126 := by rcases hsy with e | e <;> rw [e] <;> omega
    have m1 : (j * sx + i) % sx = i := by rw [Nat.mul_comm, Nat.mul_add_mod, Nat.mod_eq_of_lt (by omega)]
    have m2 : (j * sx + i) / sx = j := by rw [Nat.mul_comm, Nat.mul_add_div (by omega), Nat.div_eq_of_lt (by omega), Nat.add_zero]
    have fin : ∀ a b' : Nat, a = min (W - 1) (x * sx + i) → b' = min (H - 1) (y * sy + j) → b_makeRaster_146 (nI l) (nI sx) (nI sy) x4 (nI y) (nI x) (nI j) (nI i) (s32 c (rsf T l W H sx sy x y) (j * sx + i)) (nI a) (nI b') T R36 R50 R70 R K → R (nI l) (nI sx) (nI sy) x4 (nI y) (nI x) (s32 c (rsf T l W H sx sy x y) (j * sx + (i + 1))) (nI j) (nI i + 1) T := by
      intro a b' ha hb' hq
      unfold b_makeRaster_146 at hq
      have hq := q_sampleOf hl (by omega) (by omega) hq
      have e1 : s32 c (rsf T l W H sx sy x y) (j * sx + (i + 1)) = s32 c (rsf T l W H sx sy x y) (j * sx + i) + kvM T l a b' := by
        show s32 c (rsf T l W H sx sy x y) (j * sx + i) + kvM T l (min (W - 1) (x * sx + (j * sx + i) % sx)) (min (H - 1) (y * sy + (j * sx + i) / sx)) = _
        rw [m1, m2, ha, hb']
      rw [e1]
      exact hq
    have second : ∀ a : Nat, a = min (W - 1) (x * sx + i) → b_makeRaster_126 (nI l) (nI sx) (nI sy) x4 (nI y) (nI x) (nI j) (nI i) ((nI y * nI sy) + nI j) (s32 c (rsf T l W H sx sy x y) (j * sx + i)) (nI a) T R36 R50 R70 R K → R (nI l) (nI sx) (nI sy) x4 (nI y) (nI x) (s32 c (rsf T l W H sx sy x y) (j * sx + (i + 1))) (nI j) (nI i + 1) T := by
      intro a ha hq
      unfold b_makeRaster_126 at hq
      rw [pk_mul, nI_add, z2] at hq
      by_cases d : H ≤ y * sy + j
      · have hq := hq.1 (nI_le d (by omega))
        rw [show (1 : Int32) = nI 1 from rfl, pk_sub z5] at hq
        exact fin a _ ha (by omega) hq
      · have hq := hq.2 (nI_ge (by omega) (by omega))
        exact fin a _ ha (by omega) hq
    rw [pk_mul, nI_add, z1] at hb
    have hR : R (nI l) (nI sx) (nI sy) x4 (nI y) (nI x) (s32 c (rsf T l W H sx sy x y) (j * sx + (i + 1))) (nI j) (nI i + 1) T := by
      by_cases d : W ≤ x * sx + i
      · have hb := hb.1 (nI_le d (by omega))
        rw [show (1 : Int32) = nI 1 from rfl, pk_sub z3] at hb
        exact second _ (by omega) hb
      · have hb := hb.2 (nI_ge (by omega) (by omega))
        exact second _ (by omega) hb
    exact ⟨_, _, _, hR, i + 1, rfl, nI_1 i, by omega, rfl⟩
theorem q_mr70 (hl : l < 3) (hz : czR S W H) (hsx : sx = 1 ∨ sx = 2) (hsy : sy = 1 ∨ sy = 2) (hx : x < 64) (hy : y < 64) (h : e_makeRaster_70 (nI l) (nI sx) (nI sy) (nI (sx * sy)) (nI y) (nI x) (nI (sx * sy / 2)) 0 S R36 R50 K) :
    R50 (nI l) (nI sx) (nI sy) (nI (sx * sy)) (nI y) (nI x + 1) (S.1, va_up S.2.1 21 (upd (S.2.1 21) (64 * y + x) (rsv (kvM S l) W H sx sy x y)), S.2.2) := by
  refine v_e_makeRaster_70 h (fun y7 y8 T => ∃ j, y7 = s32 (nI (sx * sy / 2)) (rsf S l W H sx sy x y) (j * sx) ∧ y8 = nI j ∧ j ≤ sy ∧ T = S) ⟨0, by rw [Nat.zero_mul]; rfl, rfl, Nat.zero_le _, rfl⟩ ?_
  rintro y7 y8 T R ⟨j, rfl, rfl, hj, rfl⟩ hb
  unfold b_makeRaster_70 at hb
  by_cases e : j = sy
  · right
    subst e
    obtain ⟨-, -, hb⟩ := hb.1 (Int32.le_refl _)
    rw [show (64 : Int32) = nI 64 from rfl, pk_mul, nI_add, nI_clamp (by omega), Nat.mul_comm j sx] at hb
    exact hb
  · left
    have hb := hb.2 (nI_ge (by omega) (by omega))
    have hR := q_mr79 hl hz hsx hsy hx hy (by omega) hb
    rw [← Nat.succ_mul] at hR
    exact ⟨_, _, _, hR, j + 1, rfl, nI_1 j, by omega, rfl⟩
end R79
variable {n : Nat} {A D : Nat → Nat} {K : ms → Prop}
/-- makeRaster(l) -/
theorem q_makeRaster (g : gR 0 S n W H A D) (hz : czR S W H) (hl : l < n) (h : p_makeRaster (nI l) S K) :
    ∃ Z, ag [] [21] S Z ∧ (∀ x y, x < up (W * A l) (mx A n) → y < up (H * D l) (mx D n) → Z.2.1 21 (64 * y + x) = rsv (kvM S l) W H (mx A n / A l) (mx D n / D l) x y) ∧ K Z := by
  have n3 := g.n3
  have gl := g.2.2.2.2.2.2 l hl
  have m1 := g.mA
  have m2 := g.mD
  have mA := mx_ge (A := A) n l hl
  have mD := mx_ge (A := D) n l hl
  have hsx : mx A n / A l = 1 ∨ mx A n / A l = 2 := by
    rcases gl.2.2.1 with e | e <;> rcases m1 with d | d <;> rw [e, d] <;> first | decide | omega
  have hsy : mx D n / D l = 1 ∨ mx D n / D l = 2 := by
    rcases gl.2.2.2 with e | e <;> rcases m2 with d | d <;> rw [e, d] <;> first | decide | omega
  have lw : up (W * A l) (mx A n) ≤ 64 := by
    unfold up
    obtain ⟨-, -, w3, w4, -, -⟩ := hz
    rcases gl.2.2.1 with e | e <;> rcases m1 with d | d <;> rw [e, d] <;> omega
  have lh : up (H * D l) (mx D n) ≤ 64 := by
    unfold up
    obtain ⟨-, -, -, -, w3, w4⟩ := hz
    rcases gl.2.2.2 with e | e <;> rcases m2 with d | d <;> rw [e, d] <;> omega
  have hl31 : (nI l).toNatClampNeg = l := nI_clamp (by omega)
  have a15 : S.2.1 15 l = nI (A l) := by have := gl.1; rw [Nat.mul_zero, Nat.zero_add] at this; exact this
  have a16 : S.2.1 16 l = nI (D l) := by have := gl.2.1; rw [Nat.mul_zero, Nat.zero_add] at this; exact this
  unfold p_makeRaster at h
  obtain ⟨-, -, h⟩ := q_greatest1 (q := 0) (by decide) n3 g.2.2.1 g.a h
  obtain ⟨-, -, h⟩ := q_greatest0 (q := 0) (M := (S.1, S.2.1, S.2.2)) (by decide) n3 g.2.2.1 g.d h
  dsimp only at h
  rw [hl31, a15, a16, pk_div (by omega) (by omega) (by omega), pk_div (by omega) (by omega) (by omega), pk_mul] at h
  refine v_e_makeRaster_36 h (fun y5 T => ∃ y, y5 = nI y ∧ y ≤ up (H * D l) (mx D n) ∧ ag [] [21] S T ∧ ∀ x y', x < up (W * A l) (mx A n) → y' < y → T.2.1 21 (64 * y' + x) = rsv (kvM S l) W H (mx A n / A l) (mx D n / D l) x y') ⟨0, rfl, Nat.zero_le _, ag_refl, fun _ y' _ hy => absurd hy (Nat.not_lt_zero _)⟩ ?_
  rintro y5 T R ⟨y, rfl, hy, ha, hc⟩ hb
  have gT : gR 0 T n W H A D := by
    unfold gR
    rw [ha.2 12 rfl, ha.2 13 rfl, ha.2 14 rfl, ha.2 15 rfl, ha.2 16 rfl]
    exact g
  unfold b_makeRaster_36 at hb
  have hb := q_layerHigh (q := 0) (by decide) gT hl hb
  by_cases e : y = up (H * D l) (mx D n)
  · right
    subst e
    exact ⟨T, ha, hc, hb.1 (Int32.le_refl _)⟩
  · left
    have hb := hb.2 (nI_ge (by omega) (by omega))
    have row : ∃ Z, ag [] [21] T Z ∧ (∀ k, Z.2.1 21 k = if 64 * y ≤ k ∧ k < 64 * y + up (W * A l) (mx A n) then rsv (kvM S l) W H (mx A n / A l) (mx D n / D l) (k - 64 * y) y else T.2.1 21 k) ∧ R (nI l) (nI (mx A n / A l)) (nI (mx D n / D l)) (nI (mx A n / A l * (mx D n / D l))) (nI y + 1) Z := by
      refine v_e_makeRaster_50 hb (fun y6 V => ∃ x, y6 = nI x ∧ x ≤ up (W * A l) (mx A n) ∧ ag [] [21] T V ∧ ∀ k, V.2.1 21 k = if 64 * y ≤ k ∧ k < 64 * y + x then rsv (kvM S l) W H (mx A n / A l) (mx D n / D l) (k - 64 * y) y else T.2.1 21 k) ⟨0, rfl, Nat.zero_le _, ag_refl, fun k => by rw [if_neg (by omega)]⟩ ?_
      rintro y6 V R' ⟨x, rfl, hx, hv, hvc⟩ hb
      have hsv := ag_tr ha hv rfl rfl
      have gV : gR 0 V n W H A D := by
        unfold gR
        rw [hsv.2 12 rfl, hsv.2 13 rfl, hsv.2 14 rfl, hsv.2 15 rfl, hsv.2 16 rfl]
        exact g
      have zV : czR V W H := by
        unfold czR
        rw [hsv.1 1 rfl, hsv.1 2 rfl]
        exact hz
      have kV : kvM V l = kvM S l := by
        funext x y
        unfold kvM cv
        rw [hsv.1 3 rfl, hsv.2 4 rfl]
      unfold b_makeRaster_50 at hb
      have hb := q_layerWide (q := 0) (by decide) gV hl hb
      by_cases e2 : x = up (W * A l) (mx A n)
      · right
        subst e2
        exact ⟨V, hv, hvc, hb.1 (Int32.le_refl _)⟩
      · left
        have hb := hb.2 (nI_ge (by omega) (by omega))
        rw [show (nI (mx A n / A l * (mx D n / D l)) / 2 : Int32) = nI (mx A n / A l * (mx D n / D l) / 2) from pk_div (d := 2) (by rcases hsx with e | e <;> rcases hsy with d | d <;> rw [e, d] <;> decide) (by decide) (by decide)] at hb
        have hR := q_mr70 (by omega) zV hsx hsy (by omega) (by omega) hb
        refine ⟨_, _, hR, x + 1, nI_1 x, by omega, ag_r hv rfl, fun k => ?_⟩
        show va_up V.2.1 21 (upd (V.2.1 21) (64 * y + x) (rsv (kvM V l) W H (mx A n / A l) (mx D n / D l) x y)) 21 k = _
        rw [vu_at, kV]
        by_cases e3 : k = 64 * y + x
        · rw [e3, upd_at, if_pos (by omega), show 64 * y + x - 64 * y = x by omega]
        · rw [upd_ne e3, hvc k]
          by_cases e4 : 64 * y ≤ k ∧ k < 64 * y + x
          · rw [if_pos e4, if_pos (by omega)]
          · rw [if_neg e4, if_neg (by omega)]
    obtain ⟨Z, z1, z2, hR⟩ := row
    refine ⟨_, _, hR, y + 1, nI_1 y, by omega, ag_tr ha z1 rfl rfl, fun x y' hx hy' => ?_⟩
    rw [z2]
    by_cases e2 : y' = y
    · rw [e2, if_pos (by omega), show 64 * y + x - 64 * y = x by omega]
    · rw [if_neg (by omega)]
      exact hc x y' hx (by omega)
end REF

/-! LAYERS on the class's side -/
theorem mn255 (v : Int32) : i_min 255 v = k255 v := by
  unfold i_min k255
  by_cases c : v < 255
  · rw [if_pos c, if_pos (Int32.le_iff_toInt_le.mpr (Int.le_of_lt (i_lt c)))]
  · rw [if_neg c]
    by_cases d : v ≤ 255
    · rw [if_pos d]
      have h1 := i_le d
      have h2 := i_le (nlt_le c)
      exact Int32.toInt.inj (by omega)
    · rw [if_neg d]
theorem k255_0 {r g b : Int32} (hr : B 0 255 r) (hg : B 0 255 g) (hb : B 0 255 b) : k255 ((((((19595 * r) + (38470 * g)) + (7471 * b)) + 32768) >>> (16 &&& 31 : Int32) : Int32)) = (((((19595 * r) + (38470 * g)) + (7471 * b)) + 32768) >>> (16 &&& 31 : Int32) : Int32) := by
  have c1 : B 19595 19595 (19595 : Int32) := ⟨by decide, by decide⟩
  have c2 : B 38470 38470 (38470 : Int32) := ⟨by decide, by decide⟩
  have c3 : B 7471 7471 (7471 : Int32) := ⟨by decide, by decide⟩
  have c4 : B 32768 32768 (32768 : Int32) := ⟨by decide, by decide⟩
  have m1 := B_mul c1 hr (by decide) (by decide) (by decide)
  have m2 := B_mul c2 hg (by decide) (by decide) (by decide)
  have m3 := B_mul c3 hb (by decide) (by decide) (by decide)
  have s := B_add (B_add (B_add m1 m2 (by decide) (by decide)) m3 (by decide) (by decide)) c4 (by decide) (by decide)
  have h := B_shr (s := (16 &&& 31 : Int32)) (k := 16) (by decide) s
  unfold k255
  rw [if_pos (Int32.le_iff_toInt_le.mpr (show _ ≤ (255 : Int32).toInt from Int.le_trans h.2 (by decide)))]
section CLS
variable {F : cF} {L : cL} {a b : Bool} {P : Nat → Nat → Nat} {l W H sx sy : Nat}
theorem q_kind {x y : Nat} {K : Int32 → cs → Prop} (hl : l < 3) (hx : x < 64) (hy : y < 64) (hB : ∀ k, k < 12288 → B 0 255 (F 2 k)) (h : p_Ca_kind UL 1 (nI l) (nI x) (nI y) (F, L, PC a b P) K) : K (kvF F l x y) (F, L, PC a b P) := by
  unfold p_Ca_kind p_B_spot at h
  obtain ⟨-, -, -, h⟩ := h
  have c0 : (((4096 * 0) + (64 * nI y)) + nI x : Int32).toNatClampNeg = 4096 * 0 + 64 * y + x := by
    rw [show (4096 * 0 : Int32) = 4096 * nI 0 from rfl, spot_n, nI_clamp (by omega)]
  have c1 : (((4096 * 1) + (64 * nI y)) + nI x : Int32).toNatClampNeg = 4096 * 1 + 64 * y + x := by
    rw [show (4096 * 1 : Int32) = 4096 * nI 1 from rfl, spot_n, nI_clamp (by omega)]
  have c2 : (((4096 * 2) + (64 * nI y)) + nI x : Int32).toNatClampNeg = 4096 * 2 + 64 * y + x := by
    rw [show (4096 * 2 : Int32) = 4096 * nI 2 from rfl, spot_n, nI_clamp (by omega)]
  dsimp only at h
  rw [c0, c1, c2] at h
  have f0 : F (PC a b P 1 3) = F 2 := rfl
  rw [f0] at h
  unfold kvF kv
  by_cases e : F 1 2 = 1
  · rw [if_pos e]
    exact h.2 e
  · rw [if_neg e]
    obtain ⟨-, -, -, -, h⟩ := h.1 e
    have fin : ∀ w : Int32, b_Ca_kind_126 UL 1 w (F, L, PC a b P) K → K (k255 (128 + ((w + 32768) >>> (16 &&& 31 : Int32) : Int32))) (F, L, PC a b P) := by
      intro w hw
      unfold b_Ca_kind_126 at hw
      rw [mn255] at hw
      exact hw
    have e3 : l = 0 ∨ l = 1 ∨ l = 2 := by omega
    rcases e3 with rfl | rfl | rfl
    · rw [if_pos rfl, k255_0 (r := cvw F x y 0) (g := cvw F x y 1) (b := cvw F x y 2) (hB _ (by omega)) (hB _ (by omega)) (hB _ (by omega))]
      exact h.2 rfl
    · rw [if_neg (by decide), if_pos rfl]
      exact fin _ ((h.1 (by decide)).2 rfl)
    · rw [if_neg (by decide), if_neg (by decide)]
      exact fin _ ((h.1 (by decide)).1 (by decide))
theorem mn_n {p q : Nat} (hp : p < 2 ^ 31) (hq : q < 2 ^ 31) : i_min (nI p) (nI q) = nI (min p q) := by
  unfold i_min
  by_cases c : q < p
  · rw [if_pos (nI_lt c hp), Nat.min_eq_right (by omega)]
  · rw [if_neg (nI_nlt (by omega) hq), Nat.min_eq_left (by omega)]
abbrev rsg (F : cF) (l W H sx sy x y : Nat) : Nat → Int32 := fun t => kvF F l (min (W - 1) (x * sx + t % sx)) (min (H - 1) (y * sy + t / sx))
section R96
variable {x y : Nat} {R54 : Nat → Int32 → Int32 → Int32 → Int32 → cs → Prop} {R71 : Nat → Int32 → Int32 → Int32 → Int32 → Int32 → cs → Prop} {K : cs → Prop}
theorem q_ml96 (hl : l < 3) (w0 : F 1 0 = nI W) (w1 : F 1 1 = nI H) (hW : 1 ≤ W ∧ W ≤ 64) (hH : 1 ≤ H ∧ H ≤ 64) (hB : ∀ k, k < 12288 → B 0 255 (F 2 k)) (hsx : sx = 1 ∨ sx = 2) (hsy : sy = 1 ∨ sy = 2) (hx : x < 64) (hy : y < 64) (h : e_Pa_makeLayer_96 UL 4 1 (nI l) (nI sx) (nI sy) (nI y) (nI x) (nI (sx * sy / 2)) 0 (F, L, PC a b P) R54 R71 K) :
    R71 1 (nI l) (nI sx) (nI sy) (nI y) (nI x + 1) (va_up F 21 (upd (F 21) (4096 * l + 64 * y + x) (rsv (kvF F l) W H sx sy x y)), L, PC a b P) := by
  have ss : 1 ≤ sx * sy ∧ sx * sy ≤ 4 := by rcases hsx with e | e <;> rcases hsy with d | d <;> rw [e, d] <;> decide
  refine v_e_Pa_makeLayer_96 h (fun y7 y8 T => ∃ t, y7 = s32 (nI (sx * sy / 2)) (rsg F l W H sx sy x y) t ∧ y8 = nI t ∧ t ≤ sx * sy ∧ T = (F, L, PC a b P)) ⟨0, rfl, rfl, Nat.zero_le _, rfl⟩ ?_
  rintro y7 y8 T R ⟨t, rfl, rfl, ht, rfl⟩ hb
  unfold b_Pa_makeLayer_96 at hb
  rw [pk_mul] at hb
  by_cases e : t = sx * sy
  · right
    subst e
    obtain ⟨-, -, -, hb⟩ := hb.1 (Int32.le_refl _)
    unfold p_B_spot at hb
    obtain ⟨-, -, -, hb⟩ := hb
    rw [spot_n, nI_clamp (by omega)] at hb
    exact hb
  · left
    obtain ⟨-, -, -, hb⟩ := hb.2 (nI_ge (by omega) (by omega))
    have xs : sx * x ≤ 126 := by rcases hsx with e | e <;> rw [e] <;> omega
    have ys : sy * y ≤ 126 := by rcases hsy with e | e <;> rw [e] <;> omega
    have td : t / sx ≤ 4 := Nat.le_trans (Nat.div_le_self _ _) (by omega)
    have tm : t % sx ≤ 1 := by rcases hsx with e | e <;> rw [e] <;> omega
    have ex : i_min ((F, L, PC a b P).1 1 0 - 1) ((nI sx * nI x) + (nI t - nI t / nI sx * nI sx)) = nI (min (W - 1) (x * sx + t % sx)) := by
      show i_min (F 1 0 - 1) _ = _
      rw [w0, show (1 : Int32) = nI 1 from rfl, pk_sub hW.1, pk_rem (by omega) (by omega) (by omega), pk_mul, nI_add, mn_n (by omega) (by omega), Nat.mul_comm sx x]
    have ey : i_min ((F, L, PC a b P).1 1 1 - 1) ((nI sy * nI y) + (nI t / nI sx)) = nI (min (H - 1) (y * sy + t / sx)) := by
      show i_min (F 1 1 - 1) _ = _
      rw [w1, show (1 : Int32) = nI 1 from rfl, pk_sub hH.1, pk_div (by omega) (by omega) (by omega), pk_mul, nI_add, mn_n (by omega) (by omega), Nat.mul_comm sy y]
    rw [ex, ey] at hb
    have hR := q_kind hl (by omega) (by omega) hB hb
    exact ⟨_, _, _, hR, t + 1, rfl, nI_1 t, by omega, rfl⟩
end R96
variable {n : Nat} {A D : Nat → Nat} {K : cs → Prop}
/-- makeLayer(canvas, l) of the packer -/
theorem q_makeLayer (g : gC 12 F n W H A D) (gm : gM 12 F n W H A D) (w0 : F 1 0 = nI W) (w1 : F 1 1 = nI H) (hB : ∀ k, k < 12288 → B 0 255 (F 2 k)) (hl : l < n) (h : p_Pa_makeLayer UL 4 1 (nI l) (F, L, PC a b P) K) :
    ∃ Z, agc [] [21] F Z ∧ (∀ x y, x < up (W * A l) (mx A n) → y < up (H * D l) (mx D n) → Z 21 (4096 * l + 64 * y + x) = rsv (kvF F l) W H (mx A n / A l) (mx D n / D l) x y) ∧ (∀ k, (k < 4096 * l ∨ 4096 * l + 4096 ≤ k) → Z 21 k = F 21 k) ∧ K (Z, L, PC a b P) := by
  obtain ⟨g0, g1, g2, g5, g6, gn, gW, gH, gl0⟩ := g
  have gl := gl0 l hl
  have gml := gm.2.2 l hl
  have m1 : mx A n = 1 ∨ mx A n = 2 := mx_12 n (fun l hl => (gl0 l hl).2.2.1)
  have m2 : mx D n = 1 ∨ mx D n = 2 := mx_12 n (fun l hl => (gl0 l hl).2.2.2)
  have mA := mx_ge (A := A) n l hl
  have mD := mx_ge (A := D) n l hl
  have hsx : mx A n / A l = 1 ∨ mx A n / A l = 2 := by
    rcases gl.2.2.1 with e | e <;> rcases m1 with d | d <;> rw [e, d] <;> first | decide | omega
  have hsy : mx D n / D l = 1 ∨ mx D n / D l = 2 := by
    rcases gl.2.2.2 with e | e <;> rcases m2 with d | d <;> rw [e, d] <;> first | decide | omega
  have lw : up (W * A l) (mx A n) ≤ 64 := by
    unfold up
    rcases gl.2.2.1 with e | e <;> rcases m1 with d | d <;> rw [e, d] <;> omega
  have lh : up (H * D l) (mx D n) ≤ 64 := by
    unfold up
    rcases gl.2.2.2 with e | e <;> rcases m2 with d | d <;> rw [e, d] <;> omega
  have hl31 : (nI l).toNatClampNeg = l := nI_clamp (by omega)
  have fin : e_Pa_makeLayer_54 UL 4 1 (nI l) (nI (mx A n / A l)) (nI (mx D n / D l)) 0 (F, L, PC a b P) K := by
    unfold p_Pa_makeLayer at h
    obtain ⟨-, -, -, -, -, -, h⟩ := h
    rw [hl31] at h
    have h : (F 12 5 ≤ F 13 l → b_Pa_makeLayer_24 UL 4 1 (nI l) 1 (F, L, PC a b P) K) ∧ (¬ F 12 5 ≤ F 13 l → b_Pa_makeLayer_24 UL 4 1 (nI l) 2 (F, L, PC a b P) K) := h
    rw [g5, show F 13 l = nI (A l) from gl.1] at h
    have h24 : b_Pa_makeLayer_24 UL 4 1 (nI l) (nI (mx A n / A l)) (F, L, PC a b P) K := by
      rcases gl.2.2.1 with e | e <;> rcases m1 with d | d
      · rw [e, d] at h ⊢; exact h.1 (by decide)
      · rw [e, d] at h ⊢; exact h.2 (by decide)
      · omega
      · rw [e, d] at h ⊢; exact h.1 (by decide)
    unfold b_Pa_makeLayer_24 at h24
    obtain ⟨-, -, -, -, -, -, h⟩ := h24
    rw [hl31] at h
    have h : (F 12 6 ≤ F 14 l → b_Pa_makeLayer_49 UL 4 1 (nI l) (nI (mx A n / A l)) 1 (F, L, PC a b P) K) ∧ (¬ F 12 6 ≤ F 14 l → b_Pa_makeLayer_49 UL 4 1 (nI l) (nI (mx A n / A l)) 2 (F, L, PC a b P) K) := h
    rw [g6, show F 14 l = nI (D l) from gl.2.1] at h
    have h49 : b_Pa_makeLayer_49 UL 4 1 (nI l) (nI (mx A n / A l)) (nI (mx D n / D l)) (F, L, PC a b P) K := by
      rcases gl.2.2.2 with e | e <;> rcases m2 with d | d
      · rw [e, d] at h ⊢; exact h.1 (by decide)
      · rw [e, d] at h ⊢; exact h.2 (by decide)
      · omega
      · rw [e, d] at h ⊢; exact h.1 (by decide)
    exact h49
  refine v_e_Pa_makeLayer_54 fin (fun y5 T => ∃ y G, y5 = nI y ∧ y ≤ up (H * D l) (mx D n) ∧ T = (G, L, PC a b P) ∧ agc [] [21] F G ∧ (∀ x y', x < up (W * A l) (mx A n) → y' < y → G 21 (4096 * l + 64 * y' + x) = rsv (kvF F l) W H (mx A n / A l) (mx D n / D l) x y') ∧ ∀ k, (k < 4096 * l ∨ 4096 * l + 4096 ≤ k) → G 21 k = F 21 k) ⟨0, F, rfl, Nat.zero_le _, rfl, agc_refl, fun _ y' _ hy => absurd hy (Nat.not_lt_zero _), fun _ _ => rfl⟩ ?_
  rintro y5 T R ⟨y, G, rfl, hy, rfl, ha, hc, hd⟩ hb
  unfold b_Pa_makeLayer_54 at hb
  obtain ⟨-, -, -, -, -, hb⟩ := hb
  rw [hl31] at hb
  have hb : (G 16 l ≤ nI y → K (G, L, PC a b P)) ∧ (¬ G 16 l ≤ nI y → e_Pa_makeLayer_71 UL 4 1 (nI l) (nI (mx A n / A l)) (nI (mx D n / D l)) (nI y) 0 (G, L, PC a b P) R K) := hb
  rw [show G 16 = F 16 from ha.2 16 rfl rfl, show F 16 l = _ from gml.2.1] at hb
  by_cases e : y = up (H * D l) (mx D n)
  · right
    subst e
    exact ⟨G, ha, hc, hd, hb.1 (Int32.le_refl _)⟩
  · left
    have hb := hb.2 (nI_ge (by omega) (by omega))
    have row : ∃ Z, agc [] [21] G Z ∧ (∀ k, Z 21 k = if 4096 * l + 64 * y ≤ k ∧ k < 4096 * l + 64 * y + up (W * A l) (mx A n) then rsv (kvF F l) W H (mx A n / A l) (mx D n / D l) (k - (4096 * l + 64 * y)) y else G 21 k) ∧ R 1 (nI l) (nI (mx A n / A l)) (nI (mx D n / D l)) (nI y + 1) (Z, L, PC a b P) := by
      refine v_e_Pa_makeLayer_71 hb (fun y6 V => ∃ x Y, y6 = nI x ∧ x ≤ up (W * A l) (mx A n) ∧ V = (Y, L, PC a b P) ∧ agc [] [21] G Y ∧ ∀ k, Y 21 k = if 4096 * l + 64 * y ≤ k ∧ k < 4096 * l + 64 * y + x then rsv (kvF F l) W H (mx A n / A l) (mx D n / D l) (k - (4096 * l + 64 * y)) y else G 21 k) ⟨0, G, rfl, Nat.zero_le _, rfl, agc_refl, fun k => by rw [if_neg (by omega)]⟩ ?_
      rintro y6 V R' ⟨x, Y, rfl, hx, rfl, hv, hvc⟩ hb
      have hsv := agc_tr ha hv rfl rfl
      have kV : kvF Y l = kvF F l := by
        funext x y
        unfold kvF cvw
        rw [hsv.1 1 2 rfl rfl, hsv.2 2 rfl rfl]
      unfold b_Pa_makeLayer_71 at hb
      obtain ⟨-, -, -, -, -, hb⟩ := hb
      rw [hl31] at hb
      have hb : (Y 15 l ≤ nI x → R 1 (nI l) (nI (mx A n / A l)) (nI (mx D n / D l)) (nI y + 1) (Y, L, PC a b P)) ∧ (¬ Y 15 l ≤ nI x → e_Pa_makeLayer_96 UL 4 1 (nI l) (nI (mx A n / A l)) (nI (mx D n / D l)) (nI y) (nI x) ((nI (mx A n / A l) * nI (mx D n / D l)) / 2) 0 (Y, L, PC a b P) R R' K) := hb
      rw [show Y 15 = F 15 from hsv.2 15 rfl rfl, show F 15 l = _ from gml.1] at hb
      by_cases e2 : x = up (W * A l) (mx A n)
      · right
        subst e2
        exact ⟨Y, hv, hvc, hb.1 (Int32.le_refl _)⟩
      · left
        have hb := hb.2 (nI_ge (by omega) (by omega))
        rw [pk_mul, show (nI (mx A n / A l * (mx D n / D l)) / 2 : Int32) = nI (mx A n / A l * (mx D n / D l) / 2) from pk_div (d := 2) (by rcases hsx with e | e <;> rcases hsy with d | d <;> rw [e, d] <;> decide) (by decide) (by decide)] at hb
        have hR := q_ml96 (W := W) (H := H) (by omega) ((hsv.1 1 0 rfl rfl).trans w0) ((hsv.1 1 1 rfl rfl).trans w1) gW gH (by rw [hsv.2 2 rfl rfl]; exact hB) hsx hsy (by omega) (by omega) hb
        refine ⟨_, _, hR, x + 1, _, nI_1 x, by omega, rfl, agc_r hv rfl rfl, fun k => ?_⟩
        rw [vu_at, kV]
        by_cases e3 : k = 4096 * l + 64 * y + x
        · rw [e3, upd_at, if_pos (by omega), show 4096 * l + 64 * y + x - (4096 * l + 64 * y) = x by omega]
        · rw [upd_ne e3, hvc k]
          by_cases e4 : 4096 * l + 64 * y ≤ k ∧ k < 4096 * l + 64 * y + x
          · rw [if_pos e4, if_pos (by omega)]
          · rw [if_neg e4, if_neg (by omega)]
    obtain ⟨Z, z1, z2, hR⟩ := row
    refine ⟨_, _, hR, y + 1, Z, nI_1 y, by omega, rfl, agc_tr ha z1 rfl rfl, fun x y' hx hy' => ?_, fun k hk => ?_⟩
    · rw [z2]
      by_cases e2 : y' = y
      · rw [e2, if_pos (by omega), show 4096 * l + 64 * y + x - (4096 * l + 64 * y) = x by omega]
      · rw [if_neg (by omega)]
        exact hc x y' hx (by omega)
    · rw [z2, if_neg (by omega)]
      exact hd k hk
end CLS

/-! LEVELS of a block, both sides -/
def sl (k : Nat) : Nat := row_sl.getD k 0
theorem sl_lt (k : Nat) : sl k < 64 := by
  by_cases h : k < 64
  · exact sl_ok k h
  · have e : row_sl.getD k 0 = 0 := by
      rw [List.getD_eq_getElem?_getD, List.getElem?_eq_none (show row_sl.length ≤ k from Nat.le_trans (by decide) (Nat.le_of_not_lt h))]
      rfl
    show row_sl.getD k 0 < 64
    rw [e]
    decide
theorem rw_sl (k : Nat) : rw_at row_sl k = nI (sl k) := rfl
def lvv (f e : Int32) : Int32 := if 0 ≤ f then (f + e / 2) / e else -((-f + e / 2) / e)
/-- the samples of block b of a layer lw by lh, whose grid is gw wide; rs: the layer's samples -/
def bkf (rs : Nat → Nat → Int32) (lw lh gw b k : Nat) : Int32 := rs (min (lw - 1) (8 * (b % gw) + k % 8)) (min (lh - 1) (8 * (b / gw) + k / 8))
def lvk (W en blk : Nat → Int32) (k : Nat) : Int32 := lvv (wgv W (fun j => hfv W blk (j / 8) (j % 8)) (sl k / 8) (sl k % 8)) (en (sl k))
theorem hfv_congr {W W' s s' : Nat → Int32} {y u : Nat} (hy : y < 8) (hu : u < 8) (hW : ∀ k, k < 64 → W k = W' k) (hs : ∀ k, k < 64 → s k = s' k) : hfv W s y u = hfv W' s' y u := by
  unfold hfv
  rw [s64_congr 8 (fun x hx => ?_)]
  rw [hW _ (by omega), hs _ (by omega)]
theorem wgv_congr {W W' : Nat → Int32} {h h' : Nat → Int64} {v u : Nat} (hv : v < 8) (hu : u < 8) (hW : ∀ k, k < 64 → W k = W' k) (hh : ∀ k, k < 64 → h k = h' k) : wgv W h v u = wgv W' h' v u := by
  unfold wgv
  rw [s64_congr 8 (fun x hx => ?_)]
  rw [hW _ (by omega), hh _ (by omega)]
theorem lvk_congr {W W' en en' blk blk' : Nat → Int32} {k : Nat} (hW : ∀ k, k < 64 → W k = W' k) (he : ∀ k, k < 64 → en k = en' k) (hb : ∀ k, k < 64 → blk k = blk' k) : lvk W en blk k = lvk W' en' blk' k := by
  have h := sl_lt k
  unfold lvk
  rw [he _ h, wgv_congr (by omega) (by omega) hW (fun j hj => hfv_congr (by omega) (by omega) hW hb)]
theorem n_rem8 {k : Nat} (h : k < 64) : (nI k - nI k / 8 * 8 : Int32) = nI (k % 8) := pk_rem (d := 8) (by omega) (by decide) (by decide)
theorem n_div8 {k : Nat} (h : k < 64) : (nI k / 8 : Int32) = nI (k / 8) := pk_div (d := 8) (by omega) (by decide) (by decide)
section REF
variable {S : ms} {K : ms → Prop} {l bk lw lh x0 y0 : Nat}
theorem q_ml48 (hl : l < 3) (hb64 : bk < 64) (hw : 1 ≤ lw ∧ lw ≤ 64) (hh : 1 ≤ lh ∧ lh ≤ 64) (hx : x0 ≤ 56) (hy : y0 ≤ 56) (h : e_makeLevels_48 (nI l) (nI bk) (nI (lw - 1)) (nI (lh - 1)) (nI x0) (nI y0) 0 S K) :
    ∃ Z, ag [] [25] S Z ∧ (∀ k, k < 64 → Z.2.1 25 k = S.2.1 21 (64 * min (lh - 1) (y0 + k / 8) + min (lw - 1) (x0 + k % 8))) ∧ p_toWeights Z (fun S124 => e_makeLevels_130 (nI l) (nI bk) 0 (S124.1, S124.2.1, S124.2.2) K) := by
  refine v_e_makeLevels_48 h (fun y7 T => ∃ k, y7 = nI k ∧ k ≤ 64 ∧ ag [] [25] S T ∧ ∀ j, j < k → T.2.1 25 j = S.2.1 21 (64 * min (lh - 1) (y0 + j / 8) + min (lw - 1) (x0 + j % 8))) ⟨0, rfl, by decide, ag_refl, fun j hj => absurd hj (Nat.not_lt_zero _)⟩ ?_
  rintro y7 T R ⟨k, rfl, hk, ha, hc⟩ hb
  unfold b_makeLevels_48 at hb
  by_cases e : k = 64
  · right
    subst e
    exact ⟨T, ha, hc, hb.1 (Int32.le_refl _)⟩
  · left
    have hb := hb.2 (nI_ge (b := 64) (by omega) (by decide))
    rw [n_rem8 (by omega), n_div8 (by omega), nI_add, nI_add] at hb
    have fin : ∀ a b' : Nat, a = min (lw - 1) (x0 + k % 8) → b' = min (lh - 1) (y0 + k / 8) → b_makeLevels_114 (nI l) (nI bk) (nI (lw - 1)) (nI (lh - 1)) (nI x0) (nI y0) (nI k) (nI k) (64 * nI b') (nI a) T R K → ∃ (zx7 : Int32) (zS : ms), R (nI l) (nI bk) (nI (lw - 1)) (nI (lh - 1)) (nI x0) (nI y0) zx7 zS ∧ ∃ k, zx7 = nI k ∧ k ≤ 64 ∧ ag [] [25] S zS ∧ ∀ j, j < k → zS.2.1 25 j = S.2.1 21 (64 * min (lh - 1) (y0 + j / 8) + min (lw - 1) (x0 + j % 8)) := by
      intro a b' ha' hb' hq
      unfold b_makeLevels_114 at hq
      obtain ⟨-, -, hR⟩ := hq
      rw [show (64 : Int32) = nI 64 from rfl, pk_mul, nI_add, nI_clamp (show k < 2 ^ 31 by omega), nI_clamp (by omega)] at hR
      refine ⟨_, _, hR, k + 1, nI_1 k, by omega, ag_r ha rfl, fun j hj => ?_⟩
      show va_up T.2.1 25 (upd (T.2.1 25) k (T.2.1 21 (64 * b' + a))) 25 j = _
      rw [vu_at, show T.2.1 21 = S.2.1 21 from ha.2 21 rfl]
      by_cases e2 : j = k
      · rw [e2, upd_at, ha', hb']
      · rw [upd_ne e2]
        exact hc j (by omega)
    have second : ∀ b' : Nat, b' = min (lh - 1) (y0 + k / 8) → b_makeLevels_101 (nI l) (nI bk) (nI (lw - 1)) (nI (lh - 1)) (nI x0) (nI y0) (nI k) (nI (x0 + k % 8)) (nI k) 64 (nI b') T R K → ∃ (zx7 : Int32) (zS : ms), R (nI l) (nI bk) (nI (lw - 1)) (nI (lh - 1)) (nI x0) (nI y0) zx7 zS ∧ ∃ k, zx7 = nI k ∧ k ≤ 64 ∧ ag [] [25] S zS ∧ ∀ j, j < k → zS.2.1 25 j = S.2.1 21 (64 * min (lh - 1) (y0 + j / 8) + min (lw - 1) (x0 + j % 8)) := by
      intro b' hb' hq
      unfold b_makeLevels_101 at hq
      by_cases d : lw - 1 ≤ x0 + k % 8
      · exact fin _ b' (by omega) hb' (hq.1 (nI_le d (by omega)))
      · exact fin _ b' (by omega) hb' (hq.2 (nI_ge (by omega) (by omega)))
    by_cases d : lh - 1 ≤ y0 + k / 8
    · exact second _ (by omega) (hb.1 (nI_le d (by omega)))
    · exact second _ (by omega) (hb.2 (nI_ge (by omega) (by omega)))
theorem q_ml130 (hl : l < 3) (hb64 : bk < 64) (ho : ∀ k, k < 64 → S.2.1 22 k = nI (sl k)) (h : e_makeLevels_130 (nI l) (nI bk) 0 S K) :
    ∃ Z, ag [] [19] S Z ∧ (∀ k, Z.2.1 19 k = if 64 * (64 * l + bk) ≤ k ∧ k < 64 * (64 * l + bk) + 64 then lvv (S.2.1 25 (sl (k - 64 * (64 * l + bk)))) (S.2.1 5 ((if l = 0 then 0 else 64) + sl (k - 64 * (64 * l + bk)))) else S.2.1 19 k) ∧ K Z := by
  refine v_e_makeLevels_130 h (fun y7 T => ∃ q, y7 = nI q ∧ q ≤ 64 ∧ ag [] [19] S T ∧ ∀ k, T.2.1 19 k = if 64 * (64 * l + bk) ≤ k ∧ k < 64 * (64 * l + bk) + q then lvv (S.2.1 25 (sl (k - 64 * (64 * l + bk)))) (S.2.1 5 ((if l = 0 then 0 else 64) + sl (k - 64 * (64 * l + bk)))) else S.2.1 19 k) ⟨0, rfl, by decide, ag_refl, fun k => by rw [if_neg (by omega)]⟩ ?_
  rintro y7 T R ⟨q, rfl, hq, ha, hc⟩ hb
  unfold b_makeLevels_130 at hb
  by_cases e : q = 64
  · right
    subst e
    exact ⟨T, ha, hc, hb.1 (Int32.le_refl _)⟩
  · left
    have s64q := sl_lt q
    obtain ⟨-, -, hb⟩ := hb.2 (nI_ge (b := 64) (by omega) (by decide))
    have e22 : T.2.1 22 q = nI (sl q) := by rw [ha.2 22 rfl]; exact ho q (by omega)
    have e25 : T.2.1 25 = S.2.1 25 := ha.2 25 rfl
    have e5 : T.2.1 5 = S.2.1 5 := ha.2 5 rfl
    have cq : (nI q).toNatClampNeg = q := nI_clamp (by omega)
    rw [cq, e22, nI_clamp (show sl q < 2 ^ 31 by omega), e25] at hb
    have go : ∀ o : Nat, o = (if l = 0 then 0 else 64) → b_makeLevels_165 (nI l) (nI bk) (nI q) (S.2.1 25 (sl q)) (nI o) T R K → R (nI l) (nI bk) (nI q + 1) (T.1, va_up T.2.1 19 (upd (T.2.1 19) (64 * (64 * l + bk) + q) (lvv (S.2.1 25 (sl q)) (S.2.1 5 ((if l = 0 then 0 else 64) + sl q)))), T.2.2) := by
      intro o ho' hb
      have ob : o ≤ 64 := by rw [ho']; split <;> decide
      unfold b_makeLevels_165 at hb
      obtain ⟨-, -, hb⟩ := hb
      rw [cq, e22, nI_add, nI_clamp (show o + sl q < 2 ^ 31 by omega), e5] at hb
      rw [← ho']
      have fin : ∀ w : Int32, b_makeLevels_224 (nI l) (nI bk) (nI q) ((64 * ((64 * ((3 * 0) + nI l)) + nI bk)) + nI q) w T R K → R (nI l) (nI bk) (nI q + 1) (T.1, va_up T.2.1 19 (upd (T.2.1 19) (64 * (64 * l + bk) + q) w), T.2.2) := by
        intro w hw
        unfold b_makeLevels_224 at hw
        rw [cellN (by omega) (by omega) (by omega), nI_clamp (by omega)] at hw
        exact hw.2
      unfold lvv
      by_cases c : 0 ≤ S.2.1 25 (sl q)
      · rw [if_pos c]
        have hb := hb.1 c
        unfold b_makeLevels_189 p_levelCell at hb
        exact fin _ (hb.2.1 c)
      · rw [if_neg c]
        have hb := hb.2 c
        unfold b_makeLevels_189 p_levelCell at hb
        exact fin _ (hb.2.2 c)
    have hR : R (nI l) (nI bk) (nI q + 1) (T.1, va_up T.2.1 19 (upd (T.2.1 19) (64 * (64 * l + bk) + q) (lvv (S.2.1 25 (sl q)) (S.2.1 5 ((if l = 0 then 0 else 64) + sl q)))), T.2.2) := by
      by_cases d : l = 0
      · subst d
        exact go 0 rfl (hb.2 rfl)
      · exact go 64 (by rw [if_neg d]) (hb.1 (nI_ne0 (by omega) (by omega)))
    refine ⟨_, _, hR, q + 1, nI_1 q, by omega, ag_r ha rfl, fun k => ?_⟩
    show va_up T.2.1 19 (upd (T.2.1 19) (64 * (64 * l + bk) + q) (lvv (S.2.1 25 (sl q)) (S.2.1 5 ((if l = 0 then 0 else 64) + sl q)))) 19 k = _
    rw [vu_at]
    by_cases e2 : k = 64 * (64 * l + bk) + q
    · rw [e2, upd_at, if_pos (show 64 * (64 * l + bk) ≤ 64 * (64 * l + bk) + q ∧ 64 * (64 * l + bk) + q < 64 * (64 * l + bk) + (q + 1) from by omega), show 64 * (64 * l + bk) + q - 64 * (64 * l + bk) = q by omega]
    · rw [upd_ne e2, hc k]
      by_cases e3 : 64 * (64 * l + bk) ≤ k ∧ k < 64 * (64 * l + bk) + q
      · rw [if_pos e3, if_pos (show 64 * (64 * l + bk) ≤ k ∧ k < 64 * (64 * l + bk) + (q + 1) from by omega)]
      · rw [if_neg e3, if_neg (show ¬ (64 * (64 * l + bk) ≤ k ∧ k < 64 * (64 * l + bk) + (q + 1)) from by omega)]
variable {n W H : Nat} {A D : Nat → Nat} {rs : Nat → Nat → Int32}
theorem lw_b {W A m : Nat} (hW : 1 ≤ W ∧ W ≤ 64) (hA : A = 1 ∨ A = 2) (hm : m = 1 ∨ m = 2) (hAm : A ≤ m) : 1 ≤ up (W * A) m ∧ up (W * A) m ≤ 64 := by
  unfold up
  rcases hA with rfl | rfl <;> rcases hm with rfl | rfl <;> omega
theorem q_makeLevels (g : gR 0 S n W H A D) (gg : gG2 0 S n W H A D) (hl : l < n) (hbk : bk < A l * up W (8 * mx A n) * (D l * up H (8 * mx D n))) (h64 : bk < 64) (ho : ∀ k, k < 64 → S.2.1 22 k = nI (sl k))
    (hrs : ∀ x y, x < up (W * A l) (mx A n) → y < up (H * D l) (mx D n) → S.2.1 21 (64 * y + x) = rs x y) (h : p_makeLevels (nI l) (nI bk) S K) :
    ∃ Z, ag [] [19, 25] S Z ∧ (∀ k, Z.2.1 19 k = if 64 * (64 * l + bk) ≤ k ∧ k < 64 * (64 * l + bk) + 64 then lvk (S.2.1 23) (fun j => S.2.1 5 ((if l = 0 then 0 else 64) + j)) (bkf rs (up (W * A l) (mx A n)) (up (H * D l) (mx D n)) (A l * up W (8 * mx A n)) bk) (k - 64 * (64 * l + bk)) else S.2.1 19 k) ∧ K Z := by
  have n3 := g.n3
  have gl := g.2.2.2.2.2.2 l hl
  have gW := g.2.2.2.2.1
  have gH := g.2.2.2.2.2.1
  have b1 := lw_b gW gl.2.2.1 g.mA (mx_ge n l hl)
  have b2 := lw_b gH gl.2.2.2 g.mD (mx_ge n l hl)
  have hl31 : (nI l).toNatClampNeg = l := nI_clamp (by omega)
  have g17 : S.2.1 17 l = nI (A l * up W (8 * mx A n)) := by have := (gg l hl).1; rw [Nat.mul_zero, Nat.zero_add] at this; exact this
  have gw8 : 1 ≤ A l * up W (8 * mx A n) ∧ A l * up W (8 * mx A n) ≤ 8 := by
    have m1 := g.mA
    have ma := mx_ge (A := A) n l hl
    unfold up
    rcases gl.2.2.1 with e | e <;> rcases m1 with d | d <;> rw [e, d] <;> omega
  have gh8 : D l * up H (8 * mx D n) ≤ 8 := by
    have m1 := g.mD
    have ma := mx_ge (A := D) n l hl
    unfold up
    rcases gl.2.2.2 with e | e <;> rcases m1 with d | d <;> rw [e, d] <;> omega
  have bd : bk / (A l * up W (8 * mx A n)) < 8 := by
    refine Nat.lt_of_lt_of_le (Nat.div_lt_of_lt_mul hbk) gh8
  have bm : bk % (A l * up W (8 * mx A n)) < 8 := Nat.lt_of_lt_of_le (Nat.mod_lt _ (by omega)) gw8.2
  unfold p_makeLevels at h
  have h := q_layerWide (q := 0) (by decide) g hl h
  have h := q_layerHigh (q := 0) (M := (S.1, S.2.1, S.2.2)) (by decide) g hl h
  obtain ⟨-, -, -, -, h⟩ := h
  dsimp only at h
  rw [hl31, g17, show (1 : Int32) = nI 1 from rfl, pk_sub b1.1, pk_sub b2.1, pk_rem (by omega) (by omega) (by omega), pk_div (by omega) (by omega) (by omega), show (8 : Int32) = nI 8 from rfl, pk_mul, pk_mul] at h
  obtain ⟨Z, z1, z2, h⟩ := q_ml48 (by omega) h64 b1 b2 (by omega) (by omega) h
  obtain ⟨Y, y1, y2, h⟩ := q_toWeights h
  have sy := ag_tr (ag_tr (ag_refl (fs := []) (rs := [25])) z1 rfl rfl) y1 rfl rfl
  obtain ⟨X, w1, w2, hk⟩ := q_ml130 (S := (Y.1, Y.2.1, Y.2.2)) (by omega) h64 (by show ∀ k, k < 64 → Y.2.1 22 k = _; rw [sy.2 22 rfl]; exact ho) h
  refine ⟨X, ag_tr (ag_tr (ag_refl (fs := []) (rs := [19, 25])) sy rfl rfl) w1 rfl rfl, fun k => ?_, hk⟩
  rw [w2 k]
  by_cases e : 64 * (64 * l + bk) ≤ k ∧ k < 64 * (64 * l + bk) + 64
  · rw [if_pos e, if_pos e]
    show lvv (Y.2.1 25 _) (Y.2.1 5 _) = _
    rw [y2 _ (sl_lt _), show Y.2.1 5 = S.2.1 5 from sy.2 5 rfl, show Z.2.1 23 = S.2.1 23 from z1.2 23 rfl]
    unfold lvk
    have s := sl_lt (k - 64 * (64 * l + bk))
    rw [wgv_congr (by omega) (by omega) (fun _ _ => rfl) (fun j hj => hfv_congr (by omega) (by omega) (fun _ _ => rfl) (fun t ht => ?_))]
    rw [z2 t ht]
    exact hrs _ _ (by omega) (by omega)
  · rw [if_neg e, if_neg e]
    exact congrFun (sy.2 19 rfl) k
end REF

/-! LEVELS of a block on the class's side -/
theorem mx1_n {q : Nat} (h : 1 ≤ q) (hq : q < 2 ^ 31) : i_max 1 (nI q) = nI q := by
  unfold i_max
  by_cases c : (1 : Int32) < nI q
  · rw [if_pos c]
  · rw [if_neg c]
    have : ¬ 1 < q := fun x => c (nI_lt (a := 1) x hq)
    obtain rfl : q = 1 := by omega
    rfl
theorem mx1_B {e : Int32} (h : 1 ≤ e.toInt) : i_max 1 e = e := by
  unfold i_max
  by_cases c : (1 : Int32) < e
  · rw [if_pos c]
  · rw [if_neg c]
    have h1 := i_le (nlt_le c)
    have z1 : (1 : Int32).toInt = 1 := by decide
    exact Int32.toInt.inj (by omega)
theorem zsub (x : Int32) : 0 - x = -x := Int32.zero_sub x
section CLS
variable {F : cF} {L : cL} {a b : Bool} {P : Nat → Nat → Nat} {K : cs → Prop} {l bk lw lh x0 y0 : Nat}
theorem q_mb73 (hl : l < 3) (hb64 : bk < 64) (hw : 1 ≤ lw ∧ lw ≤ 64) (hh : 1 ≤ lh ∧ lh ≤ 64) (hx : x0 ≤ 56) (hy : y0 ≤ 56) {x1 : Int32} (h : e_Pa_makeBlock_73 UL 4 x1 3 (nI l) (nI x0) (nI y0) (nI (lw - 1)) (nI (lh - 1)) 0 (F, L, PC a b P) K) :
    ∃ Z, agc [] [9] F Z ∧ (∀ k, k < 64 → Z 9 k = F 21 (4096 * l + 64 * min (lh - 1) (y0 + k / 8) + min (lw - 1) (x0 + k % 8))) ∧ p_Wa_makeWeights UL 7 (Z, L, PC a b P) (fun S146 => e_Pa_makeBlock_152 UL 4 x1 3 (nI l) 0 S146 K) := by
  refine v_e_Pa_makeBlock_73 h (fun y9 T => ∃ k G, y9 = nI k ∧ k ≤ 64 ∧ T = (G, L, PC a b P) ∧ agc [] [9] F G ∧ ∀ j, j < k → G 9 j = F 21 (4096 * l + 64 * min (lh - 1) (y0 + j / 8) + min (lw - 1) (x0 + j % 8))) ⟨0, F, rfl, by decide, rfl, agc_refl, fun j hj => absurd hj (Nat.not_lt_zero _)⟩ ?_
  rintro y9 T R ⟨k, G, rfl, hk, rfl, ha, hc⟩ hb
  unfold b_Pa_makeBlock_73 at hb
  by_cases e : k = 64
  · right
    subst e
    obtain ⟨-, -, hb⟩ := hb.1 (Int32.le_refl _)
    exact ⟨G, ha, hc, hb⟩
  · left
    obtain ⟨-, -, -, -, -, -, hb⟩ := hb.2 (nI_ge (b := 64) (by omega) (by decide))
    unfold p_B_spot at hb
    obtain ⟨-, -, -, -, hR⟩ := hb
    have hR : R x1 3 (nI l) (nI x0) (nI y0) (nI (lw - 1)) (nI (lh - 1)) (nI k + 1) (va_up G 9 (upd (G 9) (nI k).toNatClampNeg (G 21 (((4096 * nI l) + (64 * i_min (nI (lh - 1)) (nI y0 + (nI k / 8)))) + i_min (nI (lw - 1)) (nI x0 + (nI k - nI k / 8 * 8)) : Int32).toNatClampNeg)), L, PC a b P) := hR
    rw [n_rem8 (by omega), n_div8 (by omega), nI_add, nI_add, mn_n (by omega) (by omega), mn_n (by omega) (by omega), spot_n, nI_clamp (show k < 2 ^ 31 by omega), nI_clamp (by omega)] at hR
    refine ⟨_, _, hR, k + 1, _, nI_1 k, by omega, rfl, agc_r ha rfl rfl, fun j hj => ?_⟩
    rw [vu_at, show G 21 = F 21 from ha.2 21 rfl rfl]
    by_cases e2 : j = k
    · rw [e2, upd_at]
    · rw [upd_ne e2]
      exact hc j (by omega)
theorem q_mb152 (hl : l < 3) (hb64 : bk < 64) (hE : ∀ k, k < 128 → 1 ≤ (F 3 k).toInt) (h : e_Pa_makeBlock_152 UL 4 (nI (64 * l + bk)) 3 (nI l) 0 (F, L, PC a b P) K) :
    ∃ Z, agc [] [19] F Z ∧ (∀ k, Z 19 k = if 64 * (64 * l + bk) ≤ k ∧ k < 64 * (64 * l + bk) + 64 then lvv (F 10 (sl (k - 64 * (64 * l + bk)))) (F 3 ((if l = 0 then 0 else 64) + sl (k - 64 * (64 * l + bk)))) else F 19 k) ∧ K (Z, L, PC a b P) := by
  refine v_e_Pa_makeBlock_152 h (fun y9 T => ∃ q G, y9 = nI q ∧ q ≤ 64 ∧ T = (G, L, PC a b P) ∧ agc [] [19] F G ∧ ∀ k, G 19 k = if 64 * (64 * l + bk) ≤ k ∧ k < 64 * (64 * l + bk) + q then lvv (F 10 (sl (k - 64 * (64 * l + bk)))) (F 3 ((if l = 0 then 0 else 64) + sl (k - 64 * (64 * l + bk)))) else F 19 k) ⟨0, F, rfl, by decide, rfl, agc_refl, fun k => by rw [if_neg (by omega)]⟩ ?_
  rintro y9 T R ⟨q, G, rfl, hq, rfl, ha, hc⟩ hb
  unfold b_Pa_makeBlock_152 at hb
  by_cases e : q = 64
  · right
    subst e
    exact ⟨G, ha, hc, hb.1 (Int32.le_refl _)⟩
  · left
    have s64q := sl_lt q
    obtain ⟨-, -, -, -, -, -, hb⟩ := hb.2 (nI_ge (b := 64) (by omega) (by decide))
    have e10 : G 10 = F 10 := ha.2 10 rfl rfl
    have e3 : G 3 = F 3 := ha.2 3 rfl rfl
    have cq : (nI q).toNatClampNeg = q := nI_clamp (by omega)
    unfold p_Pa_kindOf b_Pa_kindOf_9 at hb
    have go : ∀ o : Nat, o = (if l = 0 then 0 else 64) → ∀ {A1 A2 A3 A4 A5 A6 A7 : Prop}, A1 ∧ (A2 ∧ (A3 ∧ (A4 ∧ (A5 ∧ (A6 ∧ (A7 ∧ ((0 ≤ G 10 (sl q) → b_Pa_makeBlock_239 UL 4 (nI (64 * l + bk)) 3 (nI l) (nI q) 19 ((64 * nI (64 * l + bk)) + nI q) ((i_abs (G 10 (sl q)) + i_max 1 (G 3 (o + sl q)) / 2) / i_max 1 (G 3 (o + sl q))) (G, L, PC a b P) R K) ∧ (¬ 0 ≤ G 10 (sl q) → b_Pa_makeBlock_239 UL 4 (nI (64 * l + bk)) 3 (nI l) (nI q) 19 ((64 * nI (64 * l + bk)) + nI q) (-((i_abs (G 10 (sl q)) + i_max 1 (G 3 (o + sl q)) / 2) / i_max 1 (G 3 (o + sl q)))) (G, L, PC a b P) R K)))))))) → R (nI (64 * l + bk)) 3 (nI l) (nI q + 1) (va_up G 19 (upd (G 19) (64 * (64 * l + bk) + q) (lvv (F 10 (sl q)) (F 3 ((if l = 0 then 0 else 64) + sl q)))), L, PC a b P) := by
      intro o ho A1 A2 A3 A4 A5 A6 A7 hb
      obtain ⟨-, -, -, -, -, -, -, hb⟩ := hb
      have ob : o ≤ 64 := by rw [ho]; split <;> decide
      have hE1 := hE (o + sl q) (by omega)
      rw [e10, e3, mx1_B hE1] at hb
      rw [← ho]
      have fin : ∀ w : Int32, b_Pa_makeBlock_239 UL 4 (nI (64 * l + bk)) 3 (nI l) (nI q) 19 ((64 * nI (64 * l + bk)) + nI q) w (G, L, PC a b P) R K → R (nI (64 * l + bk)) 3 (nI l) (nI q + 1) (va_up G 19 (upd (G 19) (64 * (64 * l + bk) + q) w), L, PC a b P) := by
        intro w hw
        unfold b_Pa_makeBlock_239 at hw
        obtain ⟨-, -, hw⟩ := hw
        rw [show (64 : Int32) = nI 64 from rfl, pk_mul, nI_add, nI_clamp (by omega)] at hw
        exact hw
      unfold lvv
      unfold i_abs at hb
      by_cases c : 0 ≤ F 10 (sl q)
      · rw [if_pos c]
        rw [if_pos c] at hb
        exact fin _ (hb.1 c)
      · rw [if_neg c]
        rw [if_neg c, zsub] at hb
        exact fin _ (hb.2 c)
    have hR : R (nI (64 * l + bk)) 3 (nI l) (nI q + 1) (va_up G 19 (upd (G 19) (64 * (64 * l + bk) + q) (lvv (F 10 (sl q)) (F 3 ((if l = 0 then 0 else 64) + sl q)))), L, PC a b P) := by
      by_cases d : l = 0
      · subst d
        have hb := hb.2 rfl
        rw [cq, rw_sl, show ((64 * 0) + nI (sl q) : Int32) = nI (0 + sl q) from by rw [show (64 * 0 : Int32) = nI 0 from rfl, nI_add], nI_clamp (show sl q < 2 ^ 31 by omega), nI_clamp (show 0 + sl q < 2 ^ 31 by omega)] at hb
        exact go 0 rfl hb
      · have hb := hb.1 (nI_ne0 (by omega) (by omega))
        rw [cq, rw_sl, show ((64 * 1) + nI (sl q) : Int32) = nI (64 + sl q) from by rw [show (64 * 1 : Int32) = nI 64 from rfl, nI_add], nI_clamp (show sl q < 2 ^ 31 by omega), nI_clamp (show 64 + sl q < 2 ^ 31 by omega)] at hb
        exact go 64 (by rw [if_neg d]) hb
    refine ⟨_, _, hR, q + 1, _, nI_1 q, by omega, rfl, agc_r ha rfl rfl, fun k => ?_⟩
    rw [vu_at]
    by_cases e2 : k = 64 * (64 * l + bk) + q
    · rw [e2, upd_at, if_pos (show 64 * (64 * l + bk) ≤ 64 * (64 * l + bk) + q ∧ 64 * (64 * l + bk) + q < 64 * (64 * l + bk) + (q + 1) from by omega), show 64 * (64 * l + bk) + q - 64 * (64 * l + bk) = q by omega]
    · rw [upd_ne e2, hc k]
      by_cases e3 : 64 * (64 * l + bk) ≤ k ∧ k < 64 * (64 * l + bk) + q
      · rw [if_pos e3, if_pos (show 64 * (64 * l + bk) ≤ k ∧ k < 64 * (64 * l + bk) + (q + 1) from by omega)]
      · rw [if_neg e3, if_neg (show ¬ (64 * (64 * l + bk) ≤ k ∧ k < 64 * (64 * l + bk) + (q + 1)) from by omega)]
variable {n W H : Nat} {A D : Nat → Nat} {rs : Nat → Nat → Int32}
theorem q_makeBlock (g : gC 12 F n W H A D) (gm : gM 12 F n W H A D) (hl : l < n) (hbk : bk < A l * up W (8 * mx A n) * (D l * up H (8 * mx D n))) (h64 : bk < 64) (hE : ∀ k, k < 128 → 1 ≤ (F 3 k).toInt) (hW : ∀ k, B (-4096) 4096 (F 8 k))
    (hrs : ∀ x y, x < up (W * A l) (mx A n) → y < up (H * D l) (mx D n) → F 21 (4096 * l + 64 * y + x) = rs x y) (hrB : ∀ x y, x < up (W * A l) (mx A n) → y < up (H * D l) (mx D n) → B 0 255 (rs x y)) (h : p_Pa_makeBlock UL 4 (nI (64 * l + bk)) 3 (F, L, PC a b P) K) :
    ∃ Z L', agc [] [9, 10, 19] F Z ∧ (∀ k, Z 19 k = if 64 * (64 * l + bk) ≤ k ∧ k < 64 * (64 * l + bk) + 64 then lvk (tW F) (fun j => F 3 ((if l = 0 then 0 else 64) + j)) (bkf rs (up (W * A l) (mx A n)) (up (H * D l) (mx D n)) (A l * up W (8 * mx A n)) bk) (k - 64 * (64 * l + bk)) else F 19 k) ∧ K (Z, L', PC a b P) := by
  obtain ⟨g0, g1, g2, g5, g6, gn, gW, gH, gl0⟩ := g
  have gl := gl0 l hl
  have gml := gm.2.2 l hl
  have m1 : mx A n = 1 ∨ mx A n = 2 := mx_12 n (fun l hl => (gl0 l hl).2.2.1)
  have m2 : mx D n = 1 ∨ mx D n = 2 := mx_12 n (fun l hl => (gl0 l hl).2.2.2)
  have b1 := lw_b gW gl.2.2.1 m1 (mx_ge n l hl)
  have b2 := lw_b gH gl.2.2.2 m2 (mx_ge n l hl)
  have gw8 : 1 ≤ A l * up W (8 * mx A n) ∧ A l * up W (8 * mx A n) ≤ 8 := by
    have ma := mx_ge (A := A) n l hl
    unfold up
    rcases gl.2.2.1 with e | e <;> rcases m1 with d | d <;> rw [e, d] <;> omega
  have gh8 : D l * up H (8 * mx D n) ≤ 8 := by
    have ma := mx_ge (A := D) n l hl
    unfold up
    rcases gl.2.2.2 with e | e <;> rcases m2 with d | d <;> rw [e, d] <;> omega
  have bd : bk / (A l * up W (8 * mx A n)) < 8 := by
    refine Nat.lt_of_lt_of_le (Nat.div_lt_of_lt_mul hbk) gh8
  have bm : bk % (A l * up W (8 * mx A n)) < 8 := Nat.lt_of_lt_of_le (Nat.mod_lt _ (by omega)) gw8.2
  have d64 : (nI (64 * l + bk) / 64 : Int32) = nI l := by
    rw [show (64 : Int32) = nI 64 from rfl, pk_div (by omega) (by decide) (by decide), show (64 * l + bk) / 64 = l by omega]
  have r64 : (nI (64 * l + bk) - nI l * 64 : Int32) = nI bk := by
    rw [show (64 : Int32) = nI 64 from rfl, pk_mul, pk_sub (by omega), show 64 * l + bk - l * 64 = bk by omega]
  unfold p_Pa_makeBlock at h
  obtain ⟨-, -, -, -, -, -, -, -, -, -, -, -, -, -, -, h⟩ := h
  rw [d64, r64, nI_clamp (show l < 2 ^ 31 by omega)] at h
  have h : e_Pa_makeBlock_73 UL 4 (nI (64 * l + bk)) 3 (nI l) ((nI bk - nI bk / i_max 1 (F 17 l) * i_max 1 (F 17 l)) * 8) ((nI bk / i_max 1 (F 17 l)) * 8) (F 15 l - 1) (F 16 l - 1) 0 (F, L, PC a b P) K := h
  rw [show F 17 l = _ from gml.2.2.1, show F 15 l = _ from gml.1, show F 16 l = _ from gml.2.1, mx1_n gw8.1 (by omega), show (1 : Int32) = nI 1 from rfl, pk_sub b1.1, pk_sub b2.1, pk_rem (by omega) (by omega) (by omega), pk_div (by omega) (by omega) (by omega), show (8 : Int32) = nI 8 from rfl, pk_mul, pk_mul, Nat.mul_comm _ 8, Nat.mul_comm _ 8] at h
  obtain ⟨Z, z1, z2, h⟩ := q_mb73 (by omega) h64 b1 b2 (by omega) (by omega) h
  have hS : ∀ k, k < 64 → B 0 255 (Z 9 k) := fun k hk => by
    rw [z2 k hk, hrs _ _ (by omega) (by omega)]
    exact hrB _ _ (by omega) (by omega)
  obtain ⟨Y, L', y1, y2, h⟩ := q_makeWeights (by rw [z1.2 8 rfl rfl]; exact hW) hS h
  have sy := agc_tr (agc_tr (agc_refl (fs := []) (rs := [9, 10])) z1 rfl rfl) y1 rfl rfl
  obtain ⟨X, w1, w2, hk⟩ := q_mb152 (by omega) h64 (by rw [sy.2 3 rfl rfl]; exact hE) h
  refine ⟨X, L', agc_tr (agc_tr (agc_refl (fs := []) (rs := [9, 10, 19])) sy rfl rfl) w1 rfl rfl, fun k => ?_, hk⟩
  rw [w2 k]
  by_cases e : 64 * (64 * l + bk) ≤ k ∧ k < 64 * (64 * l + bk) + 64
  · rw [if_pos e, if_pos e, y2 _ (sl_lt _), show Y 3 = F 3 from sy.2 3 rfl rfl, show Z 8 = F 8 from z1.2 8 rfl rfl]
    unfold lvk
    have s := sl_lt (k - 64 * (64 * l + bk))
    rw [wgv_congr (by omega) (by omega) (fun _ _ => rfl) (fun j hj => hfv_congr (by omega) (by omega) (fun _ _ => rfl) (fun t ht => ?_))]
    rw [z2 t ht]
    exact hrs _ _ (by omega) (by omega)
  · rw [if_neg e, if_neg e]
    exact congrFun (sy.2 19 rfl rfl) k
end CLS

