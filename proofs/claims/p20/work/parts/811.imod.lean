def bF : List (Int × Int) := [(0, 3), (1, 64), (1, 64), (1, 3), (0, 0), (0, 0), (0, 0), (0, 32768), (0, 0), (0, 65536), (-2147483648, 2147483647), (0, 0), (0, 0), (0, 0), (0, 0), (0, 0), (0, 0), (0, 0), (0, 0), (0, 0), (0, 0), (0, 0), (0, 0), (0, 0), (0, 0), (0, 0), (0, 0), (0, 0), (0, 0), (0, 0), (0, 0), (0, 0), (0, 8), (-2147483648, 2147483647), (0, 32768), (0, 8), (0, 98304), (0, 32768), (0, 0), (0, 0), (0, 0), (0, 0), (0, 0), (0, 1), (0, 0), (0, 0), (0, 0), (0, 0), (0, 65535), (0, 255), (0, 0), (0, 0), (0, 0), (0, 0), (0, 8), (-2147483648, 2147483647), (0, 32768), (0, 32768)]
def bR : List (Int × Int) := [(0, 0), (0, 0), (0, 0), (0, 0), (0, 255), (1, 255), (0, 255), (0, 0), (0, 255), (0, 0), (0, 0), (0, 1), (0, 64), (0, 64), (0, 3), (0, 15), (0, 15), (0, 8), (0, 8), (-2147483648, 2147483647), (0, 255), (0, 255), (0, 63), (-4096, 4096), (-2147483648, 2147483647), (-2147483648, 2147483647), (0, 20000), (0, 8320), (-2147483648, 2147483647), (-2147483648, 2147483647), (-257, 256), (0, 1), (0, 0), (0, 0), (0, 0), (0, 0), (0, 0), (0, 0), (0, 255), (0, 1), (0, 255), (0, 255), (0, 1), (0, 0), (0, 255), (0, 255), (0, 255), (0, 1), (0, 0), (0, 0), (0, 2), (0, 1), (0, 3), (-2147483648, 2147483647), (0, 0), (0, 0), (0, 0), (0, 0)]
/-- row 5 has 128 places: nothing is said beyond -/
def okr (r j : Nat) : Bool := !(Nat.beq r 5 && Nat.ble 128 j)
def IM (M : ms) : Prop := (∀ k, k < 58 → B (bF.getD k (0, 0)).1 (bF.getD k (0, 0)).2 (M.1 k)) ∧ ∀ r, r < 58 → ∀ j, okr r j = true → B (bR.getD r (0, 0)).1 (bR.getD r (0, 0)).2 (M.2.1 r j)
theorem IM_f {M : ms} {k : Nat} {v : Int32} {lo hi : Int} (hI : IM M) (h : B lo hi v) (h1 : (bF.getD k (0, 0)).1 ≤ lo) (h2 : hi ≤ (bF.getD k (0, 0)).2) : IM (upd M.1 k v, M.2.1, M.2.2) := by
  refine ⟨fun j hj => ?_, hI.2⟩
  show B _ _ (upd M.1 k v j)
  unfold upd
  by_cases e : j = k
  · rw [if_pos e, e]; exact B_w h h1 h2
  · rw [if_neg e]; exact hI.1 j hj
theorem IM_r {M : ms} {r i : Nat} {v : Int32} {lo hi : Int} (hI : IM M) (h : B lo hi v) (h1 : (bR.getD r (0, 0)).1 ≤ lo) (h2 : hi ≤ (bR.getD r (0, 0)).2) : IM (M.1, va_up M.2.1 r (upd (M.2.1 r) i v), M.2.2) := by
  refine ⟨hI.1, fun q hq j hok => ?_⟩
  show B _ _ (va_up M.2.1 r (upd (M.2.1 r) i v) q j)
  by_cases e : q = r
  · subst e
    rw [up_at]
    unfold upd
    by_cases e2 : j = i
    · rw [if_pos e2]; exact B_w h h1 h2
    · rw [if_neg e2]; exact hI.2 q hq j hok
  · rw [up_ne e]; exact hI.2 q hq j hok
theorem IM_l {M : ms} {h : Nat → Nat → Int64} (hI : IM M) : IM (M.1, M.2.1, h) := hI
theorem bf_0 {M : ms} (hI : IM M) : B 0 3 (M.1 0) := hI.1 0 (by decide)
theorem bf_1 {M : ms} (hI : IM M) : B 1 64 (M.1 1) := hI.1 1 (by decide)
theorem bf_2 {M : ms} (hI : IM M) : B 1 64 (M.1 2) := hI.1 2 (by decide)
theorem bf_3 {M : ms} (hI : IM M) : B 1 3 (M.1 3) := hI.1 3 (by decide)
theorem bf_4 {M : ms} (hI : IM M) : B 0 0 (M.1 4) := hI.1 4 (by decide)
theorem bf_5 {M : ms} (hI : IM M) : B 0 0 (M.1 5) := hI.1 5 (by decide)
theorem bf_6 {M : ms} (hI : IM M) : B 0 0 (M.1 6) := hI.1 6 (by decide)
theorem bf_7 {M : ms} (hI : IM M) : B 0 32768 (M.1 7) := hI.1 7 (by decide)
theorem bf_8 {M : ms} (hI : IM M) : B 0 0 (M.1 8) := hI.1 8 (by decide)
theorem bf_9 {M : ms} (hI : IM M) : B 0 65536 (M.1 9) := hI.1 9 (by decide)
theorem bf_10 {M : ms} (hI : IM M) : B (-2147483648) 2147483647 (M.1 10) := hI.1 10 (by decide)
theorem bf_11 {M : ms} (hI : IM M) : B 0 0 (M.1 11) := hI.1 11 (by decide)
theorem bf_12 {M : ms} (hI : IM M) : B 0 0 (M.1 12) := hI.1 12 (by decide)
theorem bf_13 {M : ms} (hI : IM M) : B 0 0 (M.1 13) := hI.1 13 (by decide)
theorem bf_14 {M : ms} (hI : IM M) : B 0 0 (M.1 14) := hI.1 14 (by decide)
theorem bf_15 {M : ms} (hI : IM M) : B 0 0 (M.1 15) := hI.1 15 (by decide)
theorem bf_16 {M : ms} (hI : IM M) : B 0 0 (M.1 16) := hI.1 16 (by decide)
theorem bf_17 {M : ms} (hI : IM M) : B 0 0 (M.1 17) := hI.1 17 (by decide)
theorem bf_18 {M : ms} (hI : IM M) : B 0 0 (M.1 18) := hI.1 18 (by decide)
theorem bf_19 {M : ms} (hI : IM M) : B 0 0 (M.1 19) := hI.1 19 (by decide)
theorem bf_20 {M : ms} (hI : IM M) : B 0 0 (M.1 20) := hI.1 20 (by decide)
theorem bf_21 {M : ms} (hI : IM M) : B 0 0 (M.1 21) := hI.1 21 (by decide)
theorem bf_22 {M : ms} (hI : IM M) : B 0 0 (M.1 22) := hI.1 22 (by decide)
theorem bf_23 {M : ms} (hI : IM M) : B 0 0 (M.1 23) := hI.1 23 (by decide)
theorem bf_24 {M : ms} (hI : IM M) : B 0 0 (M.1 24) := hI.1 24 (by decide)
theorem bf_25 {M : ms} (hI : IM M) : B 0 0 (M.1 25) := hI.1 25 (by decide)
theorem bf_26 {M : ms} (hI : IM M) : B 0 0 (M.1 26) := hI.1 26 (by decide)
theorem bf_27 {M : ms} (hI : IM M) : B 0 0 (M.1 27) := hI.1 27 (by decide)
theorem bf_28 {M : ms} (hI : IM M) : B 0 0 (M.1 28) := hI.1 28 (by decide)
theorem bf_29 {M : ms} (hI : IM M) : B 0 0 (M.1 29) := hI.1 29 (by decide)
theorem bf_30 {M : ms} (hI : IM M) : B 0 0 (M.1 30) := hI.1 30 (by decide)
theorem bf_31 {M : ms} (hI : IM M) : B 0 0 (M.1 31) := hI.1 31 (by decide)
theorem bf_32 {M : ms} (hI : IM M) : B 0 8 (M.1 32) := hI.1 32 (by decide)
theorem bf_33 {M : ms} (hI : IM M) : B (-2147483648) 2147483647 (M.1 33) := hI.1 33 (by decide)
theorem bf_34 {M : ms} (hI : IM M) : B 0 32768 (M.1 34) := hI.1 34 (by decide)
theorem bf_35 {M : ms} (hI : IM M) : B 0 8 (M.1 35) := hI.1 35 (by decide)
theorem bf_36 {M : ms} (hI : IM M) : B 0 98304 (M.1 36) := hI.1 36 (by decide)
theorem bf_37 {M : ms} (hI : IM M) : B 0 32768 (M.1 37) := hI.1 37 (by decide)
theorem bf_38 {M : ms} (hI : IM M) : B 0 0 (M.1 38) := hI.1 38 (by decide)
theorem bf_39 {M : ms} (hI : IM M) : B 0 0 (M.1 39) := hI.1 39 (by decide)
theorem bf_40 {M : ms} (hI : IM M) : B 0 0 (M.1 40) := hI.1 40 (by decide)
theorem bf_41 {M : ms} (hI : IM M) : B 0 0 (M.1 41) := hI.1 41 (by decide)
theorem bf_42 {M : ms} (hI : IM M) : B 0 0 (M.1 42) := hI.1 42 (by decide)
theorem bf_43 {M : ms} (hI : IM M) : B 0 1 (M.1 43) := hI.1 43 (by decide)
theorem bf_44 {M : ms} (hI : IM M) : B 0 0 (M.1 44) := hI.1 44 (by decide)
theorem bf_45 {M : ms} (hI : IM M) : B 0 0 (M.1 45) := hI.1 45 (by decide)
theorem bf_46 {M : ms} (hI : IM M) : B 0 0 (M.1 46) := hI.1 46 (by decide)
theorem bf_47 {M : ms} (hI : IM M) : B 0 0 (M.1 47) := hI.1 47 (by decide)
theorem bf_48 {M : ms} (hI : IM M) : B 0 65535 (M.1 48) := hI.1 48 (by decide)
theorem bf_49 {M : ms} (hI : IM M) : B 0 255 (M.1 49) := hI.1 49 (by decide)
theorem bf_50 {M : ms} (hI : IM M) : B 0 0 (M.1 50) := hI.1 50 (by decide)
theorem bf_51 {M : ms} (hI : IM M) : B 0 0 (M.1 51) := hI.1 51 (by decide)
theorem bf_52 {M : ms} (hI : IM M) : B 0 0 (M.1 52) := hI.1 52 (by decide)
theorem bf_53 {M : ms} (hI : IM M) : B 0 0 (M.1 53) := hI.1 53 (by decide)
theorem bf_54 {M : ms} (hI : IM M) : B 0 8 (M.1 54) := hI.1 54 (by decide)
theorem bf_55 {M : ms} (hI : IM M) : B (-2147483648) 2147483647 (M.1 55) := hI.1 55 (by decide)
theorem bf_56 {M : ms} (hI : IM M) : B 0 32768 (M.1 56) := hI.1 56 (by decide)
theorem bf_57 {M : ms} (hI : IM M) : B 0 32768 (M.1 57) := hI.1 57 (by decide)
theorem br_0 {M : ms} (hI : IM M) (j : Nat) : B 0 0 (M.2.1 0 j) := hI.2 0 (by decide) j rfl
theorem br_1 {M : ms} (hI : IM M) (j : Nat) : B 0 0 (M.2.1 1 j) := hI.2 1 (by decide) j rfl
theorem br_2 {M : ms} (hI : IM M) (j : Nat) : B 0 0 (M.2.1 2 j) := hI.2 2 (by decide) j rfl
theorem br_3 {M : ms} (hI : IM M) (j : Nat) : B 0 0 (M.2.1 3 j) := hI.2 3 (by decide) j rfl
theorem br_4 {M : ms} (hI : IM M) (j : Nat) : B 0 255 (M.2.1 4 j) := hI.2 4 (by decide) j rfl
theorem br_6 {M : ms} (hI : IM M) (j : Nat) : B 0 255 (M.2.1 6 j) := hI.2 6 (by decide) j rfl
theorem br_7 {M : ms} (hI : IM M) (j : Nat) : B 0 0 (M.2.1 7 j) := hI.2 7 (by decide) j rfl
theorem br_8 {M : ms} (hI : IM M) (j : Nat) : B 0 255 (M.2.1 8 j) := hI.2 8 (by decide) j rfl
theorem br_9 {M : ms} (hI : IM M) (j : Nat) : B 0 0 (M.2.1 9 j) := hI.2 9 (by decide) j rfl
theorem br_10 {M : ms} (hI : IM M) (j : Nat) : B 0 0 (M.2.1 10 j) := hI.2 10 (by decide) j rfl
theorem br_11 {M : ms} (hI : IM M) (j : Nat) : B 0 1 (M.2.1 11 j) := hI.2 11 (by decide) j rfl
theorem br_12 {M : ms} (hI : IM M) (j : Nat) : B 0 64 (M.2.1 12 j) := hI.2 12 (by decide) j rfl
theorem br_13 {M : ms} (hI : IM M) (j : Nat) : B 0 64 (M.2.1 13 j) := hI.2 13 (by decide) j rfl
theorem br_14 {M : ms} (hI : IM M) (j : Nat) : B 0 3 (M.2.1 14 j) := hI.2 14 (by decide) j rfl
theorem br_15 {M : ms} (hI : IM M) (j : Nat) : B 0 15 (M.2.1 15 j) := hI.2 15 (by decide) j rfl
theorem br_16 {M : ms} (hI : IM M) (j : Nat) : B 0 15 (M.2.1 16 j) := hI.2 16 (by decide) j rfl
theorem br_17 {M : ms} (hI : IM M) (j : Nat) : B 0 8 (M.2.1 17 j) := hI.2 17 (by decide) j rfl
theorem br_18 {M : ms} (hI : IM M) (j : Nat) : B 0 8 (M.2.1 18 j) := hI.2 18 (by decide) j rfl
theorem br_19 {M : ms} (hI : IM M) (j : Nat) : B (-2147483648) 2147483647 (M.2.1 19 j) := hI.2 19 (by decide) j rfl
theorem br_20 {M : ms} (hI : IM M) (j : Nat) : B 0 255 (M.2.1 20 j) := hI.2 20 (by decide) j rfl
theorem br_21 {M : ms} (hI : IM M) (j : Nat) : B 0 255 (M.2.1 21 j) := hI.2 21 (by decide) j rfl
theorem br_22 {M : ms} (hI : IM M) (j : Nat) : B 0 63 (M.2.1 22 j) := hI.2 22 (by decide) j rfl
theorem br_23 {M : ms} (hI : IM M) (j : Nat) : B (-4096) 4096 (M.2.1 23 j) := hI.2 23 (by decide) j rfl
theorem br_24 {M : ms} (hI : IM M) (j : Nat) : B (-2147483648) 2147483647 (M.2.1 24 j) := hI.2 24 (by decide) j rfl
theorem br_25 {M : ms} (hI : IM M) (j : Nat) : B (-2147483648) 2147483647 (M.2.1 25 j) := hI.2 25 (by decide) j rfl
theorem br_26 {M : ms} (hI : IM M) (j : Nat) : B 0 20000 (M.2.1 26 j) := hI.2 26 (by decide) j rfl
theorem br_27 {M : ms} (hI : IM M) (j : Nat) : B 0 8320 (M.2.1 27 j) := hI.2 27 (by decide) j rfl
theorem br_28 {M : ms} (hI : IM M) (j : Nat) : B (-2147483648) 2147483647 (M.2.1 28 j) := hI.2 28 (by decide) j rfl
theorem br_29 {M : ms} (hI : IM M) (j : Nat) : B (-2147483648) 2147483647 (M.2.1 29 j) := hI.2 29 (by decide) j rfl
theorem br_30 {M : ms} (hI : IM M) (j : Nat) : B (-257) 256 (M.2.1 30 j) := hI.2 30 (by decide) j rfl
theorem br_31 {M : ms} (hI : IM M) (j : Nat) : B 0 1 (M.2.1 31 j) := hI.2 31 (by decide) j rfl
theorem br_32 {M : ms} (hI : IM M) (j : Nat) : B 0 0 (M.2.1 32 j) := hI.2 32 (by decide) j rfl
theorem br_33 {M : ms} (hI : IM M) (j : Nat) : B 0 0 (M.2.1 33 j) := hI.2 33 (by decide) j rfl
theorem br_34 {M : ms} (hI : IM M) (j : Nat) : B 0 0 (M.2.1 34 j) := hI.2 34 (by decide) j rfl
theorem br_35 {M : ms} (hI : IM M) (j : Nat) : B 0 0 (M.2.1 35 j) := hI.2 35 (by decide) j rfl
theorem br_36 {M : ms} (hI : IM M) (j : Nat) : B 0 0 (M.2.1 36 j) := hI.2 36 (by decide) j rfl
theorem br_37 {M : ms} (hI : IM M) (j : Nat) : B 0 0 (M.2.1 37 j) := hI.2 37 (by decide) j rfl
theorem br_38 {M : ms} (hI : IM M) (j : Nat) : B 0 255 (M.2.1 38 j) := hI.2 38 (by decide) j rfl
theorem br_39 {M : ms} (hI : IM M) (j : Nat) : B 0 1 (M.2.1 39 j) := hI.2 39 (by decide) j rfl
theorem br_40 {M : ms} (hI : IM M) (j : Nat) : B 0 255 (M.2.1 40 j) := hI.2 40 (by decide) j rfl
theorem br_41 {M : ms} (hI : IM M) (j : Nat) : B 0 255 (M.2.1 41 j) := hI.2 41 (by decide) j rfl
theorem br_42 {M : ms} (hI : IM M) (j : Nat) : B 0 1 (M.2.1 42 j) := hI.2 42 (by decide) j rfl
theorem br_43 {M : ms} (hI : IM M) (j : Nat) : B 0 0 (M.2.1 43 j) := hI.2 43 (by decide) j rfl
theorem br_44 {M : ms} (hI : IM M) (j : Nat) : B 0 255 (M.2.1 44 j) := hI.2 44 (by decide) j rfl
theorem br_45 {M : ms} (hI : IM M) (j : Nat) : B 0 255 (M.2.1 45 j) := hI.2 45 (by decide) j rfl
theorem br_46 {M : ms} (hI : IM M) (j : Nat) : B 0 255 (M.2.1 46 j) := hI.2 46 (by decide) j rfl
theorem br_47 {M : ms} (hI : IM M) (j : Nat) : B 0 1 (M.2.1 47 j) := hI.2 47 (by decide) j rfl
theorem br_48 {M : ms} (hI : IM M) (j : Nat) : B 0 0 (M.2.1 48 j) := hI.2 48 (by decide) j rfl
theorem br_49 {M : ms} (hI : IM M) (j : Nat) : B 0 0 (M.2.1 49 j) := hI.2 49 (by decide) j rfl
theorem br_50 {M : ms} (hI : IM M) (j : Nat) : B 0 2 (M.2.1 50 j) := hI.2 50 (by decide) j rfl
theorem br_51 {M : ms} (hI : IM M) (j : Nat) : B 0 1 (M.2.1 51 j) := hI.2 51 (by decide) j rfl
theorem br_52 {M : ms} (hI : IM M) (j : Nat) : B 0 3 (M.2.1 52 j) := hI.2 52 (by decide) j rfl
theorem br_53 {M : ms} (hI : IM M) (j : Nat) : B (-2147483648) 2147483647 (M.2.1 53 j) := hI.2 53 (by decide) j rfl
theorem br_54 {M : ms} (hI : IM M) (j : Nat) : B 0 0 (M.2.1 54 j) := hI.2 54 (by decide) j rfl
theorem br_55 {M : ms} (hI : IM M) (j : Nat) : B 0 0 (M.2.1 55 j) := hI.2 55 (by decide) j rfl
theorem br_56 {M : ms} (hI : IM M) (j : Nat) : B 0 0 (M.2.1 56 j) := hI.2 56 (by decide) j rfl
theorem br_57 {M : ms} (hI : IM M) (j : Nat) : B 0 0 (M.2.1 57 j) := hI.2 57 (by decide) j rfl
theorem br_5 {M : ms} {x : Int32} {lo hi : Int} (hI : IM M) (h : B lo hi x) (h0 : 0 ≤ lo) (h1 : hi < 128) : B 1 255 (M.2.1 5 x.toNatClampNeg) := by
  refine hI.2 5 (by decide) _ ?_
  have q1 := h.1
  have q2 := h.2
  have q3 := cl_i (x := x) (by omega)
  have q4 : Nat.ble 128 x.toNatClampNeg = false := by
    rw [Bool.eq_false_iff]
    intro e
    have := Nat.le_of_ble_eq_true e
    omega
  unfold okr
  rw [q4]
  rfl
