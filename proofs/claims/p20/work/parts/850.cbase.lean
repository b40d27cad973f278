/-! THE CLASS OVER UNITS: pointers as a function, bounds, frames -/
abbrev cF : Type := Nat → Nat → Int32
abbrev cL : Type := Nat → Nat → Int64
def PC1 (a : Bool) (u k : Nat) : Nat := bif Nat.beq u 0 then (bif Nat.beq k 0 then 1 else bif Nat.beq k 1 then 3 else bif Nat.beq k 2 then 4 else bif Nat.beq k 3 then 59 else bif Nat.beq k 4 then 5 else bif Nat.beq k 5 then 7 else bif Nat.beq k 6 then 61 else bif Nat.beq k 7 then (bif a then 63 else 105) else NU) else bif Nat.beq u 1 then (bif Nat.beq k 3 then 2 else NU) else bif Nat.beq u 4 then (bif Nat.beq k 0 then 5 else bif Nat.beq k 1 then 7 else bif Nat.beq k 2 then 12 else bif Nat.beq k 3 then 22 else bif Nat.beq k 4 then 27 else bif Nat.beq k 5 then 32 else bif Nat.beq k 6 then 45 else bif Nat.beq k 7 then 58 else NU) else bif Nat.beq u 5 then (bif Nat.beq k 0 then 6 else NU) else bif Nat.beq u 7 then (bif Nat.beq k 0 then 8 else bif Nat.beq k 1 then 9 else bif Nat.beq k 2 then 10 else bif Nat.beq k 3 then 11 else NU) else bif Nat.beq u 12 then (bif Nat.beq k 3 then 13 else bif Nat.beq k 4 then 14 else bif Nat.beq k 9 then 15 else bif Nat.beq k 10 then 16 else bif Nat.beq k 11 then 17 else bif Nat.beq k 12 then 18 else bif Nat.beq k 13 then 19 else bif Nat.beq k 14 then 20 else bif Nat.beq k 15 then 21 else NU) else bif Nat.beq u 22 then (bif Nat.beq k 1 then 23 else bif Nat.beq k 2 then 24 else bif Nat.beq k 3 then 25 else bif Nat.beq k 7 then 26 else NU) else bif Nat.beq u 32 then (bif Nat.beq k 0 then 33 else bif Nat.beq k 1 then 39 else NU) else bif Nat.beq u 33 then (bif Nat.beq k 0 then 34 else bif Nat.beq k 1 then 35 else bif Nat.beq k 2 then 36 else bif Nat.beq k 3 then 37 else bif Nat.beq k 5 then 38 else NU) else bif Nat.beq u 39 then (bif Nat.beq k 0 then 40 else bif Nat.beq k 1 then 41 else bif Nat.beq k 2 then 42 else bif Nat.beq k 3 then 43 else bif Nat.beq k 5 then 44 else NU) else bif Nat.beq u 45 then (bif Nat.beq k 0 then 46 else bif Nat.beq k 1 then 52 else NU) else bif Nat.beq u 46 then (bif Nat.beq k 0 then 47 else bif Nat.beq k 1 then 48 else bif Nat.beq k 2 then 49 else bif Nat.beq k 3 then 50 else bif Nat.beq k 5 then 51 else NU) else bif Nat.beq u 52 then (bif Nat.beq k 0 then 53 else bif Nat.beq k 1 then 54 else bif Nat.beq k 2 then 55 else bif Nat.beq k 3 then 56 else bif Nat.beq k 5 then 57 else NU) else bif Nat.beq u 59 then (bif Nat.beq k 0 then 60 else bif Nat.beq k 1 then (bif a then 105 else 63) else bif Nat.beq k 2 then 73 else bif Nat.beq k 3 then 78 else bif Nat.beq k 4 then 79 else bif Nat.beq k 5 then 80 else bif Nat.beq k 7 then 101 else bif Nat.beq k 8 then 102 else bif Nat.beq k 9 then 103 else bif Nat.beq k 10 then 104 else NU) else bif Nat.beq u 60 then (bif Nat.beq k 0 then 61 else NU) else bif Nat.beq u 61 then (bif Nat.beq k 0 then 62 else NU) else bif Nat.beq u 63 then (bif Nat.beq k 3 then 64 else bif Nat.beq k 4 then 65 else bif Nat.beq k 9 then 66 else bif Nat.beq k 10 then 67 else bif Nat.beq k 11 then 68 else bif Nat.beq k 12 then 69 else bif Nat.beq k 13 then 70 else bif Nat.beq k 14 then 71 else bif Nat.beq k 15 then 72 else NU) else bif Nat.beq u 73 then (bif Nat.beq k 1 then 74 else bif Nat.beq k 2 then 75 else bif Nat.beq k 3 then 76 else bif Nat.beq k 7 then 77 else NU) else bif Nat.beq u 80 then (bif Nat.beq k 0 then 81 else bif Nat.beq k 1 then 86 else bif Nat.beq k 2 then 91 else bif Nat.beq k 3 then 96 else NU) else bif Nat.beq u 81 then (bif Nat.beq k 1 then 82 else bif Nat.beq k 2 then 83 else bif Nat.beq k 3 then 84 else bif Nat.beq k 4 then 85 else NU) else bif Nat.beq u 86 then (bif Nat.beq k 1 then 87 else bif Nat.beq k 2 then 88 else bif Nat.beq k 3 then 89 else bif Nat.beq k 4 then 90 else NU) else bif Nat.beq u 91 then (bif Nat.beq k 1 then 92 else bif Nat.beq k 2 then 93 else bif Nat.beq k 3 then 94 else bif Nat.beq k 4 then 95 else NU) else bif Nat.beq u 96 then (bif Nat.beq k 1 then 97 else bif Nat.beq k 2 then 98 else bif Nat.beq k 3 then 99 else bif Nat.beq k 4 then 100 else NU) else bif Nat.beq u 105 then (bif Nat.beq k 3 then 106 else bif Nat.beq k 4 then 107 else bif Nat.beq k 9 then 108 else bif Nat.beq k 10 then 109 else bif Nat.beq k 11 then 110 else bif Nat.beq k 12 then 111 else bif Nat.beq k 13 then 112 else bif Nat.beq k 14 then 113 else bif Nat.beq k 15 then 114 else NU) else NU
def PC (a b : Bool) (P : Nat → Nat → Nat) (u k : Nat) : Nat := bif Nat.blt 114 u then P u k else bif Nat.beq u 27 then (bif Nat.beq k 0 then 28 else bif Nat.beq k 2 then 29 else bif Nat.beq k 3 then (bif b then 31 else 30) else bif Nat.beq k 4 then (bif b then 30 else 31) else NU) else PC1 a u k
def bC (u k : Nat) : Int × Int := bif Nat.blt 114 u then (-2147483648, 2147483647) else bif Nat.beq u 0 then (bif Nat.beq k 8 then (-2147483648, 2147483647) else (-2147483648, 2147483647)) else bif Nat.beq u 1 then (bif Nat.beq k 0 then (1, 64) else bif Nat.beq k 1 then (1, 64) else bif Nat.beq k 2 then (1, 3) else (-2147483648, 2147483647)) else bif Nat.beq u 2 then (-2147483648, 2147483647) else bif Nat.beq u 3 then (bif Nat.blt k 128 then (1, 255) else (-2147483648, 2147483647)) else bif Nat.beq u 4 then (bif Nat.beq k 8 then (0, 2) else bif Nat.beq k 9 then (0, 1) else bif Nat.beq k 10 then (-2147483648, 2147483647) else bif Nat.beq k 11 then (-2147483648, 2147483647) else (-2147483648, 2147483647)) else bif Nat.beq u 5 then (bif Nat.beq k 1 then (0, 65536) else (-2147483648, 2147483647)) else bif Nat.beq u 6 then (0, 255) else bif Nat.beq u 7 then (-2147483648, 2147483647) else bif Nat.beq u 8 then (-4096, 4096) else bif Nat.beq u 9 then (-2147483648, 2147483647) else bif Nat.beq u 10 then (-2147483648, 2147483647) else bif Nat.beq u 11 then (-2147483648, 2147483647) else bif Nat.beq u 12 then (bif Nat.beq k 0 then (1, 64) else bif Nat.beq k 1 then (1, 64) else bif Nat.beq k 2 then (1, 3) else bif Nat.beq k 5 then (1, 2) else bif Nat.beq k 6 then (1, 2) else bif Nat.beq k 7 then (1, 8) else bif Nat.beq k 8 then (1, 8) else bif Nat.beq k 16 then (0, 1) else bif Nat.beq k 17 then (0, 1) else (-2147483648, 2147483647)) else bif Nat.beq u 13 then (bif Nat.blt k 3 then (1, 2) else (-2147483648, 2147483647)) else bif Nat.beq u 14 then (bif Nat.blt k 3 then (1, 2) else (-2147483648, 2147483647)) else bif Nat.beq u 15 then (0, 64) else bif Nat.beq u 16 then (0, 64) else bif Nat.beq u 17 then (0, 8) else bif Nat.beq u 18 then (0, 64) else bif Nat.beq u 19 then (-2147483648, 2147483647) else bif Nat.beq u 20 then (0, 255) else bif Nat.beq u 21 then (-2147483648, 2147483647) else bif Nat.beq u 22 then (bif Nat.beq k 0 then (0, 3) else bif Nat.beq k 4 then (0, 192) else bif Nat.beq k 5 then (0, 12) else bif Nat.beq k 6 then (0, 192) else (-2147483648, 2147483647)) else bif Nat.beq u 23 then (0, 2) else bif Nat.beq u 24 then (0, 3) else bif Nat.beq u 25 then (0, 3) else bif Nat.beq u 26 then (0, 191) else bif Nat.beq u 27 then (bif Nat.beq k 1 then (0, 257) else (-2147483648, 2147483647)) else bif Nat.beq u 28 then (0, 256) else bif Nat.beq u 29 then (0, 1) else bif Nat.beq u 30 then (-2147483648, 2147483647) else bif Nat.beq u 31 then (-2147483648, 2147483647) else bif Nat.beq u 32 then (-2147483648, 2147483647) else bif Nat.beq u 33 then (bif Nat.beq k 4 then (0, 256) else (-2147483648, 2147483647)) else bif Nat.beq u 34 then (-2147483648, 2147483647) else bif Nat.beq u 35 then (-2147483648, 2147483647) else bif Nat.beq u 36 then (-2147483648, 2147483647) else bif Nat.beq u 37 then (0, 255) else bif Nat.beq u 38 then (0, 256) else bif Nat.beq u 39 then (bif Nat.beq k 4 then (0, 256) else (-2147483648, 2147483647)) else bif Nat.beq u 40 then (-2147483648, 2147483647) else bif Nat.beq u 41 then (-2147483648, 2147483647) else bif Nat.beq u 42 then (-2147483648, 2147483647) else bif Nat.beq u 43 then (0, 255) else bif Nat.beq u 44 then (0, 256) else bif Nat.beq u 45 then (-2147483648, 2147483647) else bif Nat.beq u 46 then (bif Nat.beq k 4 then (0, 256) else (-2147483648, 2147483647)) else bif Nat.beq u 47 then (-2147483648, 2147483647) else bif Nat.beq u 48 then (-2147483648, 2147483647) else bif Nat.beq u 49 then (-2147483648, 2147483647) else bif Nat.beq u 50 then (0, 255) else bif Nat.beq u 51 then (0, 256) else bif Nat.beq u 52 then (bif Nat.beq k 4 then (0, 256) else (-2147483648, 2147483647)) else bif Nat.beq u 53 then (-2147483648, 2147483647) else bif Nat.beq u 54 then (-2147483648, 2147483647) else bif Nat.beq u 55 then (-2147483648, 2147483647) else bif Nat.beq u 56 then (0, 255) else bif Nat.beq u 57 then (0, 256) else bif Nat.beq u 58 then (-2147483648, 2147483647) else bif Nat.beq u 59 then (bif Nat.beq k 6 then (0, 1) else bif Nat.beq k 11 then (0, 65535) else bif Nat.beq k 12 then (-2147483648, 2147483647) else bif Nat.beq k 13 then (0, 65535) else (-2147483648, 2147483647)) else bif Nat.beq u 60 then (bif Nat.beq k 1 then (0, 98304) else bif Nat.beq k 2 then (0, 255) else bif Nat.beq k 3 then (-2147483648, 2147483647) else bif Nat.beq k 4 then (0, 8) else bif Nat.beq k 5 then (-2147483648, 2147483647) else bif Nat.beq k 6 then (0, 8) else bif Nat.beq k 7 then (-2147483648, 2147483647) else (-2147483648, 2147483647)) else bif Nat.beq u 61 then (bif Nat.beq k 1 then (0, 32768) else (-2147483648, 2147483647)) else bif Nat.beq u 62 then (0, 255) else bif Nat.beq u 63 then (bif Nat.beq k 0 then (1, 64) else bif Nat.beq k 1 then (1, 64) else bif Nat.beq k 2 then (1, 3) else bif Nat.beq k 5 then (1, 2) else bif Nat.beq k 6 then (1, 2) else bif Nat.beq k 7 then (1, 8) else bif Nat.beq k 8 then (1, 8) else bif Nat.beq k 16 then (0, 1) else bif Nat.beq k 17 then (0, 1) else (-2147483648, 2147483647)) else bif Nat.beq u 64 then (bif Nat.blt k 3 then (1, 2) else (-2147483648, 2147483647)) else bif Nat.beq u 65 then (bif Nat.blt k 3 then (1, 2) else (-2147483648, 2147483647)) else bif Nat.beq u 66 then (0, 64) else bif Nat.beq u 67 then (0, 64) else bif Nat.beq u 68 then (0, 8) else bif Nat.beq u 69 then (0, 64) else bif Nat.beq u 70 then (-2147483648, 2147483647) else bif Nat.beq u 71 then (0, 255) else bif Nat.beq u 72 then (-2147483648, 2147483647) else bif Nat.beq u 73 then (bif Nat.beq k 0 then (0, 3) else bif Nat.beq k 4 then (0, 192) else bif Nat.beq k 5 then (0, 12) else bif Nat.beq k 6 then (0, 192) else (-2147483648, 2147483647)) else bif Nat.beq u 74 then (0, 2) else bif Nat.beq u 75 then (0, 3) else bif Nat.beq u 76 then (0, 3) else bif Nat.beq u 77 then (0, 191) else bif Nat.beq u 78 then (0, 255) else bif Nat.beq u 79 then (0, 1) else bif Nat.beq u 80 then (-2147483648, 2147483647) else bif Nat.beq u 81 then (bif Nat.beq k 0 then (0, 1) else bif Nat.beq k 5 then (-2147483648, 2147483647) else (-2147483648, 2147483647)) else bif Nat.beq u 82 then (0, 255) else bif Nat.beq u 83 then (-2147483648, 2147483647) else bif Nat.beq u 84 then (-2147483648, 2147483647) else bif Nat.beq u 85 then (0, 255) else bif Nat.beq u 86 then (bif Nat.beq k 0 then (0, 1) else bif Nat.beq k 5 then (-2147483648, 2147483647) else (-2147483648, 2147483647)) else bif Nat.beq u 87 then (0, 255) else bif Nat.beq u 88 then (-2147483648, 2147483647) else bif Nat.beq u 89 then (-2147483648, 2147483647) else bif Nat.beq u 90 then (0, 255) else bif Nat.beq u 91 then (bif Nat.beq k 0 then (0, 1) else bif Nat.beq k 5 then (-2147483648, 2147483647) else (-2147483648, 2147483647)) else bif Nat.beq u 92 then (0, 255) else bif Nat.beq u 93 then (-2147483648, 2147483647) else bif Nat.beq u 94 then (-2147483648, 2147483647) else bif Nat.beq u 95 then (0, 255) else bif Nat.beq u 96 then (bif Nat.beq k 0 then (0, 1) else bif Nat.beq k 5 then (-2147483648, 2147483647) else (-2147483648, 2147483647)) else bif Nat.beq u 97 then (0, 255) else bif Nat.beq u 98 then (-2147483648, 2147483647) else bif Nat.beq u 99 then (-2147483648, 2147483647) else bif Nat.beq u 100 then (0, 255) else bif Nat.beq u 101 then (0, 255) else bif Nat.beq u 102 then (0, 3) else bif Nat.beq u 103 then (0, 1) else bif Nat.beq u 104 then (-2147483648, 2147483647) else bif Nat.beq u 105 then (bif Nat.beq k 0 then (1, 64) else bif Nat.beq k 1 then (1, 64) else bif Nat.beq k 2 then (1, 3) else bif Nat.beq k 5 then (1, 2) else bif Nat.beq k 6 then (1, 2) else bif Nat.beq k 7 then (1, 8) else bif Nat.beq k 8 then (1, 8) else bif Nat.beq k 16 then (0, 1) else bif Nat.beq k 17 then (0, 1) else (-2147483648, 2147483647)) else bif Nat.beq u 106 then (bif Nat.blt k 3 then (1, 2) else (-2147483648, 2147483647)) else bif Nat.beq u 107 then (bif Nat.blt k 3 then (1, 2) else (-2147483648, 2147483647)) else bif Nat.beq u 108 then (0, 64) else bif Nat.beq u 109 then (0, 64) else bif Nat.beq u 110 then (0, 8) else bif Nat.beq u 111 then (0, 64) else bif Nat.beq u 112 then (-2147483648, 2147483647) else bif Nat.beq u 113 then (0, 255) else bif Nat.beq u 114 then (-2147483648, 2147483647) else (-2147483648, 2147483647)
def OB (u : Nat) : Bool := [0, 1, 4, 5, 7, 12, 22, 27, 33, 39, 46, 52, 59, 60, 61, 63, 73, 81, 86, 91, 96, 105].contains u
def IMc (F : cF) : Prop := ∀ u k, B (bC u k).1 (bC u k).2 (F u k)
theorem IMc_u {F : cF} {u i : Nat} {v : Int32} (hI : IMc F) (h : B (bC u i).1 (bC u i).2 v) : IMc (va_up F u (upd (F u) i v)) := by
  intro w j
  by_cases e : w = u
  · subst e
    rw [up_at]
    unfold upd
    by_cases e2 : j = i
    · rw [if_pos e2, e2]; exact h
    · rw [if_neg e2]; exact hI w j
  · rw [up_ne e]; exact hI w j
/-- which fields (100 * unit + place) and rows may differ -/
def agc (fs rs : List Nat) (F G : cF) : Prop := (∀ u k, OB u = true → fs.contains (100 * u + k) = false → G u k = F u k) ∧ ∀ u, OB u = false → rs.contains u = false → G u = F u
section AGC
variable {fs rs fs' rs' : List Nat} {F G H : cF}
theorem agc_refl : agc fs rs F F := ⟨fun _ _ _ _ => rfl, fun _ _ _ => rfl⟩
theorem agc_f {u k : Nat} {v : Int32} (h : agc fs rs F G) (ho : OB u = true) (hk : fs.contains (100 * u + k) = true) : agc fs rs F (va_up G u (upd (G u) k v)) := by
  refine ⟨fun w j hw hj => ?_, fun w hw hr => ?_⟩
  · by_cases e : w = u
    · subst e
      rw [up_at]
      unfold upd
      by_cases e2 : j = k
      · subst e2; rw [hk] at hj; exact absurd hj (by decide)
      · rw [if_neg e2]; exact h.1 w j hw hj
    · rw [up_ne e]; exact h.1 w j hw hj
  · by_cases e : w = u
    · subst e; rw [ho] at hw; exact absurd hw (by decide)
    · rw [up_ne e]; exact h.2 w hw hr
theorem agc_r {u : Nat} {w : Nat → Int32} (h : agc fs rs F G) (ho : OB u = false) (hr : rs.contains u = true) : agc fs rs F (va_up G u w) := by
  refine ⟨fun x j hx hj => ?_, fun x hx hj => ?_⟩
  · by_cases e : x = u
    · subst e; rw [ho] at hx; exact absurd hx (by decide)
    · rw [up_ne e]; exact h.1 x j hx hj
  · by_cases e : x = u
    · subst e; rw [hr] at hj; exact absurd hj (by decide)
    · rw [up_ne e]; exact h.2 x hx hj
theorem agc_tr (h : agc fs rs F G) (h' : agc fs' rs' G H) (hf : fs'.all fs.contains = true) (hr : rs'.all rs.contains = true) : agc fs rs F H :=
  ⟨fun u k hu hk => (h'.1 u k hu (al_f hf hk)).trans (h.1 u k hu hk), fun u hu hr2 => (h'.2 u hu (al_f hr hr2)).trans (h.2 u hu hr2)⟩
end AGC
theorem sp_01 {x : Int32} (h : B 0 1 x) : x = 0 ∨ x = 1 := by
  have h1 := h.1
  have h2 := h.2
  have e0 : (0 : Int32).toInt = 0 := by decide
  have e1 : (1 : Int32).toInt = 1 := by decide
  by_cases e : x.toInt = 0
  · exact Or.inl (Int32.toInt.inj (by omega))
  · exact Or.inr (Int32.toInt.inj (by omega))
theorem sp_03 {x : Int32} (h : B 0 3 x) : x = 0 ∨ x = 1 ∨ x = 2 ∨ x = 3 := by
  have h1 := h.1
  have h2 := h.2
  have e0 : (0 : Int32).toInt = 0 := by decide
  have e1 : (1 : Int32).toInt = 1 := by decide
  have e2 : (2 : Int32).toInt = 2 := by decide
  have e3 : (3 : Int32).toInt = 3 := by decide
  by_cases a : x.toInt = 0
  · exact Or.inl (Int32.toInt.inj (by omega))
  · by_cases b : x.toInt = 1
    · exact Or.inr (Or.inl (Int32.toInt.inj (by omega)))
    · by_cases c : x.toInt = 2
      · exact Or.inr (Or.inr (Or.inl (Int32.toInt.inj (by omega))))
      · exact Or.inr (Or.inr (Or.inr (Int32.toInt.inj (by omega))))
section IMX
variable {x y : Int32} {a b c d e f : Int}
theorem B_i_max (hx : B a b x) (hy : B c d y) (h1 : e ≤ a ∨ e ≤ c) (h2 : b ≤ f ∧ d ≤ f) : B e f (i_max x y) := by
  have x1 := hx.1
  have x2 := hx.2
  have y1 := hy.1
  have y2 := hy.2
  unfold i_max B
  split
  · next h => have := i_lt h; omega
  · next h => have := i_le (nlt_le h); omega
theorem B_i_min (hx : B a b x) (hy : B c d y) (h1 : e ≤ a ∧ e ≤ c) (h2 : b ≤ f ∨ d ≤ f) : B e f (i_min x y) := by
  have x1 := hx.1
  have x2 := hx.2
  have y1 := hy.1
  have y2 := hy.2
  unfold i_min B
  split
  · next h => have := i_lt h; omega
  · next h => have := i_le (nlt_le h); omega
theorem B_i_abs (hx : B a b x) (h0 : -2147483648 < a) (h1 : (e ≤ 0 ∨ e ≤ a ∨ e ≤ -b) ∧ -a ≤ f ∧ b ≤ f ∧ 0 ≤ f) : B e f (i_abs x) := by
  have x1 := hx.1
  have x2 := hx.2
  have z : (0 : Int32).toInt = 0 := by decide
  unfold i_abs
  split
  · next h => have := i_le h; exact ⟨by omega, by omega⟩
  · next h =>
    have h3 := i_lt (nle_lt h)
    have : (0 - x).toInt = 0 - x.toInt := t_sub (a := 0) (b := 0) (c := a) (d := -1) ⟨by decide, by decide⟩ ⟨x1, by omega⟩ (by decide) (by omega)
    exact ⟨by omega, by omega⟩
end IMX
theorem imx (x y : Int32) : x.toInt ≤ (i_max x y).toInt ∧ y.toInt ≤ (i_max x y).toInt ∧ ((i_max x y).toInt = x.toInt ∨ (i_max x y).toInt = y.toInt) := by
  unfold i_max
  split
  · next h => have := i_lt h; omega
  · next h => have := i_le (nlt_le h); omega
theorem imn (x y : Int32) : (i_min x y).toInt ≤ x.toInt ∧ (i_min x y).toInt ≤ y.toInt ∧ ((i_min x y).toInt = x.toInt ∨ (i_min x y).toInt = y.toInt) := by
  unfold i_min
  split
  · next h => have := i_lt h; omega
  · next h => have := i_le (nlt_le h); omega
theorem sl_ok : ∀ n, n < 64 → row_sl.getD n 0 < 64 := by decide
theorem B_sl (n : Nat) : B 0 63 (rw_at row_sl n) := by
  have h : row_sl.getD n 0 < 64 := by
    by_cases hn : n < 64
    · exact sl_ok n hn
    · rw [List.getD_eq_getElem?_getD, List.getElem?_eq_none (by show 64 ≤ n; omega)]
      decide
  unfold rw_at
  have e : (Int32.ofNat (row_sl.getD n 0)).toInt = ((row_sl.getD n 0 : Nat) : Int) := nI_toInt (n := row_sl.getD n 0) (by omega)
  unfold B
  rw [e]
  omega
theorem up_K {x0 x1 : Int32} {K : Int32 → Prop} {c d : Int} (h : B c d x1) (hc : 1 ≤ c) (hK : K (((x0 + x1) - 1) / x1)) : p_Pi_upward x0 x1 K := by
  have h1 := h.1
  unfold p_Pi_upward b_Pi_upward_16
  refine ⟨fun _ => ⟨B_nz h (Or.inl (by omega)), hK⟩, fun hn => absurd (Int32.le_iff_toInt_le.mpr ?_) hn⟩
  have : (1 : Int32).toInt = 1 := by decide
  omega
/-- units and blocks a unit -/
def UPs (u : Nat) (F : cF) : Prop := (F u 5).toInt * (F u 4).toInt ≤ (F u 6).toInt
theorem UPs_tr {u : Nat} {F G : cF} (h : UPs u F) (e5 : G u 5 = F u 5) (e4 : G u 4 = F u 4) (e6 : G u 6 = F u 6) : UPs u G := by
  unfold UPs
  rw [e5, e4, e6]
  exact h
theorem ix_L {u : Nat} {F : cF} {x i : Int32} (h : UPs u F) (hp : B 0 12 (F u 5)) (bx : B 0 192 x) (bi : B 0 12 i) (hx : x.toInt < (F u 4).toInt) (hi : i.toInt < (F u 5).toInt) : 0 ≤ ((F u 5 * x) + i).toInt ∧ ((F u 5 * x) + i).toInt < (F u 6).toInt := by
  have p1 := hp.1
  have x1 := bx.1
  have i1 := bi.1
  have e1 : (F u 5 * x).toInt = (F u 5).toInt * x.toInt := t_mul hp bx (by decide) (by decide) (by decide)
  have b1 : B 0 2304 (F u 5 * x) := B_w (B_mul hp bx (by decide) (by decide) (by decide)) (by decide) (by decide)
  have e2 := t_add b1 bi (by decide) (by decide)
  have h1 : (F u 5).toInt * (x.toInt + 1) ≤ (F u 5).toInt * (F u 4).toInt := Int.mul_le_mul_of_nonneg_left (by omega) p1
  rw [Int.mul_add, Int.mul_one] at h1
  have h2 : 0 ≤ (F u 5).toInt * x.toInt := Int.mul_nonneg p1 x1
  unfold UPs at h
  rw [e2, e1]
  omega
theorem ix_B {u : Nat} {F : cF} {x i : Int32} (h : UPs u F) (hp : B 0 12 (F u 5)) (hb : B 0 192 (F u 6)) (bx : B 0 192 x) (bi : B 0 12 i) (hx : x.toInt < (F u 4).toInt) (hi : i.toInt < (F u 5).toInt) : B 0 191 ((F u 5 * x) + i) := by
  have q := ix_L h hp bx bi hx hi
  have := hb.2
  exact ⟨q.1, by omega⟩
theorem pc_swap {a b : Bool} {P : Nat → Nat → Nat} : va_up (va_up (PC a b P) 27 (va_up (PC a b P 27) 3 (PC a b P 27 4))) 27 (va_up ((va_up (PC a b P) 27 (va_up (PC a b P 27) 3 (PC a b P 27 4))) 27) 4 (PC a b P 27 3)) = PC a (!b) P := by
  funext u k
  by_cases h : u = 27
  · subst h
    rw [up_at, up_at]
    by_cases h4 : k = 4
    · subst h4
      rw [up_at]
      cases b <;> rfl
    · rw [up_ne h4]
      by_cases h3 : k = 3
      · subst h3
        rw [up_at]
        cases b <;> rfl
      · rw [up_ne h3]
        have e3 : Nat.beq k 3 = false := by
          rw [Bool.eq_false_iff]
          exact fun e => h3 (Nat.eq_of_beq_eq_true e)
        have e4 : Nat.beq k 4 = false := by
          rw [Bool.eq_false_iff]
          exact fun e => h4 (Nat.eq_of_beq_eq_true e)
        unfold PC
        rw [e3, e4]
        rfl
  · rw [up_ne h, up_ne h]
    have e : Nat.beq u 27 = false := by
      rw [Bool.eq_false_iff]
      exact fun e => h (Nat.eq_of_beq_eq_true e)
    unfold PC
    rw [e]
    rfl
/-! how many symbols have lengths so far -/
def pcC (g : Nat → Int32) (b : Int) : Nat → Int
  | 0 => 0
  | n + 1 => pcC g b n + (if 1 ≤ (g n).toInt ∧ (g n).toInt ≤ b then 1 else 0)
theorem pcC_s (g : Nat → Int32) (b : Int) (n : Nat) : pcC g b (n + 1) = pcC g b n + (if 1 ≤ (g n).toInt ∧ (g n).toInt ≤ b then 1 else 0) := rfl
theorem pcC_d {g : Nat → Int32} {b : Int} : ∀ n d, pcC g b n ≤ pcC g b (n + d) ∧ pcC g b (n + d) ≤ pcC g b n + d
  | n, 0 => ⟨Int.le_refl _, by rw [Nat.add_zero]; omega⟩
  | n, d + 1 => by
    have := pcC_d (g := g) (b := b) n d
    rw [← Nat.add_assoc, pcC_s]
    split <;> (refine ⟨by omega, by omega⟩)
theorem pcC_0 {g : Nat → Int32} : ∀ n, pcC g 0 n = 0
  | 0 => rfl
  | n + 1 => by
    rw [pcC_s, pcC_0 n, if_neg (by omega)]
    rfl
def rC (g : Nat → Int32) (n s : Int) : Int := pcC g n s.toNat + (pcC g (n - 1) 256 - pcC g (n - 1) s.toNat)
theorem rC_0 (g : Nat → Int32) : rC g 1 0 = 0 := by
  show pcC g 1 0 + (pcC g 0 256 - pcC g 0 0) = 0
  rw [pcC_0, pcC_0]
  rfl
theorem rC_e {g : Nat → Int32} {n : Int} : rC g n 256 = rC g (n + 1) 0 := by
  unfold rC
  have e : n + 1 - 1 = n := by omega
  rw [e]
  show pcC g n 256 + (pcC g (n - 1) 256 - pcC g (n - 1) 256) = pcC g (n + 1) 0 + (pcC g n 256 - pcC g n 0)
  show _ = (0 : Int) + (_ - 0)
  omega
theorem rC_st {g : Nat → Int32} {x s : Int32} (hx : 1 ≤ x.toInt) (h0 : 0 ≤ s.toInt) (h1 : s.toInt ≤ 255) : (g s.toNatClampNeg = x → rC g x.toInt (s.toInt + 1) = rC g x.toInt s.toInt + 1 ∧ rC g x.toInt s.toInt ≤ 255) ∧ (¬ g s.toNatClampNeg = x → rC g x.toInt (s.toInt + 1) = rC g x.toInt s.toInt) := by
  have ec : s.toNatClampNeg = s.toInt.toNat := by have := cl_i h0; omega
  have e1 : (s.toInt + 1).toNat = s.toInt.toNat + 1 := by omega
  unfold rC
  rw [e1, pcC_s g x.toInt s.toInt.toNat, pcC_s g (x.toInt - 1) s.toInt.toNat, ec]
  have d1 := pcC_d (g := g) (b := x.toInt) 0 s.toInt.toNat
  rw [Nat.zero_add] at d1
  have z1 : pcC g x.toInt 0 = 0 := rfl
  have d2 := pcC_d (g := g) (b := x.toInt - 1) (s.toInt.toNat + 1) (255 - s.toInt.toNat)
  have e2 : s.toInt.toNat + 1 + (255 - s.toInt.toNat) = 256 := by omega
  rw [e2, pcC_s g (x.toInt - 1) s.toInt.toNat] at d2
  refine ⟨fun h => ?_, fun h => ?_⟩
  · rw [h] at d2 ⊢
    rw [if_pos (by omega), if_neg (by omega)]
    rw [if_neg (by omega)] at d2
    omega
  · have hne : (g s.toInt.toNat).toInt ≠ x.toInt := fun e => h (Int32.toInt.inj e)
    by_cases x1 : 1 ≤ (g s.toInt.toNat).toInt ∧ (g s.toInt.toNat).toInt ≤ x.toInt
    · rw [if_pos x1, if_pos (by omega)]
      omega
    · rw [if_neg x1, if_neg (by omega)]
      omega
theorem rC_i {g : Nat → Int32} {x s : Int32} (hx : 1 ≤ x.toInt) (h0 : 0 ≤ s.toInt) (h1 : s.toInt ≤ 255) : ((g s.toNatClampNeg).toInt = x.toInt → rC g x.toInt (s.toInt + 1) = rC g x.toInt s.toInt + 1 ∧ rC g x.toInt s.toInt ≤ 255) ∧ ((g s.toNatClampNeg).toInt ≠ x.toInt → rC g x.toInt (s.toInt + 1) = rC g x.toInt s.toInt) := by
  have h := rC_st (g := g) hx h0 h1
  exact ⟨fun e => h.1 (Int32.toInt.inj e), fun e => h.2 (fun q => e (by rw [q]))⟩

theorem cl_0 : c_cl UL 0 = 1 := rfl
theorem cl_1 : c_cl UL 1 = 2 := rfl
theorem cl_2 : c_cl UL 2 = 902 := rfl
theorem cl_3 : c_cl UL 3 = 902 := rfl
theorem cl_4 : c_cl UL 4 = 6 := rfl
theorem cl_5 : c_cl UL 5 = 9 := rfl
theorem cl_6 : c_cl UL 6 = 902 := rfl
theorem cl_7 : c_cl UL 7 = 12 := rfl
theorem cl_8 : c_cl UL 8 = 902 := rfl
theorem cl_9 : c_cl UL 9 = 902 := rfl
theorem cl_10 : c_cl UL 10 = 902 := rfl
theorem cl_11 : c_cl UL 11 = 904 := rfl
theorem cl_12 : c_cl UL 12 = 7 := rfl
theorem cl_13 : c_cl UL 13 = 902 := rfl
theorem cl_14 : c_cl UL 14 = 902 := rfl
theorem cl_15 : c_cl UL 15 = 902 := rfl
theorem cl_16 : c_cl UL 16 = 902 := rfl
theorem cl_17 : c_cl UL 17 = 902 := rfl
theorem cl_18 : c_cl UL 18 = 902 := rfl
theorem cl_19 : c_cl UL 19 = 902 := rfl
theorem cl_20 : c_cl UL 20 = 902 := rfl
theorem cl_21 : c_cl UL 21 = 902 := rfl
theorem cl_22 : c_cl UL 22 = 10 := rfl
theorem cl_23 : c_cl UL 23 = 902 := rfl
theorem cl_24 : c_cl UL 24 = 902 := rfl
theorem cl_25 : c_cl UL 25 = 902 := rfl
theorem cl_26 : c_cl UL 26 = 902 := rfl
theorem cl_27 : c_cl UL 27 = 4 := rfl
theorem cl_28 : c_cl UL 28 = 902 := rfl
theorem cl_29 : c_cl UL 29 = 903 := rfl
theorem cl_30 : c_cl UL 30 = 902 := rfl
theorem cl_31 : c_cl UL 31 = 902 := rfl
theorem cl_32 : c_cl UL 32 = 950 := rfl
theorem cl_33 : c_cl UL 33 = 5 := rfl
theorem cl_34 : c_cl UL 34 = 902 := rfl
theorem cl_35 : c_cl UL 35 = 902 := rfl
theorem cl_36 : c_cl UL 36 = 902 := rfl
theorem cl_37 : c_cl UL 37 = 902 := rfl
theorem cl_38 : c_cl UL 38 = 902 := rfl
theorem cl_39 : c_cl UL 39 = 5 := rfl
theorem cl_40 : c_cl UL 40 = 902 := rfl
theorem cl_41 : c_cl UL 41 = 902 := rfl
theorem cl_42 : c_cl UL 42 = 902 := rfl
theorem cl_43 : c_cl UL 43 = 902 := rfl
theorem cl_44 : c_cl UL 44 = 902 := rfl
theorem cl_45 : c_cl UL 45 = 950 := rfl
theorem cl_46 : c_cl UL 46 = 5 := rfl
theorem cl_47 : c_cl UL 47 = 902 := rfl
theorem cl_48 : c_cl UL 48 = 902 := rfl
theorem cl_49 : c_cl UL 49 = 902 := rfl
theorem cl_50 : c_cl UL 50 = 902 := rfl
theorem cl_51 : c_cl UL 51 = 902 := rfl
theorem cl_52 : c_cl UL 52 = 5 := rfl
theorem cl_53 : c_cl UL 53 = 902 := rfl
theorem cl_54 : c_cl UL 54 = 902 := rfl
theorem cl_55 : c_cl UL 55 = 902 := rfl
theorem cl_56 : c_cl UL 56 = 902 := rfl
theorem cl_57 : c_cl UL 57 = 902 := rfl
theorem cl_58 : c_cl UL 58 = 902 := rfl
theorem cl_59 : c_cl UL 59 = 11 := rfl
theorem cl_60 : c_cl UL 60 = 8 := rfl
theorem cl_61 : c_cl UL 61 = 9 := rfl
theorem cl_62 : c_cl UL 62 = 902 := rfl
theorem cl_63 : c_cl UL 63 = 7 := rfl
theorem cl_64 : c_cl UL 64 = 902 := rfl
theorem cl_65 : c_cl UL 65 = 902 := rfl
theorem cl_66 : c_cl UL 66 = 902 := rfl
theorem cl_67 : c_cl UL 67 = 902 := rfl
theorem cl_68 : c_cl UL 68 = 902 := rfl
theorem cl_69 : c_cl UL 69 = 902 := rfl
theorem cl_70 : c_cl UL 70 = 902 := rfl
theorem cl_71 : c_cl UL 71 = 902 := rfl
theorem cl_72 : c_cl UL 72 = 902 := rfl
theorem cl_73 : c_cl UL 73 = 10 := rfl
theorem cl_74 : c_cl UL 74 = 902 := rfl
theorem cl_75 : c_cl UL 75 = 902 := rfl
theorem cl_76 : c_cl UL 76 = 902 := rfl
theorem cl_77 : c_cl UL 77 = 902 := rfl
theorem cl_78 : c_cl UL 78 = 902 := rfl
theorem cl_79 : c_cl UL 79 = 903 := rfl
theorem cl_80 : c_cl UL 80 = 951 := rfl
theorem cl_81 : c_cl UL 81 = 3 := rfl
theorem cl_82 : c_cl UL 82 = 902 := rfl
theorem cl_83 : c_cl UL 83 = 902 := rfl
theorem cl_84 : c_cl UL 84 = 902 := rfl
theorem cl_85 : c_cl UL 85 = 902 := rfl
theorem cl_86 : c_cl UL 86 = 3 := rfl
theorem cl_87 : c_cl UL 87 = 902 := rfl
theorem cl_88 : c_cl UL 88 = 902 := rfl
theorem cl_89 : c_cl UL 89 = 902 := rfl
theorem cl_90 : c_cl UL 90 = 902 := rfl
theorem cl_91 : c_cl UL 91 = 3 := rfl
theorem cl_92 : c_cl UL 92 = 902 := rfl
theorem cl_93 : c_cl UL 93 = 902 := rfl
theorem cl_94 : c_cl UL 94 = 902 := rfl
theorem cl_95 : c_cl UL 95 = 902 := rfl
theorem cl_96 : c_cl UL 96 = 3 := rfl
theorem cl_97 : c_cl UL 97 = 902 := rfl
theorem cl_98 : c_cl UL 98 = 902 := rfl
theorem cl_99 : c_cl UL 99 = 902 := rfl
theorem cl_100 : c_cl UL 100 = 902 := rfl
theorem cl_101 : c_cl UL 101 = 902 := rfl
theorem cl_102 : c_cl UL 102 = 902 := rfl
theorem cl_103 : c_cl UL 103 = 903 := rfl
theorem cl_104 : c_cl UL 104 = 902 := rfl
theorem cl_105 : c_cl UL 105 = 7 := rfl
theorem cl_106 : c_cl UL 106 = 902 := rfl
theorem cl_107 : c_cl UL 107 = 902 := rfl
theorem cl_108 : c_cl UL 108 = 902 := rfl
theorem cl_109 : c_cl UL 109 = 902 := rfl
theorem cl_110 : c_cl UL 110 = 902 := rfl
theorem cl_111 : c_cl UL 111 = 902 := rfl
theorem cl_112 : c_cl UL 112 = 902 := rfl
theorem cl_113 : c_cl UL 113 = 902 := rfl
theorem cl_114 : c_cl UL 114 = 902 := rfl
theorem cl_115 : c_cl UL 115 = 904 := rfl
theorem sB_3 {F : cF} {x : Int32} {lo hi : Int} (hI : IMc F) (h : B lo hi x) (h0 : 0 ≤ lo) (h1 : hi < 128) : B 1 255 (F 3 x.toNatClampNeg) := by
  have q1 := h.1
  have q2 := h.2
  have q3 := cl_i (x := x) (by omega)
  have q4 : Nat.blt x.toNatClampNeg 128 = true := Nat.ble_eq_true_of_le (by omega)
  have q5 : B (bif Nat.blt x.toNatClampNeg 128 then ((1 : Int), (255 : Int)) else (-2147483648, 2147483647)).1 (bif Nat.blt x.toNatClampNeg 128 then ((1 : Int), (255 : Int)) else (-2147483648, 2147483647)).2 (F 3 x.toNatClampNeg) := hI 3 _
  rw [q4] at q5
  exact q5
theorem sW_3 {v : Int32} {i : Nat} (h : B 1 255 v) : B (bC 3 i).1 (bC 3 i).2 v := by
  show B (bif Nat.blt i 128 then ((1 : Int), (255 : Int)) else (-2147483648, 2147483647)).1 (bif Nat.blt i 128 then ((1 : Int), (255 : Int)) else (-2147483648, 2147483647)).2 v
  cases Nat.blt i 128
  · exact B_any _
  · exact h
theorem sB_13 {F : cF} {x : Int32} {lo hi : Int} (hI : IMc F) (h : B lo hi x) (h0 : 0 ≤ lo) (h1 : hi < 3) : B 1 2 (F 13 x.toNatClampNeg) := by
  have q1 := h.1
  have q2 := h.2
  have q3 := cl_i (x := x) (by omega)
  have q4 : Nat.blt x.toNatClampNeg 3 = true := Nat.ble_eq_true_of_le (by omega)
  have q5 : B (bif Nat.blt x.toNatClampNeg 3 then ((1 : Int), (2 : Int)) else (-2147483648, 2147483647)).1 (bif Nat.blt x.toNatClampNeg 3 then ((1 : Int), (2 : Int)) else (-2147483648, 2147483647)).2 (F 13 x.toNatClampNeg) := hI 13 _
  rw [q4] at q5
  exact q5
theorem sW_13 {v : Int32} {i : Nat} (h : B 1 2 v) : B (bC 13 i).1 (bC 13 i).2 v := by
  show B (bif Nat.blt i 3 then ((1 : Int), (2 : Int)) else (-2147483648, 2147483647)).1 (bif Nat.blt i 3 then ((1 : Int), (2 : Int)) else (-2147483648, 2147483647)).2 v
  cases Nat.blt i 3
  · exact B_any _
  · exact h
theorem sB_14 {F : cF} {x : Int32} {lo hi : Int} (hI : IMc F) (h : B lo hi x) (h0 : 0 ≤ lo) (h1 : hi < 3) : B 1 2 (F 14 x.toNatClampNeg) := by
  have q1 := h.1
  have q2 := h.2
  have q3 := cl_i (x := x) (by omega)
  have q4 : Nat.blt x.toNatClampNeg 3 = true := Nat.ble_eq_true_of_le (by omega)
  have q5 : B (bif Nat.blt x.toNatClampNeg 3 then ((1 : Int), (2 : Int)) else (-2147483648, 2147483647)).1 (bif Nat.blt x.toNatClampNeg 3 then ((1 : Int), (2 : Int)) else (-2147483648, 2147483647)).2 (F 14 x.toNatClampNeg) := hI 14 _
  rw [q4] at q5
  exact q5
theorem sW_14 {v : Int32} {i : Nat} (h : B 1 2 v) : B (bC 14 i).1 (bC 14 i).2 v := by
  show B (bif Nat.blt i 3 then ((1 : Int), (2 : Int)) else (-2147483648, 2147483647)).1 (bif Nat.blt i 3 then ((1 : Int), (2 : Int)) else (-2147483648, 2147483647)).2 v
  cases Nat.blt i 3
  · exact B_any _
  · exact h
theorem sB_64 {F : cF} {x : Int32} {lo hi : Int} (hI : IMc F) (h : B lo hi x) (h0 : 0 ≤ lo) (h1 : hi < 3) : B 1 2 (F 64 x.toNatClampNeg) := by
  have q1 := h.1
  have q2 := h.2
  have q3 := cl_i (x := x) (by omega)
  have q4 : Nat.blt x.toNatClampNeg 3 = true := Nat.ble_eq_true_of_le (by omega)
  have q5 : B (bif Nat.blt x.toNatClampNeg 3 then ((1 : Int), (2 : Int)) else (-2147483648, 2147483647)).1 (bif Nat.blt x.toNatClampNeg 3 then ((1 : Int), (2 : Int)) else (-2147483648, 2147483647)).2 (F 64 x.toNatClampNeg) := hI 64 _
  rw [q4] at q5
  exact q5
theorem sW_64 {v : Int32} {i : Nat} (h : B 1 2 v) : B (bC 64 i).1 (bC 64 i).2 v := by
  show B (bif Nat.blt i 3 then ((1 : Int), (2 : Int)) else (-2147483648, 2147483647)).1 (bif Nat.blt i 3 then ((1 : Int), (2 : Int)) else (-2147483648, 2147483647)).2 v
  cases Nat.blt i 3
  · exact B_any _
  · exact h
theorem sB_65 {F : cF} {x : Int32} {lo hi : Int} (hI : IMc F) (h : B lo hi x) (h0 : 0 ≤ lo) (h1 : hi < 3) : B 1 2 (F 65 x.toNatClampNeg) := by
  have q1 := h.1
  have q2 := h.2
  have q3 := cl_i (x := x) (by omega)
  have q4 : Nat.blt x.toNatClampNeg 3 = true := Nat.ble_eq_true_of_le (by omega)
  have q5 : B (bif Nat.blt x.toNatClampNeg 3 then ((1 : Int), (2 : Int)) else (-2147483648, 2147483647)).1 (bif Nat.blt x.toNatClampNeg 3 then ((1 : Int), (2 : Int)) else (-2147483648, 2147483647)).2 (F 65 x.toNatClampNeg) := hI 65 _
  rw [q4] at q5
  exact q5
theorem sW_65 {v : Int32} {i : Nat} (h : B 1 2 v) : B (bC 65 i).1 (bC 65 i).2 v := by
  show B (bif Nat.blt i 3 then ((1 : Int), (2 : Int)) else (-2147483648, 2147483647)).1 (bif Nat.blt i 3 then ((1 : Int), (2 : Int)) else (-2147483648, 2147483647)).2 v
  cases Nat.blt i 3
  · exact B_any _
  · exact h
theorem sB_106 {F : cF} {x : Int32} {lo hi : Int} (hI : IMc F) (h : B lo hi x) (h0 : 0 ≤ lo) (h1 : hi < 3) : B 1 2 (F 106 x.toNatClampNeg) := by
  have q1 := h.1
  have q2 := h.2
  have q3 := cl_i (x := x) (by omega)
  have q4 : Nat.blt x.toNatClampNeg 3 = true := Nat.ble_eq_true_of_le (by omega)
  have q5 : B (bif Nat.blt x.toNatClampNeg 3 then ((1 : Int), (2 : Int)) else (-2147483648, 2147483647)).1 (bif Nat.blt x.toNatClampNeg 3 then ((1 : Int), (2 : Int)) else (-2147483648, 2147483647)).2 (F 106 x.toNatClampNeg) := hI 106 _
  rw [q4] at q5
  exact q5
theorem sW_106 {v : Int32} {i : Nat} (h : B 1 2 v) : B (bC 106 i).1 (bC 106 i).2 v := by
  show B (bif Nat.blt i 3 then ((1 : Int), (2 : Int)) else (-2147483648, 2147483647)).1 (bif Nat.blt i 3 then ((1 : Int), (2 : Int)) else (-2147483648, 2147483647)).2 v
  cases Nat.blt i 3
  · exact B_any _
  · exact h
theorem sB_107 {F : cF} {x : Int32} {lo hi : Int} (hI : IMc F) (h : B lo hi x) (h0 : 0 ≤ lo) (h1 : hi < 3) : B 1 2 (F 107 x.toNatClampNeg) := by
  have q1 := h.1
  have q2 := h.2
  have q3 := cl_i (x := x) (by omega)
  have q4 : Nat.blt x.toNatClampNeg 3 = true := Nat.ble_eq_true_of_le (by omega)
  have q5 : B (bif Nat.blt x.toNatClampNeg 3 then ((1 : Int), (2 : Int)) else (-2147483648, 2147483647)).1 (bif Nat.blt x.toNatClampNeg 3 then ((1 : Int), (2 : Int)) else (-2147483648, 2147483647)).2 (F 107 x.toNatClampNeg) := hI 107 _
  rw [q4] at q5
  exact q5
theorem sW_107 {v : Int32} {i : Nat} (h : B 1 2 v) : B (bC 107 i).1 (bC 107 i).2 v := by
  show B (bif Nat.blt i 3 then ((1 : Int), (2 : Int)) else (-2147483648, 2147483647)).1 (bif Nat.blt i 3 then ((1 : Int), (2 : Int)) else (-2147483648, 2147483647)).2 v
  cases Nat.blt i 3
  · exact B_any _
  · exact h
theorem nu_32 {a b : Bool} {P : Nat → Nat → Nat} {x : Int32} (h : B 0 1 x) : ¬ PC a b P 32 x.toNatClampNeg = NU := by
  rcases sp_01 h with rfl | rfl
  · exact (show ¬ ((33 : Nat) = NU) from by decide)
  · exact (show ¬ ((39 : Nat) = NU) from by decide)
theorem cx_32 {a b : Bool} {P : Nat → Nat → Nat} {x : Int32} (h : B 0 1 x) : c_cl UL (PC a b P 32 x.toNatClampNeg) = 5 := by
  rcases sp_01 h with rfl | rfl
  · exact cl_33
  · exact cl_39
theorem nu_45 {a b : Bool} {P : Nat → Nat → Nat} {x : Int32} (h : B 0 1 x) : ¬ PC a b P 45 x.toNatClampNeg = NU := by
  rcases sp_01 h with rfl | rfl
  · exact (show ¬ ((46 : Nat) = NU) from by decide)
  · exact (show ¬ ((52 : Nat) = NU) from by decide)
theorem cx_45 {a b : Bool} {P : Nat → Nat → Nat} {x : Int32} (h : B 0 1 x) : c_cl UL (PC a b P 45 x.toNatClampNeg) = 5 := by
  rcases sp_01 h with rfl | rfl
  · exact cl_46
  · exact cl_52
theorem nu_80 {a b : Bool} {P : Nat → Nat → Nat} {x : Int32} (h : B 0 3 x) : ¬ PC a b P 80 x.toNatClampNeg = NU := by
  rcases sp_03 h with rfl | rfl | rfl | rfl
  · exact (show ¬ ((81 : Nat) = NU) from by decide)
  · exact (show ¬ ((86 : Nat) = NU) from by decide)
  · exact (show ¬ ((91 : Nat) = NU) from by decide)
  · exact (show ¬ ((96 : Nat) = NU) from by decide)
theorem cx_80 {a b : Bool} {P : Nat → Nat → Nat} {x : Int32} (h : B 0 3 x) : c_cl UL (PC a b P 80 x.toNatClampNeg) = 3 := by
  rcases sp_03 h with rfl | rfl | rfl | rfl
  · exact cl_81
  · exact cl_86
  · exact cl_91
  · exact cl_96
