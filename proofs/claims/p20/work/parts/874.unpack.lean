/-! unpack: the picture that was read takes the place of the one before -/
theorem bq_f {u n : Nat} (h : ¬ u = n) : Nat.beq u n = false := by
  rw [Bool.eq_false_iff]
  exact fun e => h (Nat.eq_of_beq_eq_true e)
theorem pc_hand {a b : Bool} {P : Nat → Nat → Nat} : va_up (va_up (PC a b P) 59 (va_up (PC a b P 59) 1 (PC a b P 0 7))) 0 (va_up ((va_up (PC a b P) 59 (va_up (PC a b P 59) 1 (PC a b P 0 7))) 0) 7 (PC a b P 59 1)) = PC (!a) b P := by
  funext u k
  by_cases h0 : u = 0
  · subst h0
    rw [up_at]
    by_cases h7 : k = 7
    · subst h7
      rw [up_at]
      cases a <;> rfl
    · rw [up_ne h7, up_ne (show ¬ (0 : Nat) = 59 from by decide)]
      show PC1 a 0 k = PC1 (!a) 0 k
      unfold PC1
      rw [bq_f h7]
      rfl
  · rw [up_ne h0]
    by_cases h5 : u = 59
    · subst h5
      rw [up_at]
      by_cases h1 : k = 1
      · subst h1
        rw [up_at]
        cases a <;> rfl
      · rw [up_ne h1]
        show PC1 a 59 k = PC1 (!a) 59 k
        unfold PC1
        rw [bq_f h1]
        rfl
    · rw [up_ne h5]
      unfold PC PC1
      rw [bq_f h0, bq_f h5]
      rfl
set_option maxRecDepth 20000 in
set_option maxHeartbeats 4000000 in
theorem h_B_unpack {a b : Bool} {P : Nat → Nat → Nat} {F : cF} {L : cL} {K : Int32 → cs → Prop} (hI : IMc F) (hK : ∀ {v : Int32} {aZ : Bool} {Z : cF} {LZ : cL}, IMc Z → K v (Z, LZ, PC aZ b P)) : p_B_unpack UL 0 (F, L, PC a b P) K := by
  have bt : B 0 1 (1 : Int32) := ⟨by decide, by decide⟩
  have fin : ∀ {a : Bool} {Z : cF} {LZ : cL}, IMc Z → (¬ (PC a b P) 0 3 = NU ∧ (¬ (PC a b P) 0 7 = NU ∧ (c_cl UL ((PC a b P) 0 3) = 11 ∧ (p_Un_handOver UL ((PC a b P) 0 3) ((PC a b P) 0 7) (Z, LZ, PC a b P) (fun v45 S45 => ¬ v45 = NU ∧ (K 0 (va_up S45.1 0 (upd (S45.1 0) 8 (-1)), S45.2.1, va_up S45.2.2 0 (va_up (S45.2.2 0) 7 v45)))))))) := by
    intro a Z LZ hZ
    refine ⟨(show ¬ ((59 : Nat) = NU) from by decide), ?_, cl_59, ?_⟩
    · cases a
      · exact (show ¬ ((105 : Nat) = NU) from by decide)
      · exact (show ¬ ((63 : Nat) = NU) from by decide)
    · unfold p_Un_handOver
      cases a
      · refine ⟨(show ¬ ((63 : Nat) = NU) from by decide), cl_63, (show ¬ ((105 : Nat) = NU) from by decide), (show ¬ ((63 : Nat) = NU) from by decide), ?_⟩
        have q := hK (v := 0) (aZ := true) (LZ := LZ) (IMc_u (u := 0) (i := 8) (v := -1) (IMc_u (u := 63) (i := 17) (v := 1) hZ bt) (B_any _))
        rw [← show _ = PC true b P from pc_hand (a := false)] at q
        exact q
      · refine ⟨(show ¬ ((105 : Nat) = NU) from by decide), cl_105, (show ¬ ((63 : Nat) = NU) from by decide), (show ¬ ((105 : Nat) = NU) from by decide), ?_⟩
        have q := hK (v := 0) (aZ := false) (LZ := LZ) (IMc_u (u := 0) (i := 8) (v := -1) (IMc_u (u := 105) (i := 17) (v := 1) hZ bt) (B_any _))
        rw [← show _ = PC false b P from pc_hand (a := true)] at q
        exact q
  unfold p_B_unpack
  refine ⟨(show ¬ ((59 : Nat) = NU) from by decide), cl_59, ?_⟩
  have cat : ∀ {a : Bool} {Z : cF} {LZ : cL}, IMc Z → (fun c9 (S9 : cs) => (c9 = 13 ∧ (¬ S9.2.2 0 3 = NU ∧ (c_cl UL (S9.2.2 0 3) = 11 ∧ (¬ S9.2.2 (S9.2.2 0 3) 0 = NU ∧ (c_cl UL (S9.2.2 (S9.2.2 0 3) 0) = 8 ∧ (¬ S9.2.2 0 3 = NU ∧ (¬ S9.2.2 (S9.2.2 0 3) 0 = NU ∧ (K ((va_up S9.1 0 (upd (S9.1 0) 8 (S9.1 (S9.2.2 (S9.2.2 0 3) 0) 7))) (S9.2.2 (S9.2.2 0 3) 0) 6) (va_up S9.1 0 (upd (S9.1 0) 8 (S9.1 (S9.2.2 (S9.2.2 0 3) 0) 7)), S9.2.1, S9.2.2)))))))))) 13 (Z, LZ, PC a b P) := by
    intro a Z LZ hZ
    refine ⟨rfl, (show ¬ ((59 : Nat) = NU) from by decide), cl_59, (show ¬ ((60 : Nat) = NU) from by decide), cl_60, (show ¬ ((59 : Nat) = NU) from by decide), (show ¬ ((60 : Nat) = NU) from by decide), ?_⟩
    exact hK (aZ := a) (LZ := LZ) (IMc_u (u := 0) (i := 8) (v := Z 60 7) hZ (B_any _))
  cases a
  · exact h_Un_readRow_u59_a0 hI (fun h _ => fin (a := false) h) (fun h _ => cat h)
  · exact h_Un_readRow_u59_a1 hI (fun h _ => fin (a := true) h) (fun h _ => cat h)
