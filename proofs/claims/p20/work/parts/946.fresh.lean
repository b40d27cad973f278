/-! RL at the beginning -/
theorem rl_fresh {S : cs} {M : ms} (hS : RC S tB) (hM : RM M tM) : RL (sU false) M S.1 := by
  have fc : ∀ u k v, u < 115 → gv (l8 tB u) k = v → v < 4294967296 → S.1 u k = Int32.ofNat v := fun u k v hu e hv => by
    rw [hS.1 u (by omega) k (by rw [e]; exact hv), e]
  have fm : ∀ k v, gv (l6 tM 58) k = v → v < 4294967296 → M.1 k = Int32.ofNat v := fun k v e hv => by
    rw [hM.1 k (by rw [e]; exact hv), e]
  have fr : ∀ r k v, r < 58 → isL r = false → gv (l6 tM r) k = v → v < 4294967296 → M.2.1 r k = Int32.ofNat v := fun r k v hr hl e hv => by
    rw [hM.2.1 r hr hl k (by rw [e]; exact hv), e]
  have z2 : ∀ k, S.1 2 k = 0 := fun k => fc 2 k 0 (by decide) (by rw [show l8 tB 2 = 0 by decide +kernel]; exact gv_0 _) (by decide)
  have z62 : ∀ k, S.1 62 k = 0 := fun k => fc 62 k 0 (by decide) (by rw [show l8 tB 62 = 0 by decide +kernel]; exact gv_0 _) (by decide)
  have z29 : ∀ k, S.1 29 k = 0 := fun k => fc 29 k 0 (by decide) (by rw [show l8 tB 29 = 0 by decide +kernel]; exact gv_0 _) (by decide)
  have y4 : ∀ k, M.2.1 4 k = 0 := fun k => fr 4 k 0 (by decide) (by decide +kernel) (by rw [show l6 tM 4 = 0 by decide +kernel]; exact gv_0 _) (by decide)
  have y6 : ∀ k, M.2.1 6 k = 0 := fun k => fr 6 k 0 (by decide) (by decide +kernel) (by rw [show l6 tM 6 = 0 by decide +kernel]; exact gv_0 _) (by decide)
  have y26 : ∀ k, M.2.1 26 k = 0 := fun k => fr 26 k 0 (by decide) (by decide +kernel) (by rw [show l6 tM 26 = 0 by decide +kernel]; exact gv_0 _) (by decide)
  have e9 : M.1 9 = 0 := fm 9 0 (by decide +kernel) (by decide)
  refine ⟨⟨?_, ?_, ?_, fun x y p _ _ _ => (z2 _).trans (y4 _).symm⟩, fun k hk => ?_, ⟨?_, fun k _ => (z62 k).trans (y6 k).symm⟩, ⟨?_, fun k hk => ?_⟩, ⟨fun k hk => ?_, fun k hk => ?_, ?_, fun k _ => z29 k, fun j _ => y26 j⟩, Or.inl ⟨?_, ?_⟩, Or.inl ⟨?_, ?_⟩⟩
  · have q : gv (l8 tB 1) 0 = gv (l6 tM 58) 1 ∧ gv (l6 tM 58) 1 < 4294967296 := by decide +kernel
    rw [fc 1 0 _ (by decide) q.1 q.2, fm 1 _ rfl q.2]
  · have q : gv (l8 tB 1) 1 = gv (l6 tM 58) 2 ∧ gv (l6 tM 58) 2 < 4294967296 := by decide +kernel
    rw [fc 1 1 _ (by decide) q.1 q.2, fm 2 _ rfl q.2]
  · have q : gv (l8 tB 1) 2 = gv (l6 tM 58) 3 ∧ gv (l6 tM 58) 3 < 4294967296 := by decide +kernel
    rw [fc 1 2 _ (by decide) q.1 q.2, fm 3 _ rfl q.2]
  · have q : ∀ k : Fin 128, gv (l8 tB 3) k.val = gv (l6 tM 5) k.val ∧ gv (l6 tM 5) k.val < 4294967296 := by decide +kernel
    have t := q ⟨k, hk⟩
    rw [fc 3 k _ (by decide) t.1 t.2, fr 5 k _ (by decide) (by decide +kernel) rfl t.2]
  · have q : gv (l8 tB 61) 1 = gv (l6 tM 58) 7 ∧ gv (l6 tM 58) 7 < 4294967296 := by decide +kernel
    rw [fc 61 1 _ (by decide) q.1 q.2, fm 7 _ rfl q.2]
  · rw [e9]
    exact fc 5 1 0 (by decide) (by decide +kernel) (by decide)
  · rw [e9] at hk
    exact absurd hk (by rw [show (0 : Int32).toInt = 0 by decide]; omega)
  · have q : ∀ k : Fin 64, gv (l6 tM 22) k.val = sl k.val ∧ sl k.val < 4294967296 := by decide +kernel
    have t := q ⟨k, hk⟩
    exact fr 22 k _ (by decide) (by decide +kernel) t.1 t.2
  · have q : ∀ k : Fin 64, gv (l8 tB 8) (8 * (k.val % 8) + k.val / 8) = gv (l6 tM 23) k.val ∧ gv (l6 tM 23) k.val < 4294967296 := by decide +kernel
    have t := q ⟨k, hk⟩
    show M.2.1 23 k = S.1 8 (8 * (k % 8) + k / 8)
    rw [fc 8 _ _ (by decide) t.1 t.2, fr 23 k _ (by decide) (by decide +kernel) rfl t.2]
  · exact fc 4 11 0 (by decide) (by decide +kernel) (by decide)
  · exact fr 11 0 0 (by decide) (by decide +kernel) (by decide +kernel) (by decide)
  · exact fc 12 17 0 (by decide) (by decide +kernel) (by decide)
  · exact fr 11 1 0 (by decide) (by decide +kernel) (by decide +kernel) (by decide)
  · exact fc 105 17 0 (by decide) (by decide +kernel) (by decide)
