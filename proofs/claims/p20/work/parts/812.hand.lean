
section GRE
variable {x1 : Int32} {S : ms} {K : Int32 → ms → Prop}
theorem g_15 (b1 : B 0 2 x1) (hI : IM S) (hq : ∀ j : Nat, 3 * x1.toInt ≤ j → (j : Int) < 3 * x1.toInt + (S.2.1 14 x1.toNatClampNeg).toInt → B 1 2 (S.2.1 15 j)) (hK : ∀ {v : Int32}, B 1 2 v → (∀ j : Nat, 3 * x1.toInt ≤ j → (j : Int) < 3 * x1.toInt + (S.2.1 14 x1.toNatClampNeg).toInt → B 1 v.toInt (S.2.1 15 j)) → K v S) : p_greatest x1 1 S K := by
  have q1 := b1.1
  have q2 := b1.2
  have hl := br_14 hI x1.toNatClampNeg
  have l1 := hl.1
  have l2 := hl.2
  unfold p_greatest
  refine ⟨fun y1 y2 y3 y4 yS => x1 = y1 ∧ (1 : Int32) = y2 ∧ B 1 2 y3 ∧ B 0 3 y4 ∧ S = yS ∧ ∀ j : Nat, 3 * x1.toInt ≤ j → (j : Int) < 3 * x1.toInt + y4.toInt → (j : Int) < 3 * x1.toInt + (S.2.1 14 x1.toNatClampNeg).toInt → B 1 y3.toInt (S.2.1 15 j), fun _ _ _ y4 _ => (3 - y4.toInt).toNat, ⟨rfl, rfl, ⟨by decide, by decide⟩, ⟨by decide, by decide⟩, rfl, fun j h1 h2 _ => ?_⟩, ?_⟩
  · have : (0 : Int32).toInt = 0 := by decide
    omega
  · rintro _ _ x3 x4 _ ⟨rfl, rfl, b3, b4, rfl, hp⟩
    have c3 := b3.1
    have c4 := b3.2
    have d3 := b4.1
    have d4 := b4.2
    unfold b_greatest_5
    refine ⟨vp_B b1 (by decide) (by decide), fun hc => ?_, fun hc => ?_⟩
    · have hc := i_le hc
      refine hK b3 (fun j h1 h2 => hp j h1 (by omega) h2)
    · have hc := i_lt (nle_lt hc)
      have e1 : ((3 * x1) + x4).toInt = 3 * x1.toInt + x4.toInt := by
        have e2 : (3 * x1).toInt = 3 * x1.toInt := t_mul (show B 3 3 (3 : Int32) from ⟨by decide, by decide⟩) b1 (by decide) (by decide) (by decide)
        rw [t_add (a := 0) (b := 6) ⟨by omega, by omega⟩ b4 (by decide) (by decide), e2]
      have ei : ((((3 * x1) + x4).toNatClampNeg : Nat) : Int) = 3 * x1.toInt + x4.toInt := by rw [cl_i (by omega), e1]
      have be : B 1 2 (S.2.1 15 ((3 * x1) + x4).toNatClampNeg) := hq _ (by omega) (by omega)
      have e5 : (x4 + 1).toInt = x4.toInt + 1 := t_add b4 (show B 1 1 (1 : Int32) from ⟨by decide, by decide⟩) (by decide) (by decide)
      have go : ∀ s0 : Int32, B 1 2 s0 → x3.toInt ≤ s0.toInt → (S.2.1 15 ((3 * x1) + x4).toNatClampNeg).toInt ≤ s0.toInt → (x1 = x1 ∧ (1 : Int32) = 1 ∧ B 1 2 s0 ∧ B 0 3 (x4 + 1) ∧ S = S ∧ ∀ j : Nat, 3 * x1.toInt ≤ j → (j : Int) < 3 * x1.toInt + (x4 + 1).toInt → (j : Int) < 3 * x1.toInt + (S.2.1 14 x1.toNatClampNeg).toInt → B 1 s0.toInt (S.2.1 15 j)) ∧ (3 - (x4 + 1).toInt).toNat < (3 - x4.toInt).toNat := by
        intro s0 hs h3 h4
        refine ⟨⟨rfl, rfl, hs, ⟨by omega, by omega⟩, rfl, fun j h1 h2 h5 => ?_⟩, by omega⟩
        by_cases hj : (j : Int) < 3 * x1.toInt + x4.toInt
        · exact B_w (hp j h1 hj h5) (by omega) h3
        · have : j = ((3 * x1) + x4).toNatClampNeg := by omega
          rw [this]
          exact ⟨be.1, h4⟩
      refine ⟨fun hx => ?_, fun hx => ?_⟩
      · exact absurd hx (by decide)
      · refine ⟨vp_om (by omega) (by omega), ?_⟩
        unfold b_greatest_45
        refine ⟨fun hs => ?_, fun hs => ?_⟩
        · exact go x3 b3 (Int.le_refl _) (i_le hs)
        · exact go _ be (Int.le_of_lt (i_lt (nle_lt hs))) (Int.le_refl _)
theorem g_16 (b1 : B 0 2 x1) (hI : IM S) (hq : ∀ j : Nat, 3 * x1.toInt ≤ j → (j : Int) < 3 * x1.toInt + (S.2.1 14 x1.toNatClampNeg).toInt → B 1 2 (S.2.1 16 j)) (hK : ∀ {v : Int32}, B 1 2 v → (∀ j : Nat, 3 * x1.toInt ≤ j → (j : Int) < 3 * x1.toInt + (S.2.1 14 x1.toNatClampNeg).toInt → B 1 v.toInt (S.2.1 16 j)) → K v S) : p_greatest x1 0 S K := by
  have q1 := b1.1
  have q2 := b1.2
  have hl := br_14 hI x1.toNatClampNeg
  have l1 := hl.1
  have l2 := hl.2
  unfold p_greatest
  refine ⟨fun y1 y2 y3 y4 yS => x1 = y1 ∧ (0 : Int32) = y2 ∧ B 1 2 y3 ∧ B 0 3 y4 ∧ S = yS ∧ ∀ j : Nat, 3 * x1.toInt ≤ j → (j : Int) < 3 * x1.toInt + y4.toInt → (j : Int) < 3 * x1.toInt + (S.2.1 14 x1.toNatClampNeg).toInt → B 1 y3.toInt (S.2.1 16 j), fun _ _ _ y4 _ => (3 - y4.toInt).toNat, ⟨rfl, rfl, ⟨by decide, by decide⟩, ⟨by decide, by decide⟩, rfl, fun j h1 h2 _ => ?_⟩, ?_⟩
  · have : (0 : Int32).toInt = 0 := by decide
    omega
  · rintro _ _ x3 x4 _ ⟨rfl, rfl, b3, b4, rfl, hp⟩
    have c3 := b3.1
    have c4 := b3.2
    have d3 := b4.1
    have d4 := b4.2
    unfold b_greatest_5
    refine ⟨vp_B b1 (by decide) (by decide), fun hc => ?_, fun hc => ?_⟩
    · have hc := i_le hc
      refine hK b3 (fun j h1 h2 => hp j h1 (by omega) h2)
    · have hc := i_lt (nle_lt hc)
      have e1 : ((3 * x1) + x4).toInt = 3 * x1.toInt + x4.toInt := by
        have e2 : (3 * x1).toInt = 3 * x1.toInt := t_mul (show B 3 3 (3 : Int32) from ⟨by decide, by decide⟩) b1 (by decide) (by decide) (by decide)
        rw [t_add (a := 0) (b := 6) ⟨by omega, by omega⟩ b4 (by decide) (by decide), e2]
      have ei : ((((3 * x1) + x4).toNatClampNeg : Nat) : Int) = 3 * x1.toInt + x4.toInt := by rw [cl_i (by omega), e1]
      have be : B 1 2 (S.2.1 16 ((3 * x1) + x4).toNatClampNeg) := hq _ (by omega) (by omega)
      have e5 : (x4 + 1).toInt = x4.toInt + 1 := t_add b4 (show B 1 1 (1 : Int32) from ⟨by decide, by decide⟩) (by decide) (by decide)
      have go : ∀ s0 : Int32, B 1 2 s0 → x3.toInt ≤ s0.toInt → (S.2.1 16 ((3 * x1) + x4).toNatClampNeg).toInt ≤ s0.toInt → (x1 = x1 ∧ (0 : Int32) = 0 ∧ B 1 2 s0 ∧ B 0 3 (x4 + 1) ∧ S = S ∧ ∀ j : Nat, 3 * x1.toInt ≤ j → (j : Int) < 3 * x1.toInt + (x4 + 1).toInt → (j : Int) < 3 * x1.toInt + (S.2.1 14 x1.toNatClampNeg).toInt → B 1 s0.toInt (S.2.1 16 j)) ∧ (3 - (x4 + 1).toInt).toNat < (3 - x4.toInt).toNat := by
        intro s0 hs h3 h4
        refine ⟨⟨rfl, rfl, hs, ⟨by omega, by omega⟩, rfl, fun j h1 h2 h5 => ?_⟩, by omega⟩
        by_cases hj : (j : Int) < 3 * x1.toInt + x4.toInt
        · exact B_w (hp j h1 hj h5) (by omega) h3
        · have : j = ((3 * x1) + x4).toNatClampNeg := by omega
          rw [this]
          exact ⟨be.1, h4⟩
      refine ⟨fun hx => ?_, fun hx => ?_⟩
      · refine ⟨vp_om (by omega) (by omega), ?_⟩
        unfold b_greatest_45
        refine ⟨fun hs => ?_, fun hs => ?_⟩
        · exact go x3 b3 (Int.le_refl _) (i_le hs)
        · exact go _ be (Int.le_of_lt (i_lt (nle_lt hs))) (Int.le_refl _)
      · exact absurd rfl hx
end GRE
theorem h_greatest_x10_x20 {S : ms} {K : Int32 → ms → Prop} (hI : IM S) (pre0 : qf (S.2.1 16) 0 (0 + (S.2.1 14 (0 : Int32).toNatClampNeg).toInt) 1 2) (hK : ∀ {v : Int32}, B 1 2 v → qf (S.2.1 16) 0 (0 + (S.2.1 14 (0 : Int32).toNatClampNeg).toInt) 1 v.toInt → K v S) : p_greatest 0 0 S K := by
  have e : (0 : Int32).toInt = 0 := by decide
  exact g_16 ⟨by decide, by decide⟩ hI (fun j h1 h2 => pre0 j (by omega) (by omega)) (fun hv hh => hK hv (fun j h1 h2 => hh j (by omega) (by omega)))
theorem h_greatest_x10_x21 {S : ms} {K : Int32 → ms → Prop} (hI : IM S) (pre0 : qf (S.2.1 15) 0 (0 + (S.2.1 14 (0 : Int32).toNatClampNeg).toInt) 1 2) (hK : ∀ {v : Int32}, B 1 2 v → qf (S.2.1 15) 0 (0 + (S.2.1 14 (0 : Int32).toNatClampNeg).toInt) 1 v.toInt → K v S) : p_greatest 0 1 S K := by
  have e : (0 : Int32).toInt = 0 := by decide
  exact g_15 ⟨by decide, by decide⟩ hI (fun j h1 h2 => pre0 j (by omega) (by omega)) (fun hv hh => hK hv (fun j h1 h2 => hh j (by omega) (by omega)))
theorem h_greatest_x11_x20 {S : ms} {K : Int32 → ms → Prop} (hI : IM S) (pre0 : qf (S.2.1 16) 3 (3 + (S.2.1 14 (1 : Int32).toNatClampNeg).toInt) 1 2) (hK : ∀ {v : Int32}, B 1 2 v → qf (S.2.1 16) 3 (3 + (S.2.1 14 (1 : Int32).toNatClampNeg).toInt) 1 v.toInt → K v S) : p_greatest 1 0 S K := by
  have e : (1 : Int32).toInt = 1 := by decide
  exact g_16 ⟨by decide, by decide⟩ hI (fun j h1 h2 => pre0 j (by omega) (by omega)) (fun hv hh => hK hv (fun j h1 h2 => hh j (by omega) (by omega)))
theorem h_greatest_x11_x21 {S : ms} {K : Int32 → ms → Prop} (hI : IM S) (pre0 : qf (S.2.1 15) 3 (3 + (S.2.1 14 (1 : Int32).toNatClampNeg).toInt) 1 2) (hK : ∀ {v : Int32}, B 1 2 v → qf (S.2.1 15) 3 (3 + (S.2.1 14 (1 : Int32).toNatClampNeg).toInt) 1 v.toInt → K v S) : p_greatest 1 1 S K := by
  have e : (1 : Int32).toInt = 1 := by decide
  exact g_15 ⟨by decide, by decide⟩ hI (fun j h1 h2 => pre0 j (by omega) (by omega)) (fun hv hh => hK hv (fun j h1 h2 => hh j (by omega) (by omega)))
theorem h_greatest_x12_x20 {S : ms} {K : Int32 → ms → Prop} (hI : IM S) (pre0 : qf (S.2.1 16) 6 (6 + (S.2.1 14 (2 : Int32).toNatClampNeg).toInt - 1000 * (S.1 35).toInt) 1 2) (pre1 : (S.1 35).toInt = 0) (hK : ∀ {v : Int32}, B 1 2 v → qf (S.2.1 16) 6 (6 + (S.2.1 14 (2 : Int32).toNatClampNeg).toInt - 1000 * (S.1 35).toInt) 1 v.toInt → K v S) : p_greatest 2 0 S K := by
  have e : (2 : Int32).toInt = 2 := by decide
  exact g_16 ⟨by decide, by decide⟩ hI (fun j h1 h2 => pre0 j (by omega) (by omega)) (fun hv hh => hK hv (fun j h1 h2 => hh j (by omega) (by omega)))
theorem h_greatest_x12_x21 {S : ms} {K : Int32 → ms → Prop} (hI : IM S) (pre0 : qf (S.2.1 15) 6 (6 + (S.2.1 14 (2 : Int32).toNatClampNeg).toInt - 1000 * (S.1 35).toInt) 1 2) (pre1 : (S.1 35).toInt = 0) (hK : ∀ {v : Int32}, B 1 2 v → qf (S.2.1 15) 6 (6 + (S.2.1 14 (2 : Int32).toNatClampNeg).toInt - 1000 * (S.1 35).toInt) 1 v.toInt → K v S) : p_greatest 2 1 S K := by
  have e : (2 : Int32).toInt = 2 := by decide
  exact g_15 ⟨by decide, by decide⟩ hI (fun j h1 h2 => pre0 j (by omega) (by omega)) (fun hv hh => hK hv (fun j h1 h2 => hh j (by omega) (by omega)))
