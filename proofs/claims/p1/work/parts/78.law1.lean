/-! THE LAW ON SCRIPTS OF AT MOST ONE CALL -/
theorem tail0 {R : Prop} {t k : Int32} (hR : R) (e : t = k) : (t = k → R) ∧ (¬ (t = k) → False) := ⟨fun _ => hR, fun h => h e⟩
theorem lg_self (y : Int64) : lg_cmp y y = 0 := by
  unfold lg_cmp
  simp
theorem tail1 {R : Prop} {t k : Int32} {x y : Int64} (hR : R) (e : t = k) (hc : k = 0 → x = y) : (t = k → ((¬ k = 0 → R) ∧ (k = 0 → (c_cl UL 115 = 904 ∧ vp_in 0 (c_ln UL 115) ∧ (((lg_cmp x y) = 0 → R) ∧ (¬ ((lg_cmp x y) = 0) → False)))))) ∧ (¬ (t = k) → False) :=
  ⟨fun _ => ⟨fun _ => hR, fun h0 => ⟨by decide +kernel, vpc_ok (u := 115) (a := 0) (by decide +kernel) rfl rfl, fun _ => hR, fun hn => hn (by rw [hc h0]; exact lg_self y)⟩⟩, fun hn => hn e⟩
theorem v0 : vp_in 0 7 := by unfold vp_in; decide
theorem v1 : vp_in (0 + 1) 7 := by unfold vp_in; decide
theorem v2 : vp_in (0 + 2) 7 := by unfold vp_in; decide
theorem v3 : vp_in (0 + 3) 7 := by unfold vp_in; decide
theorem v4 : vp_in (0 + 4) 7 := by unfold vp_in; decide
theorem v5 : vp_in (0 + 5) 7 := by unfold vp_in; decide
theorem v6 : vp_in (0 + 6) 7 := by unfold vp_in; decide
theorem oc_feed {S : cs} {K : Int32 → cs → Prop} (hS : RC S tB) {a b c d f : Int32} (h0 : ∀ S' : cs, S'.2.1 115 (0 : Int32).toNatClampNeg = (20 : Int32).toInt64 → K 0 S') : p_Lw_feed UL 0 a b c d f 115 S K := by
  have go : ∀ {v : Int32} {b : Nat} {S' : cs} {t : X8}, Nat.beq b 20 = true → v = Int32.ofNat b → RC S' t → c_cl UL 115 = 904 ∧ (vp_in 0 (c_ln UL 115) ∧ (K 0 (S'.1, va_up S'.2.1 115 (vp_updL (S'.2.1 115) (0 : Int32).toNatClampNeg v.toInt64), S'.2.2))) := fun hk e _ => outK (by
      rw [eqv hk e]; exact h0)
  exact ⟨by decide +kernel, xs_p_B_feed_x1_x2_x3_x4_x5 rc_feed rfl trivial trivial trivial trivial trivial hS (fun h e r => go h e r) (fun h _ => absurd h Bool.false_ne_true)⟩
theorem om_feed {M : ms} {K : Int32 → ms → Prop} (hM : RM M tM) {a b c d f : Int32} (h0 : ∀ M' : ms, M'.1 0 = 0 → K 20 M') : p_feed a b c d f M K := by
  have go : ∀ {v : Int32} {b : Nat} {M' : ms} {t : X6}, and (Nat.beq b 20) (rfi t 0 (fun w => Nat.beq w 0)) = true → v = Int32.ofNat b → RM M' t → K v M' := fun hk e r => by
      obtain ⟨k1, k2⟩ := an_ok hk
      rw [eqv k1 e]
      exact h0 _ (mk0 k2 r)
  exact xs_p_feed_x1_x2_x3_x4_x5 mc_feed trivial trivial trivial trivial trivial hM (fun h e r => go h e r)
theorem oc_turn {S : cs} {K : Int32 → cs → Prop} (hS : RC S tB) (h0 : ∀ S' : cs, S'.2.1 115 (0 : Int32).toNatClampNeg = (0 : Int32).toInt64 → K 0 S') : p_Lw_turn UL 0 115 S K := by
  have go : ∀ {v : Int32} {b : Nat} {S' : cs} {t : X8}, Nat.beq b 0 = true → v = Int32.ofNat b → RC S' t → c_cl UL 115 = 904 ∧ (vp_in 0 (c_ln UL 115) ∧ (K 0 (S'.1, va_up S'.2.1 115 (vp_updL (S'.2.1 115) (0 : Int32).toNatClampNeg v.toInt64), S'.2.2))) := fun hk e _ => outK (by
      rw [eqv hk e]; exact h0)
  exact ⟨by decide +kernel, xs_p_B_turn rc_turn rfl hS (fun h e r => go h e r) (fun h _ => absurd h Bool.false_ne_true)⟩
theorem om_turn {M : ms} {K : Int32 → ms → Prop} (hM : RM M tM) (h0 : ∀ M' : ms, M'.1 0 = 0 → K 0 M') : p_turn2 M K := by
  have go : ∀ {v : Int32} {b : Nat} {M' : ms} {t : X6}, and (Nat.beq b 0) (rfi t 0 (fun w => Nat.beq w 0)) = true → v = Int32.ofNat b → RM M' t → K v M' := fun hk e r => by
      obtain ⟨k1, k2⟩ := an_ok hk
      rw [eqv k1 e]
      exact h0 _ (mk0 k2 r)
  exact xs_p_turn2 mc_turn hM (fun h e r => go h e r)
section LAW1
variable {S : cs} {M : ms} {xs : Nat → Int32} {R : Nat → Int32 → cs → ms → Prop}
theorem hl_0 (hS : RC S tB) (hM : RM M tM) (hR : ∀ S' M', R (0 + 1) (0 + 7) S' M') : h_law_0 UL 7 xs 0 0 S M R := by
  have F := FC_of hS
  by_cases ok : okC (xs (0 + 1 : Int32).toNatClampNeg) (xs (0 + 2 : Int32).toNatClampNeg) (xs (0 + 3 : Int32).toNatClampNeg)
  · exact ⟨v1, v2, v3, oc_canvas F (fun r => absurd ok r) (fun _ S' => ⟨v1, v2, v3, om_canvas (fun r => absurd ok r) (fun _ M' e => tail0 (hR _ _) e)⟩)⟩
  · exact ⟨v1, v2, v3, oc_canvas F (fun _ S' => ⟨v1, v2, v3, om_canvas (fun _ M' e => tail0 (hR _ _) e) (fun r => absurd r ok)⟩) (fun r => absurd r ok)⟩
theorem hl_1 (hS : RC S tB) (hM : RM M tM) (hR : ∀ S' M', R (0 + 1) (0 + 7) S' M') : h_law_1 UL 7 xs 0 0 S M R := by
  have F := FC_of hS
  have FF := FM_of hM
  by_cases ok : rect (xs (0 + 1 : Int32).toNatClampNeg) (xs (0 + 2 : Int32).toNatClampNeg) (xs (0 + 3 : Int32).toNatClampNeg) (xs (0 + 4 : Int32).toNatClampNeg)
  · exact ⟨v1, v2, v3, v4, v5, oc_fill F (fun r => absurd ok r) (fun _ S' => ⟨v1, v2, v3, v4, v5, om_fill FF (fun r => absurd ok r) (fun _ M' e => tail0 (hR _ _) e)⟩)⟩
  · exact ⟨v1, v2, v3, v4, v5, oc_fill F (fun _ S' => ⟨v1, v2, v3, v4, v5, om_fill FF (fun _ M' e => tail0 (hR _ _) e) (fun r => absurd r ok)⟩) (fun r => absurd r ok)⟩
theorem hl_2 (hS : RC S tB) (hM : RM M tM) (hR : ∀ S' M', R (0 + 1) (0 + 7) S' M') : h_law_2 UL 7 xs 0 0 S M R := by
  have F := FC_of hS
  have FF := FM_of hM
  by_cases ok : rect (xs (0 + 1 : Int32).toNatClampNeg) (xs (0 + 2 : Int32).toNatClampNeg) (xs (0 + 3 : Int32).toNatClampNeg) (xs (0 + 4 : Int32).toNatClampNeg)
  · exact ⟨v1, v2, v3, v4, v5, v6, oc_slope F (fun r => absurd ok r) (fun _ S' => ⟨v1, v2, v3, v4, v5, v6, om_slope FF (fun r => absurd ok r) (fun _ M' e => tail0 (hR _ _) e)⟩)⟩
  · exact ⟨v1, v2, v3, v4, v5, v6, oc_slope F (fun _ S' => ⟨v1, v2, v3, v4, v5, v6, om_slope FF (fun _ M' e => tail0 (hR _ _) e) (fun r => absurd r ok)⟩) (fun r => absurd r ok)⟩
theorem hl_3 (hS : RC S tB) (hM : RM M tM) (hR : ∀ S' M', R (0 + 1) (0 + 7) S' M') : h_law_3 UL 7 xs 0 0 S M R := by
  have F := FC_of hS
  have FF := FM_of hM
  by_cases ok : okA (xs (0 + 1 : Int32).toNatClampNeg) (xs (0 + 2 : Int32).toNatClampNeg) (xs (0 + 3 : Int32).toNatClampNeg)
  · exact ⟨v1, v2, v3, oc_at F (fun r => absurd ok r) (fun _ S' ev => ⟨v1, v2, v3, om_at FF (fun r => absurd ok r) (fun _ M' e => tail1 (hR _ _) e (fun _ => ev))⟩)⟩
  · exact ⟨v1, v2, v3, oc_at F (fun _ S' => ⟨v1, v2, v3, om_at FF (fun _ v M' e => tail1 (hR _ _) e (fun q => absurd q (by decide))) (fun r => absurd r ok)⟩) (fun r => absurd r ok)⟩
theorem hl_4 (hS : RC S tB) (hM : RM M tM) (hR : ∀ S' M', R (0 + 1) (0 + 7) S' M') : h_law_4 UL 7 xs 0 0 S M R := by
  have F := FC_of hS
  by_cases ok : okS (xs (0 + 1 : Int32).toNatClampNeg) (xs (0 + 2 : Int32).toNatClampNeg) (xs (0 + 3 : Int32).toNatClampNeg)
  · exact ⟨v1, v2, v3, oc_scale F (fun r => absurd ok r) (fun _ S' => ⟨v1, v2, v3, om_scale (fun r => absurd ok r) (fun _ M' e => tail0 (hR _ _) e)⟩)⟩
  · exact ⟨v1, v2, v3, oc_scale F (fun _ S' => ⟨v1, v2, v3, om_scale (fun _ M' e => tail0 (hR _ _) e) (fun r => absurd r ok)⟩) (fun r => absurd r ok)⟩
theorem hl_5 (hS : RC S tB) (hM : RM M tM) (hR : ∀ S' M', R (0 + 1) (0 + 7) S' M') : h_law_5 UL 7 xs 0 0 S M R := by
  have F := FC_of hS
  by_cases ok : okE (xs (0 + 2 : Int32).toNatClampNeg) (xs (0 + 3 : Int32).toNatClampNeg)
  · by_cases ok2 : okF (xs (0 + 1 : Int32).toNatClampNeg) (xs (0 + 4 : Int32).toNatClampNeg)
    · exact ⟨v1, v2, v3, v4, oc_entry F (fun r => absurd ok r) (fun _ r => absurd ok2 r) (fun _ _ S' => ⟨v1, v2, v3, v4, om_entry (fun r => absurd ok r) (fun _ r => absurd ok2 r) (fun _ _ M' e => tail0 (hR _ _) e)⟩)⟩
    · exact ⟨v1, v2, v3, v4, oc_entry F (fun r => absurd ok r) (fun _ _ S' => ⟨v1, v2, v3, v4, om_entry (fun r => absurd ok r) (fun _ _ M' e => tail0 (hR _ _) e) (fun _ r => absurd r ok2)⟩) (fun _ r => absurd r ok2)⟩
  · exact ⟨v1, v2, v3, v4, oc_entry F (fun _ S' => ⟨v1, v2, v3, v4, om_entry (fun _ M' e => tail0 (hR _ _) e) (fun r => absurd r ok) (fun r => absurd r ok)⟩) (fun r => absurd r ok) (fun r => absurd r ok)⟩
theorem hl_6 (hS : RC S tB) (hM : RM M tM) (hR : ∀ S' M', R (0 + 1) (0 + 7) S' M') : h_law_6 UL 7 xs 0 0 S M R := by
  by_cases ok : okP (xs (0 + 1 : Int32).toNatClampNeg) (xs (0 + 2 : Int32).toNatClampNeg) (xs (0 + 3 : Int32).toNatClampNeg)
  · exact ⟨v1, v2, v3, oc_pack hS (fun r => absurd ok r) (fun _ S' ev => ⟨v1, v2, v3, om_pack hM (fun r => absurd ok r) (fun _ M' e => tail1 (hR _ _) e (fun _ => ev))⟩)⟩
  · exact ⟨v1, v2, v3, oc_pack hS (fun _ S' => ⟨v1, v2, v3, om_pack hM (fun _ v M' e => tail1 (hR _ _) e (fun q => absurd q (by decide))) (fun r => absurd r ok)⟩) (fun r => absurd r ok)⟩
theorem hl_7 (hS : RC S tB) (hM : RM M tM) (hR : ∀ S' M', R (0 + 1) (0 + 7) S' M') : h_law_7 UL 7 xs 0 0 S M R :=
  xs_p_B_size rc_size rfl hS (fun h e _ => xs_p_size mc_size hM (fun h2 e2 _ => tail0 (hR _ _) ((eqv h e).trans (eqv h2 e2).symm)))
theorem hl_8 (hS : RC S tB) (hM : RM M tM) (hR : ∀ S' M', R (0 + 1) (0 + 7) S' M') : h_law_8 UL 7 xs 0 0 S M R :=
  ⟨v1, oc_out (FC_of hS) (fun S' => ⟨v1, om_out (FM_of hM) (fun v M' e => tail1 (hR _ _) e (fun q => absurd q (by decide)))⟩)⟩
theorem hl_9 (hS : RC S tB) (hM : RM M tM) (hR : ∀ S' M', R (0 + 1) (0 + 7) S' M') : h_law_9 UL 7 xs 0 0 S M R :=
  ⟨v1, v2, v3, v4, v5, oc_feed hS (fun S' ev => ⟨v1, v2, v3, v4, v5, om_feed hM (fun M' e => tail1 (hR _ _) e (fun _ => ev))⟩)⟩
theorem hl_10 (hS : RC S tB) (hM : RM M tM) (hR : ∀ S' M', R (0 + 1) (0 + 7) S' M') : h_law_10 UL 7 xs 0 0 S M R := by
  have F := FC_of hS
  have FF := FM_of hM
  by_cases ok : okN (xs (0 + 1 : Int32).toNatClampNeg)
  · exact ⟨v1, oc_end F (fun r => absurd ok r) (fun _ S' => ⟨v1, om_end FF (fun r => absurd ok r) (fun _ M' e => tail0 (hR _ _) e)⟩)⟩
  · exact ⟨v1, oc_end F (fun _ S' => ⟨v1, om_end FF (fun _ M' e => tail0 (hR _ _) e) (fun r => absurd r ok)⟩) (fun r => absurd r ok)⟩
theorem hl_11 (hS : RC S tB) (hM : RM M tM) (hR : ∀ S' M', R (0 + 1) (0 + 7) S' M') : h_law_11 UL 7 xs 0 0 S M R :=
  ⟨v1, v2, oc_change (FC_of hS) (fun S' => ⟨v1, v2, om_change (FM_of hM) (fun v M' e => tail1 (hR _ _) e (fun q => absurd q (by decide)))⟩)⟩
theorem hl_12 (hS : RC S tB) (hM : RM M tM) (hR : ∀ S' M', R (0 + 1) (0 + 7) S' M') : h_law_12 UL 7 xs 0 0 S M R :=
  oc_turn hS (fun S' ev => om_turn hM (fun M' e => tail1 (hR _ _) e (fun _ => ev)))
theorem hl_13 (hS : RC S tB) (hM : RM M tM) (hR : ∀ S' M', R (0 + 1) (0 + 7) S' M') : h_law_13 UL 7 xs 0 0 S M R :=
  xs_p_B_unpack rc_unpack rfl hS (fun h e _ => xs_p_unpack mc_unpack hM (fun h2 e2 _ => tail0 (hR _ _) ((eqv h e).trans (eqv h2 e2).symm)))
theorem hl_14 (hS : RC S tB) (hM : RM M tM) (hR : ∀ S' M', R (0 + 1) (0 + 7) S' M') : h_law_14 UL 7 xs 0 0 S M R :=
  xs_p_B_place rc_place rfl hS (fun h e _ => xs_p_place mc_place hM (fun h2 e2 _ => tail0 (hR _ _) ((eqv h e).trans (eqv h2 e2).symm)))
theorem hl_15 (hS : RC S tB) (hM : RM M tM) (hR : ∀ S' M', R (0 + 1) (0 + 7) S' M') : h_law_15 UL 7 xs 0 0 S M R := by
  have F := FC_of hS
  have FF := FM_of hM
  by_cases ok : okW (xs (0 + 1 : Int32).toNatClampNeg)
  · exact ⟨v1, oc_about F (fun r => absurd ok r) (fun _ S' => ⟨v1, om_about FF (fun r => absurd ok r) (fun _ v M' e => tail1 (hR _ _) e (fun q => absurd q (by decide)))⟩)⟩
  · exact ⟨v1, oc_about F (fun _ S' => ⟨v1, om_about FF (fun _ v M' e => tail1 (hR _ _) e (fun q => absurd q (by decide))) (fun r => absurd r ok)⟩) (fun r => absurd r ok)⟩
theorem hl_16 (hS : RC S tB) (hM : RM M tM) (hR : ∀ S' M', R (0 + 1) (0 + 7) S' M') : h_law_16 UL 7 xs 0 0 S M R :=
  ⟨v1, v2, v3, oc_sample (FC_of hS) (fun S' => ⟨v1, v2, v3, om_sample (FM_of hM) (fun v M' e => tail1 (hR _ _) e (fun q => absurd q (by decide)))⟩)⟩
theorem hl_17 (hS : RC S tB) (hM : RM M tM) (hR : ∀ S' M', R (0 + 1) (0 + 7) S' M') : h_law_17 UL 7 xs 0 0 S M R := by
  have F := FC_of hS
  have FF := FM_of hM
  by_cases ok : okL (xs (0 + 1 : Int32).toNatClampNeg)
  · exact ⟨v1, v2, v3, v4, oc_level F (fun r => absurd ok r) (fun _ S' => ⟨v1, v2, v3, v4, om_level FF (fun r => absurd ok r) (fun _ v M' e => tail1 (hR _ _) e (fun q => absurd q (by decide)))⟩)⟩
  · exact ⟨v1, v2, v3, v4, oc_level F (fun _ S' => ⟨v1, v2, v3, v4, om_level FF (fun _ v M' e => tail1 (hR _ _) e (fun q => absurd q (by decide))) (fun r => absurd r ok)⟩) (fun r => absurd r ok)⟩
theorem hl_18 (hS : RC S tB) (hM : RM M tM) (hR : ∀ S' M', R (0 + 1) (0 + 7) S' M') : h_law_18 UL 7 xs 0 0 S M R :=
  ⟨by decide +kernel, xs_p_B_take rc_take rfl hS (fun h _ => absurd h Bool.false_ne_true) (fun h _ => ⟨Nat.eq_of_beq_eq_true h, xs_p_take mc_take hM (fun h2 r2 => tail0 (hR _ _) (mk0 h2 r2))⟩)⟩
end LAW1
theorem sub7 {n : Nat} (h : n ≤ 7) : (Int32.ofNat n - 7).toInt = (n : Int) - 7 := by
  rw [Int32.toInt_sub, Int32.toInt_ofNat_of_lt (show n < 2 ^ 31 by omega)]
  show ((n : Int) - 7).bmod 4294967296 = _
  rw [Int.bmod_def]
  split <;> omega
theorem pure_1 {n : Nat} (hn : n ≤ 7) (xs : Nat → Int32) : p_law n xs := by
  refine p_law_of (fun S M hS hM => ?_)
  refine ⟨fun j i S' M' => (j = 0 ∧ i = 0 ∧ S' = S ∧ M' = M) ∨ (j = 1 ∧ i = 7), fun j _ _ _ => 1 - j, Or.inl ⟨rfl, rfl, rfl, rfl⟩, fun j i S' M' hI => ?_⟩
  rcases hI with ⟨rfl, rfl, rfl, rfl⟩ | ⟨rfl, rfl⟩
  · intro hc
    have h7 : n = 7 := by
      have h1 : ¬ (Int32.ofNat n - 7).toInt < 0 := fun q => hc (Int32.lt_iff_toInt_lt.mpr q)
      rw [sub7 hn] at h1
      omega
    subst h7
    have hR : ∀ S9 M9, ((fun j' i' S'' M'' => ((j' = 0 ∧ i' = 0 ∧ S'' = S' ∧ M'' = M') ∨ (j' = 1 ∧ i' = 7)) ∧ 1 - j' < 1 - 0) : Nat → Int32 → cs → ms → Prop) (0 + 1) (0 + 7) S9 M9 := fun _ _ => ⟨Or.inr ⟨rfl, rfl⟩, by decide⟩
    exact ⟨by decide, v0, fun _ => hl_0 hS hM hR, fun _ => hl_1 hS hM hR, fun _ => hl_2 hS hM hR, fun _ => hl_3 hS hM hR, fun _ => hl_4 hS hM hR, fun _ => hl_5 hS hM hR, fun _ => hl_6 hS hM hR, fun _ => hl_7 hS hM hR, fun _ => hl_8 hS hM hR, fun _ => hl_9 hS hM hR, fun _ => hl_10 hS hM hR, fun _ => hl_11 hS hM hR, fun _ => hl_12 hS hM hR, fun _ => hl_13 hS hM hR, fun _ => hl_14 hS hM hR, fun _ => hl_15 hS hM hR, fun _ => hl_16 hS hM hR, fun _ => hl_17 hS hM hR, fun _ => hl_18 hS hM hR, fun _ => hR _ _⟩
  · intro hc
    refine absurd (Int32.lt_iff_toInt_lt.mpr ?_) hc
    rw [sub7 hn]
    show (n : Int) - 7 < 7
    omega
