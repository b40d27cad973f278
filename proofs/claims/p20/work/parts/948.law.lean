/-! THE LAW: every script of at most N ints; RL between calls -/
theorem lg_eq {x y : Int64} (h : x = y) : lg_cmp x y = 0 := by
  subst h
  have q : ¬ x > x := fun q => by
    have q : x.toInt < x.toInt := Int64.lt_iff_toInt_lt.mp q
    omega
  unfold lg_cmp
  rw [if_neg q, if_pos rfl]
section LOOP
variable {n j : Nat} {i : Int32} {xs : Nat → Int32} {P : Nat → Nat → Nat} {M : ms} {R : Nat → Int32 → cs → ms → Prop} {a b : Bool} {F : cF} {L : cL}
-- canvas
theorem hl_0 (hI : IMc F) (hM : GM M) (hL : RL (sU a) M F) (v1 : vp_in (i + 1) n) (v2 : vp_in (i + 2) n) (v3 : vp_in (i + 3) n) (hR : ∀ {a b : Bool} {F : cF} {L : cL} {M : ms}, IMc F → GM M → RL (sU a) M F → R (j + 1) (i + 7) (F, L, PC a b P) M) : h_law_0 UL n xs j i (F, L, PC a b P) M R := by
  exact j_canvas hI hM hL (fun c F' L' a' b' M' q1 q2 q3 e hc hm => ⟨v1, v2, v3, hc _ (⟨v1, v2, v3, hm _ (hR q1 q2 q3)⟩)⟩)
-- fill
theorem hl_1 (hI : IMc F) (hM : GM M) (hL : RL (sU a) M F) (v1 : vp_in (i + 1) n) (v2 : vp_in (i + 2) n) (v3 : vp_in (i + 3) n) (v4 : vp_in (i + 4) n) (v5 : vp_in (i + 5) n) (hR : ∀ {a b : Bool} {F : cF} {L : cL} {M : ms}, IMc F → GM M → RL (sU a) M F → R (j + 1) (i + 7) (F, L, PC a b P) M) : h_law_1 UL n xs j i (F, L, PC a b P) M R := by
  exact j_fill hI hM hL (fun c F' L' a' b' M' q1 q2 q3 e hc hm => ⟨v1, v2, v3, v4, v5, hc _ (⟨v1, v2, v3, v4, v5, hm _ (hR q1 q2 q3)⟩)⟩)
-- slope
theorem hl_2 (hI : IMc F) (hM : GM M) (hL : RL (sU a) M F) (v1 : vp_in (i + 1) n) (v2 : vp_in (i + 2) n) (v3 : vp_in (i + 3) n) (v4 : vp_in (i + 4) n) (v5 : vp_in (i + 5) n) (v6 : vp_in (i + 6) n) (hR : ∀ {a b : Bool} {F : cF} {L : cL} {M : ms}, IMc F → GM M → RL (sU a) M F → R (j + 1) (i + 7) (F, L, PC a b P) M) : h_law_2 UL n xs j i (F, L, PC a b P) M R := by
  exact j_slope hI hM hL (fun c F' L' a' b' M' q1 q2 q3 e hc hm => ⟨v1, v2, v3, v4, v5, v6, hc _ (⟨v1, v2, v3, v4, v5, v6, hm _ (hR q1 q2 q3)⟩)⟩)
-- at
theorem hl_3 (hI : IMc F) (hM : GM M) (hL : RL (sU a) M F) (v1 : vp_in (i + 1) n) (v2 : vp_in (i + 2) n) (v3 : vp_in (i + 3) n) (hR : ∀ {a b : Bool} {F : cF} {L : cL} {M : ms}, IMc F → GM M → RL (sU a) M F → R (j + 1) (i + 7) (F, L, PC a b P) M) : h_law_3 UL n xs j i (F, L, PC a b P) M R := by
  exact j_at hI hM hL (fun c F' L' a' b' v M' q1 q2 q3 e ev hc hm => ⟨v1, v2, v3, hc _ (⟨v1, v2, v3, hm _ (hR q1 q2 q3)⟩)⟩)
-- scale
theorem hl_4 (hI : IMc F) (hM : GM M) (hL : RL (sU a) M F) (v1 : vp_in (i + 1) n) (v2 : vp_in (i + 2) n) (v3 : vp_in (i + 3) n) (hR : ∀ {a b : Bool} {F : cF} {L : cL} {M : ms}, IMc F → GM M → RL (sU a) M F → R (j + 1) (i + 7) (F, L, PC a b P) M) : h_law_4 UL n xs j i (F, L, PC a b P) M R := by
  exact j_scale hI hM hL (fun c F' L' a' b' M' q1 q2 q3 e hc hm => ⟨v1, v2, v3, hc _ (⟨v1, v2, v3, hm _ (hR q1 q2 q3)⟩)⟩)
-- entry
theorem hl_5 (hI : IMc F) (hM : GM M) (hL : RL (sU a) M F) (v1 : vp_in (i + 1) n) (v2 : vp_in (i + 2) n) (v3 : vp_in (i + 3) n) (v4 : vp_in (i + 4) n) (hR : ∀ {a b : Bool} {F : cF} {L : cL} {M : ms}, IMc F → GM M → RL (sU a) M F → R (j + 1) (i + 7) (F, L, PC a b P) M) : h_law_5 UL n xs j i (F, L, PC a b P) M R := by
  exact j_entry hI hM hL (fun c F' L' a' b' M' q1 q2 q3 e hc hm => ⟨v1, v2, v3, v4, hc _ (⟨v1, v2, v3, v4, hm _ (hR q1 q2 q3)⟩)⟩)
-- pack
theorem hl_6 (hI : IMc F) (hM : GM M) (hL : RL (sU a) M F) (v1 : vp_in (i + 1) n) (v2 : vp_in (i + 2) n) (v3 : vp_in (i + 3) n) (hR : ∀ {a b : Bool} {F : cF} {L : cL} {M : ms}, IMc F → GM M → RL (sU a) M F → R (j + 1) (i + 7) (F, L, PC a b P) M) : h_law_6 UL n xs j i (F, L, PC a b P) M R := by
  exact j_pack hI hM hL (fun c F' L' a' b' v M' q1 q2 q3 e ev hc hm => ⟨v1, v2, v3, hc _ (⟨v1, v2, v3, hm _ (hR q1 q2 q3)⟩)⟩)
-- size
theorem hl_7 (hI : IMc F) (hM : GM M) (hL : RL (sU a) M F)  (hR : ∀ {a b : Bool} {F : cF} {L : cL} {M : ms}, IMc F → GM M → RL (sU a) M F → R (j + 1) (i + 7) (F, L, PC a b P) M) : h_law_7 UL n xs j i (F, L, PC a b P) M R := by
  exact j_size hI hM hL (fun v M' q2 q3 hc hm => hc _ (hm _ (hR hI q2 q3)))
-- out
theorem hl_8 (hI : IMc F) (hM : GM M) (hL : RL (sU a) M F) (v1 : vp_in (i + 1) n) (hR : ∀ {a b : Bool} {F : cF} {L : cL} {M : ms}, IMc F → GM M → RL (sU a) M F → R (j + 1) (i + 7) (F, L, PC a b P) M) : h_law_8 UL n xs j i (F, L, PC a b P) M R := by
  exact j_out hI hM hL (fun c F' L' a' b' v M' q1 q2 q3 e ev hc hm => ⟨v1, hc _ (⟨v1, hm _ (hR q1 q2 q3)⟩)⟩)
-- feed
theorem hl_9 (hI : IMc F) (hM : GM M) (hL : RL (sU a) M F) (v1 : vp_in (i + 1) n) (v2 : vp_in (i + 2) n) (v3 : vp_in (i + 3) n) (v4 : vp_in (i + 4) n) (v5 : vp_in (i + 5) n) (hR : ∀ {a b : Bool} {F : cF} {L : cL} {M : ms}, IMc F → GM M → RL (sU a) M F → R (j + 1) (i + 7) (F, L, PC a b P) M) : h_law_9 UL n xs j i (F, L, PC a b P) M R := by
  exact j_feed hI hM hL (fun c F' L' a' b' v M' q1 q2 q3 e ev hc hm => ⟨v1, v2, v3, v4, v5, hc _ (⟨v1, v2, v3, v4, v5, hm _ (hR q1 q2 q3)⟩)⟩)
-- end
theorem hl_10 (hI : IMc F) (hM : GM M) (hL : RL (sU a) M F) (v1 : vp_in (i + 1) n) (hR : ∀ {a b : Bool} {F : cF} {L : cL} {M : ms}, IMc F → GM M → RL (sU a) M F → R (j + 1) (i + 7) (F, L, PC a b P) M) : h_law_10 UL n xs j i (F, L, PC a b P) M R := by
  exact j_end hI hM hL (fun c F' L' a' b' M' q1 q2 q3 e hc hm => ⟨v1, hc _ (⟨v1, hm _ (hR q1 q2 q3)⟩)⟩)
-- change
theorem hl_11 (hI : IMc F) (hM : GM M) (hL : RL (sU a) M F) (v1 : vp_in (i + 1) n) (v2 : vp_in (i + 2) n) (hR : ∀ {a b : Bool} {F : cF} {L : cL} {M : ms}, IMc F → GM M → RL (sU a) M F → R (j + 1) (i + 7) (F, L, PC a b P) M) : h_law_11 UL n xs j i (F, L, PC a b P) M R := by
  exact j_change hI hM hL (fun c F' L' a' b' v M' q1 q2 q3 e ev hc hm => ⟨v1, v2, hc _ (⟨v1, v2, hm _ (hR q1 q2 q3)⟩)⟩)
-- turn
theorem hl_12 (hI : IMc F) (hM : GM M) (hL : RL (sU a) M F)  (hR : ∀ {a b : Bool} {F : cF} {L : cL} {M : ms}, IMc F → GM M → RL (sU a) M F → R (j + 1) (i + 7) (F, L, PC a b P) M) : h_law_12 UL n xs j i (F, L, PC a b P) M R := by
  exact j_turn hI hM hL (fun c F' L' a' b' v M' q1 q2 q3 e ev hc hm => hc _ (hm _ (hR q1 q2 q3)))
-- unpack
theorem hl_13 (hI : IMc F) (hM : GM M) (hL : RL (sU a) M F)  (hR : ∀ {a b : Bool} {F : cF} {L : cL} {M : ms}, IMc F → GM M → RL (sU a) M F → R (j + 1) (i + 7) (F, L, PC a b P) M) : h_law_13 UL n xs j i (F, L, PC a b P) M R := by
  exact j_unpack hI hM hL (fun v w F' a' M' q1 q2 q3 hc hm => hc _ (hm _ (hR q1 q2 q3)))
-- place
theorem hl_14 (hI : IMc F) (hM : GM M) (hL : RL (sU a) M F)  (hR : ∀ {a b : Bool} {F : cF} {L : cL} {M : ms}, IMc F → GM M → RL (sU a) M F → R (j + 1) (i + 7) (F, L, PC a b P) M) : h_law_14 UL n xs j i (F, L, PC a b P) M R := by
  exact j_place hM hL (fun v w M' q2 q3 hc hm => hc _ (hm _ (hR hI q2 q3)))
-- about
theorem hl_15 (hI : IMc F) (hM : GM M) (hL : RL (sU a) M F) (v1 : vp_in (i + 1) n) (hR : ∀ {a b : Bool} {F : cF} {L : cL} {M : ms}, IMc F → GM M → RL (sU a) M F → R (j + 1) (i + 7) (F, L, PC a b P) M) : h_law_15 UL n xs j i (F, L, PC a b P) M R := by
  exact j_about hI hM hL (fun c F' L' a' b' v M' q1 q2 q3 e ev hc hm => ⟨v1, hc _ (⟨v1, hm _ (hR q1 q2 q3)⟩)⟩)
-- sample
theorem hl_16 (hI : IMc F) (hM : GM M) (hL : RL (sU a) M F) (v1 : vp_in (i + 1) n) (v2 : vp_in (i + 2) n) (v3 : vp_in (i + 3) n) (hR : ∀ {a b : Bool} {F : cF} {L : cL} {M : ms}, IMc F → GM M → RL (sU a) M F → R (j + 1) (i + 7) (F, L, PC a b P) M) : h_law_16 UL n xs j i (F, L, PC a b P) M R := by
  exact j_sample hI hM hL (fun c F' L' a' b' v M' q1 q2 q3 e ev hc hm => ⟨v1, v2, v3, hc _ (⟨v1, v2, v3, hm _ (hR q1 q2 q3)⟩)⟩)
-- level
theorem hl_17 (hI : IMc F) (hM : GM M) (hL : RL (sU a) M F) (v1 : vp_in (i + 1) n) (v2 : vp_in (i + 2) n) (v3 : vp_in (i + 3) n) (v4 : vp_in (i + 4) n) (hR : ∀ {a b : Bool} {F : cF} {L : cL} {M : ms}, IMc F → GM M → RL (sU a) M F → R (j + 1) (i + 7) (F, L, PC a b P) M) : h_law_17 UL n xs j i (F, L, PC a b P) M R := by
  exact j_level hI hM hL (fun c F' L' a' b' v M' q1 q2 q3 e ev hc hm => ⟨v1, v2, v3, v4, hc _ (⟨v1, v2, v3, v4, hm _ (hR q1 q2 q3)⟩)⟩)
-- take: compared
theorem hl_18 (hI : IMc F) (hM : GM M) (hL : RL (sU a) M F)  (hR : ∀ {a b : Bool} {F : cF} {L : cL} {M : ms}, IMc F → GM M → RL (sU a) M F → R (j + 1) (i + 7) (F, L, PC a b P) M) : h_law_18 UL n xs j i (F, L, PC a b P) M R := by
  exact j_take hI hM hL (fun c F' L' a' b' M' q1 q2 q3 e hc hm => hc _ (hm _ (⟨fun _ => hR q1 q2 q3, fun hn => hn e.symm⟩)))
end LOOP
theorem sub7 {n : Nat} (hn : n ≤ 3584) : (Int32.ofNat n - 7).toInt = (n : Int) - 7 := by
  rw [Int32.toInt_sub, Int32.toInt_ofNat_of_lt (show n < 2 ^ 31 by omega)]
  show ((n : Int) - 7).bmod 4294967296 = _
  rw [Int.bmod_def]
  split <;> omega
theorem i_ad {i c : Int32} {k q : Int} (h : i.toInt = k) (hc : c.toInt = q) (h0 : 0 ≤ k) (h1 : k ≤ 10000) (q0 : 0 ≤ q) (q1 : q ≤ 10) : (i + c).toInt = k + q := by
  rw [t_add (a := 0) (b := 10000) (c := 0) (d := 10) ⟨by omega, by omega⟩ ⟨by omega, by omega⟩ (by decide) (by decide), h, hc]
theorem whole_law {n : Nat} (hn : n ≤ 3584) (xs : Nat → Int32) : p_law n xs := by
  refine p_law_of (fun S M hS hM => ?_)
  refine ⟨fun j i S' M' => j ≤ 512 ∧ i.toInt = 7 * (j : Int) ∧ (∃ (a b : Bool) (F : cF) (L : cL), S' = (F, L, PC a b S.2.2) ∧ IMc F ∧ RL (sU a) M' F) ∧ GM M', fun j _ _ _ => 600 - j, ⟨by decide, rfl, ⟨false, false, S.1, S.2.1, ?_, IMc_fresh hS, rl_fresh hS hM⟩, GM_fresh hM⟩, ?_⟩
  · rw [← PC_fresh hS]
  · rintro j i S' M' ⟨hj, hi, ⟨a, b, F, L, rfl, hI, hL⟩, hG⟩
    intro hc
    have h1 : ¬ (Int32.ofNat n - 7).toInt < i.toInt := fun q => hc (Int32.lt_iff_toInt_lt.mpr q)
    rw [sub7 hn, hi] at h1
    have vp : ∀ {c : Int32} {q : Int}, c.toInt = q → 0 ≤ q → q ≤ 6 → vp_in (i + c) n := fun {c} {q} hq q0 q1 => by
      have e := i_ad (c := c) hi hq (by omega) (by omega) q0 (by omega)
      exact vp_om (by omega) (by omega)
    have v0 : vp_in i n := vp_om (by omega) (by omega)
    have v1 : vp_in (i + 1) n := vp (q := 1) (by decide) (by decide) (by decide)
    have v2 : vp_in (i + 2) n := vp (q := 2) (by decide) (by decide) (by decide)
    have v3 : vp_in (i + 3) n := vp (q := 3) (by decide) (by decide) (by decide)
    have v4 : vp_in (i + 4) n := vp (q := 4) (by decide) (by decide) (by decide)
    have v5 : vp_in (i + 5) n := vp (q := 5) (by decide) (by decide) (by decide)
    have v6 : vp_in (i + 6) n := vp (q := 6) (by decide) (by decide) (by decide)
    have e7 : (i + 7).toInt = 7 * ((j + 1 : Nat) : Int) := by
      rw [i_ad (c := 7) (q := 7) hi (by decide) (by omega) (by omega) (by decide) (by decide)]
      omega
    have hR : ∀ {a b : Bool} {F : cF} {L : cL} {M : ms}, IMc F → GM M → RL (sU a) M F → ((j + 1 ≤ 512 ∧ (i + 7).toInt = 7 * ((j + 1 : Nat) : Int) ∧ (∃ (a' b' : Bool) (F' : cF) (L' : cL), ((F, L, PC a b S.2.2) : cs) = (F', L', PC a' b' S.2.2) ∧ IMc F' ∧ RL (sU a') M F') ∧ GM M) ∧ 600 - (j + 1) < 600 - j) := fun {a} {b} {F} {L} {M} h1 h2 h3 => ⟨⟨by omega, e7, ⟨a, b, F, L, rfl, h1, h3⟩, h2⟩, by omega⟩
    exact ⟨by omega, v0, fun _ => hl_0 hI hG hL v1 v2 v3 (fun h1 h2 h3 => hR h1 h2 h3), fun _ => hl_1 hI hG hL v1 v2 v3 v4 v5 (fun h1 h2 h3 => hR h1 h2 h3), fun _ => hl_2 hI hG hL v1 v2 v3 v4 v5 v6 (fun h1 h2 h3 => hR h1 h2 h3), fun _ => hl_3 hI hG hL v1 v2 v3 (fun h1 h2 h3 => hR h1 h2 h3), fun _ => hl_4 hI hG hL v1 v2 v3 (fun h1 h2 h3 => hR h1 h2 h3), fun _ => hl_5 hI hG hL v1 v2 v3 v4 (fun h1 h2 h3 => hR h1 h2 h3), fun _ => hl_6 hI hG hL v1 v2 v3 (fun h1 h2 h3 => hR h1 h2 h3), fun _ => hl_7 hI hG hL (fun h1 h2 h3 => hR h1 h2 h3), fun _ => hl_8 hI hG hL v1 (fun h1 h2 h3 => hR h1 h2 h3), fun _ => hl_9 hI hG hL v1 v2 v3 v4 v5 (fun h1 h2 h3 => hR h1 h2 h3), fun _ => hl_10 hI hG hL v1 (fun h1 h2 h3 => hR h1 h2 h3), fun _ => hl_11 hI hG hL v1 v2 (fun h1 h2 h3 => hR h1 h2 h3), fun _ => hl_12 hI hG hL (fun h1 h2 h3 => hR h1 h2 h3), fun _ => hl_13 hI hG hL (fun h1 h2 h3 => hR h1 h2 h3), fun _ => hl_14 hI hG hL (fun h1 h2 h3 => hR h1 h2 h3), fun _ => hl_15 hI hG hL v1 (fun h1 h2 h3 => hR h1 h2 h3), fun _ => hl_16 hI hG hL v1 v2 v3 (fun h1 h2 h3 => hR h1 h2 h3), fun _ => hl_17 hI hG hL v1 v2 v3 v4 (fun h1 h2 h3 => hR h1 h2 h3), fun _ => hl_18 hI hG hL (fun h1 h2 h3 => hR h1 h2 h3), fun _ => hR hI hG hL⟩
/-- from the entry, for every script of at most 3584 ints, the law comes to its end with true -/
theorem whole_start {p : Program} {e : Env} {s : State} {m : MethodId} {below : List Frame} {meth : Method} {c : Code} (l : Launch) (hfl : l.flags = pinnedFlags ++ [noTraceFlag]) {b L : Nat} {xs : Nat → Int32} (hL : L ≤ 3584) (C0 : lw_At p s m meth c b L xs) : W p l e room_1 s m #[Value.ref b] below meth c s.heap [] 0 0 (lw_Z below #[Value.ref b] s) (entryFrame m ([Value.ref b] : List Value).toArray 7) :=
  law_start l hfl C0 (whole_law hL xs)
