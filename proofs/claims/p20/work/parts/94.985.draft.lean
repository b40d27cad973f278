/-! UNPACK: reading bytes, both sides; G is what is to be shown, ok and bad are the two ways on: a byte, or a fault on both sides -/
/-- what reading may change of the reference, and of the class -/
abbrev fuR (S M : ms) : Prop := ag [10, 34, 35] [] S M
abbrev fuC (F G : cF) : Prop := agc [6001, 6006, 6007] [] F G
/-- no fault so far, both stand at the same byte of the same TAPE -/
def rd (M : ms) (F : cF) : Prop := M.1 35 = 0 ∧ F 60 1 = M.1 34 ∧ rTape M F ∧ (0 ≤ (M.1 34).toInt ∧ (M.1 7).toInt ≤ 32768 ∧ (M.1 34).toInt ≤ 32768)
theorem pos1 {x y : Int32} (h0 : 0 ≤ x.toInt) (h : x < y) (h7 : y.toInt ≤ 32768) : (x + 1).toInt = x.toInt + 1 ∧ (x + 1).toInt ≤ 32768 := by
  have c := i_lt h
  have e : (x + 1).toInt = x.toInt + 1 := t_add (a := 0) (b := 32767) (c := 1) (d := 1) ⟨h0, by omega⟩ ⟨by decide, by decide⟩ (by decide) (by decide)
  exact ⟨e, by omega⟩
theorem flt_n {M : ms} (h : flt M) : ¬ M.1 35 = 0 := fun e => by
  have h : 0 < (M.1 35).toInt := h
  rw [e] at h
  exact absurd h (by decide)
theorem flt_l {M : ms} (h : flt M) : ¬ M.1 35 ≤ 0 := fun e => by
  have h : 0 < (M.1 35).toInt := h
  have := i_le e
  have z0 : (0 : Int32).toInt = 0 := by decide
  omega
section READ
variable {S : ms} {F : cF} {L : cL} {a b : Bool} {P : Nat → Nat → Nat} {K1 : Int32 → ms → Prop} {K2 : Int32 → cs → Prop} {T2 : Nat → cs → Prop} {G : Prop}
theorem q_failF {x1 x2 : Int32} (h0 : ¬ S.1 35 = 0) (h : p_fail x1 x2 S K1) : K1 0 S := by
  unfold p_fail b_fail_17 at h
  exact h.1 h0
theorem q_fail0 {x1 x2 : Int32} (h0 : S.1 35 = 0) (h : p_fail x1 x2 S K1) : K1 0 (upd (upd S.1 35 x1) 10 x2, S.2.1, S.2.2) := by
  unfold p_fail b_fail_17 at h
  exact h.2 h0
theorem ag_fail {x1 x2 : Int32} : ag [10, 34, 35] [] S (upd (upd S.1 35 x1) 10 x2, S.2.1, S.2.2) := ag_f (T := (upd S.1 35 x1, S.2.1, S.2.2)) (ag_f (T := (S.1, S.2.1, S.2.2)) ag_refl rfl) rfl
theorem fail_n {x1 x2 : Int32} (hx : 0 < x1.toInt) : flt (upd (upd S.1 35 x1) 10 x2, S.2.1, S.2.2) := by
  show 0 < ((upd (upd S.1 35 x1) 10 x2) 35).toInt
  rw [upd_ne (show (35 : Nat) ≠ 10 by decide), upd_at]
  exact hx
/-- a failing reader -/
theorem q_Rfail {x1 x2 : Int32} {K : cs → Prop} (h : p_Re_fail UL 60 x1 x2 (F, L, PC a b P) K T2) : ∃ F', fuC F F' ∧ F' 60 6 = x1 ∧ T2 13 (F', L, PC a b P) := by
  unfold p_Re_fail at h
  dsimp only at h
  refine ⟨_, agc_f (agc_f agc_refl rfl rfl) rfl rfl, ?_, h⟩
  rw [vu_at, upd_ne (show (6 : Nat) ≠ 7 by decide), vu_at, upd_at]
theorem x_read (hr : rd S F) (h1 : p_next S K1) (h2 : p_Re_read UL 60 (F, L, PC a b P) K2 T2)
    (ok : ∀ v M' F', fuR S M' → M'.1 34 = S.1 34 + 1 → M'.1 35 = 0 → S.1 34 < S.1 7 → fuC F F' → rd M' F' → v = S.2.1 6 (S.1 34).toNatClampNeg → K1 v M' → K2 v (F', L, PC a b P) → G)
    (bad : ∀ v M' F', flt M' → fuR S M' → fuC F F' → K1 v M' → T2 13 (F', L, PC a b P) → G) : G := by
  obtain ⟨r1, r2, r3, r4⟩ := hr
  unfold p_next at h1
  unfold p_Re_read at h2
  obtain ⟨-, -, h2⟩ := h2
  have h2 : (F 60 1 < F 61 1 → _) ∧ (¬ F 60 1 < F 61 1 → _) := h2
  rw [r2, r3.1] at h2
  by_cases c : S.1 34 < S.1 7
  · obtain ⟨hv, h1⟩ := h1.1 c
    obtain ⟨-, -, -, -, h2⟩ := h2.1 c
    have e1 : ((upd S.1 34 (S.1 34 + 1)) 34 - 1 : Int32) = S.1 34 := by
      rw [upd_at]
      exact Int32.add_sub_cancel _ _
    rw [e1] at h1 hv
    obtain ⟨s, hs, es⟩ := vp_in_of hv (by decide)
    have h2 : K2 (F 62 (F 60 1).toNatClampNeg) (va_up F 60 (upd (F 60) 1 (F 60 1 + 1)), L, PC a b P) := h2
    have e2 : (S.1 34).toNatClampNeg = s := by rw [es, nI_clamp (by omega)]
    rw [r2, e2, r3.2 s hs, ← e2] at h2
    refine ok _ _ _ (ag_f (T := (S.1, S.2.1, S.2.2)) ag_refl rfl) ?_ ?_ c (agc_f agc_refl rfl rfl) ⟨?_, ?_, ⟨?_, fun k hk => ?_⟩, ?_⟩ rfl h1 h2
    · show upd S.1 34 (S.1 34 + 1) 34 = _
      rw [upd_at]
    · show upd S.1 34 (S.1 34 + 1) 35 = 0
      rw [upd_ne (by decide)]
      exact r1
    · show upd S.1 34 (S.1 34 + 1) 35 = 0
      rw [upd_ne (by decide)]
      exact r1
    · show va_up F 60 (upd (F 60) 1 (S.1 34 + 1)) 60 1 = upd S.1 34 (S.1 34 + 1) 34
      rw [vu_at, upd_at, upd_at]
    · show va_up F 60 (upd (F 60) 1 (S.1 34 + 1)) 61 1 = upd S.1 34 (S.1 34 + 1) 7
      rw [vu_ne (by decide), upd_ne (by decide)]
      exact r3.1
    · show va_up F 60 (upd (F 60) 1 (S.1 34 + 1)) 62 k = S.2.1 6 k
      rw [vu_ne (by decide)]
      exact r3.2 k hk
    · have p := pos1 r4.1 c r4.2.1
      show 0 ≤ (upd S.1 34 (S.1 34 + 1) 34).toInt ∧ (upd S.1 34 (S.1 34 + 1) 7).toInt ≤ 32768 ∧ (upd S.1 34 (S.1 34 + 1) 34).toInt ≤ 32768
      rw [upd_at, upd_ne (show (7 : Nat) ≠ 34 by decide)]
      exact ⟨by have := r4.1; omega, r4.2.1, p.2⟩
  · have h1 := q_fail0 r1 (h1.2 c)
    obtain ⟨-, h2⟩ := h2.2 c
    exact bad _ _ _ (fail_n (by decide)) ag_fail (agc_f (agc_f agc_refl rfl rfl) rfl rfl) h1 h2
/-- two bytes -/
theorem x_read2 (hr : rd S F) (h1 : p_nextTwo S K1) (h2 : p_Re_readTwo UL 60 (F, L, PC a b P) K2 T2)
    (ok : ∀ v M' F', fuR S M' → M'.1 34 = S.1 34 + 1 + 1 → M'.1 35 = 0 → fuC F F' → rd M' F' → v = (256 * S.2.1 6 (S.1 34).toNatClampNeg) + S.2.1 6 (S.1 34 + 1).toNatClampNeg → K1 v M' → K2 v (F', L, PC a b P) → G)
    (bad : ∀ v M' F', flt M' → fuR S M' → fuC F F' → K1 v M' → T2 13 (F', L, PC a b P) → G) : G := by
  unfold p_nextTwo at h1
  unfold p_Re_readTwo at h2
  refine x_read hr h1 h2 (fun v M1 F1 a1 a2 a3 a4 a5 a6 a7 h1 h2 => ?_) (fun v M1 F1 b1 b2 b3 h1 h2 => ?_)
  · refine x_read (S := (M1.1, M1.2.1, M1.2.2)) a6 h1 h2 (fun w M2 F2 c1 c2 c3 c4 c5 c6 c7 h1 h2 => ?_) (fun w M2 F2 d1 d2 d3 h1 h2 => ?_)
    · refine ok _ M2 F2 (ag_tr a1 c1 rfl rfl) ?_ c3 (agc_tr a5 c5 rfl rfl) c6 ?_ h1 h2
      · rw [c2]
        show M1.1 34 + 1 = _
        rw [a2]
      · rw [a7, c7]
        show 256 * _ + M1.2.1 6 (M1.1 34).toNatClampNeg = _
        rw [a2, a1.2 6 rfl]
    · exact bad _ M2 F2 d1 (ag_tr a1 d2 rfl rfl) (agc_tr a5 d3 rfl rfl) h1 h2
  · -- the reference reads on, in vain
    have h1 : p_next (M1.1, M1.2.1, M1.2.2) (fun v6 S6 => K1 ((256 * v) + v6) (S6.1, S6.2.1, S6.2.2)) := h1
    unfold p_next at h1
    refine dt_p h1 (fun c h1 => ?_) (fun c h1 => ?_)
    · obtain ⟨-, h1⟩ := h1
      refine bad _ _ F1 ?_ (ag_tr b2 (ag_f (fs := [10, 34, 35]) (rs := []) (T := (M1.1, M1.2.1, M1.2.2)) ag_refl rfl) rfl rfl) b3 h1 h2
      show 0 < (upd M1.1 34 (M1.1 34 + 1) 35).toInt
      rw [upd_ne (by decide)]
      exact b1
    · have h1 := q_failF (S := (M1.1, M1.2.1, M1.2.2)) (flt_n b1) h1
      exact bad _ _ F1 b1 b2 b3 h1 h2
end READ

/-! what reading leaves of the pictures 0 and 1 of the reference -/
def kp (S M : ms) : Prop := M.2.1 11 = S.2.1 11 ∧ M.2.1 20 = S.2.1 20 ∧ (∀ r k, r = 12 ∨ r = 13 ∨ r = 14 → k < 2 → M.2.1 r k = S.2.1 r k) ∧ (∀ r k, r = 15 ∨ r = 16 ∨ r = 17 ∨ r = 18 → k < 6 → M.2.1 r k = S.2.1 r k) ∧ ∀ k, k < 24576 → M.2.1 19 k = S.2.1 19 k
section KP0
variable {S M V : ms} {fs rs : List Nat}
theorem kp_refl : kp S S := ⟨rfl, rfl, fun _ _ _ _ => rfl, fun _ _ _ _ => rfl, fun _ _ => rfl⟩
theorem kp_tr (h : kp S M) (h' : kp M V) : kp S V := ⟨h'.1.trans h.1, h'.2.1.trans h.2.1, fun r k hr hk => (h'.2.2.1 r k hr hk).trans (h.2.2.1 r k hr hk), fun r k hr hk => (h'.2.2.2.1 r k hr hk).trans (h.2.2.2.1 r k hr hk), fun k hk => (h'.2.2.2.2 k hk).trans (h.2.2.2.2 k hk)⟩
theorem kp_rk (h : rk S M) : kp S M := ⟨h 11 (by decide) (by decide), h 20 (by decide) (by decide), fun r k hr _ => by rw [h r (by omega) (by omega)], fun r k hr _ => by rw [h r (by omega) (by omega)], fun k _ => by rw [h 19 (by decide) (by decide)]⟩
theorem kp_fk (h : fk S M) : kp S M := kp_rk h.2
theorem rk_refl : rk S S := fun _ _ _ => rfl
theorem kp_ag (h : ag fs rs S M) (hr : ∀ q, 11 ≤ q → q ≤ 20 → rs.contains q = false) : kp S M := kp_rk (fun q h1 h2 => h.2 q (hr q h1 h2))
/-- a row that is set beside them -/
theorem kp_row {r : Nat} {w : Nat → Int32} {f : Nat → Int32} {l : Nat → Nat → Int64} (h : kp S M) (hr : (12 ≤ r ∧ r ≤ 14 ∧ ∀ k, k < 2 → w k = M.2.1 r k) ∨ (15 ≤ r ∧ r ≤ 18 ∧ ∀ k, k < 6 → w k = M.2.1 r k) ∨ (r = 19 ∧ ∀ k, k < 24576 → w k = M.2.1 r k) ∨ r < 11 ∨ 20 < r) : kp S (f, va_up M.2.1 r w, l) := by
  refine kp_tr h ⟨?_, ?_, fun r' k hr' hk => ?_, fun r' k hr' hk => ?_, fun k hk => ?_⟩
  · show va_up M.2.1 r w 11 = _
    exact vu_ne (by omega)
  · show va_up M.2.1 r w 20 = _
    exact vu_ne (by omega)
  · show va_up M.2.1 r w r' k = _
    by_cases e : r' = r
    · subst e
      rw [vu_at]
      rcases hr with ⟨_, _, q⟩ | ⟨_, _, q⟩ | ⟨_, q⟩ | _ | _
      · exact q k hk
      all_goals omega
    · rw [vu_ne e]
  · show va_up M.2.1 r w r' k = _
    by_cases e : r' = r
    · subst e
      rw [vu_at]
      rcases hr with ⟨_, _, q⟩ | ⟨_, _, q⟩ | ⟨_, q⟩ | _ | _
      · omega
      · exact q k hk
      all_goals omega
    · rw [vu_ne e]
  · show va_up M.2.1 r w 19 k = _
    by_cases e : 19 = r
    · subst e
      rw [vu_at]
      rcases hr with ⟨_, _, q⟩ | ⟨_, _, q⟩ | ⟨_, q⟩ | _ | _
      · omega
      · omega
      · exact q k hk
      all_goals omega
    · rw [vu_ne e]
/-- levels of the third picture alone are set -/
theorem kp_19 (h : ag fs [19, 53] S M) (hk : ∀ k, k < 24576 → M.2.1 19 k = S.2.1 19 k) : kp S M := by
  refine ⟨h.2 11 rfl, h.2 20 rfl, fun r k hr _ => ?_, fun r k hr _ => ?_, hk⟩
  · rcases hr with rfl | rfl | rfl <;> rw [h.2 _ rfl]
  · rcases hr with rfl | rfl | rfl | rfl <;> rw [h.2 _ rfl]
theorem q_fail2 {x1 x2 : Int32} {K1 : Int32 → ms → Prop} (hx : 0 < x1.toInt) (h0 : S.1 35 = 0) (h : p_fail x1 x2 S K1) : ∃ Z, flt Z ∧ kp S Z ∧ K1 0 Z := ⟨_, fail_n hx, kp_ag ag_fail (fun _ _ _ => rfl), q_fail0 h0 h⟩
/-- reading two bytes, with what it leaves -/
theorem st_two {K1 : Int32 → ms → Prop} (h : p_nextTwo S K1) : p_nextTwo S (fun v M => K1 v M ∧ kp S M) := by
  refine d_p_nextTwo h (fun v Z hk hi => (hi _).mpr ⟨hk, ?_⟩)
  have h : p_nextTwo S (fun w M => M = Z) := (hi _).mpr rfl
  exact rk_p_nextTwo (S0 := S) h rk_refl (fun w M e r => by rw [← e]; exact kp_rk r)
theorem st_scan {K1 : ms → Prop} (h : p_readScanHead S K1) : p_readScanHead S (fun M => K1 M ∧ kp S M) := by
  refine d_p_readScanHead h (fun Z hk hi => (hi _).mpr ⟨hk, ?_⟩)
  have h : p_readScanHead S (fun M => M = Z) := (hi _).mpr rfl
  exact rk_p_readScanHead (S0 := S) h rk_refl (fun M e r => by rw [← e]; exact kp_rk r)
theorem rj_refl : rj S S := fun _ _ _ => rfl
theorem st_sect {x : Int32} {K1 : ms → Prop} (h : p_readSection x S K1) : p_readSection x S (fun M => K1 M ∧ M.2.1 23 = S.2.1 23) := by
  refine d_p_readSection h (fun Z hk hi => (hi _).mpr ⟨hk, ?_⟩)
  have h : p_readSection x S (fun M => M = Z) := (hi _).mpr rfl
  exact rj_p_readSection (S0 := S) h rj_refl (fun M e r => by rw [← e]; exact r 23 (by decide) (by decide))
end KP0

/-! UNPACK: a mark is read -/
section RM
variable {S : ms} {F : cF} {L : cL} {a b : Bool} {P : Nat → Nat → Nat} {K1 : Int32 → ms → Prop} {K2 : Int32 → cs → Prop} {T2 : Nat → cs → Prop} {G : Prop}
theorem x_rmark (hr : rd S F) (h7 : (S.1 7).toInt ≤ 32768) (h34 : 0 ≤ (S.1 34).toInt) (h1 : p_readMark S K1) (h2 : p_Re_readMark UL 60 (F, L, PC a b P) K2 T2)
    (ok : ∀ v M' F', fuR S M' → (S.1 34).toInt < (M'.1 34).toInt → fuC F F' → rd M' F' → ¬ v = 255 → (∃ k, v = S.2.1 6 k) → K1 v M' → K2 v (F', L, PC a b P) → G)
    (bad : ∀ v M' F', flt M' → fuR S M' → fuC F F' → K1 v M' → T2 13 (F', L, PC a b P) → G) : G := by
  have z255 : (255 : Int32) = 255 := rfl
  unfold p_readMark at h1
  unfold p_Re_readMark at h2
  -- the loop, from wherever both stand
  have loop : ∀ (v : Int32) (M1 : ms), e_readMark_31 v M1 K1 → (∃ Y, fuR S M1 ∧ fuC F Y ∧ ((rd M1 Y ∧ (S.1 34).toInt < (M1.1 34).toInt ∧ (∃ k, v = S.2.1 6 k) ∧ ∃ q : Nat, (q : Int) + 1 ≤ (M1.1 34).toInt ∧ (v = 255 → p_Re_read UL 60 (Y, L, PC a b P) (fun w X => e_Re_readMark_28 UL 60 w (nI q) X K2 T2) T2) ∧ (¬ v = 255 → K2 v (Y, L, PC a b P))) ∨ (flt M1 ∧ T2 13 (Y, L, PC a b P)))) → G := by
    intro v M1 hl hi
    refine v_e_readMark_31 hl (fun y2 T => ∃ Y, fuR S T ∧ fuC F Y ∧ ((rd T Y ∧ (S.1 34).toInt < (T.1 34).toInt ∧ (∃ k, y2 = S.2.1 6 k) ∧ ∃ q : Nat, (q : Int) + 1 ≤ (T.1 34).toInt ∧ (y2 = 255 → p_Re_read UL 60 (Y, L, PC a b P) (fun w X => e_Re_readMark_28 UL 60 w (nI q) X K2 T2) T2) ∧ (¬ y2 = 255 → K2 y2 (Y, L, PC a b P))) ∨ (flt T ∧ T2 13 (Y, L, PC a b P)))) hi ?_
    rintro y2 T R ⟨Y, ha, hg, hc⟩ hb
    unfold b_readMark_31 b_readMark_53 at hb
    rcases hc with ⟨hrd, hp, hv, q, hq, g1, g2⟩ | ⟨hf, ht⟩
    · have hb := hb.2 hrd.1
      by_cases e : y2 = 255
      · left
        have hb := hb.2 e
        have g := g1 e
        refine x_read hrd hb g (fun w M2 F2 a1 a2 a3 a4 a5 a6 a7 hb g => ?_) (fun w M2 F2 b1 b2 b3 hb g => ?_)
        · have t7 : T.1 7 = S.1 7 := ha.1 7 rfl
          have ps := pos1 (x := T.1 34) (y := T.1 7) (by omega) a4 (by rw [t7]; exact h7)
          have c4 := i_lt a4
          rw [t7] at c4
          refine ⟨w, M2, hb, F2, ag_tr ha a1 rfl rfl, agc_tr hg a5 rfl rfl, Or.inl ⟨a6, by rw [a2, ps.1]; omega, ⟨_, by rw [a7, ha.2 6 rfl]⟩, q + 1, by rw [a2, ps.1]; omega, fun e2 => ?_, fun e2 => ?_⟩⟩
          · have g := r_e_Re_readMark_28 g
            unfold b_Re_readMark_28 at g
            have g := (g.2 e2).2 (nI_ge (b := 32768) (by omega) (by decide))
            rw [nI_1] at g
            exact g
          · have g := r_e_Re_readMark_28 g
            unfold b_Re_readMark_28 b_Re_readMark_52 at g
            exact g.1 e2
        · exact ⟨w, M2, hb, F2, ag_tr ha b2 rfl rfl, agc_tr hg b3 rfl rfl, Or.inr ⟨b1, g⟩⟩
      · right
        exact ok y2 T Y ha hp hg hrd e hv (hb.1 e) (g2 e)
    · right
      exact bad y2 T Y hf ha hg (hb.1 (flt_n hf)) ht
  refine x_read hr h1 h2 (fun v M1 F1 a1 a2 a3 a4 a5 a6 a7 h1 h2 => ?_) (fun v M1 F1 b1 b2 b3 h1 h2 => ?_)
  · have ps := pos1 h34 a4 h7
    have h1 := h1.2 a3
    by_cases e : v = 255
    · have h2 := h2.1 e
      unfold b_Re_readMark_21 at h2
      exact loop v _ (h1.1 e) ⟨F1, a1, a5, Or.inl ⟨a6, by show _ < (M1.1 34).toInt; rw [a2, ps.1]; omega, ⟨_, a7⟩, 0, by show _ ≤ (M1.1 34).toInt; rw [a2, ps.1]; omega, fun _ => h2, fun q => absurd e q⟩⟩
    · have h1 := q_fail0 (S := (M1.1, M1.2.1, M1.2.2)) a3 (h1.2 e)
      obtain ⟨F2, c1, -, h2⟩ := q_Rfail (h2.2 e)
      exact loop v _ h1 ⟨F2, ag_tr a1 (ag_fail (S := (M1.1, M1.2.1, M1.2.2))) rfl rfl, agc_tr a5 c1 rfl rfl, Or.inr ⟨fail_n (by decide), h2⟩⟩
  · exact loop v _ (h1.1 (flt_n b1)) ⟨F1, b2, b3, Or.inr ⟨b1, h2⟩⟩
end RM

/-! UNPACK: bits and numbers -/
abbrev fbR (S M : ms) : Prop := ag [10, 34, 35, 54, 55, 56, 57] [] S M
abbrev fbC (F G : cF) : Prop := agc [6001, 6002, 6003, 6004, 6005, 6006, 6007] [] F G
/-- the bits that are held -/
def rb (M : ms) (F : cF) : Prop := F 60 4 = M.1 54 ∧ (¬ M.1 54 = 0 → F 60 2 = M.1 55)
section RB
variable {S : ms} {F : cF} {L : cL} {a b : Bool} {P : Nat → Nat → Nat} {K1 : Int32 → ms → Prop} {K2 : Int32 → cs → Prop} {T2 : Nat → cs → Prop} {G : Prop}
theorem rd_b {M M' : ms} {F F' : cF} (h : rd M F) (e35 : M'.1 35 = M.1 35) (e34 : M'.1 34 = M.1 34) (e7 : M'.1 7 = M.1 7) (e6 : M'.2.1 6 = M.2.1 6) (f1 : F' 60 1 = F 60 1) (f61 : F' 61 1 = F 61 1) (f62 : F' 62 = F 62) : rd M' F' := by
  obtain ⟨h1, h2, ⟨h3, h4⟩, h5⟩ := h
  refine ⟨e35.trans h1, by rw [f1, e34]; exact h2, ⟨by rw [f61, e7]; exact h3, fun k hk => ?_⟩, by rw [e34, e7]; exact h5⟩
  rw [f62, e6]
  exact h4 k hk
theorem rd_f {M : ms} {F F' : cF} {k : Nat} {x : Int32} (h : rd M F) (k35 : 35 ≠ k) (k34 : 34 ≠ k) (k7 : 7 ≠ k) (f1 : F' 60 1 = F 60 1) (f61 : F' 61 1 = F 61 1) (f62 : F' 62 = F 62) : rd (upd M.1 k x, M.2.1, M.2.2) F' :=
  rd_b h (show upd M.1 k x 35 = M.1 35 from upd_ne k35) (show upd M.1 k x 34 = M.1 34 from upd_ne k34) (show upd M.1 k x 7 = M.1 7 from upd_ne k7) rfl f1 f61 f62
theorem flt_p {M : ms} (h : flt M) : (0 : Int32) < M.1 35 := Int32.lt_iff_toInt_lt.mpr (by rw [show (0 : Int32).toInt = 0 by decide]; exact h)
theorem i01 {x : Int32} : B 0 1 (x &&& 1) := B_w (B_and (x := x) (k := 1) (m := 1) (by decide) (by decide)) (by decide) (by decide)
theorem x_bit (hr : rd S F) (hb : rb S F) (h1 : p_readBit S K1) (h2 : p_Re_readBit UL 60 (F, L, PC a b P) K2 T2)
    (ok : ∀ v M' F', B 0 1 v → fbR S M' → fbC F F' → rd M' F' → rb M' F' → K1 v M' → K2 v (F', L, PC a b P) → G)
    (bad : ∀ v M' F', flt M' → fbR S M' → fbC F F' → K1 v M' → T2 13 (F', L, PC a b P) → G) : G := by
  -- the last step: a bit of what is held
  have last : ∀ (M : ms) (Y : cF), fbR S M → fbC F Y → rd M Y → rb M Y → ¬ M.1 54 = 0 → b_readBit_73 M K1 → b_Re_readBit_56 UL 60 (Y, L, PC a b P) K2 T2 → G := by
    intro M Y ha hg hrd hrb h54 h1 h2
    unfold b_readBit_73 at h1
    unfold b_Re_readBit_56 at h2
    have h1 := h1.1 (by rw [hrd.1]; exact Int32.le_refl _)
    rw [upd_at, upd_ne (show (55 : Nat) ≠ 54 by decide)] at h1
    dsimp only at h2
    rw [vu_at, upd_at, upd_ne (show (2 : Nat) ≠ 4 by decide), hrb.1, hrb.2 h54] at h2
    refine ok _ _ _ i01 (ag_tr ha (ag_f (fs := [10, 34, 35, 54, 55, 56, 57]) (rs := []) (T := (M.1, M.2.1, M.2.2)) ag_refl rfl) rfl rfl) (agc_f hg rfl rfl) (rd_f hrd (by decide) (by decide) (by decide) ?_ ?_ ?_) ⟨?_, ?_⟩ h1 h2
    · rw [vu_at, upd_ne (by decide)]
    · rw [vu_ne (by decide)]
    · exact vu_ne (by decide)
    · show va_up Y 60 (upd (Y 60) 4 (M.1 54 - 1)) 60 4 = upd M.1 54 (M.1 54 - 1) 54
      rw [vu_at, upd_at, upd_at]
    · intro _
      show va_up Y 60 (upd (Y 60) 4 (M.1 54 - 1)) 60 2 = upd M.1 54 (M.1 54 - 1) 55
      rw [vu_at, upd_ne (by decide), upd_ne (by decide)]
      exact hrb.2 h54
  -- a fault: the reference answers 0
  have fall : ∀ (M : ms) (Y : cF), fbR S M → fbC F Y → flt M → b_readBit_67 M K1 → T2 13 (Y, L, PC a b P) → G := by
    intro M Y ha hg hf h1 h2
    unfold b_readBit_67 b_readBit_73 at h1
    have hf2 : flt (upd M.1 54 8, M.2.1, M.2.2) := by
      show 0 < (upd M.1 54 8 35).toInt
      rw [upd_ne (by decide)]
      exact hf
    have h1 := h1.2 (flt_l hf2)
    exact bad _ _ Y hf2 (ag_tr ha (ag_f (fs := [10, 34, 35, 54, 55, 56, 57]) (rs := []) (T := (M.1, M.2.1, M.2.2)) ag_refl rfl) rfl rfl) hg h1 h2
  -- eight bits more
  have eight : ∀ (M : ms) (Y : cF), fbR S M → fbC F Y → rd M Y → Y 60 2 = M.1 55 → b_readBit_67 M K1 → b_Re_readBit_50 UL 60 (Y, L, PC a b P) K2 T2 → G := by
    intro M Y ha hg hrd h55 h1 h2
    unfold b_readBit_67 at h1
    unfold b_Re_readBit_50 at h2
    refine last _ _ (ag_tr ha (ag_f (fs := [10, 34, 35, 54, 55, 56, 57]) (rs := []) (T := (M.1, M.2.1, M.2.2)) ag_refl rfl) rfl rfl) (agc_f hg rfl rfl) (rd_f hrd (by decide) (by decide) (by decide) ?_ ?_ ?_) ⟨?_, ?_⟩ (by show ¬ upd M.1 54 8 54 = 0; rw [upd_at]; decide) h1 h2
    · rw [vu_at, upd_ne (by decide)]
    · rw [vu_ne (by decide)]
    · exact vu_ne (by decide)
    · show va_up Y 60 (upd (Y 60) 4 8) 60 4 = upd M.1 54 8 54
      rw [vu_at, upd_at, upd_at]
    · intro _
      show va_up Y 60 (upd (Y 60) 4 8) 60 2 = upd M.1 54 8 55
      rw [vu_at, upd_ne (by decide), upd_ne (by decide)]
      exact h55
  unfold p_readBit at h1
  unfold p_Re_readBit at h2
  have h2 : (¬ F 60 4 = 0 → _) ∧ (F 60 4 = 0 → _) := h2
  rw [hb.1] at h2
  by_cases c : S.1 54 = 0
  · have h1 := h1.2 c
    have h2 := h2.2 c
    have h2 : p_Re_read UL 60 (va_up F 60 (upd (F 60) 3 (F 60 1)), L, PC a b P) _ T2 := h2
    have ha0 : fbR S (upd S.1 56 (S.1 34), S.2.1, S.2.2) := ag_f (T := (S.1, S.2.1, S.2.2)) ag_refl rfl
    have hg0 : fbC F (va_up F 60 (upd (F 60) 3 (F 60 1))) := agc_f agc_refl rfl rfl
    refine x_read (S := (upd S.1 56 (S.1 34), S.2.1, S.2.2)) (rd_f hr (by decide) (by decide) (by decide) (by rw [vu_at, upd_ne (by decide)]) (by rw [vu_ne (by decide)]) (vu_ne (by decide))) h1 h2 (fun v M1 F1 a1 a2 a3 a4 a5 a6 a7 h1 h2 => ?_) (fun v M1 F1 b1 b2 b3 h1 h2 => ?_)
    · have ha1 : fbR S M1 := ag_tr ha0 a1 rfl rfl
      have hg1 : fbC F F1 := agc_tr hg0 a5 rfl rfl
      -- the byte is laid down
      have ha2 : fbR S (upd M1.1 55 v, M1.2.1, M1.2.2) := ag_tr ha1 (ag_f (fs := [10, 34, 35, 54, 55, 56, 57]) (rs := []) (T := (M1.1, M1.2.1, M1.2.2)) ag_refl rfl) rfl rfl
      have hg2 : fbC F (va_up F1 60 (upd (F1 60) 2 v)) := agc_f hg1 rfl rfl
      have r2 : rd (upd M1.1 55 v, M1.2.1, M1.2.2) (va_up F1 60 (upd (F1 60) 2 v)) := rd_f a6 (by decide) (by decide) (by decide) (by rw [vu_at, upd_ne (by decide)]) (by rw [vu_ne (by decide)]) (vu_ne (by decide))
      have v2 : va_up F1 60 (upd (F1 60) 2 v) 60 2 = v := by rw [vu_at, upd_at]
      have h1 := h1.2 (by rw [upd_ne (show (35 : Nat) ≠ 55 by decide)]; exact a3)
      rw [upd_at] at h1
      have h2 : (¬ va_up F1 60 (upd (F1 60) 2 v) 60 2 = 255 → _) ∧ (va_up F1 60 (upd (F1 60) 2 v) 60 2 = 255 → _) := h2
      rw [v2] at h2
      by_cases e : v = 255
      · refine x_read r2 (h1.2 e) (h2.2 e) (fun w M3 F3 c1 c2 c3 c4 c5 c6 c7 h1 h2 => ?_) (fun w M3 F3 d1 d2 d3 h1 h2 => ?_)
        · have ha3 : fbR S M3 := ag_tr ha2 c1 rfl rfl
          have hg3 : fbC F F3 := agc_tr hg2 c5 rfl rfl
          have v3 : F3 60 2 = M3.1 55 := by
            rw [c5.1 60 2 rfl rfl, v2, c1.1 55 rfl]
            show v = upd M1.1 55 v 55
            rw [upd_at]
          have h1 := h1.2 c3
          by_cases e2 : w = 0
          · exact eight _ F3 ha3 hg3 c6 v3 (h1.1 e2) (h2.1 e2)
          · have h1 := q_fail0 (S := (M3.1, M3.2.1, M3.2.2)) c3 (h1.2 e2)
            obtain ⟨F4, q1, -, h2⟩ := q_Rfail (h2.2 e2)
            exact fall _ F4 (ag_tr ha3 (ag_fail (S := (M3.1, M3.2.1, M3.2.2))) rfl rfl) (agc_tr hg3 q1 rfl rfl) (fail_n (by decide)) h1 h2
        · exact fall _ F3 (ag_tr ha2 d2 rfl rfl) (agc_tr hg2 d3 rfl rfl) d1 (h1.1 (flt_n d1)) h2
      · exact eight _ _ ha2 hg2 r2 (by rw [v2]; show v = upd M1.1 55 v 55; rw [upd_at]) (h1.1 e) (h2.1 e)
    · have ha1 : fbR S M1 := ag_tr ha0 b2 rfl rfl
      have hg1 : fbC F F1 := agc_tr hg0 b3 rfl rfl
      have hf2 : flt (upd M1.1 55 v, M1.2.1, M1.2.2) := by
        show 0 < (upd M1.1 55 v 35).toInt
        rw [upd_ne (by decide)]
        exact b1
      have ha2 : fbR S (upd M1.1 55 v, M1.2.1, M1.2.2) := ag_tr ha1 (ag_f (fs := [10, 34, 35, 54, 55, 56, 57]) (rs := []) (T := (M1.1, M1.2.1, M1.2.2)) ag_refl rfl) rfl rfl
      exact fall _ F1 ha2 hg1 hf2 (h1.1 (flt_n hf2)) h2
  · exact last S F ag_refl agc_refl hr hb c (h1.1 c) (h2.1 c)
end RB

/-! UNPACK: numbers -/
section RN
variable {S : ms} {F : cF} {L : cL} {a b : Bool} {P : Nat → Nat → Nat} {K1 : Int32 → ms → Prop} {K2 : Int32 → cs → Prop} {T2 : Nat → cs → Prop} {G : Prop}
/-- behind a fault the reference reads bits of no worth -/
theorem q_bitF (hf : flt S) (h : p_readBit S K1) : ∃ v M', flt M' ∧ fbR S M' ∧ K1 v M' := by
  unfold p_readBit at h
  have fin : ∀ (M : ms), fbR S M → flt M → b_readBit_67 M K1 → ∃ v M', flt M' ∧ fbR S M' ∧ K1 v M' := by
    intro M ha hfm h
    unfold b_readBit_67 b_readBit_73 at h
    have hf2 : flt (upd M.1 54 8, M.2.1, M.2.2) := by
      show 0 < (upd M.1 54 8 35).toInt
      rw [upd_ne (by decide)]
      exact hfm
    exact ⟨_, _, hf2, ag_tr ha (ag_f (fs := [10, 34, 35, 54, 55, 56, 57]) (rs := []) (T := (M.1, M.2.1, M.2.2)) ag_refl rfl) rfl rfl, h.2 (flt_l hf2)⟩
  refine dt_n h (fun c h => ?_) (fun c h => ?_)
  · unfold b_readBit_73 at h
    exact ⟨_, S, hf, ag_refl, h.2 (flt_l hf)⟩
  · unfold p_next at h
    have lay : ∀ (v : Int32) (M : ms), fbR S M → flt M → fbR S (upd M.1 55 v, M.2.1, M.2.2) ∧ flt (upd M.1 55 v, M.2.1, M.2.2) := by
      intro v M ha hfm
      refine ⟨ag_tr ha (ag_f (fs := [10, 34, 35, 54, 55, 56, 57]) (rs := []) (T := (M.1, M.2.1, M.2.2)) ag_refl rfl) rfl rfl, ?_⟩
      show 0 < (upd M.1 55 v 35).toInt
      rw [upd_ne (by decide)]
      exact hfm
    have a0 : fbR S (upd S.1 56 (S.1 34), S.2.1, S.2.2) := ag_f (T := (S.1, S.2.1, S.2.2)) ag_refl rfl
    have f0 : flt (upd S.1 56 (S.1 34), S.2.1, S.2.2) := by
      show 0 < (upd S.1 56 (S.1 34) 35).toInt
      rw [upd_ne (by decide)]
      exact hf
    refine dt_p h (fun c h => ?_) (fun c h => ?_)
    · obtain ⟨-, h⟩ := h
      obtain ⟨l1, l2⟩ := lay _ (upd (upd S.1 56 (S.1 34)) 34 ((upd S.1 56 (S.1 34)) 34 + 1), S.2.1, S.2.2) (ag_tr a0 (ag_f (fs := [10, 34, 35, 54, 55, 56, 57]) (rs := []) (T := (upd S.1 56 (S.1 34), S.2.1, S.2.2)) ag_refl rfl) rfl rfl) (by
        show 0 < (upd (upd S.1 56 (S.1 34)) 34 ((upd S.1 56 (S.1 34)) 34 + 1) 35).toInt
        rw [upd_ne (by decide)]
        exact f0)
      exact fin _ l1 l2 (h.1 (flt_n l2))
    · have h := q_failF (flt_n f0) h
      obtain ⟨l1, l2⟩ := lay _ _ a0 f0
      exact fin _ l1 l2 (h.1 (flt_n l2))
theorem shl_n {m : Nat} (h : m ≤ 16) : ((1 : Int32) <<< (nI m &&& 31 : Int32) : Int32) = nI (2 ^ m) := one_shl h
theorem num_B {w p q : Nat} (hw : w ≤ 32768) (hp : p ≤ 32768) (hwp : w < p) (hq : p ≤ q) : -(q : Int) ≤ (nI w - nI p + 1).toInt ∧ (nI w - nI p + 1).toInt ≤ q := by
  have b1 : B 0 32768 (nI w) := by
    constructor <;> rw [nI_toInt (by omega)] <;> omega
  have b2 : B 0 32768 (nI p) := by
    constructor <;> rw [nI_toInt (by omega)] <;> omega
  have b3 := B_sub b1 b2 (by decide) (by decide)
  have e1 := t_sub b1 b2 (by decide) (by decide)
  have e2 := t_add (y := 1) (c := 1) (d := 1) b3 ⟨by decide, by decide⟩ (by decide) (by decide)
  rw [e2, e1, nI_toInt (by omega), nI_toInt (by omega), show (1 : Int32).toInt = 1 by decide]
  omega
theorem x_num {m : Nat} (hm : m ≤ 15) (hr : rd S F) (hb : rb S F) (h1 : p_readNumber (nI m) S K1) (h2 : p_Re_readNumber UL 60 (nI m) (F, L, PC a b P) K2 T2)
    (ok : ∀ v M' F', (∀ q : Nat, 2 ^ m ≤ q → -(q : Int) ≤ Int32.toInt v ∧ Int32.toInt v ≤ (q : Int)) → fbR S M' → fbC F F' → rd M' F' → rb M' F' → K1 v M' → K2 v (F', L, PC a b P) → G)
    (bad : ∀ v M' F', flt M' → fbR S M' → fbC F F' → K1 v M' → T2 13 (F', L, PC a b P) → G) : G := by
  unfold p_readNumber at h1
  unfold p_Re_readNumber at h2
  refine v_e_readNumber_4 h1 (fun y2 y3 T => ∃ Y, fbR S T ∧ fbC F Y ∧ ((rd T Y ∧ rb T Y ∧ ∃ w k : Nat, y2 = nI w ∧ y3 = nI k ∧ k ≤ m ∧ w < 2 ^ k ∧ e_Re_readNumber_4 UL 60 (nI m) (nI w) (nI k) (Y, L, PC a b P) K2 T2) ∨ (flt T ∧ T2 13 (Y, L, PC a b P)))) ⟨F, ag_refl, agc_refl, Or.inl ⟨hr, hb, 0, 0, rfl, rfl, Nat.zero_le _, by decide, h2⟩⟩ ?_
  rintro y2 y3 T R ⟨Y, ha, hg, hc⟩ hb
  unfold b_readNumber_4 b_readNumber_47 b_readNumber_48 at hb
  rcases hc with ⟨hrd, hrb, w, k, rfl, rfl, hk, hw, g⟩ | ⟨hf, ht⟩
  · have g := r_e_Re_readNumber_4 g
    unfold b_Re_readNumber_4 b_Re_readNumber_44 at g
    have p16 : 2 ^ k ≤ 2 ^ 15 := Nat.pow_le_pow_right (by decide) (by omega)
    have e15 : (2 : Nat) ^ 15 = 32768 := by decide
    by_cases e : k = m
    · right
      subst e
      have hb := hb.1 (Int32.le_refl _)
      have g := g.1 (Int32.le_refl _)
      rw [shl_n (by omega), show (2 * nI w : Int32) = nI (2 * w) from pk_mul 2 w] at g
      by_cases m0 : k = 0
      · subst m0
        have w0 : w = 0 := by
          have : (2 : Nat) ^ 0 = 1 := rfl
          omega
        subst w0
        have hb := hb.1 (by decide)
        have g := g.2 (by decide)
        exact ok _ T Y (fun q _ => by rw [nI_toInt (by decide)]; omega) ha hg hrd hrb hb g
      · have hb := hb.2 (nI_nle (by omega) (by omega))
        rw [show (nI k - 1 : Int32) = nI (k - 1) from by rw [show (1 : Int32) = nI 1 from rfl, pk_sub (by omega)], shl_n (show k - 1 ≤ 16 by omega), shl_n (show k ≤ 16 by omega)] at hb
        have pk : 2 ^ k = 2 * 2 ^ (k - 1) := by
          obtain ⟨k', rfl⟩ : ∃ k', k = k' + 1 := ⟨k - 1, by omega⟩
          rw [show k' + 1 - 1 = k' by omega, Nat.pow_succ, Nat.mul_comm]
        by_cases c : 2 ^ (k - 1) ≤ w
        · exact ok _ T Y (fun q _ => by rw [nI_toInt (show w < 2 ^ 31 by omega)]; omega) ha hg hrd hrb (hb.1 (nI_le c (by omega))) (g.1 (nI_le (by omega) (by omega)))
        · exact ok _ T Y (fun q hq => num_B (by omega) (by omega) (by omega) hq) ha hg hrd hrb (hb.2 (nI_ge (by omega) (by omega))) (g.2 (nI_ge (by omega) (by omega)))
    · left
      have hb := hb.2 (nI_ge (by omega) (by omega))
      have g := g.2 (nI_ge (by omega) (by omega))
      refine x_bit hrd hrb hb g (fun v M1 F1 a1 a2 a3 a4 a5 hb g => ?_) (fun v M1 F1 b1 b2 b3 hb g => ?_)
      · have pk : 2 ^ (k + 1) = 2 * 2 ^ k := by rw [Nat.pow_succ, Nat.mul_comm]
        have hv : ∃ β : Nat, v = nI β ∧ β ≤ 1 := by
          rcases sp_01 a1 with q | q
          · exact ⟨0, q, by decide⟩
          · exact ⟨1, q, by decide⟩
        obtain ⟨β, rfl, hβ⟩ := hv
        rw [show ((2 * nI w) + nI β : Int32) = nI (2 * w + β) from by rw [show (2 * nI w : Int32) = nI (2 * w) from pk_mul 2 w, nI_add], nI_1] at hb g
        exact ⟨_, _, _, hb, F1, ag_tr ha a2 rfl rfl, agc_tr hg a3 rfl rfl, Or.inl ⟨a4, a5, 2 * w + β, k + 1, rfl, rfl, by omega, by omega, g⟩⟩
      · exact ⟨_, _, _, hb, F1, ag_tr ha b2 rfl rfl, agc_tr hg b3 rfl rfl, Or.inr ⟨b1, g⟩⟩
  · refine dt_p hb (fun c hb => ?_) (fun c hb => ?_)
    · right
      refine dt_p hb (fun c hb => ?_) (fun c hb => ?_)
      · exact bad _ T Y hf ha hg hb ht
      · refine dt_p hb (fun c hb => ?_) (fun c hb => ?_)
        · exact bad _ T Y hf ha hg hb ht
        · exact bad _ T Y hf ha hg hb ht
    · left
      obtain ⟨v, M1, q1, q2, hb⟩ := q_bitF hf hb
      exact ⟨_, _, _, hb, Y, ag_tr ha q2 rfl rfl, hg, Or.inr ⟨q1, ht⟩⟩
end RN

/-! UNPACK: symbols -/
/-- the first code beyond length n, and the codes before it; cn k: how many codes have length k + 1 -/
def fcs (cn : Nat → Nat) : Nat → Nat
  | 0 => 0
  | n + 1 => 2 * fcs cn n + cn n
def bfs (cn : Nat → Nat) : Nat → Nat
  | 0 => 0
  | n + 1 => bfs cn n + cn n
theorem bfs_le {cn : Nat → Nat} : ∀ {n m : Nat}, n ≤ m → bfs cn n ≤ bfs cn m
  | n, 0, h => by
    obtain rfl : n = 0 := by omega
    exact Nat.le_refl _
  | n, m + 1, h => by
    by_cases e : n = m + 1
    · subst e
      exact Nat.le_refl _
    · exact Nat.le_trans (bfs_le (n := n) (m := m) (by omega)) (Nat.le_add_right _ _)
def isCo (u : Nat) : Prop := u = 81 ∨ u = 86 ∨ u = 91 ∨ u = 96
/-- a told code, both sides -/
def cdR (Q : Int32 → Prop) (c u : Nat) (M : ms) (F : cF) : Prop := ∃ cn : Nat → Nat, (∀ n, n < 16 → cn n ≤ 255 ∧ M.2.1 40 (16 * c + n) = nI (cn n) ∧ F (u + 1) (n + 1) = nI (cn n) ∧ F (u + 2) (n + 1) = nI (2 * fcs cn n) ∧ F (u + 3) (n + 1) = nI (bfs cn n)) ∧ bfs cn 16 ≤ 256 ∧ ∀ j, j < bfs cn 16 → F (u + 4) j = M.2.1 41 (256 * c + j) ∧ (B 0 255 (F (u + 4) j) ∧ Q (F (u + 4) j))
section RS
variable {S : ms} {F : cF} {L : cL} {a b : Bool} {P : Nat → Nat → Nat} {K1 : Int32 → ms → Prop} {K2 : Int32 → cs → Prop} {T2 : Nat → cs → Prop} {G : Prop} {c u : Nat} {Q : Int32 → Prop}
theorem co1 (hu : isCo u) : PC a b P u 1 = u + 1 := by rcases hu with rfl | rfl | rfl | rfl <;> rfl
theorem co2 (hu : isCo u) : PC a b P u 2 = u + 2 := by rcases hu with rfl | rfl | rfl | rfl <;> rfl
theorem co3 (hu : isCo u) : PC a b P u 3 = u + 3 := by rcases hu with rfl | rfl | rfl | rfl <;> rfl
theorem co4 (hu : isCo u) : PC a b P u 4 = u + 4 := by rcases hu with rfl | rfl | rfl | rfl <;> rfl
/-- symbolOf(code, n + 1), the code being no less than the first one -/
theorem q_symbolOf {cn : Nat → Nat} {w n : Nat} {K : Int32 → cs → Prop} (hu : isCo u) (hn : n < 16) (hw : w < 2 ^ 17) (hf : 2 * fcs cn n ≤ w) (hc : cn n ≤ 255) (hb : bfs cn n ≤ 256) (f1 : F (u + 1) (n + 1) = nI (cn n)) (f2 : F (u + 2) (n + 1) = nI (2 * fcs cn n)) (f3 : F (u + 3) (n + 1) = nI (bfs cn n)) (h : p_Co_symbolOf UL u (nI w) (nI (n + 1)) (F, L, PC a b P) K) :
    (2 * fcs cn n + cn n ≤ w ∧ K (-1) (F, L, PC a b P)) ∨ (w < 2 * fcs cn n + cn n ∧ K (F (u + 4) (bfs cn n + (w - 2 * fcs cn n))) (F, L, PC a b P)) := by
  have e17 : (2 : Nat) ^ 17 = 131072 := by decide
  unfold p_Co_symbolOf b_Co_symbolOf_39 b_Co_symbolOf_40 at h
  obtain ⟨-, -, -, h⟩ := h
  dsimp only at h
  rw [co1 hu, co2 hu, co3 hu, co4 hu, nI_clamp (show n + 1 < 2 ^ 31 by omega), f1, f2, f3, pk_sub hf] at h
  obtain ⟨-, -, -, h⟩ := h.2 (nI_nlt (a := w - 2 * fcs cn n) (b := 0) (Nat.zero_le _) (by omega))
  by_cases d : cn n ≤ w - 2 * fcs cn n
  · exact Or.inl ⟨by omega, h.1 (nI_le d (by omega))⟩
  · obtain ⟨-, -, -, -, -, -, h⟩ := h.2 (nI_ge (by omega) (by omega))
    rw [nI_add, nI_clamp (by omega)] at h
    exact Or.inr ⟨by omega, h⟩
theorem cdR_k {T : ms} {Y : cF} (hu : isCo u) (h : cdR Q c u S F) (ha : fbR S T) (hg : fbC F Y) : cdR Q c u T Y := by
  have f1 : Y (u + 1) = F (u + 1) := by rcases hu with rfl | rfl | rfl | rfl <;> exact hg.2 _ rfl rfl
  have f2 : Y (u + 2) = F (u + 2) := by rcases hu with rfl | rfl | rfl | rfl <;> exact hg.2 _ rfl rfl
  have f3 : Y (u + 3) = F (u + 3) := by rcases hu with rfl | rfl | rfl | rfl <;> exact hg.2 _ rfl rfl
  have f4 : Y (u + 4) = F (u + 4) := by rcases hu with rfl | rfl | rfl | rfl <;> exact hg.2 _ rfl rfl
  unfold cdR
  rw [ha.2 40 rfl, ha.2 41 rfl, f1, f2, f3, f4]
  exact h
theorem x_symb (hu : isCo u) (hc3 : c ≤ 3) (hr : rd S F) (hb : rb S F) (hcd : cdR Q c u S F) (h1 : p_readSymbol (nI c) S K1) (h2 : p_Re_readSymbol UL 60 u (F, L, PC a b P) K2 T2)
    (ok : ∀ v M' F', (B 0 255 v ∧ Q v) → fbR S M' → fbC F F' → rd M' F' → rb M' F' → K1 v M' → K2 v (F', L, PC a b P) → G)
    (bad : ∀ v M' F', flt M' → fbR S M' → fbC F F' → K1 v M' → T2 13 (F', L, PC a b P) → G) : G := by
  obtain ⟨cn, hcn, h256, hsy⟩ := hcd
  unfold p_readSymbol at h1
  -- what the class does at length n + 1: it reads a bit and looks the code up
  refine v_e_readSymbol_10 h1 (fun y2 y3 y4 y5 T => ∃ Y, fbR S T ∧ fbC F Y ∧ rd T Y ∧ rb T Y ∧ ∃ w n : Nat, n ≤ 16 ∧ y2 = nI w ∧ y3 = nI (fcs cn n) ∧ y4 = nI (bfs cn n) ∧ y5 = nI n ∧ fcs cn n ≤ w ∧ w < 2 ^ n ∧ (n = 0 → p_Re_readSymbol UL 60 u (Y, L, PC a b P) K2 T2) ∧ (0 < n → e_Re_readSymbol_23 UL 60 u (nI w) (-1) (nI (n + 1)) (Y, L, PC a b P) K2 T2)) ⟨F, ag_refl, agc_refl, hr, hb, 0, 0, by decide, rfl, rfl, rfl, rfl, Nat.le_refl _, by decide, fun _ => h2, fun q => absurd q (by decide)⟩ ?_
  rintro y2 y3 y4 y5 T R ⟨Y, ha, hg, hrd, hrb, w, n, hn, rfl, rfl, rfl, rfl, hfw, hw, g0, g1⟩ hb'
  unfold b_readSymbol_10 at hb'
  have e16 : (2 : Nat) ^ 16 = 65536 := by decide
  have wb : w < 2 ^ 16 := Nat.lt_of_lt_of_le hw (Nat.pow_le_pow_right (by decide) hn)
  by_cases e : n = 16
  · right
    subst e
    have hb' := q_fail0 hrd.1 (hb'.1 (Int32.le_refl _))
    have g := r_e_Re_readSymbol_23 (g1 (by decide))
    unfold b_Re_readSymbol_23 b_Re_readSymbol_58 at g
    have g := (g.1 (by decide)).2 rfl
    obtain ⟨F2, q1, -, g⟩ := q_Rfail g
    exact bad _ _ F2 (fail_n (by decide)) (ag_tr ha (ag_fail (S := T)) rfl rfl) (agc_tr hg q1 rfl rfl) hb' g
  · have hb' := hb'.2 (nI_ge (b := 16) (by omega) (by decide))
    obtain ⟨c1, c2, -, -, -⟩ := hcn n (by omega)
    have b2 := bfs_le (cn := cn) (n := n + 1) (m := 16) (by omega)
    have b3 : bfs cn (n + 1) = bfs cn n + cn n := rfl
    -- the reference behind its bit
    have ref : ∀ (v : Int32) (β : Nat) (M1 : ms), v = nI β → β ≤ 1 → fbR S M1 → M1.1 35 = 0 → b_readSymbol_39 (nI c) ((2 * nI w) + v) (nI (fcs cn n)) (nI (bfs cn n)) (nI n) M1 R K1 → (2 * fcs cn n + cn n ≤ 2 * w + β ∧ R (nI c) (nI (2 * w + β)) (nI (fcs cn (n + 1))) (nI (bfs cn (n + 1))) (nI n + 1) M1) ∨ (2 * w + β < 2 * fcs cn n + cn n ∧ K1 (S.2.1 41 (256 * c + (bfs cn n + (2 * w + β - 2 * fcs cn n)))) M1) := by
      intro v β M1 hv hβ am m35 hq
      subst hv
      unfold b_readSymbol_39 at hq
      obtain ⟨-, hq⟩ := hq.1 (by rw [m35]; exact Int32.le_refl _)
      have fb : fcs cn n < 65536 := by omega
      rw [show ((16 * nI c) + nI n : Int32) = nI (16 * c + n) from by rw [show (16 : Int32) = nI 16 from rfl, pk_mul, nI_add], nI_clamp (show 16 * c + n < 2 ^ 31 by omega), am.2 40 rfl, c2, show ((2 * nI w) + nI β : Int32) = nI (2 * w + β) from by rw [show (2 * nI w : Int32) = nI (2 * w) from pk_mul 2 w, nI_add], show ((2 * nI (fcs cn n)) + nI (cn n) : Int32) = nI (2 * fcs cn n + cn n) from by rw [show (2 * nI (fcs cn n) : Int32) = nI (2 * fcs cn n) from pk_mul 2 _, nI_add]] at hq
      by_cases d : 2 * fcs cn n + cn n ≤ 2 * w + β
      · have hq := hq.1 (nI_le d (by omega))
        rw [nI_add] at hq
        exact Or.inl ⟨d, hq⟩
      · obtain ⟨-, hq⟩ := hq.2 (nI_ge (by omega) (by omega))
        have ei : ((((256 * nI c) + nI (bfs cn n)) + nI (2 * w + β)) - (2 * nI (fcs cn n)) : Int32) = nI (256 * c + (bfs cn n + (2 * w + β - 2 * fcs cn n))) := by
          rw [show (256 : Int32) = nI 256 from rfl, pk_mul, nI_add, nI_add, show (2 * nI (fcs cn n) : Int32) = nI (2 * fcs cn n) from pk_mul 2 _, pk_sub (by omega)]
          congr 1
          omega
        rw [ei, nI_clamp (by omega), am.2 41 rfl] at hq
        exact Or.inr ⟨by omega, hq⟩
    have w0 : n = 0 → w = 0 := fun q => by
      subst q
      have : (2 : Nat) ^ 0 = 1 := rfl
      omega
    have p2 : 2 ^ (n + 1) = 2 * 2 ^ n := by rw [Nat.pow_succ, Nat.mul_comm]
    by_cases n0 : n = 0
    · -- the first bit
      have g := g0 n0
      unfold p_Re_readSymbol at g
      refine x_bit hrd hrb hb' g (fun v M1 F1 a1 a2 a3 a4 a5 hb' g => ?_) (fun v M1 F1 d1 d2 d3 hb' g => ?_)
      · obtain ⟨β, hv, hβ⟩ : ∃ β : Nat, v = nI β ∧ β ≤ 1 := by
          rcases sp_01 a1 with q | q
          · exact ⟨0, q, by decide⟩
          · exact ⟨1, q, by decide⟩
        have hb' := hb'.2 (by rw [n0]; rfl)
        have am : fbR S (upd M1.1 57 (M1.1 56), M1.2.1, M1.2.2) := ag_tr ha (ag_tr a2 (ag_f (fs := [10, 34, 35, 54, 55, 56, 57]) (rs := []) (T := (M1.1, M1.2.1, M1.2.2)) ag_refl rfl) rfl rfl) rfl rfl
        obtain ⟨-, g⟩ := g
        have g : p_Co_symbolOf UL u v 1 (va_up F1 60 (upd (F1 60) 5 (F1 60 3)), L, PC a b P) _ := g
        have gm : fbC F (va_up F1 60 (upd (F1 60) 5 (F1 60 3))) := agc_f (agc_tr hg a3 rfl rfl) rfl rfl
        have r2 : rd (upd M1.1 57 (M1.1 56), M1.2.1, M1.2.2) (va_up F1 60 (upd (F1 60) 5 (F1 60 3))) := rd_f a4 (by decide) (by decide) (by decide) (by rw [vu_at, upd_ne (by decide)]) (by rw [vu_ne (by decide)]) (vu_ne (by decide))
        have rb2 : rb (upd M1.1 57 (M1.1 56), M1.2.1, M1.2.2) (va_up F1 60 (upd (F1 60) 5 (F1 60 3))) := ⟨by show _ = upd M1.1 57 (M1.1 56) 54; rw [vu_at, upd_ne (by decide), upd_ne (by decide)]; exact a5.1, fun q => by show _ = upd M1.1 57 (M1.1 56) 55; rw [vu_at, upd_ne (by decide), upd_ne (by decide)]; exact a5.2 (by have q : ¬ upd M1.1 57 (M1.1 56) 54 = 0 := q; rw [upd_ne (by decide)] at q; exact q)⟩
        have fr : ∀ k, 1 ≤ k → k ≤ 4 → (va_up F1 60 (upd (F1 60) 5 (F1 60 3))) (u + k) = F (u + k) := fun k k1 k4 => by
          have : k = 1 ∨ k = 2 ∨ k = 3 ∨ k = 4 := by omega
          rcases this with rfl | rfl | rfl | rfl <;> rcases hu with rfl | rfl | rfl | rfl <;> exact gm.2 _ rfl rfl
        obtain ⟨-, -, k1, k2, k3⟩ := hcn n (by omega)
        rw [hv, show (1 : Int32) = nI (n + 1) from by rw [n0]; rfl] at g
        have f0 : fcs cn n = 0 := by rw [n0]; rfl
        have sy := q_symbolOf (cn := cn) (w := β) (n := n) hu (by omega) (by rw [show (2 : Nat) ^ 17 = 131072 from by decide]; omega) (by rw [f0]; omega) c1 (by omega) (by rw [fr 1 (by decide) (by decide)]; exact k1) (by rw [fr 2 (by decide) (by decide)]; exact k2) (by rw [fr 3 (by decide) (by decide)]; exact k3) g
        have w00 := w0 n0
        rcases ref v β _ hv hβ am r2.1 hb' with ⟨d, hR⟩ | ⟨d, hK⟩
        · left
          rcases sy with ⟨-, g⟩ | ⟨d2, -⟩
          · exact ⟨_, _, _, _, _, hR, _, am, gm, r2, rb2, 2 * w + β, n + 1, by omega, rfl, rfl, rfl, nI_1 n, by show 2 * fcs cn n + cn n ≤ _; omega, by omega, fun q => absurd q (by omega), fun _ => by rw [show 2 * w + β = β by omega, n0]; exact g⟩
          · omega
        · right
          rcases sy with ⟨d2, -⟩ | ⟨-, g⟩
          · omega
          · have sj := hsy (bfs cn n + (2 * w + β - 2 * fcs cn n)) (by omega)
            rw [fr 4 (by decide) (by decide), show bfs cn n + (β - 2 * fcs cn n) = bfs cn n + (2 * w + β - 2 * fcs cn n) by omega, sj.1] at g
            have bs := sj.2
            rw [sj.1] at bs
            have g := r_e_Re_readSymbol_23 g
            unfold b_Re_readSymbol_23 b_Re_readSymbol_58 b_Re_readSymbol_73 at g
            have ne : ¬ S.2.1 41 (256 * c + (bfs cn n + (2 * w + β - 2 * fcs cn n))) = -1 := fun q => by
              rw [q] at bs
              exact absurd bs.1.1 (by decide)
            have g := ((g.2 (by decide)).1 ne).1 ne
            exact ok _ _ _ bs am gm r2 rb2 hK g
      · right
        have hb' := hb'.2 (by rw [n0]; rfl)
        unfold b_readSymbol_39 at hb'
        have f2 : flt (upd M1.1 57 (M1.1 56), M1.2.1, M1.2.2) := by
          show 0 < (upd M1.1 57 (M1.1 56) 35).toInt
          rw [upd_ne (by decide)]
          exact d1
        exact bad _ _ F1 f2 (ag_tr ha (ag_tr d2 (ag_f (fs := [10, 34, 35, 54, 55, 56, 57]) (rs := []) (T := (M1.1, M1.2.1, M1.2.2)) ag_refl rfl) rfl rfl) rfl rfl) (agc_tr hg d3 rfl rfl) (hb'.2 (flt_l f2)) g
    · -- a later bit
      have g := r_e_Re_readSymbol_23 (g1 (by omega))
      unfold b_Re_readSymbol_23 at g
      have g := (g.2 (nI_nlt (a := 16) (b := n + 1) (by omega) (by decide))).2 rfl
      refine x_bit hrd hrb hb' g (fun v M1 F1 a1 a2 a3 a4 a5 hb' g => ?_) (fun v M1 F1 d1 d2 d3 hb' g => ?_)
      · obtain ⟨β, hv, hβ⟩ : ∃ β : Nat, v = nI β ∧ β ≤ 1 := by
          rcases sp_01 a1 with q | q
          · exact ⟨0, q, by decide⟩
          · exact ⟨1, q, by decide⟩
        have hb' := hb'.1 (nI_ne0 (by omega) (by omega))
        have am : fbR S (M1.1, M1.2.1, M1.2.2) := ag_tr ha a2 rfl rfl
        have gm : fbC F F1 := agc_tr hg a3 rfl rfl
        obtain ⟨-, g⟩ := g
        have fr : ∀ k, 1 ≤ k → k ≤ 4 → F1 (u + k) = F (u + k) := fun k k1 k4 => by
          have : k = 1 ∨ k = 2 ∨ k = 3 ∨ k = 4 := by omega
          rcases this with rfl | rfl | rfl | rfl <;> rcases hu with rfl | rfl | rfl | rfl <;> exact gm.2 _ rfl rfl
        obtain ⟨-, -, k1, k2, k3⟩ := hcn n (by omega)
        rw [hv, show ((2 * nI w) + nI β : Int32) = nI (2 * w + β) from by rw [show (2 * nI w : Int32) = nI (2 * w) from pk_mul 2 w, nI_add]] at g
        have sy := q_symbolOf (cn := cn) (w := 2 * w + β) (n := n) hu (by omega) (by rw [show (2 : Nat) ^ 17 = 131072 from by decide]; omega) (by omega) c1 (by omega) (by rw [fr 1 (by decide) (by decide)]; exact k1) (by rw [fr 2 (by decide) (by decide)]; exact k2) (by rw [fr 3 (by decide) (by decide)]; exact k3) g
        rcases ref v β _ hv hβ am a4.1 hb' with ⟨d, hR⟩ | ⟨d, hK⟩
        · left
          rcases sy with ⟨-, g⟩ | ⟨d2, -⟩
          · rw [nI_1] at g
            exact ⟨_, _, _, _, _, hR, F1, am, gm, a4, a5, 2 * w + β, n + 1, by omega, rfl, rfl, rfl, nI_1 n, by show 2 * fcs cn n + cn n ≤ _; omega, by omega, fun q => absurd q (by omega), fun _ => g⟩
          · omega
        · right
          rcases sy with ⟨d2, -⟩ | ⟨-, g⟩
          · omega
          · have sj := hsy (bfs cn n + (2 * w + β - 2 * fcs cn n)) (by omega)
            rw [fr 4 (by decide) (by decide), sj.1] at g
            have bs := sj.2
            rw [sj.1] at bs
            have g := r_e_Re_readSymbol_23 g
            unfold b_Re_readSymbol_23 b_Re_readSymbol_58 b_Re_readSymbol_73 at g
            have ne : ¬ S.2.1 41 (256 * c + (bfs cn n + (2 * w + β - 2 * fcs cn n))) = -1 := fun q => by
              rw [q] at bs
              exact absurd bs.1.1 (by decide)
            have fin : K2 (S.2.1 41 (256 * c + (bfs cn n + (2 * w + β - 2 * fcs cn n)))) (F1, L, PC a b P) := by
              refine dt_p g (fun _ g => g.1 ne) (fun _ g => (g.1 ne).1 ne)
            exact ok _ _ _ bs am gm a4 a5 hK fin
      · right
        have hb' := hb'.1 (nI_ne0 (by omega) (by omega))
        unfold b_readSymbol_39 at hb'
        exact bad _ _ F1 d1 (ag_tr ha d2 rfl rfl) (agc_tr hg d3 rfl rfl) (hb'.2 (flt_l d1)) g
end RS

/-! UNPACK: a block is read -/
/-- symbols of rests -/
def isRs (v : Int32) : Prop := v = 0 ∨ v = 240 ∨ (1 ≤ v.toInt % 16 ∧ v.toInt % 16 ≤ 10)
def isSt (v : Int32) : Prop := v.toInt ≤ 11
def co (c : Nat) : Nat := 81 + 5 * c
theorem co_is {c : Nat} (h : c ≤ 3) : isCo (co c) := by
  have : c = 0 ∨ c = 1 ∨ c = 2 ∨ c = 3 := by omega
  rcases this with rfl | rfl | rfl | rfl
  · exact Or.inl rfl
  · exact Or.inr (Or.inl rfl)
  · exact Or.inr (Or.inr (Or.inl rfl))
  · exact Or.inr (Or.inr (Or.inr rfl))
/-- reading a block changes beside the reader: levels of the picture that is made (u), and the starts -/
abbrev fkR (S M : ms) : Prop := ag [10, 34, 35, 54, 55, 56, 57] [19, 53] S M
section RK
variable {S : ms} {F : cF} {L : cL} {a b : Bool} {P : Nat → Nat → Nat} {K1 : ms → Prop} {K2 : cs → Prop} {T2 : Nat → cs → Prop} {G : Prop} {u l bk j : Nat}
/-- levels of both: the reference's work third, the class's picture u -/
def rLw (u : Nat) (M : ms) (F : cF) : Prop := ∀ k, k < 12288 → F (u + 7) k = M.2.1 19 (24576 + k) ∧ B (-4096) 4096 (M.2.1 19 (24576 + k))
theorem lc2 {l bk k : Nat} (hl : l < 3) (hbk : bk < 64) (hk : k < 64) : ((64 * ((64 * ((3 * 2) + nI l)) + nI bk)) + nI k : Int32) = nI (24576 + (64 * (64 * l + bk) + k)) := by
  rw [show (3 * 2 : Int32) = nI 6 from rfl, nI_add, show (64 : Int32) = nI 64 from rfl, pk_mul, nI_add, pk_mul, nI_add]
  congr 1
  omega
theorem b16 {v : Int32} (hv : B 0 255 v) : ∃ w : Nat, v = nI w ∧ w ≤ 255 := ⟨v.toInt.toNat, nI_i hv.1, by have := hv.2; omega⟩
theorem n_shr4 {w : Nat} (h : w ≤ 255) : (nI w >>> (4 &&& 31 : Int32) : Int32) = nI (w / 16) := by
  apply Int32.toInt.inj
  rw [t_shr (k := 4) (by decide), nI_toInt (by omega), nI_toInt (by omega)]
  have : (2 : Int) ^ 4 = 16 := by decide
  rw [this]
  omega
theorem n_and15 {w : Nat} (h : w ≤ 255) : (nI w &&& 15 : Int32) = nI (w % 16) := by
  have : ∀ j : Fin 256, (nI j.val &&& 15 : Int32) = nI (j.val % 16) := by decide +kernel
  exact this ⟨w, by omega⟩
/-- the rests of a block -/
theorem x_rests {cr : Nat} (hu : u = 63 ∨ u = 105) (hpu : PC a b P 59 1 = u) (hl : l < 3) (hbk : bk < 64) (hj : j < 3) (hc3 : cr ≤ 3) (hr : rd S F) (hb : rb S F) (h52 : S.2.1 52 j = nI cr) (hcd : cdR isRs cr (co cr) S F) (hL : rLw u S F)
    (h1 : e_readBlock_102 (nI j) (nI l) (nI bk) 1 S K1) (h2 : e_Un_readBlock_122 UL 59 (nI (64 * (64 * l + bk))) (co cr) (-1) 1 (F, L, PC a b P) K2 T2)
    (ok : ∀ M' F', fkR S M' → agc [6001, 6002, 6003, 6004, 6005, 6006, 6007] [u + 7] F F' → rd M' F' → rb M' F' → rLw u M' F' → (∀ k, k < 24576 → M'.2.1 19 k = S.2.1 19 k) → M'.2.1 53 = S.2.1 53 → K1 M' → K2 (F', L, PC a b P) → G)
    (bad : ∀ M' F', flt M' → fkR S M' → agc [6001, 6002, 6003, 6004, 6005, 6006, 6007] [u + 7] F F' → (∀ k, k < 24576 → M'.2.1 19 k = S.2.1 19 k) → K1 M' → T2 13 (F', L, PC a b P) → G) : G := by
  have p13 : PC a b P u 13 = u + 7 := by rcases hu with rfl | rfl <;> rfl
  have oU : OB (u + 7) = false := by rcases hu with rfl | rfl <;> rfl
  have u7 : u + 7 ≠ 60 ∧ u + 7 ≠ 61 ∧ u + 7 ≠ 62 ∧ ∀ k, k ≤ 4 → u + 7 ≠ co cr + k := by
    have : cr = 0 ∨ cr = 1 ∨ cr = 2 ∨ cr = 3 := by omega
    rcases hu with rfl | rfl <;> rcases this with rfl | rfl | rfl | rfl <;> refine ⟨by decide, by decide, by decide, fun k hk => ?_⟩ <;> show _ ≠ 81 + 5 * _ + k <;> omega
  refine v_e_readBlock_102 h1 (fun y7 T => ∃ Y, fkR S T ∧ agc [6001, 6002, 6003, 6004, 6005, 6006, 6007] [u + 7] F Y ∧ (∀ k, k < 24576 → T.2.1 19 k = S.2.1 19 k) ∧ ((rd T Y ∧ rb T Y ∧ rLw u T Y ∧ T.2.1 53 = S.2.1 53 ∧ cdR isRs cr (co cr) T Y ∧ ∃ (k : Nat) (y6 : Int32), y7 = nI k ∧ 1 ≤ k ∧ k ≤ 64 ∧ ¬ y6 = 0 ∧ e_Un_readBlock_122 UL 59 (nI (64 * (64 * l + bk))) (co cr) y6 (nI k) (Y, L, PC a b P) K2 T2) ∨ (flt T ∧ T2 13 (Y, L, PC a b P)))) ⟨F, ag_refl, agc_refl, fun _ _ => rfl, Or.inl ⟨hr, hb, hL, rfl, hcd, 1, -1, rfl, by decide, by decide, by decide, h2⟩⟩ ?_
  rintro y7 T R ⟨Y, ha, hg, h19, hc⟩ hb'
  unfold b_readBlock_102 b_readBlock_248 b_readBlock_146 at hb'
  rcases hc with ⟨hrd, hrb, hLw, e53, hcdT, k, y6, rfl, hk1, hk, hy6, g⟩ | ⟨hf, ht⟩
  · have g := r_e_Un_readBlock_122 g
    unfold b_Un_readBlock_122 b_Un_readBlock_219 at g
    by_cases e : k = 64
    · right
      subst e
      exact ok T Y ha hg hrd hrb hLw h19 e53 (hb'.1 (Int32.le_refl _)) (g.1 (Int32.le_refl _))
    · obtain ⟨-, hb'⟩ := (hb'.2 (nI_ge (b := 64) (by omega) (by decide))).2 hrd.1
      obtain ⟨-, -, g⟩ := (g.2 (nI_ge (b := 64) (by omega) (by decide))).2 hy6
      rw [nI_clamp (show j < 2 ^ 31 by omega), ha.2 52 rfl, h52] at hb'
      refine x_symb (co_is hc3) hc3 hrd hrb hcdT hb' g (fun v M1 F1 a1 a2 a3 a4 a5 hb' g => ?_) (fun v M1 F1 d1 d2 d3 hb' g => ?_)
      · -- a symbol
        obtain ⟨w, rfl, hw⟩ := b16 a1.1
        have q35 : M1.1 35 = 0 := a4.1
        have hb' := hb'.2 (by show ¬ (0 : Int32) < M1.1 35; rw [q35]; decide)
        have aM : fkR S M1 := ag_tr ha a2 rfl rfl
        have gM : agc [6001, 6002, 6003, 6004, 6005, 6006, 6007] [u + 7] F F1 := agc_tr hg a3 rfl rfl
        have k19 : ∀ k, k < 24576 → M1.2.1 19 k = S.2.1 19 k := by rw [a2.2 19 rfl]; exact h19
        have Lw1 : rLw u M1 F1 := by
          intro k hk'
          rw [a2.2 19 rfl, a3.2 (u + 7) oU rfl]
          exact hLw k hk'
        have cd1 := cdR_k (co_is hc3) hcdT a2 a3
        have d16 : (nI w / 16 : Int32) = nI (w / 16) := pk_div (d := 16) (by omega) (by decide) (by decide)
        have m16 : (nI w - nI (w / 16) * 16 : Int32) = nI (w % 16) := by
          rw [show (16 : Int32) = nI 16 from rfl, pk_mul, pk_sub (by omega)]
          congr 1
          omega
        rw [d16] at g
        rw [m16, nI_add] at g
        have w15 : w / 16 ≤ 15 := by omega
        by_cases w0 : w = 0
        · -- the end of the block
          subst w0
          right
          have hb' := hb'.2 rfl
          have g := (g.1 (nI_lt (b := 64) (by omega) (by decide))).1 (by decide)
          unfold b_Un_readBlock_213 at g
          have g := r_e_Un_readBlock_122 g
          unfold b_Un_readBlock_122 b_Un_readBlock_219 at g
          have fin : K2 (F1, L, PC a b P) := dt_p g (fun _ g => g) (fun _ g => g.1 rfl)
          exact ok M1 F1 aM gM a4 a5 Lw1 k19 ((a2.2 53 rfl).trans e53) hb' fin
        · have hb' := hb'.1 (nI_ne0 (by omega) (by omega))
          left
          -- beyond the block: both fail
          have fall : ∀ (z : Int32) (q : Int32), ¬ k + w / 16 < 64 → b_readBlock_195 (nI j) (nI l) (nI bk) q z (M1.1, M1.2.1, M1.2.2) R K1 → ∃ (zx7 : Int32) (zS : ms), R (nI j) (nI l) (nI bk) zx7 zS ∧ ∃ Y, fkR S zS ∧ agc [6001, 6002, 6003, 6004, 6005, 6006, 6007] [u + 7] F Y ∧ (∀ k, k < 24576 → zS.2.1 19 k = S.2.1 19 k) ∧ ((rd zS Y ∧ rb zS Y ∧ rLw u zS Y ∧ zS.2.1 53 = S.2.1 53 ∧ cdR isRs cr (co cr) zS Y ∧ ∃ (k : Nat) (y6 : Int32), zx7 = nI k ∧ 1 ≤ k ∧ k ≤ 64 ∧ ¬ y6 = 0 ∧ e_Un_readBlock_122 UL 59 (nI (64 * (64 * l + bk))) (co cr) y6 (nI k) (Y, L, PC a b P) K2 T2) ∨ (flt zS ∧ T2 13 (Y, L, PC a b P))) := by
            intro z q hk64 hq
            unfold b_readBlock_195 b_readBlock_245 at hq
            have hq := q_fail0 (S := (M1.1, M1.2.1, M1.2.2)) q35 hq
            obtain ⟨-, -, -, g⟩ := g.2 (nI_nlt (b := 64) (by omega) (by omega))
            obtain ⟨F2, t1, -, g⟩ := q_Rfail g
            exact ⟨_, _, hq, F2, ag_tr aM (ag_fail (S := (M1.1, M1.2.1, M1.2.2))) rfl rfl, agc_tr gM t1 rfl rfl, k19, Or.inr ⟨fail_n (by decide), g⟩⟩
          have s4 := n_shr4 (w := w) (by omega)
          by_cases w240 : w = 240
          · subst w240
            have hb' := hb'.2 rfl
            rw [s4, show nI k + nI (240 / 16) = nI (k + 15) from nI_add k 15] at hb'
            unfold b_readBlock_167 at hb'
            have hb' := hb'.2 rfl
            rw [nI_1] at hb'
            by_cases d : k + 15 + 1 ≤ 64
            · have hb' := hb'.1 (nI_le (b := 64) d (by decide))
              unfold b_readBlock_208 b_readBlock_245 at hb'
              have hb' := hb'.1 rfl
              have g := (g.1 (nI_lt (b := 64) (by omega) (by decide))).1 (by decide)
              unfold b_Un_readBlock_213 at g
              rw [show (nI (k + 240 / 16) + 1 : Int32) = nI (k + 15 + 1) from nI_1 _] at g
              exact ⟨_, _, hb', F1, aM, gM, k19, Or.inl ⟨a4, a5, Lw1, (a2.2 53 rfl).trans e53, cd1, k + 15 + 1, nI 240, rfl, by omega, d, by decide, g⟩⟩
            · exact fall _ _ (by omega) (hb'.2 (nI_ge (a := 64) (by omega) (by omega)))
          · have n240 : ¬ nI w = 240 := fun q => w240 ((nI_eq (a := w) (b := 240) (by omega) (by decide)).mp q)
            have hb' := hb'.1 n240
            rw [s4, nI_add] at hb'
            unfold b_readBlock_167 at hb'
            have hb' := hb'.1 n240
            rw [show (nI (k + w / 16) + 0 : Int32) = nI (k + w / 16) from nI_add _ 0] at hb'
            have low : 1 ≤ w % 16 ∧ w % 16 ≤ 10 := by
              rcases a1.2 with q | q | q
              · exact absurd ((nI_eq (a := w) (b := 0) (by omega) (by decide)).mp q) w0
              · exact absurd q n240
              · rw [nI_toInt (by omega)] at q
                omega
            by_cases d : k + w / 16 ≤ 63
            · have hb' := hb'.1 (nI_le (b := 63) d (by decide))
              unfold b_readBlock_208 at hb'
              have hb' := hb'.2 n240
              rw [n_and15 (by omega)] at hb'
              obtain ⟨-, -, -, -, -, g⟩ := (g.1 (nI_lt (b := 64) (by omega) (by decide))).2 (nI_nle (by omega) (by omega))
              refine x_num (by omega) a4 a5 hb' g (fun z M2 F2 c0 c1 c2 c3 c4 hb' g => ?_) (fun z M2 F2 c1 c2 c3 hb' g => ?_)
              · unfold p_levelCell at hb'
                obtain ⟨-, hb'⟩ := hb'
                rw [lc2 hl hbk (by omega), nI_clamp (by omega)] at hb'
                unfold b_readBlock_245 at hb'
                obtain ⟨-, -, g⟩ := g
                unfold b_Un_readBlock_213 at g
                dsimp only at g
                rw [hpu, p13, nI_add, nI_clamp (by omega), nI_1] at g
                rw [nI_1] at hb'
                have r2 : rd (M2.1, va_up M2.2.1 19 (upd (M2.2.1 19) (24576 + (64 * (64 * l + bk) + (k + w / 16))) z), M2.2.2) (va_up F2 (u + 7) (upd (F2 (u + 7)) (64 * (64 * l + bk) + (k + w / 16)) z)) := rd_b c3 rfl rfl rfl (show va_up M2.2.1 19 (upd (M2.2.1 19) (24576 + (64 * (64 * l + bk) + (k + w / 16))) z) 6 = M2.2.1 6 from vu_ne (by decide)) (by rw [vu_ne (Ne.symm u7.1)]) (by rw [vu_ne (Ne.symm u7.2.1)]) (vu_ne (Ne.symm u7.2.2.1))
                refine ⟨_, _, hb', _, ag_r (T := M2) (ag_tr aM c1 rfl rfl) rfl, agc_r (agc_tr gM c2 rfl rfl) oU (by show [u + 7].contains (u + 7) = true; simp only [List.contains_cons, beq_self_eq_true, Bool.true_or]), fun t ht => ?_, Or.inl ⟨r2, ⟨by rw [vu_ne (Ne.symm u7.1)]; exact c4.1, fun q => by rw [vu_ne (Ne.symm u7.1)]; exact c4.2 q⟩, fun t ht => ?_, ?_, ?_, k + w / 16 + 1, nI w, rfl, by omega, by omega, nI_ne0 (by omega) (by omega), g⟩⟩
                · show va_up M2.2.1 19 (upd (M2.2.1 19) (24576 + (64 * (64 * l + bk) + (k + w / 16))) z) 19 t = _
                  rw [vu_at, upd_ne (by omega), c1.2 19 rfl]
                  exact k19 t ht
                · dsimp only
                  rw [vu_at, vu_at]
                  by_cases q : t = 64 * (64 * l + bk) + (k + w / 16)
                  · rw [q, upd_at, upd_at]
                    have p10 : 2 ^ (w % 16) ≤ 4096 := Nat.le_trans (Nat.pow_le_pow_right (by decide) low.2) (by decide)
                    have := c0 4096 p10
                    exact ⟨rfl, this.1, this.2⟩
                  · rw [upd_ne q, upd_ne (by omega), c1.2 19 rfl, c2.2 (u + 7) oU rfl]
                    exact Lw1 t ht
                · show va_up M2.2.1 19 (upd (M2.2.1 19) (24576 + (64 * (64 * l + bk) + (k + w / 16))) z) 53 = _
                  rw [vu_ne (by decide), c1.2 53 rfl, a2.2 53 rfl]
                  exact e53
                · have cd2 := cdR_k (co_is hc3) cd1 c1 c2
                  unfold cdR
                  rw [vu_ne (Ne.symm (u7.2.2.2 1 (by decide))), vu_ne (Ne.symm (u7.2.2.2 2 (by decide))), vu_ne (Ne.symm (u7.2.2.2 3 (by decide))), vu_ne (Ne.symm (u7.2.2.2 4 (by decide)))]
                  dsimp only
                  rw [vu_ne (show (40 : Nat) ≠ 19 by decide), vu_ne (show (41 : Nat) ≠ 19 by decide)]
                  exact cd2
              · -- a fault within the number
                unfold p_levelCell at hb'
                obtain ⟨-, hb'⟩ := hb'
                rw [lc2 hl hbk (by omega), nI_clamp (by omega)] at hb'
                unfold b_readBlock_245 at hb'
                refine ⟨_, _, hb', F2, ag_r (T := M2) (ag_tr aM c2 rfl rfl) rfl, agc_tr gM c3 rfl rfl, fun t ht => ?_, Or.inr ⟨c1, g⟩⟩
                show va_up M2.2.1 19 (upd (M2.2.1 19) (24576 + (64 * (64 * l + bk) + (k + w / 16))) z) 19 t = _
                rw [vu_at, upd_ne (by omega), c2.2 19 rfl]
                exact k19 t ht
            · exact fall _ _ (by omega) (hb'.2 (nI_ge (a := 63) (by omega) (by omega)))
      · right
        have hb' := hb'.1 (flt_p d1)
        exact bad _ F1 d1 (ag_tr ha d2 rfl rfl) (agc_tr hg d3 rfl rfl) (by show ∀ k, k < 24576 → M1.2.1 19 k = _; rw [d2.2 19 rfl]; exact h19) hb' g
  · right
    refine dt_p hb' (fun c hb' => ?_) (fun c hb' => ?_)
    · exact bad T Y hf ha hg h19 hb' ht
    · exact bad T Y hf ha hg h19 (hb'.1 (flt_n hf)) ht
end RK

/-! UNPACK: a block is read, its start too -/
theorem co_p {a b : Bool} {P : Nat → Nat → Nat} {c : Nat} (h : c ≤ 3) : PC a b P 80 c = co c := by
  have : c = 0 ∨ c = 1 ∨ c = 2 ∨ c = 3 := by omega
  rcases this with rfl | rfl | rfl | rfl <;> rfl
/-- what the class may change in a block: reader, levels of picture u, starts (104) -/
abbrev fkC (u : Nat) (F G : cF) : Prop := agc [6001, 6002, 6003, 6004, 6005, 6006, 6007] [u + 7, 104] F G
section RB2
variable {S : ms} {F : cF} {L : cL} {a b : Bool} {P : Nat → Nat → Nat} {K1 : ms → Prop} {K2 : cs → Prop} {T2 : Nat → cs → Prop} {G : Prop} {u l bk j cs' cr : Nat}
def rSt (M : ms) (F : cF) : Prop := ∀ i, i < 3 → F 104 i = M.2.1 53 i ∧ B (-2047) 2047 (M.2.1 53 i)
theorem fk_w {F G : cF} (h : agc [6001, 6002, 6003, 6004, 6005, 6006, 6007] [u + 7] F G) : fkC u F G := by
  refine ⟨h.1, fun w o hw => h.2 w o ?_⟩
  simp only [List.contains_cons, List.contains_nil, Bool.or_false, Bool.or_eq_false_iff] at hw ⊢
  exact hw.1
theorem fb_k {F G : cF} (h : fbC F G) : fkC u F G := ⟨h.1, fun w o _ => h.2 w o rfl⟩
theorem fkC_tr {F G H : cF} (h : fkC u F G) (h' : fkC u G H) : fkC u F H := ⟨fun w k o hw => (h'.1 w k o hw).trans (h.1 w k o hw), fun w o hw => (h'.2 w o hw).trans (h.2 w o hw)⟩
theorem q_blkF {x6 : Int32} (hl : l < 3) (hbk : bk < 64) (hj : j < 3) {M : ms} (hf : flt M) (h : b_readBlock_77 (nI j) (nI l) (nI bk) x6 M K1) : ∃ M', flt M' ∧ ag [] [19, 53] M M' ∧ (∀ k, k < 24576 → M'.2.1 19 k = M.2.1 19 k) ∧ K1 M' := by
  unfold b_readBlock_77 p_levelCell at h
  obtain ⟨-, -, h⟩ := h
  rw [show (0 : Int32) = nI 0 from rfl, lc2 hl hbk (by decide), nI_clamp (show l < 2 ^ 31 by omega), nI_clamp (show 24576 + (64 * (64 * l + bk) + 0) < 2 ^ 31 by omega)] at h
  have h := r_e_readBlock_102 h
  unfold b_readBlock_102 b_readBlock_248 at h
  have h := (h.2 (by decide)).1 (flt_n hf)
  refine ⟨(M.1, va_up (va_up M.2.1 53 (upd (M.2.1 53) l x6)) 19 (upd (va_up M.2.1 53 (upd (M.2.1 53) l x6) 19) (24576 + (64 * (64 * l + bk) + 0)) x6), M.2.2), hf, ag_r (T := (M.1, va_up M.2.1 53 (upd (M.2.1 53) l x6), M.2.2)) (ag_r ag_refl rfl) rfl, fun k hk => ?_, h⟩
  dsimp only
  rw [vu_at, upd_ne (by omega), vu_ne (show (19 : Nat) ≠ 53 by decide)]
theorem x_rblock (hu : u = 63 ∨ u = 105) (hpu : PC a b P 59 1 = u) (hl : l < 3) (hbk : bk < 64) (hj : j < 3) (hcs : cs' ≤ 3) (hcr : cr ≤ 3) (hr : rd S F) (hb : rb S F) (h51 : S.2.1 51 j = nI cs') (h52 : S.2.1 52 j = nI cr) (f75 : F 75 l = nI cs') (f76 : F 76 l = nI cr) (hcd : cdR isSt cs' (co cs') S F) (hcd2 : cdR isRs cr (co cr) S F) (hL : rLw u S F) (hst : rSt S F)
    (h1 : p_readBlock (nI j) (nI l) (nI bk) S K1) (h2 : p_Un_readBlock UL 59 (nI (64 * l + bk)) (F, L, PC a b P) K2 T2)
    (ok : ∀ M' F', fkR S M' → fkC u F F' → rd M' F' → rb M' F' → rLw u M' F' → rSt M' F' → (∀ k, k < 24576 → M'.2.1 19 k = S.2.1 19 k) → K1 M' → K2 (F', L, PC a b P) → G)
    (bad : ∀ M' F', flt M' → fkR S M' → fkC u F F' → (∀ k, k < 24576 → M'.2.1 19 k = S.2.1 19 k) → K1 M' → T2 13 (F', L, PC a b P) → G) : G := by
  have p13 : PC a b P u 13 = u + 7 := by rcases hu with rfl | rfl <;> rfl
  have oU : OB (u + 7) = false := by rcases hu with rfl | rfl <;> rfl
  have u7 : u + 7 ≠ 60 ∧ u + 7 ≠ 61 ∧ u + 7 ≠ 62 ∧ u + 7 ≠ 104 ∧ u + 7 ≠ 76 ∧ u + 7 ≠ 75 := by rcases hu with rfl | rfl <;> decide
  have d64 : (nI (64 * l + bk) / 64 : Int32) = nI l := by
    rw [show (64 : Int32) = nI 64 from rfl, pk_div (by omega) (by decide) (by decide), show (64 * l + bk) / 64 = l by omega]
  have cl : (nI l).toNatClampNeg = l := nI_clamp (by omega)
  unfold p_readBlock at h1
  obtain ⟨-, h1⟩ := h1
  rw [nI_clamp (show j < 2 ^ 31 by omega), h51] at h1
  unfold p_Un_readBlock at h2
  obtain ⟨-, -, -, -, -, -, -, -, -, -, -, h2⟩ := h2
  rw [d64, cl] at h2
  have h2 : p_Re_readSymbol UL 60 (PC a b P 80 (F 75 l).toNatClampNeg) (F, L, PC a b P) _ T2 := h2
  rw [f75, nI_clamp (show cs' < 2 ^ 31 by omega), co_p hcs] at h2
  refine x_symb (co_is hcs) hcs hr hb hcd h1 h2 (fun v M1 F1 a1 a2 a3 a4 a5 h1 h2 => ?_) (fun v M1 F1 d1 d2 d3 h1 h2 => ?_)
  · obtain ⟨w, rfl, hw⟩ := b16 a1.1
    have w11 : w ≤ 11 := by
      have q : (nI w).toInt ≤ 11 := a1.2
      rw [nI_toInt (by omega)] at q
      omega
    obtain ⟨-, h1⟩ := h1.2 a4.1
    obtain ⟨-, -, -, -, -, h2⟩ := h2
    refine x_num (by omega) a4 a5 h1 h2 (fun z M2 F2 _ c1 c2 c3 c4 h1 h2 => ?_) (fun z M2 F2 c1 c2 c3 h1 h2 => ?_)
    · obtain ⟨-, -, -, -, h2⟩ := h2
      dsimp only at h1 h2
      have am : fbR S M2 := ag_tr a2 c1 rfl rfl
      have gm : fbC F F2 := agc_tr a3 c2 rfl rfl
      rw [cl, a2.2 53 rfl] at h1
      have f104 : F1 104 l = S.2.1 53 l := by rw [a3.2 104 rfl rfl]; exact (hst l hl).1
      have g104 : F2 104 = F1 104 := c2.2 104 rfl rfl
      unfold b_readBlock_42 at h1
      have h1 := h1.2 c3.1
      have h2 : p_B_isWithin ((va_up F2 104 (upd (F2 104) l (F1 104 l + z))) 104 l) (-2047) 2047 _ := h2
      rw [vu_at, upd_at, f104] at h2
      have n1 : (-2047 : Int32).toInt = -2047 := by decide
      have n2 : (2047 : Int32).toInt = 2047 := by decide
      rcases q_isWithin h2 with ⟨i1, i2, h2⟩ | ⟨d, h2⟩
      · -- within
        rw [n1] at i1
        rw [n2] at i2
        have h1 := (h1.2 (fun q => by have := i_lt q; rw [n1] at this; omega)).1 (Int32.le_iff_toInt_le.mpr (by rw [n2]; exact i2))
        have h2 := h2.1 (by decide)
        generalize hx : (S.2.1 53 l + z : Int32) = x at h1 h2 i1 i2
        unfold b_readBlock_77 p_levelCell at h1
        obtain ⟨-, -, h1⟩ := h1
        rw [show (0 : Int32) = nI 0 from rfl, lc2 hl hbk (by decide), nI_clamp (show 24576 + (64 * (64 * l + bk) + 0) < 2 ^ 31 by omega), cl] at h1
        unfold b_Un_readBlock_85 at h2
        obtain ⟨-, -, -, -, -, -, -, -, -, -, -, -, -, -, -, -, -, h2⟩ := h2
        dsimp only at h2
        rw [hpu, p13, cl] at h2
        have e64 : (64 * nI (64 * l + bk) : Int32) = nI (64 * (64 * l + bk)) := pk_mul 64 _
        rw [e64, nI_clamp (show 64 * (64 * l + bk) < 2 ^ 31 by omega)] at h2
        -- the class's state now
        have h2 : e_Un_readBlock_122 UL 59 (nI (64 * (64 * l + bk))) (PC a b P 80 ((va_up (va_up F2 104 (upd (F2 104) l (F1 104 l + z))) (u + 7) (upd (va_up F2 104 (upd (F2 104) l (F1 104 l + z)) (u + 7)) (64 * (64 * l + bk)) (va_up F2 104 (upd (F2 104) l (F1 104 l + z)) 104 l))) 76 l).toNatClampNeg) (-1) 1 (va_up (va_up F2 104 (upd (F2 104) l (F1 104 l + z))) (u + 7) (upd (va_up F2 104 (upd (F2 104) l (F1 104 l + z)) (u + 7)) (64 * (64 * l + bk)) (va_up F2 104 (upd (F2 104) l (F1 104 l + z)) 104 l)), L, PC a b P) K2 T2 := h2
        rw [f104, hx, vu_at, upd_at] at h2
        generalize hY : va_up (va_up F2 104 (upd (F2 104) l x)) (u + 7) (upd (va_up F2 104 (upd (F2 104) l x) (u + 7)) (64 * (64 * l + bk)) x) = Y at h2
        have yk : ∀ w, w ≠ 104 → w ≠ u + 7 → Y w = F2 w := fun w q1 q2 => by rw [← hY, vu_ne q2, vu_ne q1]
        have y7 : Y (u + 7) = upd (F2 (u + 7)) (64 * (64 * l + bk)) x := by rw [← hY, vu_at, vu_ne u7.2.2.2.1]
        have y104 : Y 104 = upd (F2 104) l x := by rw [← hY, vu_ne (Ne.symm u7.2.2.2.1), vu_at]
        have y76 : Y 76 l = nI cr := by rw [yk 76 (by decide) (Ne.symm u7.2.2.2.2.1), gm.2 76 rfl rfl]; exact f76
        rw [y76, nI_clamp (show cr < 2 ^ 31 by omega), co_p hcr] at h2
        generalize hM : ((M2.1, va_up (va_up M2.2.1 53 (upd (M2.2.1 53) l x)) 19 (upd ((va_up M2.2.1 53 (upd (M2.2.1 53) l x)) 19) (24576 + (64 * (64 * l + bk) + 0)) x), M2.2.2) : ms) = M at h1
        have m1 : M.1 = M2.1 := by rw [← hM]
        have mk : ∀ r, r ≠ 19 → r ≠ 53 → M.2.1 r = M2.2.1 r := fun r q1 q2 => by rw [← hM]; dsimp only; rw [vu_ne q1, vu_ne q2]
        have m53 : M.2.1 53 = upd (M2.2.1 53) l x := by rw [← hM]; dsimp only; rw [vu_ne (show (53 : Nat) ≠ 19 by decide), vu_at]
        have m19 : M.2.1 19 = upd (M2.2.1 19) (24576 + 64 * (64 * l + bk)) x := by rw [← hM]; dsimp only; rw [vu_at, vu_ne (show (19 : Nat) ≠ 53 by decide), Nat.add_zero]
        have aM : fkR S M := by
          rw [← hM]
          exact ag_r (T := (M2.1, va_up M2.2.1 53 (upd (M2.2.1 53) l x), M2.2.2)) (ag_r (T := M2) (ag_tr (ag_refl (fs := [10, 34, 35, 54, 55, 56, 57]) (rs := [19, 53])) am rfl rfl) rfl) rfl
        have gY : fkC u F Y := by
          refine ⟨fun w k o hw => ?_, fun w o hw => ?_⟩
          · rw [yk w (fun q => by rw [q] at o; exact absurd o (by decide)) (fun q => by rw [q, oU] at o; exact absurd o (by decide))]
            exact gm.1 w k o hw
          · simp only [List.contains_cons, List.contains_nil, Bool.or_false, Bool.or_eq_false_iff, beq_eq_false_iff_ne] at hw
            rw [yk w hw.2 hw.1]
            exact gm.2 w o rfl
        have k19 : ∀ k, k < 24576 → M.2.1 19 k = S.2.1 19 k := fun k hk => by
          rw [m19, upd_ne (by omega), am.2 19 rfl]
        have co_u : ∀ k, k ≤ 4 → Y (co cr + k) = F2 (co cr + k) := fun k hk => by
          have q : cr = 0 ∨ cr = 1 ∨ cr = 2 ∨ cr = 3 := by omega
          refine yk _ ?_ ?_
          · show 81 + 5 * cr + k ≠ 104
            omega
          · show 81 + 5 * cr + k ≠ u + 7
            rcases hu with rfl | rfl <;> omega
        have cdM : cdR isRs cr (co cr) M Y := by
          have q := cdR_k (co_is hcr) hcd2 am gm
          unfold cdR at q ⊢
          rw [mk 40 (by decide) (by decide), mk 41 (by decide) (by decide), co_u 1 (by decide), co_u 2 (by decide), co_u 3 (by decide), co_u 4 (by decide)]
          exact q
        refine x_rests hu hpu hl hbk hj hcr (rd_b c3 (by rw [m1]) (by rw [m1]) (by rw [m1]) (mk 6 (by decide) (by decide)) (by rw [yk 60 (by decide) (Ne.symm u7.1)]) (by rw [yk 61 (by decide) (Ne.symm u7.2.1)]) (yk 62 (by decide) (Ne.symm u7.2.2.1))) ⟨by rw [yk 60 (by decide) (Ne.symm u7.1), m1]; exact c4.1, fun q => by rw [yk 60 (by decide) (Ne.symm u7.1), m1]; exact c4.2 (by rw [m1] at q; exact q)⟩ (by rw [mk 52 (by decide) (by decide), am.2 52 rfl]; exact h52) cdM (fun k hk => ?_) h1 h2 (fun M' F' e1 e2 e3 e4 e5 e6 e7 h1 h2 => ?_) (fun M' F' e1 e2 e3 e4 h1 h2 => ?_)
        · rw [y7, m19]
          by_cases q : k = 64 * (64 * l + bk)
          · rw [q, upd_at, upd_at]
            exact ⟨rfl, by omega, by omega⟩
          · rw [upd_ne q, upd_ne (by omega), gm.2 (u + 7) oU rfl, am.2 19 rfl]
            exact hL k hk
        · refine ok M' F' (ag_tr aM e1 rfl rfl) (fkC_tr gY (fk_w e2)) e3 e4 e5 (fun i hi => ?_) (fun k hk => (e6 k hk).trans (k19 k hk)) h1 h2
          rw [e7, m53, e2.2 104 rfl (by simp only [List.contains_cons, List.contains_nil, Bool.or_false, beq_eq_false_iff_ne]; exact Ne.symm u7.2.2.2.1), y104]
          by_cases q : i = l
          · rw [q, upd_at, upd_at]
            exact ⟨rfl, i1, i2⟩
          · rw [upd_ne q, upd_ne q, gm.2 104 rfl rfl, am.2 53 rfl]
            exact hst i hi
        · exact bad M' F' e1 (ag_tr aM e2 rfl rfl) (fkC_tr gY (fk_w e3)) (fun k hk => (e4 k hk).trans (k19 k hk)) h1 h2
      · -- beyond: both fail
        have h67 : b_readBlock_67 (nI j) (nI l) (nI bk) (M1.1 57) (S.2.1 53 l + z) (M2.1, M2.2.1, M2.2.2) K1 := by
          by_cases q : (S.2.1 53 l + z : Int32) < -2047
          · exact h1.1 q
          · refine (h1.2 q).2 (fun q2 => ?_)
            have := i_le q2
            have := i_le (nlt_le q)
            rw [n1] at *
            rw [n2] at *
            omega
        unfold b_readBlock_67 at h67
        have h67 := q_fail0 (S := (M2.1, M2.2.1, M2.2.2)) c3.1 h67
        obtain ⟨M3, f1, f2, f3, h67⟩ := q_blkF hl hbk hj (fail_n (by decide)) h67
        obtain ⟨-, -, -, h2⟩ := h2.2 rfl
        obtain ⟨F3, t0, -, h2⟩ := q_Rfail h2
        have t1 : fuC (va_up F2 104 (upd (F2 104) l (F1 104 l + z))) F3 := t0
        have g3 : fkC u F F3 := by
          refine ⟨fun w k o hw => ?_, fun w o hw => ?_⟩
          · rw [t1.1 w k o (by
              simp only [List.contains_cons, List.contains_nil, Bool.or_false, Bool.or_eq_false_iff, beq_eq_false_iff_ne] at hw ⊢
              exact ⟨hw.1, hw.2.2.2.2.2.1, hw.2.2.2.2.2.2⟩), vu_ne (fun q => by rw [q] at o; exact absurd o (by decide))]
            exact gm.1 w k o hw
          · simp only [List.contains_cons, List.contains_nil, Bool.or_false, Bool.or_eq_false_iff, beq_eq_false_iff_ne] at hw
            rw [t1.2 w o rfl, vu_ne hw.2]
            exact gm.2 w o rfl
        refine bad M3 F3 f1 (ag_tr (ag_tr (ag_tr (ag_refl (fs := [10, 34, 35, 54, 55, 56, 57]) (rs := [19, 53])) am rfl rfl) (ag_fail (S := (M2.1, M2.2.1, M2.2.2))) rfl rfl) f2 rfl rfl) g3 (fun k hk => ?_) h67 h2
        rw [f3 k hk]
        show M2.2.1 19 k = _
        rw [am.2 19 rfl]
    · -- a fault within the number
      unfold b_readBlock_42 at h1
      have h1 := h1.1 (flt_n c1)
      obtain ⟨M3, f1, f2, f3, h1⟩ := q_blkF (M := (M2.1, M2.2.1, M2.2.2)) hl hbk hj c1 h1
      refine bad M3 F2 f1 (ag_tr (ag_tr (ag_tr (ag_refl (fs := [10, 34, 35, 54, 55, 56, 57]) (rs := [19, 53])) a2 rfl rfl) c2 rfl rfl) f2 rfl rfl) (fkC_tr (fb_k a3) (fb_k c3)) (fun k hk => ?_) h1 h2
      rw [f3 k hk]
      show M2.2.1 19 k = _
      rw [c2.2 19 rfl, a2.2 19 rfl]
  · have h1 := h1.1 (flt_n d1)
    unfold b_readBlock_42 at h1
    have h1 := h1.1 (flt_n d1)
    obtain ⟨M3, f1, f2, f3, h1⟩ := q_blkF (M := (M1.1, M1.2.1, M1.2.2)) hl hbk hj d1 h1
    refine bad M3 F1 f1 (ag_tr (ag_tr (ag_refl (fs := [10, 34, 35, 54, 55, 56, 57]) (rs := [19, 53])) d2 rfl rfl) f2 rfl rfl) (fb_k d3) (fun k hk => ?_) h1 h2
    rw [f3 k hk]
    show M1.2.1 19 k = _
    rw [d2.2 19 rfl]
end RB2

/-! UNPACK: a unit is read -/
/-- what a scan's reading keeps: m layers; their codes, grids and factors -/
def urI (m : Nat) (ly cs' cr A D gw : Nat → Nat) (M : ms) (F : cF) : Prop :=
  M.1 49 = nI m ∧ (1 ≤ m ∧ m ≤ 3) ∧ ∀ i, i < m → ly i < 3 ∧ cs' i ≤ 3 ∧ cr i ≤ 3 ∧ M.2.1 50 i = nI (ly i) ∧ M.2.1 51 i = nI (cs' i) ∧ M.2.1 52 i = nI (cr i) ∧ F 75 (ly i) = nI (cs' i) ∧ F 76 (ly i) = nI (cr i) ∧ cdR isSt (cs' i) (co (cs' i)) M F ∧ cdR isRs (cr i) (co (cr i)) M F ∧ M.2.1 17 (6 + ly i) = nI (gw (ly i)) ∧ gw (ly i) ≤ 8 ∧ (A (ly i) = 1 ∨ A (ly i) = 2) ∧ (D (ly i) = 1 ∨ D (ly i) = 2) ∧ (m = 1 → A (ly i) = 1 ∧ D (ly i) = 1) ∧ (¬ m = 1 → M.2.1 15 (6 + ly i) = nI (A (ly i)) ∧ M.2.1 16 (6 + ly i) = nI (D (ly i)))
/-- and what it moves on -/
def rdI (u : Nat) (M : ms) (F : cF) : Prop := rd M F ∧ rb M F ∧ rLw u M F ∧ rSt M F
section RU
variable {S : ms} {F : cF} {L : cL} {a b : Bool} {P : Nat → Nat → Nat} {K1 : ms → Prop} {K2 : cs → Prop} {T2 : Nat → cs → Prop} {G : Prop} {u m N pu : Nat} {ly cs' cr A D gw ov : Nat → Nat}
theorem cdR_k2 {Q : Int32 → Prop} {c : Nat} {T : ms} {Y : cF} (hc : c ≤ 3) (hu : u = 63 ∨ u = 105) (h : cdR Q c (co c) S F) (ha : fkR S T) (hg : fkC u F Y) : cdR Q c (co c) T Y := by
  have f : ∀ k, 1 ≤ k → k ≤ 4 → Y (co c + k) = F (co c + k) := fun k k1 k4 => by
    have q : c = 0 ∨ c = 1 ∨ c = 2 ∨ c = 3 := by omega
    have q2 : k = 1 ∨ k = 2 ∨ k = 3 ∨ k = 4 := by omega
    rcases hu with rfl | rfl <;> rcases q with rfl | rfl | rfl | rfl <;> rcases q2 with rfl | rfl | rfl | rfl <;> exact hg.2 _ rfl rfl
  unfold cdR
  rw [ha.2 40 rfl, ha.2 41 rfl, f 1 (by decide) (by decide), f 2 (by decide) (by decide), f 3 (by decide) (by decide), f 4 (by decide) (by decide)]
  exact h
theorem urI_k {T : ms} {Y : cF} (hu : u = 63 ∨ u = 105) (h : urI m ly cs' cr A D gw S F) (ha : fkR S T) (hg : fkC u F Y) : urI m ly cs' cr A D gw T Y := by
  obtain ⟨h1, h2, h3⟩ := h
  have f75 : Y 75 = F 75 := by rcases hu with rfl | rfl <;> exact hg.2 75 rfl rfl
  have f76 : Y 76 = F 76 := by rcases hu with rfl | rfl <;> exact hg.2 76 rfl rfl
  refine ⟨(ha.1 49 rfl).trans h1, h2, fun i hi => ?_⟩
  obtain ⟨a1, a2, a3, a4, a5, a6, a7, a8, a9, a10, a11, a12, a13, a14, a15, a16⟩ := h3 i hi
  rw [ha.2 50 rfl, ha.2 51 rfl, ha.2 52 rfl, f75, f76, ha.2 17 rfl, ha.2 15 rfl, ha.2 16 rfl]
  exact ⟨a1, a2, a3, a4, a5, a6, a7, a8, cdR_k2 a2 hu a9 ha hg, cdR_k2 a3 hu a10 ha hg, a11, a12, a13, a14, a15, a16⟩
/-- the class's order of a scan -/
def scU (F : cF) (N pu : Nat) (ov : Nat → Nat) : Prop := F 73 4 = nI N ∧ F 73 5 = nI pu ∧ ∀ t, t < N * pu → F 77 t = nI (ov t) ∧ ov t < 192
theorem scU_k {Y : cF} (hu : u = 63 ∨ u = 105) (h : scU F N pu ov) (hg : fkC u F Y) : scU Y N pu ov := by
  obtain ⟨h1, h2, h3⟩ := h
  have f77 : Y 77 = F 77 := by rcases hu with rfl | rfl <;> exact hg.2 77 rfl rfl
  exact ⟨(hg.1 73 4 rfl rfl).trans h1, (hg.1 73 5 rfl rfl).trans h2, by rw [f77]; exact h3⟩
/-- behind a fault the unit is over -/
theorem q_unitF {x3 x4 : Int32} {M : ms} {i : Nat} (hf : flt M) (h : e_readUnit_12 x3 x4 (nI i) M K1) : K1 M := by
  have h := r_e_readUnit_12 h
  unfold b_readUnit_12 b_readUnit_166 at h
  exact dt_p h (fun _ h => h) (fun _ h => h.1 (flt_n hf))
theorem x_unit88 {n i ofs ux uy : Nat} {x1 : Int32} {R12 : Int32 → Int32 → Int32 → ms → Prop} {R19 : Int32 → Int32 → cs → Prop} (hu : u = 63 ∨ u = 105) (hpu : PC a b P 59 1 = u) (hI : urI m ly cs' cr A D gw S F) (hsc : scU F N pu ov) (hd : rdI u S F) (hn : n < N) (hi : i < m) (hN : N ≤ 64) (hp12 : pu ≤ 12) (hoff : ofs + A (ly i) * D (ly i) ≤ pu) (hux : ux ≤ 64) (huy : uy ≤ 64)
    (hov : ∀ k, k < A (ly i) * D (ly i) → ov (n * pu + (ofs + k)) = 64 * ly i + ((uy * D (ly i) + k / A (ly i)) * gw (ly i) + (ux * A (ly i) + k % A (ly i))) ∧ (uy * D (ly i) + k / A (ly i)) * gw (ly i) + (ux * A (ly i) + k % A (ly i)) < 64)
    (h1 : e_readUnit_88 (nI ux) (nI uy) (nI i) (nI (ly i)) (nI (A (ly i))) (nI (D (ly i))) 0 S R12 K1) (h2 : e_Un_readData_67 UL 59 x1 (nI n) (nI ofs) (F, L, PC a b P) R19 K2 T2)
    (ok : ∀ M' F', fkR S M' → fkC u F F' → rdI u M' F' → (∀ k, k < 24576 → M'.2.1 19 k = S.2.1 19 k) → R12 (nI ux) (nI uy) (nI i + 1) M' → e_Un_readData_67 UL 59 x1 (nI n) (nI (ofs + A (ly i) * D (ly i))) (F', L, PC a b P) R19 K2 T2 → G)
    (bad : ∀ M' F', flt M' → fkR S M' → fkC u F F' → (∀ k, k < 24576 → M'.2.1 19 k = S.2.1 19 k) → R12 (nI ux) (nI uy) (nI i + 1) M' → T2 13 (F', L, PC a b P) → G) : G := by
  obtain ⟨i1, i2, i3⟩ := hI
  have gi := i3 i hi
  have bA := gi.2.2.2.2.2.2.2.2.2.2.2.2.1
  have bD := gi.2.2.2.2.2.2.2.2.2.2.2.2.2.1
  have bb : 1 ≤ A (ly i) * D (ly i) ∧ A (ly i) * D (ly i) ≤ 4 := by rcases bA with e | e <;> rcases bD with d | d <;> rw [e, d] <;> decide
  refine v_e_readUnit_88 h1 (fun y9 T => ∃ Y, fkR S T ∧ fkC u F Y ∧ (∀ k, k < 24576 → T.2.1 19 k = S.2.1 19 k) ∧ ((rdI u T Y ∧ ∃ k : Nat, y9 = nI k ∧ k ≤ A (ly i) * D (ly i) ∧ e_Un_readData_67 UL 59 x1 (nI n) (nI (ofs + k)) (Y, L, PC a b P) R19 K2 T2) ∨ (flt T ∧ T2 13 (Y, L, PC a b P)))) ⟨F, ag_refl, ⟨fun _ _ _ _ => rfl, fun _ _ _ => rfl⟩, fun _ _ => rfl, Or.inl ⟨hd, 0, rfl, Nat.zero_le _, h2⟩⟩ ?_
  rintro y9 T R ⟨Y, ha, hg, h19, hc⟩ hb
  unfold b_readUnit_88 b_readUnit_160 at hb
  rw [pk_mul] at hb
  rcases hc with ⟨hdT, k, rfl, hk, g⟩ | ⟨hf, ht⟩
  · by_cases e : k = A (ly i) * D (ly i)
    · right
      subst e
      exact ok T Y ha hg hdT h19 (hb.1 (Int32.le_refl _)) g
    · obtain ⟨-, -, -, hb⟩ := (hb.2 (nI_ge (by omega) (by omega))).2 hdT.1.1
      have hIT := urI_k hu ⟨i1, i2, i3⟩ ha hg
      have gT := hIT.2.2 i hi
      have sT := scU_k hu hsc hg
      have a2 : A (ly i) ≤ 2 := by omega
      have d2 : D (ly i) ≤ 2 := by omega
      have uyb : uy * D (ly i) ≤ 128 := Nat.le_trans (Nat.mul_le_mul huy d2) (by decide)
      have uxb : ux * A (ly i) ≤ 128 := Nat.le_trans (Nat.mul_le_mul hux a2) (by decide)
      have hv := hov k (by omega)
      have l3 := gT.1
      rw [show (6 + nI (ly i) : Int32) = nI (6 + ly i) from nI_add 6 _, nI_clamp (show 6 + ly i < 2 ^ 31 by omega), gT.2.2.2.2.2.2.2.2.2.2.1, pk_rem (by omega) (by omega) (by omega), pk_div (by omega) (by omega) (by omega), pk_mul, nI_add, pk_mul, pk_mul, nI_add, nI_add] at hb
      have npu : n * pu + pu ≤ N * pu := by
        rw [← Nat.succ_mul]
        exact Nat.mul_le_mul_right pu (by omega)
      have nb : n * pu ≤ 64 * 12 := Nat.mul_le_mul (by omega) hp12
      have hT := sT.2.2 (n * pu + (ofs + k)) (by omega)
      have g := r_e_Un_readData_67 g
      unfold b_Un_readData_67 at g
      obtain ⟨-, -, g⟩ := g
      obtain ⟨-, -, -, -, -, g⟩ := g.2 (by show ¬ Y 73 5 ≤ nI (ofs + k); rw [sT.2.1]; exact nI_ge (by omega) (by omega))
      have g : p_Un_readBlock UL 59 (Y 77 ((Y 73 5 * nI n) + nI (ofs + k) : Int32).toNatClampNeg) (Y, L, PC a b P) (fun S98 => e_Un_readData_67 UL 59 x1 (nI n) (nI (ofs + k) + 1) S98 R19 K2 T2) T2 := g
      rw [sT.2.1, pk_mul, nI_add, Nat.mul_comm pu n, nI_clamp (by omega), hT.1, hv.1] at g
      left
      refine x_rblock hu hpu gT.1 hv.2 (show i < 3 by omega) gT.2.1 gT.2.2.1 hdT.1 hdT.2.1 gT.2.2.2.2.1 gT.2.2.2.2.2.1 gT.2.2.2.2.2.2.1 gT.2.2.2.2.2.2.2.1 gT.2.2.2.2.2.2.2.2.1 gT.2.2.2.2.2.2.2.2.2.1 hdT.2.2.1 hdT.2.2.2 hb g (fun M1 F1 c1 c2 c3 c4 c5 c6 c7 hb g => ?_) (fun M1 F1 c1 c2 c3 c4 hb g => ?_)
      · rw [nI_1] at g
        exact ⟨_, _, hb, F1, ag_tr ha c1 rfl rfl, fkC_tr hg c2, fun k hk => (c7 k hk).trans (h19 k hk), Or.inl ⟨⟨c3, c4, c5, c6⟩, k + 1, nI_1 k, by omega, g⟩⟩
      · exact ⟨_, _, hb, F1, ag_tr ha c2 rfl rfl, fkC_tr hg c3, fun k hk => (c4 k hk).trans (h19 k hk), Or.inr ⟨c1, g⟩⟩
  · right
    refine dt_p hb (fun _ hb => ?_) (fun _ hb => ?_)
    · exact bad T Y hf ha hg h19 hb ht
    · exact bad T Y hf ha hg h19 (hb.1 (flt_n hf)) ht
end RU

/-! UNPACK: helpers: lengths, bytes within bounds -/
def rl (M : ms) (F : cF) : Prop := F 59 12 = M.1 37 ∧ F 59 12 + F 59 13 = M.1 36
def tBy (M : ms) : Prop := ∀ k, B 0 255 (M.2.1 6 k)
def od (M : ms) : Prop := ∀ k, k < 64 → M.2.1 22 k = nI (sl k)
def atI (M : ms) : Prop := 0 ≤ (M.1 34).toInt ∧ (M.1 7).toInt ≤ 32768 ∧ (M.1 34).toInt ≤ 32768
theorem sl_inj {j k : Nat} (hj : j < 64) (hk : k < 64) (h : sl j = sl k) : j = k := by
  have : ∀ x y : Fin 64, sl x.val = sl y.val → x.val = y.val := by decide +kernel
  exact this ⟨j, hj⟩ ⟨k, hk⟩ h
section RH
variable {S : ms} {F : cF} {L : cL} {a b : Bool} {P : Nat → Nat → Nat} {K0 : ms → Prop} {K1 : Int32 → ms → Prop} {K2 : Int32 → cs → Prop} {KW : cs → Prop} {T2 : Nat → cs → Prop} {G : Prop}
theorem q_must1 {x1 x2 : Int32} (hx : ¬ x1 = 0) (h : p_must x1 x2 S K0) : K0 S := by
  unfold p_must b_must_18 at h
  exact dt_n h (fun _ h => h) (fun _ h => h.1 hx)
theorem q_must0 {x2 : Int32} (h0 : S.1 35 = 0) (h : p_must 0 x2 S K0) : ∃ Z, flt Z ∧ K0 Z := by
  unfold p_must b_must_18 at h
  have h := (h.2 h0).2 rfl
  have h := q_fail0 h0 h
  exact ⟨_, fail_n (by decide), h⟩
theorem q_fail1 {x1 x2 : Int32} (hx : 0 < x1.toInt) (h0 : S.1 35 = 0) (h : p_fail x1 x2 S K1) : ∃ Z, flt Z ∧ K1 0 Z :=
  ⟨_, fail_n hx, q_fail0 h0 h⟩
theorem q_wantMore (h : p_Un_wantMore UL 59 (F, L, PC a b P) KW T2) : (F 60 1 < F 59 12 + F 59 13 ∧ KW (F, L, PC a b P)) ∨ (¬ F 60 1 < F 59 12 + F 59 13 ∧ ∃ F', T2 13 (F', L, PC a b P)) := by
  unfold p_Un_wantMore b_Un_wantMore_31 at h
  obtain ⟨-, -, h⟩ := h
  have h : (F 60 1 < F 59 12 + F 59 13 → KW (F, L, PC a b P)) ∧ (¬ F 60 1 < F 59 12 + F 59 13 → ¬ PC a b P 59 0 = NU ∧ p_Re_fail UL 60 4 (F 59 12) (F, L, PC a b P) (fun S28 => KW S28) T2) := h
  by_cases c : F 60 1 < F 59 12 + F 59 13
  · exact Or.inl ⟨c, h.1 c⟩
  · obtain ⟨F', -, -, q⟩ := q_Rfail (h.2 c).2
    exact Or.inr ⟨c, F', q⟩
theorem q_wantLen0 (h : p_Un_wantLength UL 59 0 (F, L, PC a b P) KW T2) : ∃ F', T2 13 (F', L, PC a b P) := by
  unfold p_Un_wantLength b_Un_wantLength_16 at h
  obtain ⟨-, -, h⟩ := h.2 rfl
  have h : p_Re_fail UL 60 4 (F 59 12) (F, L, PC a b P) (fun S13 => KW S13) T2 := h
  obtain ⟨F', -, -, q⟩ := q_Rfail h
  exact ⟨F', q⟩
theorem q_wantLen1 {x1 : Int32} (hx : ¬ x1 = 0) (h : p_Un_wantLength UL 59 x1 (F, L, PC a b P) KW T2) : KW (F, L, PC a b P) := by
  unfold p_Un_wantLength b_Un_wantLength_16 at h
  exact h.1 hx
/-- a byte that must be from lo to hi (the class looks at once, the reference later) -/
theorem x_readW {lo hi : Int32} (hr : rd S F) (h1 : p_next S K1) (h2 : p_Un_readWithin UL 59 lo hi (F, L, PC a b P) K2 T2)
    (ok : ∀ v M' F', fuR S M' → M'.1 34 = S.1 34 + 1 → M'.1 35 = 0 → S.1 34 < S.1 7 → fuC F F' → rd M' F' → v = S.2.1 6 (S.1 34).toNatClampNeg → lo.toInt ≤ v.toInt → v.toInt ≤ hi.toInt → K1 v M' → K2 v (F', L, PC a b P) → G)
    (out : ∀ v M' F', fuR S M' → M'.1 35 = 0 → v = S.2.1 6 (S.1 34).toNatClampNeg → (v.toInt < lo.toInt ∨ hi.toInt < v.toInt) → K1 v M' → T2 13 (F', L, PC a b P) → G)
    (bad : ∀ v M' F', flt M' → K1 v M' → T2 13 (F', L, PC a b P) → G) : G := by
  unfold p_Un_readWithin b_Un_readWithin_34 at h2
  obtain ⟨-, -, h2⟩ := h2
  have h2 : p_Re_read UL 60 (F, L, PC a b P) _ T2 := h2
  refine x_read hr h1 h2 (fun v M1 F1 a1 a2 a3 a4 a5 a6 a7 h1 h2 => ?_) (fun v M1 F1 b1 b2 b3 h1 h2 => bad v M1 F1 b1 h1 h2)
  rcases q_isWithin h2 with ⟨i1, i2, h2⟩ | ⟨d, h2⟩
  · exact ok v M1 F1 a1 a2 a3 a4 a5 a6 a7 i1 i2 h1 (h2.1 (by decide))
  · obtain ⟨-, -, -, h2⟩ := h2.2 rfl
    have h2 : p_Re_fail UL 60 _ _ (F1, L, PC a b P) _ T2 := h2
    obtain ⟨F2, -, -, h2⟩ := q_Rfail h2
    exact out v M1 F2 a1 a3 a7 d h1 h2
theorem x_within (hr : rd S F) (hl : rl S F) (h1 : p_nextWithin S K1) (h2 : p_Un_wantMore UL 59 (F, L, PC a b P) KW T2)
    (ok : S.1 34 < S.1 36 → p_next S (fun v M => K1 v (M.1, M.2.1, M.2.2)) → KW (F, L, PC a b P) → G)
    (bad : ∀ v M' F', flt M' → K1 v M' → T2 13 (F', L, PC a b P) → G) : G := by
  unfold p_nextWithin at h1
  have e : F 60 1 < F 59 12 + F 59 13 ↔ S.1 34 < S.1 36 := by rw [hr.2.1, hl.2]
  rcases q_wantMore h2 with ⟨c, h2⟩ | ⟨c, F', h2⟩
  · exact ok (e.mp c) (h1.1 (e.mp c)) h2
  · have h1 := q_fail0 hr.1 (h1.2 (fun q => c (e.mpr q)))
    exact bad _ _ F' (fail_n (by decide)) h1 h2
theorem rl_k {M : ms} {F' : cF} (h : rl S F) (e36 : M.1 36 = S.1 36) (e37 : M.1 37 = S.1 37) (f12 : F' 59 12 = F 59 12) (f13 : F' 59 13 = F 59 13) : rl M F' := by
  unfold rl
  rw [e36, e37, f12, f13]
  exact h
theorem atI_s {M : ms} (h : atI S) (e7 : M.1 7 = S.1 7) (c : S.1 34 < S.1 7) (e34 : M.1 34 = S.1 34 + 1) : atI M ∧ (M.1 34).toInt = (S.1 34).toInt + 1 ∧ (M.1 34).toInt ≤ 32768 := by
  have p := pos1 h.1 c h.2.1
  have p2 := p.2
  rw [p.1] at p2
  unfold atI
  rw [e34, e7, p.1]
  exact ⟨⟨by have := h.1; omega, h.2.1, p2⟩, rfl, p2⟩
/-- what reading carries on -/
def rq (M : ms) (F : cF) : Prop := rd M F ∧ rl M F ∧ od M ∧ tBy M ∧ atI M
theorem rq_s {M : ms} {F' : cF} (h : rq S F) (a1 : fuR S M) (a2 : M.1 34 = S.1 34 + 1) (a4 : S.1 34 < S.1 7) (a5 : fuC F F') (a6 : rd M F') : rq M F' ∧ (M.1 34).toInt = (S.1 34).toInt + 1 ∧ (M.1 34).toInt ≤ 32768 := by
  obtain ⟨h1, h2, h3, h4, h5⟩ := h
  have st := atI_s h5 (a1.1 7 rfl) a4 a2
  exact ⟨⟨a6, rl_k h2 (a1.1 36 rfl) (a1.1 37 rfl) (a5.1 59 12 rfl rfl) (a5.1 59 13 rfl rfl), by unfold od; rw [a1.2 22 rfl]; exact h3, by unfold tBy; rw [a1.2 6 rfl]; exact h4, st.1⟩, st.2⟩
theorem rq_r {M : ms} {r w : Nat} {g x : Nat → Int32} (h : rq M F) (r6 : 6 ≠ r) (r22 : 22 ≠ r) (w59 : 59 ≠ w) (w60 : 60 ≠ w) (w61 : 61 ≠ w) (w62 : 62 ≠ w) : rq (M.1, va_up M.2.1 r g, M.2.2) (va_up F w x) := by
  obtain ⟨h1, h2, h3, h4, h5⟩ := h
  refine ⟨rd_b h1 rfl rfl rfl (show va_up M.2.1 r g 6 = M.2.1 6 from vu_ne r6) (by rw [vu_ne w60]) (by rw [vu_ne w61]) (vu_ne w62), rl_k h2 rfl rfl (by rw [vu_ne w59]) (by rw [vu_ne w59]), fun k hk => ?_, fun k => ?_, h5⟩
  · show va_up M.2.1 r g 22 k = _
    rw [vu_ne r22]
    exact h3 k hk
  · show B 0 255 (va_up M.2.1 r g 6 k)
    rw [vu_ne r6]
    exact h4 k
/-- the same where one side alone is written -/
theorem rq_m {M : ms} {r : Nat} {g : Nat → Int32} (h : rq M F) (r6 : 6 ≠ r) (r22 : 22 ≠ r) : rq (M.1, va_up M.2.1 r g, M.2.2) F := by
  obtain ⟨h1, h2, h3, h4, h5⟩ := h
  refine ⟨rd_b h1 rfl rfl rfl (show va_up M.2.1 r g 6 = M.2.1 6 from vu_ne r6) rfl rfl rfl, rl_k h2 rfl rfl rfl rfl, fun k hk => ?_, fun k => ?_, h5⟩
  · show va_up M.2.1 r g 22 k = _
    rw [vu_ne r22]
    exact h3 k hk
  · show B 0 255 (va_up M.2.1 r g 6 k)
    rw [vu_ne r6]
    exact h4 k
theorem rq_c {M : ms} {w : Nat} {x : Nat → Int32} (h : rq M F) (w59 : 59 ≠ w) (w60 : 60 ≠ w) (w61 : 61 ≠ w) (w62 : 62 ≠ w) : rq M (va_up F w x) := by
  obtain ⟨h1, h2, h3, h4, h5⟩ := h
  exact ⟨rd_b h1 rfl rfl rfl rfl (by rw [vu_ne w60]) (by rw [vu_ne w61]) (vu_ne w62), rl_k h2 rfl rfl (by rw [vu_ne w59]) (by rw [vu_ne w59]), h3, h4, h5⟩
end RH
section TAB
variable {L : cL} {a b : Bool} {P : Nat → Nat → Nat} {K0 : ms → Prop} {R2 : Int32 → ms → Prop} {KC : cs → Prop} {T2 : Nat → cs → Prop} {G : Prop} {t : Nat}
/-- the entries of a table -/
theorem x_tab40 (ht : t < 4)
    (bR : ∀ x M' F', R2 x M' → flt M' → T2 13 (F', L, PC a b P) → G) (bK : ∀ M' F', K0 M' → flt M' → T2 13 (F', L, PC a b P) → G) : ∀ d k (S : ms) (F : cF), 64 - k = d → k ≤ 64 → rq S F → e_readTables_40 (nI t) (nI k) S R2 K0 → e_Un_readTable_9 UL 59 (nI t) (nI k) (F, L, PC a b P) KC T2 →
    (∀ j, j < k → F 78 (64 * t + j) = S.2.1 38 (64 * t + sl j)) →
    (∀ M' F', ag [10, 34, 35] [38] S M' → agc [6001, 6006, 6007] [78] F F' → (S.1 34).toInt ≤ (M'.1 34).toInt → rq M' F' → (∀ i, (i < 64 * t ∨ 64 * t + 64 ≤ i) → M'.2.1 38 i = S.2.1 38 i ∧ F' 78 i = F 78 i) → (∀ j, j < 64 → F' 78 (64 * t + j) = M'.2.1 38 (64 * t + sl j)) → b_readTables_110 (nI t) M' R2 K0 → KC (va_up F' 79 (upd (F' 79) t 1), L, PC a b P) → G) → G := by
  intro d
  induction d with
  | zero =>
    intro k S F hd hk hq h1 h2 he ok
    have hr := hq.1
    have hl := hq.2.1
    have ho := hq.2.2.1
    obtain rfl : k = 64 := by omega
    have h1 := r_e_readTables_40 h1
    unfold b_readTables_40 at h1
    have h2 := r_e_Un_readTable_9 h2
    unfold b_Un_readTable_9 at h2
    obtain ⟨-, -, -, h2⟩ := h2.1 (Int32.le_refl _)
    have h2 : KC (va_up F 79 (upd (F 79) (nI t).toNatClampNeg 1), L, PC a b P) := h2
    rw [nI_clamp (show t < 2 ^ 31 by omega)] at h2
    exact ok S F ag_refl agc_refl (Int.le_refl _) hq (fun _ _ => ⟨rfl, rfl⟩) he (h1.1 (Int32.le_refl _)) h2
  | succ d ih =>
    intro k S F hd hk hq h1 h2 he ok
    have hr := hq.1
    have hl := hq.2.1
    have ho := hq.2.2.1
    have k64 : k < 64 := by omega
    have h1 := r_e_readTables_40 h1
    unfold b_readTables_40 at h1
    have h1 := (h1.2 (nI_ge (b := 64) k64 (by decide))).2 hr.1
    have h2 := r_e_Un_readTable_9 h2
    unfold b_Un_readTable_9 at h2
    have h2 := h2.2 (nI_ge (b := 64) k64 (by decide))
    -- where a fault stands, the reference goes to its end
    have fall : ∀ (v s : Int32) (M1 : ms) (F1 : cF), flt M1 → b_readTables_70 (nI t) (nI k) v s M1 R2 (fun zx2 zx3 zS => e_readTables_40 zx2 zx3 zS R2 K0) K0 → T2 13 (F1, L, PC a b P) → G := by
      intro v s M1 F1 hf h1 h2
      exact f_b_readTables_70 h1 hf (fun x M' hk hf => bR x M' F1 hk hf h2) (fun x y M' hk hf => f_e_readTables_40 hk hf (fun x M' hk hf => bR x M' F1 hk hf h2) (fun M' hk hf => bK M' F1 hk hf h2)) (fun M' hk hf => bK M' F1 hk hf h2)
    refine x_within hr hl h1 h2 (fun c h1 h2 => ?_) (fun v M1 F1 f1 h1 h2 => dt_p h1 (fun _ h1 => fall _ _ _ F1 f1 h1 h2) (fun _ h1 => fall _ _ _ F1 f1 h1 h2))
    obtain ⟨-, h2⟩ := h2
    have o1 : (1 : Int32).toInt = 1 := by decide
    have z0 : (0 : Int32).toInt = 0 := by decide
    refine x_readW hr h1 h2 (fun v M1 F1 a1 a2 a3 a4 a5 a6 a7 i1 i2 h1 h2 => ?_) (fun v M1 F1 a1 a3 a7 i1 h1 h2 => ?_) (fun v M1 F1 f1 h1 h2 => dt_p h1 (fun _ h1 => fall _ _ _ F1 f1 h1 h2) (fun _ h1 => fall _ _ _ F1 f1 h1 h2))
    · have h1 := h1.2 (fun q => by have := i_le q; omega)
      unfold b_readTables_70 at h1
      have h1 := q_must1 (by decide) h1
      obtain ⟨-, -, h1⟩ := h1.2 a3
      have e22 : M1.2.1 22 k = nI (sl k) := by rw [a1.2 22 rfl]; exact ho k k64
      unfold b_readTables_104 at h1
      have s64 := sl_lt k
      have h1 : e_readTables_40 (nI t) (nI k + 1) (M1.1, va_up M1.2.1 38 (upd (M1.2.1 38) ((64 * nI t) + (M1.2.1 22 (nI k).toNatClampNeg) : Int32).toNatClampNeg v), M1.2.2) R2 K0 := h1
      rw [nI_clamp (show k < 2 ^ 31 by omega), e22, show ((64 * nI t) + nI (sl k) : Int32) = nI (64 * t + sl k) from by rw [show (64 * nI t : Int32) = nI (64 * t) from pk_mul 64 t, nI_add], nI_clamp (show 64 * t + sl k < 2 ^ 31 by omega), nI_1] at h1
      obtain ⟨-, -, h2⟩ := h2
      have h2 : e_Un_readTable_9 UL 59 (nI t) (nI k + 1) (va_up F1 78 (upd (F1 78) ((64 * nI t) + nI k : Int32).toNatClampNeg v), L, PC a b P) KC T2 := h2
      rw [show ((64 * nI t) + nI k : Int32) = nI (64 * t + k) from by rw [show (64 * nI t : Int32) = nI (64 * t) from pk_mul 64 t, nI_add], nI_clamp (show 64 * t + k < 2 ^ 31 by omega), nI_1] at h2
      have st := rq_s hq a1 a2 a4 a5 a6
      refine ih (k + 1) (M1.1, va_up M1.2.1 38 (upd (M1.2.1 38) (64 * t + sl k) v), M1.2.2) (va_up F1 78 (upd (F1 78) (64 * t + k) v)) (by omega) (by omega) (rq_r st.1 (by decide) (by decide) (by decide) (by decide) (by decide) (by decide)) h1 h2 (fun j hj => ?_) (fun M' F' b1 b2 b3 b4 b6 b7 h1 h2 => ?_)
      · show va_up F1 78 (upd (F1 78) (64 * t + k) v) 78 (64 * t + j) = va_up M1.2.1 38 (upd (M1.2.1 38) (64 * t + sl k) v) 38 (64 * t + sl j)
        rw [vu_at, vu_at]
        by_cases e : j = k
        · rw [e, upd_at, upd_at]
        · have ne : sl j ≠ sl k := fun q => e (sl_inj (by omega) k64 q)
          rw [upd_ne (by omega), upd_ne (by omega), a5.2 78 rfl rfl, a1.2 38 rfl]
          exact he j (by omega)
      · have aS : ag [10, 34, 35] [38] S (M1.1, va_up M1.2.1 38 (upd (M1.2.1 38) (64 * t + sl k) v), M1.2.2) := ag_r (ag_tr (ag_refl (fs := [10, 34, 35]) (rs := [38])) a1 rfl rfl) rfl
        have gS : agc [6001, 6006, 6007] [78] F (va_up F1 78 (upd (F1 78) (64 * t + k) v)) := agc_r (agc_tr (agc_refl (fs := [6001, 6006, 6007]) (rs := [78])) a5 rfl rfl) rfl rfl
        refine ok M' F' (ag_tr aS b1 rfl rfl) (agc_tr gS b2 rfl rfl) ?_ b4 (fun i hi => ?_) b7 h1 h2
        · have b3 : (M1.1 34).toInt ≤ (M'.1 34).toInt := b3
          omega
        · obtain ⟨c1, c2⟩ := b6 i hi
          refine ⟨c1.trans ?_, c2.trans ?_⟩
          · show va_up M1.2.1 38 (upd (M1.2.1 38) (64 * t + sl k) v) 38 i = _
            rw [vu_at, upd_ne (by omega), a1.2 38 rfl]
          · show va_up F1 78 (upd (F1 78) (64 * t + k) v) 78 i = _
            rw [vu_at, upd_ne (by omega), a5.2 78 rfl rfl]
    · have h1 : (v ≤ 0 → b_readTables_70 (nI t) (nI k) v 0 M1 R2 (fun zx2 zx3 zS => e_readTables_40 zx2 zx3 zS R2 K0) K0) ∧ (¬ v ≤ 0 → _) := h1
      refine dt_p h1 (fun c h1 => ?_) (fun c h1 => ?_)
      · unfold b_readTables_70 at h1
        obtain ⟨Z, hf, h1⟩ := q_must0 (S := M1) a3 h1
        have h1 := h1.1 (flt_n hf)
        unfold b_readTables_104 at h1
        exact f_e_readTables_40 h1 hf (fun x M' hk hf => bR x M' F1 hk hf h2) (fun M' hk hf => bK M' F1 hk hf h2)
      · exfalso
        have c := i_lt (nle_lt c)
        rcases i1 with q | q
        · omega
        · have n255 : (255 : Int32).toInt = 255 := by decide
          have := (hq.2.2.2.1 (S.1 34).toNatClampNeg).2
          rw [← a7] at this
          omega
end TAB

/-! UNPACK: tables -/
/-- tables that are told, both sides -/
def tbR (M : ms) (F : cF) : Prop := ∀ t, t < 4 → F 79 t = M.2.1 39 t ∧ (¬ M.2.1 39 t = 0 → ∀ k, k < 64 → F 78 (64 * t + k) = M.2.1 38 (64 * t + sl k))
section TABS
variable {S0 : ms} {F0 : cF} {L : cL} {a b : Bool} {P : Nat → Nat → Nat} {K0 : ms → Prop} {KC : cs → Prop} {T2 : Nat → cs → Prop} {G : Prop}
theorem y_tables (bad : ∀ M' F', K0 M' → flt M' → T2 13 (F', L, PC a b P) → G)
    (ok : ∀ M' F', ag [10, 34, 35] [38, 39] S0 M' → agc [6001, 6006, 6007] [78, 79] F0 F' → (S0.1 34).toInt ≤ (M'.1 34).toInt → rq M' F' → tbR M' F' → K0 M' → KC (F', L, PC a b P) → G) :
    ∀ (n i : Nat) (S : ms) (F : cF) (x1 : Int32), (32768 - (S.1 34).toInt).toNat < n → rq S F → tbR S F → ((x1 = 1 ∧ S.1 34 < S.1 36) ∨ (x1 = 0 ∧ ¬ S.1 34 < S.1 36)) → (i : Int) + 1 ≤ (S.1 34).toInt → ag [10, 34, 35] [38, 39] S0 S → agc [6001, 6006, 6007] [78, 79] F0 F → (S0.1 34).toInt ≤ (S.1 34).toInt → e_readTables_2 x1 S K0 → e_Un_readParts_2 UL 59 219 (nI i) (F, L, PC a b P) KC T2 → G := by
  intro n
  induction n with
  | zero => intro i S F x1 h; exact absurd h (Nat.not_lt_zero _)
  | succ n ih =>
    intro i S F x1 hn hq ht hx hi ha hg hat h1 h2
    have hr := hq.1
    have hl := hq.2.1
    have a32 := hq.2.2.2.2.2.2
    have fe : ∀ (x : Int32) (M1 : ms) (F1 : cF), e_readTables_2 x M1 K0 → flt M1 → T2 13 (F1, L, PC a b P) → G := fun x M1 F1 h hf ht => f_e_readTables_2 h hf (fun M' hk hf => bad M' F1 hk hf ht)
    have h1 := r_e_readTables_2 h1
    unfold b_readTables_2 b_readTables_144 at h1
    have h2 := r_e_Un_readParts_2 h2
    unfold b_Un_readParts_2 b_Un_readParts_51 b_Un_readParts_45 at h2
    obtain ⟨-, -, h2⟩ := h2
    have h2 : (F 59 12 + F 59 13 ≤ F 60 1 → KC (F, L, PC a b P)) ∧ (¬ F 59 12 + F 59 13 ≤ F 60 1 → _) := h2
    rw [hl.2, hr.2.1] at h2
    rcases hx with ⟨rfl, hlt⟩ | ⟨rfl, hnl⟩
    · have h1 := (h1.2 (by decide)).2 hr.1
      unfold p_nextWithin at h1
      have h1 := h1.1 hlt
      have h2 := ((h2.2 (fun q => by have := i_le q; have := i_lt hlt; omega)).2 (nI_ge (b := 32768) (by omega) (by decide))).2 rfl
      unfold p_Un_readTable at h2
      have fb : ∀ (x s : Int32) (M1 : ms) (F1 : cF), b_readTables_29 x s M1 (fun zx1 zS => e_readTables_2 zx1 zS K0) K0 → flt M1 → T2 13 (F1, L, PC a b P) → G := fun x s M1 F1 h hf ht => f_b_readTables_29 h hf (fun x M' hk hf => fe x M' F1 hk hf ht) (fun M' hk hf => bad M' F1 hk hf ht)
      have z3 : (3 : Int32).toInt = 3 := by decide
      have z4 : (4 : Int32).toInt = 4 := by decide
      have z0 : (0 : Int32).toInt = 0 := by decide
      refine x_readW hr h1 h2 (fun v M1 F1 a1 a2 a3 a4 a5 a6 a7 i1 i2 h1 h2 => ?_) (fun v M1 F1 a1 a3 a7 i1 h1 h2 => ?_) (fun v M1 F1 f1 h1 h2 => dt_p h1 (fun _ h1 => fb _ _ _ F1 h1 f1 h2) (fun _ h1 => fb _ _ _ F1 h1 f1 h2))
      · rw [z0] at i1
        rw [z3] at i2
        obtain ⟨t, rfl, ht4⟩ : ∃ t : Nat, v = nI t ∧ t < 4 := ⟨v.toInt.toNat, nI_i i1, by omega⟩
        have h1 := h1.2 (nI_ge (b := 4) ht4 (by decide))
        unfold b_readTables_29 at h1
        have h1 := q_must1 (by decide) h1
        have st := rq_s hq a1 a2 a4 a5 a6
        refine x_tab40 (R2 := fun zx1 zS => e_readTables_2 zx1 zS K0) ht4 (fun x M' F' hk hf ht => fe x M' F' hk hf ht) (fun M' F' hk hf ht => bad M' F' hk hf ht) 64 0 M1 F1 rfl (by decide) st.1 h1 h2 (fun j hj => absurd hj (Nat.not_lt_zero _)) (fun M2 F2 b1 b2 b3 b4 b5 b6 h1 h2 => ?_)
        unfold b_readTables_110 at h1
        obtain ⟨-, h1⟩ := h1.2 b4.1.1
        rw [nI_clamp (show t < 2 ^ 31 by omega)] at h1
        unfold b_readTables_124 b_readTables_140 at h1
        have h1 : (M2.1 36 ≤ M2.1 34 → e_readTables_2 0 (M2.1, va_up M2.2.1 39 (upd (M2.2.1 39) t 1), M2.2.2) K0) ∧ (¬ M2.1 36 ≤ M2.1 34 → e_readTables_2 1 (M2.1, va_up M2.2.1 39 (upd (M2.2.1 39) t 1), M2.2.2) K0) := h1
        rw [nI_1] at h2
        have q3 : rq (M2.1, va_up M2.2.1 39 (upd (M2.2.1 39) t 1), M2.2.2) (va_up F2 79 (upd (F2 79) t 1)) := rq_r b4 (by decide) (by decide) (by decide) (by decide) (by decide) (by decide)
        have aS : ag [10, 34, 35] [38, 39] S0 (M2.1, va_up M2.2.1 39 (upd (M2.2.1 39) t 1), M2.2.2) := ag_r (ag_tr (ag_tr ha a1 rfl rfl) b1 rfl rfl) rfl
        have gS : agc [6001, 6006, 6007] [78, 79] F0 (va_up F2 79 (upd (F2 79) t 1)) := agc_r (agc_tr (agc_tr hg a5 rfl rfl) b2 rfl rfl) rfl rfl
        have pos : (S.1 34).toInt + 1 ≤ (M2.1 34).toInt := by have := st.2.1; omega
        have t3 : tbR (M2.1, va_up M2.2.1 39 (upd (M2.2.1 39) t 1), M2.2.2) (va_up F2 79 (upd (F2 79) t 1)) := by
          intro s hs
          show va_up F2 79 (upd (F2 79) t 1) 79 s = va_up M2.2.1 39 (upd (M2.2.1 39) t 1) 39 s ∧ (¬ va_up M2.2.1 39 (upd (M2.2.1 39) t 1) 39 s = 0 → ∀ k, k < 64 → va_up F2 79 (upd (F2 79) t 1) 78 (64 * s + k) = va_up M2.2.1 39 (upd (M2.2.1 39) t 1) 38 (64 * s + sl k))
          rw [vu_at, vu_at, vu_ne (show (78 : Nat) ≠ 79 by decide), vu_ne (show (38 : Nat) ≠ 39 by decide)]
          by_cases e : s = t
          · subst e
            rw [upd_at, upd_at]
            exact ⟨rfl, fun _ k hk => b6 k hk⟩
          · rw [upd_ne e, upd_ne e, b2.2 79 rfl rfl, b1.2 39 rfl, a5.2 79 rfl rfl, a1.2 39 rfl]
            refine ⟨(ht s hs).1, fun hs0 k hk => ?_⟩
            have sk := sl_lt k
            rw [(b5 (64 * s + k) (by omega)).2, (b5 (64 * s + sl k) (by omega)).1, a5.2 78 rfl rfl, a1.2 38 rfl]
            exact (ht s hs).2 hs0 k hk
        have go : ∀ x : Int32, ((x = 1 ∧ M2.1 34 < M2.1 36) ∨ (x = 0 ∧ ¬ M2.1 34 < M2.1 36)) → e_readTables_2 x (M2.1, va_up M2.2.1 39 (upd (M2.2.1 39) t 1), M2.2.2) K0 → G := fun x hx h1 => ih (i + 1) _ _ x (by show (32768 - (M2.1 34).toInt).toNat < n; have := b4.2.2.2.2.2.2; omega) q3 t3 hx (by show ((i + 1 : Nat) : Int) + 1 ≤ (M2.1 34).toInt; omega) aS gS (by show _ ≤ (M2.1 34).toInt; omega) h1 h2
        refine dt_p h1 (fun c h1 => go 0 (Or.inr ⟨rfl, fun q => ?_⟩) h1) (fun c h1 => go 1 (Or.inl ⟨rfl, nle_lt c⟩) h1)
        have := i_le c
        have := i_lt q
        omega
      · have h1 : (4 ≤ v → b_readTables_29 v 0 M1 (fun zx1 zS => e_readTables_2 zx1 zS K0) K0) ∧ (¬ 4 ≤ v → b_readTables_29 v 1 M1 (fun zx1 zS => e_readTables_2 zx1 zS K0) K0) := h1
        have tb := (hq.2.2.2.1 (S.1 34).toNatClampNeg).1
        rw [← a7] at tb
        rw [z0, z3] at i1
        have h1 := h1.1 (Int32.le_iff_toInt_le.mpr (by omega))
        unfold b_readTables_29 at h1
        obtain ⟨Z, hf, h1⟩ := q_must0 (S := M1) a3 h1
        exact f_e_readTables_40 h1 hf (fun x M' hk hf => fe x M' F1 hk hf h2) (fun M' hk hf => bad M' F1 hk hf h2)
    · refine ok S F ha hg hat hq ht (h1.1 rfl) (h2.1 ?_)
      exact Int32.le_iff_toInt_le.mpr (by
        have := i_le (nlt_le hnl)
        exact this)
end TABS

/-! UNPACK: codes -/
theorem fb_congr {cn cm : Nat → Nat} : ∀ n, (∀ j, j < n → cm j = cn j) → fcs cm n = fcs cn n ∧ bfs cm n = bfs cn n
  | 0, _ => ⟨rfl, rfl⟩
  | n + 1, h => by
    obtain ⟨h1, h2⟩ := fb_congr n (fun j hj => h j (by omega))
    show 2 * fcs cm n + cm n = 2 * fcs cn n + cn n ∧ bfs cm n + cm n = bfs cn n + cn n
    rw [h1, h2, h n (by omega)]
    exact ⟨rfl, rfl⟩
/-- codes that fit -/
def ftC (cn : Nat → Nat) (n : Nat) : Prop := ∀ j, j < n → fcs cn (j + 1) < 2 ^ (j + 1) ∧ bfs cn (j + 1) ≤ 256
section GO
variable {F : cF} {L : cL} {a b : Bool} {P : Nat → Nat → Nat} {u : Nat}
theorem cl4 (hu : isCo u) : c_ln UL (u + 4) = 256 := by rcases hu with rfl | rfl | rfl | rfl <;> rfl
theorem q_giveC {cn : Nat → Nat} {K : Int32 → cs → Prop} (hu : isCo u) (hc : ∀ n, n < 16 → cn n ≤ 255 ∧ F (u + 1) (n + 1) = nI (cn n)) (h : p_Co_giveOut UL u (F, L, PC a b P) K) :
    (ftC cn 16 ∧ ∃ Z, (∀ w, w ≠ u → w ≠ u + 2 → w ≠ u + 3 → Z w = F w) ∧ (∀ k, k ≠ 5 → Z u k = F u k) ∧ Z u 5 = nI (bfs cn 16) ∧ (∀ n, n < 16 → Z (u + 2) (n + 1) = nI (2 * fcs cn n) ∧ Z (u + 3) (n + 1) = nI (bfs cn n)) ∧ K 1 (Z, L, PC a b P)) ∨ (¬ ftC cn 16 ∧ ∃ Z, K 0 (Z, L, PC a b P)) := by
  unfold p_Co_giveOut at h
  have h : e_Co_giveOut_11 UL u 0 1 1 (va_up F u (upd (F u) 5 0), L, PC a b P) K := h
  refine v_e_Co_giveOut_11 h (fun y1 y2 y3 V => ∃ n Y, y3 = nI (n + 1) ∧ n ≤ 16 ∧ V = (Y, L, PC a b P) ∧ (∀ w, w ≠ u → w ≠ u + 2 → w ≠ u + 3 → Y w = F w) ∧ (∀ k, k ≠ 5 → Y u k = F u k) ∧ ((y2 = 1 ∧ y1 = nI (2 * fcs cn n) ∧ ftC cn n ∧ Y u 5 = nI (bfs cn n) ∧ (∀ j, j < n → Y (u + 2) (j + 1) = nI (2 * fcs cn j) ∧ Y (u + 3) (j + 1) = nI (bfs cn j))) ∨ (y2 = 0 ∧ ¬ ftC cn 16))) ⟨0, _, rfl, by decide, rfl, fun w h0 _ _ => vu_ne h0, fun k hk => by rw [vu_at, upd_ne hk], Or.inl ⟨rfl, rfl, fun j hj => absurd hj (Nat.not_lt_zero _), by rw [vu_at, upd_at]; rfl, fun j hj => absurd hj (Nat.not_lt_zero _)⟩⟩ ?_
  rintro y1 y2 y3 V R ⟨n, Y, rfl, hn, rfl, hw, hk, hc2⟩ hb
  unfold b_Co_giveOut_11 b_Co_giveOut_97 b_Co_giveOut_85 b_Co_giveOut_86 at hb
  rcases hc2 with ⟨rfl, rfl, hf, h5, hj⟩ | ⟨rfl, hnf⟩
  · by_cases e : n = 16
    · right
      subst e
      exact Or.inl ⟨hf, Y, hw, hk, h5, hj, (hb.1 (by decide)).2⟩
    · left
      have hb := (hb.2 (nI_nlt (a := 16) (b := n + 1) (by omega) (by decide))).2 (by decide)
      obtain ⟨-, -, -, -, -, -, -, -, -, -, -, -, -, hb⟩ := hb
      dsimp only at hb
      rw [co1 hu, co2 hu, co3 hu, co4 hu, cl4 hu, nI_clamp (show n + 1 < 2 ^ 31 by omega)] at hb
      have p17 : 2 ^ n ≤ 2 ^ 15 := Nat.pow_le_pow_right (by decide) (by omega)
      have e15 : (2 : Nat) ^ 15 = 32768 := by decide
      have fl : fcs cn n < 2 ^ n ∧ bfs cn n ≤ 256 := by
        cases n with
        | zero => exact ⟨by show 0 < 1; decide, by show 0 ≤ 256; decide⟩
        | succ m => exact hf m (by omega)
      have cb := (hc n (by omega)).1
      have u1 : Y (u + 1) = F (u + 1) := hw _ (by omega) (by omega) (by omega)
      have e1 : (va_up (va_up Y (u + 2) (upd (Y (u + 2)) (n + 1) (nI (2 * fcs cn n)))) (u + 3) (upd ((va_up Y (u + 2) (upd (Y (u + 2)) (n + 1) (nI (2 * fcs cn n)))) (u + 3)) (n + 1) ((va_up Y (u + 2) (upd (Y (u + 2)) (n + 1) (nI (2 * fcs cn n)))) u 5))) (u + 1) (n + 1) = nI (cn n) := by
        rw [vu_ne (show u + 1 ≠ u + 3 by omega), vu_ne (show u + 1 ≠ u + 2 by omega), u1]
        exact (hc n (by omega)).2
      have e5 : (va_up (va_up Y (u + 2) (upd (Y (u + 2)) (n + 1) (nI (2 * fcs cn n)))) (u + 3) (upd ((va_up Y (u + 2) (upd (Y (u + 2)) (n + 1) (nI (2 * fcs cn n)))) (u + 3)) (n + 1) ((va_up Y (u + 2) (upd (Y (u + 2)) (n + 1) (nI (2 * fcs cn n)))) u 5))) u 5 = nI (bfs cn n) := by
        rw [vu_ne (show u ≠ u + 3 by omega), vu_ne (show u ≠ u + 2 by omega), h5]
      rw [e1, e5, nI_add, nI_add, vu_at, upd_at, shl_n (show n + 1 ≤ 16 by omega)] at hb
      generalize hZ : va_up (va_up (va_up Y (u + 2) (upd (Y (u + 2)) (n + 1) (nI (2 * fcs cn n)))) (u + 3) (upd ((va_up Y (u + 2) (upd (Y (u + 2)) (n + 1) (nI (2 * fcs cn n)))) (u + 3)) (n + 1) ((va_up Y (u + 2) (upd (Y (u + 2)) (n + 1) (nI (2 * fcs cn n)))) u 5))) u (upd ((va_up (va_up Y (u + 2) (upd (Y (u + 2)) (n + 1) (nI (2 * fcs cn n)))) (u + 3) (upd ((va_up Y (u + 2) (upd (Y (u + 2)) (n + 1) (nI (2 * fcs cn n)))) (u + 3)) (n + 1) ((va_up Y (u + 2) (upd (Y (u + 2)) (n + 1) (nI (2 * fcs cn n)))) u 5))) u) 5 (nI (bfs cn n + cn n))) = Z at hb
      have zw : ∀ w, w ≠ u → w ≠ u + 2 → w ≠ u + 3 → Z w = F w := fun w q1 q2 q3 => by rw [← hZ, vu_ne q1, vu_ne q3, vu_ne q2]; exact hw w q1 q2 q3
      have zk : ∀ k, k ≠ 5 → Z u k = F u k := fun k q => by rw [← hZ, vu_at, upd_ne q, vu_ne (show u ≠ u + 3 by omega), vu_ne (show u ≠ u + 2 by omega)]; exact hk k q
      have z5 : Z u 5 = nI (bfs cn (n + 1)) := by rw [← hZ, vu_at, upd_at]; rfl
      have z2 : ∀ j, Z (u + 2) j = if j = n + 1 then nI (2 * fcs cn n) else Y (u + 2) j := fun j => by
        rw [← hZ, vu_ne (show u + 2 ≠ u by omega), vu_ne (show u + 2 ≠ u + 3 by omega), vu_at]
        by_cases q : j = n + 1
        · rw [q, upd_at, if_pos rfl]
        · rw [upd_ne q, if_neg q]
      have z3 : ∀ j, Z (u + 3) j = if j = n + 1 then nI (bfs cn n) else Y (u + 3) j := fun j => by
        rw [← hZ, vu_ne (show u + 3 ≠ u by omega), vu_at, vu_ne (show u + 3 ≠ u + 2 by omega), vu_ne (show u ≠ u + 2 by omega), h5]
        by_cases q : j = n + 1
        · rw [q, upd_at, if_pos rfl]
        · rw [upd_ne q, if_neg q]
      have fs : fcs cn (n + 1) = 2 * fcs cn n + cn n := rfl
      have bs : bfs cn (n + 1) = bfs cn n + cn n := rfl
      have p2 : 2 ^ (n + 1) = 2 * 2 ^ n := by rw [Nat.pow_succ, Nat.mul_comm]
      have no : ¬ (fcs cn (n + 1) < 2 ^ (n + 1) ∧ bfs cn (n + 1) ≤ 256) → ∀ x : Int32, R x 0 (nI (n + 1) + 1) (Z, L, PC a b P) → (∃ zx1 zx2 zx3 zS, R zx1 zx2 zx3 zS ∧ ∃ n Y, zx3 = nI (n + 1) ∧ n ≤ 16 ∧ zS = (Y, L, PC a b P) ∧ (∀ w, w ≠ u → w ≠ u + 2 → w ≠ u + 3 → Y w = F w) ∧ (∀ k, k ≠ 5 → Y u k = F u k) ∧ ((zx2 = 1 ∧ zx1 = nI (2 * fcs cn n) ∧ ftC cn n ∧ Y u 5 = nI (bfs cn n) ∧ (∀ j, j < n → Y (u + 2) (j + 1) = nI (2 * fcs cn j) ∧ Y (u + 3) (j + 1) = nI (bfs cn j))) ∨ (zx2 = 0 ∧ ¬ ftC cn 16))) := fun hno x hR => ⟨_, _, _, _, hR, n + 1, Z, nI_1 _, by omega, rfl, zw, zk, Or.inr ⟨rfl, fun q => hno (q n (by omega))⟩⟩
      by_cases c1 : bfs cn n + cn n ≤ 256
      · have hb := hb.2 (nI_nlt (a := 256) c1 (by decide))
        by_cases c2 : 2 * fcs cn n + cn n < 2 ^ (n + 1)
        · have hR := hb.2 (nI_ge c2 (by omega))
          rw [show (nI (2 * fcs cn n + cn n) * 2 : Int32) = nI (2 * fcs cn (n + 1)) from by rw [show (2 : Int32) = nI 2 from rfl, pk_mul, fs, Nat.mul_comm]] at hR
          refine ⟨_, _, _, _, hR, n + 1, Z, nI_1 _, by omega, rfl, zw, zk, Or.inl ⟨rfl, rfl, fun j hj' => ?_, z5, fun j hj' => ?_⟩⟩
          · by_cases q : j = n
            · rw [q]
              exact ⟨c2, c1⟩
            · exact hf j (by omega)
          · rw [z2, z3]
            by_cases q : j = n
            · rw [if_pos (by omega), if_pos (by omega), q]
              exact ⟨rfl, rfl⟩
            · rw [if_neg (by omega), if_neg (by omega)]
              exact hj j (by omega)
        · exact no (fun q => c2 q.1) _ (hb.1 (nI_le (by omega) (by omega)))
      · exact no (fun q => c1 q.2) _ (hb.1 (nI_lt (a := 256) (by omega) (by omega)))
  · right
    have fin : K 0 (Y, L, PC a b P) := dt_p hb (fun _ h => h.2) (fun _ h => (h.1 rfl).2)
    exact Or.inr ⟨hnf, Y, fin⟩
end GO

/-! UNPACK: codes, both sides -/
abbrev fcC (F G : cF) : Prop := agc [6001, 6006, 6007, 8100, 8105, 8600, 8605, 9100, 9105, 9600, 9605] [82, 83, 84, 85, 87, 88, 89, 90, 92, 93, 94, 95, 97, 98, 99, 100] F G
/-- the other codes are untouched -/
def oth (c : Nat) (F G : cF) : Prop := ∀ c', c' < 4 → c' ≠ c → G (co c') 0 = F (co c') 0 ∧ ∀ k, 1 ≤ k → k ≤ 4 → G (co c' + k) = F (co c' + k)
theorem oth_refl {c : Nat} {F : cF} : oth c F F := fun _ _ _ => ⟨rfl, fun _ _ _ => rfl⟩
theorem oth_tr {c : Nat} {F G H : cF} (h : oth c F G) (h' : oth c G H) : oth c F H := fun c' h1 h2 => ⟨(h' c' h1 h2).1.trans (h c' h1 h2).1, fun k k1 k2 => ((h' c' h1 h2).2 k k1 k2).trans ((h c' h1 h2).2 k k1 k2)⟩
theorem oth_fu {c : Nat} {F G : cF} (h : fuC F G) : oth c F G := fun c' h1 _ => by
  have q : c' = 0 ∨ c' = 1 ∨ c' = 2 ∨ c' = 3 := by omega
  refine ⟨?_, fun k k1 k2 => ?_⟩
  · rcases q with rfl | rfl | rfl | rfl <;> exact h.1 _ 0 rfl rfl
  · have q2 : k = 1 ∨ k = 2 ∨ k = 3 ∨ k = 4 := by omega
    rcases q with rfl | rfl | rfl | rfl <;> rcases q2 with rfl | rfl | rfl | rfl <;> exact h.2 _ rfl rfl
theorem oth_up {c d : Nat} {F : cF} {x : Nat → Int32} (hd : d ≤ 4) : oth c F (va_up F (co c + d) x) := fun c' h1 h2 => by
  refine ⟨?_, fun k k1 k2 => vu_ne ?_⟩
  · rw [vu_ne]
    show 81 + 5 * c' ≠ 81 + 5 * c + d
    omega
  · show 81 + 5 * c' + k ≠ 81 + 5 * c + d
    omega
theorem oth_a {c : Nat} {F G : cF} (h : ∀ w, w ≠ co c → w ≠ co c + 2 → w ≠ co c + 3 → G w = F w) : oth c F G := fun c' h1 h2 => by
  have e : co c = 81 + 5 * c := rfl
  have e' : co c' = 81 + 5 * c' := rfl
  refine ⟨?_, fun k k1 k2 => h _ (by omega) (by omega) (by omega)⟩
  rw [h _ (by omega) (by omega) (by omega)]
/-- few codes so far -/
def fwcn (cn : Nat → Nat) (k : Nat) : Prop := ∀ j, j < k → fcs cn (j + 1) < 2 ^ (j + 1)
section CNT
variable {L : cL} {a b : Bool} {P : Nat → Nat → Nat} {K0 : ms → Prop} {R2 : Int32 → ms → Prop} {KC : cs → Prop} {T2 : Nat → cs → Prop} {G : Prop} {c : Nat}
theorem m_fc {d : Nat} (hc : c < 4) (h1 : 1 ≤ d) (h4 : d ≤ 4) : OB (co c + d) = false ∧ [82, 83, 84, 85, 87, 88, 89, 90, 92, 93, 94, 95, 97, 98, 99, 100].contains (co c + d) = true ∧ 59 ≠ co c + d ∧ 60 ≠ co c + d ∧ 61 ≠ co c + d ∧ 62 ≠ co c + d := by
  have q : c = 0 ∨ c = 1 ∨ c = 2 ∨ c = 3 := by omega
  have q2 : d = 1 ∨ d = 2 ∨ d = 3 ∨ d = 4 := by omega
  rcases q with rfl | rfl | rfl | rfl <;> rcases q2 with rfl | rfl | rfl | rfl <;> exact ⟨rfl, rfl, by decide, by decide, by decide, by decide⟩
theorem y_cnt {x1 x3 x4 : Int32} (hc : c < 4)
    (bR : ∀ x M' F', R2 x M' → flt M' → T2 13 (F', L, PC a b P) → G) (bK : ∀ M' F', K0 M' → flt M' → T2 13 (F', L, PC a b P) → G) : ∀ d k (S : ms) (F : cF) (cn : Nat → Nat) (x6 x7 : Int32), 16 - k = d → k ≤ 16 → rq S F → ((x7 = 1 ∧ x6 = nI (fcs cn k) ∧ fwcn cn k) ∨ (x7 = 0 ∧ ∃ j, j < k ∧ ¬ fcs cn (j + 1) < 2 ^ (j + 1))) → (∀ n, n < k → cn n ≤ 255 ∧ S.2.1 40 (16 * c + n) = nI (cn n) ∧ F (co c + 1) (n + 1) = nI (cn n)) →
    e_readCodes_82 (nI c) x4 (nI (bfs cn k)) x6 x7 (nI k) S R2 K0 → e_Un_readCodes_61 UL 59 x1 (co c) x3 (nI (k + 1)) (F, L, PC a b P) KC T2 →
    (∀ M' F' cm x7, ag [10, 34, 35] [40] S M' → fcC F F' → oth c F F' → (S.1 34).toInt ≤ (M'.1 34).toInt → rq M' F' → (∀ i, (i < 16 * c ∨ 16 * c + 16 ≤ i) → M'.2.1 40 i = S.2.1 40 i) → (∀ n, n < 16 → cm n ≤ 255 ∧ M'.2.1 40 (16 * c + n) = nI (cm n) ∧ F' (co c + 1) (n + 1) = nI (cm n)) → ((x7 = 1 ∧ fwcn cm 16) ∨ (x7 = 0 ∧ ¬ fwcn cm 16)) → b_readCodes_186 (nI c) x4 (nI (bfs cm 16)) x7 M' R2 K0 → p_Co_giveOut UL (co c) (F', L, PC a b P) (fun v93 S93 => (¬ v93 = 0 → b_Un_readCodes_108 UL 59 x1 (co c) S93 KC T2) ∧ (v93 = 0 → ¬ S93.2.2 59 0 = NU ∧ (c_cl UL (S93.2.2 59 0) = 8 ∧ p_Re_fail UL (S93.2.2 59 0) 5 x3 S93 (fun S105 => b_Un_readCodes_108 UL 59 x1 (co c) S105 KC T2) T2))) → G) → G := by
  intro d
  induction d with
  | zero =>
    intro k S F cn x6 x7 hd hk hq hx hn h1 h2 ok
    obtain rfl : k = 16 := by omega
    have h1 := r_e_readCodes_82 h1
    unfold b_readCodes_82 at h1
    have h2 := r_e_Un_readCodes_61 h2
    unfold b_Un_readCodes_61 at h2
    refine ok S F cn x7 ag_refl agc_refl oth_refl (Int.le_refl _) hq (fun _ _ => rfl) hn ?_ (h1.1 (Int32.le_refl _)) (h2.1 (by decide)).2
    rcases hx with ⟨e, -, hw⟩ | ⟨e, j, j1, j2⟩
    · exact Or.inl ⟨e, hw⟩
    · exact Or.inr ⟨e, fun q => j2 (q j j1)⟩
  | succ d ih =>
    intro k S F cn x6 x7 hd hk hq hx hn h1 h2 ok
    have k16 : k < 16 := by omega
    have hr := hq.1
    have hl := hq.2.1
    have h1 := r_e_readCodes_82 h1
    unfold b_readCodes_82 at h1
    have h1 := (h1.2 (nI_ge (b := 16) k16 (by decide))).2 hr.1
    have h2 := r_e_Un_readCodes_61 h2
    unfold b_Un_readCodes_61 at h2
    have h2 := h2.2 (nI_nlt (a := 16) (b := k + 1) (by omega) (by decide))
    have fe : ∀ (y3 y4 y5 y6 y7 y8 : Int32) (M1 : ms) (F1 : cF), e_readCodes_82 y3 y4 y5 y6 y7 y8 M1 R2 K0 → flt M1 → T2 13 (F1, L, PC a b P) → G := fun _ _ _ _ _ _ M1 F1 h hf ht => f_e_readCodes_82 h hf (fun x M' hk hf => bR x M' F1 hk hf ht) (fun M' hk hf => bK M' F1 hk hf ht)
    refine x_within hr hl h1 h2 (fun cc h1 h2 => ?_) (fun v M1 F1 f1 h1 h2 => by
      have h1 := h1.1 (flt_n f1)
      unfold b_readCodes_180 at h1
      exact fe _ _ _ _ _ _ _ F1 h1 f1 h2)
    obtain ⟨-, -, -, -, h2⟩ := h2
    have h2 : p_Re_read UL 60 (F, L, PC a b P) _ T2 := h2
    refine x_read hr h1 h2 (fun v M1 F1 a1 a2 a3 a4 a5 a6 a7 h1 h2 => ?_) (fun v M1 F1 f1 _ _ h1 h2 => by
      have h1 := h1.1 (flt_n f1)
      unfold b_readCodes_180 at h1
      exact fe _ _ _ _ _ _ _ F1 h1 f1 h2)
    have bv := hq.2.2.2.1 (S.1 34).toNatClampNeg
    rw [← a7] at bv
    obtain ⟨w, rfl, hw⟩ := b16 bv
    obtain ⟨-, -, h2⟩ := h2
    have h2 : e_Un_readCodes_61 UL 59 x1 (co c) x3 (nI (k + 1) + 1) (va_up F1 (PC a b P (co c) 1) (upd (F1 (PC a b P (co c) 1)) (nI (k + 1)).toNatClampNeg (nI w)), L, PC a b P) KC T2 := h2
    rw [co1 (co_is (by omega)), nI_clamp (show k + 1 < 2 ^ 31 by omega), nI_1] at h2
    obtain ⟨-, h1⟩ := h1.2 a3
    rw [show ((16 * nI c) + nI k : Int32) = nI (16 * c + k) from by rw [show (16 * nI c : Int32) = nI (16 * c) from pk_mul 16 c, nI_add], nI_clamp (show 16 * c + k < 2 ^ 31 by omega), nI_add] at h1
    have st := rq_s hq a1 a2 a4 a5 a6
    obtain ⟨m1, m2, m3, m4, m5, m6⟩ := m_fc (d := 1) hc (by decide) (by decide)
    have q2 : rq (M1.1, va_up M1.2.1 40 (upd (M1.2.1 40) (16 * c + k) (nI w)), M1.2.2) (va_up F1 (co c + 1) (upd (F1 (co c + 1)) (k + 1) (nI w))) := rq_r st.1 (by decide) (by decide) m3 m4 m5 m6
    -- the counts with this one
    have cg : ∀ j, j < k → (fun j => if j = k then w else cn j) j = cn j := fun j hj => if_neg (by omega)
    have fb := fun n (hn : n ≤ k) => fb_congr (cn := cn) (cm := fun j => if j = k then w else cn j) n (fun j hj => cg j (by omega))
    have fk : fcs (fun j => if j = k then w else cn j) (k + 1) = 2 * fcs cn k + w := by
      show 2 * fcs _ k + (if k = k then w else cn k) = _
      rw [(fb k (Nat.le_refl _)).1, if_pos rfl]
    have bk : bfs (fun j => if j = k then w else cn j) (k + 1) = bfs cn k + w := by
      show bfs _ k + (if k = k then w else cn k) = _
      rw [(fb k (Nat.le_refl _)).2, if_pos rfl]
    have nx : ∀ n, n < k + 1 → (fun j => if j = k then w else cn j) n ≤ 255 ∧ (M1.1, va_up M1.2.1 40 (upd (M1.2.1 40) (16 * c + k) (nI w)), M1.2.2).2.1 40 (16 * c + n) = nI ((fun j => if j = k then w else cn j) n) ∧ va_up F1 (co c + 1) (upd (F1 (co c + 1)) (k + 1) (nI w)) (co c + 1) (n + 1) = nI ((fun j => if j = k then w else cn j) n) := by
      intro n hn'
      dsimp only
      rw [vu_at, vu_at]
      by_cases e : n = k
      · rw [e, if_pos rfl, upd_at, upd_at]
        exact ⟨hw, rfl, rfl⟩
      · have f1 : F1 (co c + 1) = F (co c + 1) := by
          have q : c = 0 ∨ c = 1 ∨ c = 2 ∨ c = 3 := by omega
          rcases q with rfl | rfl | rfl | rfl <;> exact a5.2 _ rfl rfl
        rw [if_neg e, upd_ne (by omega), upd_ne (by omega), f1, a1.2 40 rfl]
        exact hn n (by omega)
    have gS : fcC F (va_up F1 (co c + 1) (upd (F1 (co c + 1)) (k + 1) (nI w))) := agc_r (agc_tr (agc_refl (fs := [6001, 6006, 6007, 8100, 8105, 8600, 8605, 9100, 9105, 9600, 9605]) (rs := [82, 83, 84, 85, 87, 88, 89, 90, 92, 93, 94, 95, 97, 98, 99, 100])) a5 rfl rfl) m1 m2
    have aS : ag [10, 34, 35] [40] S (M1.1, va_up M1.2.1 40 (upd (M1.2.1 40) (16 * c + k) (nI w)), M1.2.2) := ag_r (ag_tr (ag_refl (fs := [10, 34, 35]) (rs := [40])) a1 rfl rfl) rfl
    have oS : oth c F (va_up F1 (co c + 1) (upd (F1 (co c + 1)) (k + 1) (nI w))) := oth_tr (oth_fu a5) (oth_up (by decide))
    have go : ∀ x6' x7', ((x7' = 1 ∧ x6' = nI (fcs (fun j => if j = k then w else cn j) (k + 1)) ∧ fwcn (fun j => if j = k then w else cn j) (k + 1)) ∨ (x7' = 0 ∧ ∃ j, j < k + 1 ∧ ¬ fcs (fun j => if j = k then w else cn j) (j + 1) < 2 ^ (j + 1))) → e_readCodes_82 (nI c) x4 (nI (bfs cn k + w)) x6' x7' (nI k + 1) (M1.1, va_up M1.2.1 40 (upd (M1.2.1 40) (16 * c + k) (nI w)), M1.2.2) R2 K0 → G := by
      intro x6' x7' hx' h1
      rw [nI_1, ← bk] at h1
      refine ih (k + 1) _ _ (fun j => if j = k then w else cn j) x6' x7' (by omega) (by omega) q2 hx' nx h1 h2 (fun M' F' cm y7 b1 b2 b3 b4 b5 b6 b7 b8 h1 h2 => ok M' F' cm y7 (ag_tr aS b1 rfl rfl) (agc_tr gS b2 rfl rfl) (oth_tr oS b3) ?_ b5 (fun i hi => (b6 i hi).trans ?_) b7 b8 h1 h2)
      · have b4 : (M1.1 34).toInt ≤ (M'.1 34).toInt := b4
        have := st.2.1
        omega
      · show va_up M1.2.1 40 (upd (M1.2.1 40) (16 * c + k) (nI w)) 40 i = _
        rw [vu_at, upd_ne (by omega), a1.2 40 rfl]
    -- few or not
    have cap : ∀ (y6 s : Int32), b_readCodes_160 (nI c) x4 (nI (bfs cn k + w)) y6 (nI k) s (M1.1, va_up M1.2.1 40 (upd (M1.2.1 40) (16 * c + k) (nI w)), M1.2.2) R2 (fun zx3 zx4 zx5 zx6 zx7 zx8 zS => e_readCodes_82 zx3 zx4 zx5 zx6 zx7 zx8 zS R2 K0) K0 → ((y6 ≤ 100000 ∧ e_readCodes_82 (nI c) x4 (nI (bfs cn k + w)) y6 s (nI k + 1) (M1.1, va_up M1.2.1 40 (upd (M1.2.1 40) (16 * c + k) (nI w)), M1.2.2) R2 K0) ∨ (¬ y6 ≤ 100000 ∧ ∃ z6, e_readCodes_82 (nI c) x4 (nI (bfs cn k + w)) z6 s (nI k + 1) (M1.1, va_up M1.2.1 40 (upd (M1.2.1 40) (16 * c + k) (nI w)), M1.2.2) R2 K0)) := by
      intro y6 s h
      unfold b_readCodes_160 b_readCodes_178 b_readCodes_180 at h
      exact dt_p h (fun q h => Or.inl ⟨q, h⟩) (fun q h => Or.inr ⟨q, _, h⟩)
    have fewN : ∀ (y6 : Int32), (∃ j, j < k + 1 ∧ ¬ fcs (fun j => if j = k then w else cn j) (j + 1) < 2 ^ (j + 1)) → b_readCodes_159 (nI c) x4 (nI (bfs cn k + w)) y6 (nI k) (M1.1, va_up M1.2.1 40 (upd (M1.2.1 40) (16 * c + k) (nI w)), M1.2.2) R2 (fun zx3 zx4 zx5 zx6 zx7 zx8 zS => e_readCodes_82 zx3 zx4 zx5 zx6 zx7 zx8 zS R2 K0) K0 → G := by
      intro y6 hj h
      unfold b_readCodes_159 at h
      rcases cap _ _ h with ⟨-, h⟩ | ⟨-, z6, h⟩
      · exact go _ 0 (Or.inr ⟨rfl, hj⟩) h
      · exact go _ 0 (Or.inr ⟨rfl, hj⟩) h
    rcases hx with ⟨rfl, rfl, hfw⟩ | ⟨rfl, j, j1, j2⟩
    · have h1 := h1.2 (by decide)
      have fl : fcs cn k < 2 ^ k := by
        cases k with
        | zero => show 0 < 1; decide
        | succ m => exact hfw m (by omega)
      have p15 : 2 ^ k ≤ 2 ^ 15 := Nat.pow_le_pow_right (by decide) (by omega)
      have e15 : (2 : Nat) ^ 15 = 32768 := by decide
      have p2 : 2 ^ (k + 1) = 2 * 2 ^ k := by rw [Nat.pow_succ, Nat.mul_comm]
      rw [show ((2 * nI (fcs cn k)) + nI w : Int32) = nI (2 * fcs cn k + w) from by rw [show (2 * nI (fcs cn k) : Int32) = nI (2 * fcs cn k) from pk_mul 2 _, nI_add], show (nI k + 1 : Int32) = nI (k + 1) from nI_1 k, shl_n (show k + 1 ≤ 16 by omega)] at h1
      by_cases c2 : 2 * fcs cn k + w < 2 ^ (k + 1)
      · have h1 := h1.2 (nI_ge c2 (by omega))
        rcases cap _ _ h1 with ⟨-, h1⟩ | ⟨q, -⟩
        · refine go _ 1 (Or.inl ⟨rfl, by rw [fk], fun j hj => ?_⟩) h1
          by_cases e : j = k
          · rw [e, fk]
            exact c2
          · rw [(fb (j + 1) (by omega)).1]
            exact hfw j (by omega)
        · exact absurd (nI_le (b := 100000) (by omega) (by decide)) q
      · exact fewN _ ⟨k, by omega, by rw [fk]; exact c2⟩ (h1.1 (nI_le (by omega) (by omega)))
    · exact fewN _ ⟨j, by omega, by rw [(fb (j + 1) (by omega)).1]; exact j2⟩ (h1.1 rfl)
end CNT

/-! UNPACK: codes: their symbols; all codes of a section -/
def Qc (c : Nat) : Int32 → Prop := if c < 2 then isSt else isRs
/-- codes that are told, both sides -/
def coR (M : ms) (F : cF) : Prop := ∀ c, c < 4 → F (co c) 0 = M.2.1 42 c ∧ (¬ M.2.1 42 c = 0 → cdR (Qc c) c (co c) M F)
section SYM
variable {L : cL} {a b : Bool} {P : Nat → Nat → Nat} {K0 : ms → Prop} {R2 : Int32 → ms → Prop} {KC : cs → Prop} {T2 : Nat → cs → Prop} {G : Prop} {c kd al : Nat}
theorem co_fu {F F1 : cF} (hc : c < 4) (h : fuC F F1) : (∀ k, 1 ≤ k → k ≤ 4 → F1 (co c + k) = F (co c + k)) ∧ F1 (co c) 0 = F (co c) 0 ∧ F1 (co c) 5 = F (co c) 5 := by
  have q : c = 0 ∨ c = 1 ∨ c = 2 ∨ c = 3 := by omega
  refine ⟨fun k k1 k2 => ?_, ?_, ?_⟩
  · have q2 : k = 1 ∨ k = 2 ∨ k = 3 ∨ k = 4 := by omega
    rcases q with rfl | rfl | rfl | rfl <;> rcases q2 with rfl | rfl | rfl | rfl <;> exact h.2 _ rfl rfl
  · rcases q with rfl | rfl | rfl | rfl <;> exact h.1 _ 0 rfl rfl
  · rcases q with rfl | rfl | rfl | rfl <;> exact h.1 _ 5 rfl rfl
theorem y_sym (hc : c < 4) (hkd : (c < 2 ∧ kd = c) ∨ (2 ≤ c ∧ kd = c + 14)) (hal : al ≤ 256)
    (bR : ∀ x M' F', R2 x M' → flt M' → T2 13 (F', L, PC a b P) → G) (bK : ∀ M' F', K0 M' → flt M' → T2 13 (F', L, PC a b P) → G) : ∀ d k (S : ms) (F : cF), al - k = d → k ≤ al → rq S F → F (co c) 5 = nI al → (∀ j, j < k → F (co c + 4) j = S.2.1 41 (256 * c + j) ∧ (B 0 255 (F (co c + 4) j) ∧ Qc c (F (co c + 4) j))) →
    e_readCodes_213 (nI c) (nI al) (nI k) S R2 K0 → e_Un_readCodes_111 UL 59 (nI kd) (co c) (nI k) (F, L, PC a b P) KC T2 →
    (∀ M' F', ag [10, 34, 35] [41] S M' → fcC F F' → oth c F F' → (∀ k, 1 ≤ k → k ≤ 3 → F' (co c + k) = F (co c + k)) → (S.1 34).toInt ≤ (M'.1 34).toInt → rq M' F' → (∀ i, (i < 256 * c ∨ 256 * c + 256 ≤ i) → M'.2.1 41 i = S.2.1 41 i) → (∀ j, j < al → F' (co c + 4) j = M'.2.1 41 (256 * c + j) ∧ (B 0 255 (F' (co c + 4) j) ∧ Qc c (F' (co c + 4) j))) → b_readCodes_328 (nI c) M' R2 K0 → KC (va_up F' (co c) (upd (F' (co c)) 0 1), L, PC a b P) → G) → G := by
  intro d
  induction d with
  | zero =>
    intro k S F hd hk hq h5 he h1 h2 ok
    obtain rfl : k = al := by omega
    have h1 := r_e_readCodes_213 h1
    unfold b_readCodes_213 at h1
    have h2 := r_e_Un_readCodes_111 h2
    unfold b_Un_readCodes_111 at h2
    obtain ⟨-, h2⟩ := h2
    have h2 := h2.1 (by show F (co c) 5 ≤ nI k; rw [h5]; exact Int32.le_refl _)
    exact ok S F ag_refl agc_refl oth_refl (fun _ _ _ => rfl) (Int.le_refl _) hq (fun _ _ => rfl) he (h1.1 (Int32.le_refl _)) h2
  | succ d ih =>
    intro k S F hd hk hq h5 he h1 h2 ok
    have kal : k < al := by omega
    have hr := hq.1
    have hl := hq.2.1
    have h1 := r_e_readCodes_213 h1
    unfold b_readCodes_213 at h1
    have h1 := (h1.2 (nI_ge kal (by omega))).2 hr.1
    have h2 := r_e_Un_readCodes_111 h2
    unfold b_Un_readCodes_111 at h2
    obtain ⟨-, h2⟩ := h2
    have h2 := h2.2 (by show ¬ F (co c) 5 ≤ nI k; rw [h5]; exact nI_ge kal (by omega))
    have fb : ∀ (v s : Int32) (M1 : ms) (F1 : cF), b_readCodes_291 (nI c) (nI al) (nI k) v s M1 R2 (fun zx3 zx5 zx8 zS => e_readCodes_213 zx3 zx5 zx8 zS R2 K0) K0 → flt M1 → T2 13 (F1, L, PC a b P) → G := fun v s M1 F1 h hf ht => f_b_readCodes_291 h hf (fun x M' hk hf => bR x M' F1 hk hf ht) (fun _ _ _ M' hk hf => f_e_readCodes_213 hk hf (fun x M' hk hf => bR x M' F1 hk hf ht) (fun M' hk hf => bK M' F1 hk hf ht)) (fun M' hk hf => bK M' F1 hk hf ht)
    -- the reference's test of a symbol
    have ref : ∀ (v : Int32) (M1 : ms), ((2 ≤ nI c → ((v = 0 → (b_readCodes_286 (nI c) (nI al) (nI k) v M1 R2 (fun zx3 zx5 zx8 zS => e_readCodes_213 zx3 zx5 zx8 zS R2 K0) K0)) ∧ (¬ (v = 0) → ((v = 240 → (b_readCodes_286 (nI c) (nI al) (nI k) v M1 R2 (fun zx3 zx5 zx8 zS => e_readCodes_213 zx3 zx5 zx8 zS R2 K0) K0)) ∧ (¬ (v = 240) → (((v &&& 15) ≤ 0 → (b_readCodes_290 (nI c) (nI al) (nI k) v M1 R2 (fun zx3 zx5 zx8 zS => e_readCodes_213 zx3 zx5 zx8 zS R2 K0) K0)) ∧ (¬ ((v &&& 15) ≤ 0) → ((11 ≤ (v &&& 15) → (b_readCodes_290 (nI c) (nI al) (nI k) v M1 R2 (fun zx3 zx5 zx8 zS => e_readCodes_213 zx3 zx5 zx8 zS R2 K0) K0)) ∧ (¬ (11 ≤ (v &&& 15)) → (b_readCodes_286 (nI c) (nI al) (nI k) v M1 R2 (fun zx3 zx5 zx8 zS => e_readCodes_213 zx3 zx5 zx8 zS R2 K0) K0)))))))))) ∧ (¬ (2 ≤ nI c) → ((12 ≤ v → (b_readCodes_291 (nI c) (nI al) (nI k) v 0 M1 R2 (fun zx3 zx5 zx8 zS => e_readCodes_213 zx3 zx5 zx8 zS R2 K0) K0)) ∧ (¬ (12 ≤ v) → (b_readCodes_291 (nI c) (nI al) (nI k) v 1 M1 R2 (fun zx3 zx5 zx8 zS => e_readCodes_213 zx3 zx5 zx8 zS R2 K0) K0))))) → ∃ s : Int32, b_readCodes_291 (nI c) (nI al) (nI k) v s M1 R2 (fun zx3 zx5 zx8 zS => e_readCodes_213 zx3 zx5 zx8 zS R2 K0) K0 ∧ (∀ w : Nat, v = nI w → w ≤ 255 → ((s = 1 ∧ Qc c v) ∨ (s = 0 ∧ ¬ Qc c v))) := by
      intro v M1 h
      unfold b_readCodes_286 b_readCodes_290 at h
      by_cases c2 : c < 2
      · have h := h.2 (nI_ge (b := 2) c2 (by decide))
        have qe : Qc c v = isSt v := by unfold Qc; rw [if_pos c2]
        rw [qe]
        refine dt_p h (fun q h => ⟨0, h, fun w hw hl => Or.inr ⟨rfl, fun q2 => ?_⟩⟩) (fun q h => ⟨1, h, fun w hw hl => Or.inl ⟨rfl, ?_⟩⟩)
        · have q := i_le q
          have q2 : v.toInt ≤ 11 := q2
          have : (12 : Int32).toInt = 12 := by decide
          omega
        · have q := i_lt (nle_lt q)
          have : (12 : Int32).toInt = 12 := by decide
          show v.toInt ≤ 11
          omega
      · have h := h.1 (nI_le (a := 2) (by omega) (by omega))
        have qe : Qc c v = isRs v := by unfold Qc; rw [if_neg c2]
        rw [qe]
        have lo : ∀ w : Nat, v = nI w → w ≤ 255 → (v &&& 15).toInt = v.toInt % 16 := by
          intro w hw hl
          rw [hw, n_and15 hl, nI_toInt (by omega), nI_toInt (by omega)]
          omega
        have z0 : (0 : Int32).toInt = 0 := by decide
        have z11 : (11 : Int32).toInt = 11 := by decide
        refine dt_p h (fun q h => ⟨1, h, fun w hw hl => Or.inl ⟨rfl, Or.inl q⟩⟩) (fun q0 h => ?_)
        refine dt_p h (fun q h => ⟨1, h, fun w hw hl => Or.inl ⟨rfl, Or.inr (Or.inl q)⟩⟩) (fun q1 h => ?_)
        refine dt_p h (fun q h => ⟨0, h, fun w hw hl => Or.inr ⟨rfl, fun q2 => ?_⟩⟩) (fun q2 h => ?_)
        · have q := i_le q
          rw [lo w hw hl] at q
          rcases q2 with e | e | e
          · exact q0 e
          · exact q1 e
          · omega
        refine dt_p h (fun q h => ⟨0, h, fun w hw hl => Or.inr ⟨rfl, fun q3 => ?_⟩⟩) (fun q h => ⟨1, h, fun w hw hl => Or.inl ⟨rfl, Or.inr (Or.inr ?_)⟩⟩)
        · have q := i_le q
          rw [lo w hw hl] at q
          rcases q3 with e | e | e
          · exact q0 e
          · exact q1 e
          · omega
        · have q := i_lt (nle_lt q)
          have q2 := i_lt (nle_lt q2)
          rw [lo w hw hl] at q q2
          omega
    refine x_within hr hl h1 h2 (fun cc h1 h2 => ?_) (fun v M1 F1 f1 h1 h2 => by
      obtain ⟨s, h1, -⟩ := ref v M1 h1
      exact fb _ _ _ F1 h1 f1 h2)
    obtain ⟨-, -, h2⟩ := h2
    have h2 : p_Re_read UL 60 (F, L, PC a b P) _ T2 := h2
    refine x_read hr h1 h2 (fun v M1 F1 a1 a2 a3 a4 a5 a6 a7 h1 h2 => ?_) (fun v M1 F1 f1 _ _ h1 h2 => by
      obtain ⟨s, h1, -⟩ := ref v M1 h1
      exact fb _ _ _ F1 h1 f1 h2)
    have bv := hq.2.2.2.1 (S.1 34).toNatClampNeg
    rw [← a7] at bv
    obtain ⟨w, ew, hw⟩ := b16 bv
    obtain ⟨s, h1, hs⟩ := ref v M1 h1
    -- the class's test
    have cls : (Qc c v ∧ b_Un_readCodes_174 UL 59 (nI kd) (co c) (nI k) v (F1, L, PC a b P) (fun zx1 zx2 zx4 zS => e_Un_readCodes_111 UL 59 zx1 zx2 zx4 zS KC T2) KC T2) ∨ (¬ Qc c v ∧ b_Un_readCodes_157 UL 59 (nI kd) (co c) (nI k) v (F1, L, PC a b P) (fun zx1 zx2 zx4 zS => e_Un_readCodes_111 UL 59 zx1 zx2 zx4 zS KC T2) KC T2) := by
      rcases hkd with ⟨c2, ek⟩ | ⟨c2, ek⟩
      · have h2 := h2.2 (nI_ge (b := 16) (by omega) (by decide))
        have qe : Qc c v = isSt v := by unfold Qc; rw [if_pos c2]
        rw [qe]
        have z11 : (11 : Int32).toInt = 11 := by decide
        refine dt_p h2 (fun q h => Or.inl ⟨?_, h⟩) (fun q h => Or.inr ⟨fun q2 => ?_, h⟩)
        · have q := i_le q
          show v.toInt ≤ 11
          omega
        · have q := i_lt (nle_lt q)
          have q2 : v.toInt ≤ 11 := q2
          omega
      · have h2 := h2.1 (nI_le (a := 16) (by omega) (by omega))
        have qe : Qc c v = isRs v := by unfold Qc; rw [if_neg (by omega)]
        rw [qe]
        unfold p_Un_isForRests b_Un_isForRests_24 b_Un_isForRests_29 at h2
        refine dt_p h2 (fun q h => Or.inl ⟨Or.inl q, h.2.1 (by decide)⟩) (fun q0 h => ?_)
        refine dt_p h (fun q h => Or.inl ⟨Or.inr (Or.inl q), h.2.1 (by decide)⟩) (fun q1 h => ?_)
        have e16 : (v - v / 16 * 16 : Int32) = nI (w % 16) := by rw [ew]; exact pk_rem (d := 16) (by omega) (by decide) (by decide)
        have m16 : v.toInt % 16 = ((w % 16 : Nat) : Int) := by rw [ew, nI_toInt (by omega)]; omega
        rw [e16] at h
        have z1 : (1 : Int32).toInt = 1 := by decide
        have z10 : (10 : Int32).toInt = 10 := by decide
        rcases q_isWithin h with ⟨i1, i2, h⟩ | ⟨i1, h⟩
        · rw [nI_toInt (by omega)] at i1 i2
          exact Or.inl ⟨Or.inr (Or.inr (by rw [m16]; omega)), (h.2 (by decide)).2.1 (by decide)⟩
        · rw [nI_toInt (by omega)] at i1
          refine Or.inr ⟨fun q2 => ?_, (h.1 rfl).2.2 rfl⟩
          rcases q2 with e | e | e
          · exact q0 e
          · exact q1 e
          · rw [m16] at e
            omega
    rcases cls with ⟨hQ, h2⟩ | ⟨hQ, h2⟩
    · have s1 : s = 1 := by
        rcases hs w ew hw with ⟨e, -⟩ | ⟨-, e⟩
        · exact e
        · exact absurd hQ e
      subst s1
      unfold b_readCodes_291 at h1
      have h1 := q_must1 (by decide) h1
      obtain ⟨-, h1⟩ := h1.2 a3
      unfold b_readCodes_322 at h1
      rw [show ((256 * nI c) + nI k : Int32) = nI (256 * c + k) from by rw [show (256 * nI c : Int32) = nI (256 * c) from pk_mul 256 c, nI_add], nI_clamp (show 256 * c + k < 2 ^ 31 by omega), nI_1] at h1
      unfold b_Un_readCodes_174 at h2
      obtain ⟨-, -, -, -, h2⟩ := h2
      dsimp only at h2
      rw [co4 (co_is (by omega)), nI_clamp (show k < 2 ^ 31 by omega), nI_1] at h2
      have st := rq_s hq a1 a2 a4 a5 a6
      obtain ⟨m1, m2, m3, m4, m5, m6⟩ := m_fc (d := 4) hc (by decide) (by decide)
      obtain ⟨u1, u2, u3⟩ := co_fu hc a5
      have q2 : rq (M1.1, va_up M1.2.1 41 (upd (M1.2.1 41) (256 * c + k) v), M1.2.2) (va_up F1 (co c + 4) (upd (F1 (co c + 4)) k v)) := rq_r st.1 (by decide) (by decide) m3 m4 m5 m6
      have gS : fcC F (va_up F1 (co c + 4) (upd (F1 (co c + 4)) k v)) := agc_r (agc_tr (agc_refl (fs := [6001, 6006, 6007, 8100, 8105, 8600, 8605, 9100, 9105, 9600, 9605]) (rs := [82, 83, 84, 85, 87, 88, 89, 90, 92, 93, 94, 95, 97, 98, 99, 100])) a5 rfl rfl) m1 m2
      have aS : ag [10, 34, 35] [41] S (M1.1, va_up M1.2.1 41 (upd (M1.2.1 41) (256 * c + k) v), M1.2.2) := ag_r (ag_tr (ag_refl (fs := [10, 34, 35]) (rs := [41])) a1 rfl rfl) rfl
      have oS : oth c F (va_up F1 (co c + 4) (upd (F1 (co c + 4)) k v)) := oth_tr (oth_fu a5) (oth_up (by decide))
      refine ih (k + 1) _ _ (by omega) (by omega) q2 (by rw [vu_ne (show co c ≠ co c + 4 by omega), u3]; exact h5) (fun j hj => ?_) h1 h2 (fun M' F' b1 b2 b3 b4 b5 b6 b7 b8 h1 h2 => ok M' F' (ag_tr aS b1 rfl rfl) (agc_tr gS b2 rfl rfl) (oth_tr oS b3) (fun k k1 k2 => ?_) ?_ b6 (fun i hi => (b7 i hi).trans ?_) b8 h1 h2)
      · dsimp only
        rw [vu_at, vu_at]
        by_cases e : j = k
        · rw [e, upd_at, upd_at]
          exact ⟨rfl, bv, hQ⟩
        · rw [upd_ne e, upd_ne (by omega), u1 4 (by decide) (by decide), a1.2 41 rfl]
          exact he j (by omega)
      · rw [b4 k k1 k2, vu_ne (by omega), u1 k k1 (by omega)]
      · have b5 : (M1.1 34).toInt ≤ (M'.1 34).toInt := b5
        have := st.2.1
        omega
      · show va_up M1.2.1 41 (upd (M1.2.1 41) (256 * c + k) v) 41 i = _
        rw [vu_at, upd_ne (by omega), a1.2 41 rfl]
    · have s0 : s = 0 := by
        rcases hs w ew hw with ⟨-, e⟩ | ⟨e, -⟩
        · exact absurd e hQ
        · exact e
      subst s0
      unfold b_readCodes_291 at h1
      obtain ⟨Z, hf, h1⟩ := q_must0 (S := M1) a3 h1
      have h1 := h1.1 (flt_n hf)
      unfold b_readCodes_322 at h1
      unfold b_Un_readCodes_157 at h2
      obtain ⟨-, -, -, h2⟩ := h2
      have h2 : p_Re_fail UL 60 _ _ (F1, L, PC a b P) _ T2 := h2
      obtain ⟨F2, -, -, h2⟩ := q_Rfail h2
      exact f_e_readCodes_213 h1 hf (fun x M' hk hf => bR x M' F2 hk hf h2) (fun M' hk hf => bK M' F2 hk hf h2)
end SYM

/-! UNPACK: all codes of a section -/
theorem cdR_o {Q : Int32 → Prop} {c u : Nat} {M M' : ms} {F F' : cF} (h : cdR Q c u M F) (h40 : ∀ n, n < 16 → M'.2.1 40 (16 * c + n) = M.2.1 40 (16 * c + n)) (h41 : ∀ j, j < 256 → M'.2.1 41 (256 * c + j) = M.2.1 41 (256 * c + j)) (hf : ∀ k, 1 ≤ k → k ≤ 4 → F' (u + k) = F (u + k)) : cdR Q c u M' F' := by
  obtain ⟨cn, h1, h2, h3⟩ := h
  refine ⟨cn, fun n hn => ?_, h2, fun j hj => ?_⟩
  · rw [h40 n hn, hf 1 (by decide) (by decide), hf 2 (by decide) (by decide), hf 3 (by decide) (by decide)]
    exact h1 n hn
  · rw [h41 j (by omega), hf 4 (by decide) (by decide)]
    exact h3 j hj
theorem fcC_g {c : Nat} {F Z : cF} (hc : c < 4) (zw : ∀ w, w ≠ co c → w ≠ co c + 2 → w ≠ co c + 3 → Z w = F w) (zk : ∀ k, k ≠ 5 → Z (co c) k = F (co c) k) : fcC F Z := by
  obtain ⟨m1, m2, -⟩ := m_fc (d := 2) hc (by decide) (by decide)
  obtain ⟨n1, n2, -⟩ := m_fc (d := 3) hc (by decide) (by decide)
  have q : c = 0 ∨ c = 1 ∨ c = 2 ∨ c = 3 := by omega
  have o5 : OB (co c) = true ∧ [6001, 6006, 6007, 8100, 8105, 8600, 8605, 9100, 9105, 9600, 9605].contains (100 * co c + 5) = true := by
    rcases q with rfl | rfl | rfl | rfl <;> exact ⟨rfl, rfl⟩
  refine ⟨fun w k o hw => ?_, fun w o hw => ?_⟩
  · by_cases e : w = co c
    · subst e
      refine zk k (fun e5 => ?_)
      rw [e5, o5.2] at hw
      exact absurd hw (by decide)
    · rw [zw w e (fun e2 => by rw [e2, m1] at o; exact absurd o (by decide)) (fun e2 => by rw [e2, n1] at o; exact absurd o (by decide))]
  · refine zw w (fun e2 => by rw [e2, o5.1] at o; exact absurd o (by decide)) (fun e2 => ?_) (fun e2 => ?_)
    · rw [e2, m2] at hw
      exact absurd hw (by decide)
    · rw [e2, n2] at hw
      exact absurd hw (by decide)
theorem rq_w {M : ms} {F Z : cF} (h : rq M F) (e59 : Z 59 = F 59) (e60 : Z 60 = F 60) (e61 : Z 61 = F 61) (e62 : Z 62 = F 62) : rq M Z := by
  obtain ⟨h1, h2, h3, h4, h5⟩ := h
  exact ⟨rd_b h1 rfl rfl rfl rfl (by rw [e60]) (by rw [e61]) e62, rl_k h2 rfl rfl (by rw [e59]) (by rw [e59]), h3, h4, h5⟩
section CODES
variable {S0 : ms} {F0 : cF} {L : cL} {a b : Bool} {P : Nat → Nat → Nat} {K0 : ms → Prop} {KC : cs → Prop} {T2 : Nat → cs → Prop} {G : Prop}
theorem y_codes (bad : ∀ M' F', K0 M' → flt M' → T2 13 (F', L, PC a b P) → G)
    (ok : ∀ M' F', ag [10, 34, 35] [40, 41, 42] S0 M' → fcC F0 F' → (S0.1 34).toInt ≤ (M'.1 34).toInt → rq M' F' → coR M' F' → K0 M' → KC (F', L, PC a b P) → G) :
    ∀ (n i : Nat) (S : ms) (F : cF) (x1 : Int32), (32768 - (S.1 34).toInt).toNat < n → rq S F → coR S F → ((x1 = 1 ∧ S.1 34 < S.1 36) ∨ (x1 = 0 ∧ ¬ S.1 34 < S.1 36)) → (i : Int) + 1 ≤ (S.1 34).toInt → ag [10, 34, 35] [40, 41, 42] S0 S → fcC F0 F → (S0.1 34).toInt ≤ (S.1 34).toInt → e_readCodes_2 x1 S K0 → e_Un_readParts_2 UL 59 196 (nI i) (F, L, PC a b P) KC T2 → G := by
  intro n
  induction n with
  | zero => intro i S F x1 h; exact absurd h (Nat.not_lt_zero _)
  | succ n ih =>
    intro i S F x1 hn hq ht hx hi ha hg hat h1 h2
    have hr := hq.1
    have hl := hq.2.1
    have a32 := hq.2.2.2.2.2.2
    have fe : ∀ (x : Int32) (M1 : ms) (F1 : cF), e_readCodes_2 x M1 K0 → flt M1 → T2 13 (F1, L, PC a b P) → G := fun x M1 F1 h hf ht => f_e_readCodes_2 h hf (fun M' hk hf => bad M' F1 hk hf ht)
    have h1 := r_e_readCodes_2 h1
    unfold b_readCodes_2 b_readCodes_362 b_readCodes_36 at h1
    have h2 := r_e_Un_readParts_2 h2
    unfold b_Un_readParts_2 b_Un_readParts_51 b_Un_readParts_45 at h2
    obtain ⟨-, -, h2⟩ := h2
    have h2 : (F 59 12 + F 59 13 ≤ F 60 1 → KC (F, L, PC a b P)) ∧ (¬ F 59 12 + F 59 13 ≤ F 60 1 → _) := h2
    rw [hl.2, hr.2.1] at h2
    rcases hx with ⟨rfl, hlt⟩ | ⟨rfl, hnl⟩
    · have h1 := (h1.2 (by decide)).2 hr.1
      unfold p_nextWithin at h1
      have h1 := h1.1 hlt
      have h2 := ((h2.2 (fun q => by have := i_le q; have := i_lt hlt; omega)).2 (nI_ge (b := 32768) (by omega) (by decide))).1 (by decide)
      unfold p_Un_readCodes at h2
      have fb : ∀ (x s : Int32) (M1 : ms) (F1 : cF), b_readCodes_41 x s M1 (fun zx1 zS => e_readCodes_2 zx1 zS K0) K0 → flt M1 → T2 13 (F1, L, PC a b P) → G := fun x s M1 F1 h hf ht => f_b_readCodes_41 h hf (fun x M' hk hf => fe x M' F1 hk hf ht) (fun M' hk hf => bad M' F1 hk hf ht)
      have z17 : (17 : Int32).toInt = 17 := by decide
      have z0 : (0 : Int32).toInt = 0 := by decide
      -- the reference's test of the name
      have ref : ∀ (v : Int32) (M1 : ms), (v < 2 → b_readCodes_41 v 1 M1 (fun zx1 zS => e_readCodes_2 zx1 zS K0) K0) ∧ (¬ (v < 2) → ((v = 16 → b_readCodes_41 v 1 M1 (fun zx1 zS => e_readCodes_2 zx1 zS K0) K0) ∧ (¬ (v = 16) → ((¬ v = 17 → b_readCodes_41 v 0 M1 (fun zx1 zS => e_readCodes_2 zx1 zS K0) K0) ∧ (v = 17 → b_readCodes_41 v 1 M1 (fun zx1 zS => e_readCodes_2 zx1 zS K0) K0))))) → ∃ s : Int32, b_readCodes_41 v s M1 (fun zx1 zS => e_readCodes_2 zx1 zS K0) K0 ∧ ∀ w : Nat, v = nI w → w ≤ 255 → ((s = 1 ∧ (w < 2 ∨ w = 16 ∨ w = 17)) ∨ (s = 0 ∧ ¬ (w < 2 ∨ w = 16 ∨ w = 17))) := by
        intro v M1 h
        refine dt_p h (fun q h => ⟨1, h, fun w hw hl => Or.inl ⟨rfl, Or.inl ?_⟩⟩) (fun q0 h => ?_)
        · rw [hw] at q
          exact (nI_ltI (a := w) (b := 2) (by omega) (by decide)).mp q
        refine dt_p h (fun q h => ⟨1, h, fun w hw hl => Or.inl ⟨rfl, Or.inr (Or.inl ?_)⟩⟩) (fun q1 h => ?_)
        · rw [hw] at q
          exact (nI_eq (a := w) (b := 16) (by omega) (by decide)).mp q
        refine dt_n h (fun q h => ⟨0, h, fun w hw hl => Or.inr ⟨rfl, fun q3 => ?_⟩⟩) (fun q h => ⟨1, h, fun w hw hl => Or.inl ⟨rfl, Or.inr (Or.inr ?_)⟩⟩)
        · rcases q3 with e | e | e
          · exact q0 (by rw [hw]; exact nI_lt (b := 2) e (by decide))
          · exact q1 (by rw [hw, e]; rfl)
          · exact q (by rw [hw, e]; rfl)
        · rw [hw] at q
          exact (nI_eq (a := w) (b := 17) (by omega) (by decide)).mp q
      refine x_readW hr h1 h2 (fun v M1 F1 a1 a2 a3 a4 a5 a6 a7 i1 i2 h1 h2 => ?_) (fun v M1 F1 a1 a3 a7 i1 h1 h2 => ?_) (fun v M1 F1 f1 h1 h2 => ?_)
      · rw [z0] at i1
        rw [z17] at i2
        obtain ⟨w, rfl, hw⟩ : ∃ w : Nat, v = nI w ∧ w ≤ 17 := ⟨v.toInt.toNat, nI_i i1, by omega⟩
        obtain ⟨s, h1, hs⟩ := ref _ M1 h1
        have hs := hs w rfl (by omega)
        have e16 : (nI w - nI w / 16 * 16 : Int32) = nI (w % 16) := pk_rem (d := 16) (by omega) (by decide) (by decide)
        have d16 : (nI w / 16 : Int32) = nI (w / 16) := pk_div (d := 16) (by omega) (by decide) (by decide)
        rw [e16] at h2
        by_cases val : w < 2 ∨ w = 16 ∨ w = 17
        · have s1 : s = 1 := by
            rcases hs with ⟨e, -⟩ | ⟨-, e⟩
            · exact e
            · exact absurd val e
          subst s1
          obtain ⟨c, hc, hkd⟩ : ∃ c, c < 4 ∧ ((c < 2 ∧ w = c) ∨ (2 ≤ c ∧ w = c + 14)) := by
            by_cases q : w < 2
            · exact ⟨w, by omega, Or.inl ⟨q, rfl⟩⟩
            · exact ⟨w - 14, by omega, Or.inr ⟨by omega, by omega⟩⟩
          unfold b_readCodes_41 at h1
          have h1 := q_must1 (by decide) h1
          have h1 : e_readCodes_82 (nI c) (M1.1 34) 0 0 1 0 M1 (fun zx1 zS => e_readCodes_2 zx1 zS K0) K0 := by
            unfold b_readCodes_63 at h1
            rcases hkd with ⟨q, e⟩ | ⟨q, e⟩
            · rw [e] at h1
              exact h1.2 (nI_ge (b := 2) q (by decide))
            · have h1 := h1.1 (nI_le (a := 2) (by omega) (by omega))
              rw [e, show (nI (c + 14) - 14 : Int32) = nI c from by rw [show (14 : Int32) = nI 14 from rfl, pk_sub (by omega), Nat.add_sub_cancel]] at h1
              exact h1
          have h2 := h2.1 (nI_le (b := 1) (by omega) (by decide))
          unfold b_Un_readCodes_33 at h2
          obtain ⟨-, -, -, -, -, -, h2⟩ := h2
          have h2 : e_Un_readCodes_61 UL 59 (nI w) (PC a b P 80 (((nI w / 16) * 2) + (nI w - nI w / 16 * 16) : Int32).toNatClampNeg) (F1 60 1) 1 (F1, L, PC a b P) (fun S42 => e_Un_readParts_2 UL 59 196 (nI i + 1) S42 KC T2) T2 := h2
          have ec : w / 16 * 2 + w % 16 = c := by rcases hkd with ⟨q, e⟩ | ⟨q, e⟩ <;> omega
          rw [e16, d16, show (2 : Int32) = nI 2 from rfl, pk_mul, nI_add, ec, nI_clamp (show c < 2 ^ 31 by omega), co_p (by omega), nI_1] at h2
          have st := rq_s hq a1 a2 a4 a5 a6
          refine y_cnt (R2 := fun zx1 zS => e_readCodes_2 zx1 zS K0) (KC := fun S42 => e_Un_readParts_2 UL 59 196 (nI (i + 1)) S42 KC T2) hc (fun x M' F' hk hf ht => fe x M' F' hk hf ht) (fun M' F' hk hf ht => bad M' F' hk hf ht) 16 0 M1 F1 (fun _ => 0) 0 1 rfl (by decide) st.1 (Or.inl ⟨rfl, rfl, fun j hj => absurd hj (Nat.not_lt_zero _)⟩) (fun j hj => absurd hj (Nat.not_lt_zero _)) h1 h2 (fun M2 F2 cm x7 b1 b2 b3 b4 b5 b6 b7 b8 h1 h2 => ?_)
          rcases q_giveC (co_is (by omega)) (fun n hn => ⟨(b7 n hn).1, (b7 n hn).2.2⟩) h2 with ⟨fit, Z, zw, zk, z5, zr, h2⟩ | ⟨nfit, Z, h2⟩
          · have f1 : fwcn cm 16 := fun j hj => (fit j hj).1
            have f2 : bfs cm 16 ≤ 256 := (fit 15 (by decide)).2
            have x71 : x7 = 1 := by
              rcases b8 with ⟨e, -⟩ | ⟨-, e⟩
              · exact e
              · exact absurd f1 e
            subst x71
            unfold b_readCodes_186 at h1
            have h1 := (h1.2 (by decide)).2 (nI_nlt (a := 256) f2 (by decide))
            unfold b_readCodes_205 at h1
            have h1 := q_must1 (by decide) h1
            have h2 := h2.1 (by decide)
            unfold b_Un_readCodes_108 at h2
            have cc : co c = 81 + 5 * c := rfl
            have qZ : rq M2 Z := rq_w b5 (zw 59 (by omega) (by omega) (by omega)) (zw 60 (by omega) (by omega) (by omega)) (zw 61 (by omega) (by omega) (by omega)) (zw 62 (by omega) (by omega) (by omega))
            refine y_sym (R2 := fun zx1 zS => e_readCodes_2 zx1 zS K0) (KC := fun S42 => e_Un_readParts_2 UL 59 196 (nI (i + 1)) S42 KC T2) (kd := w) hc hkd f2 (fun x M' F' hk hf ht => fe x M' F' hk hf ht) (fun M' F' hk hf ht => bad M' F' hk hf ht) _ 0 M2 Z rfl (Nat.zero_le _) qZ z5 (fun j hj => absurd hj (Nat.not_lt_zero _)) h1 h2 (fun M3 F3 c1 c2 c3 c4 c5 c6 c7 c8 h1 h2 => ?_)
            unfold b_readCodes_328 at h1
            obtain ⟨-, h1⟩ := h1.2 c6.1.1
            rw [nI_clamp (show c < 2 ^ 31 by omega)] at h1
            unfold b_readCodes_342 b_readCodes_358 at h1
            have h1 : (M3.1 36 ≤ M3.1 34 → e_readCodes_2 0 (M3.1, va_up M3.2.1 42 (upd (M3.2.1 42) c 1), M3.2.2) K0) ∧ (¬ M3.1 36 ≤ M3.1 34 → e_readCodes_2 1 (M3.1, va_up M3.2.1 42 (upd (M3.2.1 42) c 1), M3.2.2) K0) := h1
            have oc : OB (co c) = true ∧ [6001, 6006, 6007, 8100, 8105, 8600, 8605, 9100, 9105, 9600, 9605].contains (100 * co c + 0) = true := by
              have q : c = 0 ∨ c = 1 ∨ c = 2 ∨ c = 3 := by omega
              rcases q with rfl | rfl | rfl | rfl <;> exact ⟨rfl, rfl⟩
            have q3 : rq (M3.1, va_up M3.2.1 42 (upd (M3.2.1 42) c 1), M3.2.2) (va_up F3 (co c) (upd (F3 (co c)) 0 1)) := rq_r c6 (by decide) (by decide) (by omega) (by omega) (by omega) (by omega)
            have aS : ag [10, 34, 35] [40, 41, 42] S0 (M3.1, va_up M3.2.1 42 (upd (M3.2.1 42) c 1), M3.2.2) := ag_r (ag_tr (ag_tr (ag_tr ha a1 rfl rfl) b1 rfl rfl) c1 rfl rfl) rfl
            have gS : fcC F0 (va_up F3 (co c) (upd (F3 (co c)) 0 1)) := agc_f (agc_tr (agc_tr (agc_tr (agc_tr hg a5 rfl rfl) b2 rfl rfl) (fcC_g hc zw zk) rfl rfl) c2 rfl rfl) oc.1 oc.2
            have oS : oth c F (va_up F3 (co c) (upd (F3 (co c)) 0 1)) := oth_tr (oth_tr (oth_tr (oth_tr (oth_fu a5) b3) (oth_a zw)) c3) (oth_up (d := 0) (by decide))
            have pos : (S.1 34).toInt + 1 ≤ (M3.1 34).toInt := by have := st.2.1; omega
            have t3 : coR (M3.1, va_up M3.2.1 42 (upd (M3.2.1 42) c 1), M3.2.2) (va_up F3 (co c) (upd (F3 (co c)) 0 1)) := by
              intro c' hc'
              by_cases e : c' = c
              · subst e
                refine ⟨?_, fun _ => ?_⟩
                · show va_up F3 (co c') (upd (F3 (co c')) 0 1) (co c') 0 = va_up M3.2.1 42 (upd (M3.2.1 42) c' 1) 42 c'
                  rw [vu_at, vu_at, upd_at, upd_at]
                · have e40 : va_up M3.2.1 42 (upd (M3.2.1 42) c' 1) 40 = M2.2.1 40 := by rw [vu_ne (by decide), c1.2 40 rfl]
                  have e41 : va_up M3.2.1 42 (upd (M3.2.1 42) c' 1) 41 = M3.2.1 41 := vu_ne (by decide)
                  refine ⟨cm, fun n hn => ?_, f2, fun j hj => ?_⟩
                  · show _ ∧ va_up M3.2.1 42 (upd (M3.2.1 42) c' 1) 40 _ = _ ∧ _
                    rw [e40, vu_ne (show co c' + 1 ≠ co c' by omega), vu_ne (show co c' + 2 ≠ co c' by omega), vu_ne (show co c' + 3 ≠ co c' by omega), c4 1 (by decide) (by decide), c4 2 (by decide) (by decide), c4 3 (by decide) (by decide), zw (co c' + 1) (by omega) (by omega) (by omega)]
                    exact ⟨(b7 n hn).1, (b7 n hn).2.1, (b7 n hn).2.2, (zr n hn).1, (zr n hn).2⟩
                  · show _ = va_up M3.2.1 42 (upd (M3.2.1 42) c' 1) 41 _ ∧ _
                    rw [e41, vu_ne (show co c' + 4 ≠ co c' by omega)]
                    exact c8 j hj
              · obtain ⟨o1, o2⟩ := oS c' hc' e
                have m42 : va_up M3.2.1 42 (upd (M3.2.1 42) c 1) 42 c' = S.2.1 42 c' := by
                  rw [vu_at, upd_ne e, c1.2 42 rfl, b1.2 42 rfl, a1.2 42 rfl]
                refine ⟨?_, fun hne => ?_⟩
                · rw [o1]
                  show _ = va_up M3.2.1 42 (upd (M3.2.1 42) c 1) 42 c'
                  rw [m42]
                  exact (ht c' hc').1
                · have hne : ¬ va_up M3.2.1 42 (upd (M3.2.1 42) c 1) 42 c' = 0 := hne
                  rw [m42] at hne
                  refine cdR_o ((ht c' hc').2 hne) (fun n hn => ?_) (fun j hj => ?_) o2
                  · show va_up M3.2.1 42 (upd (M3.2.1 42) c 1) 40 (16 * c' + n) = _
                    rw [vu_ne (show (40 : Nat) ≠ 42 by decide), c1.2 40 rfl, b6 (16 * c' + n) (by omega), a1.2 40 rfl]
                  · show va_up M3.2.1 42 (upd (M3.2.1 42) c 1) 41 (256 * c' + j) = _
                    rw [vu_ne (show (41 : Nat) ≠ 42 by decide), c7 (256 * c' + j) (by omega), b1.2 41 rfl, a1.2 41 rfl]
            have go : ∀ x : Int32, ((x = 1 ∧ M3.1 34 < M3.1 36) ∨ (x = 0 ∧ ¬ M3.1 34 < M3.1 36)) → e_readCodes_2 x (M3.1, va_up M3.2.1 42 (upd (M3.2.1 42) c 1), M3.2.2) K0 → G := fun x hx h1 => ih (i + 1) _ _ x (by show (32768 - (M3.1 34).toInt).toNat < n; have := c6.2.2.2.2.2.2; omega) q3 t3 hx (by show ((i + 1 : Nat) : Int) + 1 ≤ (M3.1 34).toInt; omega) aS gS (by show _ ≤ (M3.1 34).toInt; omega) h1 h2
            refine dt_p h1 (fun cq h1 => go 0 (Or.inr ⟨rfl, fun q => ?_⟩) h1) (fun cq h1 => go 1 (Or.inl ⟨rfl, nle_lt cq⟩) h1)
            have := i_le cq
            have := i_lt q
            omega
          · obtain ⟨-, -, h2⟩ := h2.2 rfl
            have h2 : p_Re_fail UL 60 _ _ (Z, L, PC a b P) _ T2 := h2
            obtain ⟨F3, -, -, h2⟩ := q_Rfail h2
            have h1 : b_readCodes_204 (nI c) (M1.1 34) (nI (bfs cm 16)) M2 (fun zx1 zS => e_readCodes_2 zx1 zS K0) K0 := by
              unfold b_readCodes_186 at h1
              rcases b8 with ⟨e, hf⟩ | ⟨e, hf⟩
              · refine (h1.2 (by rw [e]; decide)).1 ?_
                have b4080 : ∀ m, m ≤ 16 → bfs cm m ≤ 255 * m := by
                  intro m
                  induction m with
                  | zero => intro _; exact Nat.le_refl _
                  | succ m ihm =>
                    intro hm
                    have := ihm (by omega)
                    have := (b7 m (by omega)).1
                    show bfs cm m + cm m ≤ 255 * (m + 1)
                    omega
                have := b4080 16 (by decide)
                refine nI_lt (a := 256) ?_ (by omega)
                refine Classical.byContradiction fun q => nfit (fun j hj => ⟨hf j hj, ?_⟩)
                have := bfs_le (cn := cm) (n := j + 1) (m := 16) (by omega)
                omega
              · exact h1.1 e
            unfold b_readCodes_204 b_readCodes_205 at h1
            obtain ⟨Y, hf, h1⟩ := q_must0 (S := M2) b5.1.1 h1
            exact f_e_readCodes_213 h1 hf (fun x M' hk hf => fe x M' F3 hk hf h2) (fun M' hk hf => bad M' F3 hk hf h2)
        · have s0 : s = 0 := by
            rcases hs with ⟨-, e⟩ | ⟨e, -⟩
            · exact absurd e val
            · exact e
          subst s0
          unfold b_readCodes_41 at h1
          obtain ⟨Y, hf, h1⟩ := q_must0 (S := M1) a3 h1
          obtain ⟨-, -, -, h2⟩ := h2.2 (nI_ge (a := 1) (by omega) (by omega))
          have h2 : p_Re_fail UL 60 _ _ (F1, L, PC a b P) _ T2 := h2
          obtain ⟨F3, -, -, h2⟩ := q_Rfail h2
          have fin : ∀ x : Int32, b_readCodes_63 x Y (fun zx1 zS => e_readCodes_2 zx1 zS K0) K0 → G := fun x h => f_b_readCodes_63 h hf (fun x M' hk hf => fe x M' F3 hk hf h2) (fun M' hk hf => bad M' F3 hk hf h2)
          exact dt_p h1 (fun _ h => fin _ h) (fun _ h => fin _ h)
      · obtain ⟨s, h1, hs⟩ := ref v M1 h1
        have tb := hq.2.2.2.1 (S.1 34).toNatClampNeg
        rw [← a7] at tb
        obtain ⟨w, ew, hw⟩ := b16 tb
        rw [z0, z17] at i1
        have w18 : 18 ≤ w := by
          rw [ew, nI_toInt (by omega)] at i1
          omega
        have s0 : s = 0 := by
          rcases hs w ew hw with ⟨-, e⟩ | ⟨e, -⟩
          · omega
          · exact e
        subst s0
        unfold b_readCodes_41 at h1
        obtain ⟨Y, hf, h1⟩ := q_must0 (S := M1) a3 h1
        have fin : ∀ x : Int32, b_readCodes_63 x Y (fun zx1 zS => e_readCodes_2 zx1 zS K0) K0 → G := fun x h => f_b_readCodes_63 h hf (fun x M' hk hf => fe x M' F1 hk hf h2) (fun M' hk hf => bad M' F1 hk hf h2)
        exact dt_p h1 (fun _ h => fin _ h) (fun _ h => fin _ h)
      · obtain ⟨s, h1, -⟩ := ref v M1 h1
        exact fb _ _ _ F1 h1 f1 h2
    · refine ok S F ha hg hat hq ht (h1.1 rfl) (h2.1 ?_)
      exact nlt_le hnl
end CODES

