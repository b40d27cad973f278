def b_Ar_fillI_5 (U : ut) (x0 : Nat) (x1 : Int32) (x2 : Int32) (x3 : Int32) (S : cs) (R5 : Nat → Int32 → Int32 → Int32 → cs → Prop) (K : cs → Prop) : Prop :=
  (x3 ≤ x2 → (K S)) ∧ (¬ (x3 ≤ x2) → (c_cl U x0 = 902 ∧ (vp_in x2 (c_ln U x0) ∧ (R5 x0 x1 (x2 + 1) x3 (va_up S.1 x0 (upd (S.1 x0) x2.toNatClampNeg x1), S.2.1, S.2.2)))))
def e_Ar_fillI_5 (U : ut) (x0 : Nat) (x1 : Int32) (x2 : Int32) (x3 : Int32) (S : cs) (K : cs → Prop) : Prop :=
  ∃ (I : Nat → Int32 → Int32 → Int32 → cs → Prop) (μ : Nat → Int32 → Int32 → Int32 → cs → Nat), I x0 x1 x2 x3 S ∧ ∀ yx0 yx1 yx2 yx3 yS, I yx0 yx1 yx2 yx3 yS → b_Ar_fillI_5 U yx0 yx1 yx2 yx3 yS (fun zx0 zx1 zx2 zx3 zS => I zx0 zx1 zx2 zx3 zS ∧ μ zx0 zx1 zx2 zx3 zS < μ yx0 yx1 yx2 yx3 yS) K
def p_Ar_fillI (U : ut) (x0 : Nat) (x1 : Int32) (S : cs) (K : cs → Prop) : Prop :=
  c_cl U x0 = 902 ∧ (e_Ar_fillI_5 U x0 x1 0 (nI (c_ln U x0)) S K)
section C_Ar_fillI
variable {D : va_G} {z : Nat → ClassId} {A : Nat → Prop} {X : cx} {L0 : fw} {U : ut} {oa : Nat → Nat} {K : cs → Prop}
set_option maxRecDepth 100000 in
set_option maxHeartbeats 1000000 in
theorem s_Ar_fillI_5 (C : fcx gG D z A X R_Ar c_C_Ar_fillI 4 (none)) (hQ : X.2.2.2.2.2.2.2.2.2.2 = eQ gG D z X.2.2.2.2.2.2.2.1 X.2.2.2.2.1 L0 0 0 (pC_v lt_C U oa K (fun _ _ => False))) (hA : A = owA gG L0 X.2.2.2.2.1.heap.size) (hR : X.2.2.2.1 = { frames := 1, cells := 1, slots := 6, locals := 100 }) (x0 : Nat) (x1 : Int32) (x2 : Int32) (x3 : Int32) (S : cs) (R5 : Nat → Int32 → Int32 → Int32 → cs → Prop) (hR5 : ∀ yx0 yx1 yx2 yx3 yS, R5 yx0 yx1 yx2 yx3 yS → aw gG D z A X 4 5 [some (.ref (oa yx0)), some (.int yx1), some (.int yx2), some (.int yx3)] [] (cw lt_C U oa yS) 0 0) (hp : b_Ar_fillI_5 U x0 x1 x2 x3 S R5 K) : aw gG D z A X 4 5 [some (.ref (oa x0)), some (.int x1), some (.int x2), some (.int x3)] [] (cw lt_C U oa S) 0 0 := by
  unfold b_Ar_fillI_5 at hp
  refine a_iload_n C dc_Ar_fillI_5 rfl rfl ?_
  refine a_iload_n C dc_Ar_fillI_6 rfl rfl ?_
  refine a_icmp_ge (tgt := 20) C dc_Ar_fillI_7 (by decide) ⟨fun hc => ?_, fun hc => ?_⟩
  · have hp := hp.1 hc
    exact a_vret C hQ hA dc_Ar_fillI_20 rfl (Or.inl ⟨S, hp, rfl, rfl⟩)
  · have hp := hp.2 hc
    refine a_aload_n C dc_Ar_fillI_10 rfl rfl ?_
    refine a_iload_n C dc_Ar_fillI_11 rfl rfl ?_
    refine a_iload_n C dc_Ar_fillI_12 rfl rfl ?_
    have hc1 := hp.1
    have hp := hp.2
    refine c_iast C x0 dc_Ar_fillI_13 hc1 hp.1 ?_
    have hp := hp.2
    refine aw_eq (lo' := _) (st' := _) (L' := (cw lt_C U oa (va_up S.1 x0 (upd (S.1 x0) x2.toNatClampNeg x1), S.2.1, S.2.2))) rfl rfl rfl ?_
    refine a_iinc (v := x2 + 1) (lo' := [some (.ref (oa x0)), some (.int x1), some (.int (x2 + 1)), some (.int x3)]) C dc_Ar_fillI_14 rfl rfl (by decide) rfl ?_
    refine a_goto (tgt := 5) C dc_Ar_fillI_17 (by decide) ?_
    refine aw_lo (lo' := [some (.ref (oa x0)), some (.int x1), some (.int (x2 + 1)), some (.int x3)]) ⟨.inr rfl, .inr rfl, .inr rfl, .inr rfl, trivial⟩ ?_
    exact hR5 x0 x1 (x2 + 1) x3 (va_up S.1 x0 (upd (S.1 x0) x2.toNatClampNeg x1), S.2.1, S.2.2) hp
set_option maxRecDepth 100000 in
set_option maxHeartbeats 1000000 in
theorem se_Ar_fillI_5 (C : fcx gG D z A X R_Ar c_C_Ar_fillI 4 (none)) (hQ : X.2.2.2.2.2.2.2.2.2.2 = eQ gG D z X.2.2.2.2.2.2.2.1 X.2.2.2.2.1 L0 0 0 (pC_v lt_C U oa K (fun _ _ => False))) (hA : A = owA gG L0 X.2.2.2.2.1.heap.size) (hR : X.2.2.2.1 = { frames := 1, cells := 1, slots := 6, locals := 100 }) (x0 : Nat) (x1 : Int32) (x2 : Int32) (x3 : Int32) (S : cs) (hp : e_Ar_fillI_5 U x0 x1 x2 x3 S K) : aw gG D z A X 4 5 [some (.ref (oa x0)), some (.int x1), some (.int x2), some (.int x3)] [] (cw lt_C U oa S) 0 0 := by
  obtain ⟨I, μ, h0, hs⟩ := hp
  have key : ∀ (n : Nat) (yx0 : Nat) (yx1 : Int32) (yx2 : Int32) (yx3 : Int32) (yS : cs), μ yx0 yx1 yx2 yx3 yS < n → I yx0 yx1 yx2 yx3 yS → aw gG D z A X 4 5 [some (.ref (oa yx0)), some (.int yx1), some (.int yx2), some (.int yx3)] [] (cw lt_C U oa yS) 0 0 := by
    intro n
    induction n with
    | zero => intro yx0 yx1 yx2 yx3 yS h; omega
    | succ n ih =>
      intro yx0 yx1 yx2 yx3 yS hn hI
      exact s_Ar_fillI_5 C hQ hA hR yx0 yx1 yx2 yx3 yS _ (fun zx0 zx1 zx2 zx3 zS hw => ih zx0 zx1 zx2 zx3 zS (by omega) hw.1) (hs yx0 yx1 yx2 yx3 yS hI)
  exact key (μ x0 x1 x2 x3 S + 1) x0 x1 x2 x3 S (Nat.lt_succ_self _) h0
set_option maxRecDepth 100000 in
set_option maxHeartbeats 1000000 in
theorem s_Ar_fillI_0 (C : fcx gG D z A X R_Ar c_C_Ar_fillI 4 (none)) (hQ : X.2.2.2.2.2.2.2.2.2.2 = eQ gG D z X.2.2.2.2.2.2.2.1 X.2.2.2.2.1 L0 0 0 (pC_v lt_C U oa K (fun _ _ => False))) (hA : A = owA gG L0 X.2.2.2.2.1.heap.size) (hR : X.2.2.2.1 = { frames := 1, cells := 1, slots := 6, locals := 100 }) (x0 : Nat) (x1 : Int32) (S : cs) (hp : p_Ar_fillI U x0 x1 S K) : aw gG D z A X 4 0 [some (.ref (oa x0)), some (.int x1), none, none] [] (cw lt_C U oa S) 0 0 := by
  unfold p_Ar_fillI at hp
  refine a_iconst (v := 0) C dc_Ar_fillI_0 (by decide) ?_
  refine a_istore_n (lo' := [some (.ref (oa x0)), some (.int x1), some (.int 0), none]) C dc_Ar_fillI_1 rfl (by decide) rfl ?_
  refine a_aload_n C dc_Ar_fillI_2 rfl rfl ?_
  have hc2 := hp.1
  have hp := hp.2
  refine c_alen C x0 dc_Ar_fillI_3 hc2 ?_
  refine a_istore_n (lo' := [some (.ref (oa x0)), some (.int x1), some (.int 0), some (.int (nI (c_ln U x0)))]) C dc_Ar_fillI_4 rfl (by decide) rfl ?_
  refine aw_lo (lo' := [some (.ref (oa x0)), some (.int x1), some (.int 0), some (.int (nI (c_ln U x0)))]) ⟨.inr rfl, .inr rfl, .inr rfl, .inr rfl, trivial⟩ ?_
  exact se_Ar_fillI_5 C hQ hA hR x0 x1 0 (nI (c_ln U x0)) S  hp
end C_Ar_fillI
section C_Ar_fillIc
variable {D : va_G} {z : Nat → ClassId} {U : ut} {oa : Nat → Nat}
set_option maxRecDepth 100000 in
theorem ct_Ar_fillI {l : Launch} (x0 : Nat) (x1 : Int32) (S : cs) {K : cs → Prop} (hp : p_Ar_fillI U x0 x1 S K) : ct gG D z l n_C_Ar_fillI c_C_Ar_fillI 4 (none) 1 100 [.ref (oa x0), .int x1] (cw lt_C U oa S) 0 0 (pC_v lt_C U oa K (fun _ _ => False)) := by
  refine ct_of (lo := [some (.ref (oa x0)), some (.int x1), none, none]) (by decide) g_ok (Nat.le_of_ble_eq_true rfl) rfl ?_
  intro X A _ C hR hQ hA _
  exact s_Ar_fillI_0 C hQ hA hR x0 x1 S hp
end C_Ar_fillIc
def b_B_isWithin_15 (s0 : Int32) (K : Int32 → Prop) : Prop :=
  narrow .boolean (.int s0) = .int s0 ∧ K s0
def b_B_isWithin_14  (K : Int32 → Prop) : Prop :=
  b_B_isWithin_15 0 K
def p_B_isWithin (x0 : Int32) (x1 : Int32) (x2 : Int32) (K : Int32 → Prop) : Prop :=
  (x0 < x1 → (b_B_isWithin_14 K)) ∧ (¬ (x0 < x1) → ((x2 < x0 → (b_B_isWithin_14 K)) ∧ (¬ (x2 < x0) → (b_B_isWithin_15 1 K))))
section C_B_isWithin
variable {D : va_G} {z : Nat → ClassId} {A : Nat → Prop} {X : cx} {L0 : fw} {K : Int32 → Prop}
set_option maxRecDepth 100000 in
set_option maxHeartbeats 1000000 in
theorem s_B_isWithin_15 (C : fcx gG D z A X R_B c_C_B_isWithin 3 (some .boolean)) (hQ : X.2.2.2.2.2.2.2.2.2.2 = eQ gG D z X.2.2.2.2.2.2.2.1 X.2.2.2.2.1 L0 0 0 (pS_i K)) (hA : A = owA gG L0 X.2.2.2.2.1.heap.size) (hR : X.2.2.2.1 = { frames := 1, cells := 1, slots := 6, locals := 100 }) (s0 : Int32) (hp : b_B_isWithin_15 s0 K) : aw gG D z A X 3 15 [none, none, none] [.int s0] ([] : fw) 0 0 := by
  unfold b_B_isWithin_15 at hp
  exact a_iret (ty := .boolean) C hQ hA dc_B_isWithin_15 rfl hp.1 ⟨_, hp.2, rfl, rfl⟩
set_option maxRecDepth 100000 in
set_option maxHeartbeats 1000000 in
theorem s_B_isWithin_14 (C : fcx gG D z A X R_B c_C_B_isWithin 3 (some .boolean)) (hQ : X.2.2.2.2.2.2.2.2.2.2 = eQ gG D z X.2.2.2.2.2.2.2.1 X.2.2.2.2.1 L0 0 0 (pS_i K)) (hA : A = owA gG L0 X.2.2.2.2.1.heap.size) (hR : X.2.2.2.1 = { frames := 1, cells := 1, slots := 6, locals := 100 })  (hp : b_B_isWithin_14  K) : aw gG D z A X 3 14 [none, none, none] [] ([] : fw) 0 0 := by
  unfold b_B_isWithin_14 at hp
  refine a_iconst (v := 0) C dc_B_isWithin_14 (by decide) ?_
  refine aw_lo (lo' := [none, none, none]) ⟨.inr rfl, .inr rfl, .inr rfl, trivial⟩ ?_
  exact s_B_isWithin_15 C hQ hA hR 0  hp
set_option maxRecDepth 100000 in
set_option maxHeartbeats 1000000 in
theorem s_B_isWithin_0 (C : fcx gG D z A X R_B c_C_B_isWithin 3 (some .boolean)) (hQ : X.2.2.2.2.2.2.2.2.2.2 = eQ gG D z X.2.2.2.2.2.2.2.1 X.2.2.2.2.1 L0 0 0 (pS_i K)) (hA : A = owA gG L0 X.2.2.2.2.1.heap.size) (hR : X.2.2.2.1 = { frames := 1, cells := 1, slots := 6, locals := 100 }) (x0 : Int32) (x1 : Int32) (x2 : Int32) (hp : p_B_isWithin x0 x1 x2 K) : aw gG D z A X 3 0 [some (.int x0), some (.int x1), some (.int x2)] [] ([] : fw) 0 0 := by
  unfold p_B_isWithin at hp
  refine a_iload_n C dc_B_isWithin_0 rfl rfl ?_
  refine a_iload_n C dc_B_isWithin_1 rfl rfl ?_
  refine a_icmp_lt (tgt := 14) C dc_B_isWithin_2 (by decide) ⟨fun hc => ?_, fun hc => ?_⟩
  · have hp := hp.1 hc
    refine aw_lo (lo' := [none, none, none]) ⟨.inl rfl, .inl rfl, .inl rfl, trivial⟩ ?_
    exact s_B_isWithin_14 C hQ hA hR   hp
  · have hp := hp.2 hc
    refine a_iload_n C dc_B_isWithin_5 rfl rfl ?_
    refine a_iload_n C dc_B_isWithin_6 rfl rfl ?_
    refine a_icmp_gt (tgt := 14) C dc_B_isWithin_7 (by decide) ⟨fun hc => ?_, fun hc => ?_⟩
    · have hp := hp.1 hc
      refine aw_lo (lo' := [none, none, none]) ⟨.inl rfl, .inl rfl, .inl rfl, trivial⟩ ?_
      exact s_B_isWithin_14 C hQ hA hR   hp
    · have hp := hp.2 hc
      refine a_iconst (v := 1) C dc_B_isWithin_10 (by decide) ?_
      refine a_goto (tgt := 15) C dc_B_isWithin_11 (by decide) ?_
      refine aw_lo (lo' := [none, none, none]) ⟨.inl rfl, .inl rfl, .inl rfl, trivial⟩ ?_
      exact s_B_isWithin_15 C hQ hA hR 1  hp
end C_B_isWithin
section C_B_isWithinc
variable {D : va_G} {z : Nat → ClassId}
set_option maxRecDepth 100000 in
theorem ct_B_isWithin {l : Launch} (x0 : Int32) (x1 : Int32) (x2 : Int32) {K : Int32 → Prop} (hp : p_B_isWithin x0 x1 x2 K) : ct gG D z l n_C_B_isWithin c_C_B_isWithin 3 (some .boolean) 1 100 [.int x0, .int x1, .int x2] ([] : fw) 0 0 (pS_i K) := by
  refine ct_of (lo := [some (.int x0), some (.int x1), some (.int x2)]) (by decide) g_ok (Nat.le_of_ble_eq_true rfl) rfl ?_
  intro X A _ C hR hQ hA _
  exact s_B_isWithin_0 C hQ hA hR x0 x1 x2 hp
end C_B_isWithinc
def p_Ca_begin (U : ut) (u : Nat) (x1 : Int32) (x2 : Int32) (x3 : Int32) (S : cs) (K : cs → Prop) : Prop :=
  ¬ S.2.2 u 3 = NU ∧ (p_Ar_fillI U (S.2.2 u 3) 0 (va_up (va_up (va_up S.1 u (upd (S.1 u) 0 x1)) u (upd ((va_up S.1 u (upd (S.1 u) 0 x1)) u) 1 x2)) u (upd ((va_up (va_up S.1 u (upd (S.1 u) 0 x1)) u (upd ((va_up S.1 u (upd (S.1 u) 0 x1)) u) 1 x2)) u) 2 x3), S.2.1, S.2.2) (fun S20 => K S20))
section C_Ca_begin
variable {D : va_G} {z : Nat → ClassId} {A : Nat → Prop} {X : cx} {L0 : fw} {U : ut} {oa : Nat → Nat} {u : Nat} {K : cs → Prop}
set_option maxRecDepth 100000 in
set_option maxHeartbeats 1000000 in
theorem s_Ca_begin_0 (C : fcx gG D z A X R_Ca c_C_Ca_begin 4 (none)) (hQ : X.2.2.2.2.2.2.2.2.2.2 = eQ gG D z X.2.2.2.2.2.2.2.1 X.2.2.2.2.1 L0 0 0 (pC_v lt_C U oa K (fun _ _ => False))) (hA : A = owA gG L0 X.2.2.2.2.1.heap.size) (hR : X.2.2.2.1 = { frames := 2, cells := 1, slots := 6, locals := 200 }) (hu : c_cl U u = 2) (x1 : Int32) (x2 : Int32) (x3 : Int32) (S : cs) (hp : p_Ca_begin U u x1 x2 x3 S K) : aw gG D z A X 4 0 [some (.ref (oa u)), some (.int x1), some (.int x2), some (.int x3)] [] (cw lt_C U oa S) 0 0 := by
  unfold p_Ca_begin at hp
  refine a_aload_n C dc_Ca_begin_0 rfl rfl ?_
  refine a_iload_n C dc_Ca_begin_1 rfl rfl ?_
  refine c_putI (ty := .int) C u 0 dc_Ca_begin_2 hu rfl rfl (Nat.le_of_ble_eq_true rfl) f_Ca_9 (Nat.le_of_ble_eq_true rfl) rfl rfl rfl rfl ?_
  refine aw_eq (lo' := _) (st' := _) (L' := (cw lt_C U oa (va_up S.1 u (upd (S.1 u) 0 x1), S.2.1, S.2.2))) rfl rfl rfl ?_
  refine a_aload_n C dc_Ca_begin_5 rfl rfl ?_
  refine a_iload_n C dc_Ca_begin_6 rfl rfl ?_
  refine c_putI (ty := .int) C u 1 dc_Ca_begin_7 hu rfl rfl (Nat.le_of_ble_eq_true rfl) f_Ca_15 (Nat.le_of_ble_eq_true rfl) rfl rfl rfl rfl ?_
  refine aw_eq (lo' := _) (st' := _) (L' := (cw lt_C U oa (va_up (va_up S.1 u (upd (S.1 u) 0 x1)) u (upd ((va_up S.1 u (upd (S.1 u) 0 x1)) u) 1 x2), S.2.1, S.2.2))) rfl rfl rfl ?_
  refine a_aload_n C dc_Ca_begin_10 rfl rfl ?_
  refine a_iload_n C dc_Ca_begin_11 rfl rfl ?_
  refine c_putI (ty := .int) C u 2 dc_Ca_begin_12 hu rfl rfl (Nat.le_of_ble_eq_true rfl) f_Ca_18 (Nat.le_of_ble_eq_true rfl) rfl rfl rfl rfl ?_
  refine aw_eq (lo' := _) (st' := _) (L' := (cw lt_C U oa (va_up (va_up (va_up S.1 u (upd (S.1 u) 0 x1)) u (upd ((va_up S.1 u (upd (S.1 u) 0 x1)) u) 1 x2)) u (upd ((va_up (va_up S.1 u (upd (S.1 u) 0 x1)) u (upd ((va_up S.1 u (upd (S.1 u) 0 x1)) u) 1 x2)) u) 2 x3), S.2.1, S.2.2))) rfl rfl rfl ?_
  refine a_aload_n C dc_Ca_begin_15 rfl rfl ?_
  refine c_getR C u 3 dc_Ca_begin_16 hu rfl rfl (Nat.le_of_ble_eq_true rfl) f_Ca_21 rfl hp.1 ?_
  have hp := hp.2
  refine a_iconst (v := 0) C dc_Ca_begin_19 (by decide) ?_
  refine c_call (rest := []) (av := [.ref (oa (S.2.2 u 3)), .int 0]) C dc_Ca_begin_20 (ct_Ar_fillI (S.2.2 u 3) 0 (va_up (va_up (va_up S.1 u (upd (S.1 u) 0 x1)) u (upd ((va_up S.1 u (upd (S.1 u) 0 x1)) u) 1 x2)) u (upd ((va_up (va_up S.1 u (upd (S.1 u) 0 x1)) u (upd ((va_up S.1 u (upd (S.1 u) 0 x1)) u) 1 x2)) u) 2 x3), S.2.1, S.2.2)  hp) cd_C_Ar_fillI i_Ar (Nat.le_of_ble_eq_true rfl) (by rw [hR]; exact Nat.le_of_ble_eq_true rfl) (by rw [hR]; exact Nat.le_of_ble_eq_true rfl) (by rw [hR]; exact Nat.le_of_ble_eq_true rfl) (by rw [hR]; exact Nat.le_of_ble_eq_true rfl) (inv_S C dc_Ca_begin_20 l_Ca_25 st_C_Ar_fillI i_Ar cd_C_Ar_fillI ⟨by decide, by decide⟩ ln_C_Ar_fillI rfl) (fun oc L1 hL => ?_)
  obtain ⟨S20, hp, rfl, rfl⟩ := hL.resolve_right pC_no
  refine ⟨_, rfl, ?_⟩
  refine aw_eq (lo' := _) (st' := []) (L' := (cw lt_C U oa S20)) rfl rfl rfl ?_
  exact a_vret C hQ hA dc_Ca_begin_23 rfl (Or.inl ⟨S20, hp, rfl, rfl⟩)
end C_Ca_begin
section C_Ca_beginc
variable {D : va_G} {z : Nat → ClassId} {U : ut} {oa : Nat → Nat}
set_option maxRecDepth 100000 in
theorem ct_Ca_begin {l : Launch} (u : Nat) (x1 : Int32) (x2 : Int32) (x3 : Int32) (S : cs) {K : cs → Prop} (hu : c_cl U u = 2) (hp : p_Ca_begin U u x1 x2 x3 S K) : ct gG D z l n_C_Ca_begin c_C_Ca_begin 4 (none) 2 200 [.ref (oa u), .int x1, .int x2, .int x3] (cw lt_C U oa S) 0 0 (pC_v lt_C U oa K (fun _ _ => False)) := by
  refine ct_of (lo := [some (.ref (oa u)), some (.int x1), some (.int x2), some (.int x3)]) (by decide) g_ok (Nat.le_of_ble_eq_true rfl) rfl ?_
  intro X A _ C hR hQ hA _
  exact s_Ca_begin_0 C hQ hA hR hu x1 x2 x3 S hp
end C_Ca_beginc
def b_B_canvas_40 (U : ut) (u : Nat) (x1 : Int32) (x2 : Int32) (x3 : Int32) (S : cs) (K : cs → Prop) (T : Nat → cs → Prop) : Prop :=
  ¬ S.2.2 u 0 = NU ∧ (c_cl U (S.2.2 u 0) = 2 ∧ (p_Ca_begin U (S.2.2 u 0) x1 x2 x3 S (fun S47 => K S47)))
def b_B_canvas_30 (U : ut) (u : Nat)  (S : cs) (K : cs → Prop) (T : Nat → cs → Prop) : Prop :=
  T 14 S
def p_B_canvas (U : ut) (u : Nat) (x1 : Int32) (x2 : Int32) (x3 : Int32) (S : cs) (K : cs → Prop) (T : Nat → cs → Prop) : Prop :=
  p_B_isWithin x1 1 64 (fun v4 => (v4 = 0 → (b_B_canvas_30 U u S K T)) ∧ (¬ (v4 = 0) → (p_B_isWithin x2 1 64 (fun v14 => (v14 = 0 → (b_B_canvas_30 U u S K T)) ∧ (¬ (v14 = 0) → ((x3 = 1 → (b_B_canvas_40 U u x1 x2 x3 S K T)) ∧ (¬ (x3 = 1) → ((x3 = 3 → (b_B_canvas_40 U u x1 x2 x3 S K T)) ∧ (¬ (x3 = 3) → (b_B_canvas_30 U u S K T))))))))))
section C_B_canvas
variable {D : va_G} {z : Nat → ClassId} {A : Nat → Prop} {X : cx} {L0 : fw} {U : ut} {oa : Nat → Nat} {u : Nat} {K : cs → Prop} {T : Nat → cs → Prop}
set_option maxRecDepth 100000 in
set_option maxHeartbeats 1000000 in
theorem s_B_canvas_40 (C : fcx gG D z A X R_B c_C_B_canvas 4 (none)) (hQ : X.2.2.2.2.2.2.2.2.2.2 = eQ gG D z X.2.2.2.2.2.2.2.1 X.2.2.2.2.1 L0 0 0 (pC_v lt_C U oa K T)) (hA : A = owA gG L0 X.2.2.2.2.1.heap.size) (hR : X.2.2.2.1 = { frames := 9, cells := 1, slots := 6, locals := 900 }) (hno : ∀ x ∈ X.2.2.2.2.2.2.2.2.2.1.exceptionTable.toList, False) (hfl : X.2.1.flags = pinnedFlags ++ [noTraceFlag]) (hu : c_cl U u = 1) (x1 : Int32) (x2 : Int32) (x3 : Int32) (S : cs) (hp : b_B_canvas_40 U u x1 x2 x3 S K T) : aw gG D z A X 4 40 [some (.ref (oa u)), some (.int x1), some (.int x2), some (.int x3)] [] (cw lt_C U oa S) 0 0 := by
  unfold b_B_canvas_40 at hp
  refine a_aload_n C dc_B_canvas_40 rfl rfl ?_
  refine c_getR C u 0 dc_B_canvas_41 hu rfl rfl (Nat.le_of_ble_eq_true rfl) f_B_12 rfl hp.1 ?_
  have hp := hp.2
  refine a_iload_n C dc_B_canvas_44 rfl rfl ?_
  refine a_iload_n C dc_B_canvas_45 rfl rfl ?_
  refine a_iload_n C dc_B_canvas_46 rfl rfl ?_
  have hc1 := hp.1
  have hp := hp.2
  refine c_call (rest := []) (av := .ref (oa (S.2.2 u 0)) :: [.int x1, .int x2, .int x3]) C dc_B_canvas_47 (ct_Ca_begin (S.2.2 u 0) x1 x2 x3 S hc1 hp) cd_C_Ca_begin i_Ca (Nat.le_of_ble_eq_true rfl) (by rw [hR]; exact Nat.le_of_ble_eq_true rfl) (by rw [hR]; exact Nat.le_of_ble_eq_true rfl) (by rw [hR]; exact Nat.le_of_ble_eq_true rfl) (by rw [hR]; exact Nat.le_of_ble_eq_true rfl) (inv_V C (S.2.2 u 0) dc_B_canvas_47 l_B_82 im_C_Ca_begin se_C_Ca_begin cd_C_Ca_begin ⟨by decide, by decide⟩ ln_C_Ca_begin rfl rfl (cw_obj hc1 rfl) rfl rfl) (fun oc L1 hL => ?_)
  obtain ⟨S47, hp, rfl, rfl⟩ := hL.resolve_right pC_no
  refine ⟨_, rfl, ?_⟩
  refine aw_eq (lo' := _) (st' := []) (L' := (cw lt_C U oa S47)) rfl rfl rfl ?_
  exact a_vret C hQ hA dc_B_canvas_50 rfl (Or.inl ⟨S47, hp, rfl, rfl⟩)
set_option maxRecDepth 100000 in
set_option maxHeartbeats 1000000 in
theorem s_B_canvas_30 (C : fcx gG D z A X R_B c_C_B_canvas 4 (none)) (hQ : X.2.2.2.2.2.2.2.2.2.2 = eQ gG D z X.2.2.2.2.2.2.2.1 X.2.2.2.2.1 L0 0 0 (pC_v lt_C U oa K T)) (hA : A = owA gG L0 X.2.2.2.2.1.heap.size) (hR : X.2.2.2.1 = { frames := 9, cells := 1, slots := 6, locals := 900 }) (hno : ∀ x ∈ X.2.2.2.2.2.2.2.2.2.1.exceptionTable.toList, False) (hfl : X.2.1.flags = pinnedFlags ++ [noTraceFlag]) (hu : c_cl U u = 1)  (S : cs) (hp : b_B_canvas_30 U u S K T) : aw gG D z A X 4 30 [some (.ref (oa u)), none, none, none] [] (cw lt_C U oa S) 0 0 := by
  unfold b_B_canvas_30 at hp
  exact a_throw (ci := 14) C hQ hA hno hfl dc_B_canvas_30 dc_B_canvas_33 dc_B_canvas_34 dc_B_canvas_36 dc_B_canvas_39 x_B_75 rfl rfl y_B_77 i_E14 j_E14 (by decide) z_B_79 (at_E14 _ _) (Nat.le_of_ble_eq_true rfl) (by rw [hR]; exact Nat.le_of_ble_eq_true rfl) (by rw [hR]; exact Nat.le_of_ble_eq_true rfl) (Nat.le_refl _) (Nat.le_refl _) (by rw [hR]; exact Nat.le_of_ble_eq_true rfl) (by rw [hR]; exact Nat.le_of_ble_eq_true rfl) (fun q => Or.inr ⟨14, q, S, hp, rfl, rfl⟩)
set_option maxRecDepth 100000 in
set_option maxHeartbeats 1000000 in
theorem s_B_canvas_0 (C : fcx gG D z A X R_B c_C_B_canvas 4 (none)) (hQ : X.2.2.2.2.2.2.2.2.2.2 = eQ gG D z X.2.2.2.2.2.2.2.1 X.2.2.2.2.1 L0 0 0 (pC_v lt_C U oa K T)) (hA : A = owA gG L0 X.2.2.2.2.1.heap.size) (hR : X.2.2.2.1 = { frames := 9, cells := 1, slots := 6, locals := 900 }) (hno : ∀ x ∈ X.2.2.2.2.2.2.2.2.2.1.exceptionTable.toList, False) (hfl : X.2.1.flags = pinnedFlags ++ [noTraceFlag]) (hu : c_cl U u = 1) (x1 : Int32) (x2 : Int32) (x3 : Int32) (S : cs) (hp : p_B_canvas U u x1 x2 x3 S K T) : aw gG D z A X 4 0 [some (.ref (oa u)), some (.int x1), some (.int x2), some (.int x3)] [] (cw lt_C U oa S) 0 0 := by
  unfold p_B_canvas at hp
  refine a_iload_n C dc_B_canvas_0 rfl rfl ?_
  refine a_iconst (v := 1) C dc_B_canvas_1 (by decide) ?_
  refine a_bipush (v := 64) C dc_B_canvas_2 (by decide) ?_
  refine a_callP (rest := []) (av := [.int x1, .int 1, .int 64]) C dc_B_canvas_4 (ct_B_isWithin x1 1 64 hp) cd_C_B_isWithin i_B (Nat.le_of_ble_eq_true rfl) (by rw [hR]; exact Nat.le_of_ble_eq_true rfl) (by rw [hR]; exact Nat.le_of_ble_eq_true rfl) (by rw [hR]; exact Nat.le_of_ble_eq_true rfl) (by rw [hR]; exact Nat.le_of_ble_eq_true rfl) (inv_S C dc_B_canvas_4 l_B_71 st_C_B_isWithin i_B cd_C_B_isWithin ⟨by decide, by decide⟩ ln_C_B_isWithin rfl) (fun v4 hp => ?_)
  refine aw_eq (lo' := _) (st' := [.int v4]) (L' := (cw lt_C U oa S)) rfl rfl rfl ?_
  refine a_if_eq (tgt := 30) C dc_B_canvas_7 (by decide) ⟨fun hc => ?_, fun hc => ?_⟩
  · have hp := hp.1 hc
    refine aw_lo (lo' := [some (.ref (oa u)), none, none, none]) ⟨.inr rfl, .inl rfl, .inl rfl, .inl rfl, trivial⟩ ?_
    exact s_B_canvas_30 C hQ hA hR hno hfl hu S  hp
  · have hp := hp.2 hc
    refine a_iload_n C dc_B_canvas_10 rfl rfl ?_
    refine a_iconst (v := 1) C dc_B_canvas_11 (by decide) ?_
    refine a_bipush (v := 64) C dc_B_canvas_12 (by decide) ?_
    refine a_callP (rest := []) (av := [.int x2, .int 1, .int 64]) C dc_B_canvas_14 (ct_B_isWithin x2 1 64 hp) cd_C_B_isWithin i_B (Nat.le_of_ble_eq_true rfl) (by rw [hR]; exact Nat.le_of_ble_eq_true rfl) (by rw [hR]; exact Nat.le_of_ble_eq_true rfl) (by rw [hR]; exact Nat.le_of_ble_eq_true rfl) (by rw [hR]; exact Nat.le_of_ble_eq_true rfl) (inv_S C dc_B_canvas_14 l_B_71 st_C_B_isWithin i_B cd_C_B_isWithin ⟨by decide, by decide⟩ ln_C_B_isWithin rfl) (fun v14 hp => ?_)
    refine aw_eq (lo' := _) (st' := [.int v14]) (L' := (cw lt_C U oa S)) rfl rfl rfl ?_
    refine a_if_eq (tgt := 30) C dc_B_canvas_17 (by decide) ⟨fun hc => ?_, fun hc => ?_⟩
    · have hp := hp.1 hc
      refine aw_lo (lo' := [some (.ref (oa u)), none, none, none]) ⟨.inr rfl, .inl rfl, .inl rfl, .inl rfl, trivial⟩ ?_
      exact s_B_canvas_30 C hQ hA hR hno hfl hu S  hp
    · have hp := hp.2 hc
      refine a_iload_n C dc_B_canvas_20 rfl rfl ?_
      refine a_iconst (v := 1) C dc_B_canvas_21 (by decide) ?_
      refine a_icmp_eq (tgt := 40) C dc_B_canvas_22 (by decide) ⟨fun hc => ?_, fun hc => ?_⟩
      · have hp := hp.1 hc
        refine aw_lo (lo' := [some (.ref (oa u)), some (.int x1), some (.int x2), some (.int x3)]) ⟨.inr rfl, .inr rfl, .inr rfl, .inr rfl, trivial⟩ ?_
        exact s_B_canvas_40 C hQ hA hR hno hfl hu x1 x2 x3 S  hp
      · have hp := hp.2 hc
        refine a_iload_n C dc_B_canvas_25 rfl rfl ?_
        refine a_iconst (v := 3) C dc_B_canvas_26 (by decide) ?_
        refine a_icmp_eq (tgt := 40) C dc_B_canvas_27 (by decide) ⟨fun hc => ?_, fun hc => ?_⟩
        · have hp := hp.1 hc
          refine aw_lo (lo' := [some (.ref (oa u)), some (.int x1), some (.int x2), some (.int x3)]) ⟨.inr rfl, .inr rfl, .inr rfl, .inr rfl, trivial⟩ ?_
          exact s_B_canvas_40 C hQ hA hR hno hfl hu x1 x2 x3 S  hp
        · have hp := hp.2 hc
          refine aw_lo (lo' := [some (.ref (oa u)), none, none, none]) ⟨.inr rfl, .inl rfl, .inl rfl, .inl rfl, trivial⟩ ?_
          exact s_B_canvas_30 C hQ hA hR hno hfl hu S  hp
end C_B_canvas
section C_B_canvasc
variable {D : va_G} {z : Nat → ClassId} {U : ut} {oa : Nat → Nat}
set_option maxRecDepth 100000 in
theorem ct_B_canvas {l : Launch} (u : Nat) (x1 : Int32) (x2 : Int32) (x3 : Int32) (S : cs) {K : cs → Prop} {T : Nat → cs → Prop} (hfl : l.flags = pinnedFlags ++ [noTraceFlag]) (hu : c_cl U u = 1) (hp : p_B_canvas U u x1 x2 x3 S K T) : ct gG D z l n_C_B_canvas c_C_B_canvas 4 (none) 9 900 [.ref (oa u), .int x1, .int x2, .int x3] (cw lt_C U oa S) 0 0 (pC_v lt_C U oa K T) := by
  refine ct_of (lo := [some (.ref (oa u)), some (.int x1), some (.int x2), some (.int x3)]) (by decide) g_ok (Nat.le_of_ble_eq_true rfl) rfl ?_
  intro X A hl C hR hQ hA hno
  exact s_B_canvas_0 C hQ hA hR hno (by rw [hl]; exact hfl) hu x1 x2 x3 S hp
end C_B_canvasc
def b_Ca_holds_45 (U : ut) (u : Nat) (s0 : Int32) (S : cs) (K : Int32 → cs → Prop) : Prop :=
  narrow .boolean (.int s0) = .int s0 ∧ K s0 S
def b_Ca_holds_44 (U : ut) (u : Nat)  (S : cs) (K : Int32 → cs → Prop) : Prop :=
  b_Ca_holds_45 U u 0 S K
def p_Ca_holds (U : ut) (u : Nat) (x1 : Int32) (x2 : Int32) (x3 : Int32) (x4 : Int32) (S : cs) (K : Int32 → cs → Prop) : Prop :=
  (x1 < 0 → (b_Ca_holds_44 U u S K)) ∧ (¬ (x1 < 0) → ((x2 < 0 → (b_Ca_holds_44 U u S K)) ∧ (¬ (x2 < 0) → ((x3 < 1 → (b_Ca_holds_44 U u S K)) ∧ (¬ (x3 < 1) → ((x4 < 1 → (b_Ca_holds_44 U u S K)) ∧ (¬ (x4 < 1) → ((((S.1 u 0) - x1) < x3 → (b_Ca_holds_44 U u S K)) ∧ (¬ (((S.1 u 0) - x1) < x3) → ((((S.1 u 1) - x2) < x4 → (b_Ca_holds_44 U u S K)) ∧ (¬ (((S.1 u 1) - x2) < x4) → (b_Ca_holds_45 U u 1 S K))))))))))))
section C_Ca_holds
variable {D : va_G} {z : Nat → ClassId} {A : Nat → Prop} {X : cx} {L0 : fw} {U : ut} {oa : Nat → Nat} {u : Nat} {K : Int32 → cs → Prop}
set_option maxRecDepth 100000 in
set_option maxHeartbeats 1000000 in
theorem s_Ca_holds_45 (C : fcx gG D z A X R_Ca c_C_Ca_holds 5 (some .boolean)) (hQ : X.2.2.2.2.2.2.2.2.2.2 = eQ gG D z X.2.2.2.2.2.2.2.1 X.2.2.2.2.1 L0 0 0 (pC_i lt_C U oa K (fun _ _ => False))) (hA : A = owA gG L0 X.2.2.2.2.1.heap.size) (hR : X.2.2.2.1 = { frames := 1, cells := 1, slots := 6, locals := 100 }) (hu : c_cl U u = 2) (s0 : Int32) (S : cs) (hp : b_Ca_holds_45 U u s0 S K) : aw gG D z A X 5 45 [some (.ref (oa u)), none, none, none, none] [.int s0] (cw lt_C U oa S) 0 0 := by
  unfold b_Ca_holds_45 at hp
  exact a_iret (ty := .boolean) C hQ hA dc_Ca_holds_45 rfl hp.1 (Or.inl ⟨_, S, hp.2, rfl, rfl⟩)
set_option maxRecDepth 100000 in
set_option maxHeartbeats 1000000 in
theorem s_Ca_holds_44 (C : fcx gG D z A X R_Ca c_C_Ca_holds 5 (some .boolean)) (hQ : X.2.2.2.2.2.2.2.2.2.2 = eQ gG D z X.2.2.2.2.2.2.2.1 X.2.2.2.2.1 L0 0 0 (pC_i lt_C U oa K (fun _ _ => False))) (hA : A = owA gG L0 X.2.2.2.2.1.heap.size) (hR : X.2.2.2.1 = { frames := 1, cells := 1, slots := 6, locals := 100 }) (hu : c_cl U u = 2)  (S : cs) (hp : b_Ca_holds_44 U u S K) : aw gG D z A X 5 44 [some (.ref (oa u)), none, none, none, none] [] (cw lt_C U oa S) 0 0 := by
  unfold b_Ca_holds_44 at hp
  refine a_iconst (v := 0) C dc_Ca_holds_44 (by decide) ?_
  refine aw_lo (lo' := [some (.ref (oa u)), none, none, none, none]) ⟨.inr rfl, .inr rfl, .inr rfl, .inr rfl, .inr rfl, trivial⟩ ?_
  exact s_Ca_holds_45 C hQ hA hR hu 0 S  hp
set_option maxRecDepth 100000 in
set_option maxHeartbeats 1000000 in
theorem s_Ca_holds_0 (C : fcx gG D z A X R_Ca c_C_Ca_holds 5 (some .boolean)) (hQ : X.2.2.2.2.2.2.2.2.2.2 = eQ gG D z X.2.2.2.2.2.2.2.1 X.2.2.2.2.1 L0 0 0 (pC_i lt_C U oa K (fun _ _ => False))) (hA : A = owA gG L0 X.2.2.2.2.1.heap.size) (hR : X.2.2.2.1 = { frames := 1, cells := 1, slots := 6, locals := 100 }) (hu : c_cl U u = 2) (x1 : Int32) (x2 : Int32) (x3 : Int32) (x4 : Int32) (S : cs) (hp : p_Ca_holds U u x1 x2 x3 x4 S K) : aw gG D z A X 5 0 [some (.ref (oa u)), some (.int x1), some (.int x2), some (.int x3), some (.int x4)] [] (cw lt_C U oa S) 0 0 := by
  unfold p_Ca_holds at hp
  refine a_iload_n C dc_Ca_holds_0 rfl rfl ?_
  refine a_if_lt (tgt := 44) C dc_Ca_holds_1 (by decide) ⟨fun hc => ?_, fun hc => ?_⟩
  · have hp := hp.1 hc
    refine aw_lo (lo' := [some (.ref (oa u)), none, none, none, none]) ⟨.inr rfl, .inl rfl, .inl rfl, .inl rfl, .inl rfl, trivial⟩ ?_
    exact s_Ca_holds_44 C hQ hA hR hu S  hp
  · have hp := hp.2 hc
    refine a_iload_n C dc_Ca_holds_4 rfl rfl ?_
    refine a_if_lt (tgt := 44) C dc_Ca_holds_5 (by decide) ⟨fun hc => ?_, fun hc => ?_⟩
    · have hp := hp.1 hc
      refine aw_lo (lo' := [some (.ref (oa u)), none, none, none, none]) ⟨.inr rfl, .inl rfl, .inl rfl, .inl rfl, .inl rfl, trivial⟩ ?_
      exact s_Ca_holds_44 C hQ hA hR hu S  hp
    · have hp := hp.2 hc
      refine a_iload_n C dc_Ca_holds_8 rfl rfl ?_
      refine a_iconst (v := 1) C dc_Ca_holds_9 (by decide) ?_
      refine a_icmp_lt (tgt := 44) C dc_Ca_holds_10 (by decide) ⟨fun hc => ?_, fun hc => ?_⟩
      · have hp := hp.1 hc
        refine aw_lo (lo' := [some (.ref (oa u)), none, none, none, none]) ⟨.inr rfl, .inl rfl, .inl rfl, .inl rfl, .inl rfl, trivial⟩ ?_
        exact s_Ca_holds_44 C hQ hA hR hu S  hp
      · have hp := hp.2 hc
        refine a_iload C dc_Ca_holds_13 rfl ?_
        refine a_iconst (v := 1) C dc_Ca_holds_15 (by decide) ?_
        refine a_icmp_lt (tgt := 44) C dc_Ca_holds_16 (by decide) ⟨fun hc => ?_, fun hc => ?_⟩
        · have hp := hp.1 hc
          refine aw_lo (lo' := [some (.ref (oa u)), none, none, none, none]) ⟨.inr rfl, .inl rfl, .inl rfl, .inl rfl, .inl rfl, trivial⟩ ?_
          exact s_Ca_holds_44 C hQ hA hR hu S  hp
        · have hp := hp.2 hc
          refine a_iload_n C dc_Ca_holds_19 rfl rfl ?_
          refine a_aload_n C dc_Ca_holds_20 rfl rfl ?_
          refine c_getI C u 0 dc_Ca_holds_21 hu rfl rfl (Nat.le_of_ble_eq_true rfl) f_Ca_9 (Nat.le_of_ble_eq_true rfl) ?_
          refine a_iload_n C dc_Ca_holds_24 rfl rfl ?_
          refine a_isub C dc_Ca_holds_25 ?_
          refine a_icmp_gt (tgt := 44) C dc_Ca_holds_26 (by decide) ⟨fun hc => ?_, fun hc => ?_⟩
          · have hp := hp.1 hc
            refine aw_lo (lo' := [some (.ref (oa u)), none, none, none, none]) ⟨.inr rfl, .inl rfl, .inl rfl, .inl rfl, .inl rfl, trivial⟩ ?_
            exact s_Ca_holds_44 C hQ hA hR hu S  hp
          · have hp := hp.2 hc
            refine a_iload C dc_Ca_holds_29 rfl ?_
            refine a_aload_n C dc_Ca_holds_31 rfl rfl ?_
            refine c_getI C u 1 dc_Ca_holds_32 hu rfl rfl (Nat.le_of_ble_eq_true rfl) f_Ca_15 (Nat.le_of_ble_eq_true rfl) ?_
            refine a_iload_n C dc_Ca_holds_35 rfl rfl ?_
            refine a_isub C dc_Ca_holds_36 ?_
            refine a_icmp_gt (tgt := 44) C dc_Ca_holds_37 (by decide) ⟨fun hc => ?_, fun hc => ?_⟩
            · have hp := hp.1 hc
              refine aw_lo (lo' := [some (.ref (oa u)), none, none, none, none]) ⟨.inr rfl, .inl rfl, .inl rfl, .inl rfl, .inl rfl, trivial⟩ ?_
              exact s_Ca_holds_44 C hQ hA hR hu S  hp
            · have hp := hp.2 hc
              refine a_iconst (v := 1) C dc_Ca_holds_40 (by decide) ?_
              refine a_goto (tgt := 45) C dc_Ca_holds_41 (by decide) ?_
              refine aw_lo (lo' := [some (.ref (oa u)), none, none, none, none]) ⟨.inr rfl, .inl rfl, .inl rfl, .inl rfl, .inl rfl, trivial⟩ ?_
              exact s_Ca_holds_45 C hQ hA hR hu 1 S  hp
end C_Ca_holds
section C_Ca_holdsc
variable {D : va_G} {z : Nat → ClassId} {U : ut} {oa : Nat → Nat}
set_option maxRecDepth 100000 in
theorem ct_Ca_holds {l : Launch} (u : Nat) (x1 : Int32) (x2 : Int32) (x3 : Int32) (x4 : Int32) (S : cs) {K : Int32 → cs → Prop} (hu : c_cl U u = 2) (hp : p_Ca_holds U u x1 x2 x3 x4 S K) : ct gG D z l n_C_Ca_holds c_C_Ca_holds 5 (some .boolean) 1 100 [.ref (oa u), .int x1, .int x2, .int x3, .int x4] (cw lt_C U oa S) 0 0 (pC_i lt_C U oa K (fun _ _ => False)) := by
  refine ct_of (lo := [some (.ref (oa u)), some (.int x1), some (.int x2), some (.int x3), some (.int x4)]) (by decide) g_ok (Nat.le_of_ble_eq_true rfl) rfl ?_
  intro X A _ C hR hQ hA _
  exact s_Ca_holds_0 C hQ hA hR hu x1 x2 x3 x4 S hp
end C_Ca_holdsc
def p_B_spot (x0 : Int32) (x1 : Int32) (x2 : Int32) (K : Int32 → Prop) : Prop :=
  K (((4096 * x0) + (64 * x2)) + x1)
section C_B_spot
variable {D : va_G} {z : Nat → ClassId} {A : Nat → Prop} {X : cx} {L0 : fw} {K : Int32 → Prop}
set_option maxRecDepth 100000 in
set_option maxHeartbeats 1000000 in
theorem s_B_spot_0 (C : fcx gG D z A X R_B c_C_B_spot 3 (some .int)) (hQ : X.2.2.2.2.2.2.2.2.2.2 = eQ gG D z X.2.2.2.2.2.2.2.1 X.2.2.2.2.1 L0 0 0 (pS_i K)) (hA : A = owA gG L0 X.2.2.2.2.1.heap.size) (hR : X.2.2.2.1 = { frames := 1, cells := 1, slots := 6, locals := 100 }) (x0 : Int32) (x1 : Int32) (x2 : Int32) (hp : p_B_spot x0 x1 x2 K) : aw gG D z A X 3 0 [some (.int x0), some (.int x1), some (.int x2)] [] ([] : fw) 0 0 := by
  unfold p_B_spot at hp
  refine a_sipush (v := 4096) C dc_B_spot_0 (by decide) ?_
  refine a_iload_n C dc_B_spot_3 rfl rfl ?_
  refine a_imul C dc_B_spot_4 ?_
  refine a_bipush (v := 64) C dc_B_spot_5 (by decide) ?_
  refine a_iload_n C dc_B_spot_7 rfl rfl ?_
  refine a_imul C dc_B_spot_8 ?_
  refine a_iadd C dc_B_spot_9 ?_
  refine a_iload_n C dc_B_spot_10 rfl rfl ?_
  refine a_iadd C dc_B_spot_11 ?_
  exact a_iret (ty := .int) C hQ hA dc_B_spot_12 rfl rfl ⟨_, hp, rfl, rfl⟩
end C_B_spot
section C_B_spotc
variable {D : va_G} {z : Nat → ClassId}
set_option maxRecDepth 100000 in
theorem ct_B_spot {l : Launch} (x0 : Int32) (x1 : Int32) (x2 : Int32) {K : Int32 → Prop} (hp : p_B_spot x0 x1 x2 K) : ct gG D z l n_C_B_spot c_C_B_spot 3 (some .int) 1 100 [.int x0, .int x1, .int x2] ([] : fw) 0 0 (pS_i K) := by
  refine ct_of (lo := [some (.int x0), some (.int x1), some (.int x2)]) (by decide) g_ok (Nat.le_of_ble_eq_true rfl) rfl ?_
  intro X A _ C hR hQ hA _
  exact s_B_spot_0 C hQ hA hR x0 x1 x2 hp
end C_B_spotc
def b_Ca_paint_81 (U : ut) (u : Nat) (x1 : Int32) (x2 : Int32) (x3 : Int32) (x4 : Int32) (x5 : Int32) (x6 : Int32) (x7 : Int32) (x9 : Int32) (x10 : Int32) (x11 : Int32) (x12 : Int32) (x13 : Int32) (S : cs) (R9 : Int32 → Int32 → Int32 → Int32 → Int32 → Int32 → Int32 → cs → Prop) (R57 : Int32 → Int32 → Int32 → Int32 → Int32 → Int32 → Int32 → Int32 → Int32 → Int32 → cs → Prop) (R81 : Int32 → Int32 → Int32 → Int32 → Int32 → Int32 → Int32 → Int32 → Int32 → Int32 → Int32 → Int32 → cs → Prop) (K : cs → Prop) : Prop :=
  (x4 ≤ x13 → (R57 x1 x2 x3 x4 x5 x6 x7 x9 x10 (x11 + 1) S)) ∧ (¬ (x4 ≤ x13) → (¬ S.2.2 u 3 = NU ∧ (p_B_spot x7 (x1 + x11) (x2 + x13) (fun v102 => c_cl U (S.2.2 u 3) = 902 ∧ (vp_in v102 (c_ln U (S.2.2 u 3)) ∧ (R81 x1 x2 x3 x4 x5 x6 x7 x9 x10 x11 x12 (x13 + 1) (va_up S.1 (S.2.2 u 3) (upd (S.1 (S.2.2 u 3)) v102.toNatClampNeg x12), S.2.1, S.2.2)))))))
def e_Ca_paint_81 (U : ut) (u : Nat) (x1 : Int32) (x2 : Int32) (x3 : Int32) (x4 : Int32) (x5 : Int32) (x6 : Int32) (x7 : Int32) (x9 : Int32) (x10 : Int32) (x11 : Int32) (x12 : Int32) (x13 : Int32) (S : cs) (R9 : Int32 → Int32 → Int32 → Int32 → Int32 → Int32 → Int32 → cs → Prop) (R57 : Int32 → Int32 → Int32 → Int32 → Int32 → Int32 → Int32 → Int32 → Int32 → Int32 → cs → Prop) (K : cs → Prop) : Prop :=
  ∃ (I : Int32 → Int32 → Int32 → Int32 → Int32 → Int32 → Int32 → Int32 → Int32 → Int32 → Int32 → Int32 → cs → Prop) (μ : Int32 → Int32 → Int32 → Int32 → Int32 → Int32 → Int32 → Int32 → Int32 → Int32 → Int32 → Int32 → cs → Nat), I x1 x2 x3 x4 x5 x6 x7 x9 x10 x11 x12 x13 S ∧ ∀ yx1 yx2 yx3 yx4 yx5 yx6 yx7 yx9 yx10 yx11 yx12 yx13 yS, I yx1 yx2 yx3 yx4 yx5 yx6 yx7 yx9 yx10 yx11 yx12 yx13 yS → b_Ca_paint_81 U u yx1 yx2 yx3 yx4 yx5 yx6 yx7 yx9 yx10 yx11 yx12 yx13 yS R9 R57 (fun zx1 zx2 zx3 zx4 zx5 zx6 zx7 zx9 zx10 zx11 zx12 zx13 zS => I zx1 zx2 zx3 zx4 zx5 zx6 zx7 zx9 zx10 zx11 zx12 zx13 zS ∧ μ zx1 zx2 zx3 zx4 zx5 zx6 zx7 zx9 zx10 zx11 zx12 zx13 zS < μ yx1 yx2 yx3 yx4 yx5 yx6 yx7 yx9 yx10 yx11 yx12 yx13 yS) K
def b_Ca_paint_57 (U : ut) (u : Nat) (x1 : Int32) (x2 : Int32) (x3 : Int32) (x4 : Int32) (x5 : Int32) (x6 : Int32) (x7 : Int32) (x9 : Int32) (x10 : Int32) (x11 : Int32) (S : cs) (R9 : Int32 → Int32 → Int32 → Int32 → Int32 → Int32 → Int32 → cs → Prop) (R57 : Int32 → Int32 → Int32 → Int32 → Int32 → Int32 → Int32 → Int32 → Int32 → Int32 → cs → Prop) (K : cs → Prop) : Prop :=
  (x3 ≤ x11 → (R9 x1 x2 x3 x4 x5 x6 (x7 + 1) S)) ∧ (¬ (x3 ≤ x11) → (¬ x3 = 0 ∧ (e_Ca_paint_81 U u x1 x2 x3 x4 x5 x6 x7 x9 x10 x11 (x9 + (((x10 - x9) * x11) / x3)) 0 S R9 R57 K)))
def e_Ca_paint_57 (U : ut) (u : Nat) (x1 : Int32) (x2 : Int32) (x3 : Int32) (x4 : Int32) (x5 : Int32) (x6 : Int32) (x7 : Int32) (x9 : Int32) (x10 : Int32) (x11 : Int32) (S : cs) (R9 : Int32 → Int32 → Int32 → Int32 → Int32 → Int32 → Int32 → cs → Prop) (K : cs → Prop) : Prop :=
  ∃ (I : Int32 → Int32 → Int32 → Int32 → Int32 → Int32 → Int32 → Int32 → Int32 → Int32 → cs → Prop) (μ : Int32 → Int32 → Int32 → Int32 → Int32 → Int32 → Int32 → Int32 → Int32 → Int32 → cs → Nat), I x1 x2 x3 x4 x5 x6 x7 x9 x10 x11 S ∧ ∀ yx1 yx2 yx3 yx4 yx5 yx6 yx7 yx9 yx10 yx11 yS, I yx1 yx2 yx3 yx4 yx5 yx6 yx7 yx9 yx10 yx11 yS → b_Ca_paint_57 U u yx1 yx2 yx3 yx4 yx5 yx6 yx7 yx9 yx10 yx11 yS R9 (fun zx1 zx2 zx3 zx4 zx5 zx6 zx7 zx9 zx10 zx11 zS => I zx1 zx2 zx3 zx4 zx5 zx6 zx7 zx9 zx10 zx11 zS ∧ μ zx1 zx2 zx3 zx4 zx5 zx6 zx7 zx9 zx10 zx11 zS < μ yx1 yx2 yx3 yx4 yx5 yx6 yx7 yx9 yx10 yx11 yS) K
def b_Ca_paint_9 (U : ut) (u : Nat) (x1 : Int32) (x2 : Int32) (x3 : Int32) (x4 : Int32) (x5 : Int32) (x6 : Int32) (x7 : Int32) (S : cs) (R9 : Int32 → Int32 → Int32 → Int32 → Int32 → Int32 → Int32 → cs → Prop) (K : cs → Prop) : Prop :=
  ((S.1 u 2) ≤ x7 → (K S)) ∧ (¬ ((S.1 u 2) ≤ x7) → (e_Ca_paint_57 U u x1 x2 x3 x4 x5 x6 x7 ((x5 >>> ((8 * (((S.1 u 2) - 1) - x7)) &&& 31 : Int32) : Int32) &&& 255) ((x6 >>> ((8 * (((S.1 u 2) - 1) - x7)) &&& 31 : Int32) : Int32) &&& 255) 0 S R9 K))
def e_Ca_paint_9 (U : ut) (u : Nat) (x1 : Int32) (x2 : Int32) (x3 : Int32) (x4 : Int32) (x5 : Int32) (x6 : Int32) (x7 : Int32) (S : cs) (K : cs → Prop) : Prop :=
  ∃ (I : Int32 → Int32 → Int32 → Int32 → Int32 → Int32 → Int32 → cs → Prop) (μ : Int32 → Int32 → Int32 → Int32 → Int32 → Int32 → Int32 → cs → Nat), I x1 x2 x3 x4 x5 x6 x7 S ∧ ∀ yx1 yx2 yx3 yx4 yx5 yx6 yx7 yS, I yx1 yx2 yx3 yx4 yx5 yx6 yx7 yS → b_Ca_paint_9 U u yx1 yx2 yx3 yx4 yx5 yx6 yx7 yS (fun zx1 zx2 zx3 zx4 zx5 zx6 zx7 zS => I zx1 zx2 zx3 zx4 zx5 zx6 zx7 zS ∧ μ zx1 zx2 zx3 zx4 zx5 zx6 zx7 zS < μ yx1 yx2 yx3 yx4 yx5 yx6 yx7 yS) K
def p_Ca_paint (U : ut) (u : Nat) (x1 : Int32) (x2 : Int32) (x3 : Int32) (x4 : Int32) (x5 : Int32) (x6 : Int32) (S : cs) (K : cs → Prop) : Prop :=
  (1 ≤ x3 → (e_Ca_paint_9 U u x1 x2 x3 x4 x5 x6 0 S K)) ∧ (¬ (1 ≤ x3) → (K S))
section C_Ca_paint
variable {D : va_G} {z : Nat → ClassId} {A : Nat → Prop} {X : cx} {L0 : fw} {U : ut} {oa : Nat → Nat} {u : Nat} {K : cs → Prop}
set_option maxRecDepth 100000 in
set_option maxHeartbeats 1000000 in
theorem s_Ca_paint_81 (C : fcx gG D z A X R_Ca c_C_Ca_paint 14 (none)) (hQ : X.2.2.2.2.2.2.2.2.2.2 = eQ gG D z X.2.2.2.2.2.2.2.1 X.2.2.2.2.1 L0 0 0 (pC_v lt_C U oa K (fun _ _ => False))) (hA : A = owA gG L0 X.2.2.2.2.1.heap.size) (hR : X.2.2.2.1 = { frames := 2, cells := 1, slots := 6, locals := 200 }) (hu : c_cl U u = 2) (x1 : Int32) (x2 : Int32) (x3 : Int32) (x4 : Int32) (x5 : Int32) (x6 : Int32) (x7 : Int32) (x9 : Int32) (x10 : Int32) (x11 : Int32) (x12 : Int32) (x13 : Int32) (S : cs) (R9 : Int32 → Int32 → Int32 → Int32 → Int32 → Int32 → Int32 → cs → Prop) (hR9 : ∀ yx1 yx2 yx3 yx4 yx5 yx6 yx7 yS, R9 yx1 yx2 yx3 yx4 yx5 yx6 yx7 yS → aw gG D z A X 14 9 [some (.ref (oa u)), some (.int yx1), some (.int yx2), some (.int yx3), some (.int yx4), some (.int yx5), some (.int yx6), some (.int yx7), none, none, none, none, none, none] [] (cw lt_C U oa yS) 0 0) (R57 : Int32 → Int32 → Int32 → Int32 → Int32 → Int32 → Int32 → Int32 → Int32 → Int32 → cs → Prop) (hR57 : ∀ yx1 yx2 yx3 yx4 yx5 yx6 yx7 yx9 yx10 yx11 yS, R57 yx1 yx2 yx3 yx4 yx5 yx6 yx7 yx9 yx10 yx11 yS → aw gG D z A X 14 57 [some (.ref (oa u)), some (.int yx1), some (.int yx2), some (.int yx3), some (.int yx4), some (.int yx5), some (.int yx6), some (.int yx7), none, some (.int yx9), some (.int yx10), some (.int yx11), none, none] [] (cw lt_C U oa yS) 0 0) (R81 : Int32 → Int32 → Int32 → Int32 → Int32 → Int32 → Int32 → Int32 → Int32 → Int32 → Int32 → Int32 → cs → Prop) (hR81 : ∀ yx1 yx2 yx3 yx4 yx5 yx6 yx7 yx9 yx10 yx11 yx12 yx13 yS, R81 yx1 yx2 yx3 yx4 yx5 yx6 yx7 yx9 yx10 yx11 yx12 yx13 yS → aw gG D z A X 14 81 [some (.ref (oa u)), some (.int yx1), some (.int yx2), some (.int yx3), some (.int yx4), some (.int yx5), some (.int yx6), some (.int yx7), none, some (.int yx9), some (.int yx10), some (.int yx11), some (.int yx12), some (.int yx13)] [] (cw lt_C U oa yS) 0 0) (hp : b_Ca_paint_81 U u x1 x2 x3 x4 x5 x6 x7 x9 x10 x11 x12 x13 S R9 R57 R81 K) : aw gG D z A X 14 81 [some (.ref (oa u)), some (.int x1), some (.int x2), some (.int x3), some (.int x4), some (.int x5), some (.int x6), some (.int x7), none, some (.int x9), some (.int x10), some (.int x11), some (.int x12), some (.int x13)] [] (cw lt_C U oa S) 0 0 := by
  unfold b_Ca_paint_81 at hp
  refine a_iload C dc_Ca_paint_81 rfl ?_
  refine a_iload C dc_Ca_paint_83 rfl ?_
  refine a_icmp_ge (tgt := 114) C dc_Ca_paint_85 (by decide) ⟨fun hc => ?_, fun hc => ?_⟩
  · have hp := hp.1 hc
    refine a_iinc (v := x11 + 1) (lo' := [some (.ref (oa u)), some (.int x1), some (.int x2), some (.int x3), some (.int x4), some (.int x5), some (.int x6), some (.int x7), none, some (.int x9), some (.int x10), some (.int (x11 + 1)), some (.int x12), some (.int x13)]) C dc_Ca_paint_114 rfl rfl (by decide) rfl ?_
    refine a_goto (tgt := 57) C dc_Ca_paint_117 (by decide) ?_
    refine aw_lo (lo' := [some (.ref (oa u)), some (.int x1), some (.int x2), some (.int x3), some (.int x4), some (.int x5), some (.int x6), some (.int x7), none, some (.int x9), some (.int x10), some (.int (x11 + 1)), none, none]) ⟨.inr rfl, .inr rfl, .inr rfl, .inr rfl, .inr rfl, .inr rfl, .inr rfl, .inr rfl, .inr rfl, .inr rfl, .inr rfl, .inr rfl, .inl rfl, .inl rfl, trivial⟩ ?_
    exact hR57 x1 x2 x3 x4 x5 x6 x7 x9 x10 (x11 + 1) S hp
  · have hp := hp.2 hc
    refine a_aload_n C dc_Ca_paint_88 rfl rfl ?_
    refine c_getR C u 3 dc_Ca_paint_89 hu rfl rfl (Nat.le_of_ble_eq_true rfl) f_Ca_21 rfl hp.1 ?_
    have hp := hp.2
    refine a_iload C dc_Ca_paint_92 rfl ?_
    refine a_iload_n C dc_Ca_paint_94 rfl rfl ?_
    refine a_iload C dc_Ca_paint_95 rfl ?_
    refine a_iadd C dc_Ca_paint_97 ?_
    refine a_iload_n C dc_Ca_paint_98 rfl rfl ?_
    refine a_iload C dc_Ca_paint_99 rfl ?_
    refine a_iadd C dc_Ca_paint_101 ?_
    refine a_callP (rest := [.ref (oa (S.2.2 u 3))]) (av := [.int x7, .int (x1 + x11), .int (x2 + x13)]) C dc_Ca_paint_102 (ct_B_spot x7 (x1 + x11) (x2 + x13) hp) cd_C_B_spot i_B (Nat.le_of_ble_eq_true rfl) (by rw [hR]; exact Nat.le_of_ble_eq_true rfl) (by rw [hR]; exact Nat.le_of_ble_eq_true rfl) (by rw [hR]; exact Nat.le_of_ble_eq_true rfl) (by rw [hR]; exact Nat.le_of_ble_eq_true rfl) (inv_SN C dc_Ca_paint_102 l_Ca_31 st_C_B_spot i_B cd_C_B_spot ⟨by decide, by decide⟩ ln_C_B_spot rfl) (fun v102 hp => ?_)
    refine aw_eq (lo' := _) (st' := [.int v102, .ref (oa (S.2.2 u 3))]) (L' := (cw lt_C U oa S)) rfl rfl rfl ?_
    refine a_iload C dc_Ca_paint_105 rfl ?_
    have hc1 := hp.1
    have hp := hp.2
    refine c_iast C (S.2.2 u 3) dc_Ca_paint_107 hc1 hp.1 ?_
    have hp := hp.2
    refine aw_eq (lo' := _) (st' := _) (L' := (cw lt_C U oa (va_up S.1 (S.2.2 u 3) (upd (S.1 (S.2.2 u 3)) v102.toNatClampNeg x12), S.2.1, S.2.2))) rfl rfl rfl ?_
    refine a_iinc (v := x13 + 1) (lo' := [some (.ref (oa u)), some (.int x1), some (.int x2), some (.int x3), some (.int x4), some (.int x5), some (.int x6), some (.int x7), none, some (.int x9), some (.int x10), some (.int x11), some (.int x12), some (.int (x13 + 1))]) C dc_Ca_paint_108 rfl rfl (by decide) rfl ?_
    refine a_goto (tgt := 81) C dc_Ca_paint_111 (by decide) ?_
    refine aw_lo (lo' := [some (.ref (oa u)), some (.int x1), some (.int x2), some (.int x3), some (.int x4), some (.int x5), some (.int x6), some (.int x7), none, some (.int x9), some (.int x10), some (.int x11), some (.int x12), some (.int (x13 + 1))]) ⟨.inr rfl, .inr rfl, .inr rfl, .inr rfl, .inr rfl, .inr rfl, .inr rfl, .inr rfl, .inr rfl, .inr rfl, .inr rfl, .inr rfl, .inr rfl, .inr rfl, trivial⟩ ?_
    exact hR81 x1 x2 x3 x4 x5 x6 x7 x9 x10 x11 x12 (x13 + 1) (va_up S.1 (S.2.2 u 3) (upd (S.1 (S.2.2 u 3)) v102.toNatClampNeg x12), S.2.1, S.2.2) hp
set_option maxRecDepth 100000 in
set_option maxHeartbeats 1000000 in
theorem se_Ca_paint_81 (C : fcx gG D z A X R_Ca c_C_Ca_paint 14 (none)) (hQ : X.2.2.2.2.2.2.2.2.2.2 = eQ gG D z X.2.2.2.2.2.2.2.1 X.2.2.2.2.1 L0 0 0 (pC_v lt_C U oa K (fun _ _ => False))) (hA : A = owA gG L0 X.2.2.2.2.1.heap.size) (hR : X.2.2.2.1 = { frames := 2, cells := 1, slots := 6, locals := 200 }) (hu : c_cl U u = 2) (x1 : Int32) (x2 : Int32) (x3 : Int32) (x4 : Int32) (x5 : Int32) (x6 : Int32) (x7 : Int32) (x9 : Int32) (x10 : Int32) (x11 : Int32) (x12 : Int32) (x13 : Int32) (S : cs) (R9 : Int32 → Int32 → Int32 → Int32 → Int32 → Int32 → Int32 → cs → Prop) (hR9 : ∀ yx1 yx2 yx3 yx4 yx5 yx6 yx7 yS, R9 yx1 yx2 yx3 yx4 yx5 yx6 yx7 yS → aw gG D z A X 14 9 [some (.ref (oa u)), some (.int yx1), some (.int yx2), some (.int yx3), some (.int yx4), some (.int yx5), some (.int yx6), some (.int yx7), none, none, none, none, none, none] [] (cw lt_C U oa yS) 0 0) (R57 : Int32 → Int32 → Int32 → Int32 → Int32 → Int32 → Int32 → Int32 → Int32 → Int32 → cs → Prop) (hR57 : ∀ yx1 yx2 yx3 yx4 yx5 yx6 yx7 yx9 yx10 yx11 yS, R57 yx1 yx2 yx3 yx4 yx5 yx6 yx7 yx9 yx10 yx11 yS → aw gG D z A X 14 57 [some (.ref (oa u)), some (.int yx1), some (.int yx2), some (.int yx3), some (.int yx4), some (.int yx5), some (.int yx6), some (.int yx7), none, some (.int yx9), some (.int yx10), some (.int yx11), none, none] [] (cw lt_C U oa yS) 0 0) (hp : e_Ca_paint_81 U u x1 x2 x3 x4 x5 x6 x7 x9 x10 x11 x12 x13 S R9 R57 K) : aw gG D z A X 14 81 [some (.ref (oa u)), some (.int x1), some (.int x2), some (.int x3), some (.int x4), some (.int x5), some (.int x6), some (.int x7), none, some (.int x9), some (.int x10), some (.int x11), some (.int x12), some (.int x13)] [] (cw lt_C U oa S) 0 0 := by
  obtain ⟨I, μ, h0, hs⟩ := hp
  have key : ∀ (n : Nat) (yx1 : Int32) (yx2 : Int32) (yx3 : Int32) (yx4 : Int32) (yx5 : Int32) (yx6 : Int32) (yx7 : Int32) (yx9 : Int32) (yx10 : Int32) (yx11 : Int32) (yx12 : Int32) (yx13 : Int32) (yS : cs), μ yx1 yx2 yx3 yx4 yx5 yx6 yx7 yx9 yx10 yx11 yx12 yx13 yS < n → I yx1 yx2 yx3 yx4 yx5 yx6 yx7 yx9 yx10 yx11 yx12 yx13 yS → aw gG D z A X 14 81 [some (.ref (oa u)), some (.int yx1), some (.int yx2), some (.int yx3), some (.int yx4), some (.int yx5), some (.int yx6), some (.int yx7), none, some (.int yx9), some (.int yx10), some (.int yx11), some (.int yx12), some (.int yx13)] [] (cw lt_C U oa yS) 0 0 := by
    intro n
    induction n with
    | zero => intro yx1 yx2 yx3 yx4 yx5 yx6 yx7 yx9 yx10 yx11 yx12 yx13 yS h; omega
    | succ n ih =>
      intro yx1 yx2 yx3 yx4 yx5 yx6 yx7 yx9 yx10 yx11 yx12 yx13 yS hn hI
      exact s_Ca_paint_81 C hQ hA hR hu yx1 yx2 yx3 yx4 yx5 yx6 yx7 yx9 yx10 yx11 yx12 yx13 yS R9 hR9 R57 hR57 _ (fun zx1 zx2 zx3 zx4 zx5 zx6 zx7 zx9 zx10 zx11 zx12 zx13 zS hw => ih zx1 zx2 zx3 zx4 zx5 zx6 zx7 zx9 zx10 zx11 zx12 zx13 zS (by omega) hw.1) (hs yx1 yx2 yx3 yx4 yx5 yx6 yx7 yx9 yx10 yx11 yx12 yx13 yS hI)
  exact key (μ x1 x2 x3 x4 x5 x6 x7 x9 x10 x11 x12 x13 S + 1) x1 x2 x3 x4 x5 x6 x7 x9 x10 x11 x12 x13 S (Nat.lt_succ_self _) h0
set_option maxRecDepth 100000 in
set_option maxHeartbeats 1000000 in
theorem s_Ca_paint_57 (C : fcx gG D z A X R_Ca c_C_Ca_paint 14 (none)) (hQ : X.2.2.2.2.2.2.2.2.2.2 = eQ gG D z X.2.2.2.2.2.2.2.1 X.2.2.2.2.1 L0 0 0 (pC_v lt_C U oa K (fun _ _ => False))) (hA : A = owA gG L0 X.2.2.2.2.1.heap.size) (hR : X.2.2.2.1 = { frames := 2, cells := 1, slots := 6, locals := 200 }) (hu : c_cl U u = 2) (x1 : Int32) (x2 : Int32) (x3 : Int32) (x4 : Int32) (x5 : Int32) (x6 : Int32) (x7 : Int32) (x9 : Int32) (x10 : Int32) (x11 : Int32) (S : cs) (R9 : Int32 → Int32 → Int32 → Int32 → Int32 → Int32 → Int32 → cs → Prop) (hR9 : ∀ yx1 yx2 yx3 yx4 yx5 yx6 yx7 yS, R9 yx1 yx2 yx3 yx4 yx5 yx6 yx7 yS → aw gG D z A X 14 9 [some (.ref (oa u)), some (.int yx1), some (.int yx2), some (.int yx3), some (.int yx4), some (.int yx5), some (.int yx6), some (.int yx7), none, none, none, none, none, none] [] (cw lt_C U oa yS) 0 0) (R57 : Int32 → Int32 → Int32 → Int32 → Int32 → Int32 → Int32 → Int32 → Int32 → Int32 → cs → Prop) (hR57 : ∀ yx1 yx2 yx3 yx4 yx5 yx6 yx7 yx9 yx10 yx11 yS, R57 yx1 yx2 yx3 yx4 yx5 yx6 yx7 yx9 yx10 yx11 yS → aw gG D z A X 14 57 [some (.ref (oa u)), some (.int yx1), some (.int yx2), some (.int yx3), some (.int yx4), some (.int yx5), some (.int yx6), some (.int yx7), none, some (.int yx9), some (.int yx10), some (.int yx11), none, none] [] (cw lt_C U oa yS) 0 0) (hp : b_Ca_paint_57 U u x1 x2 x3 x4 x5 x6 x7 x9 x10 x11 S R9 R57 K) : aw gG D z A X 14 57 [some (.ref (oa u)), some (.int x1), some (.int x2), some (.int x3), some (.int x4), some (.int x5), some (.int x6), some (.int x7), none, some (.int x9), some (.int x10), some (.int x11), none, none] [] (cw lt_C U oa S) 0 0 := by
  unfold b_Ca_paint_57 at hp
  refine a_iload C dc_Ca_paint_57 rfl ?_
  refine a_iload_n C dc_Ca_paint_59 rfl rfl ?_
  refine a_icmp_ge (tgt := 120) C dc_Ca_paint_60 (by decide) ⟨fun hc => ?_, fun hc => ?_⟩
  · have hp := hp.1 hc
    refine a_iinc (v := x7 + 1) (lo' := [some (.ref (oa u)), some (.int x1), some (.int x2), some (.int x3), some (.int x4), some (.int x5), some (.int x6), some (.int (x7 + 1)), none, some (.int x9), some (.int x10), some (.int x11), none, none]) C dc_Ca_paint_120 rfl rfl (by decide) rfl ?_
    refine a_goto (tgt := 9) C dc_Ca_paint_123 (by decide) ?_
    refine aw_lo (lo' := [some (.ref (oa u)), some (.int x1), some (.int x2), some (.int x3), some (.int x4), some (.int x5), some (.int x6), some (.int (x7 + 1)), none, none, none, none, none, none]) ⟨.inr rfl, .inr rfl, .inr rfl, .inr rfl, .inr rfl, .inr rfl, .inr rfl, .inr rfl, .inr rfl, .inl rfl, .inl rfl, .inl rfl, .inr rfl, .inr rfl, trivial⟩ ?_
    exact hR9 x1 x2 x3 x4 x5 x6 (x7 + 1) S hp
  · have hp := hp.2 hc
    refine a_iload C dc_Ca_paint_63 rfl ?_
    refine a_iload C dc_Ca_paint_65 rfl ?_
    refine a_iload C dc_Ca_paint_67 rfl ?_
    refine a_isub C dc_Ca_paint_69 ?_
    refine a_iload C dc_Ca_paint_70 rfl ?_
    refine a_imul C dc_Ca_paint_72 ?_
    refine a_iload_n C dc_Ca_paint_73 rfl rfl ?_
    refine a_idiv C dc_Ca_paint_74 hp.1 ?_
    have hp := hp.2
    refine a_iadd C dc_Ca_paint_75 ?_
    refine a_istore (lo' := [some (.ref (oa u)), some (.int x1), some (.int x2), some (.int x3), some (.int x4), some (.int x5), some (.int x6), some (.int x7), none, some (.int x9), some (.int x10), some (.int x11), some (.int (x9 + (((x10 - x9) * x11) / x3))), none]) C dc_Ca_paint_76 (by decide) rfl ?_
    refine a_iconst (v := 0) C dc_Ca_paint_78 (by decide) ?_
    refine a_istore (lo' := [some (.ref (oa u)), some (.int x1), some (.int x2), some (.int x3), some (.int x4), some (.int x5), some (.int x6), some (.int x7), none, some (.int x9), some (.int x10), some (.int x11), some (.int (x9 + (((x10 - x9) * x11) / x3))), some (.int 0)]) C dc_Ca_paint_79 (by decide) rfl ?_
    refine aw_lo (lo' := [some (.ref (oa u)), some (.int x1), some (.int x2), some (.int x3), some (.int x4), some (.int x5), some (.int x6), some (.int x7), none, some (.int x9), some (.int x10), some (.int x11), some (.int (x9 + (((x10 - x9) * x11) / x3))), some (.int 0)]) ⟨.inr rfl, .inr rfl, .inr rfl, .inr rfl, .inr rfl, .inr rfl, .inr rfl, .inr rfl, .inr rfl, .inr rfl, .inr rfl, .inr rfl, .inr rfl, .inr rfl, trivial⟩ ?_
    exact se_Ca_paint_81 C hQ hA hR hu x1 x2 x3 x4 x5 x6 x7 x9 x10 x11 (x9 + (((x10 - x9) * x11) / x3)) 0 S R9 hR9 R57 hR57 hp
set_option maxRecDepth 100000 in
set_option maxHeartbeats 1000000 in
theorem se_Ca_paint_57 (C : fcx gG D z A X R_Ca c_C_Ca_paint 14 (none)) (hQ : X.2.2.2.2.2.2.2.2.2.2 = eQ gG D z X.2.2.2.2.2.2.2.1 X.2.2.2.2.1 L0 0 0 (pC_v lt_C U oa K (fun _ _ => False))) (hA : A = owA gG L0 X.2.2.2.2.1.heap.size) (hR : X.2.2.2.1 = { frames := 2, cells := 1, slots := 6, locals := 200 }) (hu : c_cl U u = 2) (x1 : Int32) (x2 : Int32) (x3 : Int32) (x4 : Int32) (x5 : Int32) (x6 : Int32) (x7 : Int32) (x9 : Int32) (x10 : Int32) (x11 : Int32) (S : cs) (R9 : Int32 → Int32 → Int32 → Int32 → Int32 → Int32 → Int32 → cs → Prop) (hR9 : ∀ yx1 yx2 yx3 yx4 yx5 yx6 yx7 yS, R9 yx1 yx2 yx3 yx4 yx5 yx6 yx7 yS → aw gG D z A X 14 9 [some (.ref (oa u)), some (.int yx1), some (.int yx2), some (.int yx3), some (.int yx4), some (.int yx5), some (.int yx6), some (.int yx7), none, none, none, none, none, none] [] (cw lt_C U oa yS) 0 0) (hp : e_Ca_paint_57 U u x1 x2 x3 x4 x5 x6 x7 x9 x10 x11 S R9 K) : aw gG D z A X 14 57 [some (.ref (oa u)), some (.int x1), some (.int x2), some (.int x3), some (.int x4), some (.int x5), some (.int x6), some (.int x7), none, some (.int x9), some (.int x10), some (.int x11), none, none] [] (cw lt_C U oa S) 0 0 := by
  obtain ⟨I, μ, h0, hs⟩ := hp
  have key : ∀ (n : Nat) (yx1 : Int32) (yx2 : Int32) (yx3 : Int32) (yx4 : Int32) (yx5 : Int32) (yx6 : Int32) (yx7 : Int32) (yx9 : Int32) (yx10 : Int32) (yx11 : Int32) (yS : cs), μ yx1 yx2 yx3 yx4 yx5 yx6 yx7 yx9 yx10 yx11 yS < n → I yx1 yx2 yx3 yx4 yx5 yx6 yx7 yx9 yx10 yx11 yS → aw gG D z A X 14 57 [some (.ref (oa u)), some (.int yx1), some (.int yx2), some (.int yx3), some (.int yx4), some (.int yx5), some (.int yx6), some (.int yx7), none, some (.int yx9), some (.int yx10), some (.int yx11), none, none] [] (cw lt_C U oa yS) 0 0 := by
    intro n
    induction n with
    | zero => intro yx1 yx2 yx3 yx4 yx5 yx6 yx7 yx9 yx10 yx11 yS h; omega
    | succ n ih =>
      intro yx1 yx2 yx3 yx4 yx5 yx6 yx7 yx9 yx10 yx11 yS hn hI
      exact s_Ca_paint_57 C hQ hA hR hu yx1 yx2 yx3 yx4 yx5 yx6 yx7 yx9 yx10 yx11 yS R9 hR9 _ (fun zx1 zx2 zx3 zx4 zx5 zx6 zx7 zx9 zx10 zx11 zS hw => ih zx1 zx2 zx3 zx4 zx5 zx6 zx7 zx9 zx10 zx11 zS (by omega) hw.1) (hs yx1 yx2 yx3 yx4 yx5 yx6 yx7 yx9 yx10 yx11 yS hI)
  exact key (μ x1 x2 x3 x4 x5 x6 x7 x9 x10 x11 S + 1) x1 x2 x3 x4 x5 x6 x7 x9 x10 x11 S (Nat.lt_succ_self _) h0
set_option maxRecDepth 100000 in
set_option maxHeartbeats 1000000 in
theorem s_Ca_paint_9 (C : fcx gG D z A X R_Ca c_C_Ca_paint 14 (none)) (hQ : X.2.2.2.2.2.2.2.2.2.2 = eQ gG D z X.2.2.2.2.2.2.2.1 X.2.2.2.2.1 L0 0 0 (pC_v lt_C U oa K (fun _ _ => False))) (hA : A = owA gG L0 X.2.2.2.2.1.heap.size) (hR : X.2.2.2.1 = { frames := 2, cells := 1, slots := 6, locals := 200 }) (hu : c_cl U u = 2) (x1 : Int32) (x2 : Int32) (x3 : Int32) (x4 : Int32) (x5 : Int32) (x6 : Int32) (x7 : Int32) (S : cs) (R9 : Int32 → Int32 → Int32 → Int32 → Int32 → Int32 → Int32 → cs → Prop) (hR9 : ∀ yx1 yx2 yx3 yx4 yx5 yx6 yx7 yS, R9 yx1 yx2 yx3 yx4 yx5 yx6 yx7 yS → aw gG D z A X 14 9 [some (.ref (oa u)), some (.int yx1), some (.int yx2), some (.int yx3), some (.int yx4), some (.int yx5), some (.int yx6), some (.int yx7), none, none, none, none, none, none] [] (cw lt_C U oa yS) 0 0) (hp : b_Ca_paint_9 U u x1 x2 x3 x4 x5 x6 x7 S R9 K) : aw gG D z A X 14 9 [some (.ref (oa u)), some (.int x1), some (.int x2), some (.int x3), some (.int x4), some (.int x5), some (.int x6), some (.int x7), none, none, none, none, none, none] [] (cw lt_C U oa S) 0 0 := by
  unfold b_Ca_paint_9 at hp
  refine a_iload C dc_Ca_paint_9 rfl ?_
  refine a_aload_n C dc_Ca_paint_11 rfl rfl ?_
  refine c_getI C u 2 dc_Ca_paint_12 hu rfl rfl (Nat.le_of_ble_eq_true rfl) f_Ca_18 (Nat.le_of_ble_eq_true rfl) ?_
  refine a_icmp_ge (tgt := 126) C dc_Ca_paint_15 (by decide) ⟨fun hc => ?_, fun hc => ?_⟩
  · have hp := hp.1 hc
    exact a_vret C hQ hA dc_Ca_paint_126 rfl (Or.inl ⟨S, hp, rfl, rfl⟩)
  · have hp := hp.2 hc
    refine a_bipush (v := 8) C dc_Ca_paint_18 (by decide) ?_
    refine a_aload_n C dc_Ca_paint_20 rfl rfl ?_
    refine c_getI C u 2 dc_Ca_paint_21 hu rfl rfl (Nat.le_of_ble_eq_true rfl) f_Ca_18 (Nat.le_of_ble_eq_true rfl) ?_
    refine a_iconst (v := 1) C dc_Ca_paint_24 (by decide) ?_
    refine a_isub C dc_Ca_paint_25 ?_
    refine a_iload C dc_Ca_paint_26 rfl ?_
    refine a_isub C dc_Ca_paint_28 ?_
    refine a_imul C dc_Ca_paint_29 ?_
    refine a_istore (lo' := [some (.ref (oa u)), some (.int x1), some (.int x2), some (.int x3), some (.int x4), some (.int x5), some (.int x6), some (.int x7), some (.int (8 * (((S.1 u 2) - 1) - x7))), none, none, none, none, none]) C dc_Ca_paint_30 (by decide) rfl ?_
    refine a_iload C dc_Ca_paint_32 rfl ?_
    refine a_iload C dc_Ca_paint_34 rfl ?_
    refine a_ishr C dc_Ca_paint_36 ?_
    refine a_sipush (v := 255) C dc_Ca_paint_37 (by decide) ?_
    refine a_iand C dc_Ca_paint_40 ?_
    refine a_istore (lo' := [some (.ref (oa u)), some (.int x1), some (.int x2), some (.int x3), some (.int x4), some (.int x5), some (.int x6), some (.int x7), some (.int (8 * (((S.1 u 2) - 1) - x7))), some (.int ((x5 >>> ((8 * (((S.1 u 2) - 1) - x7)) &&& 31 : Int32) : Int32) &&& 255)), none, none, none, none]) C dc_Ca_paint_41 (by decide) rfl ?_
    refine a_iload C dc_Ca_paint_43 rfl ?_
    refine a_iload C dc_Ca_paint_45 rfl ?_
    refine a_ishr C dc_Ca_paint_47 ?_
    refine a_sipush (v := 255) C dc_Ca_paint_48 (by decide) ?_
    refine a_iand C dc_Ca_paint_51 ?_
    refine a_istore (lo' := [some (.ref (oa u)), some (.int x1), some (.int x2), some (.int x3), some (.int x4), some (.int x5), some (.int x6), some (.int x7), some (.int (8 * (((S.1 u 2) - 1) - x7))), some (.int ((x5 >>> ((8 * (((S.1 u 2) - 1) - x7)) &&& 31 : Int32) : Int32) &&& 255)), some (.int ((x6 >>> ((8 * (((S.1 u 2) - 1) - x7)) &&& 31 : Int32) : Int32) &&& 255)), none, none, none]) C dc_Ca_paint_52 (by decide) rfl ?_
    refine a_iconst (v := 0) C dc_Ca_paint_54 (by decide) ?_
    refine a_istore (lo' := [some (.ref (oa u)), some (.int x1), some (.int x2), some (.int x3), some (.int x4), some (.int x5), some (.int x6), some (.int x7), some (.int (8 * (((S.1 u 2) - 1) - x7))), some (.int ((x5 >>> ((8 * (((S.1 u 2) - 1) - x7)) &&& 31 : Int32) : Int32) &&& 255)), some (.int ((x6 >>> ((8 * (((S.1 u 2) - 1) - x7)) &&& 31 : Int32) : Int32) &&& 255)), some (.int 0), none, none]) C dc_Ca_paint_55 (by decide) rfl ?_
    refine aw_lo (lo' := [some (.ref (oa u)), some (.int x1), some (.int x2), some (.int x3), some (.int x4), some (.int x5), some (.int x6), some (.int x7), none, some (.int ((x5 >>> ((8 * (((S.1 u 2) - 1) - x7)) &&& 31 : Int32) : Int32) &&& 255)), some (.int ((x6 >>> ((8 * (((S.1 u 2) - 1) - x7)) &&& 31 : Int32) : Int32) &&& 255)), some (.int 0), none, none]) ⟨.inr rfl, .inr rfl, .inr rfl, .inr rfl, .inr rfl, .inr rfl, .inr rfl, .inr rfl, .inl rfl, .inr rfl, .inr rfl, .inr rfl, .inr rfl, .inr rfl, trivial⟩ ?_
    exact se_Ca_paint_57 C hQ hA hR hu x1 x2 x3 x4 x5 x6 x7 ((x5 >>> ((8 * (((S.1 u 2) - 1) - x7)) &&& 31 : Int32) : Int32) &&& 255) ((x6 >>> ((8 * (((S.1 u 2) - 1) - x7)) &&& 31 : Int32) : Int32) &&& 255) 0 S R9 hR9 hp
set_option maxRecDepth 100000 in
set_option maxHeartbeats 1000000 in
theorem se_Ca_paint_9 (C : fcx gG D z A X R_Ca c_C_Ca_paint 14 (none)) (hQ : X.2.2.2.2.2.2.2.2.2.2 = eQ gG D z X.2.2.2.2.2.2.2.1 X.2.2.2.2.1 L0 0 0 (pC_v lt_C U oa K (fun _ _ => False))) (hA : A = owA gG L0 X.2.2.2.2.1.heap.size) (hR : X.2.2.2.1 = { frames := 2, cells := 1, slots := 6, locals := 200 }) (hu : c_cl U u = 2) (x1 : Int32) (x2 : Int32) (x3 : Int32) (x4 : Int32) (x5 : Int32) (x6 : Int32) (x7 : Int32) (S : cs) (hp : e_Ca_paint_9 U u x1 x2 x3 x4 x5 x6 x7 S K) : aw gG D z A X 14 9 [some (.ref (oa u)), some (.int x1), some (.int x2), some (.int x3), some (.int x4), some (.int x5), some (.int x6), some (.int x7), none, none, none, none, none, none] [] (cw lt_C U oa S) 0 0 := by
  obtain ⟨I, μ, h0, hs⟩ := hp
  have key : ∀ (n : Nat) (yx1 : Int32) (yx2 : Int32) (yx3 : Int32) (yx4 : Int32) (yx5 : Int32) (yx6 : Int32) (yx7 : Int32) (yS : cs), μ yx1 yx2 yx3 yx4 yx5 yx6 yx7 yS < n → I yx1 yx2 yx3 yx4 yx5 yx6 yx7 yS → aw gG D z A X 14 9 [some (.ref (oa u)), some (.int yx1), some (.int yx2), some (.int yx3), some (.int yx4), some (.int yx5), some (.int yx6), some (.int yx7), none, none, none, none, none, none] [] (cw lt_C U oa yS) 0 0 := by
    intro n
    induction n with
    | zero => intro yx1 yx2 yx3 yx4 yx5 yx6 yx7 yS h; omega
    | succ n ih =>
      intro yx1 yx2 yx3 yx4 yx5 yx6 yx7 yS hn hI
      exact s_Ca_paint_9 C hQ hA hR hu yx1 yx2 yx3 yx4 yx5 yx6 yx7 yS _ (fun zx1 zx2 zx3 zx4 zx5 zx6 zx7 zS hw => ih zx1 zx2 zx3 zx4 zx5 zx6 zx7 zS (by omega) hw.1) (hs yx1 yx2 yx3 yx4 yx5 yx6 yx7 yS hI)
  exact key (μ x1 x2 x3 x4 x5 x6 x7 S + 1) x1 x2 x3 x4 x5 x6 x7 S (Nat.lt_succ_self _) h0
set_option maxRecDepth 100000 in
set_option maxHeartbeats 1000000 in
theorem s_Ca_paint_0 (C : fcx gG D z A X R_Ca c_C_Ca_paint 14 (none)) (hQ : X.2.2.2.2.2.2.2.2.2.2 = eQ gG D z X.2.2.2.2.2.2.2.1 X.2.2.2.2.1 L0 0 0 (pC_v lt_C U oa K (fun _ _ => False))) (hA : A = owA gG L0 X.2.2.2.2.1.heap.size) (hR : X.2.2.2.1 = { frames := 2, cells := 1, slots := 6, locals := 200 }) (hu : c_cl U u = 2) (x1 : Int32) (x2 : Int32) (x3 : Int32) (x4 : Int32) (x5 : Int32) (x6 : Int32) (S : cs) (hp : p_Ca_paint U u x1 x2 x3 x4 x5 x6 S K) : aw gG D z A X 14 0 [some (.ref (oa u)), some (.int x1), some (.int x2), some (.int x3), some (.int x4), some (.int x5), some (.int x6), none, none, none, none, none, none, none] [] (cw lt_C U oa S) 0 0 := by
  unfold p_Ca_paint at hp
  refine a_iload_n C dc_Ca_paint_0 rfl rfl ?_
  refine a_iconst (v := 1) C dc_Ca_paint_1 (by decide) ?_
  refine a_icmp_ge (tgt := 6) C dc_Ca_paint_2 (by decide) ⟨fun hc => ?_, fun hc => ?_⟩
  · have hp := hp.1 hc
    refine a_iconst (v := 0) C dc_Ca_paint_6 (by decide) ?_
    refine a_istore (lo' := [some (.ref (oa u)), some (.int x1), some (.int x2), some (.int x3), some (.int x4), some (.int x5), some (.int x6), some (.int 0), none, none, none, none, none, none]) C dc_Ca_paint_7 (by decide) rfl ?_
    refine aw_lo (lo' := [some (.ref (oa u)), some (.int x1), some (.int x2), some (.int x3), some (.int x4), some (.int x5), some (.int x6), some (.int 0), none, none, none, none, none, none]) ⟨.inr rfl, .inr rfl, .inr rfl, .inr rfl, .inr rfl, .inr rfl, .inr rfl, .inr rfl, .inr rfl, .inr rfl, .inr rfl, .inr rfl, .inr rfl, .inr rfl, trivial⟩ ?_
    exact se_Ca_paint_9 C hQ hA hR hu x1 x2 x3 x4 x5 x6 0 S  hp
  · have hp := hp.2 hc
    exact a_vret C hQ hA dc_Ca_paint_5 rfl (Or.inl ⟨S, hp, rfl, rfl⟩)
end C_Ca_paint
section C_Ca_paintc
variable {D : va_G} {z : Nat → ClassId} {U : ut} {oa : Nat → Nat}
set_option maxRecDepth 100000 in
theorem ct_Ca_paint {l : Launch} (u : Nat) (x1 : Int32) (x2 : Int32) (x3 : Int32) (x4 : Int32) (x5 : Int32) (x6 : Int32) (S : cs) {K : cs → Prop} (hu : c_cl U u = 2) (hp : p_Ca_paint U u x1 x2 x3 x4 x5 x6 S K) : ct gG D z l n_C_Ca_paint c_C_Ca_paint 14 (none) 2 200 [.ref (oa u), .int x1, .int x2, .int x3, .int x4, .int x5, .int x6] (cw lt_C U oa S) 0 0 (pC_v lt_C U oa K (fun _ _ => False)) := by
  refine ct_of (lo := [some (.ref (oa u)), some (.int x1), some (.int x2), some (.int x3), some (.int x4), some (.int x5), some (.int x6), none, none, none, none, none, none, none]) (by decide) g_ok (Nat.le_of_ble_eq_true rfl) rfl ?_
  intro X A _ C hR hQ hA _
  exact s_Ca_paint_0 C hQ hA hR hu x1 x2 x3 x4 x5 x6 S hp
end C_Ca_paintc
def p_B_fill (U : ut) (u : Nat) (x1 : Int32) (x2 : Int32) (x3 : Int32) (x4 : Int32) (x5 : Int32) (S : cs) (K : cs → Prop) (T : Nat → cs → Prop) : Prop :=
  ¬ S.2.2 u 0 = NU ∧ (c_cl U (S.2.2 u 0) = 2 ∧ (p_Ca_holds U (S.2.2 u 0) x1 x2 x3 x4 S (fun v9 S9 => (¬ v9 = 0 → (¬ S9.2.2 u 0 = NU ∧ (c_cl U (S9.2.2 u 0) = 2 ∧ (p_Ca_paint U (S9.2.2 u 0) x1 x2 x3 x4 x5 x5 S9 (fun S38 => K S38))))) ∧ (v9 = 0 → (T 15 S9)))))
section C_B_fill
variable {D : va_G} {z : Nat → ClassId} {A : Nat → Prop} {X : cx} {L0 : fw} {U : ut} {oa : Nat → Nat} {u : Nat} {K : cs → Prop} {T : Nat → cs → Prop}
set_option maxRecDepth 100000 in
set_option maxHeartbeats 1000000 in
theorem s_B_fill_0 (C : fcx gG D z A X R_B c_C_B_fill 6 (none)) (hQ : X.2.2.2.2.2.2.2.2.2.2 = eQ gG D z X.2.2.2.2.2.2.2.1 X.2.2.2.2.1 L0 0 0 (pC_v lt_C U oa K T)) (hA : A = owA gG L0 X.2.2.2.2.1.heap.size) (hR : X.2.2.2.1 = { frames := 9, cells := 1, slots := 6, locals := 900 }) (hno : ∀ x ∈ X.2.2.2.2.2.2.2.2.2.1.exceptionTable.toList, False) (hfl : X.2.1.flags = pinnedFlags ++ [noTraceFlag]) (hu : c_cl U u = 1) (x1 : Int32) (x2 : Int32) (x3 : Int32) (x4 : Int32) (x5 : Int32) (S : cs) (hp : p_B_fill U u x1 x2 x3 x4 x5 S K T) : aw gG D z A X 6 0 [some (.ref (oa u)), some (.int x1), some (.int x2), some (.int x3), some (.int x4), some (.int x5)] [] (cw lt_C U oa S) 0 0 := by
  unfold p_B_fill at hp
  refine a_aload_n C dc_B_fill_0 rfl rfl ?_
  refine c_getR C u 0 dc_B_fill_1 hu rfl rfl (Nat.le_of_ble_eq_true rfl) f_B_12 rfl hp.1 ?_
  have hp := hp.2
  refine a_iload_n C dc_B_fill_4 rfl rfl ?_
  refine a_iload_n C dc_B_fill_5 rfl rfl ?_
  refine a_iload_n C dc_B_fill_6 rfl rfl ?_
  refine a_iload C dc_B_fill_7 rfl ?_
  have hc1 := hp.1
  have hp := hp.2
  refine c_call (rest := []) (av := .ref (oa (S.2.2 u 0)) :: [.int x1, .int x2, .int x3, .int x4]) C dc_B_fill_9 (ct_Ca_holds (S.2.2 u 0) x1 x2 x3 x4 S hc1 hp) cd_C_Ca_holds i_Ca (Nat.le_of_ble_eq_true rfl) (by rw [hR]; exact Nat.le_of_ble_eq_true rfl) (by rw [hR]; exact Nat.le_of_ble_eq_true rfl) (by rw [hR]; exact Nat.le_of_ble_eq_true rfl) (by rw [hR]; exact Nat.le_of_ble_eq_true rfl) (inv_V C (S.2.2 u 0) dc_B_fill_9 l_B_86 im_C_Ca_holds se_C_Ca_holds cd_C_Ca_holds ⟨by decide, by decide⟩ ln_C_Ca_holds rfl rfl (cw_obj hc1 rfl) rfl rfl) (fun oc L1 hL => ?_)
  obtain ⟨v9, S9, hp, rfl, rfl⟩ := hL.resolve_right pC_no
  refine ⟨_, rfl, ?_⟩
  refine aw_eq (lo' := _) (st' := [.int v9]) (L' := (cw lt_C U oa S9)) rfl rfl rfl ?_
  refine a_if_ne (tgt := 25) C dc_B_fill_12 (by decide) ⟨fun hc => ?_, fun hc => ?_⟩
  · have hp := hp.1 hc
    refine a_aload_n C dc_B_fill_25 rfl rfl ?_
    refine c_getR C u 0 dc_B_fill_26 hu rfl rfl (Nat.le_of_ble_eq_true rfl) f_B_12 rfl hp.1 ?_
    have hp := hp.2
    refine a_iload_n C dc_B_fill_29 rfl rfl ?_
    refine a_iload_n C dc_B_fill_30 rfl rfl ?_
    refine a_iload_n C dc_B_fill_31 rfl rfl ?_
    refine a_iload C dc_B_fill_32 rfl ?_
    refine a_iload C dc_B_fill_34 rfl ?_
    refine a_iload C dc_B_fill_36 rfl ?_
    have hc2 := hp.1
    have hp := hp.2
    refine c_call (rest := []) (av := .ref (oa (S9.2.2 u 0)) :: [.int x1, .int x2, .int x3, .int x4, .int x5, .int x5]) C dc_B_fill_38 (ct_Ca_paint (S9.2.2 u 0) x1 x2 x3 x4 x5 x5 S9 hc2 hp) cd_C_Ca_paint i_Ca (Nat.le_of_ble_eq_true rfl) (by rw [hR]; exact Nat.le_of_ble_eq_true rfl) (by rw [hR]; exact Nat.le_of_ble_eq_true rfl) (by rw [hR]; exact Nat.le_of_ble_eq_true rfl) (by rw [hR]; exact Nat.le_of_ble_eq_true rfl) (inv_V C (S9.2.2 u 0) dc_B_fill_38 l_B_95 im_C_Ca_paint se_C_Ca_paint cd_C_Ca_paint ⟨by decide, by decide⟩ ln_C_Ca_paint rfl rfl (cw_obj hc2 rfl) rfl rfl) (fun oc L1 hL => ?_)
    obtain ⟨S38, hp, rfl, rfl⟩ := hL.resolve_right pC_no
    refine ⟨_, rfl, ?_⟩
    refine aw_eq (lo' := _) (st' := []) (L' := (cw lt_C U oa S38)) rfl rfl rfl ?_
    exact a_vret C hQ hA dc_B_fill_41 rfl (Or.inl ⟨S38, hp, rfl, rfl⟩)
  · have hp := hp.2 hc
    exact a_throw (ci := 15) C hQ hA hno hfl dc_B_fill_15 dc_B_fill_18 dc_B_fill_19 dc_B_fill_21 dc_B_fill_24 x_B_90 rfl rfl y_B_92 i_E15 j_E15 (by decide) z_B_94 (at_E15 _ _) (Nat.le_of_ble_eq_true rfl) (by rw [hR]; exact Nat.le_of_ble_eq_true rfl) (by rw [hR]; exact Nat.le_of_ble_eq_true rfl) (Nat.le_refl _) (Nat.le_refl _) (by rw [hR]; exact Nat.le_of_ble_eq_true rfl) (by rw [hR]; exact Nat.le_of_ble_eq_true rfl) (fun q => Or.inr ⟨15, q, S9, hp, rfl, rfl⟩)
end C_B_fill
section C_B_fillc
variable {D : va_G} {z : Nat → ClassId} {U : ut} {oa : Nat → Nat}
set_option maxRecDepth 100000 in
theorem ct_B_fill {l : Launch} (u : Nat) (x1 : Int32) (x2 : Int32) (x3 : Int32) (x4 : Int32) (x5 : Int32) (S : cs) {K : cs → Prop} {T : Nat → cs → Prop} (hfl : l.flags = pinnedFlags ++ [noTraceFlag]) (hu : c_cl U u = 1) (hp : p_B_fill U u x1 x2 x3 x4 x5 S K T) : ct gG D z l n_C_B_fill c_C_B_fill 6 (none) 9 900 [.ref (oa u), .int x1, .int x2, .int x3, .int x4, .int x5] (cw lt_C U oa S) 0 0 (pC_v lt_C U oa K T) := by
  refine ct_of (lo := [some (.ref (oa u)), some (.int x1), some (.int x2), some (.int x3), some (.int x4), some (.int x5)]) (by decide) g_ok (Nat.le_of_ble_eq_true rfl) rfl ?_
  intro X A hl C hR hQ hA hno
  exact s_B_fill_0 C hQ hA hR hno (by rw [hl]; exact hfl) hu x1 x2 x3 x4 x5 S hp
end C_B_fillc
def p_B_slope (U : ut) (u : Nat) (x1 : Int32) (x2 : Int32) (x3 : Int32) (x4 : Int32) (x5 : Int32) (x6 : Int32) (S : cs) (K : cs → Prop) (T : Nat → cs → Prop) : Prop :=
  ¬ S.2.2 u 0 = NU ∧ (c_cl U (S.2.2 u 0) = 2 ∧ (p_Ca_holds U (S.2.2 u 0) x1 x2 x3 x4 S (fun v9 S9 => (¬ v9 = 0 → (¬ S9.2.2 u 0 = NU ∧ (c_cl U (S9.2.2 u 0) = 2 ∧ (p_Ca_paint U (S9.2.2 u 0) x1 x2 x3 x4 x5 x6 S9 (fun S38 => K S38))))) ∧ (v9 = 0 → (T 15 S9)))))
section C_B_slope
variable {D : va_G} {z : Nat → ClassId} {A : Nat → Prop} {X : cx} {L0 : fw} {U : ut} {oa : Nat → Nat} {u : Nat} {K : cs → Prop} {T : Nat → cs → Prop}
set_option maxRecDepth 100000 in
set_option maxHeartbeats 1000000 in
theorem s_B_slope_0 (C : fcx gG D z A X R_B c_C_B_slope 7 (none)) (hQ : X.2.2.2.2.2.2.2.2.2.2 = eQ gG D z X.2.2.2.2.2.2.2.1 X.2.2.2.2.1 L0 0 0 (pC_v lt_C U oa K T)) (hA : A = owA gG L0 X.2.2.2.2.1.heap.size) (hR : X.2.2.2.1 = { frames := 9, cells := 1, slots := 6, locals := 900 }) (hno : ∀ x ∈ X.2.2.2.2.2.2.2.2.2.1.exceptionTable.toList, False) (hfl : X.2.1.flags = pinnedFlags ++ [noTraceFlag]) (hu : c_cl U u = 1) (x1 : Int32) (x2 : Int32) (x3 : Int32) (x4 : Int32) (x5 : Int32) (x6 : Int32) (S : cs) (hp : p_B_slope U u x1 x2 x3 x4 x5 x6 S K T) : aw gG D z A X 7 0 [some (.ref (oa u)), some (.int x1), some (.int x2), some (.int x3), some (.int x4), some (.int x5), some (.int x6)] [] (cw lt_C U oa S) 0 0 := by
  unfold p_B_slope at hp
  refine a_aload_n C dc_B_slope_0 rfl rfl ?_
  refine c_getR C u 0 dc_B_slope_1 hu rfl rfl (Nat.le_of_ble_eq_true rfl) f_B_12 rfl hp.1 ?_
  have hp := hp.2
  refine a_iload_n C dc_B_slope_4 rfl rfl ?_
  refine a_iload_n C dc_B_slope_5 rfl rfl ?_
  refine a_iload_n C dc_B_slope_6 rfl rfl ?_
  refine a_iload C dc_B_slope_7 rfl ?_
  have hc1 := hp.1
  have hp := hp.2
  refine c_call (rest := []) (av := .ref (oa (S.2.2 u 0)) :: [.int x1, .int x2, .int x3, .int x4]) C dc_B_slope_9 (ct_Ca_holds (S.2.2 u 0) x1 x2 x3 x4 S hc1 hp) cd_C_Ca_holds i_Ca (Nat.le_of_ble_eq_true rfl) (by rw [hR]; exact Nat.le_of_ble_eq_true rfl) (by rw [hR]; exact Nat.le_of_ble_eq_true rfl) (by rw [hR]; exact Nat.le_of_ble_eq_true rfl) (by rw [hR]; exact Nat.le_of_ble_eq_true rfl) (inv_V C (S.2.2 u 0) dc_B_slope_9 l_B_86 im_C_Ca_holds se_C_Ca_holds cd_C_Ca_holds ⟨by decide, by decide⟩ ln_C_Ca_holds rfl rfl (cw_obj hc1 rfl) rfl rfl) (fun oc L1 hL => ?_)
  obtain ⟨v9, S9, hp, rfl, rfl⟩ := hL.resolve_right pC_no
  refine ⟨_, rfl, ?_⟩
  refine aw_eq (lo' := _) (st' := [.int v9]) (L' := (cw lt_C U oa S9)) rfl rfl rfl ?_
  refine a_if_ne (tgt := 25) C dc_B_slope_12 (by decide) ⟨fun hc => ?_, fun hc => ?_⟩
  · have hp := hp.1 hc
    refine a_aload_n C dc_B_slope_25 rfl rfl ?_
    refine c_getR C u 0 dc_B_slope_26 hu rfl rfl (Nat.le_of_ble_eq_true rfl) f_B_12 rfl hp.1 ?_
    have hp := hp.2
    refine a_iload_n C dc_B_slope_29 rfl rfl ?_
    refine a_iload_n C dc_B_slope_30 rfl rfl ?_
    refine a_iload_n C dc_B_slope_31 rfl rfl ?_
    refine a_iload C dc_B_slope_32 rfl ?_
    refine a_iload C dc_B_slope_34 rfl ?_
    refine a_iload C dc_B_slope_36 rfl ?_
    have hc2 := hp.1
    have hp := hp.2
    refine c_call (rest := []) (av := .ref (oa (S9.2.2 u 0)) :: [.int x1, .int x2, .int x3, .int x4, .int x5, .int x6]) C dc_B_slope_38 (ct_Ca_paint (S9.2.2 u 0) x1 x2 x3 x4 x5 x6 S9 hc2 hp) cd_C_Ca_paint i_Ca (Nat.le_of_ble_eq_true rfl) (by rw [hR]; exact Nat.le_of_ble_eq_true rfl) (by rw [hR]; exact Nat.le_of_ble_eq_true rfl) (by rw [hR]; exact Nat.le_of_ble_eq_true rfl) (by rw [hR]; exact Nat.le_of_ble_eq_true rfl) (inv_V C (S9.2.2 u 0) dc_B_slope_38 l_B_95 im_C_Ca_paint se_C_Ca_paint cd_C_Ca_paint ⟨by decide, by decide⟩ ln_C_Ca_paint rfl rfl (cw_obj hc2 rfl) rfl rfl) (fun oc L1 hL => ?_)
    obtain ⟨S38, hp, rfl, rfl⟩ := hL.resolve_right pC_no
    refine ⟨_, rfl, ?_⟩
    refine aw_eq (lo' := _) (st' := []) (L' := (cw lt_C U oa S38)) rfl rfl rfl ?_
    exact a_vret C hQ hA dc_B_slope_41 rfl (Or.inl ⟨S38, hp, rfl, rfl⟩)
  · have hp := hp.2 hc
    exact a_throw (ci := 15) C hQ hA hno hfl dc_B_slope_15 dc_B_slope_18 dc_B_slope_19 dc_B_slope_21 dc_B_slope_24 x_B_90 rfl rfl y_B_92 i_E15 j_E15 (by decide) z_B_94 (at_E15 _ _) (Nat.le_of_ble_eq_true rfl) (by rw [hR]; exact Nat.le_of_ble_eq_true rfl) (by rw [hR]; exact Nat.le_of_ble_eq_true rfl) (Nat.le_refl _) (Nat.le_refl _) (by rw [hR]; exact Nat.le_of_ble_eq_true rfl) (by rw [hR]; exact Nat.le_of_ble_eq_true rfl) (fun q => Or.inr ⟨15, q, S9, hp, rfl, rfl⟩)
end C_B_slope
section C_B_slopec
variable {D : va_G} {z : Nat → ClassId} {U : ut} {oa : Nat → Nat}
set_option maxRecDepth 100000 in
theorem ct_B_slope {l : Launch} (u : Nat) (x1 : Int32) (x2 : Int32) (x3 : Int32) (x4 : Int32) (x5 : Int32) (x6 : Int32) (S : cs) {K : cs → Prop} {T : Nat → cs → Prop} (hfl : l.flags = pinnedFlags ++ [noTraceFlag]) (hu : c_cl U u = 1) (hp : p_B_slope U u x1 x2 x3 x4 x5 x6 S K T) : ct gG D z l n_C_B_slope c_C_B_slope 7 (none) 9 900 [.ref (oa u), .int x1, .int x2, .int x3, .int x4, .int x5, .int x6] (cw lt_C U oa S) 0 0 (pC_v lt_C U oa K T) := by
  refine ct_of (lo := [some (.ref (oa u)), some (.int x1), some (.int x2), some (.int x3), some (.int x4), some (.int x5), some (.int x6)]) (by decide) g_ok (Nat.le_of_ble_eq_true rfl) rfl ?_
  intro X A hl C hR hQ hA hno
  exact s_B_slope_0 C hQ hA hR hno (by rw [hl]; exact hfl) hu x1 x2 x3 x4 x5 x6 S hp
end C_B_slopec
def b_B_at_31 (U : ut) (u : Nat)  (S : cs) (K : Int32 → cs → Prop) (T : Nat → cs → Prop) : Prop :=
  T 15 S
def p_B_at (U : ut) (u : Nat) (x1 : Int32) (x2 : Int32) (x3 : Int32) (S : cs) (K : Int32 → cs → Prop) (T : Nat → cs → Prop) : Prop :=
  ¬ S.2.2 u 0 = NU ∧ (c_cl U (S.2.2 u 0) = 2 ∧ (p_Ca_holds U (S.2.2 u 0) x1 x2 1 1 S (fun v8 S8 => (v8 = 0 → (b_B_at_31 U u S8 K T)) ∧ (¬ (v8 = 0) → (¬ S8.2.2 u 0 = NU ∧ (c_cl U (S8.2.2 u 0) = 2 ∧ (p_B_isWithin x3 0 ((S8.1 (S8.2.2 u 0) 2) - 1) (fun v25 => (¬ v25 = 0 → (¬ S8.2.2 u 0 = NU ∧ (¬ S8.2.2 (S8.2.2 u 0) 3 = NU ∧ (p_B_spot x3 x1 x2 (fun v51 => c_cl U (S8.2.2 (S8.2.2 u 0) 3) = 902 ∧ (vp_in v51 (c_ln U (S8.2.2 (S8.2.2 u 0) 3)) ∧ (K (S8.1 (S8.2.2 (S8.2.2 u 0) 3) v51.toNatClampNeg) S8))))))) ∧ (v25 = 0 → (b_B_at_31 U u S8 K T))))))))))
section C_B_at
variable {D : va_G} {z : Nat → ClassId} {A : Nat → Prop} {X : cx} {L0 : fw} {U : ut} {oa : Nat → Nat} {u : Nat} {K : Int32 → cs → Prop} {T : Nat → cs → Prop}
set_option maxRecDepth 100000 in
set_option maxHeartbeats 1000000 in
theorem s_B_at_31 (C : fcx gG D z A X R_B c_C_B_at 4 (some .int)) (hQ : X.2.2.2.2.2.2.2.2.2.2 = eQ gG D z X.2.2.2.2.2.2.2.1 X.2.2.2.2.1 L0 0 0 (pC_i lt_C U oa K T)) (hA : A = owA gG L0 X.2.2.2.2.1.heap.size) (hR : X.2.2.2.1 = { frames := 9, cells := 1, slots := 6, locals := 900 }) (hno : ∀ x ∈ X.2.2.2.2.2.2.2.2.2.1.exceptionTable.toList, False) (hfl : X.2.1.flags = pinnedFlags ++ [noTraceFlag]) (hu : c_cl U u = 1)  (S : cs) (hp : b_B_at_31 U u S K T) : aw gG D z A X 4 31 [some (.ref (oa u)), none, none, none] [] (cw lt_C U oa S) 0 0 := by
  unfold b_B_at_31 at hp
  exact a_throw (ci := 15) C hQ hA hno hfl dc_B_at_31 dc_B_at_34 dc_B_at_35 dc_B_at_37 dc_B_at_40 x_B_90 rfl rfl y_B_102 i_E15 j_E15 (by decide) z_B_94 (at_E15 _ _) (Nat.le_of_ble_eq_true rfl) (by rw [hR]; exact Nat.le_of_ble_eq_true rfl) (by rw [hR]; exact Nat.le_of_ble_eq_true rfl) (Nat.le_refl _) (Nat.le_refl _) (by rw [hR]; exact Nat.le_of_ble_eq_true rfl) (by rw [hR]; exact Nat.le_of_ble_eq_true rfl) (fun q => Or.inr ⟨15, q, S, hp, rfl, rfl⟩)
set_option maxRecDepth 100000 in
set_option maxHeartbeats 1000000 in
theorem s_B_at_0 (C : fcx gG D z A X R_B c_C_B_at 4 (some .int)) (hQ : X.2.2.2.2.2.2.2.2.2.2 = eQ gG D z X.2.2.2.2.2.2.2.1 X.2.2.2.2.1 L0 0 0 (pC_i lt_C U oa K T)) (hA : A = owA gG L0 X.2.2.2.2.1.heap.size) (hR : X.2.2.2.1 = { frames := 9, cells := 1, slots := 6, locals := 900 }) (hno : ∀ x ∈ X.2.2.2.2.2.2.2.2.2.1.exceptionTable.toList, False) (hfl : X.2.1.flags = pinnedFlags ++ [noTraceFlag]) (hu : c_cl U u = 1) (x1 : Int32) (x2 : Int32) (x3 : Int32) (S : cs) (hp : p_B_at U u x1 x2 x3 S K T) : aw gG D z A X 4 0 [some (.ref (oa u)), some (.int x1), some (.int x2), some (.int x3)] [] (cw lt_C U oa S) 0 0 := by
  unfold p_B_at at hp
  refine a_aload_n C dc_B_at_0 rfl rfl ?_
  refine c_getR C u 0 dc_B_at_1 hu rfl rfl (Nat.le_of_ble_eq_true rfl) f_B_12 rfl hp.1 ?_
  have hp := hp.2
  refine a_iload_n C dc_B_at_4 rfl rfl ?_
  refine a_iload_n C dc_B_at_5 rfl rfl ?_
  refine a_iconst (v := 1) C dc_B_at_6 (by decide) ?_
  refine a_iconst (v := 1) C dc_B_at_7 (by decide) ?_
  have hc1 := hp.1
  have hp := hp.2
  refine c_call (rest := []) (av := .ref (oa (S.2.2 u 0)) :: [.int x1, .int x2, .int 1, .int 1]) C dc_B_at_8 (ct_Ca_holds (S.2.2 u 0) x1 x2 1 1 S hc1 hp) cd_C_Ca_holds i_Ca (Nat.le_of_ble_eq_true rfl) (by rw [hR]; exact Nat.le_of_ble_eq_true rfl) (by rw [hR]; exact Nat.le_of_ble_eq_true rfl) (by rw [hR]; exact Nat.le_of_ble_eq_true rfl) (by rw [hR]; exact Nat.le_of_ble_eq_true rfl) (inv_V C (S.2.2 u 0) dc_B_at_8 l_B_86 im_C_Ca_holds se_C_Ca_holds cd_C_Ca_holds ⟨by decide, by decide⟩ ln_C_Ca_holds rfl rfl (cw_obj hc1 rfl) rfl rfl) (fun oc L1 hL => ?_)
  obtain ⟨v8, S8, hp, rfl, rfl⟩ := hL.resolve_right pC_no
  refine ⟨_, rfl, ?_⟩
  refine aw_eq (lo' := _) (st' := [.int v8]) (L' := (cw lt_C U oa S8)) rfl rfl rfl ?_
  refine a_if_eq (tgt := 31) C dc_B_at_11 (by decide) ⟨fun hc => ?_, fun hc => ?_⟩
  · have hp := hp.1 hc
    refine aw_lo (lo' := [some (.ref (oa u)), none, none, none]) ⟨.inr rfl, .inl rfl, .inl rfl, .inl rfl, trivial⟩ ?_
    exact s_B_at_31 C hQ hA hR hno hfl hu S8  hp
  · have hp := hp.2 hc
    refine a_iload_n C dc_B_at_14 rfl rfl ?_
    refine a_iconst (v := 0) C dc_B_at_15 (by decide) ?_
    refine a_aload_n C dc_B_at_16 rfl rfl ?_
    refine c_getR C u 0 dc_B_at_17 hu rfl rfl (Nat.le_of_ble_eq_true rfl) f_B_12 rfl hp.1 ?_
    have hp := hp.2
    have hc2 := hp.1
    have hp := hp.2
    refine c_getIN C (S8.2.2 u 0) 2 dc_B_at_20 hc2 rfl rfl (Nat.le_of_ble_eq_true rfl) f_B_99 (Nat.le_of_ble_eq_true rfl) ?_
    refine a_iconst (v := 1) C dc_B_at_23 (by decide) ?_
    refine a_isub C dc_B_at_24 ?_
    refine a_callP (rest := []) (av := [.int x3, .int 0, .int ((S8.1 (S8.2.2 u 0) 2) - 1)]) C dc_B_at_25 (ct_B_isWithin x3 0 ((S8.1 (S8.2.2 u 0) 2) - 1) hp) cd_C_B_isWithin i_B (Nat.le_of_ble_eq_true rfl) (by rw [hR]; exact Nat.le_of_ble_eq_true rfl) (by rw [hR]; exact Nat.le_of_ble_eq_true rfl) (by rw [hR]; exact Nat.le_of_ble_eq_true rfl) (by rw [hR]; exact Nat.le_of_ble_eq_true rfl) (inv_S C dc_B_at_25 l_B_71 st_C_B_isWithin i_B cd_C_B_isWithin ⟨by decide, by decide⟩ ln_C_B_isWithin rfl) (fun v25 hp => ?_)
    refine aw_eq (lo' := _) (st' := [.int v25]) (L' := (cw lt_C U oa S8)) rfl rfl rfl ?_
    refine a_if_ne (tgt := 41) C dc_B_at_28 (by decide) ⟨fun hc => ?_, fun hc => ?_⟩
    · have hp := hp.1 hc
      refine a_aload_n C dc_B_at_41 rfl rfl ?_
      refine c_getR C u 0 dc_B_at_42 hu rfl rfl (Nat.le_of_ble_eq_true rfl) f_B_12 rfl hp.1 ?_
      have hp := hp.2
      refine c_getRN C (S8.2.2 u 0) 3 dc_B_at_45 hc2 rfl rfl (Nat.le_of_ble_eq_true rfl) f_B_104 rfl hp.1 ?_
      have hp := hp.2
      refine a_iload_n C dc_B_at_48 rfl rfl ?_
      refine a_iload_n C dc_B_at_49 rfl rfl ?_
      refine a_iload_n C dc_B_at_50 rfl rfl ?_
      refine a_callP (rest := [.ref (oa (S8.2.2 (S8.2.2 u 0) 3))]) (av := [.int x3, .int x1, .int x2]) C dc_B_at_51 (ct_B_spot x3 x1 x2 hp) cd_C_B_spot i_B (Nat.le_of_ble_eq_true rfl) (by rw [hR]; exact Nat.le_of_ble_eq_true rfl) (by rw [hR]; exact Nat.le_of_ble_eq_true rfl) (by rw [hR]; exact Nat.le_of_ble_eq_true rfl) (by rw [hR]; exact Nat.le_of_ble_eq_true rfl) (inv_S C dc_B_at_51 l_B_107 st_C_B_spot i_B cd_C_B_spot ⟨by decide, by decide⟩ ln_C_B_spot rfl) (fun v51 hp => ?_)
      refine aw_eq (lo' := _) (st' := [.int v51, .ref (oa (S8.2.2 (S8.2.2 u 0) 3))]) (L' := (cw lt_C U oa S8)) rfl rfl rfl ?_
      have hc3 := hp.1
      have hp := hp.2
      refine c_iald C (S8.2.2 (S8.2.2 u 0) 3) dc_B_at_54 hc3 hp.1 ?_
      have hp := hp.2
      exact a_iret (ty := .int) C hQ hA dc_B_at_55 rfl rfl (Or.inl ⟨_, S8, hp, rfl, rfl⟩)
    · have hp := hp.2 hc
      refine aw_lo (lo' := [some (.ref (oa u)), none, none, none]) ⟨.inr rfl, .inl rfl, .inl rfl, .inl rfl, trivial⟩ ?_
      exact s_B_at_31 C hQ hA hR hno hfl hu S8  hp
end C_B_at
section C_B_atc
variable {D : va_G} {z : Nat → ClassId} {U : ut} {oa : Nat → Nat}
set_option maxRecDepth 100000 in
theorem ct_B_at {l : Launch} (u : Nat) (x1 : Int32) (x2 : Int32) (x3 : Int32) (S : cs) {K : Int32 → cs → Prop} {T : Nat → cs → Prop} (hfl : l.flags = pinnedFlags ++ [noTraceFlag]) (hu : c_cl U u = 1) (hp : p_B_at U u x1 x2 x3 S K T) : ct gG D z l n_C_B_at c_C_B_at 4 (some .int) 9 900 [.ref (oa u), .int x1, .int x2, .int x3] (cw lt_C U oa S) 0 0 (pC_i lt_C U oa K T) := by
  refine ct_of (lo := [some (.ref (oa u)), some (.int x1), some (.int x2), some (.int x3)]) (by decide) g_ok (Nat.le_of_ble_eq_true rfl) rfl ?_
  intro X A hl C hR hQ hA hno
  exact s_B_at_0 C hQ hA hR hno (by rw [hl]; exact hfl) hu x1 x2 x3 S hp
end C_B_atc
def b_B_clamp_19 (s0 : Int32) (K : Int32 → Prop) : Prop :=
  K s0
def p_B_clamp (x0 : Int32) (x1 : Int32) (x2 : Int32) (K : Int32 → Prop) : Prop :=
  (x1 ≤ x0 → ((x0 ≤ x2 → (b_B_clamp_19 x0 K)) ∧ (¬ (x0 ≤ x2) → (b_B_clamp_19 x2 K)))) ∧ (¬ (x1 ≤ x0) → (b_B_clamp_19 x1 K))
section C_B_clamp
variable {D : va_G} {z : Nat → ClassId} {A : Nat → Prop} {X : cx} {L0 : fw} {K : Int32 → Prop}
set_option maxRecDepth 100000 in
set_option maxHeartbeats 1000000 in
theorem s_B_clamp_19 (C : fcx gG D z A X R_B c_C_B_clamp 3 (some .int)) (hQ : X.2.2.2.2.2.2.2.2.2.2 = eQ gG D z X.2.2.2.2.2.2.2.1 X.2.2.2.2.1 L0 0 0 (pS_i K)) (hA : A = owA gG L0 X.2.2.2.2.1.heap.size) (hR : X.2.2.2.1 = { frames := 1, cells := 1, slots := 6, locals := 100 }) (s0 : Int32) (hp : b_B_clamp_19 s0 K) : aw gG D z A X 3 19 [none, none, none] [.int s0] ([] : fw) 0 0 := by
  unfold b_B_clamp_19 at hp
  exact a_iret (ty := .int) C hQ hA dc_B_clamp_19 rfl rfl ⟨_, hp, rfl, rfl⟩
set_option maxRecDepth 100000 in
set_option maxHeartbeats 1000000 in
theorem s_B_clamp_0 (C : fcx gG D z A X R_B c_C_B_clamp 3 (some .int)) (hQ : X.2.2.2.2.2.2.2.2.2.2 = eQ gG D z X.2.2.2.2.2.2.2.1 X.2.2.2.2.1 L0 0 0 (pS_i K)) (hA : A = owA gG L0 X.2.2.2.2.1.heap.size) (hR : X.2.2.2.1 = { frames := 1, cells := 1, slots := 6, locals := 100 }) (x0 : Int32) (x1 : Int32) (x2 : Int32) (hp : p_B_clamp x0 x1 x2 K) : aw gG D z A X 3 0 [some (.int x0), some (.int x1), some (.int x2)] [] ([] : fw) 0 0 := by
  unfold p_B_clamp at hp
  refine a_iload_n C dc_B_clamp_0 rfl rfl ?_
  refine a_iload_n C dc_B_clamp_1 rfl rfl ?_
  refine a_icmp_ge (tgt := 9) C dc_B_clamp_2 (by decide) ⟨fun hc => ?_, fun hc => ?_⟩
  · have hp := hp.1 hc
    refine a_iload_n C dc_B_clamp_9 rfl rfl ?_
    refine a_iload_n C dc_B_clamp_10 rfl rfl ?_
    refine a_icmp_le (tgt := 18) C dc_B_clamp_11 (by decide) ⟨fun hc => ?_, fun hc => ?_⟩
    · have hp := hp.1 hc
      refine a_iload_n C dc_B_clamp_18 rfl rfl ?_
      refine aw_lo (lo' := [none, none, none]) ⟨.inl rfl, .inl rfl, .inl rfl, trivial⟩ ?_
      exact s_B_clamp_19 C hQ hA hR x0  hp
    · have hp := hp.2 hc
      refine a_iload_n C dc_B_clamp_14 rfl rfl ?_
      refine a_goto (tgt := 19) C dc_B_clamp_15 (by decide) ?_
      refine aw_lo (lo' := [none, none, none]) ⟨.inl rfl, .inl rfl, .inl rfl, trivial⟩ ?_
      exact s_B_clamp_19 C hQ hA hR x2  hp
  · have hp := hp.2 hc
    refine a_iload_n C dc_B_clamp_5 rfl rfl ?_
    refine a_goto (tgt := 19) C dc_B_clamp_6 (by decide) ?_
    refine aw_lo (lo' := [none, none, none]) ⟨.inl rfl, .inl rfl, .inl rfl, trivial⟩ ?_
    exact s_B_clamp_19 C hQ hA hR x1  hp
end C_B_clamp
section C_B_clampc
variable {D : va_G} {z : Nat → ClassId}
set_option maxRecDepth 100000 in
theorem ct_B_clamp {l : Launch} (x0 : Int32) (x1 : Int32) (x2 : Int32) {K : Int32 → Prop} (hp : p_B_clamp x0 x1 x2 K) : ct gG D z l n_C_B_clamp c_C_B_clamp 3 (some .int) 1 100 [.int x0, .int x1, .int x2] ([] : fw) 0 0 (pS_i K) := by
  refine ct_of (lo := [some (.int x0), some (.int x1), some (.int x2)]) (by decide) g_ok (Nat.le_of_ble_eq_true rfl) rfl ?_
  intro X A _ C hR hQ hA _
  exact s_B_clamp_0 C hQ hA hR x0 x1 x2 hp
end C_B_clampc
def b_B_scale_48 (U : ut) (u : Nat) (x1 : Int32) (x2 : Int32) (x3 : Int32) (x4 : Int32) (S : cs) (R48 : Int32 → Int32 → Int32 → Int32 → cs → Prop) (K : cs → Prop) (T : Nat → cs → Prop) : Prop :=
  (64 ≤ x4 → (K S)) ∧ (¬ (64 ≤ x4) → (¬ S.2.2 u 1 = NU ∧ (p_B_clamp (x2 + (x3 * ((x4 / 8) + (x4 - x4 / 8 * 8)))) 1 255 (fun v85 => c_cl U (S.2.2 u 1) = 902 ∧ (vp_in ((64 * x1) + x4) (c_ln U (S.2.2 u 1)) ∧ (R48 x1 x2 x3 (x4 + 1) (va_up S.1 (S.2.2 u 1) (upd (S.1 (S.2.2 u 1)) ((64 * x1) + x4).toNatClampNeg v85), S.2.1, S.2.2)))))))
def e_B_scale_48 (U : ut) (u : Nat) (x1 : Int32) (x2 : Int32) (x3 : Int32) (x4 : Int32) (S : cs) (K : cs → Prop) (T : Nat → cs → Prop) : Prop :=
  ∃ (I : Int32 → Int32 → Int32 → Int32 → cs → Prop) (μ : Int32 → Int32 → Int32 → Int32 → cs → Nat), I x1 x2 x3 x4 S ∧ ∀ yx1 yx2 yx3 yx4 yS, I yx1 yx2 yx3 yx4 yS → b_B_scale_48 U u yx1 yx2 yx3 yx4 yS (fun zx1 zx2 zx3 zx4 zS => I zx1 zx2 zx3 zx4 zS ∧ μ zx1 zx2 zx3 zx4 zS < μ yx1 yx2 yx3 yx4 yS) K T
def b_B_scale_35 (U : ut) (u : Nat)  (S : cs) (K : cs → Prop) (T : Nat → cs → Prop) : Prop :=
  T 14 S
def p_B_scale (U : ut) (u : Nat) (x1 : Int32) (x2 : Int32) (x3 : Int32) (S : cs) (K : cs → Prop) (T : Nat → cs → Prop) : Prop :=
  p_B_isWithin x1 0 1 (fun v3 => (v3 = 0 → (b_B_scale_35 U u S K T)) ∧ (¬ (v3 = 0) → (p_B_isWithin x2 (-1000) 1000 (fun v16 => (v16 = 0 → (b_B_scale_35 U u S K T)) ∧ (¬ (v16 = 0) → (p_B_isWithin x3 (-1000) 1000 (fun v29 => (¬ v29 = 0 → (e_B_scale_48 U u x1 x2 x3 0 S K T)) ∧ (v29 = 0 → (b_B_scale_35 U u S K T)))))))))
section C_B_scale
variable {D : va_G} {z : Nat → ClassId} {A : Nat → Prop} {X : cx} {L0 : fw} {U : ut} {oa : Nat → Nat} {u : Nat} {K : cs → Prop} {T : Nat → cs → Prop}
set_option maxRecDepth 100000 in
set_option maxHeartbeats 1000000 in
theorem s_B_scale_48 (C : fcx gG D z A X R_B c_C_B_scale 5 (none)) (hQ : X.2.2.2.2.2.2.2.2.2.2 = eQ gG D z X.2.2.2.2.2.2.2.1 X.2.2.2.2.1 L0 0 0 (pC_v lt_C U oa K T)) (hA : A = owA gG L0 X.2.2.2.2.1.heap.size) (hR : X.2.2.2.1 = { frames := 9, cells := 1, slots := 6, locals := 900 }) (hno : ∀ x ∈ X.2.2.2.2.2.2.2.2.2.1.exceptionTable.toList, False) (hfl : X.2.1.flags = pinnedFlags ++ [noTraceFlag]) (hu : c_cl U u = 1) (x1 : Int32) (x2 : Int32) (x3 : Int32) (x4 : Int32) (S : cs) (R48 : Int32 → Int32 → Int32 → Int32 → cs → Prop) (hR48 : ∀ yx1 yx2 yx3 yx4 yS, R48 yx1 yx2 yx3 yx4 yS → aw gG D z A X 5 48 [some (.ref (oa u)), some (.int yx1), some (.int yx2), some (.int yx3), some (.int yx4)] [] (cw lt_C U oa yS) 0 0) (hp : b_B_scale_48 U u x1 x2 x3 x4 S R48 K T) : aw gG D z A X 5 48 [some (.ref (oa u)), some (.int x1), some (.int x2), some (.int x3), some (.int x4)] [] (cw lt_C U oa S) 0 0 := by
  unfold b_B_scale_48 at hp
  refine a_iload C dc_B_scale_48 rfl ?_
  refine a_bipush (v := 64) C dc_B_scale_50 (by decide) ?_
  refine a_icmp_ge (tgt := 95) C dc_B_scale_52 (by decide) ⟨fun hc => ?_, fun hc => ?_⟩
  · have hp := hp.1 hc
    exact a_vret C hQ hA dc_B_scale_95 rfl (Or.inl ⟨S, hp, rfl, rfl⟩)
  · have hp := hp.2 hc
    refine a_aload_n C dc_B_scale_55 rfl rfl ?_
    refine c_getR C u 1 dc_B_scale_56 hu rfl rfl (Nat.le_of_ble_eq_true rfl) f_B_16 rfl hp.1 ?_
    have hp := hp.2
    refine a_bipush (v := 64) C dc_B_scale_59 (by decide) ?_
    refine a_iload_n C dc_B_scale_61 rfl rfl ?_
    refine a_imul C dc_B_scale_62 ?_
    refine a_iload C dc_B_scale_63 rfl ?_
    refine a_iadd C dc_B_scale_65 ?_
    refine a_iload_n C dc_B_scale_66 rfl rfl ?_
    refine a_iload_n C dc_B_scale_67 rfl rfl ?_
    refine a_iload C dc_B_scale_68 rfl ?_
    refine a_bipush (v := 8) C dc_B_scale_70 (by decide) ?_
    refine a_idiv C dc_B_scale_72 (by decide) ?_
    refine a_iload C dc_B_scale_73 rfl ?_
    refine a_bipush (v := 8) C dc_B_scale_75 (by decide) ?_
    refine a_irem C dc_B_scale_77 (by decide) ?_
    refine a_iadd C dc_B_scale_78 ?_
    refine a_imul C dc_B_scale_79 ?_
    refine a_iadd C dc_B_scale_80 ?_
    refine a_iconst (v := 1) C dc_B_scale_81 (by decide) ?_
    refine a_sipush (v := 255) C dc_B_scale_82 (by decide) ?_
    refine a_callP (rest := [.int ((64 * x1) + x4), .ref (oa (S.2.2 u 1))]) (av := [.int (x2 + (x3 * ((x4 / 8) + (x4 - x4 / 8 * 8)))), .int 1, .int 255]) C dc_B_scale_85 (ct_B_clamp (x2 + (x3 * ((x4 / 8) + (x4 - x4 / 8 * 8)))) 1 255 hp) cd_C_B_clamp i_B (Nat.le_of_ble_eq_true rfl) (by rw [hR]; exact Nat.le_of_ble_eq_true rfl) (by rw [hR]; exact Nat.le_of_ble_eq_true rfl) (by rw [hR]; exact Nat.le_of_ble_eq_true rfl) (by rw [hR]; exact Nat.le_of_ble_eq_true rfl) (inv_S C dc_B_scale_85 l_B_113 st_C_B_clamp i_B cd_C_B_clamp ⟨by decide, by decide⟩ ln_C_B_clamp rfl) (fun v85 hp => ?_)
    refine aw_eq (lo' := _) (st' := [.int v85, .int ((64 * x1) + x4), .ref (oa (S.2.2 u 1))]) (L' := (cw lt_C U oa S)) rfl rfl rfl ?_
    have hc1 := hp.1
    have hp := hp.2
    refine c_iast C (S.2.2 u 1) dc_B_scale_88 hc1 hp.1 ?_
    have hp := hp.2
    refine aw_eq (lo' := _) (st' := _) (L' := (cw lt_C U oa (va_up S.1 (S.2.2 u 1) (upd (S.1 (S.2.2 u 1)) ((64 * x1) + x4).toNatClampNeg v85), S.2.1, S.2.2))) rfl rfl rfl ?_
    refine a_iinc (v := x4 + 1) (lo' := [some (.ref (oa u)), some (.int x1), some (.int x2), some (.int x3), some (.int (x4 + 1))]) C dc_B_scale_89 rfl rfl (by decide) rfl ?_
    refine a_goto (tgt := 48) C dc_B_scale_92 (by decide) ?_
    refine aw_lo (lo' := [some (.ref (oa u)), some (.int x1), some (.int x2), some (.int x3), some (.int (x4 + 1))]) ⟨.inr rfl, .inr rfl, .inr rfl, .inr rfl, .inr rfl, trivial⟩ ?_
    exact hR48 x1 x2 x3 (x4 + 1) (va_up S.1 (S.2.2 u 1) (upd (S.1 (S.2.2 u 1)) ((64 * x1) + x4).toNatClampNeg v85), S.2.1, S.2.2) hp
set_option maxRecDepth 100000 in
set_option maxHeartbeats 1000000 in
theorem se_B_scale_48 (C : fcx gG D z A X R_B c_C_B_scale 5 (none)) (hQ : X.2.2.2.2.2.2.2.2.2.2 = eQ gG D z X.2.2.2.2.2.2.2.1 X.2.2.2.2.1 L0 0 0 (pC_v lt_C U oa K T)) (hA : A = owA gG L0 X.2.2.2.2.1.heap.size) (hR : X.2.2.2.1 = { frames := 9, cells := 1, slots := 6, locals := 900 }) (hno : ∀ x ∈ X.2.2.2.2.2.2.2.2.2.1.exceptionTable.toList, False) (hfl : X.2.1.flags = pinnedFlags ++ [noTraceFlag]) (hu : c_cl U u = 1) (x1 : Int32) (x2 : Int32) (x3 : Int32) (x4 : Int32) (S : cs) (hp : e_B_scale_48 U u x1 x2 x3 x4 S K T) : aw gG D z A X 5 48 [some (.ref (oa u)), some (.int x1), some (.int x2), some (.int x3), some (.int x4)] [] (cw lt_C U oa S) 0 0 := by
  obtain ⟨I, μ, h0, hs⟩ := hp
  have key : ∀ (n : Nat) (yx1 : Int32) (yx2 : Int32) (yx3 : Int32) (yx4 : Int32) (yS : cs), μ yx1 yx2 yx3 yx4 yS < n → I yx1 yx2 yx3 yx4 yS → aw gG D z A X 5 48 [some (.ref (oa u)), some (.int yx1), some (.int yx2), some (.int yx3), some (.int yx4)] [] (cw lt_C U oa yS) 0 0 := by
    intro n
    induction n with
    | zero => intro yx1 yx2 yx3 yx4 yS h; omega
    | succ n ih =>
      intro yx1 yx2 yx3 yx4 yS hn hI
      exact s_B_scale_48 C hQ hA hR hno hfl hu yx1 yx2 yx3 yx4 yS _ (fun zx1 zx2 zx3 zx4 zS hw => ih zx1 zx2 zx3 zx4 zS (by omega) hw.1) (hs yx1 yx2 yx3 yx4 yS hI)
  exact key (μ x1 x2 x3 x4 S + 1) x1 x2 x3 x4 S (Nat.lt_succ_self _) h0
set_option maxRecDepth 100000 in
set_option maxHeartbeats 1000000 in
theorem s_B_scale_35 (C : fcx gG D z A X R_B c_C_B_scale 5 (none)) (hQ : X.2.2.2.2.2.2.2.2.2.2 = eQ gG D z X.2.2.2.2.2.2.2.1 X.2.2.2.2.1 L0 0 0 (pC_v lt_C U oa K T)) (hA : A = owA gG L0 X.2.2.2.2.1.heap.size) (hR : X.2.2.2.1 = { frames := 9, cells := 1, slots := 6, locals := 900 }) (hno : ∀ x ∈ X.2.2.2.2.2.2.2.2.2.1.exceptionTable.toList, False) (hfl : X.2.1.flags = pinnedFlags ++ [noTraceFlag]) (hu : c_cl U u = 1)  (S : cs) (hp : b_B_scale_35 U u S K T) : aw gG D z A X 5 35 [some (.ref (oa u)), none, none, none, none] [] (cw lt_C U oa S) 0 0 := by
  unfold b_B_scale_35 at hp
  exact a_throw (ci := 14) C hQ hA hno hfl dc_B_scale_35 dc_B_scale_38 dc_B_scale_39 dc_B_scale_41 dc_B_scale_44 x_B_75 rfl rfl y_B_111 i_E14 j_E14 (by decide) z_B_79 (at_E14 _ _) (Nat.le_of_ble_eq_true rfl) (by rw [hR]; exact Nat.le_of_ble_eq_true rfl) (by rw [hR]; exact Nat.le_of_ble_eq_true rfl) (Nat.le_refl _) (Nat.le_refl _) (by rw [hR]; exact Nat.le_of_ble_eq_true rfl) (by rw [hR]; exact Nat.le_of_ble_eq_true rfl) (fun q => Or.inr ⟨14, q, S, hp, rfl, rfl⟩)
set_option maxRecDepth 100000 in
set_option maxHeartbeats 1000000 in
theorem s_B_scale_0 (C : fcx gG D z A X R_B c_C_B_scale 5 (none)) (hQ : X.2.2.2.2.2.2.2.2.2.2 = eQ gG D z X.2.2.2.2.2.2.2.1 X.2.2.2.2.1 L0 0 0 (pC_v lt_C U oa K T)) (hA : A = owA gG L0 X.2.2.2.2.1.heap.size) (hR : X.2.2.2.1 = { frames := 9, cells := 1, slots := 6, locals := 900 }) (hno : ∀ x ∈ X.2.2.2.2.2.2.2.2.2.1.exceptionTable.toList, False) (hfl : X.2.1.flags = pinnedFlags ++ [noTraceFlag]) (hu : c_cl U u = 1) (x1 : Int32) (x2 : Int32) (x3 : Int32) (S : cs) (hp : p_B_scale U u x1 x2 x3 S K T) : aw gG D z A X 5 0 [some (.ref (oa u)), some (.int x1), some (.int x2), some (.int x3), none] [] (cw lt_C U oa S) 0 0 := by
  unfold p_B_scale at hp
  refine a_iload_n C dc_B_scale_0 rfl rfl ?_
  refine a_iconst (v := 0) C dc_B_scale_1 (by decide) ?_
  refine a_iconst (v := 1) C dc_B_scale_2 (by decide) ?_
  refine a_callP (rest := []) (av := [.int x1, .int 0, .int 1]) C dc_B_scale_3 (ct_B_isWithin x1 0 1 hp) cd_C_B_isWithin i_B (Nat.le_of_ble_eq_true rfl) (by rw [hR]; exact Nat.le_of_ble_eq_true rfl) (by rw [hR]; exact Nat.le_of_ble_eq_true rfl) (by rw [hR]; exact Nat.le_of_ble_eq_true rfl) (by rw [hR]; exact Nat.le_of_ble_eq_true rfl) (inv_S C dc_B_scale_3 l_B_71 st_C_B_isWithin i_B cd_C_B_isWithin ⟨by decide, by decide⟩ ln_C_B_isWithin rfl) (fun v3 hp => ?_)
  refine aw_eq (lo' := _) (st' := [.int v3]) (L' := (cw lt_C U oa S)) rfl rfl rfl ?_
  refine a_if_eq (tgt := 35) C dc_B_scale_6 (by decide) ⟨fun hc => ?_, fun hc => ?_⟩
  · have hp := hp.1 hc
    refine aw_lo (lo' := [some (.ref (oa u)), none, none, none, none]) ⟨.inr rfl, .inl rfl, .inl rfl, .inl rfl, .inr rfl, trivial⟩ ?_
    exact s_B_scale_35 C hQ hA hR hno hfl hu S  hp
  · have hp := hp.2 hc
    refine a_iload_n C dc_B_scale_9 rfl rfl ?_
    refine a_sipush (v := (-1000)) C dc_B_scale_10 (by decide) ?_
    refine a_sipush (v := 1000) C dc_B_scale_13 (by decide) ?_
    refine a_callP (rest := []) (av := [.int x2, .int (-1000), .int 1000]) C dc_B_scale_16 (ct_B_isWithin x2 (-1000) 1000 hp) cd_C_B_isWithin i_B (Nat.le_of_ble_eq_true rfl) (by rw [hR]; exact Nat.le_of_ble_eq_true rfl) (by rw [hR]; exact Nat.le_of_ble_eq_true rfl) (by rw [hR]; exact Nat.le_of_ble_eq_true rfl) (by rw [hR]; exact Nat.le_of_ble_eq_true rfl) (inv_S C dc_B_scale_16 l_B_71 st_C_B_isWithin i_B cd_C_B_isWithin ⟨by decide, by decide⟩ ln_C_B_isWithin rfl) (fun v16 hp => ?_)
    refine aw_eq (lo' := _) (st' := [.int v16]) (L' := (cw lt_C U oa S)) rfl rfl rfl ?_
    refine a_if_eq (tgt := 35) C dc_B_scale_19 (by decide) ⟨fun hc => ?_, fun hc => ?_⟩
    · have hp := hp.1 hc
      refine aw_lo (lo' := [some (.ref (oa u)), none, none, none, none]) ⟨.inr rfl, .inl rfl, .inl rfl, .inl rfl, .inr rfl, trivial⟩ ?_
      exact s_B_scale_35 C hQ hA hR hno hfl hu S  hp
    · have hp := hp.2 hc
      refine a_iload_n C dc_B_scale_22 rfl rfl ?_
      refine a_sipush (v := (-1000)) C dc_B_scale_23 (by decide) ?_
      refine a_sipush (v := 1000) C dc_B_scale_26 (by decide) ?_
      refine a_callP (rest := []) (av := [.int x3, .int (-1000), .int 1000]) C dc_B_scale_29 (ct_B_isWithin x3 (-1000) 1000 hp) cd_C_B_isWithin i_B (Nat.le_of_ble_eq_true rfl) (by rw [hR]; exact Nat.le_of_ble_eq_true rfl) (by rw [hR]; exact Nat.le_of_ble_eq_true rfl) (by rw [hR]; exact Nat.le_of_ble_eq_true rfl) (by rw [hR]; exact Nat.le_of_ble_eq_true rfl) (inv_S C dc_B_scale_29 l_B_71 st_C_B_isWithin i_B cd_C_B_isWithin ⟨by decide, by decide⟩ ln_C_B_isWithin rfl) (fun v29 hp => ?_)
      refine aw_eq (lo' := _) (st' := [.int v29]) (L' := (cw lt_C U oa S)) rfl rfl rfl ?_
      refine a_if_ne (tgt := 45) C dc_B_scale_32 (by decide) ⟨fun hc => ?_, fun hc => ?_⟩
      · have hp := hp.1 hc
        refine a_iconst (v := 0) C dc_B_scale_45 (by decide) ?_
        refine a_istore (lo' := [some (.ref (oa u)), some (.int x1), some (.int x2), some (.int x3), some (.int 0)]) C dc_B_scale_46 (by decide) rfl ?_
        refine aw_lo (lo' := [some (.ref (oa u)), some (.int x1), some (.int x2), some (.int x3), some (.int 0)]) ⟨.inr rfl, .inr rfl, .inr rfl, .inr rfl, .inr rfl, trivial⟩ ?_
        exact se_B_scale_48 C hQ hA hR hno hfl hu x1 x2 x3 0 S  hp
      · have hp := hp.2 hc
        refine aw_lo (lo' := [some (.ref (oa u)), none, none, none, none]) ⟨.inr rfl, .inl rfl, .inl rfl, .inl rfl, .inr rfl, trivial⟩ ?_
        exact s_B_scale_35 C hQ hA hR hno hfl hu S  hp
end C_B_scale
section C_B_scalec
variable {D : va_G} {z : Nat → ClassId} {U : ut} {oa : Nat → Nat}
set_option maxRecDepth 100000 in
theorem ct_B_scale {l : Launch} (u : Nat) (x1 : Int32) (x2 : Int32) (x3 : Int32) (S : cs) {K : cs → Prop} {T : Nat → cs → Prop} (hfl : l.flags = pinnedFlags ++ [noTraceFlag]) (hu : c_cl U u = 1) (hp : p_B_scale U u x1 x2 x3 S K T) : ct gG D z l n_C_B_scale c_C_B_scale 5 (none) 9 900 [.ref (oa u), .int x1, .int x2, .int x3] (cw lt_C U oa S) 0 0 (pC_v lt_C U oa K T) := by
  refine ct_of (lo := [some (.ref (oa u)), some (.int x1), some (.int x2), some (.int x3), none]) (by decide) g_ok (Nat.le_of_ble_eq_true rfl) rfl ?_
  intro X A hl C hR hQ hA hno
  exact s_B_scale_0 C hQ hA hR hno (by rw [hl]; exact hfl) hu x1 x2 x3 S hp
end C_B_scalec
def b_B_entry_51 (U : ut) (u : Nat)  (S : cs) (K : cs → Prop) (T : Nat → cs → Prop) : Prop :=
  T 14 S
def b_B_entry_20 (U : ut) (u : Nat)  (S : cs) (K : cs → Prop) (T : Nat → cs → Prop) : Prop :=
  T 15 S
def p_B_entry (U : ut) (u : Nat) (x1 : Int32) (x2 : Int32) (x3 : Int32) (x4 : Int32) (S : cs) (K : cs → Prop) (T : Nat → cs → Prop) : Prop :=
  p_B_isWithin x2 0 7 (fun v4 => (v4 = 0 → (b_B_entry_20 U u S K T)) ∧ (¬ (v4 = 0) → (p_B_isWithin x3 0 7 (fun v14 => (¬ v14 = 0 → (p_B_isWithin x1 0 1 (fun v33 => (v33 = 0 → (b_B_entry_51 U u S K T)) ∧ (¬ (v33 = 0) → (p_B_isWithin x4 1 255 (fun v45 => (¬ v45 = 0 → (¬ S.2.2 u 1 = NU ∧ (c_cl U (S.2.2 u 1) = 902 ∧ (vp_in (((64 * x1) + (8 * x2)) + x3) (c_ln U (S.2.2 u 1)) ∧ (K (va_up S.1 (S.2.2 u 1) (upd (S.1 (S.2.2 u 1)) (((64 * x1) + (8 * x2)) + x3).toNatClampNeg x4), S.2.1, S.2.2)))))) ∧ (v45 = 0 → (b_B_entry_51 U u S K T)))))))) ∧ (v14 = 0 → (b_B_entry_20 U u S K T))))))
section C_B_entry
variable {D : va_G} {z : Nat → ClassId} {A : Nat → Prop} {X : cx} {L0 : fw} {U : ut} {oa : Nat → Nat} {u : Nat} {K : cs → Prop} {T : Nat → cs → Prop}
set_option maxRecDepth 100000 in
set_option maxHeartbeats 1000000 in
theorem s_B_entry_51 (C : fcx gG D z A X R_B c_C_B_entry 5 (none)) (hQ : X.2.2.2.2.2.2.2.2.2.2 = eQ gG D z X.2.2.2.2.2.2.2.1 X.2.2.2.2.1 L0 0 0 (pC_v lt_C U oa K T)) (hA : A = owA gG L0 X.2.2.2.2.1.heap.size) (hR : X.2.2.2.1 = { frames := 9, cells := 1, slots := 6, locals := 900 }) (hno : ∀ x ∈ X.2.2.2.2.2.2.2.2.2.1.exceptionTable.toList, False) (hfl : X.2.1.flags = pinnedFlags ++ [noTraceFlag]) (hu : c_cl U u = 1)  (S : cs) (hp : b_B_entry_51 U u S K T) : aw gG D z A X 5 51 [some (.ref (oa u)), none, none, none, none] [] (cw lt_C U oa S) 0 0 := by
  unfold b_B_entry_51 at hp
  exact a_throw (ci := 14) C hQ hA hno hfl dc_B_entry_51 dc_B_entry_54 dc_B_entry_55 dc_B_entry_57 dc_B_entry_60 x_B_75 rfl rfl y_B_118 i_E14 j_E14 (by decide) z_B_79 (at_E14 _ _) (Nat.le_of_ble_eq_true rfl) (by rw [hR]; exact Nat.le_of_ble_eq_true rfl) (by rw [hR]; exact Nat.le_of_ble_eq_true rfl) (Nat.le_refl _) (Nat.le_refl _) (by rw [hR]; exact Nat.le_of_ble_eq_true rfl) (by rw [hR]; exact Nat.le_of_ble_eq_true rfl) (fun q => Or.inr ⟨14, q, S, hp, rfl, rfl⟩)
set_option maxRecDepth 100000 in
set_option maxHeartbeats 1000000 in
theorem s_B_entry_20 (C : fcx gG D z A X R_B c_C_B_entry 5 (none)) (hQ : X.2.2.2.2.2.2.2.2.2.2 = eQ gG D z X.2.2.2.2.2.2.2.1 X.2.2.2.2.1 L0 0 0 (pC_v lt_C U oa K T)) (hA : A = owA gG L0 X.2.2.2.2.1.heap.size) (hR : X.2.2.2.1 = { frames := 9, cells := 1, slots := 6, locals := 900 }) (hno : ∀ x ∈ X.2.2.2.2.2.2.2.2.2.1.exceptionTable.toList, False) (hfl : X.2.1.flags = pinnedFlags ++ [noTraceFlag]) (hu : c_cl U u = 1)  (S : cs) (hp : b_B_entry_20 U u S K T) : aw gG D z A X 5 20 [some (.ref (oa u)), none, none, none, none] [] (cw lt_C U oa S) 0 0 := by
  unfold b_B_entry_20 at hp
  exact a_throw (ci := 15) C hQ hA hno hfl dc_B_entry_20 dc_B_entry_23 dc_B_entry_24 dc_B_entry_26 dc_B_entry_29 x_B_90 rfl rfl y_B_116 i_E15 j_E15 (by decide) z_B_94 (at_E15 _ _) (Nat.le_of_ble_eq_true rfl) (by rw [hR]; exact Nat.le_of_ble_eq_true rfl) (by rw [hR]; exact Nat.le_of_ble_eq_true rfl) (Nat.le_refl _) (Nat.le_refl _) (by rw [hR]; exact Nat.le_of_ble_eq_true rfl) (by rw [hR]; exact Nat.le_of_ble_eq_true rfl) (fun q => Or.inr ⟨15, q, S, hp, rfl, rfl⟩)
set_option maxRecDepth 100000 in
set_option maxHeartbeats 1000000 in
theorem s_B_entry_0 (C : fcx gG D z A X R_B c_C_B_entry 5 (none)) (hQ : X.2.2.2.2.2.2.2.2.2.2 = eQ gG D z X.2.2.2.2.2.2.2.1 X.2.2.2.2.1 L0 0 0 (pC_v lt_C U oa K T)) (hA : A = owA gG L0 X.2.2.2.2.1.heap.size) (hR : X.2.2.2.1 = { frames := 9, cells := 1, slots := 6, locals := 900 }) (hno : ∀ x ∈ X.2.2.2.2.2.2.2.2.2.1.exceptionTable.toList, False) (hfl : X.2.1.flags = pinnedFlags ++ [noTraceFlag]) (hu : c_cl U u = 1) (x1 : Int32) (x2 : Int32) (x3 : Int32) (x4 : Int32) (S : cs) (hp : p_B_entry U u x1 x2 x3 x4 S K T) : aw gG D z A X 5 0 [some (.ref (oa u)), some (.int x1), some (.int x2), some (.int x3), some (.int x4)] [] (cw lt_C U oa S) 0 0 := by
  unfold p_B_entry at hp
  refine a_iload_n C dc_B_entry_0 rfl rfl ?_
  refine a_iconst (v := 0) C dc_B_entry_1 (by decide) ?_
  refine a_bipush (v := 7) C dc_B_entry_2 (by decide) ?_
  refine a_callP (rest := []) (av := [.int x2, .int 0, .int 7]) C dc_B_entry_4 (ct_B_isWithin x2 0 7 hp) cd_C_B_isWithin i_B (Nat.le_of_ble_eq_true rfl) (by rw [hR]; exact Nat.le_of_ble_eq_true rfl) (by rw [hR]; exact Nat.le_of_ble_eq_true rfl) (by rw [hR]; exact Nat.le_of_ble_eq_true rfl) (by rw [hR]; exact Nat.le_of_ble_eq_true rfl) (inv_S C dc_B_entry_4 l_B_71 st_C_B_isWithin i_B cd_C_B_isWithin ⟨by decide, by decide⟩ ln_C_B_isWithin rfl) (fun v4 hp => ?_)
  refine aw_eq (lo' := _) (st' := [.int v4]) (L' := (cw lt_C U oa S)) rfl rfl rfl ?_
  refine a_if_eq (tgt := 20) C dc_B_entry_7 (by decide) ⟨fun hc => ?_, fun hc => ?_⟩
  · have hp := hp.1 hc
    refine aw_lo (lo' := [some (.ref (oa u)), none, none, none, none]) ⟨.inr rfl, .inl rfl, .inl rfl, .inl rfl, .inl rfl, trivial⟩ ?_
    exact s_B_entry_20 C hQ hA hR hno hfl hu S  hp
  · have hp := hp.2 hc
    refine a_iload_n C dc_B_entry_10 rfl rfl ?_
    refine a_iconst (v := 0) C dc_B_entry_11 (by decide) ?_
    refine a_bipush (v := 7) C dc_B_entry_12 (by decide) ?_
    refine a_callP (rest := []) (av := [.int x3, .int 0, .int 7]) C dc_B_entry_14 (ct_B_isWithin x3 0 7 hp) cd_C_B_isWithin i_B (Nat.le_of_ble_eq_true rfl) (by rw [hR]; exact Nat.le_of_ble_eq_true rfl) (by rw [hR]; exact Nat.le_of_ble_eq_true rfl) (by rw [hR]; exact Nat.le_of_ble_eq_true rfl) (by rw [hR]; exact Nat.le_of_ble_eq_true rfl) (inv_S C dc_B_entry_14 l_B_71 st_C_B_isWithin i_B cd_C_B_isWithin ⟨by decide, by decide⟩ ln_C_B_isWithin rfl) (fun v14 hp => ?_)
    refine aw_eq (lo' := _) (st' := [.int v14]) (L' := (cw lt_C U oa S)) rfl rfl rfl ?_
    refine a_if_ne (tgt := 30) C dc_B_entry_17 (by decide) ⟨fun hc => ?_, fun hc => ?_⟩
    · have hp := hp.1 hc
      refine a_iload_n C dc_B_entry_30 rfl rfl ?_
      refine a_iconst (v := 0) C dc_B_entry_31 (by decide) ?_
      refine a_iconst (v := 1) C dc_B_entry_32 (by decide) ?_
      refine a_callP (rest := []) (av := [.int x1, .int 0, .int 1]) C dc_B_entry_33 (ct_B_isWithin x1 0 1 hp) cd_C_B_isWithin i_B (Nat.le_of_ble_eq_true rfl) (by rw [hR]; exact Nat.le_of_ble_eq_true rfl) (by rw [hR]; exact Nat.le_of_ble_eq_true rfl) (by rw [hR]; exact Nat.le_of_ble_eq_true rfl) (by rw [hR]; exact Nat.le_of_ble_eq_true rfl) (inv_S C dc_B_entry_33 l_B_71 st_C_B_isWithin i_B cd_C_B_isWithin ⟨by decide, by decide⟩ ln_C_B_isWithin rfl) (fun v33 hp => ?_)
      refine aw_eq (lo' := _) (st' := [.int v33]) (L' := (cw lt_C U oa S)) rfl rfl rfl ?_
      refine a_if_eq (tgt := 51) C dc_B_entry_36 (by decide) ⟨fun hc => ?_, fun hc => ?_⟩
      · have hp := hp.1 hc
        refine aw_lo (lo' := [some (.ref (oa u)), none, none, none, none]) ⟨.inr rfl, .inl rfl, .inl rfl, .inl rfl, .inl rfl, trivial⟩ ?_
        exact s_B_entry_51 C hQ hA hR hno hfl hu S  hp
      · have hp := hp.2 hc
        refine a_iload C dc_B_entry_39 rfl ?_
        refine a_iconst (v := 1) C dc_B_entry_41 (by decide) ?_
        refine a_sipush (v := 255) C dc_B_entry_42 (by decide) ?_
        refine a_callP (rest := []) (av := [.int x4, .int 1, .int 255]) C dc_B_entry_45 (ct_B_isWithin x4 1 255 hp) cd_C_B_isWithin i_B (Nat.le_of_ble_eq_true rfl) (by rw [hR]; exact Nat.le_of_ble_eq_true rfl) (by rw [hR]; exact Nat.le_of_ble_eq_true rfl) (by rw [hR]; exact Nat.le_of_ble_eq_true rfl) (by rw [hR]; exact Nat.le_of_ble_eq_true rfl) (inv_S C dc_B_entry_45 l_B_71 st_C_B_isWithin i_B cd_C_B_isWithin ⟨by decide, by decide⟩ ln_C_B_isWithin rfl) (fun v45 hp => ?_)
        refine aw_eq (lo' := _) (st' := [.int v45]) (L' := (cw lt_C U oa S)) rfl rfl rfl ?_
        refine a_if_ne (tgt := 61) C dc_B_entry_48 (by decide) ⟨fun hc => ?_, fun hc => ?_⟩
        · have hp := hp.1 hc
          refine a_aload_n C dc_B_entry_61 rfl rfl ?_
          refine c_getR C u 1 dc_B_entry_62 hu rfl rfl (Nat.le_of_ble_eq_true rfl) f_B_16 rfl hp.1 ?_
          have hp := hp.2
          refine a_bipush (v := 64) C dc_B_entry_65 (by decide) ?_
          refine a_iload_n C dc_B_entry_67 rfl rfl ?_
          refine a_imul C dc_B_entry_68 ?_
          refine a_bipush (v := 8) C dc_B_entry_69 (by decide) ?_
          refine a_iload_n C dc_B_entry_71 rfl rfl ?_
          refine a_imul C dc_B_entry_72 ?_
          refine a_iadd C dc_B_entry_73 ?_
          refine a_iload_n C dc_B_entry_74 rfl rfl ?_
          refine a_iadd C dc_B_entry_75 ?_
          refine a_iload C dc_B_entry_76 rfl ?_
          have hc1 := hp.1
          have hp := hp.2
          refine c_iast C (S.2.2 u 1) dc_B_entry_78 hc1 hp.1 ?_
          have hp := hp.2
          refine aw_eq (lo' := _) (st' := _) (L' := (cw lt_C U oa (va_up S.1 (S.2.2 u 1) (upd (S.1 (S.2.2 u 1)) (((64 * x1) + (8 * x2)) + x3).toNatClampNeg x4), S.2.1, S.2.2))) rfl rfl rfl ?_
          exact a_vret C hQ hA dc_B_entry_79 rfl (Or.inl ⟨(va_up S.1 (S.2.2 u 1) (upd (S.1 (S.2.2 u 1)) (((64 * x1) + (8 * x2)) + x3).toNatClampNeg x4), S.2.1, S.2.2), hp, rfl, rfl⟩)
        · have hp := hp.2 hc
          refine aw_lo (lo' := [some (.ref (oa u)), none, none, none, none]) ⟨.inr rfl, .inl rfl, .inl rfl, .inl rfl, .inl rfl, trivial⟩ ?_
          exact s_B_entry_51 C hQ hA hR hno hfl hu S  hp
    · have hp := hp.2 hc
      refine aw_lo (lo' := [some (.ref (oa u)), none, none, none, none]) ⟨.inr rfl, .inl rfl, .inl rfl, .inl rfl, .inl rfl, trivial⟩ ?_
      exact s_B_entry_20 C hQ hA hR hno hfl hu S  hp
end C_B_entry
section C_B_entryc
variable {D : va_G} {z : Nat → ClassId} {U : ut} {oa : Nat → Nat}
set_option maxRecDepth 100000 in
theorem ct_B_entry {l : Launch} (u : Nat) (x1 : Int32) (x2 : Int32) (x3 : Int32) (x4 : Int32) (S : cs) {K : cs → Prop} {T : Nat → cs → Prop} (hfl : l.flags = pinnedFlags ++ [noTraceFlag]) (hu : c_cl U u = 1) (hp : p_B_entry U u x1 x2 x3 x4 S K T) : ct gG D z l n_C_B_entry c_C_B_entry 5 (none) 9 900 [.ref (oa u), .int x1, .int x2, .int x3, .int x4] (cw lt_C U oa S) 0 0 (pC_v lt_C U oa K T) := by
  refine ct_of (lo := [some (.ref (oa u)), some (.int x1), some (.int x2), some (.int x3), some (.int x4)]) (by decide) g_ok (Nat.le_of_ble_eq_true rfl) rfl ?_
  intro X A hl C hR hQ hA hno
  exact s_B_entry_0 C hQ hA hR hno (by rw [hl]; exact hfl) hu x1 x2 x3 x4 S hp
end C_B_entryc
def p_Pi_begin (U : ut) (u : Nat) (x1 : Int32) (x2 : Int32) (x3 : Int32) (S : cs) (K : cs → Prop) : Prop :=
  ¬ S.2.2 u 13 = NU ∧ (p_Ar_fillI U (S.2.2 u 13) 0 (va_up (va_up (va_up (va_up (va_up (va_up S.1 u (upd (S.1 u) 0 x1)) u (upd ((va_up S.1 u (upd (S.1 u) 0 x1)) u) 1 x2)) u (upd ((va_up (va_up S.1 u (upd (S.1 u) 0 x1)) u (upd ((va_up S.1 u (upd (S.1 u) 0 x1)) u) 1 x2)) u) 2 x3)) u (upd ((va_up (va_up (va_up S.1 u (upd (S.1 u) 0 x1)) u (upd ((va_up S.1 u (upd (S.1 u) 0 x1)) u) 1 x2)) u (upd ((va_up (va_up S.1 u (upd (S.1 u) 0 x1)) u (upd ((va_up S.1 u (upd (S.1 u) 0 x1)) u) 1 x2)) u) 2 x3)) u) 5 1)) u (upd ((va_up (va_up (va_up (va_up S.1 u (upd (S.1 u) 0 x1)) u (upd ((va_up S.1 u (upd (S.1 u) 0 x1)) u) 1 x2)) u (upd ((va_up (va_up S.1 u (upd (S.1 u) 0 x1)) u (upd ((va_up S.1 u (upd (S.1 u) 0 x1)) u) 1 x2)) u) 2 x3)) u (upd ((va_up (va_up (va_up S.1 u (upd (S.1 u) 0 x1)) u (upd ((va_up S.1 u (upd (S.1 u) 0 x1)) u) 1 x2)) u (upd ((va_up (va_up S.1 u (upd (S.1 u) 0 x1)) u (upd ((va_up S.1 u (upd (S.1 u) 0 x1)) u) 1 x2)) u) 2 x3)) u) 5 1)) u) 6 1)) u (upd ((va_up (va_up (va_up (va_up (va_up S.1 u (upd (S.1 u) 0 x1)) u (upd ((va_up S.1 u (upd (S.1 u) 0 x1)) u) 1 x2)) u (upd ((va_up (va_up S.1 u (upd (S.1 u) 0 x1)) u (upd ((va_up S.1 u (upd (S.1 u) 0 x1)) u) 1 x2)) u) 2 x3)) u (upd ((va_up (va_up (va_up S.1 u (upd (S.1 u) 0 x1)) u (upd ((va_up S.1 u (upd (S.1 u) 0 x1)) u) 1 x2)) u (upd ((va_up (va_up S.1 u (upd (S.1 u) 0 x1)) u (upd ((va_up S.1 u (upd (S.1 u) 0 x1)) u) 1 x2)) u) 2 x3)) u) 5 1)) u (upd ((va_up (va_up (va_up (va_up S.1 u (upd (S.1 u) 0 x1)) u (upd ((va_up S.1 u (upd (S.1 u) 0 x1)) u) 1 x2)) u (upd ((va_up (va_up S.1 u (upd (S.1 u) 0 x1)) u (upd ((va_up S.1 u (upd (S.1 u) 0 x1)) u) 1 x2)) u) 2 x3)) u (upd ((va_up (va_up (va_up S.1 u (upd (S.1 u) 0 x1)) u (upd ((va_up S.1 u (upd (S.1 u) 0 x1)) u) 1 x2)) u (upd ((va_up (va_up S.1 u (upd (S.1 u) 0 x1)) u (upd ((va_up S.1 u (upd (S.1 u) 0 x1)) u) 1 x2)) u) 2 x3)) u) 5 1)) u) 6 1)) u) 16 0), S.2.1, S.2.2) (fun S35 => K S35))
section C_Pi_begin
variable {D : va_G} {z : Nat → ClassId} {A : Nat → Prop} {X : cx} {L0 : fw} {U : ut} {oa : Nat → Nat} {u : Nat} {K : cs → Prop}
set_option maxRecDepth 100000 in
set_option maxHeartbeats 1000000 in
theorem s_Pi_begin_0 (C : fcx gG D z A X R_Pi c_C_Pi_begin 4 (none)) (hQ : X.2.2.2.2.2.2.2.2.2.2 = eQ gG D z X.2.2.2.2.2.2.2.1 X.2.2.2.2.1 L0 0 0 (pC_v lt_C U oa K (fun _ _ => False))) (hA : A = owA gG L0 X.2.2.2.2.1.heap.size) (hR : X.2.2.2.1 = { frames := 2, cells := 1, slots := 6, locals := 200 }) (hu : c_cl U u = 7) (x1 : Int32) (x2 : Int32) (x3 : Int32) (S : cs) (hp : p_Pi_begin U u x1 x2 x3 S K) : aw gG D z A X 4 0 [some (.ref (oa u)), some (.int x1), some (.int x2), some (.int x3)] [] (cw lt_C U oa S) 0 0 := by
  unfold p_Pi_begin at hp
  refine a_aload_n C dc_Pi_begin_0 rfl rfl ?_
  refine a_iload_n C dc_Pi_begin_1 rfl rfl ?_
  refine c_putI (ty := .int) C u 0 dc_Pi_begin_2 hu rfl rfl (Nat.le_of_ble_eq_true rfl) f_Pi_9 (Nat.le_of_ble_eq_true rfl) rfl rfl rfl rfl ?_
  refine aw_eq (lo' := _) (st' := _) (L' := (cw lt_C U oa (va_up S.1 u (upd (S.1 u) 0 x1), S.2.1, S.2.2))) rfl rfl rfl ?_
  refine a_aload_n C dc_Pi_begin_5 rfl rfl ?_
  refine a_iload_n C dc_Pi_begin_6 rfl rfl ?_
  refine c_putI (ty := .int) C u 1 dc_Pi_begin_7 hu rfl rfl (Nat.le_of_ble_eq_true rfl) f_Pi_15 (Nat.le_of_ble_eq_true rfl) rfl rfl rfl rfl ?_
  refine aw_eq (lo' := _) (st' := _) (L' := (cw lt_C U oa (va_up (va_up S.1 u (upd (S.1 u) 0 x1)) u (upd ((va_up S.1 u (upd (S.1 u) 0 x1)) u) 1 x2), S.2.1, S.2.2))) rfl rfl rfl ?_
  refine a_aload_n C dc_Pi_begin_10 rfl rfl ?_
  refine a_iload_n C dc_Pi_begin_11 rfl rfl ?_
  refine c_putI (ty := .int) C u 2 dc_Pi_begin_12 hu rfl rfl (Nat.le_of_ble_eq_true rfl) f_Pi_18 (Nat.le_of_ble_eq_true rfl) rfl rfl rfl rfl ?_
  refine aw_eq (lo' := _) (st' := _) (L' := (cw lt_C U oa (va_up (va_up (va_up S.1 u (upd (S.1 u) 0 x1)) u (upd ((va_up S.1 u (upd (S.1 u) 0 x1)) u) 1 x2)) u (upd ((va_up (va_up S.1 u (upd (S.1 u) 0 x1)) u (upd ((va_up S.1 u (upd (S.1 u) 0 x1)) u) 1 x2)) u) 2 x3), S.2.1, S.2.2))) rfl rfl rfl ?_
  refine a_aload_n C dc_Pi_begin_15 rfl rfl ?_
  refine a_iconst (v := 1) C dc_Pi_begin_16 (by decide) ?_
  refine c_putI (ty := .int) C u 5 dc_Pi_begin_17 hu rfl rfl (Nat.le_of_ble_eq_true rfl) f_Pi_28 (Nat.le_of_ble_eq_true rfl) rfl rfl rfl rfl ?_
  refine aw_eq (lo' := _) (st' := _) (L' := (cw lt_C U oa (va_up (va_up (va_up (va_up S.1 u (upd (S.1 u) 0 x1)) u (upd ((va_up S.1 u (upd (S.1 u) 0 x1)) u) 1 x2)) u (upd ((va_up (va_up S.1 u (upd (S.1 u) 0 x1)) u (upd ((va_up S.1 u (upd (S.1 u) 0 x1)) u) 1 x2)) u) 2 x3)) u (upd ((va_up (va_up (va_up S.1 u (upd (S.1 u) 0 x1)) u (upd ((va_up S.1 u (upd (S.1 u) 0 x1)) u) 1 x2)) u (upd ((va_up (va_up S.1 u (upd (S.1 u) 0 x1)) u (upd ((va_up S.1 u (upd (S.1 u) 0 x1)) u) 1 x2)) u) 2 x3)) u) 5 1), S.2.1, S.2.2))) rfl rfl rfl ?_
  refine a_aload_n C dc_Pi_begin_20 rfl rfl ?_
  refine a_iconst (v := 1) C dc_Pi_begin_21 (by decide) ?_
  refine c_putI (ty := .int) C u 6 dc_Pi_begin_22 hu rfl rfl (Nat.le_of_ble_eq_true rfl) f_Pi_31 (Nat.le_of_ble_eq_true rfl) rfl rfl rfl rfl ?_
  refine aw_eq (lo' := _) (st' := _) (L' := (cw lt_C U oa (va_up (va_up (va_up (va_up (va_up S.1 u (upd (S.1 u) 0 x1)) u (upd ((va_up S.1 u (upd (S.1 u) 0 x1)) u) 1 x2)) u (upd ((va_up (va_up S.1 u (upd (S.1 u) 0 x1)) u (upd ((va_up S.1 u (upd (S.1 u) 0 x1)) u) 1 x2)) u) 2 x3)) u (upd ((va_up (va_up (va_up S.1 u (upd (S.1 u) 0 x1)) u (upd ((va_up S.1 u (upd (S.1 u) 0 x1)) u) 1 x2)) u (upd ((va_up (va_up S.1 u (upd (S.1 u) 0 x1)) u (upd ((va_up S.1 u (upd (S.1 u) 0 x1)) u) 1 x2)) u) 2 x3)) u) 5 1)) u (upd ((va_up (va_up (va_up (va_up S.1 u (upd (S.1 u) 0 x1)) u (upd ((va_up S.1 u (upd (S.1 u) 0 x1)) u) 1 x2)) u (upd ((va_up (va_up S.1 u (upd (S.1 u) 0 x1)) u (upd ((va_up S.1 u (upd (S.1 u) 0 x1)) u) 1 x2)) u) 2 x3)) u (upd ((va_up (va_up (va_up S.1 u (upd (S.1 u) 0 x1)) u (upd ((va_up S.1 u (upd (S.1 u) 0 x1)) u) 1 x2)) u (upd ((va_up (va_up S.1 u (upd (S.1 u) 0 x1)) u (upd ((va_up S.1 u (upd (S.1 u) 0 x1)) u) 1 x2)) u) 2 x3)) u) 5 1)) u) 6 1), S.2.1, S.2.2))) rfl rfl rfl ?_
  refine a_aload_n C dc_Pi_begin_25 rfl rfl ?_
  refine a_iconst (v := 0) C dc_Pi_begin_26 (by decide) ?_
  refine c_putI (ty := .boolean) C u 16 dc_Pi_begin_27 hu rfl rfl (Nat.le_of_ble_eq_true rfl) f_Pi_61 (Nat.le_of_ble_eq_true rfl) rfl rfl rfl rfl ?_
  refine aw_eq (lo' := _) (st' := _) (L' := (cw lt_C U oa (va_up (va_up (va_up (va_up (va_up (va_up S.1 u (upd (S.1 u) 0 x1)) u (upd ((va_up S.1 u (upd (S.1 u) 0 x1)) u) 1 x2)) u (upd ((va_up (va_up S.1 u (upd (S.1 u) 0 x1)) u (upd ((va_up S.1 u (upd (S.1 u) 0 x1)) u) 1 x2)) u) 2 x3)) u (upd ((va_up (va_up (va_up S.1 u (upd (S.1 u) 0 x1)) u (upd ((va_up S.1 u (upd (S.1 u) 0 x1)) u) 1 x2)) u (upd ((va_up (va_up S.1 u (upd (S.1 u) 0 x1)) u (upd ((va_up S.1 u (upd (S.1 u) 0 x1)) u) 1 x2)) u) 2 x3)) u) 5 1)) u (upd ((va_up (va_up (va_up (va_up S.1 u (upd (S.1 u) 0 x1)) u (upd ((va_up S.1 u (upd (S.1 u) 0 x1)) u) 1 x2)) u (upd ((va_up (va_up S.1 u (upd (S.1 u) 0 x1)) u (upd ((va_up S.1 u (upd (S.1 u) 0 x1)) u) 1 x2)) u) 2 x3)) u (upd ((va_up (va_up (va_up S.1 u (upd (S.1 u) 0 x1)) u (upd ((va_up S.1 u (upd (S.1 u) 0 x1)) u) 1 x2)) u (upd ((va_up (va_up S.1 u (upd (S.1 u) 0 x1)) u (upd ((va_up S.1 u (upd (S.1 u) 0 x1)) u) 1 x2)) u) 2 x3)) u) 5 1)) u) 6 1)) u (upd ((va_up (va_up (va_up (va_up (va_up S.1 u (upd (S.1 u) 0 x1)) u (upd ((va_up S.1 u (upd (S.1 u) 0 x1)) u) 1 x2)) u (upd ((va_up (va_up S.1 u (upd (S.1 u) 0 x1)) u (upd ((va_up S.1 u (upd (S.1 u) 0 x1)) u) 1 x2)) u) 2 x3)) u (upd ((va_up (va_up (va_up S.1 u (upd (S.1 u) 0 x1)) u (upd ((va_up S.1 u (upd (S.1 u) 0 x1)) u) 1 x2)) u (upd ((va_up (va_up S.1 u (upd (S.1 u) 0 x1)) u (upd ((va_up S.1 u (upd (S.1 u) 0 x1)) u) 1 x2)) u) 2 x3)) u) 5 1)) u (upd ((va_up (va_up (va_up (va_up S.1 u (upd (S.1 u) 0 x1)) u (upd ((va_up S.1 u (upd (S.1 u) 0 x1)) u) 1 x2)) u (upd ((va_up (va_up S.1 u (upd (S.1 u) 0 x1)) u (upd ((va_up S.1 u (upd (S.1 u) 0 x1)) u) 1 x2)) u) 2 x3)) u (upd ((va_up (va_up (va_up S.1 u (upd (S.1 u) 0 x1)) u (upd ((va_up S.1 u (upd (S.1 u) 0 x1)) u) 1 x2)) u (upd ((va_up (va_up S.1 u (upd (S.1 u) 0 x1)) u (upd ((va_up S.1 u (upd (S.1 u) 0 x1)) u) 1 x2)) u) 2 x3)) u) 5 1)) u) 6 1)) u) 16 0), S.2.1, S.2.2))) rfl rfl rfl ?_
  refine a_aload_n C dc_Pi_begin_30 rfl rfl ?_
  refine c_getR C u 13 dc_Pi_begin_31 hu rfl rfl (Nat.le_of_ble_eq_true rfl) f_Pi_52 rfl hp.1 ?_
  have hp := hp.2
  refine a_iconst (v := 0) C dc_Pi_begin_34 (by decide) ?_
  refine c_call (rest := []) (av := [.ref (oa (S.2.2 u 13)), .int 0]) C dc_Pi_begin_35 (ct_Ar_fillI (S.2.2 u 13) 0 (va_up (va_up (va_up (va_up (va_up (va_up S.1 u (upd (S.1 u) 0 x1)) u (upd ((va_up S.1 u (upd (S.1 u) 0 x1)) u) 1 x2)) u (upd ((va_up (va_up S.1 u (upd (S.1 u) 0 x1)) u (upd ((va_up S.1 u (upd (S.1 u) 0 x1)) u) 1 x2)) u) 2 x3)) u (upd ((va_up (va_up (va_up S.1 u (upd (S.1 u) 0 x1)) u (upd ((va_up S.1 u (upd (S.1 u) 0 x1)) u) 1 x2)) u (upd ((va_up (va_up S.1 u (upd (S.1 u) 0 x1)) u (upd ((va_up S.1 u (upd (S.1 u) 0 x1)) u) 1 x2)) u) 2 x3)) u) 5 1)) u (upd ((va_up (va_up (va_up (va_up S.1 u (upd (S.1 u) 0 x1)) u (upd ((va_up S.1 u (upd (S.1 u) 0 x1)) u) 1 x2)) u (upd ((va_up (va_up S.1 u (upd (S.1 u) 0 x1)) u (upd ((va_up S.1 u (upd (S.1 u) 0 x1)) u) 1 x2)) u) 2 x3)) u (upd ((va_up (va_up (va_up S.1 u (upd (S.1 u) 0 x1)) u (upd ((va_up S.1 u (upd (S.1 u) 0 x1)) u) 1 x2)) u (upd ((va_up (va_up S.1 u (upd (S.1 u) 0 x1)) u (upd ((va_up S.1 u (upd (S.1 u) 0 x1)) u) 1 x2)) u) 2 x3)) u) 5 1)) u) 6 1)) u (upd ((va_up (va_up (va_up (va_up (va_up S.1 u (upd (S.1 u) 0 x1)) u (upd ((va_up S.1 u (upd (S.1 u) 0 x1)) u) 1 x2)) u (upd ((va_up (va_up S.1 u (upd (S.1 u) 0 x1)) u (upd ((va_up S.1 u (upd (S.1 u) 0 x1)) u) 1 x2)) u) 2 x3)) u (upd ((va_up (va_up (va_up S.1 u (upd (S.1 u) 0 x1)) u (upd ((va_up S.1 u (upd (S.1 u) 0 x1)) u) 1 x2)) u (upd ((va_up (va_up S.1 u (upd (S.1 u) 0 x1)) u (upd ((va_up S.1 u (upd (S.1 u) 0 x1)) u) 1 x2)) u) 2 x3)) u) 5 1)) u (upd ((va_up (va_up (va_up (va_up S.1 u (upd (S.1 u) 0 x1)) u (upd ((va_up S.1 u (upd (S.1 u) 0 x1)) u) 1 x2)) u (upd ((va_up (va_up S.1 u (upd (S.1 u) 0 x1)) u (upd ((va_up S.1 u (upd (S.1 u) 0 x1)) u) 1 x2)) u) 2 x3)) u (upd ((va_up (va_up (va_up S.1 u (upd (S.1 u) 0 x1)) u (upd ((va_up S.1 u (upd (S.1 u) 0 x1)) u) 1 x2)) u (upd ((va_up (va_up S.1 u (upd (S.1 u) 0 x1)) u (upd ((va_up S.1 u (upd (S.1 u) 0 x1)) u) 1 x2)) u) 2 x3)) u) 5 1)) u) 6 1)) u) 16 0), S.2.1, S.2.2)  hp) cd_C_Ar_fillI i_Ar (Nat.le_of_ble_eq_true rfl) (by rw [hR]; exact Nat.le_of_ble_eq_true rfl) (by rw [hR]; exact Nat.le_of_ble_eq_true rfl) (by rw [hR]; exact Nat.le_of_ble_eq_true rfl) (by rw [hR]; exact Nat.le_of_ble_eq_true rfl) (inv_S C dc_Pi_begin_35 l_Pi_65 st_C_Ar_fillI i_Ar cd_C_Ar_fillI ⟨by decide, by decide⟩ ln_C_Ar_fillI rfl) (fun oc L1 hL => ?_)
  obtain ⟨S35, hp, rfl, rfl⟩ := hL.resolve_right pC_no
  refine ⟨_, rfl, ?_⟩
  refine aw_eq (lo' := _) (st' := []) (L' := (cw lt_C U oa S35)) rfl rfl rfl ?_
  exact a_vret C hQ hA dc_Pi_begin_38 rfl (Or.inl ⟨S35, hp, rfl, rfl⟩)
end C_Pi_begin
section C_Pi_beginc
variable {D : va_G} {z : Nat → ClassId} {U : ut} {oa : Nat → Nat}
set_option maxRecDepth 100000 in
theorem ct_Pi_begin {l : Launch} (u : Nat) (x1 : Int32) (x2 : Int32) (x3 : Int32) (S : cs) {K : cs → Prop} (hu : c_cl U u = 7) (hp : p_Pi_begin U u x1 x2 x3 S K) : ct gG D z l n_C_Pi_begin c_C_Pi_begin 4 (none) 2 200 [.ref (oa u), .int x1, .int x2, .int x3] (cw lt_C U oa S) 0 0 (pC_v lt_C U oa K (fun _ _ => False)) := by
  refine ct_of (lo := [some (.ref (oa u)), some (.int x1), some (.int x2), some (.int x3)]) (by decide) g_ok (Nat.le_of_ble_eq_true rfl) rfl ?_
  intro X A _ C hR hQ hA _
  exact s_Pi_begin_0 C hQ hA hR hu x1 x2 x3 S hp
end C_Pi_beginc
def p_Pi_setFactors (U : ut) (u : Nat) (x1 : Int32) (x2 : Int32) (x3 : Int32) (S : cs) (K : cs → Prop) : Prop :=
  ¬ S.2.2 u 3 = NU ∧ (c_cl U (S.2.2 u 3) = 902 ∧ (vp_in x1 (c_ln U (S.2.2 u 3)) ∧ (¬ S.2.2 u 4 = NU ∧ (c_cl U (S.2.2 u 4) = 902 ∧ (vp_in x1 (c_ln U (S.2.2 u 4)) ∧ (K (va_up (va_up (va_up (va_up S.1 (S.2.2 u 3) (upd (S.1 (S.2.2 u 3)) x1.toNatClampNeg x2)) (S.2.2 u 4) (upd ((va_up S.1 (S.2.2 u 3) (upd (S.1 (S.2.2 u 3)) x1.toNatClampNeg x2)) (S.2.2 u 4)) x1.toNatClampNeg x3)) u (upd ((va_up (va_up S.1 (S.2.2 u 3) (upd (S.1 (S.2.2 u 3)) x1.toNatClampNeg x2)) (S.2.2 u 4) (upd ((va_up S.1 (S.2.2 u 3) (upd (S.1 (S.2.2 u 3)) x1.toNatClampNeg x2)) (S.2.2 u 4)) x1.toNatClampNeg x3)) u) 5 (i_max ((va_up (va_up S.1 (S.2.2 u 3) (upd (S.1 (S.2.2 u 3)) x1.toNatClampNeg x2)) (S.2.2 u 4) (upd ((va_up S.1 (S.2.2 u 3) (upd (S.1 (S.2.2 u 3)) x1.toNatClampNeg x2)) (S.2.2 u 4)) x1.toNatClampNeg x3)) u 5) x2))) u (upd ((va_up (va_up (va_up S.1 (S.2.2 u 3) (upd (S.1 (S.2.2 u 3)) x1.toNatClampNeg x2)) (S.2.2 u 4) (upd ((va_up S.1 (S.2.2 u 3) (upd (S.1 (S.2.2 u 3)) x1.toNatClampNeg x2)) (S.2.2 u 4)) x1.toNatClampNeg x3)) u (upd ((va_up (va_up S.1 (S.2.2 u 3) (upd (S.1 (S.2.2 u 3)) x1.toNatClampNeg x2)) (S.2.2 u 4) (upd ((va_up S.1 (S.2.2 u 3) (upd (S.1 (S.2.2 u 3)) x1.toNatClampNeg x2)) (S.2.2 u 4)) x1.toNatClampNeg x3)) u) 5 (i_max ((va_up (va_up S.1 (S.2.2 u 3) (upd (S.1 (S.2.2 u 3)) x1.toNatClampNeg x2)) (S.2.2 u 4) (upd ((va_up S.1 (S.2.2 u 3) (upd (S.1 (S.2.2 u 3)) x1.toNatClampNeg x2)) (S.2.2 u 4)) x1.toNatClampNeg x3)) u 5) x2))) u) 6 (i_max ((va_up (va_up (va_up S.1 (S.2.2 u 3) (upd (S.1 (S.2.2 u 3)) x1.toNatClampNeg x2)) (S.2.2 u 4) (upd ((va_up S.1 (S.2.2 u 3) (upd (S.1 (S.2.2 u 3)) x1.toNatClampNeg x2)) (S.2.2 u 4)) x1.toNatClampNeg x3)) u (upd ((va_up (va_up S.1 (S.2.2 u 3) (upd (S.1 (S.2.2 u 3)) x1.toNatClampNeg x2)) (S.2.2 u 4) (upd ((va_up S.1 (S.2.2 u 3) (upd (S.1 (S.2.2 u 3)) x1.toNatClampNeg x2)) (S.2.2 u 4)) x1.toNatClampNeg x3)) u) 5 (i_max ((va_up (va_up S.1 (S.2.2 u 3) (upd (S.1 (S.2.2 u 3)) x1.toNatClampNeg x2)) (S.2.2 u 4) (upd ((va_up S.1 (S.2.2 u 3) (upd (S.1 (S.2.2 u 3)) x1.toNatClampNeg x2)) (S.2.2 u 4)) x1.toNatClampNeg x3)) u 5) x2))) u 6) x3)), S.2.1, S.2.2)))))))
section C_Pi_setFactors
variable {D : va_G} {z : Nat → ClassId} {A : Nat → Prop} {X : cx} {L0 : fw} {U : ut} {oa : Nat → Nat} {u : Nat} {K : cs → Prop}
set_option maxRecDepth 100000 in
set_option maxHeartbeats 1000000 in
theorem s_Pi_setFactors_0 (C : fcx gG D z A X R_Pi c_C_Pi_setFactors 4 (none)) (hQ : X.2.2.2.2.2.2.2.2.2.2 = eQ gG D z X.2.2.2.2.2.2.2.1 X.2.2.2.2.1 L0 0 0 (pC_v lt_C U oa K (fun _ _ => False))) (hA : A = owA gG L0 X.2.2.2.2.1.heap.size) (hR : X.2.2.2.1 = { frames := 1, cells := 1, slots := 6, locals := 100 }) (hu : c_cl U u = 7) (x1 : Int32) (x2 : Int32) (x3 : Int32) (S : cs) (hp : p_Pi_setFactors U u x1 x2 x3 S K) : aw gG D z A X 4 0 [some (.ref (oa u)), some (.int x1), some (.int x2), some (.int x3)] [] (cw lt_C U oa S) 0 0 := by
  unfold p_Pi_setFactors at hp
  refine a_aload_n C dc_Pi_setFactors_0 rfl rfl ?_
  refine c_getR C u 3 dc_Pi_setFactors_1 hu rfl rfl (Nat.le_of_ble_eq_true rfl) f_Pi_21 rfl hp.1 ?_
  have hp := hp.2
  refine a_iload_n C dc_Pi_setFactors_4 rfl rfl ?_
  refine a_iload_n C dc_Pi_setFactors_5 rfl rfl ?_
  have hc1 := hp.1
  have hp := hp.2
  refine c_iast C (S.2.2 u 3) dc_Pi_setFactors_6 hc1 hp.1 ?_
  have hp := hp.2
  refine aw_eq (lo' := _) (st' := _) (L' := (cw lt_C U oa (va_up S.1 (S.2.2 u 3) (upd (S.1 (S.2.2 u 3)) x1.toNatClampNeg x2), S.2.1, S.2.2))) rfl rfl rfl ?_
  refine a_aload_n C dc_Pi_setFactors_7 rfl rfl ?_
  refine c_getR C u 4 dc_Pi_setFactors_8 hu rfl rfl (Nat.le_of_ble_eq_true rfl) f_Pi_25 rfl hp.1 ?_
  have hp := hp.2
  refine a_iload_n C dc_Pi_setFactors_11 rfl rfl ?_
  refine a_iload_n C dc_Pi_setFactors_12 rfl rfl ?_
  have hc2 := hp.1
  have hp := hp.2
  refine c_iast C (S.2.2 u 4) dc_Pi_setFactors_13 hc2 hp.1 ?_
  have hp := hp.2
  refine aw_eq (lo' := _) (st' := _) (L' := (cw lt_C U oa (va_up (va_up S.1 (S.2.2 u 3) (upd (S.1 (S.2.2 u 3)) x1.toNatClampNeg x2)) (S.2.2 u 4) (upd ((va_up S.1 (S.2.2 u 3) (upd (S.1 (S.2.2 u 3)) x1.toNatClampNeg x2)) (S.2.2 u 4)) x1.toNatClampNeg x3), S.2.1, S.2.2))) rfl rfl rfl ?_
  refine a_aload_n C dc_Pi_setFactors_14 rfl rfl ?_
  refine a_aload_n C dc_Pi_setFactors_15 rfl rfl ?_
  refine c_getI C u 5 dc_Pi_setFactors_16 hu rfl rfl (Nat.le_of_ble_eq_true rfl) f_Pi_28 (Nat.le_of_ble_eq_true rfl) ?_
  refine a_iload_n C dc_Pi_setFactors_19 rfl rfl ?_
  refine a_mx C dc_Pi_setFactors_20 l_Pi_71 st_Ma_max i_Ma cd_Ma_max (Nat.le_of_ble_eq_true rfl) (by rw [hR]; exact Nat.le_of_ble_eq_true rfl) (by rw [hR]; exact Nat.le_of_ble_eq_true rfl) (by rw [hR]; exact Nat.le_of_ble_eq_true rfl) (by rw [hR]; exact Nat.le_of_ble_eq_true rfl) ?_
  refine c_putI (ty := .int) C u 5 dc_Pi_setFactors_23 hu rfl rfl (Nat.le_of_ble_eq_true rfl) f_Pi_28 (Nat.le_of_ble_eq_true rfl) rfl rfl rfl rfl ?_
  refine aw_eq (lo' := _) (st' := _) (L' := (cw lt_C U oa (va_up (va_up (va_up S.1 (S.2.2 u 3) (upd (S.1 (S.2.2 u 3)) x1.toNatClampNeg x2)) (S.2.2 u 4) (upd ((va_up S.1 (S.2.2 u 3) (upd (S.1 (S.2.2 u 3)) x1.toNatClampNeg x2)) (S.2.2 u 4)) x1.toNatClampNeg x3)) u (upd ((va_up (va_up S.1 (S.2.2 u 3) (upd (S.1 (S.2.2 u 3)) x1.toNatClampNeg x2)) (S.2.2 u 4) (upd ((va_up S.1 (S.2.2 u 3) (upd (S.1 (S.2.2 u 3)) x1.toNatClampNeg x2)) (S.2.2 u 4)) x1.toNatClampNeg x3)) u) 5 (i_max ((va_up (va_up S.1 (S.2.2 u 3) (upd (S.1 (S.2.2 u 3)) x1.toNatClampNeg x2)) (S.2.2 u 4) (upd ((va_up S.1 (S.2.2 u 3) (upd (S.1 (S.2.2 u 3)) x1.toNatClampNeg x2)) (S.2.2 u 4)) x1.toNatClampNeg x3)) u 5) x2)), S.2.1, S.2.2))) rfl rfl rfl ?_
  refine a_aload_n C dc_Pi_setFactors_26 rfl rfl ?_
  refine a_aload_n C dc_Pi_setFactors_27 rfl rfl ?_
  refine c_getI C u 6 dc_Pi_setFactors_28 hu rfl rfl (Nat.le_of_ble_eq_true rfl) f_Pi_31 (Nat.le_of_ble_eq_true rfl) ?_
  refine a_iload_n C dc_Pi_setFactors_31 rfl rfl ?_
  refine a_mx C dc_Pi_setFactors_32 l_Pi_71 st_Ma_max i_Ma cd_Ma_max (Nat.le_of_ble_eq_true rfl) (by rw [hR]; exact Nat.le_of_ble_eq_true rfl) (by rw [hR]; exact Nat.le_of_ble_eq_true rfl) (by rw [hR]; exact Nat.le_of_ble_eq_true rfl) (by rw [hR]; exact Nat.le_of_ble_eq_true rfl) ?_
  refine c_putI (ty := .int) C u 6 dc_Pi_setFactors_35 hu rfl rfl (Nat.le_of_ble_eq_true rfl) f_Pi_31 (Nat.le_of_ble_eq_true rfl) rfl rfl rfl rfl ?_
  refine aw_eq (lo' := _) (st' := _) (L' := (cw lt_C U oa (va_up (va_up (va_up (va_up S.1 (S.2.2 u 3) (upd (S.1 (S.2.2 u 3)) x1.toNatClampNeg x2)) (S.2.2 u 4) (upd ((va_up S.1 (S.2.2 u 3) (upd (S.1 (S.2.2 u 3)) x1.toNatClampNeg x2)) (S.2.2 u 4)) x1.toNatClampNeg x3)) u (upd ((va_up (va_up S.1 (S.2.2 u 3) (upd (S.1 (S.2.2 u 3)) x1.toNatClampNeg x2)) (S.2.2 u 4) (upd ((va_up S.1 (S.2.2 u 3) (upd (S.1 (S.2.2 u 3)) x1.toNatClampNeg x2)) (S.2.2 u 4)) x1.toNatClampNeg x3)) u) 5 (i_max ((va_up (va_up S.1 (S.2.2 u 3) (upd (S.1 (S.2.2 u 3)) x1.toNatClampNeg x2)) (S.2.2 u 4) (upd ((va_up S.1 (S.2.2 u 3) (upd (S.1 (S.2.2 u 3)) x1.toNatClampNeg x2)) (S.2.2 u 4)) x1.toNatClampNeg x3)) u 5) x2))) u (upd ((va_up (va_up (va_up S.1 (S.2.2 u 3) (upd (S.1 (S.2.2 u 3)) x1.toNatClampNeg x2)) (S.2.2 u 4) (upd ((va_up S.1 (S.2.2 u 3) (upd (S.1 (S.2.2 u 3)) x1.toNatClampNeg x2)) (S.2.2 u 4)) x1.toNatClampNeg x3)) u (upd ((va_up (va_up S.1 (S.2.2 u 3) (upd (S.1 (S.2.2 u 3)) x1.toNatClampNeg x2)) (S.2.2 u 4) (upd ((va_up S.1 (S.2.2 u 3) (upd (S.1 (S.2.2 u 3)) x1.toNatClampNeg x2)) (S.2.2 u 4)) x1.toNatClampNeg x3)) u) 5 (i_max ((va_up (va_up S.1 (S.2.2 u 3) (upd (S.1 (S.2.2 u 3)) x1.toNatClampNeg x2)) (S.2.2 u 4) (upd ((va_up S.1 (S.2.2 u 3) (upd (S.1 (S.2.2 u 3)) x1.toNatClampNeg x2)) (S.2.2 u 4)) x1.toNatClampNeg x3)) u 5) x2))) u) 6 (i_max ((va_up (va_up (va_up S.1 (S.2.2 u 3) (upd (S.1 (S.2.2 u 3)) x1.toNatClampNeg x2)) (S.2.2 u 4) (upd ((va_up S.1 (S.2.2 u 3) (upd (S.1 (S.2.2 u 3)) x1.toNatClampNeg x2)) (S.2.2 u 4)) x1.toNatClampNeg x3)) u (upd ((va_up (va_up S.1 (S.2.2 u 3) (upd (S.1 (S.2.2 u 3)) x1.toNatClampNeg x2)) (S.2.2 u 4) (upd ((va_up S.1 (S.2.2 u 3) (upd (S.1 (S.2.2 u 3)) x1.toNatClampNeg x2)) (S.2.2 u 4)) x1.toNatClampNeg x3)) u) 5 (i_max ((va_up (va_up S.1 (S.2.2 u 3) (upd (S.1 (S.2.2 u 3)) x1.toNatClampNeg x2)) (S.2.2 u 4) (upd ((va_up S.1 (S.2.2 u 3) (upd (S.1 (S.2.2 u 3)) x1.toNatClampNeg x2)) (S.2.2 u 4)) x1.toNatClampNeg x3)) u 5) x2))) u 6) x3)), S.2.1, S.2.2))) rfl rfl rfl ?_
  exact a_vret C hQ hA dc_Pi_setFactors_38 rfl (Or.inl ⟨(va_up (va_up (va_up (va_up S.1 (S.2.2 u 3) (upd (S.1 (S.2.2 u 3)) x1.toNatClampNeg x2)) (S.2.2 u 4) (upd ((va_up S.1 (S.2.2 u 3) (upd (S.1 (S.2.2 u 3)) x1.toNatClampNeg x2)) (S.2.2 u 4)) x1.toNatClampNeg x3)) u (upd ((va_up (va_up S.1 (S.2.2 u 3) (upd (S.1 (S.2.2 u 3)) x1.toNatClampNeg x2)) (S.2.2 u 4) (upd ((va_up S.1 (S.2.2 u 3) (upd (S.1 (S.2.2 u 3)) x1.toNatClampNeg x2)) (S.2.2 u 4)) x1.toNatClampNeg x3)) u) 5 (i_max ((va_up (va_up S.1 (S.2.2 u 3) (upd (S.1 (S.2.2 u 3)) x1.toNatClampNeg x2)) (S.2.2 u 4) (upd ((va_up S.1 (S.2.2 u 3) (upd (S.1 (S.2.2 u 3)) x1.toNatClampNeg x2)) (S.2.2 u 4)) x1.toNatClampNeg x3)) u 5) x2))) u (upd ((va_up (va_up (va_up S.1 (S.2.2 u 3) (upd (S.1 (S.2.2 u 3)) x1.toNatClampNeg x2)) (S.2.2 u 4) (upd ((va_up S.1 (S.2.2 u 3) (upd (S.1 (S.2.2 u 3)) x1.toNatClampNeg x2)) (S.2.2 u 4)) x1.toNatClampNeg x3)) u (upd ((va_up (va_up S.1 (S.2.2 u 3) (upd (S.1 (S.2.2 u 3)) x1.toNatClampNeg x2)) (S.2.2 u 4) (upd ((va_up S.1 (S.2.2 u 3) (upd (S.1 (S.2.2 u 3)) x1.toNatClampNeg x2)) (S.2.2 u 4)) x1.toNatClampNeg x3)) u) 5 (i_max ((va_up (va_up S.1 (S.2.2 u 3) (upd (S.1 (S.2.2 u 3)) x1.toNatClampNeg x2)) (S.2.2 u 4) (upd ((va_up S.1 (S.2.2 u 3) (upd (S.1 (S.2.2 u 3)) x1.toNatClampNeg x2)) (S.2.2 u 4)) x1.toNatClampNeg x3)) u 5) x2))) u) 6 (i_max ((va_up (va_up (va_up S.1 (S.2.2 u 3) (upd (S.1 (S.2.2 u 3)) x1.toNatClampNeg x2)) (S.2.2 u 4) (upd ((va_up S.1 (S.2.2 u 3) (upd (S.1 (S.2.2 u 3)) x1.toNatClampNeg x2)) (S.2.2 u 4)) x1.toNatClampNeg x3)) u (upd ((va_up (va_up S.1 (S.2.2 u 3) (upd (S.1 (S.2.2 u 3)) x1.toNatClampNeg x2)) (S.2.2 u 4) (upd ((va_up S.1 (S.2.2 u 3) (upd (S.1 (S.2.2 u 3)) x1.toNatClampNeg x2)) (S.2.2 u 4)) x1.toNatClampNeg x3)) u) 5 (i_max ((va_up (va_up S.1 (S.2.2 u 3) (upd (S.1 (S.2.2 u 3)) x1.toNatClampNeg x2)) (S.2.2 u 4) (upd ((va_up S.1 (S.2.2 u 3) (upd (S.1 (S.2.2 u 3)) x1.toNatClampNeg x2)) (S.2.2 u 4)) x1.toNatClampNeg x3)) u 5) x2))) u 6) x3)), S.2.1, S.2.2), hp, rfl, rfl⟩)
end C_Pi_setFactors
section C_Pi_setFactorsc
variable {D : va_G} {z : Nat → ClassId} {U : ut} {oa : Nat → Nat}
set_option maxRecDepth 100000 in
theorem ct_Pi_setFactors {l : Launch} (u : Nat) (x1 : Int32) (x2 : Int32) (x3 : Int32) (S : cs) {K : cs → Prop} (hu : c_cl U u = 7) (hp : p_Pi_setFactors U u x1 x2 x3 S K) : ct gG D z l n_C_Pi_setFactors c_C_Pi_setFactors 4 (none) 1 100 [.ref (oa u), .int x1, .int x2, .int x3] (cw lt_C U oa S) 0 0 (pC_v lt_C U oa K (fun _ _ => False)) := by
  refine ct_of (lo := [some (.ref (oa u)), some (.int x1), some (.int x2), some (.int x3)]) (by decide) g_ok (Nat.le_of_ble_eq_true rfl) rfl ?_
  intro X A _ C hR hQ hA _
  exact s_Pi_setFactors_0 C hQ hA hR hu x1 x2 x3 S hp
end C_Pi_setFactorsc
def b_Pa_kindOf_9 (s0 : Int32) (K : Int32 → Prop) : Prop :=
  K s0
def p_Pa_kindOf (x0 : Int32) (K : Int32 → Prop) : Prop :=
  (¬ x0 = 0 → (b_Pa_kindOf_9 1 K)) ∧ (x0 = 0 → (b_Pa_kindOf_9 0 K))
section C_Pa_kindOf
variable {D : va_G} {z : Nat → ClassId} {A : Nat → Prop} {X : cx} {L0 : fw} {K : Int32 → Prop}
set_option maxRecDepth 100000 in
set_option maxHeartbeats 1000000 in
theorem s_Pa_kindOf_9 (C : fcx gG D z A X R_Pa c_C_Pa_kindOf 1 (some .int)) (hQ : X.2.2.2.2.2.2.2.2.2.2 = eQ gG D z X.2.2.2.2.2.2.2.1 X.2.2.2.2.1 L0 0 0 (pS_i K)) (hA : A = owA gG L0 X.2.2.2.2.1.heap.size) (hR : X.2.2.2.1 = { frames := 1, cells := 1, slots := 6, locals := 100 }) (s0 : Int32) (hp : b_Pa_kindOf_9 s0 K) : aw gG D z A X 1 9 [none] [.int s0] ([] : fw) 0 0 := by
  unfold b_Pa_kindOf_9 at hp
  exact a_iret (ty := .int) C hQ hA dc_Pa_kindOf_9 rfl rfl ⟨_, hp, rfl, rfl⟩
set_option maxRecDepth 100000 in
set_option maxHeartbeats 1000000 in
theorem s_Pa_kindOf_0 (C : fcx gG D z A X R_Pa c_C_Pa_kindOf 1 (some .int)) (hQ : X.2.2.2.2.2.2.2.2.2.2 = eQ gG D z X.2.2.2.2.2.2.2.1 X.2.2.2.2.1 L0 0 0 (pS_i K)) (hA : A = owA gG L0 X.2.2.2.2.1.heap.size) (hR : X.2.2.2.1 = { frames := 1, cells := 1, slots := 6, locals := 100 }) (x0 : Int32) (hp : p_Pa_kindOf x0 K) : aw gG D z A X 1 0 [some (.int x0)] [] ([] : fw) 0 0 := by
  unfold p_Pa_kindOf at hp
  refine a_iload_n C dc_Pa_kindOf_0 rfl rfl ?_
  refine a_if_ne (tgt := 8) C dc_Pa_kindOf_1 (by decide) ⟨fun hc => ?_, fun hc => ?_⟩
  · have hp := hp.1 hc
    refine a_iconst (v := 1) C dc_Pa_kindOf_8 (by decide) ?_
    refine aw_lo (lo' := [none]) ⟨.inl rfl, trivial⟩ ?_
    exact s_Pa_kindOf_9 C hQ hA hR 1  hp
  · have hp := hp.2 hc
    refine a_iconst (v := 0) C dc_Pa_kindOf_4 (by decide) ?_
    refine a_goto (tgt := 9) C dc_Pa_kindOf_5 (by decide) ?_
    refine aw_lo (lo' := [none]) ⟨.inl rfl, trivial⟩ ?_
    exact s_Pa_kindOf_9 C hQ hA hR 0  hp
end C_Pa_kindOf
section C_Pa_kindOfc
variable {D : va_G} {z : Nat → ClassId}
set_option maxRecDepth 100000 in
theorem ct_Pa_kindOf {l : Launch} (x0 : Int32) {K : Int32 → Prop} (hp : p_Pa_kindOf x0 K) : ct gG D z l n_C_Pa_kindOf c_C_Pa_kindOf 1 (some .int) 1 100 [.int x0] ([] : fw) 0 0 (pS_i K) := by
  refine ct_of (lo := [some (.int x0)]) (by decide) g_ok (Nat.le_of_ble_eq_true rfl) rfl ?_
  intro X A _ C hR hQ hA _
  exact s_Pa_kindOf_0 C hQ hA hR x0 hp
end C_Pa_kindOfc
def b_Sc_addLayer_42 (U : ut) (u : Nat)  (S : cs) (K : cs → Prop) : Prop :=
  K S
def p_Sc_addLayer (U : ut) (u : Nat) (x1 : Int32) (x2 : Int32) (x3 : Int32) (S : cs) (K : cs → Prop) : Prop :=
  (3 ≤ (S.1 u 0) → (b_Sc_addLayer_42 U u S K)) ∧ (¬ (3 ≤ (S.1 u 0)) → (¬ S.2.2 u 1 = NU ∧ (c_cl U (S.2.2 u 1) = 902 ∧ (vp_in (S.1 u 0) (c_ln U (S.2.2 u 1)) ∧ (¬ S.2.2 u 2 = NU ∧ (c_cl U (S.2.2 u 2) = 902 ∧ (vp_in x1 (c_ln U (S.2.2 u 2)) ∧ (¬ S.2.2 u 3 = NU ∧ (c_cl U (S.2.2 u 3) = 902 ∧ (vp_in x1 (c_ln U (S.2.2 u 3)) ∧ (b_Sc_addLayer_42 U u (va_up (va_up (va_up (va_up S.1 (S.2.2 u 1) (upd (S.1 (S.2.2 u 1)) (S.1 u 0).toNatClampNeg x1)) (S.2.2 u 2) (upd ((va_up S.1 (S.2.2 u 1) (upd (S.1 (S.2.2 u 1)) (S.1 u 0).toNatClampNeg x1)) (S.2.2 u 2)) x1.toNatClampNeg x2)) (S.2.2 u 3) (upd ((va_up (va_up S.1 (S.2.2 u 1) (upd (S.1 (S.2.2 u 1)) (S.1 u 0).toNatClampNeg x1)) (S.2.2 u 2) (upd ((va_up S.1 (S.2.2 u 1) (upd (S.1 (S.2.2 u 1)) (S.1 u 0).toNatClampNeg x1)) (S.2.2 u 2)) x1.toNatClampNeg x2)) (S.2.2 u 3)) x1.toNatClampNeg x3)) u (upd ((va_up (va_up (va_up S.1 (S.2.2 u 1) (upd (S.1 (S.2.2 u 1)) (S.1 u 0).toNatClampNeg x1)) (S.2.2 u 2) (upd ((va_up S.1 (S.2.2 u 1) (upd (S.1 (S.2.2 u 1)) (S.1 u 0).toNatClampNeg x1)) (S.2.2 u 2)) x1.toNatClampNeg x2)) (S.2.2 u 3) (upd ((va_up (va_up S.1 (S.2.2 u 1) (upd (S.1 (S.2.2 u 1)) (S.1 u 0).toNatClampNeg x1)) (S.2.2 u 2) (upd ((va_up S.1 (S.2.2 u 1) (upd (S.1 (S.2.2 u 1)) (S.1 u 0).toNatClampNeg x1)) (S.2.2 u 2)) x1.toNatClampNeg x2)) (S.2.2 u 3)) x1.toNatClampNeg x3)) u) 0 (((va_up (va_up (va_up S.1 (S.2.2 u 1) (upd (S.1 (S.2.2 u 1)) (S.1 u 0).toNatClampNeg x1)) (S.2.2 u 2) (upd ((va_up S.1 (S.2.2 u 1) (upd (S.1 (S.2.2 u 1)) (S.1 u 0).toNatClampNeg x1)) (S.2.2 u 2)) x1.toNatClampNeg x2)) (S.2.2 u 3) (upd ((va_up (va_up S.1 (S.2.2 u 1) (upd (S.1 (S.2.2 u 1)) (S.1 u 0).toNatClampNeg x1)) (S.2.2 u 2) (upd ((va_up S.1 (S.2.2 u 1) (upd (S.1 (S.2.2 u 1)) (S.1 u 0).toNatClampNeg x1)) (S.2.2 u 2)) x1.toNatClampNeg x2)) (S.2.2 u 3)) x1.toNatClampNeg x3)) u 0) + 1)), S.2.1, S.2.2) K)))))))))))
section C_Sc_addLayer
variable {D : va_G} {z : Nat → ClassId} {A : Nat → Prop} {X : cx} {L0 : fw} {U : ut} {oa : Nat → Nat} {u : Nat} {K : cs → Prop}
set_option maxRecDepth 100000 in
set_option maxHeartbeats 1000000 in
theorem s_Sc_addLayer_42 (C : fcx gG D z A X R_Sc c_C_Sc_addLayer 4 (none)) (hQ : X.2.2.2.2.2.2.2.2.2.2 = eQ gG D z X.2.2.2.2.2.2.2.1 X.2.2.2.2.1 L0 0 0 (pC_v lt_C U oa K (fun _ _ => False))) (hA : A = owA gG L0 X.2.2.2.2.1.heap.size) (hR : X.2.2.2.1 = { frames := 1, cells := 1, slots := 6, locals := 100 }) (hu : c_cl U u = 10)  (S : cs) (hp : b_Sc_addLayer_42 U u S K) : aw gG D z A X 4 42 [some (.ref (oa u)), none, none, none] [] (cw lt_C U oa S) 0 0 := by
  unfold b_Sc_addLayer_42 at hp
  exact a_vret C hQ hA dc_Sc_addLayer_42 rfl (Or.inl ⟨S, hp, rfl, rfl⟩)
set_option maxRecDepth 100000 in
set_option maxHeartbeats 1000000 in
theorem s_Sc_addLayer_0 (C : fcx gG D z A X R_Sc c_C_Sc_addLayer 4 (none)) (hQ : X.2.2.2.2.2.2.2.2.2.2 = eQ gG D z X.2.2.2.2.2.2.2.1 X.2.2.2.2.1 L0 0 0 (pC_v lt_C U oa K (fun _ _ => False))) (hA : A = owA gG L0 X.2.2.2.2.1.heap.size) (hR : X.2.2.2.1 = { frames := 1, cells := 1, slots := 6, locals := 100 }) (hu : c_cl U u = 10) (x1 : Int32) (x2 : Int32) (x3 : Int32) (S : cs) (hp : p_Sc_addLayer U u x1 x2 x3 S K) : aw gG D z A X 4 0 [some (.ref (oa u)), some (.int x1), some (.int x2), some (.int x3)] [] (cw lt_C U oa S) 0 0 := by
  unfold p_Sc_addLayer at hp
  refine a_aload_n C dc_Sc_addLayer_0 rfl rfl ?_
  refine c_getI C u 0 dc_Sc_addLayer_1 hu rfl rfl (Nat.le_of_ble_eq_true rfl) f_Sc_24 (Nat.le_of_ble_eq_true rfl) ?_
  refine a_iconst (v := 3) C dc_Sc_addLayer_4 (by decide) ?_
  refine a_icmp_ge (tgt := 42) C dc_Sc_addLayer_5 (by decide) ⟨fun hc => ?_, fun hc => ?_⟩
  · have hp := hp.1 hc
    refine aw_lo (lo' := [some (.ref (oa u)), none, none, none]) ⟨.inr rfl, .inl rfl, .inl rfl, .inl rfl, trivial⟩ ?_
    exact s_Sc_addLayer_42 C hQ hA hR hu S  hp
  · have hp := hp.2 hc
    refine a_aload_n C dc_Sc_addLayer_8 rfl rfl ?_
    refine c_getR C u 1 dc_Sc_addLayer_9 hu rfl rfl (Nat.le_of_ble_eq_true rfl) f_Sc_9 rfl hp.1 ?_
    have hp := hp.2
    refine a_aload_n C dc_Sc_addLayer_12 rfl rfl ?_
    refine c_getI C u 0 dc_Sc_addLayer_13 hu rfl rfl (Nat.le_of_ble_eq_true rfl) f_Sc_24 (Nat.le_of_ble_eq_true rfl) ?_
    refine a_iload_n C dc_Sc_addLayer_16 rfl rfl ?_
    have hc1 := hp.1
    have hp := hp.2
    refine c_iast C (S.2.2 u 1) dc_Sc_addLayer_17 hc1 hp.1 ?_
    have hp := hp.2
    refine aw_eq (lo' := _) (st' := _) (L' := (cw lt_C U oa (va_up S.1 (S.2.2 u 1) (upd (S.1 (S.2.2 u 1)) (S.1 u 0).toNatClampNeg x1), S.2.1, S.2.2))) rfl rfl rfl ?_
    refine a_aload_n C dc_Sc_addLayer_18 rfl rfl ?_
    refine c_getR C u 2 dc_Sc_addLayer_19 hu rfl rfl (Nat.le_of_ble_eq_true rfl) f_Sc_15 rfl hp.1 ?_
    have hp := hp.2
    refine a_iload_n C dc_Sc_addLayer_22 rfl rfl ?_
    refine a_iload_n C dc_Sc_addLayer_23 rfl rfl ?_
    have hc2 := hp.1
    have hp := hp.2
    refine c_iast C (S.2.2 u 2) dc_Sc_addLayer_24 hc2 hp.1 ?_
    have hp := hp.2
    refine aw_eq (lo' := _) (st' := _) (L' := (cw lt_C U oa (va_up (va_up S.1 (S.2.2 u 1) (upd (S.1 (S.2.2 u 1)) (S.1 u 0).toNatClampNeg x1)) (S.2.2 u 2) (upd ((va_up S.1 (S.2.2 u 1) (upd (S.1 (S.2.2 u 1)) (S.1 u 0).toNatClampNeg x1)) (S.2.2 u 2)) x1.toNatClampNeg x2), S.2.1, S.2.2))) rfl rfl rfl ?_
    refine a_aload_n C dc_Sc_addLayer_25 rfl rfl ?_
    refine c_getR C u 3 dc_Sc_addLayer_26 hu rfl rfl (Nat.le_of_ble_eq_true rfl) f_Sc_18 rfl hp.1 ?_
    have hp := hp.2
    refine a_iload_n C dc_Sc_addLayer_29 rfl rfl ?_
    refine a_iload_n C dc_Sc_addLayer_30 rfl rfl ?_
    have hc3 := hp.1
    have hp := hp.2
    refine c_iast C (S.2.2 u 3) dc_Sc_addLayer_31 hc3 hp.1 ?_
    have hp := hp.2
    refine aw_eq (lo' := _) (st' := _) (L' := (cw lt_C U oa (va_up (va_up (va_up S.1 (S.2.2 u 1) (upd (S.1 (S.2.2 u 1)) (S.1 u 0).toNatClampNeg x1)) (S.2.2 u 2) (upd ((va_up S.1 (S.2.2 u 1) (upd (S.1 (S.2.2 u 1)) (S.1 u 0).toNatClampNeg x1)) (S.2.2 u 2)) x1.toNatClampNeg x2)) (S.2.2 u 3) (upd ((va_up (va_up S.1 (S.2.2 u 1) (upd (S.1 (S.2.2 u 1)) (S.1 u 0).toNatClampNeg x1)) (S.2.2 u 2) (upd ((va_up S.1 (S.2.2 u 1) (upd (S.1 (S.2.2 u 1)) (S.1 u 0).toNatClampNeg x1)) (S.2.2 u 2)) x1.toNatClampNeg x2)) (S.2.2 u 3)) x1.toNatClampNeg x3), S.2.1, S.2.2))) rfl rfl rfl ?_
    refine a_aload_n C dc_Sc_addLayer_32 rfl rfl ?_
    refine a_dup C dc_Sc_addLayer_33 rfl ?_
    refine c_getI C u 0 dc_Sc_addLayer_34 hu rfl rfl (Nat.le_of_ble_eq_true rfl) f_Sc_24 (Nat.le_of_ble_eq_true rfl) ?_
    refine a_iconst (v := 1) C dc_Sc_addLayer_37 (by decide) ?_
    refine a_iadd C dc_Sc_addLayer_38 ?_
    refine c_putI (ty := .int) C u 0 dc_Sc_addLayer_39 hu rfl rfl (Nat.le_of_ble_eq_true rfl) f_Sc_24 (Nat.le_of_ble_eq_true rfl) rfl rfl rfl rfl ?_
    refine aw_eq (lo' := _) (st' := _) (L' := (cw lt_C U oa (va_up (va_up (va_up (va_up S.1 (S.2.2 u 1) (upd (S.1 (S.2.2 u 1)) (S.1 u 0).toNatClampNeg x1)) (S.2.2 u 2) (upd ((va_up S.1 (S.2.2 u 1) (upd (S.1 (S.2.2 u 1)) (S.1 u 0).toNatClampNeg x1)) (S.2.2 u 2)) x1.toNatClampNeg x2)) (S.2.2 u 3) (upd ((va_up (va_up S.1 (S.2.2 u 1) (upd (S.1 (S.2.2 u 1)) (S.1 u 0).toNatClampNeg x1)) (S.2.2 u 2) (upd ((va_up S.1 (S.2.2 u 1) (upd (S.1 (S.2.2 u 1)) (S.1 u 0).toNatClampNeg x1)) (S.2.2 u 2)) x1.toNatClampNeg x2)) (S.2.2 u 3)) x1.toNatClampNeg x3)) u (upd ((va_up (va_up (va_up S.1 (S.2.2 u 1) (upd (S.1 (S.2.2 u 1)) (S.1 u 0).toNatClampNeg x1)) (S.2.2 u 2) (upd ((va_up S.1 (S.2.2 u 1) (upd (S.1 (S.2.2 u 1)) (S.1 u 0).toNatClampNeg x1)) (S.2.2 u 2)) x1.toNatClampNeg x2)) (S.2.2 u 3) (upd ((va_up (va_up S.1 (S.2.2 u 1) (upd (S.1 (S.2.2 u 1)) (S.1 u 0).toNatClampNeg x1)) (S.2.2 u 2) (upd ((va_up S.1 (S.2.2 u 1) (upd (S.1 (S.2.2 u 1)) (S.1 u 0).toNatClampNeg x1)) (S.2.2 u 2)) x1.toNatClampNeg x2)) (S.2.2 u 3)) x1.toNatClampNeg x3)) u) 0 (((va_up (va_up (va_up S.1 (S.2.2 u 1) (upd (S.1 (S.2.2 u 1)) (S.1 u 0).toNatClampNeg x1)) (S.2.2 u 2) (upd ((va_up S.1 (S.2.2 u 1) (upd (S.1 (S.2.2 u 1)) (S.1 u 0).toNatClampNeg x1)) (S.2.2 u 2)) x1.toNatClampNeg x2)) (S.2.2 u 3) (upd ((va_up (va_up S.1 (S.2.2 u 1) (upd (S.1 (S.2.2 u 1)) (S.1 u 0).toNatClampNeg x1)) (S.2.2 u 2) (upd ((va_up S.1 (S.2.2 u 1) (upd (S.1 (S.2.2 u 1)) (S.1 u 0).toNatClampNeg x1)) (S.2.2 u 2)) x1.toNatClampNeg x2)) (S.2.2 u 3)) x1.toNatClampNeg x3)) u 0) + 1)), S.2.1, S.2.2))) rfl rfl rfl ?_
    refine aw_lo (lo' := [some (.ref (oa u)), none, none, none]) ⟨.inr rfl, .inl rfl, .inl rfl, .inl rfl, trivial⟩ ?_
    exact s_Sc_addLayer_42 C hQ hA hR hu (va_up (va_up (va_up (va_up S.1 (S.2.2 u 1) (upd (S.1 (S.2.2 u 1)) (S.1 u 0).toNatClampNeg x1)) (S.2.2 u 2) (upd ((va_up S.1 (S.2.2 u 1) (upd (S.1 (S.2.2 u 1)) (S.1 u 0).toNatClampNeg x1)) (S.2.2 u 2)) x1.toNatClampNeg x2)) (S.2.2 u 3) (upd ((va_up (va_up S.1 (S.2.2 u 1) (upd (S.1 (S.2.2 u 1)) (S.1 u 0).toNatClampNeg x1)) (S.2.2 u 2) (upd ((va_up S.1 (S.2.2 u 1) (upd (S.1 (S.2.2 u 1)) (S.1 u 0).toNatClampNeg x1)) (S.2.2 u 2)) x1.toNatClampNeg x2)) (S.2.2 u 3)) x1.toNatClampNeg x3)) u (upd ((va_up (va_up (va_up S.1 (S.2.2 u 1) (upd (S.1 (S.2.2 u 1)) (S.1 u 0).toNatClampNeg x1)) (S.2.2 u 2) (upd ((va_up S.1 (S.2.2 u 1) (upd (S.1 (S.2.2 u 1)) (S.1 u 0).toNatClampNeg x1)) (S.2.2 u 2)) x1.toNatClampNeg x2)) (S.2.2 u 3) (upd ((va_up (va_up S.1 (S.2.2 u 1) (upd (S.1 (S.2.2 u 1)) (S.1 u 0).toNatClampNeg x1)) (S.2.2 u 2) (upd ((va_up S.1 (S.2.2 u 1) (upd (S.1 (S.2.2 u 1)) (S.1 u 0).toNatClampNeg x1)) (S.2.2 u 2)) x1.toNatClampNeg x2)) (S.2.2 u 3)) x1.toNatClampNeg x3)) u) 0 (((va_up (va_up (va_up S.1 (S.2.2 u 1) (upd (S.1 (S.2.2 u 1)) (S.1 u 0).toNatClampNeg x1)) (S.2.2 u 2) (upd ((va_up S.1 (S.2.2 u 1) (upd (S.1 (S.2.2 u 1)) (S.1 u 0).toNatClampNeg x1)) (S.2.2 u 2)) x1.toNatClampNeg x2)) (S.2.2 u 3) (upd ((va_up (va_up S.1 (S.2.2 u 1) (upd (S.1 (S.2.2 u 1)) (S.1 u 0).toNatClampNeg x1)) (S.2.2 u 2) (upd ((va_up S.1 (S.2.2 u 1) (upd (S.1 (S.2.2 u 1)) (S.1 u 0).toNatClampNeg x1)) (S.2.2 u 2)) x1.toNatClampNeg x2)) (S.2.2 u 3)) x1.toNatClampNeg x3)) u 0) + 1)), S.2.1, S.2.2)  hp
end C_Sc_addLayer
section C_Sc_addLayerc
variable {D : va_G} {z : Nat → ClassId} {U : ut} {oa : Nat → Nat}
set_option maxRecDepth 100000 in
theorem ct_Sc_addLayer {l : Launch} (u : Nat) (x1 : Int32) (x2 : Int32) (x3 : Int32) (S : cs) {K : cs → Prop} (hu : c_cl U u = 10) (hp : p_Sc_addLayer U u x1 x2 x3 S K) : ct gG D z l n_C_Sc_addLayer c_C_Sc_addLayer 4 (none) 1 100 [.ref (oa u), .int x1, .int x2, .int x3] (cw lt_C U oa S) 0 0 (pC_v lt_C U oa K (fun _ _ => False)) := by
  refine ct_of (lo := [some (.ref (oa u)), some (.int x1), some (.int x2), some (.int x3)]) (by decide) g_ok (Nat.le_of_ble_eq_true rfl) rfl ?_
  intro X A _ C hR hQ hA _
  exact s_Sc_addLayer_0 C hQ hA hR hu x1 x2 x3 S hp
end C_Sc_addLayerc
def b_Pi_upward_16 (s0 : Int32) (K : Int32 → Prop) : Prop :=
  K s0
def p_Pi_upward (x0 : Int32) (x1 : Int32) (K : Int32 → Prop) : Prop :=
  (1 ≤ x1 → (¬ x1 = 0 ∧ (b_Pi_upward_16 (((x0 + x1) - 1) / x1) K))) ∧ (¬ (1 ≤ x1) → (b_Pi_upward_16 x0 K))
section C_Pi_upward
variable {D : va_G} {z : Nat → ClassId} {A : Nat → Prop} {X : cx} {L0 : fw} {K : Int32 → Prop}
set_option maxRecDepth 100000 in
set_option maxHeartbeats 1000000 in
theorem s_Pi_upward_16 (C : fcx gG D z A X R_Pi c_C_Pi_upward 2 (some .int)) (hQ : X.2.2.2.2.2.2.2.2.2.2 = eQ gG D z X.2.2.2.2.2.2.2.1 X.2.2.2.2.1 L0 0 0 (pS_i K)) (hA : A = owA gG L0 X.2.2.2.2.1.heap.size) (hR : X.2.2.2.1 = { frames := 1, cells := 1, slots := 6, locals := 100 }) (s0 : Int32) (hp : b_Pi_upward_16 s0 K) : aw gG D z A X 2 16 [none, none] [.int s0] ([] : fw) 0 0 := by
  unfold b_Pi_upward_16 at hp
  exact a_iret (ty := .int) C hQ hA dc_Pi_upward_16 rfl rfl ⟨_, hp, rfl, rfl⟩
set_option maxRecDepth 100000 in
set_option maxHeartbeats 1000000 in
theorem s_Pi_upward_0 (C : fcx gG D z A X R_Pi c_C_Pi_upward 2 (some .int)) (hQ : X.2.2.2.2.2.2.2.2.2.2 = eQ gG D z X.2.2.2.2.2.2.2.1 X.2.2.2.2.1 L0 0 0 (pS_i K)) (hA : A = owA gG L0 X.2.2.2.2.1.heap.size) (hR : X.2.2.2.1 = { frames := 1, cells := 1, slots := 6, locals := 100 }) (x0 : Int32) (x1 : Int32) (hp : p_Pi_upward x0 x1 K) : aw gG D z A X 2 0 [some (.int x0), some (.int x1)] [] ([] : fw) 0 0 := by
  unfold p_Pi_upward at hp
  refine a_iload_n C dc_Pi_upward_0 rfl rfl ?_
  refine a_iconst (v := 1) C dc_Pi_upward_1 (by decide) ?_
  refine a_icmp_ge (tgt := 9) C dc_Pi_upward_2 (by decide) ⟨fun hc => ?_, fun hc => ?_⟩
  · have hp := hp.1 hc
    refine a_iload_n C dc_Pi_upward_9 rfl rfl ?_
    refine a_iload_n C dc_Pi_upward_10 rfl rfl ?_
    refine a_iadd C dc_Pi_upward_11 ?_
    refine a_iconst (v := 1) C dc_Pi_upward_12 (by decide) ?_
    refine a_isub C dc_Pi_upward_13 ?_
    refine a_iload_n C dc_Pi_upward_14 rfl rfl ?_
    refine a_idiv C dc_Pi_upward_15 hp.1 ?_
    have hp := hp.2
    refine aw_lo (lo' := [none, none]) ⟨.inl rfl, .inl rfl, trivial⟩ ?_
    exact s_Pi_upward_16 C hQ hA hR (((x0 + x1) - 1) / x1)  hp
  · have hp := hp.2 hc
    refine a_iload_n C dc_Pi_upward_5 rfl rfl ?_
    refine a_goto (tgt := 16) C dc_Pi_upward_6 (by decide) ?_
    refine aw_lo (lo' := [none, none]) ⟨.inl rfl, .inl rfl, trivial⟩ ?_
    exact s_Pi_upward_16 C hQ hA hR x0  hp
end C_Pi_upward
section C_Pi_upwardc
variable {D : va_G} {z : Nat → ClassId}
set_option maxRecDepth 100000 in
theorem ct_Pi_upward {l : Launch} (x0 : Int32) (x1 : Int32) {K : Int32 → Prop} (hp : p_Pi_upward x0 x1 K) : ct gG D z l n_C_Pi_upward c_C_Pi_upward 2 (some .int) 1 100 [.int x0, .int x1] ([] : fw) 0 0 (pS_i K) := by
  refine ct_of (lo := [some (.int x0), some (.int x1)]) (by decide) g_ok (Nat.le_of_ble_eq_true rfl) rfl ?_
  intro X A _ C hR hQ hA _
  exact s_Pi_upward_0 C hQ hA hR x0 x1 hp
end C_Pi_upwardc
def b_Pi_measure_38 (U : ut) (u : Nat) (x1 : Int32) (S : cs) (R38 : Int32 → cs → Prop) (K : cs → Prop) : Prop :=
  ((S.1 u 2) ≤ x1 → (K S)) ∧ (¬ ((S.1 u 2) ≤ x1) → (¬ S.2.2 u 9 = NU ∧ (¬ S.2.2 u 3 = NU ∧ (c_cl U (S.2.2 u 3) = 902 ∧ (vp_in x1 (c_ln U (S.2.2 u 3)) ∧ (p_Pi_upward ((S.1 u 0) * (S.1 (S.2.2 u 3) x1.toNatClampNeg)) (S.1 u 5) (fun v66 => c_cl U (S.2.2 u 9) = 902 ∧ (vp_in x1 (c_ln U (S.2.2 u 9)) ∧ (¬ S.2.2 u 10 = NU ∧ (¬ S.2.2 u 4 = NU ∧ (c_cl U (S.2.2 u 4) = 902 ∧ (vp_in x1 (c_ln U (S.2.2 u 4)) ∧ (p_Pi_upward (((va_up S.1 (S.2.2 u 9) (upd (S.1 (S.2.2 u 9)) x1.toNatClampNeg v66)) u 1) * ((va_up S.1 (S.2.2 u 9) (upd (S.1 (S.2.2 u 9)) x1.toNatClampNeg v66)) (S.2.2 u 4) x1.toNatClampNeg)) ((va_up S.1 (S.2.2 u 9) (upd (S.1 (S.2.2 u 9)) x1.toNatClampNeg v66)) u 6) (fun v90 => c_cl U (S.2.2 u 10) = 902 ∧ (vp_in x1 (c_ln U (S.2.2 u 10)) ∧ (¬ S.2.2 u 11 = NU ∧ (¬ S.2.2 u 3 = NU ∧ (vp_in x1 (c_ln U (S.2.2 u 3)) ∧ (c_cl U (S.2.2 u 11) = 902 ∧ (vp_in x1 (c_ln U (S.2.2 u 11)) ∧ (¬ S.2.2 u 12 = NU ∧ (¬ S.2.2 u 11 = NU ∧ (vp_in x1 (c_ln U (S.2.2 u 11)) ∧ (¬ S.2.2 u 4 = NU ∧ (vp_in x1 (c_ln U (S.2.2 u 4)) ∧ (c_cl U (S.2.2 u 12) = 902 ∧ (vp_in x1 (c_ln U (S.2.2 u 12)) ∧ (R38 (x1 + 1) (va_up (va_up (va_up (va_up S.1 (S.2.2 u 9) (upd (S.1 (S.2.2 u 9)) x1.toNatClampNeg v66)) (S.2.2 u 10) (upd ((va_up S.1 (S.2.2 u 9) (upd (S.1 (S.2.2 u 9)) x1.toNatClampNeg v66)) (S.2.2 u 10)) x1.toNatClampNeg v90)) (S.2.2 u 11) (upd ((va_up (va_up S.1 (S.2.2 u 9) (upd (S.1 (S.2.2 u 9)) x1.toNatClampNeg v66)) (S.2.2 u 10) (upd ((va_up S.1 (S.2.2 u 9) (upd (S.1 (S.2.2 u 9)) x1.toNatClampNeg v66)) (S.2.2 u 10)) x1.toNatClampNeg v90)) (S.2.2 u 11)) x1.toNatClampNeg (((va_up (va_up S.1 (S.2.2 u 9) (upd (S.1 (S.2.2 u 9)) x1.toNatClampNeg v66)) (S.2.2 u 10) (upd ((va_up S.1 (S.2.2 u 9) (upd (S.1 (S.2.2 u 9)) x1.toNatClampNeg v66)) (S.2.2 u 10)) x1.toNatClampNeg v90)) (S.2.2 u 3) x1.toNatClampNeg) * ((va_up (va_up S.1 (S.2.2 u 9) (upd (S.1 (S.2.2 u 9)) x1.toNatClampNeg v66)) (S.2.2 u 10) (upd ((va_up S.1 (S.2.2 u 9) (upd (S.1 (S.2.2 u 9)) x1.toNatClampNeg v66)) (S.2.2 u 10)) x1.toNatClampNeg v90)) u 7)))) (S.2.2 u 12) (upd ((va_up (va_up (va_up S.1 (S.2.2 u 9) (upd (S.1 (S.2.2 u 9)) x1.toNatClampNeg v66)) (S.2.2 u 10) (upd ((va_up S.1 (S.2.2 u 9) (upd (S.1 (S.2.2 u 9)) x1.toNatClampNeg v66)) (S.2.2 u 10)) x1.toNatClampNeg v90)) (S.2.2 u 11) (upd ((va_up (va_up S.1 (S.2.2 u 9) (upd (S.1 (S.2.2 u 9)) x1.toNatClampNeg v66)) (S.2.2 u 10) (upd ((va_up S.1 (S.2.2 u 9) (upd (S.1 (S.2.2 u 9)) x1.toNatClampNeg v66)) (S.2.2 u 10)) x1.toNatClampNeg v90)) (S.2.2 u 11)) x1.toNatClampNeg (((va_up (va_up S.1 (S.2.2 u 9) (upd (S.1 (S.2.2 u 9)) x1.toNatClampNeg v66)) (S.2.2 u 10) (upd ((va_up S.1 (S.2.2 u 9) (upd (S.1 (S.2.2 u 9)) x1.toNatClampNeg v66)) (S.2.2 u 10)) x1.toNatClampNeg v90)) (S.2.2 u 3) x1.toNatClampNeg) * ((va_up (va_up S.1 (S.2.2 u 9) (upd (S.1 (S.2.2 u 9)) x1.toNatClampNeg v66)) (S.2.2 u 10) (upd ((va_up S.1 (S.2.2 u 9) (upd (S.1 (S.2.2 u 9)) x1.toNatClampNeg v66)) (S.2.2 u 10)) x1.toNatClampNeg v90)) u 7)))) (S.2.2 u 12)) x1.toNatClampNeg ((((va_up (va_up (va_up S.1 (S.2.2 u 9) (upd (S.1 (S.2.2 u 9)) x1.toNatClampNeg v66)) (S.2.2 u 10) (upd ((va_up S.1 (S.2.2 u 9) (upd (S.1 (S.2.2 u 9)) x1.toNatClampNeg v66)) (S.2.2 u 10)) x1.toNatClampNeg v90)) (S.2.2 u 11) (upd ((va_up (va_up S.1 (S.2.2 u 9) (upd (S.1 (S.2.2 u 9)) x1.toNatClampNeg v66)) (S.2.2 u 10) (upd ((va_up S.1 (S.2.2 u 9) (upd (S.1 (S.2.2 u 9)) x1.toNatClampNeg v66)) (S.2.2 u 10)) x1.toNatClampNeg v90)) (S.2.2 u 11)) x1.toNatClampNeg (((va_up (va_up S.1 (S.2.2 u 9) (upd (S.1 (S.2.2 u 9)) x1.toNatClampNeg v66)) (S.2.2 u 10) (upd ((va_up S.1 (S.2.2 u 9) (upd (S.1 (S.2.2 u 9)) x1.toNatClampNeg v66)) (S.2.2 u 10)) x1.toNatClampNeg v90)) (S.2.2 u 3) x1.toNatClampNeg) * ((va_up (va_up S.1 (S.2.2 u 9) (upd (S.1 (S.2.2 u 9)) x1.toNatClampNeg v66)) (S.2.2 u 10) (upd ((va_up S.1 (S.2.2 u 9) (upd (S.1 (S.2.2 u 9)) x1.toNatClampNeg v66)) (S.2.2 u 10)) x1.toNatClampNeg v90)) u 7)))) (S.2.2 u 11) x1.toNatClampNeg) * ((va_up (va_up (va_up S.1 (S.2.2 u 9) (upd (S.1 (S.2.2 u 9)) x1.toNatClampNeg v66)) (S.2.2 u 10) (upd ((va_up S.1 (S.2.2 u 9) (upd (S.1 (S.2.2 u 9)) x1.toNatClampNeg v66)) (S.2.2 u 10)) x1.toNatClampNeg v90)) (S.2.2 u 11) (upd ((va_up (va_up S.1 (S.2.2 u 9) (upd (S.1 (S.2.2 u 9)) x1.toNatClampNeg v66)) (S.2.2 u 10) (upd ((va_up S.1 (S.2.2 u 9) (upd (S.1 (S.2.2 u 9)) x1.toNatClampNeg v66)) (S.2.2 u 10)) x1.toNatClampNeg v90)) (S.2.2 u 11)) x1.toNatClampNeg (((va_up (va_up S.1 (S.2.2 u 9) (upd (S.1 (S.2.2 u 9)) x1.toNatClampNeg v66)) (S.2.2 u 10) (upd ((va_up S.1 (S.2.2 u 9) (upd (S.1 (S.2.2 u 9)) x1.toNatClampNeg v66)) (S.2.2 u 10)) x1.toNatClampNeg v90)) (S.2.2 u 3) x1.toNatClampNeg) * ((va_up (va_up S.1 (S.2.2 u 9) (upd (S.1 (S.2.2 u 9)) x1.toNatClampNeg v66)) (S.2.2 u 10) (upd ((va_up S.1 (S.2.2 u 9) (upd (S.1 (S.2.2 u 9)) x1.toNatClampNeg v66)) (S.2.2 u 10)) x1.toNatClampNeg v90)) u 7)))) (S.2.2 u 4) x1.toNatClampNeg)) * ((va_up (va_up (va_up S.1 (S.2.2 u 9) (upd (S.1 (S.2.2 u 9)) x1.toNatClampNeg v66)) (S.2.2 u 10) (upd ((va_up S.1 (S.2.2 u 9) (upd (S.1 (S.2.2 u 9)) x1.toNatClampNeg v66)) (S.2.2 u 10)) x1.toNatClampNeg v90)) (S.2.2 u 11) (upd ((va_up (va_up S.1 (S.2.2 u 9) (upd (S.1 (S.2.2 u 9)) x1.toNatClampNeg v66)) (S.2.2 u 10) (upd ((va_up S.1 (S.2.2 u 9) (upd (S.1 (S.2.2 u 9)) x1.toNatClampNeg v66)) (S.2.2 u 10)) x1.toNatClampNeg v90)) (S.2.2 u 11)) x1.toNatClampNeg (((va_up (va_up S.1 (S.2.2 u 9) (upd (S.1 (S.2.2 u 9)) x1.toNatClampNeg v66)) (S.2.2 u 10) (upd ((va_up S.1 (S.2.2 u 9) (upd (S.1 (S.2.2 u 9)) x1.toNatClampNeg v66)) (S.2.2 u 10)) x1.toNatClampNeg v90)) (S.2.2 u 3) x1.toNatClampNeg) * ((va_up (va_up S.1 (S.2.2 u 9) (upd (S.1 (S.2.2 u 9)) x1.toNatClampNeg v66)) (S.2.2 u 10) (upd ((va_up S.1 (S.2.2 u 9) (upd (S.1 (S.2.2 u 9)) x1.toNatClampNeg v66)) (S.2.2 u 10)) x1.toNatClampNeg v90)) u 7)))) u 8))), S.2.1, S.2.2)))))))))))))))))))))))))))))
def e_Pi_measure_38 (U : ut) (u : Nat) (x1 : Int32) (S : cs) (K : cs → Prop) : Prop :=
  ∃ (I : Int32 → cs → Prop) (μ : Int32 → cs → Nat), I x1 S ∧ ∀ yx1 yS, I yx1 yS → b_Pi_measure_38 U u yx1 yS (fun zx1 zS => I zx1 zS ∧ μ zx1 zS < μ yx1 yS) K
def p_Pi_measure (U : ut) (u : Nat)  (S : cs) (K : cs → Prop) : Prop :=
  p_Pi_upward (S.1 u 0) (8 * (S.1 u 5)) (fun v12 => p_Pi_upward ((va_up S.1 u (upd (S.1 u) 7 v12)) u 1) (8 * ((va_up S.1 u (upd (S.1 u) 7 v12)) u 6)) (fun v30 => e_Pi_measure_38 U u 0 (va_up (va_up S.1 u (upd (S.1 u) 7 v12)) u (upd ((va_up S.1 u (upd (S.1 u) 7 v12)) u) 8 v30), S.2.1, S.2.2) K))
section C_Pi_measure
variable {D : va_G} {z : Nat → ClassId} {A : Nat → Prop} {X : cx} {L0 : fw} {U : ut} {oa : Nat → Nat} {u : Nat} {K : cs → Prop}
set_option maxRecDepth 100000 in
set_option maxHeartbeats 1000000 in
theorem s_Pi_measure_38 (C : fcx gG D z A X R_Pi c_C_Pi_measure 2 (none)) (hQ : X.2.2.2.2.2.2.2.2.2.2 = eQ gG D z X.2.2.2.2.2.2.2.1 X.2.2.2.2.1 L0 0 0 (pC_v lt_C U oa K (fun _ _ => False))) (hA : A = owA gG L0 X.2.2.2.2.1.heap.size) (hR : X.2.2.2.1 = { frames := 2, cells := 1, slots := 6, locals := 200 }) (hu : c_cl U u = 7) (x1 : Int32) (S : cs) (R38 : Int32 → cs → Prop) (hR38 : ∀ yx1 yS, R38 yx1 yS → aw gG D z A X 2 38 [some (.ref (oa u)), some (.int yx1)] [] (cw lt_C U oa yS) 0 0) (hp : b_Pi_measure_38 U u x1 S R38 K) : aw gG D z A X 2 38 [some (.ref (oa u)), some (.int x1)] [] (cw lt_C U oa S) 0 0 := by
  unfold b_Pi_measure_38 at hp
  refine a_iload_n C dc_Pi_measure_38 rfl rfl ?_
  refine a_aload_n C dc_Pi_measure_39 rfl rfl ?_
  refine c_getI C u 2 dc_Pi_measure_40 hu rfl rfl (Nat.le_of_ble_eq_true rfl) f_Pi_18 (Nat.le_of_ble_eq_true rfl) ?_
  refine a_icmp_ge (tgt := 141) C dc_Pi_measure_43 (by decide) ⟨fun hc => ?_, fun hc => ?_⟩
  · have hp := hp.1 hc
    exact a_vret C hQ hA dc_Pi_measure_141 rfl (Or.inl ⟨S, hp, rfl, rfl⟩)
  · have hp := hp.2 hc
    refine a_aload_n C dc_Pi_measure_46 rfl rfl ?_
    refine c_getR C u 9 dc_Pi_measure_47 hu rfl rfl (Nat.le_of_ble_eq_true rfl) f_Pi_40 rfl hp.1 ?_
    have hp := hp.2
    refine a_iload_n C dc_Pi_measure_50 rfl rfl ?_
    refine a_aload_n C dc_Pi_measure_51 rfl rfl ?_
    refine c_getI C u 0 dc_Pi_measure_52 hu rfl rfl (Nat.le_of_ble_eq_true rfl) f_Pi_9 (Nat.le_of_ble_eq_true rfl) ?_
    refine a_aload_n C dc_Pi_measure_55 rfl rfl ?_
    refine c_getR C u 3 dc_Pi_measure_56 hu rfl rfl (Nat.le_of_ble_eq_true rfl) f_Pi_21 rfl hp.1 ?_
    have hp := hp.2
    refine a_iload_n C dc_Pi_measure_59 rfl rfl ?_
    have hc1 := hp.1
    have hp := hp.2
    refine c_iald C (S.2.2 u 3) dc_Pi_measure_60 hc1 hp.1 ?_
    have hp := hp.2
    refine a_imul C dc_Pi_measure_61 ?_
    refine a_aload_n C dc_Pi_measure_62 rfl rfl ?_
    refine c_getI C u 5 dc_Pi_measure_63 hu rfl rfl (Nat.le_of_ble_eq_true rfl) f_Pi_28 (Nat.le_of_ble_eq_true rfl) ?_
    refine a_callP (rest := [.int x1, .ref (oa (S.2.2 u 9))]) (av := [.int ((S.1 u 0) * (S.1 (S.2.2 u 3) x1.toNatClampNeg)), .int (S.1 u 5)]) C dc_Pi_measure_66 (ct_Pi_upward ((S.1 u 0) * (S.1 (S.2.2 u 3) x1.toNatClampNeg)) (S.1 u 5) hp) cd_C_Pi_upward i_Pi (Nat.le_of_ble_eq_true rfl) (by rw [hR]; exact Nat.le_of_ble_eq_true rfl) (by rw [hR]; exact Nat.le_of_ble_eq_true rfl) (by rw [hR]; exact Nat.le_of_ble_eq_true rfl) (by rw [hR]; exact Nat.le_of_ble_eq_true rfl) (inv_S C dc_Pi_measure_66 l_Pi_77 st_C_Pi_upward i_Pi cd_C_Pi_upward ⟨by decide, by decide⟩ ln_C_Pi_upward rfl) (fun v66 hp => ?_)
    refine aw_eq (lo' := _) (st' := [.int v66, .int x1, .ref (oa (S.2.2 u 9))]) (L' := (cw lt_C U oa S)) rfl rfl rfl ?_
    have hc2 := hp.1
    have hp := hp.2
    refine c_iast C (S.2.2 u 9) dc_Pi_measure_69 hc2 hp.1 ?_
    have hp := hp.2
    refine aw_eq (lo' := _) (st' := _) (L' := (cw lt_C U oa (va_up S.1 (S.2.2 u 9) (upd (S.1 (S.2.2 u 9)) x1.toNatClampNeg v66), S.2.1, S.2.2))) rfl rfl rfl ?_
    refine a_aload_n C dc_Pi_measure_70 rfl rfl ?_
    refine c_getR C u 10 dc_Pi_measure_71 hu rfl rfl (Nat.le_of_ble_eq_true rfl) f_Pi_43 rfl hp.1 ?_
    have hp := hp.2
    refine a_iload_n C dc_Pi_measure_74 rfl rfl ?_
    refine a_aload_n C dc_Pi_measure_75 rfl rfl ?_
    refine c_getI C u 1 dc_Pi_measure_76 hu rfl rfl (Nat.le_of_ble_eq_true rfl) f_Pi_15 (Nat.le_of_ble_eq_true rfl) ?_
    refine a_aload_n C dc_Pi_measure_79 rfl rfl ?_
    refine c_getR C u 4 dc_Pi_measure_80 hu rfl rfl (Nat.le_of_ble_eq_true rfl) f_Pi_25 rfl hp.1 ?_
    have hp := hp.2
    refine a_iload_n C dc_Pi_measure_83 rfl rfl ?_
    have hc3 := hp.1
    have hp := hp.2
    refine c_iald C (S.2.2 u 4) dc_Pi_measure_84 hc3 hp.1 ?_
    have hp := hp.2
    refine a_imul C dc_Pi_measure_85 ?_
    refine a_aload_n C dc_Pi_measure_86 rfl rfl ?_
    refine c_getI C u 6 dc_Pi_measure_87 hu rfl rfl (Nat.le_of_ble_eq_true rfl) f_Pi_31 (Nat.le_of_ble_eq_true rfl) ?_
    refine a_callP (rest := [.int x1, .ref (oa (S.2.2 u 10))]) (av := [.int (((va_up S.1 (S.2.2 u 9) (upd (S.1 (S.2.2 u 9)) x1.toNatClampNeg v66)) u 1) * ((va_up S.1 (S.2.2 u 9) (upd (S.1 (S.2.2 u 9)) x1.toNatClampNeg v66)) (S.2.2 u 4) x1.toNatClampNeg)), .int ((va_up S.1 (S.2.2 u 9) (upd (S.1 (S.2.2 u 9)) x1.toNatClampNeg v66)) u 6)]) C dc_Pi_measure_90 (ct_Pi_upward (((va_up S.1 (S.2.2 u 9) (upd (S.1 (S.2.2 u 9)) x1.toNatClampNeg v66)) u 1) * ((va_up S.1 (S.2.2 u 9) (upd (S.1 (S.2.2 u 9)) x1.toNatClampNeg v66)) (S.2.2 u 4) x1.toNatClampNeg)) ((va_up S.1 (S.2.2 u 9) (upd (S.1 (S.2.2 u 9)) x1.toNatClampNeg v66)) u 6) hp) cd_C_Pi_upward i_Pi (Nat.le_of_ble_eq_true rfl) (by rw [hR]; exact Nat.le_of_ble_eq_true rfl) (by rw [hR]; exact Nat.le_of_ble_eq_true rfl) (by rw [hR]; exact Nat.le_of_ble_eq_true rfl) (by rw [hR]; exact Nat.le_of_ble_eq_true rfl) (inv_S C dc_Pi_measure_90 l_Pi_77 st_C_Pi_upward i_Pi cd_C_Pi_upward ⟨by decide, by decide⟩ ln_C_Pi_upward rfl) (fun v90 hp => ?_)
    refine aw_eq (lo' := _) (st' := [.int v90, .int x1, .ref (oa (S.2.2 u 10))]) (L' := (cw lt_C U oa (va_up S.1 (S.2.2 u 9) (upd (S.1 (S.2.2 u 9)) x1.toNatClampNeg v66), S.2.1, S.2.2))) rfl rfl rfl ?_
    have hc4 := hp.1
    have hp := hp.2
    refine c_iast C (S.2.2 u 10) dc_Pi_measure_93 hc4 hp.1 ?_
    have hp := hp.2
    refine aw_eq (lo' := _) (st' := _) (L' := (cw lt_C U oa (va_up (va_up S.1 (S.2.2 u 9) (upd (S.1 (S.2.2 u 9)) x1.toNatClampNeg v66)) (S.2.2 u 10) (upd ((va_up S.1 (S.2.2 u 9) (upd (S.1 (S.2.2 u 9)) x1.toNatClampNeg v66)) (S.2.2 u 10)) x1.toNatClampNeg v90), S.2.1, S.2.2))) rfl rfl rfl ?_
    refine a_aload_n C dc_Pi_measure_94 rfl rfl ?_
    refine c_getR C u 11 dc_Pi_measure_95 hu rfl rfl (Nat.le_of_ble_eq_true rfl) f_Pi_46 rfl hp.1 ?_
    have hp := hp.2
    refine a_iload_n C dc_Pi_measure_98 rfl rfl ?_
    refine a_aload_n C dc_Pi_measure_99 rfl rfl ?_
    refine c_getR C u 3 dc_Pi_measure_100 hu rfl rfl (Nat.le_of_ble_eq_true rfl) f_Pi_21 rfl hp.1 ?_
    have hp := hp.2
    refine a_iload_n C dc_Pi_measure_103 rfl rfl ?_
    refine c_iald C (S.2.2 u 3) dc_Pi_measure_104 hc1 hp.1 ?_
    have hp := hp.2
    refine a_aload_n C dc_Pi_measure_105 rfl rfl ?_
    refine c_getI C u 7 dc_Pi_measure_106 hu rfl rfl (Nat.le_of_ble_eq_true rfl) f_Pi_34 (Nat.le_of_ble_eq_true rfl) ?_
    refine a_imul C dc_Pi_measure_109 ?_
    have hc5 := hp.1
    have hp := hp.2
    refine c_iast C (S.2.2 u 11) dc_Pi_measure_110 hc5 hp.1 ?_
    have hp := hp.2
    refine aw_eq (lo' := _) (st' := _) (L' := (cw lt_C U oa (va_up (va_up (va_up S.1 (S.2.2 u 9) (upd (S.1 (S.2.2 u 9)) x1.toNatClampNeg v66)) (S.2.2 u 10) (upd ((va_up S.1 (S.2.2 u 9) (upd (S.1 (S.2.2 u 9)) x1.toNatClampNeg v66)) (S.2.2 u 10)) x1.toNatClampNeg v90)) (S.2.2 u 11) (upd ((va_up (va_up S.1 (S.2.2 u 9) (upd (S.1 (S.2.2 u 9)) x1.toNatClampNeg v66)) (S.2.2 u 10) (upd ((va_up S.1 (S.2.2 u 9) (upd (S.1 (S.2.2 u 9)) x1.toNatClampNeg v66)) (S.2.2 u 10)) x1.toNatClampNeg v90)) (S.2.2 u 11)) x1.toNatClampNeg (((va_up (va_up S.1 (S.2.2 u 9) (upd (S.1 (S.2.2 u 9)) x1.toNatClampNeg v66)) (S.2.2 u 10) (upd ((va_up S.1 (S.2.2 u 9) (upd (S.1 (S.2.2 u 9)) x1.toNatClampNeg v66)) (S.2.2 u 10)) x1.toNatClampNeg v90)) (S.2.2 u 3) x1.toNatClampNeg) * ((va_up (va_up S.1 (S.2.2 u 9) (upd (S.1 (S.2.2 u 9)) x1.toNatClampNeg v66)) (S.2.2 u 10) (upd ((va_up S.1 (S.2.2 u 9) (upd (S.1 (S.2.2 u 9)) x1.toNatClampNeg v66)) (S.2.2 u 10)) x1.toNatClampNeg v90)) u 7))), S.2.1, S.2.2))) rfl rfl rfl ?_
    refine a_aload_n C dc_Pi_measure_111 rfl rfl ?_
    refine c_getR C u 12 dc_Pi_measure_112 hu rfl rfl (Nat.le_of_ble_eq_true rfl) f_Pi_49 rfl hp.1 ?_
    have hp := hp.2
    refine a_iload_n C dc_Pi_measure_115 rfl rfl ?_
    refine a_aload_n C dc_Pi_measure_116 rfl rfl ?_
    refine c_getR C u 11 dc_Pi_measure_117 hu rfl rfl (Nat.le_of_ble_eq_true rfl) f_Pi_46 rfl hp.1 ?_
    have hp := hp.2
    refine a_iload_n C dc_Pi_measure_120 rfl rfl ?_
    refine c_iald C (S.2.2 u 11) dc_Pi_measure_121 hc5 hp.1 ?_
    have hp := hp.2
    refine a_aload_n C dc_Pi_measure_122 rfl rfl ?_
    refine c_getR C u 4 dc_Pi_measure_123 hu rfl rfl (Nat.le_of_ble_eq_true rfl) f_Pi_25 rfl hp.1 ?_
    have hp := hp.2
    refine a_iload_n C dc_Pi_measure_126 rfl rfl ?_
    refine c_iald C (S.2.2 u 4) dc_Pi_measure_127 hc3 hp.1 ?_
    have hp := hp.2
    refine a_imul C dc_Pi_measure_128 ?_
    refine a_aload_n C dc_Pi_measure_129 rfl rfl ?_
    refine c_getI C u 8 dc_Pi_measure_130 hu rfl rfl (Nat.le_of_ble_eq_true rfl) f_Pi_37 (Nat.le_of_ble_eq_true rfl) ?_
    refine a_imul C dc_Pi_measure_133 ?_
    have hc6 := hp.1
    have hp := hp.2
    refine c_iast C (S.2.2 u 12) dc_Pi_measure_134 hc6 hp.1 ?_
    have hp := hp.2
    refine aw_eq (lo' := _) (st' := _) (L' := (cw lt_C U oa (va_up (va_up (va_up (va_up S.1 (S.2.2 u 9) (upd (S.1 (S.2.2 u 9)) x1.toNatClampNeg v66)) (S.2.2 u 10) (upd ((va_up S.1 (S.2.2 u 9) (upd (S.1 (S.2.2 u 9)) x1.toNatClampNeg v66)) (S.2.2 u 10)) x1.toNatClampNeg v90)) (S.2.2 u 11) (upd ((va_up (va_up S.1 (S.2.2 u 9) (upd (S.1 (S.2.2 u 9)) x1.toNatClampNeg v66)) (S.2.2 u 10) (upd ((va_up S.1 (S.2.2 u 9) (upd (S.1 (S.2.2 u 9)) x1.toNatClampNeg v66)) (S.2.2 u 10)) x1.toNatClampNeg v90)) (S.2.2 u 11)) x1.toNatClampNeg (((va_up (va_up S.1 (S.2.2 u 9) (upd (S.1 (S.2.2 u 9)) x1.toNatClampNeg v66)) (S.2.2 u 10) (upd ((va_up S.1 (S.2.2 u 9) (upd (S.1 (S.2.2 u 9)) x1.toNatClampNeg v66)) (S.2.2 u 10)) x1.toNatClampNeg v90)) (S.2.2 u 3) x1.toNatClampNeg) * ((va_up (va_up S.1 (S.2.2 u 9) (upd (S.1 (S.2.2 u 9)) x1.toNatClampNeg v66)) (S.2.2 u 10) (upd ((va_up S.1 (S.2.2 u 9) (upd (S.1 (S.2.2 u 9)) x1.toNatClampNeg v66)) (S.2.2 u 10)) x1.toNatClampNeg v90)) u 7)))) (S.2.2 u 12) (upd ((va_up (va_up (va_up S.1 (S.2.2 u 9) (upd (S.1 (S.2.2 u 9)) x1.toNatClampNeg v66)) (S.2.2 u 10) (upd ((va_up S.1 (S.2.2 u 9) (upd (S.1 (S.2.2 u 9)) x1.toNatClampNeg v66)) (S.2.2 u 10)) x1.toNatClampNeg v90)) (S.2.2 u 11) (upd ((va_up (va_up S.1 (S.2.2 u 9) (upd (S.1 (S.2.2 u 9)) x1.toNatClampNeg v66)) (S.2.2 u 10) (upd ((va_up S.1 (S.2.2 u 9) (upd (S.1 (S.2.2 u 9)) x1.toNatClampNeg v66)) (S.2.2 u 10)) x1.toNatClampNeg v90)) (S.2.2 u 11)) x1.toNatClampNeg (((va_up (va_up S.1 (S.2.2 u 9) (upd (S.1 (S.2.2 u 9)) x1.toNatClampNeg v66)) (S.2.2 u 10) (upd ((va_up S.1 (S.2.2 u 9) (upd (S.1 (S.2.2 u 9)) x1.toNatClampNeg v66)) (S.2.2 u 10)) x1.toNatClampNeg v90)) (S.2.2 u 3) x1.toNatClampNeg) * ((va_up (va_up S.1 (S.2.2 u 9) (upd (S.1 (S.2.2 u 9)) x1.toNatClampNeg v66)) (S.2.2 u 10) (upd ((va_up S.1 (S.2.2 u 9) (upd (S.1 (S.2.2 u 9)) x1.toNatClampNeg v66)) (S.2.2 u 10)) x1.toNatClampNeg v90)) u 7)))) (S.2.2 u 12)) x1.toNatClampNeg ((((va_up (va_up (va_up S.1 (S.2.2 u 9) (upd (S.1 (S.2.2 u 9)) x1.toNatClampNeg v66)) (S.2.2 u 10) (upd ((va_up S.1 (S.2.2 u 9) (upd (S.1 (S.2.2 u 9)) x1.toNatClampNeg v66)) (S.2.2 u 10)) x1.toNatClampNeg v90)) (S.2.2 u 11) (upd ((va_up (va_up S.1 (S.2.2 u 9) (upd (S.1 (S.2.2 u 9)) x1.toNatClampNeg v66)) (S.2.2 u 10) (upd ((va_up S.1 (S.2.2 u 9) (upd (S.1 (S.2.2 u 9)) x1.toNatClampNeg v66)) (S.2.2 u 10)) x1.toNatClampNeg v90)) (S.2.2 u 11)) x1.toNatClampNeg (((va_up (va_up S.1 (S.2.2 u 9) (upd (S.1 (S.2.2 u 9)) x1.toNatClampNeg v66)) (S.2.2 u 10) (upd ((va_up S.1 (S.2.2 u 9) (upd (S.1 (S.2.2 u 9)) x1.toNatClampNeg v66)) (S.2.2 u 10)) x1.toNatClampNeg v90)) (S.2.2 u 3) x1.toNatClampNeg) * ((va_up (va_up S.1 (S.2.2 u 9) (upd (S.1 (S.2.2 u 9)) x1.toNatClampNeg v66)) (S.2.2 u 10) (upd ((va_up S.1 (S.2.2 u 9) (upd (S.1 (S.2.2 u 9)) x1.toNatClampNeg v66)) (S.2.2 u 10)) x1.toNatClampNeg v90)) u 7)))) (S.2.2 u 11) x1.toNatClampNeg) * ((va_up (va_up (va_up S.1 (S.2.2 u 9) (upd (S.1 (S.2.2 u 9)) x1.toNatClampNeg v66)) (S.2.2 u 10) (upd ((va_up S.1 (S.2.2 u 9) (upd (S.1 (S.2.2 u 9)) x1.toNatClampNeg v66)) (S.2.2 u 10)) x1.toNatClampNeg v90)) (S.2.2 u 11) (upd ((va_up (va_up S.1 (S.2.2 u 9) (upd (S.1 (S.2.2 u 9)) x1.toNatClampNeg v66)) (S.2.2 u 10) (upd ((va_up S.1 (S.2.2 u 9) (upd (S.1 (S.2.2 u 9)) x1.toNatClampNeg v66)) (S.2.2 u 10)) x1.toNatClampNeg v90)) (S.2.2 u 11)) x1.toNatClampNeg (((va_up (va_up S.1 (S.2.2 u 9) (upd (S.1 (S.2.2 u 9)) x1.toNatClampNeg v66)) (S.2.2 u 10) (upd ((va_up S.1 (S.2.2 u 9) (upd (S.1 (S.2.2 u 9)) x1.toNatClampNeg v66)) (S.2.2 u 10)) x1.toNatClampNeg v90)) (S.2.2 u 3) x1.toNatClampNeg) * ((va_up (va_up S.1 (S.2.2 u 9) (upd (S.1 (S.2.2 u 9)) x1.toNatClampNeg v66)) (S.2.2 u 10) (upd ((va_up S.1 (S.2.2 u 9) (upd (S.1 (S.2.2 u 9)) x1.toNatClampNeg v66)) (S.2.2 u 10)) x1.toNatClampNeg v90)) u 7)))) (S.2.2 u 4) x1.toNatClampNeg)) * ((va_up (va_up (va_up S.1 (S.2.2 u 9) (upd (S.1 (S.2.2 u 9)) x1.toNatClampNeg v66)) (S.2.2 u 10) (upd ((va_up S.1 (S.2.2 u 9) (upd (S.1 (S.2.2 u 9)) x1.toNatClampNeg v66)) (S.2.2 u 10)) x1.toNatClampNeg v90)) (S.2.2 u 11) (upd ((va_up (va_up S.1 (S.2.2 u 9) (upd (S.1 (S.2.2 u 9)) x1.toNatClampNeg v66)) (S.2.2 u 10) (upd ((va_up S.1 (S.2.2 u 9) (upd (S.1 (S.2.2 u 9)) x1.toNatClampNeg v66)) (S.2.2 u 10)) x1.toNatClampNeg v90)) (S.2.2 u 11)) x1.toNatClampNeg (((va_up (va_up S.1 (S.2.2 u 9) (upd (S.1 (S.2.2 u 9)) x1.toNatClampNeg v66)) (S.2.2 u 10) (upd ((va_up S.1 (S.2.2 u 9) (upd (S.1 (S.2.2 u 9)) x1.toNatClampNeg v66)) (S.2.2 u 10)) x1.toNatClampNeg v90)) (S.2.2 u 3) x1.toNatClampNeg) * ((va_up (va_up S.1 (S.2.2 u 9) (upd (S.1 (S.2.2 u 9)) x1.toNatClampNeg v66)) (S.2.2 u 10) (upd ((va_up S.1 (S.2.2 u 9) (upd (S.1 (S.2.2 u 9)) x1.toNatClampNeg v66)) (S.2.2 u 10)) x1.toNatClampNeg v90)) u 7)))) u 8))), S.2.1, S.2.2))) rfl rfl rfl ?_
    refine a_iinc (v := x1 + 1) (lo' := [some (.ref (oa u)), some (.int (x1 + 1))]) C dc_Pi_measure_135 rfl rfl (by decide) rfl ?_
    refine a_goto (tgt := 38) C dc_Pi_measure_138 (by decide) ?_
    refine aw_lo (lo' := [some (.ref (oa u)), some (.int (x1 + 1))]) ⟨.inr rfl, .inr rfl, trivial⟩ ?_
    exact hR38 (x1 + 1) (va_up (va_up (va_up (va_up S.1 (S.2.2 u 9) (upd (S.1 (S.2.2 u 9)) x1.toNatClampNeg v66)) (S.2.2 u 10) (upd ((va_up S.1 (S.2.2 u 9) (upd (S.1 (S.2.2 u 9)) x1.toNatClampNeg v66)) (S.2.2 u 10)) x1.toNatClampNeg v90)) (S.2.2 u 11) (upd ((va_up (va_up S.1 (S.2.2 u 9) (upd (S.1 (S.2.2 u 9)) x1.toNatClampNeg v66)) (S.2.2 u 10) (upd ((va_up S.1 (S.2.2 u 9) (upd (S.1 (S.2.2 u 9)) x1.toNatClampNeg v66)) (S.2.2 u 10)) x1.toNatClampNeg v90)) (S.2.2 u 11)) x1.toNatClampNeg (((va_up (va_up S.1 (S.2.2 u 9) (upd (S.1 (S.2.2 u 9)) x1.toNatClampNeg v66)) (S.2.2 u 10) (upd ((va_up S.1 (S.2.2 u 9) (upd (S.1 (S.2.2 u 9)) x1.toNatClampNeg v66)) (S.2.2 u 10)) x1.toNatClampNeg v90)) (S.2.2 u 3) x1.toNatClampNeg) * ((va_up (va_up S.1 (S.2.2 u 9) (upd (S.1 (S.2.2 u 9)) x1.toNatClampNeg v66)) (S.2.2 u 10) (upd ((va_up S.1 (S.2.2 u 9) (upd (S.1 (S.2.2 u 9)) x1.toNatClampNeg v66)) (S.2.2 u 10)) x1.toNatClampNeg v90)) u 7)))) (S.2.2 u 12) (upd ((va_up (va_up (va_up S.1 (S.2.2 u 9) (upd (S.1 (S.2.2 u 9)) x1.toNatClampNeg v66)) (S.2.2 u 10) (upd ((va_up S.1 (S.2.2 u 9) (upd (S.1 (S.2.2 u 9)) x1.toNatClampNeg v66)) (S.2.2 u 10)) x1.toNatClampNeg v90)) (S.2.2 u 11) (upd ((va_up (va_up S.1 (S.2.2 u 9) (upd (S.1 (S.2.2 u 9)) x1.toNatClampNeg v66)) (S.2.2 u 10) (upd ((va_up S.1 (S.2.2 u 9) (upd (S.1 (S.2.2 u 9)) x1.toNatClampNeg v66)) (S.2.2 u 10)) x1.toNatClampNeg v90)) (S.2.2 u 11)) x1.toNatClampNeg (((va_up (va_up S.1 (S.2.2 u 9) (upd (S.1 (S.2.2 u 9)) x1.toNatClampNeg v66)) (S.2.2 u 10) (upd ((va_up S.1 (S.2.2 u 9) (upd (S.1 (S.2.2 u 9)) x1.toNatClampNeg v66)) (S.2.2 u 10)) x1.toNatClampNeg v90)) (S.2.2 u 3) x1.toNatClampNeg) * ((va_up (va_up S.1 (S.2.2 u 9) (upd (S.1 (S.2.2 u 9)) x1.toNatClampNeg v66)) (S.2.2 u 10) (upd ((va_up S.1 (S.2.2 u 9) (upd (S.1 (S.2.2 u 9)) x1.toNatClampNeg v66)) (S.2.2 u 10)) x1.toNatClampNeg v90)) u 7)))) (S.2.2 u 12)) x1.toNatClampNeg ((((va_up (va_up (va_up S.1 (S.2.2 u 9) (upd (S.1 (S.2.2 u 9)) x1.toNatClampNeg v66)) (S.2.2 u 10) (upd ((va_up S.1 (S.2.2 u 9) (upd (S.1 (S.2.2 u 9)) x1.toNatClampNeg v66)) (S.2.2 u 10)) x1.toNatClampNeg v90)) (S.2.2 u 11) (upd ((va_up (va_up S.1 (S.2.2 u 9) (upd (S.1 (S.2.2 u 9)) x1.toNatClampNeg v66)) (S.2.2 u 10) (upd ((va_up S.1 (S.2.2 u 9) (upd (S.1 (S.2.2 u 9)) x1.toNatClampNeg v66)) (S.2.2 u 10)) x1.toNatClampNeg v90)) (S.2.2 u 11)) x1.toNatClampNeg (((va_up (va_up S.1 (S.2.2 u 9) (upd (S.1 (S.2.2 u 9)) x1.toNatClampNeg v66)) (S.2.2 u 10) (upd ((va_up S.1 (S.2.2 u 9) (upd (S.1 (S.2.2 u 9)) x1.toNatClampNeg v66)) (S.2.2 u 10)) x1.toNatClampNeg v90)) (S.2.2 u 3) x1.toNatClampNeg) * ((va_up (va_up S.1 (S.2.2 u 9) (upd (S.1 (S.2.2 u 9)) x1.toNatClampNeg v66)) (S.2.2 u 10) (upd ((va_up S.1 (S.2.2 u 9) (upd (S.1 (S.2.2 u 9)) x1.toNatClampNeg v66)) (S.2.2 u 10)) x1.toNatClampNeg v90)) u 7)))) (S.2.2 u 11) x1.toNatClampNeg) * ((va_up (va_up (va_up S.1 (S.2.2 u 9) (upd (S.1 (S.2.2 u 9)) x1.toNatClampNeg v66)) (S.2.2 u 10) (upd ((va_up S.1 (S.2.2 u 9) (upd (S.1 (S.2.2 u 9)) x1.toNatClampNeg v66)) (S.2.2 u 10)) x1.toNatClampNeg v90)) (S.2.2 u 11) (upd ((va_up (va_up S.1 (S.2.2 u 9) (upd (S.1 (S.2.2 u 9)) x1.toNatClampNeg v66)) (S.2.2 u 10) (upd ((va_up S.1 (S.2.2 u 9) (upd (S.1 (S.2.2 u 9)) x1.toNatClampNeg v66)) (S.2.2 u 10)) x1.toNatClampNeg v90)) (S.2.2 u 11)) x1.toNatClampNeg (((va_up (va_up S.1 (S.2.2 u 9) (upd (S.1 (S.2.2 u 9)) x1.toNatClampNeg v66)) (S.2.2 u 10) (upd ((va_up S.1 (S.2.2 u 9) (upd (S.1 (S.2.2 u 9)) x1.toNatClampNeg v66)) (S.2.2 u 10)) x1.toNatClampNeg v90)) (S.2.2 u 3) x1.toNatClampNeg) * ((va_up (va_up S.1 (S.2.2 u 9) (upd (S.1 (S.2.2 u 9)) x1.toNatClampNeg v66)) (S.2.2 u 10) (upd ((va_up S.1 (S.2.2 u 9) (upd (S.1 (S.2.2 u 9)) x1.toNatClampNeg v66)) (S.2.2 u 10)) x1.toNatClampNeg v90)) u 7)))) (S.2.2 u 4) x1.toNatClampNeg)) * ((va_up (va_up (va_up S.1 (S.2.2 u 9) (upd (S.1 (S.2.2 u 9)) x1.toNatClampNeg v66)) (S.2.2 u 10) (upd ((va_up S.1 (S.2.2 u 9) (upd (S.1 (S.2.2 u 9)) x1.toNatClampNeg v66)) (S.2.2 u 10)) x1.toNatClampNeg v90)) (S.2.2 u 11) (upd ((va_up (va_up S.1 (S.2.2 u 9) (upd (S.1 (S.2.2 u 9)) x1.toNatClampNeg v66)) (S.2.2 u 10) (upd ((va_up S.1 (S.2.2 u 9) (upd (S.1 (S.2.2 u 9)) x1.toNatClampNeg v66)) (S.2.2 u 10)) x1.toNatClampNeg v90)) (S.2.2 u 11)) x1.toNatClampNeg (((va_up (va_up S.1 (S.2.2 u 9) (upd (S.1 (S.2.2 u 9)) x1.toNatClampNeg v66)) (S.2.2 u 10) (upd ((va_up S.1 (S.2.2 u 9) (upd (S.1 (S.2.2 u 9)) x1.toNatClampNeg v66)) (S.2.2 u 10)) x1.toNatClampNeg v90)) (S.2.2 u 3) x1.toNatClampNeg) * ((va_up (va_up S.1 (S.2.2 u 9) (upd (S.1 (S.2.2 u 9)) x1.toNatClampNeg v66)) (S.2.2 u 10) (upd ((va_up S.1 (S.2.2 u 9) (upd (S.1 (S.2.2 u 9)) x1.toNatClampNeg v66)) (S.2.2 u 10)) x1.toNatClampNeg v90)) u 7)))) u 8))), S.2.1, S.2.2) hp
set_option maxRecDepth 100000 in
set_option maxHeartbeats 1000000 in
theorem se_Pi_measure_38 (C : fcx gG D z A X R_Pi c_C_Pi_measure 2 (none)) (hQ : X.2.2.2.2.2.2.2.2.2.2 = eQ gG D z X.2.2.2.2.2.2.2.1 X.2.2.2.2.1 L0 0 0 (pC_v lt_C U oa K (fun _ _ => False))) (hA : A = owA gG L0 X.2.2.2.2.1.heap.size) (hR : X.2.2.2.1 = { frames := 2, cells := 1, slots := 6, locals := 200 }) (hu : c_cl U u = 7) (x1 : Int32) (S : cs) (hp : e_Pi_measure_38 U u x1 S K) : aw gG D z A X 2 38 [some (.ref (oa u)), some (.int x1)] [] (cw lt_C U oa S) 0 0 := by
  obtain ⟨I, μ, h0, hs⟩ := hp
  have key : ∀ (n : Nat) (yx1 : Int32) (yS : cs), μ yx1 yS < n → I yx1 yS → aw gG D z A X 2 38 [some (.ref (oa u)), some (.int yx1)] [] (cw lt_C U oa yS) 0 0 := by
    intro n
    induction n with
    | zero => intro yx1 yS h; omega
    | succ n ih =>
      intro yx1 yS hn hI
      exact s_Pi_measure_38 C hQ hA hR hu yx1 yS _ (fun zx1 zS hw => ih zx1 zS (by omega) hw.1) (hs yx1 yS hI)
  exact key (μ x1 S + 1) x1 S (Nat.lt_succ_self _) h0
set_option maxRecDepth 100000 in
set_option maxHeartbeats 1000000 in
theorem s_Pi_measure_0 (C : fcx gG D z A X R_Pi c_C_Pi_measure 2 (none)) (hQ : X.2.2.2.2.2.2.2.2.2.2 = eQ gG D z X.2.2.2.2.2.2.2.1 X.2.2.2.2.1 L0 0 0 (pC_v lt_C U oa K (fun _ _ => False))) (hA : A = owA gG L0 X.2.2.2.2.1.heap.size) (hR : X.2.2.2.1 = { frames := 2, cells := 1, slots := 6, locals := 200 }) (hu : c_cl U u = 7)  (S : cs) (hp : p_Pi_measure U u S K) : aw gG D z A X 2 0 [some (.ref (oa u)), none] [] (cw lt_C U oa S) 0 0 := by
  unfold p_Pi_measure at hp
  refine a_aload_n C dc_Pi_measure_0 rfl rfl ?_
  refine a_aload_n C dc_Pi_measure_1 rfl rfl ?_
  refine c_getI C u 0 dc_Pi_measure_2 hu rfl rfl (Nat.le_of_ble_eq_true rfl) f_Pi_9 (Nat.le_of_ble_eq_true rfl) ?_
  refine a_bipush (v := 8) C dc_Pi_measure_5 (by decide) ?_
  refine a_aload_n C dc_Pi_measure_7 rfl rfl ?_
  refine c_getI C u 5 dc_Pi_measure_8 hu rfl rfl (Nat.le_of_ble_eq_true rfl) f_Pi_28 (Nat.le_of_ble_eq_true rfl) ?_
  refine a_imul C dc_Pi_measure_11 ?_
  refine a_callP (rest := [.ref (oa u)]) (av := [.int (S.1 u 0), .int (8 * (S.1 u 5))]) C dc_Pi_measure_12 (ct_Pi_upward (S.1 u 0) (8 * (S.1 u 5)) hp) cd_C_Pi_upward i_Pi (Nat.le_of_ble_eq_true rfl) (by rw [hR]; exact Nat.le_of_ble_eq_true rfl) (by rw [hR]; exact Nat.le_of_ble_eq_true rfl) (by rw [hR]; exact Nat.le_of_ble_eq_true rfl) (by rw [hR]; exact Nat.le_of_ble_eq_true rfl) (inv_S C dc_Pi_measure_12 l_Pi_77 st_C_Pi_upward i_Pi cd_C_Pi_upward ⟨by decide, by decide⟩ ln_C_Pi_upward rfl) (fun v12 hp => ?_)
  refine aw_eq (lo' := _) (st' := [.int v12, .ref (oa u)]) (L' := (cw lt_C U oa S)) rfl rfl rfl ?_
  refine c_putI (ty := .int) C u 7 dc_Pi_measure_15 hu rfl rfl (Nat.le_of_ble_eq_true rfl) f_Pi_34 (Nat.le_of_ble_eq_true rfl) rfl rfl rfl rfl ?_
  refine aw_eq (lo' := _) (st' := _) (L' := (cw lt_C U oa (va_up S.1 u (upd (S.1 u) 7 v12), S.2.1, S.2.2))) rfl rfl rfl ?_
  refine a_aload_n C dc_Pi_measure_18 rfl rfl ?_
  refine a_aload_n C dc_Pi_measure_19 rfl rfl ?_
  refine c_getI C u 1 dc_Pi_measure_20 hu rfl rfl (Nat.le_of_ble_eq_true rfl) f_Pi_15 (Nat.le_of_ble_eq_true rfl) ?_
  refine a_bipush (v := 8) C dc_Pi_measure_23 (by decide) ?_
  refine a_aload_n C dc_Pi_measure_25 rfl rfl ?_
  refine c_getI C u 6 dc_Pi_measure_26 hu rfl rfl (Nat.le_of_ble_eq_true rfl) f_Pi_31 (Nat.le_of_ble_eq_true rfl) ?_
  refine a_imul C dc_Pi_measure_29 ?_
  refine a_callP (rest := [.ref (oa u)]) (av := [.int ((va_up S.1 u (upd (S.1 u) 7 v12)) u 1), .int (8 * ((va_up S.1 u (upd (S.1 u) 7 v12)) u 6))]) C dc_Pi_measure_30 (ct_Pi_upward ((va_up S.1 u (upd (S.1 u) 7 v12)) u 1) (8 * ((va_up S.1 u (upd (S.1 u) 7 v12)) u 6)) hp) cd_C_Pi_upward i_Pi (Nat.le_of_ble_eq_true rfl) (by rw [hR]; exact Nat.le_of_ble_eq_true rfl) (by rw [hR]; exact Nat.le_of_ble_eq_true rfl) (by rw [hR]; exact Nat.le_of_ble_eq_true rfl) (by rw [hR]; exact Nat.le_of_ble_eq_true rfl) (inv_S C dc_Pi_measure_30 l_Pi_77 st_C_Pi_upward i_Pi cd_C_Pi_upward ⟨by decide, by decide⟩ ln_C_Pi_upward rfl) (fun v30 hp => ?_)
  refine aw_eq (lo' := _) (st' := [.int v30, .ref (oa u)]) (L' := (cw lt_C U oa (va_up S.1 u (upd (S.1 u) 7 v12), S.2.1, S.2.2))) rfl rfl rfl ?_
  refine c_putI (ty := .int) C u 8 dc_Pi_measure_33 hu rfl rfl (Nat.le_of_ble_eq_true rfl) f_Pi_37 (Nat.le_of_ble_eq_true rfl) rfl rfl rfl rfl ?_
  refine aw_eq (lo' := _) (st' := _) (L' := (cw lt_C U oa (va_up (va_up S.1 u (upd (S.1 u) 7 v12)) u (upd ((va_up S.1 u (upd (S.1 u) 7 v12)) u) 8 v30), S.2.1, S.2.2))) rfl rfl rfl ?_
  refine a_iconst (v := 0) C dc_Pi_measure_36 (by decide) ?_
  refine a_istore_n (lo' := [some (.ref (oa u)), some (.int 0)]) C dc_Pi_measure_37 rfl (by decide) rfl ?_
  refine aw_lo (lo' := [some (.ref (oa u)), some (.int 0)]) ⟨.inr rfl, .inr rfl, trivial⟩ ?_
  exact se_Pi_measure_38 C hQ hA hR hu 0 (va_up (va_up S.1 u (upd (S.1 u) 7 v12)) u (upd ((va_up S.1 u (upd (S.1 u) 7 v12)) u) 8 v30), S.2.1, S.2.2)  hp
end C_Pi_measure
section C_Pi_measurec
variable {D : va_G} {z : Nat → ClassId} {U : ut} {oa : Nat → Nat}
set_option maxRecDepth 100000 in
theorem ct_Pi_measure {l : Launch} (u : Nat)  (S : cs) {K : cs → Prop} (hu : c_cl U u = 7) (hp : p_Pi_measure U u S K) : ct gG D z l n_C_Pi_measure c_C_Pi_measure 2 (none) 2 200 [.ref (oa u)] (cw lt_C U oa S) 0 0 (pC_v lt_C U oa K (fun _ _ => False)) := by
  refine ct_of (lo := [some (.ref (oa u)), none]) (by decide) g_ok (Nat.le_of_ble_eq_true rfl) rfl ?_
  intro X A _ C hR hQ hA _
  exact s_Pi_measure_0 C hQ hA hR hu S hp
end C_Pi_measurec
def b_Sc_addBlock_37 (U : ut) (u : Nat)  (S : cs) (K : cs → Prop) : Prop :=
  K S
def p_Sc_addBlock (U : ut) (u : Nat) (x1 : Int32) (x2 : Int32) (S : cs) (K : cs → Prop) : Prop :=
  ¬ S.2.2 u 7 = NU ∧ (c_cl U (S.2.2 u 7) = 902 ∧ (((nI (c_ln U (S.2.2 u 7))) ≤ (S.1 u 6) → (b_Sc_addBlock_37 U u S K)) ∧ (¬ ((nI (c_ln U (S.2.2 u 7))) ≤ (S.1 u 6)) → (¬ S.2.2 u 7 = NU ∧ (vp_in (S.1 u 6) (c_ln U (S.2.2 u 7)) ∧ (b_Sc_addBlock_37 U u (va_up (va_up S.1 (S.2.2 u 7) (upd (S.1 (S.2.2 u 7)) (S.1 u 6).toNatClampNeg ((64 * x1) + x2))) u (upd ((va_up S.1 (S.2.2 u 7) (upd (S.1 (S.2.2 u 7)) (S.1 u 6).toNatClampNeg ((64 * x1) + x2))) u) 6 (((va_up S.1 (S.2.2 u 7) (upd (S.1 (S.2.2 u 7)) (S.1 u 6).toNatClampNeg ((64 * x1) + x2))) u 6) + 1)), S.2.1, S.2.2) K))))))
section C_Sc_addBlock
variable {D : va_G} {z : Nat → ClassId} {A : Nat → Prop} {X : cx} {L0 : fw} {U : ut} {oa : Nat → Nat} {u : Nat} {K : cs → Prop}
set_option maxRecDepth 100000 in
set_option maxHeartbeats 1000000 in
theorem s_Sc_addBlock_37 (C : fcx gG D z A X R_Sc c_C_Sc_addBlock 3 (none)) (hQ : X.2.2.2.2.2.2.2.2.2.2 = eQ gG D z X.2.2.2.2.2.2.2.1 X.2.2.2.2.1 L0 0 0 (pC_v lt_C U oa K (fun _ _ => False))) (hA : A = owA gG L0 X.2.2.2.2.1.heap.size) (hR : X.2.2.2.1 = { frames := 1, cells := 1, slots := 6, locals := 100 }) (hu : c_cl U u = 10)  (S : cs) (hp : b_Sc_addBlock_37 U u S K) : aw gG D z A X 3 37 [some (.ref (oa u)), none, none] [] (cw lt_C U oa S) 0 0 := by
  unfold b_Sc_addBlock_37 at hp
  exact a_vret C hQ hA dc_Sc_addBlock_37 rfl (Or.inl ⟨S, hp, rfl, rfl⟩)
set_option maxRecDepth 100000 in
set_option maxHeartbeats 1000000 in
theorem s_Sc_addBlock_0 (C : fcx gG D z A X R_Sc c_C_Sc_addBlock 3 (none)) (hQ : X.2.2.2.2.2.2.2.2.2.2 = eQ gG D z X.2.2.2.2.2.2.2.1 X.2.2.2.2.1 L0 0 0 (pC_v lt_C U oa K (fun _ _ => False))) (hA : A = owA gG L0 X.2.2.2.2.1.heap.size) (hR : X.2.2.2.1 = { frames := 1, cells := 1, slots := 6, locals := 100 }) (hu : c_cl U u = 10) (x1 : Int32) (x2 : Int32) (S : cs) (hp : p_Sc_addBlock U u x1 x2 S K) : aw gG D z A X 3 0 [some (.ref (oa u)), some (.int x1), some (.int x2)] [] (cw lt_C U oa S) 0 0 := by
  unfold p_Sc_addBlock at hp
  refine a_aload_n C dc_Sc_addBlock_0 rfl rfl ?_
  refine c_getI C u 6 dc_Sc_addBlock_1 hu rfl rfl (Nat.le_of_ble_eq_true rfl) f_Sc_36 (Nat.le_of_ble_eq_true rfl) ?_
  refine a_aload_n C dc_Sc_addBlock_4 rfl rfl ?_
  refine c_getR C u 7 dc_Sc_addBlock_5 hu rfl rfl (Nat.le_of_ble_eq_true rfl) f_Sc_21 rfl hp.1 ?_
  have hp := hp.2
  have hc1 := hp.1
  have hp := hp.2
  refine c_alen C (S.2.2 u 7) dc_Sc_addBlock_8 hc1 ?_
  refine a_icmp_ge (tgt := 37) C dc_Sc_addBlock_9 (by decide) ⟨fun hc => ?_, fun hc => ?_⟩
  · have hp := hp.1 hc
    refine aw_lo (lo' := [some (.ref (oa u)), none, none]) ⟨.inr rfl, .inl rfl, .inl rfl, trivial⟩ ?_
    exact s_Sc_addBlock_37 C hQ hA hR hu S  hp
  · have hp := hp.2 hc
    refine a_aload_n C dc_Sc_addBlock_12 rfl rfl ?_
    refine c_getR C u 7 dc_Sc_addBlock_13 hu rfl rfl (Nat.le_of_ble_eq_true rfl) f_Sc_21 rfl hp.1 ?_
    have hp := hp.2
    refine a_aload_n C dc_Sc_addBlock_16 rfl rfl ?_
    refine c_getI C u 6 dc_Sc_addBlock_17 hu rfl rfl (Nat.le_of_ble_eq_true rfl) f_Sc_36 (Nat.le_of_ble_eq_true rfl) ?_
    refine a_bipush (v := 64) C dc_Sc_addBlock_20 (by decide) ?_
    refine a_iload_n C dc_Sc_addBlock_22 rfl rfl ?_
    refine a_imul C dc_Sc_addBlock_23 ?_
    refine a_iload_n C dc_Sc_addBlock_24 rfl rfl ?_
    refine a_iadd C dc_Sc_addBlock_25 ?_
    refine c_iast C (S.2.2 u 7) dc_Sc_addBlock_26 hc1 hp.1 ?_
    have hp := hp.2
    refine aw_eq (lo' := _) (st' := _) (L' := (cw lt_C U oa (va_up S.1 (S.2.2 u 7) (upd (S.1 (S.2.2 u 7)) (S.1 u 6).toNatClampNeg ((64 * x1) + x2)), S.2.1, S.2.2))) rfl rfl rfl ?_
    refine a_aload_n C dc_Sc_addBlock_27 rfl rfl ?_
    refine a_dup C dc_Sc_addBlock_28 rfl ?_
    refine c_getI C u 6 dc_Sc_addBlock_29 hu rfl rfl (Nat.le_of_ble_eq_true rfl) f_Sc_36 (Nat.le_of_ble_eq_true rfl) ?_
    refine a_iconst (v := 1) C dc_Sc_addBlock_32 (by decide) ?_
    refine a_iadd C dc_Sc_addBlock_33 ?_
    refine c_putI (ty := .int) C u 6 dc_Sc_addBlock_34 hu rfl rfl (Nat.le_of_ble_eq_true rfl) f_Sc_36 (Nat.le_of_ble_eq_true rfl) rfl rfl rfl rfl ?_
    refine aw_eq (lo' := _) (st' := _) (L' := (cw lt_C U oa (va_up (va_up S.1 (S.2.2 u 7) (upd (S.1 (S.2.2 u 7)) (S.1 u 6).toNatClampNeg ((64 * x1) + x2))) u (upd ((va_up S.1 (S.2.2 u 7) (upd (S.1 (S.2.2 u 7)) (S.1 u 6).toNatClampNeg ((64 * x1) + x2))) u) 6 (((va_up S.1 (S.2.2 u 7) (upd (S.1 (S.2.2 u 7)) (S.1 u 6).toNatClampNeg ((64 * x1) + x2))) u 6) + 1)), S.2.1, S.2.2))) rfl rfl rfl ?_
    refine aw_lo (lo' := [some (.ref (oa u)), none, none]) ⟨.inr rfl, .inl rfl, .inl rfl, trivial⟩ ?_
    exact s_Sc_addBlock_37 C hQ hA hR hu (va_up (va_up S.1 (S.2.2 u 7) (upd (S.1 (S.2.2 u 7)) (S.1 u 6).toNatClampNeg ((64 * x1) + x2))) u (upd ((va_up S.1 (S.2.2 u 7) (upd (S.1 (S.2.2 u 7)) (S.1 u 6).toNatClampNeg ((64 * x1) + x2))) u) 6 (((va_up S.1 (S.2.2 u 7) (upd (S.1 (S.2.2 u 7)) (S.1 u 6).toNatClampNeg ((64 * x1) + x2))) u 6) + 1)), S.2.1, S.2.2)  hp
end C_Sc_addBlock
section C_Sc_addBlockc
variable {D : va_G} {z : Nat → ClassId} {U : ut} {oa : Nat → Nat}
set_option maxRecDepth 100000 in
theorem ct_Sc_addBlock {l : Launch} (u : Nat) (x1 : Int32) (x2 : Int32) (S : cs) {K : cs → Prop} (hu : c_cl U u = 10) (hp : p_Sc_addBlock U u x1 x2 S K) : ct gG D z l n_C_Sc_addBlock c_C_Sc_addBlock 3 (none) 1 100 [.ref (oa u), .int x1, .int x2] (cw lt_C U oa S) 0 0 (pC_v lt_C U oa K (fun _ _ => False)) := by
  refine ct_of (lo := [some (.ref (oa u)), some (.int x1), some (.int x2)]) (by decide) g_ok (Nat.le_of_ble_eq_true rfl) rfl ?_
  intro X A _ C hR hQ hA _
  exact s_Sc_addBlock_0 C hQ hA hR hu x1 x2 S hp
end C_Sc_addBlockc
def b_Sc_arrangeAlone_18 (U : ut) (u : Nat) (x1 : Nat) (x2 : Int32) (x3 : Int32) (x4 : Int32) (S : cs) (R2 : Nat → Int32 → Int32 → cs → Prop) (R18 : Nat → Int32 → Int32 → Int32 → cs → Prop) (K : cs → Prop) : Prop :=
  c_cl U x1 = 7 ∧ (¬ S.2.2 x1 9 = NU ∧ (c_cl U (S.2.2 x1 9) = 902 ∧ (vp_in x2 (c_ln U (S.2.2 x1 9)) ∧ (((S.1 (S.2.2 x1 9) x2.toNatClampNeg) ≤ (8 * x4) → (R2 x1 x2 (x3 + 1) S)) ∧ (¬ ((S.1 (S.2.2 x1 9) x2.toNatClampNeg) ≤ (8 * x4)) → (¬ S.2.2 x1 11 = NU ∧ (c_cl U (S.2.2 x1 11) = 902 ∧ (vp_in x2 (c_ln U (S.2.2 x1 11)) ∧ (p_Sc_addBlock U u x2 ((x3 * (S.1 (S.2.2 x1 11) x2.toNatClampNeg)) + x4) S (fun S45 => R18 x1 x2 x3 (x4 + 1) S45))))))))))
def e_Sc_arrangeAlone_18 (U : ut) (u : Nat) (x1 : Nat) (x2 : Int32) (x3 : Int32) (x4 : Int32) (S : cs) (R2 : Nat → Int32 → Int32 → cs → Prop) (K : cs → Prop) : Prop :=
  ∃ (I : Nat → Int32 → Int32 → Int32 → cs → Prop) (μ : Nat → Int32 → Int32 → Int32 → cs → Nat), I x1 x2 x3 x4 S ∧ ∀ yx1 yx2 yx3 yx4 yS, I yx1 yx2 yx3 yx4 yS → b_Sc_arrangeAlone_18 U u yx1 yx2 yx3 yx4 yS R2 (fun zx1 zx2 zx3 zx4 zS => I zx1 zx2 zx3 zx4 zS ∧ μ zx1 zx2 zx3 zx4 zS < μ yx1 yx2 yx3 yx4 yS) K
def b_Sc_arrangeAlone_2 (U : ut) (u : Nat) (x1 : Nat) (x2 : Int32) (x3 : Int32) (S : cs) (R2 : Nat → Int32 → Int32 → cs → Prop) (K : cs → Prop) : Prop :=
  c_cl U x1 = 7 ∧ (¬ S.2.2 x1 10 = NU ∧ (c_cl U (S.2.2 x1 10) = 902 ∧ (vp_in x2 (c_ln U (S.2.2 x1 10)) ∧ (((S.1 (S.2.2 x1 10) x2.toNatClampNeg) ≤ (8 * x3) → (K S)) ∧ (¬ ((S.1 (S.2.2 x1 10) x2.toNatClampNeg) ≤ (8 * x3)) → (e_Sc_arrangeAlone_18 U u x1 x2 x3 0 S R2 K))))))
def e_Sc_arrangeAlone_2 (U : ut) (u : Nat) (x1 : Nat) (x2 : Int32) (x3 : Int32) (S : cs) (K : cs → Prop) : Prop :=
  ∃ (I : Nat → Int32 → Int32 → cs → Prop) (μ : Nat → Int32 → Int32 → cs → Nat), I x1 x2 x3 S ∧ ∀ yx1 yx2 yx3 yS, I yx1 yx2 yx3 yS → b_Sc_arrangeAlone_2 U u yx1 yx2 yx3 yS (fun zx1 zx2 zx3 zS => I zx1 zx2 zx3 zS ∧ μ zx1 zx2 zx3 zS < μ yx1 yx2 yx3 yS) K
def p_Sc_arrangeAlone (U : ut) (u : Nat) (x1 : Nat) (x2 : Int32) (S : cs) (K : cs → Prop) : Prop :=
  e_Sc_arrangeAlone_2 U u x1 x2 0 S K
section C_Sc_arrangeAlone
variable {D : va_G} {z : Nat → ClassId} {A : Nat → Prop} {X : cx} {L0 : fw} {U : ut} {oa : Nat → Nat} {u : Nat} {K : cs → Prop}
set_option maxRecDepth 100000 in
set_option maxHeartbeats 1000000 in
theorem s_Sc_arrangeAlone_18 (C : fcx gG D z A X R_Sc c_C_Sc_arrangeAlone 5 (none)) (hQ : X.2.2.2.2.2.2.2.2.2.2 = eQ gG D z X.2.2.2.2.2.2.2.1 X.2.2.2.2.1 L0 0 0 (pC_v lt_C U oa K (fun _ _ => False))) (hA : A = owA gG L0 X.2.2.2.2.1.heap.size) (hR : X.2.2.2.1 = { frames := 2, cells := 1, slots := 6, locals := 200 }) (hu : c_cl U u = 10) (x1 : Nat) (x2 : Int32) (x3 : Int32) (x4 : Int32) (S : cs) (R2 : Nat → Int32 → Int32 → cs → Prop) (hR2 : ∀ yx1 yx2 yx3 yS, R2 yx1 yx2 yx3 yS → aw gG D z A X 5 2 [some (.ref (oa u)), some (.ref (oa yx1)), some (.int yx2), some (.int yx3), none] [] (cw lt_C U oa yS) 0 0) (R18 : Nat → Int32 → Int32 → Int32 → cs → Prop) (hR18 : ∀ yx1 yx2 yx3 yx4 yS, R18 yx1 yx2 yx3 yx4 yS → aw gG D z A X 5 18 [some (.ref (oa u)), some (.ref (oa yx1)), some (.int yx2), some (.int yx3), some (.int yx4)] [] (cw lt_C U oa yS) 0 0) (hp : b_Sc_arrangeAlone_18 U u x1 x2 x3 x4 S R2 R18 K) : aw gG D z A X 5 18 [some (.ref (oa u)), some (.ref (oa x1)), some (.int x2), some (.int x3), some (.int x4)] [] (cw lt_C U oa S) 0 0 := by
  unfold b_Sc_arrangeAlone_18 at hp
  refine a_bipush (v := 8) C dc_Sc_arrangeAlone_18 (by decide) ?_
  refine a_iload C dc_Sc_arrangeAlone_20 rfl ?_
  refine a_imul C dc_Sc_arrangeAlone_22 ?_
  refine a_aload_n C dc_Sc_arrangeAlone_23 rfl rfl ?_
  have hc1 := hp.1
  have hp := hp.2
  refine c_getRN C x1 9 dc_Sc_arrangeAlone_24 hc1 rfl rfl (Nat.le_of_ble_eq_true rfl) f_Sc_60 rfl hp.1 ?_
  have hp := hp.2
  refine a_iload_n C dc_Sc_arrangeAlone_27 rfl rfl ?_
  have hc2 := hp.1
  have hp := hp.2
  refine c_iald C (S.2.2 x1 9) dc_Sc_arrangeAlone_28 hc2 hp.1 ?_
  have hp := hp.2
  refine a_icmp_ge (tgt := 54) C dc_Sc_arrangeAlone_29 (by decide) ⟨fun hc => ?_, fun hc => ?_⟩
  · have hp := hp.1 hc
    refine a_iinc (v := x3 + 1) (lo' := [some (.ref (oa u)), some (.ref (oa x1)), some (.int x2), some (.int (x3 + 1)), some (.int x4)]) C dc_Sc_arrangeAlone_54 rfl rfl (by decide) rfl ?_
    refine a_goto (tgt := 2) C dc_Sc_arrangeAlone_57 (by decide) ?_
    refine aw_lo (lo' := [some (.ref (oa u)), some (.ref (oa x1)), some (.int x2), some (.int (x3 + 1)), none]) ⟨.inr rfl, .inr rfl, .inr rfl, .inr rfl, .inl rfl, trivial⟩ ?_
    exact hR2 x1 x2 (x3 + 1) S hp
  · have hp := hp.2 hc
    refine a_aload_n C dc_Sc_arrangeAlone_32 rfl rfl ?_
    refine a_iload_n C dc_Sc_arrangeAlone_33 rfl rfl ?_
    refine a_iload_n C dc_Sc_arrangeAlone_34 rfl rfl ?_
    refine a_aload_n C dc_Sc_arrangeAlone_35 rfl rfl ?_
    refine c_getRN C x1 11 dc_Sc_arrangeAlone_36 hc1 rfl rfl (Nat.le_of_ble_eq_true rfl) f_Sc_63 rfl hp.1 ?_
    have hp := hp.2
    refine a_iload_n C dc_Sc_arrangeAlone_39 rfl rfl ?_
    have hc3 := hp.1
    have hp := hp.2
    refine c_iald C (S.2.2 x1 11) dc_Sc_arrangeAlone_40 hc3 hp.1 ?_
    have hp := hp.2
    refine a_imul C dc_Sc_arrangeAlone_41 ?_
    refine a_iload C dc_Sc_arrangeAlone_42 rfl ?_
    refine a_iadd C dc_Sc_arrangeAlone_44 ?_
    refine c_call (rest := []) (av := .ref (oa u) :: [.int x2, .int ((x3 * (S.1 (S.2.2 x1 11) x2.toNatClampNeg)) + x4)]) C dc_Sc_arrangeAlone_45 (ct_Sc_addBlock u x2 ((x3 * (S.1 (S.2.2 x1 11) x2.toNatClampNeg)) + x4) S hu hp) cd_C_Sc_addBlock i_Sc (Nat.le_of_ble_eq_true rfl) (by rw [hR]; exact Nat.le_of_ble_eq_true rfl) (by rw [hR]; exact Nat.le_of_ble_eq_true rfl) (by rw [hR]; exact Nat.le_of_ble_eq_true rfl) (by rw [hR]; exact Nat.le_of_ble_eq_true rfl) (inv_V C u dc_Sc_arrangeAlone_45 l_Sc_66 im_C_Sc_addBlock se_C_Sc_addBlock cd_C_Sc_addBlock ⟨by decide, by decide⟩ ln_C_Sc_addBlock rfl rfl (cw_obj hu rfl) rfl rfl) (fun oc L1 hL => ?_)
    obtain ⟨S45, hp, rfl, rfl⟩ := hL.resolve_right pC_no
    refine ⟨_, rfl, ?_⟩
    refine aw_eq (lo' := _) (st' := []) (L' := (cw lt_C U oa S45)) rfl rfl rfl ?_
    refine a_iinc (v := x4 + 1) (lo' := [some (.ref (oa u)), some (.ref (oa x1)), some (.int x2), some (.int x3), some (.int (x4 + 1))]) C dc_Sc_arrangeAlone_48 rfl rfl (by decide) rfl ?_
    refine a_goto (tgt := 18) C dc_Sc_arrangeAlone_51 (by decide) ?_
    refine aw_lo (lo' := [some (.ref (oa u)), some (.ref (oa x1)), some (.int x2), some (.int x3), some (.int (x4 + 1))]) ⟨.inr rfl, .inr rfl, .inr rfl, .inr rfl, .inr rfl, trivial⟩ ?_
    exact hR18 x1 x2 x3 (x4 + 1) S45 hp
set_option maxRecDepth 100000 in
set_option maxHeartbeats 1000000 in
theorem se_Sc_arrangeAlone_18 (C : fcx gG D z A X R_Sc c_C_Sc_arrangeAlone 5 (none)) (hQ : X.2.2.2.2.2.2.2.2.2.2 = eQ gG D z X.2.2.2.2.2.2.2.1 X.2.2.2.2.1 L0 0 0 (pC_v lt_C U oa K (fun _ _ => False))) (hA : A = owA gG L0 X.2.2.2.2.1.heap.size) (hR : X.2.2.2.1 = { frames := 2, cells := 1, slots := 6, locals := 200 }) (hu : c_cl U u = 10) (x1 : Nat) (x2 : Int32) (x3 : Int32) (x4 : Int32) (S : cs) (R2 : Nat → Int32 → Int32 → cs → Prop) (hR2 : ∀ yx1 yx2 yx3 yS, R2 yx1 yx2 yx3 yS → aw gG D z A X 5 2 [some (.ref (oa u)), some (.ref (oa yx1)), some (.int yx2), some (.int yx3), none] [] (cw lt_C U oa yS) 0 0) (hp : e_Sc_arrangeAlone_18 U u x1 x2 x3 x4 S R2 K) : aw gG D z A X 5 18 [some (.ref (oa u)), some (.ref (oa x1)), some (.int x2), some (.int x3), some (.int x4)] [] (cw lt_C U oa S) 0 0 := by
  obtain ⟨I, μ, h0, hs⟩ := hp
  have key : ∀ (n : Nat) (yx1 : Nat) (yx2 : Int32) (yx3 : Int32) (yx4 : Int32) (yS : cs), μ yx1 yx2 yx3 yx4 yS < n → I yx1 yx2 yx3 yx4 yS → aw gG D z A X 5 18 [some (.ref (oa u)), some (.ref (oa yx1)), some (.int yx2), some (.int yx3), some (.int yx4)] [] (cw lt_C U oa yS) 0 0 := by
    intro n
    induction n with
    | zero => intro yx1 yx2 yx3 yx4 yS h; omega
    | succ n ih =>
      intro yx1 yx2 yx3 yx4 yS hn hI
      exact s_Sc_arrangeAlone_18 C hQ hA hR hu yx1 yx2 yx3 yx4 yS R2 hR2 _ (fun zx1 zx2 zx3 zx4 zS hw => ih zx1 zx2 zx3 zx4 zS (by omega) hw.1) (hs yx1 yx2 yx3 yx4 yS hI)
  exact key (μ x1 x2 x3 x4 S + 1) x1 x2 x3 x4 S (Nat.lt_succ_self _) h0
set_option maxRecDepth 100000 in
set_option maxHeartbeats 1000000 in
theorem s_Sc_arrangeAlone_2 (C : fcx gG D z A X R_Sc c_C_Sc_arrangeAlone 5 (none)) (hQ : X.2.2.2.2.2.2.2.2.2.2 = eQ gG D z X.2.2.2.2.2.2.2.1 X.2.2.2.2.1 L0 0 0 (pC_v lt_C U oa K (fun _ _ => False))) (hA : A = owA gG L0 X.2.2.2.2.1.heap.size) (hR : X.2.2.2.1 = { frames := 2, cells := 1, slots := 6, locals := 200 }) (hu : c_cl U u = 10) (x1 : Nat) (x2 : Int32) (x3 : Int32) (S : cs) (R2 : Nat → Int32 → Int32 → cs → Prop) (hR2 : ∀ yx1 yx2 yx3 yS, R2 yx1 yx2 yx3 yS → aw gG D z A X 5 2 [some (.ref (oa u)), some (.ref (oa yx1)), some (.int yx2), some (.int yx3), none] [] (cw lt_C U oa yS) 0 0) (hp : b_Sc_arrangeAlone_2 U u x1 x2 x3 S R2 K) : aw gG D z A X 5 2 [some (.ref (oa u)), some (.ref (oa x1)), some (.int x2), some (.int x3), none] [] (cw lt_C U oa S) 0 0 := by
  unfold b_Sc_arrangeAlone_2 at hp
  refine a_bipush (v := 8) C dc_Sc_arrangeAlone_2 (by decide) ?_
  refine a_iload_n C dc_Sc_arrangeAlone_4 rfl rfl ?_
  refine a_imul C dc_Sc_arrangeAlone_5 ?_
  refine a_aload_n C dc_Sc_arrangeAlone_6 rfl rfl ?_
  have hc4 := hp.1
  have hp := hp.2
  refine c_getRN C x1 10 dc_Sc_arrangeAlone_7 hc4 rfl rfl (Nat.le_of_ble_eq_true rfl) f_Sc_57 rfl hp.1 ?_
  have hp := hp.2
  refine a_iload_n C dc_Sc_arrangeAlone_10 rfl rfl ?_
  have hc5 := hp.1
  have hp := hp.2
  refine c_iald C (S.2.2 x1 10) dc_Sc_arrangeAlone_11 hc5 hp.1 ?_
  have hp := hp.2
  refine a_icmp_ge (tgt := 60) C dc_Sc_arrangeAlone_12 (by decide) ⟨fun hc => ?_, fun hc => ?_⟩
  · have hp := hp.1 hc
    exact a_vret C hQ hA dc_Sc_arrangeAlone_60 rfl (Or.inl ⟨S, hp, rfl, rfl⟩)
  · have hp := hp.2 hc
    refine a_iconst (v := 0) C dc_Sc_arrangeAlone_15 (by decide) ?_
    refine a_istore (lo' := [some (.ref (oa u)), some (.ref (oa x1)), some (.int x2), some (.int x3), some (.int 0)]) C dc_Sc_arrangeAlone_16 (by decide) rfl ?_
    refine aw_lo (lo' := [some (.ref (oa u)), some (.ref (oa x1)), some (.int x2), some (.int x3), some (.int 0)]) ⟨.inr rfl, .inr rfl, .inr rfl, .inr rfl, .inr rfl, trivial⟩ ?_
    exact se_Sc_arrangeAlone_18 C hQ hA hR hu x1 x2 x3 0 S R2 hR2 hp
set_option maxRecDepth 100000 in
set_option maxHeartbeats 1000000 in
theorem se_Sc_arrangeAlone_2 (C : fcx gG D z A X R_Sc c_C_Sc_arrangeAlone 5 (none)) (hQ : X.2.2.2.2.2.2.2.2.2.2 = eQ gG D z X.2.2.2.2.2.2.2.1 X.2.2.2.2.1 L0 0 0 (pC_v lt_C U oa K (fun _ _ => False))) (hA : A = owA gG L0 X.2.2.2.2.1.heap.size) (hR : X.2.2.2.1 = { frames := 2, cells := 1, slots := 6, locals := 200 }) (hu : c_cl U u = 10) (x1 : Nat) (x2 : Int32) (x3 : Int32) (S : cs) (hp : e_Sc_arrangeAlone_2 U u x1 x2 x3 S K) : aw gG D z A X 5 2 [some (.ref (oa u)), some (.ref (oa x1)), some (.int x2), some (.int x3), none] [] (cw lt_C U oa S) 0 0 := by
  obtain ⟨I, μ, h0, hs⟩ := hp
  have key : ∀ (n : Nat) (yx1 : Nat) (yx2 : Int32) (yx3 : Int32) (yS : cs), μ yx1 yx2 yx3 yS < n → I yx1 yx2 yx3 yS → aw gG D z A X 5 2 [some (.ref (oa u)), some (.ref (oa yx1)), some (.int yx2), some (.int yx3), none] [] (cw lt_C U oa yS) 0 0 := by
    intro n
    induction n with
    | zero => intro yx1 yx2 yx3 yS h; omega
    | succ n ih =>
      intro yx1 yx2 yx3 yS hn hI
      exact s_Sc_arrangeAlone_2 C hQ hA hR hu yx1 yx2 yx3 yS _ (fun zx1 zx2 zx3 zS hw => ih zx1 zx2 zx3 zS (by omega) hw.1) (hs yx1 yx2 yx3 yS hI)
  exact key (μ x1 x2 x3 S + 1) x1 x2 x3 S (Nat.lt_succ_self _) h0
set_option maxRecDepth 100000 in
set_option maxHeartbeats 1000000 in
theorem s_Sc_arrangeAlone_0 (C : fcx gG D z A X R_Sc c_C_Sc_arrangeAlone 5 (none)) (hQ : X.2.2.2.2.2.2.2.2.2.2 = eQ gG D z X.2.2.2.2.2.2.2.1 X.2.2.2.2.1 L0 0 0 (pC_v lt_C U oa K (fun _ _ => False))) (hA : A = owA gG L0 X.2.2.2.2.1.heap.size) (hR : X.2.2.2.1 = { frames := 2, cells := 1, slots := 6, locals := 200 }) (hu : c_cl U u = 10) (x1 : Nat) (x2 : Int32) (S : cs) (hp : p_Sc_arrangeAlone U u x1 x2 S K) : aw gG D z A X 5 0 [some (.ref (oa u)), some (.ref (oa x1)), some (.int x2), none, none] [] (cw lt_C U oa S) 0 0 := by
  unfold p_Sc_arrangeAlone at hp
  refine a_iconst (v := 0) C dc_Sc_arrangeAlone_0 (by decide) ?_
  refine a_istore_n (lo' := [some (.ref (oa u)), some (.ref (oa x1)), some (.int x2), some (.int 0), none]) C dc_Sc_arrangeAlone_1 rfl (by decide) rfl ?_
  refine aw_lo (lo' := [some (.ref (oa u)), some (.ref (oa x1)), some (.int x2), some (.int 0), none]) ⟨.inr rfl, .inr rfl, .inr rfl, .inr rfl, .inr rfl, trivial⟩ ?_
  exact se_Sc_arrangeAlone_2 C hQ hA hR hu x1 x2 0 S  hp
end C_Sc_arrangeAlone
section C_Sc_arrangeAlonec
variable {D : va_G} {z : Nat → ClassId} {U : ut} {oa : Nat → Nat}
set_option maxRecDepth 100000 in
theorem ct_Sc_arrangeAlone {l : Launch} (u : Nat) (x1 : Nat) (x2 : Int32) (S : cs) {K : cs → Prop} (hu : c_cl U u = 10) (hp : p_Sc_arrangeAlone U u x1 x2 S K) : ct gG D z l n_C_Sc_arrangeAlone c_C_Sc_arrangeAlone 5 (none) 2 200 [.ref (oa u), .ref (oa x1), .int x2] (cw lt_C U oa S) 0 0 (pC_v lt_C U oa K (fun _ _ => False)) := by
  refine ct_of (lo := [some (.ref (oa u)), some (.ref (oa x1)), some (.int x2), none, none]) (by decide) g_ok (Nat.le_of_ble_eq_true rfl) rfl ?_
  intro X A _ C hR hQ hA _
  exact s_Sc_arrangeAlone_0 C hQ hA hR hu x1 x2 S hp
end C_Sc_arrangeAlonec
