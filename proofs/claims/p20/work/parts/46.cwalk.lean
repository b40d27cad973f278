def b_Pa_makeLevels_172 (U : ut) (u : Nat) (x2 : Nat) (x5 : Int32) (S : cs) (R172 : Nat → Int32 → cs → Prop) (K : cs → Prop) : Prop :=
  ¬ S.2.2 u 3 = NU ∧ (c_cl U (S.2.2 u 3) = 10 ∧ (((S.1 (S.2.2 u 3) 6) ≤ x5 → (K S)) ∧ (¬ ((S.1 (S.2.2 u 3) 6) ≤ x5) → (¬ S.2.2 u 3 = NU ∧ (¬ S.2.2 (S.2.2 u 3) 7 = NU ∧ (c_cl U (S.2.2 (S.2.2 u 3) 7) = 902 ∧ (vp_in x5 (c_ln U (S.2.2 (S.2.2 u 3) 7)) ∧ (p_Pa_makeBlock U u (S.1 (S.2.2 (S.2.2 u 3) 7) x5.toNatClampNeg) x2 S (fun S196 => R172 x2 (x5 + 1) S196)))))))))
def e_Pa_makeLevels_172 (U : ut) (u : Nat) (x2 : Nat) (x5 : Int32) (S : cs) (K : cs → Prop) : Prop :=
  ∃ (I : Nat → Int32 → cs → Prop) (μ : Nat → Int32 → cs → Nat), I x2 x5 S ∧ ∀ yx2 yx5 yS, I yx2 yx5 yS → b_Pa_makeLevels_172 U u yx2 yx5 yS (fun zx2 zx5 zS => I zx2 zx5 zS ∧ μ zx2 zx5 zS < μ yx2 yx5 yS) K
def b_Pa_makeLevels_144 (U : ut) (u : Nat) (x1 : Nat) (x2 : Nat) (x5 : Int32) (S : cs) (R144 : Nat → Nat → Int32 → cs → Prop) (K : cs → Prop) : Prop :=
  ¬ S.2.2 u 2 = NU ∧ (c_cl U (S.2.2 u 2) = 7 ∧ (((S.1 (S.2.2 u 2) 2) ≤ x5 → (e_Pa_makeLevels_172 U u x2 0 S K)) ∧ (¬ ((S.1 (S.2.2 u 2) 2) ≤ x5) → (p_Pa_makeLayer U u x1 x5 S (fun S160 => R144 x1 x2 (x5 + 1) S160)))))
def e_Pa_makeLevels_144 (U : ut) (u : Nat) (x1 : Nat) (x2 : Nat) (x5 : Int32) (S : cs) (K : cs → Prop) : Prop :=
  ∃ (I : Nat → Nat → Int32 → cs → Prop) (μ : Nat → Nat → Int32 → cs → Nat), I x1 x2 x5 S ∧ ∀ yx1 yx2 yx5 yS, I yx1 yx2 yx5 yS → b_Pa_makeLevels_144 U u yx1 yx2 yx5 yS (fun zx1 zx2 zx5 zS => I zx1 zx2 zx5 zS ∧ μ zx1 zx2 zx5 zS < μ yx1 yx2 yx5 yS) K
def b_Pa_makeLevels_86 (U : ut) (u : Nat) (x1 : Nat) (x2 : Nat) (x3 : Int32) (x4 : Int32) (x5 : Int32) (s0 : Nat) (s1 : Int32) (s2 : Int32) (s3 : Int32) (S : cs) (R47 : Nat → Nat → Int32 → Int32 → Int32 → cs → Prop) (K : cs → Prop) : Prop :=
  c_cl U s0 = 7 ∧ (p_Pi_setFactors U s0 s1 s2 s3 S (fun S86 => p_Pa_kindOf x5 (fun v91 => ¬ S86.2.2 u 3 = NU ∧ (c_cl U (S86.2.2 u 3) = 10 ∧ (p_Sc_addLayer U (S86.2.2 u 3) x5 v91 v91 S86 (fun S106 => R47 x1 x2 x3 x4 (x5 + 1) S106))))))
def b_Pa_makeLevels_75 (U : ut) (u : Nat) (x1 : Nat) (x2 : Nat) (x3 : Int32) (x4 : Int32) (x5 : Int32) (s0 : Nat) (s1 : Int32) (s2 : Int32) (S : cs) (R47 : Nat → Nat → Int32 → Int32 → Int32 → cs → Prop) (K : cs → Prop) : Prop :=
  (¬ x5 = 0 → (b_Pa_makeLevels_86 U u x1 x2 x3 x4 x5 s0 s1 s2 1 S R47 K)) ∧ (x5 = 0 → (b_Pa_makeLevels_86 U u x1 x2 x3 x4 x5 s0 s1 s2 x4 S R47 K))
def b_Pa_makeLevels_47 (U : ut) (u : Nat) (x1 : Nat) (x2 : Nat) (x3 : Int32) (x4 : Int32) (x5 : Int32) (S : cs) (R47 : Nat → Nat → Int32 → Int32 → Int32 → cs → Prop) (K : cs → Prop) : Prop :=
  ¬ S.2.2 u 2 = NU ∧ (c_cl U (S.2.2 u 2) = 7 ∧ (((S.1 (S.2.2 u 2) 2) ≤ x5 → (¬ S.2.2 u 2 = NU ∧ (p_Pi_measure U (S.2.2 u 2) S (fun S119 => ¬ S119.2.2 u 2 = NU ∧ (c_cl U (S119.2.2 u 2) = 7 ∧ (¬ S119.2.2 u 3 = NU ∧ (¬ S119.2.2 u 2 = NU ∧ (c_cl U (S119.2.2 u 3) = 10 ∧ (p_Sc_arrange U (S119.2.2 u 3) (S119.2.2 u 2) (va_up S119.1 (S119.2.2 u 2) (upd (S119.1 (S119.2.2 u 2)) 17 1), S119.2.1, S119.2.2) (fun S138 => e_Pa_makeLevels_144 U u x1 x2 0 S138 K)))))))))) ∧ (¬ ((S.1 (S.2.2 u 2) 2) ≤ x5) → (¬ S.2.2 u 2 = NU ∧ ((¬ x5 = 0 → (b_Pa_makeLevels_75 U u x1 x2 x3 x4 x5 (S.2.2 u 2) x5 1 S R47 K)) ∧ (x5 = 0 → (b_Pa_makeLevels_75 U u x1 x2 x3 x4 x5 (S.2.2 u 2) x5 x3 S R47 K)))))))
def e_Pa_makeLevels_47 (U : ut) (u : Nat) (x1 : Nat) (x2 : Nat) (x3 : Int32) (x4 : Int32) (x5 : Int32) (S : cs) (K : cs → Prop) : Prop :=
  ∃ (I : Nat → Nat → Int32 → Int32 → Int32 → cs → Prop) (μ : Nat → Nat → Int32 → Int32 → Int32 → cs → Nat), I x1 x2 x3 x4 x5 S ∧ ∀ yx1 yx2 yx3 yx4 yx5 yS, I yx1 yx2 yx3 yx4 yx5 yS → b_Pa_makeLevels_47 U u yx1 yx2 yx3 yx4 yx5 yS (fun zx1 zx2 zx3 zx4 zx5 zS => I zx1 zx2 zx3 zx4 zx5 zS ∧ μ zx1 zx2 zx3 zx4 zx5 zS < μ yx1 yx2 yx3 yx4 yx5 yS) K
def b_Pa_makeLevels_14 (U : ut) (u : Nat) (x1 : Nat) (x2 : Nat) (x3 : Int32) (x4 : Int32) (s1 : Int32) (S : cs) (K : cs → Prop) : Prop :=
  ¬ S.2.2 u 2 = NU ∧ (c_cl U x1 = 2 ∧ (c_cl U (S.2.2 u 2) = 7 ∧ (p_Pi_begin U (S.2.2 u 2) ((va_up S.1 u (upd (S.1 u) 8 s1)) x1 0) ((va_up S.1 u (upd (S.1 u) 8 s1)) x1 1) ((va_up S.1 u (upd (S.1 u) 8 s1)) x1 2) (va_up S.1 u (upd (S.1 u) 8 s1), S.2.1, S.2.2) (fun S33 => ¬ S33.2.2 u 3 = NU ∧ (c_cl U (S33.2.2 u 3) = 10 ∧ (e_Pa_makeLevels_47 U u x1 x2 x3 x4 0 (va_up S33.1 (S33.2.2 u 3) (upd (S33.1 (S33.2.2 u 3)) 0 0), S33.2.1, S33.2.2) K))))))
def p_Pa_makeLevels (U : ut) (u : Nat) (x1 : Nat) (x2 : Nat) (x3 : Int32) (x4 : Int32) (S : cs) (K : cs → Prop) : Prop :=
  c_cl U x1 = 2 ∧ ((¬ (S.1 x1 2) = 1 → (b_Pa_makeLevels_14 U u x1 x2 x3 x4 2 S K)) ∧ ((S.1 x1 2) = 1 → (b_Pa_makeLevels_14 U u x1 x2 x3 x4 1 S K)))
section C_Pa_makeLevels
variable {D : va_G} {z : Nat → ClassId} {A : Nat → Prop} {X : cx} {L0 : fw} {U : ut} {oa : Nat → Nat} {u : Nat} {K : cs → Prop}
set_option maxRecDepth 100000 in
set_option maxHeartbeats 1000000 in
theorem s_Pa_makeLevels_172 (C : fcx gG D z A X R_Pa c_C_Pa_makeLevels 7 (none)) (hQ : X.2.2.2.2.2.2.2.2.2.2 = eQ gG D z X.2.2.2.2.2.2.2.1 X.2.2.2.2.1 L0 0 0 (pC_v lt_C U oa K (fun _ _ => False))) (hA : A = owA gG L0 X.2.2.2.2.1.heap.size) (hR : X.2.2.2.1 = { frames := 5, cells := 1, slots := 6, locals := 500 }) (hu : c_cl U u = 6) (x2 : Nat) (x5 : Int32) (S : cs) (R172 : Nat → Int32 → cs → Prop) (hR172 : ∀ yx2 yx5 yS, R172 yx2 yx5 yS → aw gG D z A X 7 172 [some (.ref (oa u)), none, some (.ref (oa yx2)), none, none, some (.int yx5), none] [] (cw lt_C U oa yS) 0 0) (hp : b_Pa_makeLevels_172 U u x2 x5 S R172 K) : aw gG D z A X 7 172 [some (.ref (oa u)), none, some (.ref (oa x2)), none, none, some (.int x5), none] [] (cw lt_C U oa S) 0 0 := by
  unfold b_Pa_makeLevels_172 at hp
  refine a_iload C dc_Pa_makeLevels_172 rfl ?_
  refine a_aload_n C dc_Pa_makeLevels_174 rfl rfl ?_
  refine c_getR C u 3 dc_Pa_makeLevels_175 hu rfl rfl (Nat.le_of_ble_eq_true rfl) f_Pa_38 rfl hp.1 ?_
  have hp := hp.2
  have hc1 := hp.1
  have hp := hp.2
  refine c_getIN C (S.2.2 u 3) 6 dc_Pa_makeLevels_178 hc1 rfl rfl (Nat.le_of_ble_eq_true rfl) f_Pa_111 (Nat.le_of_ble_eq_true rfl) ?_
  refine a_icmp_ge (tgt := 205) C dc_Pa_makeLevels_181 (by decide) ⟨fun hc => ?_, fun hc => ?_⟩
  · have hp := hp.1 hc
    exact a_vret C hQ hA dc_Pa_makeLevels_205 rfl (Or.inl ⟨S, hp, rfl, rfl⟩)
  · have hp := hp.2 hc
    refine a_aload_n C dc_Pa_makeLevels_184 rfl rfl ?_
    refine a_aload_n C dc_Pa_makeLevels_185 rfl rfl ?_
    refine c_getR C u 3 dc_Pa_makeLevels_186 hu rfl rfl (Nat.le_of_ble_eq_true rfl) f_Pa_38 rfl hp.1 ?_
    have hp := hp.2
    refine c_getRN C (S.2.2 u 3) 7 dc_Pa_makeLevels_189 hc1 rfl rfl (Nat.le_of_ble_eq_true rfl) f_Pa_114 rfl hp.1 ?_
    have hp := hp.2
    refine a_iload C dc_Pa_makeLevels_192 rfl ?_
    have hc2 := hp.1
    have hp := hp.2
    refine c_iald C (S.2.2 (S.2.2 u 3) 7) dc_Pa_makeLevels_194 hc2 hp.1 ?_
    have hp := hp.2
    refine a_aload_n C dc_Pa_makeLevels_195 rfl rfl ?_
    refine c_call (rest := []) (av := .ref (oa u) :: [.int (S.1 (S.2.2 (S.2.2 u 3) 7) x5.toNatClampNeg), .ref (oa x2)]) C dc_Pa_makeLevels_196 (ct_Pa_makeBlock u (S.1 (S.2.2 (S.2.2 u 3) 7) x5.toNatClampNeg) x2 S hu hp) cd_C_Pa_makeBlock i_Pa (Nat.le_of_ble_eq_true rfl) (by rw [hR]; exact Nat.le_of_ble_eq_true rfl) (by rw [hR]; exact Nat.le_of_ble_eq_true rfl) (by rw [hR]; exact Nat.le_of_ble_eq_true rfl) (by rw [hR]; exact Nat.le_of_ble_eq_true rfl) (inv_V C u dc_Pa_makeLevels_196 l_Pa_117 im_C_Pa_makeBlock se_C_Pa_makeBlock cd_C_Pa_makeBlock ⟨by decide, by decide⟩ ln_C_Pa_makeBlock rfl rfl (cw_obj hu rfl) rfl rfl) (fun oc L1 hL => ?_)
    obtain ⟨S196, hp, rfl, rfl⟩ := hL.resolve_right pC_no
    refine ⟨_, rfl, ?_⟩
    refine aw_eq (lo' := _) (st' := []) (L' := (cw lt_C U oa S196)) rfl rfl rfl ?_
    refine a_iinc (v := x5 + 1) (lo' := [some (.ref (oa u)), none, some (.ref (oa x2)), none, none, some (.int (x5 + 1)), none]) C dc_Pa_makeLevels_199 rfl rfl (by decide) rfl ?_
    refine a_goto (tgt := 172) C dc_Pa_makeLevels_202 (by decide) ?_
    refine aw_lo (lo' := [some (.ref (oa u)), none, some (.ref (oa x2)), none, none, some (.int (x5 + 1)), none]) ⟨.inr rfl, .inr rfl, .inr rfl, .inr rfl, .inr rfl, .inr rfl, .inr rfl, trivial⟩ ?_
    exact hR172 x2 (x5 + 1) S196 hp
set_option maxRecDepth 100000 in
set_option maxHeartbeats 1000000 in
theorem se_Pa_makeLevels_172 (C : fcx gG D z A X R_Pa c_C_Pa_makeLevels 7 (none)) (hQ : X.2.2.2.2.2.2.2.2.2.2 = eQ gG D z X.2.2.2.2.2.2.2.1 X.2.2.2.2.1 L0 0 0 (pC_v lt_C U oa K (fun _ _ => False))) (hA : A = owA gG L0 X.2.2.2.2.1.heap.size) (hR : X.2.2.2.1 = { frames := 5, cells := 1, slots := 6, locals := 500 }) (hu : c_cl U u = 6) (x2 : Nat) (x5 : Int32) (S : cs) (hp : e_Pa_makeLevels_172 U u x2 x5 S K) : aw gG D z A X 7 172 [some (.ref (oa u)), none, some (.ref (oa x2)), none, none, some (.int x5), none] [] (cw lt_C U oa S) 0 0 := by
  obtain ⟨I, μ, h0, hs⟩ := hp
  have key : ∀ (n : Nat) (yx2 : Nat) (yx5 : Int32) (yS : cs), μ yx2 yx5 yS < n → I yx2 yx5 yS → aw gG D z A X 7 172 [some (.ref (oa u)), none, some (.ref (oa yx2)), none, none, some (.int yx5), none] [] (cw lt_C U oa yS) 0 0 := by
    intro n
    induction n with
    | zero => intro yx2 yx5 yS h; omega
    | succ n ih =>
      intro yx2 yx5 yS hn hI
      exact s_Pa_makeLevels_172 C hQ hA hR hu yx2 yx5 yS _ (fun zx2 zx5 zS hw => ih zx2 zx5 zS (by omega) hw.1) (hs yx2 yx5 yS hI)
  exact key (μ x2 x5 S + 1) x2 x5 S (Nat.lt_succ_self _) h0
set_option maxRecDepth 100000 in
set_option maxHeartbeats 1000000 in
theorem s_Pa_makeLevels_144 (C : fcx gG D z A X R_Pa c_C_Pa_makeLevels 7 (none)) (hQ : X.2.2.2.2.2.2.2.2.2.2 = eQ gG D z X.2.2.2.2.2.2.2.1 X.2.2.2.2.1 L0 0 0 (pC_v lt_C U oa K (fun _ _ => False))) (hA : A = owA gG L0 X.2.2.2.2.1.heap.size) (hR : X.2.2.2.1 = { frames := 5, cells := 1, slots := 6, locals := 500 }) (hu : c_cl U u = 6) (x1 : Nat) (x2 : Nat) (x5 : Int32) (S : cs) (R144 : Nat → Nat → Int32 → cs → Prop) (hR144 : ∀ yx1 yx2 yx5 yS, R144 yx1 yx2 yx5 yS → aw gG D z A X 7 144 [some (.ref (oa u)), some (.ref (oa yx1)), some (.ref (oa yx2)), none, none, some (.int yx5), none] [] (cw lt_C U oa yS) 0 0) (hp : b_Pa_makeLevels_144 U u x1 x2 x5 S R144 K) : aw gG D z A X 7 144 [some (.ref (oa u)), some (.ref (oa x1)), some (.ref (oa x2)), none, none, some (.int x5), none] [] (cw lt_C U oa S) 0 0 := by
  unfold b_Pa_makeLevels_144 at hp
  refine a_iload C dc_Pa_makeLevels_144 rfl ?_
  refine a_aload_n C dc_Pa_makeLevels_146 rfl rfl ?_
  refine c_getR C u 2 dc_Pa_makeLevels_147 hu rfl rfl (Nat.le_of_ble_eq_true rfl) f_Pa_31 rfl hp.1 ?_
  have hp := hp.2
  have hc3 := hp.1
  have hp := hp.2
  refine c_getIN C (S.2.2 u 2) 2 dc_Pa_makeLevels_150 hc3 rfl rfl (Nat.le_of_ble_eq_true rfl) f_Pa_85 (Nat.le_of_ble_eq_true rfl) ?_
  refine a_icmp_ge (tgt := 169) C dc_Pa_makeLevels_153 (by decide) ⟨fun hc => ?_, fun hc => ?_⟩
  · have hp := hp.1 hc
    refine a_iconst (v := 0) C dc_Pa_makeLevels_169 (by decide) ?_
    refine a_istore (lo' := [some (.ref (oa u)), some (.ref (oa x1)), some (.ref (oa x2)), none, none, some (.int 0), none]) C dc_Pa_makeLevels_170 (by decide) rfl ?_
    refine aw_lo (lo' := [some (.ref (oa u)), none, some (.ref (oa x2)), none, none, some (.int 0), none]) ⟨.inr rfl, .inl rfl, .inr rfl, .inr rfl, .inr rfl, .inr rfl, .inr rfl, trivial⟩ ?_
    exact se_Pa_makeLevels_172 C hQ hA hR hu x2 0 S  hp
  · have hp := hp.2 hc
    refine a_aload_n C dc_Pa_makeLevels_156 rfl rfl ?_
    refine a_aload_n C dc_Pa_makeLevels_157 rfl rfl ?_
    refine a_iload C dc_Pa_makeLevels_158 rfl ?_
    refine c_call (rest := []) (av := .ref (oa u) :: [.ref (oa x1), .int x5]) C dc_Pa_makeLevels_160 (ct_Pa_makeLayer u x1 x5 S hu hp) cd_C_Pa_makeLayer i_Pa (Nat.le_of_ble_eq_true rfl) (by rw [hR]; exact Nat.le_of_ble_eq_true rfl) (by rw [hR]; exact Nat.le_of_ble_eq_true rfl) (by rw [hR]; exact Nat.le_of_ble_eq_true rfl) (by rw [hR]; exact Nat.le_of_ble_eq_true rfl) (inv_V C u dc_Pa_makeLevels_160 l_Pa_107 im_C_Pa_makeLayer se_C_Pa_makeLayer cd_C_Pa_makeLayer ⟨by decide, by decide⟩ ln_C_Pa_makeLayer rfl rfl (cw_obj hu rfl) rfl rfl) (fun oc L1 hL => ?_)
    obtain ⟨S160, hp, rfl, rfl⟩ := hL.resolve_right pC_no
    refine ⟨_, rfl, ?_⟩
    refine aw_eq (lo' := _) (st' := []) (L' := (cw lt_C U oa S160)) rfl rfl rfl ?_
    refine a_iinc (v := x5 + 1) (lo' := [some (.ref (oa u)), some (.ref (oa x1)), some (.ref (oa x2)), none, none, some (.int (x5 + 1)), none]) C dc_Pa_makeLevels_163 rfl rfl (by decide) rfl ?_
    refine a_goto (tgt := 144) C dc_Pa_makeLevels_166 (by decide) ?_
    refine aw_lo (lo' := [some (.ref (oa u)), some (.ref (oa x1)), some (.ref (oa x2)), none, none, some (.int (x5 + 1)), none]) ⟨.inr rfl, .inr rfl, .inr rfl, .inr rfl, .inr rfl, .inr rfl, .inr rfl, trivial⟩ ?_
    exact hR144 x1 x2 (x5 + 1) S160 hp
set_option maxRecDepth 100000 in
set_option maxHeartbeats 1000000 in
theorem se_Pa_makeLevels_144 (C : fcx gG D z A X R_Pa c_C_Pa_makeLevels 7 (none)) (hQ : X.2.2.2.2.2.2.2.2.2.2 = eQ gG D z X.2.2.2.2.2.2.2.1 X.2.2.2.2.1 L0 0 0 (pC_v lt_C U oa K (fun _ _ => False))) (hA : A = owA gG L0 X.2.2.2.2.1.heap.size) (hR : X.2.2.2.1 = { frames := 5, cells := 1, slots := 6, locals := 500 }) (hu : c_cl U u = 6) (x1 : Nat) (x2 : Nat) (x5 : Int32) (S : cs) (hp : e_Pa_makeLevels_144 U u x1 x2 x5 S K) : aw gG D z A X 7 144 [some (.ref (oa u)), some (.ref (oa x1)), some (.ref (oa x2)), none, none, some (.int x5), none] [] (cw lt_C U oa S) 0 0 := by
  obtain ⟨I, μ, h0, hs⟩ := hp
  have key : ∀ (n : Nat) (yx1 : Nat) (yx2 : Nat) (yx5 : Int32) (yS : cs), μ yx1 yx2 yx5 yS < n → I yx1 yx2 yx5 yS → aw gG D z A X 7 144 [some (.ref (oa u)), some (.ref (oa yx1)), some (.ref (oa yx2)), none, none, some (.int yx5), none] [] (cw lt_C U oa yS) 0 0 := by
    intro n
    induction n with
    | zero => intro yx1 yx2 yx5 yS h; omega
    | succ n ih =>
      intro yx1 yx2 yx5 yS hn hI
      exact s_Pa_makeLevels_144 C hQ hA hR hu yx1 yx2 yx5 yS _ (fun zx1 zx2 zx5 zS hw => ih zx1 zx2 zx5 zS (by omega) hw.1) (hs yx1 yx2 yx5 yS hI)
  exact key (μ x1 x2 x5 S + 1) x1 x2 x5 S (Nat.lt_succ_self _) h0
set_option maxRecDepth 100000 in
set_option maxHeartbeats 1000000 in
theorem s_Pa_makeLevels_86 (C : fcx gG D z A X R_Pa c_C_Pa_makeLevels 7 (none)) (hQ : X.2.2.2.2.2.2.2.2.2.2 = eQ gG D z X.2.2.2.2.2.2.2.1 X.2.2.2.2.1 L0 0 0 (pC_v lt_C U oa K (fun _ _ => False))) (hA : A = owA gG L0 X.2.2.2.2.1.heap.size) (hR : X.2.2.2.1 = { frames := 5, cells := 1, slots := 6, locals := 500 }) (hu : c_cl U u = 6) (x1 : Nat) (x2 : Nat) (x3 : Int32) (x4 : Int32) (x5 : Int32) (s0 : Nat) (s1 : Int32) (s2 : Int32) (s3 : Int32) (S : cs) (R47 : Nat → Nat → Int32 → Int32 → Int32 → cs → Prop) (hR47 : ∀ yx1 yx2 yx3 yx4 yx5 yS, R47 yx1 yx2 yx3 yx4 yx5 yS → aw gG D z A X 7 47 [some (.ref (oa u)), some (.ref (oa yx1)), some (.ref (oa yx2)), some (.int yx3), some (.int yx4), some (.int yx5), none] [] (cw lt_C U oa yS) 0 0) (hp : b_Pa_makeLevels_86 U u x1 x2 x3 x4 x5 s0 s1 s2 s3 S R47 K) : aw gG D z A X 7 86 [some (.ref (oa u)), some (.ref (oa x1)), some (.ref (oa x2)), some (.int x3), some (.int x4), some (.int x5), none] [.int s3, .int s2, .int s1, .ref (oa s0)] (cw lt_C U oa S) 0 0 := by
  unfold b_Pa_makeLevels_86 at hp
  have hc4 := hp.1
  have hp := hp.2
  refine c_call (rest := []) (av := .ref (oa s0) :: [.int s1, .int s2, .int s3]) C dc_Pa_makeLevels_86 (ct_Pi_setFactors s0 s1 s2 s3 S hc4 hp) cd_C_Pi_setFactors i_Pi (Nat.le_of_ble_eq_true rfl) (by rw [hR]; exact Nat.le_of_ble_eq_true rfl) (by rw [hR]; exact Nat.le_of_ble_eq_true rfl) (by rw [hR]; exact Nat.le_of_ble_eq_true rfl) (by rw [hR]; exact Nat.le_of_ble_eq_true rfl) (inv_V C s0 dc_Pa_makeLevels_86 l_Pa_86 im_C_Pi_setFactors se_C_Pi_setFactors cd_C_Pi_setFactors ⟨by decide, by decide⟩ ln_C_Pi_setFactors rfl rfl (cw_obj hc4 rfl) rfl rfl) (fun oc L1 hL => ?_)
  obtain ⟨S86, hp, rfl, rfl⟩ := hL.resolve_right pC_no
  refine ⟨_, rfl, ?_⟩
  refine aw_eq (lo' := _) (st' := []) (L' := (cw lt_C U oa S86)) rfl rfl rfl ?_
  refine a_iload C dc_Pa_makeLevels_89 rfl ?_
  refine a_callP (rest := []) (av := [.int x5]) C dc_Pa_makeLevels_91 (ct_Pa_kindOf x5 hp) cd_C_Pa_kindOf i_Pa (Nat.le_of_ble_eq_true rfl) (by rw [hR]; exact Nat.le_of_ble_eq_true rfl) (by rw [hR]; exact Nat.le_of_ble_eq_true rfl) (by rw [hR]; exact Nat.le_of_ble_eq_true rfl) (by rw [hR]; exact Nat.le_of_ble_eq_true rfl) (inv_S C dc_Pa_makeLevels_91 l_Pa_89 st_C_Pa_kindOf i_Pa cd_C_Pa_kindOf ⟨by decide, by decide⟩ ln_C_Pa_kindOf rfl) (fun v91 hp => ?_)
  refine aw_eq (lo' := _) (st' := [.int v91]) (L' := (cw lt_C U oa S86)) rfl rfl rfl ?_
  refine a_istore (lo' := [some (.ref (oa u)), some (.ref (oa x1)), some (.ref (oa x2)), some (.int x3), some (.int x4), some (.int x5), some (.int v91)]) C dc_Pa_makeLevels_94 (by decide) rfl ?_
  refine a_aload_n C dc_Pa_makeLevels_96 rfl rfl ?_
  refine c_getR C u 3 dc_Pa_makeLevels_97 hu rfl rfl (Nat.le_of_ble_eq_true rfl) f_Pa_38 rfl hp.1 ?_
  have hp := hp.2
  refine a_iload C dc_Pa_makeLevels_100 rfl ?_
  refine a_iload C dc_Pa_makeLevels_102 rfl ?_
  refine a_iload C dc_Pa_makeLevels_104 rfl ?_
  have hc5 := hp.1
  have hp := hp.2
  refine c_call (rest := []) (av := .ref (oa (S86.2.2 u 3)) :: [.int x5, .int v91, .int v91]) C dc_Pa_makeLevels_106 (ct_Sc_addLayer (S86.2.2 u 3) x5 v91 v91 S86 hc5 hp) cd_C_Sc_addLayer i_Sc (Nat.le_of_ble_eq_true rfl) (by rw [hR]; exact Nat.le_of_ble_eq_true rfl) (by rw [hR]; exact Nat.le_of_ble_eq_true rfl) (by rw [hR]; exact Nat.le_of_ble_eq_true rfl) (by rw [hR]; exact Nat.le_of_ble_eq_true rfl) (inv_V C (S86.2.2 u 3) dc_Pa_makeLevels_106 l_Pa_93 im_C_Sc_addLayer se_C_Sc_addLayer cd_C_Sc_addLayer ⟨by decide, by decide⟩ ln_C_Sc_addLayer rfl rfl (cw_obj hc5 rfl) rfl rfl) (fun oc L1 hL => ?_)
  obtain ⟨S106, hp, rfl, rfl⟩ := hL.resolve_right pC_no
  refine ⟨_, rfl, ?_⟩
  refine aw_eq (lo' := _) (st' := []) (L' := (cw lt_C U oa S106)) rfl rfl rfl ?_
  refine a_iinc (v := x5 + 1) (lo' := [some (.ref (oa u)), some (.ref (oa x1)), some (.ref (oa x2)), some (.int x3), some (.int x4), some (.int (x5 + 1)), some (.int v91)]) C dc_Pa_makeLevels_109 rfl rfl (by decide) rfl ?_
  refine a_goto (tgt := 47) C dc_Pa_makeLevels_112 (by decide) ?_
  refine aw_lo (lo' := [some (.ref (oa u)), some (.ref (oa x1)), some (.ref (oa x2)), some (.int x3), some (.int x4), some (.int (x5 + 1)), none]) ⟨.inr rfl, .inr rfl, .inr rfl, .inr rfl, .inr rfl, .inr rfl, .inl rfl, trivial⟩ ?_
  exact hR47 x1 x2 x3 x4 (x5 + 1) S106 hp
set_option maxRecDepth 100000 in
set_option maxHeartbeats 1000000 in
theorem s_Pa_makeLevels_75 (C : fcx gG D z A X R_Pa c_C_Pa_makeLevels 7 (none)) (hQ : X.2.2.2.2.2.2.2.2.2.2 = eQ gG D z X.2.2.2.2.2.2.2.1 X.2.2.2.2.1 L0 0 0 (pC_v lt_C U oa K (fun _ _ => False))) (hA : A = owA gG L0 X.2.2.2.2.1.heap.size) (hR : X.2.2.2.1 = { frames := 5, cells := 1, slots := 6, locals := 500 }) (hu : c_cl U u = 6) (x1 : Nat) (x2 : Nat) (x3 : Int32) (x4 : Int32) (x5 : Int32) (s0 : Nat) (s1 : Int32) (s2 : Int32) (S : cs) (R47 : Nat → Nat → Int32 → Int32 → Int32 → cs → Prop) (hR47 : ∀ yx1 yx2 yx3 yx4 yx5 yS, R47 yx1 yx2 yx3 yx4 yx5 yS → aw gG D z A X 7 47 [some (.ref (oa u)), some (.ref (oa yx1)), some (.ref (oa yx2)), some (.int yx3), some (.int yx4), some (.int yx5), none] [] (cw lt_C U oa yS) 0 0) (hp : b_Pa_makeLevels_75 U u x1 x2 x3 x4 x5 s0 s1 s2 S R47 K) : aw gG D z A X 7 75 [some (.ref (oa u)), some (.ref (oa x1)), some (.ref (oa x2)), some (.int x3), some (.int x4), some (.int x5), none] [.int s2, .int s1, .ref (oa s0)] (cw lt_C U oa S) 0 0 := by
  unfold b_Pa_makeLevels_75 at hp
  refine a_iload C dc_Pa_makeLevels_75 rfl ?_
  refine a_if_ne (tgt := 85) C dc_Pa_makeLevels_77 (by decide) ⟨fun hc => ?_, fun hc => ?_⟩
  · have hp := hp.1 hc
    refine a_iconst (v := 1) C dc_Pa_makeLevels_85 (by decide) ?_
    refine aw_lo (lo' := [some (.ref (oa u)), some (.ref (oa x1)), some (.ref (oa x2)), some (.int x3), some (.int x4), some (.int x5), none]) ⟨.inr rfl, .inr rfl, .inr rfl, .inr rfl, .inr rfl, .inr rfl, .inr rfl, trivial⟩ ?_
    exact s_Pa_makeLevels_86 C hQ hA hR hu x1 x2 x3 x4 x5 s0 s1 s2 1 S R47 hR47 hp
  · have hp := hp.2 hc
    refine a_iload C dc_Pa_makeLevels_80 rfl ?_
    refine a_goto (tgt := 86) C dc_Pa_makeLevels_82 (by decide) ?_
    refine aw_lo (lo' := [some (.ref (oa u)), some (.ref (oa x1)), some (.ref (oa x2)), some (.int x3), some (.int x4), some (.int x5), none]) ⟨.inr rfl, .inr rfl, .inr rfl, .inr rfl, .inr rfl, .inr rfl, .inr rfl, trivial⟩ ?_
    exact s_Pa_makeLevels_86 C hQ hA hR hu x1 x2 x3 x4 x5 s0 s1 s2 x4 S R47 hR47 hp
set_option maxRecDepth 100000 in
set_option maxHeartbeats 1000000 in
theorem s_Pa_makeLevels_47 (C : fcx gG D z A X R_Pa c_C_Pa_makeLevels 7 (none)) (hQ : X.2.2.2.2.2.2.2.2.2.2 = eQ gG D z X.2.2.2.2.2.2.2.1 X.2.2.2.2.1 L0 0 0 (pC_v lt_C U oa K (fun _ _ => False))) (hA : A = owA gG L0 X.2.2.2.2.1.heap.size) (hR : X.2.2.2.1 = { frames := 5, cells := 1, slots := 6, locals := 500 }) (hu : c_cl U u = 6) (x1 : Nat) (x2 : Nat) (x3 : Int32) (x4 : Int32) (x5 : Int32) (S : cs) (R47 : Nat → Nat → Int32 → Int32 → Int32 → cs → Prop) (hR47 : ∀ yx1 yx2 yx3 yx4 yx5 yS, R47 yx1 yx2 yx3 yx4 yx5 yS → aw gG D z A X 7 47 [some (.ref (oa u)), some (.ref (oa yx1)), some (.ref (oa yx2)), some (.int yx3), some (.int yx4), some (.int yx5), none] [] (cw lt_C U oa yS) 0 0) (hp : b_Pa_makeLevels_47 U u x1 x2 x3 x4 x5 S R47 K) : aw gG D z A X 7 47 [some (.ref (oa u)), some (.ref (oa x1)), some (.ref (oa x2)), some (.int x3), some (.int x4), some (.int x5), none] [] (cw lt_C U oa S) 0 0 := by
  unfold b_Pa_makeLevels_47 at hp
  refine a_iload C dc_Pa_makeLevels_47 rfl ?_
  refine a_aload_n C dc_Pa_makeLevels_49 rfl rfl ?_
  refine c_getR C u 2 dc_Pa_makeLevels_50 hu rfl rfl (Nat.le_of_ble_eq_true rfl) f_Pa_31 rfl hp.1 ?_
  have hp := hp.2
  have hc6 := hp.1
  have hp := hp.2
  refine c_getIN C (S.2.2 u 2) 2 dc_Pa_makeLevels_53 hc6 rfl rfl (Nat.le_of_ble_eq_true rfl) f_Pa_85 (Nat.le_of_ble_eq_true rfl) ?_
  refine a_icmp_ge (tgt := 115) C dc_Pa_makeLevels_56 (by decide) ⟨fun hc => ?_, fun hc => ?_⟩
  · have hp := hp.1 hc
    refine a_aload_n C dc_Pa_makeLevels_115 rfl rfl ?_
    refine c_getR C u 2 dc_Pa_makeLevels_116 hu rfl rfl (Nat.le_of_ble_eq_true rfl) f_Pa_31 rfl hp.1 ?_
    have hp := hp.2
    refine c_call (rest := []) (av := .ref (oa (S.2.2 u 2)) :: []) C dc_Pa_makeLevels_119 (ct_Pi_measure (S.2.2 u 2) S hc6 hp) cd_C_Pi_measure i_Pi (Nat.le_of_ble_eq_true rfl) (by rw [hR]; exact Nat.le_of_ble_eq_true rfl) (by rw [hR]; exact Nat.le_of_ble_eq_true rfl) (by rw [hR]; exact Nat.le_of_ble_eq_true rfl) (by rw [hR]; exact Nat.le_of_ble_eq_true rfl) (inv_V C (S.2.2 u 2) dc_Pa_makeLevels_119 l_Pa_96 im_C_Pi_measure se_C_Pi_measure cd_C_Pi_measure ⟨by decide, by decide⟩ ln_C_Pi_measure rfl rfl (cw_obj hc6 rfl) rfl rfl) (fun oc L1 hL => ?_)
    obtain ⟨S119, hp, rfl, rfl⟩ := hL.resolve_right pC_no
    refine ⟨_, rfl, ?_⟩
    refine aw_eq (lo' := _) (st' := []) (L' := (cw lt_C U oa S119)) rfl rfl rfl ?_
    refine a_aload_n C dc_Pa_makeLevels_122 rfl rfl ?_
    refine c_getR C u 2 dc_Pa_makeLevels_123 hu rfl rfl (Nat.le_of_ble_eq_true rfl) f_Pa_31 rfl hp.1 ?_
    have hp := hp.2
    refine a_iconst (v := 1) C dc_Pa_makeLevels_126 (by decide) ?_
    have hc7 := hp.1
    have hp := hp.2
    refine c_putIN (ty := .boolean) C (S119.2.2 u 2) 17 dc_Pa_makeLevels_127 hc7 rfl rfl (Nat.le_of_ble_eq_true rfl) f_Pa_99 (Nat.le_of_ble_eq_true rfl) rfl rfl rfl rfl ?_
    refine aw_eq (lo' := _) (st' := _) (L' := (cw lt_C U oa (va_up S119.1 (S119.2.2 u 2) (upd (S119.1 (S119.2.2 u 2)) 17 1), S119.2.1, S119.2.2))) rfl rfl rfl ?_
    refine a_aload_n C dc_Pa_makeLevels_130 rfl rfl ?_
    refine c_getR C u 3 dc_Pa_makeLevels_131 hu rfl rfl (Nat.le_of_ble_eq_true rfl) f_Pa_38 rfl hp.1 ?_
    have hp := hp.2
    refine a_aload_n C dc_Pa_makeLevels_134 rfl rfl ?_
    refine c_getR C u 2 dc_Pa_makeLevels_135 hu rfl rfl (Nat.le_of_ble_eq_true rfl) f_Pa_31 rfl hp.1 ?_
    have hp := hp.2
    have hc8 := hp.1
    have hp := hp.2
    refine c_call (rest := []) (av := .ref (oa (S119.2.2 u 3)) :: [.ref (oa (S119.2.2 u 2))]) C dc_Pa_makeLevels_138 (ct_Sc_arrange (S119.2.2 u 3) (S119.2.2 u 2) (va_up S119.1 (S119.2.2 u 2) (upd (S119.1 (S119.2.2 u 2)) 17 1), S119.2.1, S119.2.2) hc8 hp) cd_C_Sc_arrange i_Sc (Nat.le_of_ble_eq_true rfl) (by rw [hR]; exact Nat.le_of_ble_eq_true rfl) (by rw [hR]; exact Nat.le_of_ble_eq_true rfl) (by rw [hR]; exact Nat.le_of_ble_eq_true rfl) (by rw [hR]; exact Nat.le_of_ble_eq_true rfl) (inv_V C (S119.2.2 u 3) dc_Pa_makeLevels_138 l_Pa_103 im_C_Sc_arrange se_C_Sc_arrange cd_C_Sc_arrange ⟨by decide, by decide⟩ ln_C_Sc_arrange rfl rfl (cw_obj hc8 rfl) rfl rfl) (fun oc L1 hL => ?_)
    obtain ⟨S138, hp, rfl, rfl⟩ := hL.resolve_right pC_no
    refine ⟨_, rfl, ?_⟩
    refine aw_eq (lo' := _) (st' := []) (L' := (cw lt_C U oa S138)) rfl rfl rfl ?_
    refine a_iconst (v := 0) C dc_Pa_makeLevels_141 (by decide) ?_
    refine a_istore (lo' := [some (.ref (oa u)), some (.ref (oa x1)), some (.ref (oa x2)), some (.int x3), some (.int x4), some (.int 0), none]) C dc_Pa_makeLevels_142 (by decide) rfl ?_
    refine aw_lo (lo' := [some (.ref (oa u)), some (.ref (oa x1)), some (.ref (oa x2)), none, none, some (.int 0), none]) ⟨.inr rfl, .inr rfl, .inr rfl, .inl rfl, .inl rfl, .inr rfl, .inr rfl, trivial⟩ ?_
    exact se_Pa_makeLevels_144 C hQ hA hR hu x1 x2 0 S138  hp
  · have hp := hp.2 hc
    refine a_aload_n C dc_Pa_makeLevels_59 rfl rfl ?_
    refine c_getR C u 2 dc_Pa_makeLevels_60 hu rfl rfl (Nat.le_of_ble_eq_true rfl) f_Pa_31 rfl hp.1 ?_
    have hp := hp.2
    refine a_iload C dc_Pa_makeLevels_63 rfl ?_
    refine a_iload C dc_Pa_makeLevels_65 rfl ?_
    refine a_if_ne (tgt := 74) C dc_Pa_makeLevels_67 (by decide) ⟨fun hc => ?_, fun hc => ?_⟩
    · have hp := hp.1 hc
      refine a_iconst (v := 1) C dc_Pa_makeLevels_74 (by decide) ?_
      refine aw_lo (lo' := [some (.ref (oa u)), some (.ref (oa x1)), some (.ref (oa x2)), some (.int x3), some (.int x4), some (.int x5), none]) ⟨.inr rfl, .inr rfl, .inr rfl, .inr rfl, .inr rfl, .inr rfl, .inr rfl, trivial⟩ ?_
      exact s_Pa_makeLevels_75 C hQ hA hR hu x1 x2 x3 x4 x5 (S.2.2 u 2) x5 1 S R47 hR47 hp
    · have hp := hp.2 hc
      refine a_iload_n C dc_Pa_makeLevels_70 rfl rfl ?_
      refine a_goto (tgt := 75) C dc_Pa_makeLevels_71 (by decide) ?_
      refine aw_lo (lo' := [some (.ref (oa u)), some (.ref (oa x1)), some (.ref (oa x2)), some (.int x3), some (.int x4), some (.int x5), none]) ⟨.inr rfl, .inr rfl, .inr rfl, .inr rfl, .inr rfl, .inr rfl, .inr rfl, trivial⟩ ?_
      exact s_Pa_makeLevels_75 C hQ hA hR hu x1 x2 x3 x4 x5 (S.2.2 u 2) x5 x3 S R47 hR47 hp
set_option maxRecDepth 100000 in
set_option maxHeartbeats 1000000 in
theorem se_Pa_makeLevels_47 (C : fcx gG D z A X R_Pa c_C_Pa_makeLevels 7 (none)) (hQ : X.2.2.2.2.2.2.2.2.2.2 = eQ gG D z X.2.2.2.2.2.2.2.1 X.2.2.2.2.1 L0 0 0 (pC_v lt_C U oa K (fun _ _ => False))) (hA : A = owA gG L0 X.2.2.2.2.1.heap.size) (hR : X.2.2.2.1 = { frames := 5, cells := 1, slots := 6, locals := 500 }) (hu : c_cl U u = 6) (x1 : Nat) (x2 : Nat) (x3 : Int32) (x4 : Int32) (x5 : Int32) (S : cs) (hp : e_Pa_makeLevels_47 U u x1 x2 x3 x4 x5 S K) : aw gG D z A X 7 47 [some (.ref (oa u)), some (.ref (oa x1)), some (.ref (oa x2)), some (.int x3), some (.int x4), some (.int x5), none] [] (cw lt_C U oa S) 0 0 := by
  obtain ⟨I, μ, h0, hs⟩ := hp
  have key : ∀ (n : Nat) (yx1 : Nat) (yx2 : Nat) (yx3 : Int32) (yx4 : Int32) (yx5 : Int32) (yS : cs), μ yx1 yx2 yx3 yx4 yx5 yS < n → I yx1 yx2 yx3 yx4 yx5 yS → aw gG D z A X 7 47 [some (.ref (oa u)), some (.ref (oa yx1)), some (.ref (oa yx2)), some (.int yx3), some (.int yx4), some (.int yx5), none] [] (cw lt_C U oa yS) 0 0 := by
    intro n
    induction n with
    | zero => intro yx1 yx2 yx3 yx4 yx5 yS h; omega
    | succ n ih =>
      intro yx1 yx2 yx3 yx4 yx5 yS hn hI
      exact s_Pa_makeLevels_47 C hQ hA hR hu yx1 yx2 yx3 yx4 yx5 yS _ (fun zx1 zx2 zx3 zx4 zx5 zS hw => ih zx1 zx2 zx3 zx4 zx5 zS (by omega) hw.1) (hs yx1 yx2 yx3 yx4 yx5 yS hI)
  exact key (μ x1 x2 x3 x4 x5 S + 1) x1 x2 x3 x4 x5 S (Nat.lt_succ_self _) h0
set_option maxRecDepth 100000 in
set_option maxHeartbeats 1000000 in
theorem s_Pa_makeLevels_14 (C : fcx gG D z A X R_Pa c_C_Pa_makeLevels 7 (none)) (hQ : X.2.2.2.2.2.2.2.2.2.2 = eQ gG D z X.2.2.2.2.2.2.2.1 X.2.2.2.2.1 L0 0 0 (pC_v lt_C U oa K (fun _ _ => False))) (hA : A = owA gG L0 X.2.2.2.2.1.heap.size) (hR : X.2.2.2.1 = { frames := 5, cells := 1, slots := 6, locals := 500 }) (hu : c_cl U u = 6) (x1 : Nat) (x2 : Nat) (x3 : Int32) (x4 : Int32) (s1 : Int32) (S : cs) (hp : b_Pa_makeLevels_14 U u x1 x2 x3 x4 s1 S K) : aw gG D z A X 7 14 [some (.ref (oa u)), some (.ref (oa x1)), some (.ref (oa x2)), some (.int x3), some (.int x4), none, none] [.int s1, .ref (oa u)] (cw lt_C U oa S) 0 0 := by
  unfold b_Pa_makeLevels_14 at hp
  refine c_putI (ty := .int) C u 8 dc_Pa_makeLevels_14 hu rfl rfl (Nat.le_of_ble_eq_true rfl) f_Pa_69 (Nat.le_of_ble_eq_true rfl) rfl rfl rfl rfl ?_
  refine aw_eq (lo' := _) (st' := _) (L' := (cw lt_C U oa (va_up S.1 u (upd (S.1 u) 8 s1), S.2.1, S.2.2))) rfl rfl rfl ?_
  refine a_aload_n C dc_Pa_makeLevels_17 rfl rfl ?_
  refine c_getR C u 2 dc_Pa_makeLevels_18 hu rfl rfl (Nat.le_of_ble_eq_true rfl) f_Pa_31 rfl hp.1 ?_
  have hp := hp.2
  refine a_aload_n C dc_Pa_makeLevels_21 rfl rfl ?_
  have hc9 := hp.1
  have hp := hp.2
  refine c_getIN C x1 0 dc_Pa_makeLevels_22 hc9 rfl rfl (Nat.le_of_ble_eq_true rfl) f_Pa_72 (Nat.le_of_ble_eq_true rfl) ?_
  refine a_aload_n C dc_Pa_makeLevels_25 rfl rfl ?_
  refine c_getIN C x1 1 dc_Pa_makeLevels_26 hc9 rfl rfl (Nat.le_of_ble_eq_true rfl) f_Pa_75 (Nat.le_of_ble_eq_true rfl) ?_
  refine a_aload_n C dc_Pa_makeLevels_29 rfl rfl ?_
  refine c_getIN C x1 2 dc_Pa_makeLevels_30 hc9 rfl rfl (Nat.le_of_ble_eq_true rfl) f_Pa_63 (Nat.le_of_ble_eq_true rfl) ?_
  have hc10 := hp.1
  have hp := hp.2
  refine c_call (rest := []) (av := .ref (oa (S.2.2 u 2)) :: [.int ((va_up S.1 u (upd (S.1 u) 8 s1)) x1 0), .int ((va_up S.1 u (upd (S.1 u) 8 s1)) x1 1), .int ((va_up S.1 u (upd (S.1 u) 8 s1)) x1 2)]) C dc_Pa_makeLevels_33 (ct_Pi_begin (S.2.2 u 2) ((va_up S.1 u (upd (S.1 u) 8 s1)) x1 0) ((va_up S.1 u (upd (S.1 u) 8 s1)) x1 1) ((va_up S.1 u (upd (S.1 u) 8 s1)) x1 2) (va_up S.1 u (upd (S.1 u) 8 s1), S.2.1, S.2.2) hc10 hp) cd_C_Pi_begin i_Pi (Nat.le_of_ble_eq_true rfl) (by rw [hR]; exact Nat.le_of_ble_eq_true rfl) (by rw [hR]; exact Nat.le_of_ble_eq_true rfl) (by rw [hR]; exact Nat.le_of_ble_eq_true rfl) (by rw [hR]; exact Nat.le_of_ble_eq_true rfl) (inv_V C (S.2.2 u 2) dc_Pa_makeLevels_33 l_Pa_78 im_C_Pi_begin se_C_Pi_begin cd_C_Pi_begin ⟨by decide, by decide⟩ ln_C_Pi_begin rfl rfl (cw_obj hc10 rfl) rfl rfl) (fun oc L1 hL => ?_)
  obtain ⟨S33, hp, rfl, rfl⟩ := hL.resolve_right pC_no
  refine ⟨_, rfl, ?_⟩
  refine aw_eq (lo' := _) (st' := []) (L' := (cw lt_C U oa S33)) rfl rfl rfl ?_
  refine a_aload_n C dc_Pa_makeLevels_36 rfl rfl ?_
  refine c_getR C u 3 dc_Pa_makeLevels_37 hu rfl rfl (Nat.le_of_ble_eq_true rfl) f_Pa_38 rfl hp.1 ?_
  have hp := hp.2
  refine a_iconst (v := 0) C dc_Pa_makeLevels_40 (by decide) ?_
  have hc11 := hp.1
  have hp := hp.2
  refine c_putIN (ty := .int) C (S33.2.2 u 3) 0 dc_Pa_makeLevels_41 hc11 rfl rfl (Nat.le_of_ble_eq_true rfl) f_Pa_82 (Nat.le_of_ble_eq_true rfl) rfl rfl rfl rfl ?_
  refine aw_eq (lo' := _) (st' := _) (L' := (cw lt_C U oa (va_up S33.1 (S33.2.2 u 3) (upd (S33.1 (S33.2.2 u 3)) 0 0), S33.2.1, S33.2.2))) rfl rfl rfl ?_
  refine a_iconst (v := 0) C dc_Pa_makeLevels_44 (by decide) ?_
  refine a_istore (lo' := [some (.ref (oa u)), some (.ref (oa x1)), some (.ref (oa x2)), some (.int x3), some (.int x4), some (.int 0), none]) C dc_Pa_makeLevels_45 (by decide) rfl ?_
  refine aw_lo (lo' := [some (.ref (oa u)), some (.ref (oa x1)), some (.ref (oa x2)), some (.int x3), some (.int x4), some (.int 0), none]) ⟨.inr rfl, .inr rfl, .inr rfl, .inr rfl, .inr rfl, .inr rfl, .inr rfl, trivial⟩ ?_
  exact se_Pa_makeLevels_47 C hQ hA hR hu x1 x2 x3 x4 0 (va_up S33.1 (S33.2.2 u 3) (upd (S33.1 (S33.2.2 u 3)) 0 0), S33.2.1, S33.2.2)  hp
set_option maxRecDepth 100000 in
set_option maxHeartbeats 1000000 in
theorem s_Pa_makeLevels_0 (C : fcx gG D z A X R_Pa c_C_Pa_makeLevels 7 (none)) (hQ : X.2.2.2.2.2.2.2.2.2.2 = eQ gG D z X.2.2.2.2.2.2.2.1 X.2.2.2.2.1 L0 0 0 (pC_v lt_C U oa K (fun _ _ => False))) (hA : A = owA gG L0 X.2.2.2.2.1.heap.size) (hR : X.2.2.2.1 = { frames := 5, cells := 1, slots := 6, locals := 500 }) (hu : c_cl U u = 6) (x1 : Nat) (x2 : Nat) (x3 : Int32) (x4 : Int32) (S : cs) (hp : p_Pa_makeLevels U u x1 x2 x3 x4 S K) : aw gG D z A X 7 0 [some (.ref (oa u)), some (.ref (oa x1)), some (.ref (oa x2)), some (.int x3), some (.int x4), none, none] [] (cw lt_C U oa S) 0 0 := by
  unfold p_Pa_makeLevels at hp
  refine a_aload_n C dc_Pa_makeLevels_0 rfl rfl ?_
  refine a_aload_n C dc_Pa_makeLevels_1 rfl rfl ?_
  have hc12 := hp.1
  have hp := hp.2
  refine c_getIN C x1 2 dc_Pa_makeLevels_2 hc12 rfl rfl (Nat.le_of_ble_eq_true rfl) f_Pa_63 (Nat.le_of_ble_eq_true rfl) ?_
  refine a_iconst (v := 1) C dc_Pa_makeLevels_5 (by decide) ?_
  refine a_icmp_ne (tgt := 13) C dc_Pa_makeLevels_6 (by decide) ⟨fun hc => ?_, fun hc => ?_⟩
  · have hp := hp.1 hc
    refine a_iconst (v := 2) C dc_Pa_makeLevels_13 (by decide) ?_
    refine aw_lo (lo' := [some (.ref (oa u)), some (.ref (oa x1)), some (.ref (oa x2)), some (.int x3), some (.int x4), none, none]) ⟨.inr rfl, .inr rfl, .inr rfl, .inr rfl, .inr rfl, .inr rfl, .inr rfl, trivial⟩ ?_
    exact s_Pa_makeLevels_14 C hQ hA hR hu x1 x2 x3 x4 2 S  hp
  · have hp := hp.2 hc
    refine a_iconst (v := 1) C dc_Pa_makeLevels_9 (by decide) ?_
    refine a_goto (tgt := 14) C dc_Pa_makeLevels_10 (by decide) ?_
    refine aw_lo (lo' := [some (.ref (oa u)), some (.ref (oa x1)), some (.ref (oa x2)), some (.int x3), some (.int x4), none, none]) ⟨.inr rfl, .inr rfl, .inr rfl, .inr rfl, .inr rfl, .inr rfl, .inr rfl, trivial⟩ ?_
    exact s_Pa_makeLevels_14 C hQ hA hR hu x1 x2 x3 x4 1 S  hp
end C_Pa_makeLevels
section C_Pa_makeLevelsc
variable {D : va_G} {z : Nat → ClassId} {U : ut} {oa : Nat → Nat}
set_option maxRecDepth 100000 in
theorem ct_Pa_makeLevels {l : Launch} (u : Nat) (x1 : Nat) (x2 : Nat) (x3 : Int32) (x4 : Int32) (S : cs) {K : cs → Prop} (hu : c_cl U u = 6) (hp : p_Pa_makeLevels U u x1 x2 x3 x4 S K) : ct gG D z l n_C_Pa_makeLevels c_C_Pa_makeLevels 7 (none) 5 500 [.ref (oa u), .ref (oa x1), .ref (oa x2), .int x3, .int x4] (cw lt_C U oa S) 0 0 (pC_v lt_C U oa K (fun _ _ => False)) := by
  refine ct_of (lo := [some (.ref (oa u)), some (.ref (oa x1)), some (.ref (oa x2)), some (.int x3), some (.int x4), none, none]) (by decide) g_ok (Nat.le_of_ble_eq_true rfl) rfl ?_
  intro X A _ C hR hQ hA _
  exact s_Pa_makeLevels_0 C hQ hA hR hu x1 x2 x3 x4 S hp
end C_Pa_makeLevelsc
def p_Oc_begin (U : ut) (u : Nat)  (S : cs) (K : cs → Prop) : Prop :=
  ¬ S.2.2 u 0 = NU ∧ (p_Ar_fillI U (S.2.2 u 0) 0 S (fun S5 => ¬ S5.2.2 u 1 = NU ∧ (p_Ar_fillI U (S5.2.2 u 1) 0 S5 (fun S13 => K S13))))
section C_Oc_begin
variable {D : va_G} {z : Nat → ClassId} {A : Nat → Prop} {X : cx} {L0 : fw} {U : ut} {oa : Nat → Nat} {u : Nat} {K : cs → Prop}
set_option maxRecDepth 100000 in
set_option maxHeartbeats 1000000 in
theorem s_Oc_begin_0 (C : fcx gG D z A X R_Oc c_C_Oc_begin 1 (none)) (hQ : X.2.2.2.2.2.2.2.2.2.2 = eQ gG D z X.2.2.2.2.2.2.2.1 X.2.2.2.2.1 L0 0 0 (pC_v lt_C U oa K (fun _ _ => False))) (hA : A = owA gG L0 X.2.2.2.2.1.heap.size) (hR : X.2.2.2.1 = { frames := 2, cells := 1, slots := 6, locals := 200 }) (hu : c_cl U u = 5)  (S : cs) (hp : p_Oc_begin U u S K) : aw gG D z A X 1 0 [some (.ref (oa u))] [] (cw lt_C U oa S) 0 0 := by
  unfold p_Oc_begin at hp
  refine a_aload_n C dc_Oc_begin_0 rfl rfl ?_
  refine c_getR C u 0 dc_Oc_begin_1 hu rfl rfl (Nat.le_of_ble_eq_true rfl) f_Oc_11 rfl hp.1 ?_
  have hp := hp.2
  refine a_iconst (v := 0) C dc_Oc_begin_4 (by decide) ?_
  refine c_call (rest := []) (av := [.ref (oa (S.2.2 u 0)), .int 0]) C dc_Oc_begin_5 (ct_Ar_fillI (S.2.2 u 0) 0 S  hp) cd_C_Ar_fillI i_Ar (Nat.le_of_ble_eq_true rfl) (by rw [hR]; exact Nat.le_of_ble_eq_true rfl) (by rw [hR]; exact Nat.le_of_ble_eq_true rfl) (by rw [hR]; exact Nat.le_of_ble_eq_true rfl) (by rw [hR]; exact Nat.le_of_ble_eq_true rfl) (inv_S C dc_Oc_begin_5 l_Oc_27 st_C_Ar_fillI i_Ar cd_C_Ar_fillI ⟨by decide, by decide⟩ ln_C_Ar_fillI rfl) (fun oc L1 hL => ?_)
  obtain ⟨S5, hp, rfl, rfl⟩ := hL.resolve_right pC_no
  refine ⟨_, rfl, ?_⟩
  refine aw_eq (lo' := _) (st' := []) (L' := (cw lt_C U oa S5)) rfl rfl rfl ?_
  refine a_aload_n C dc_Oc_begin_8 rfl rfl ?_
  refine c_getR C u 1 dc_Oc_begin_9 hu rfl rfl (Nat.le_of_ble_eq_true rfl) f_Oc_15 rfl hp.1 ?_
  have hp := hp.2
  refine a_iconst (v := 0) C dc_Oc_begin_12 (by decide) ?_
  refine c_call (rest := []) (av := [.ref (oa (S5.2.2 u 1)), .int 0]) C dc_Oc_begin_13 (ct_Ar_fillI (S5.2.2 u 1) 0 S5  hp) cd_C_Ar_fillI i_Ar (Nat.le_of_ble_eq_true rfl) (by rw [hR]; exact Nat.le_of_ble_eq_true rfl) (by rw [hR]; exact Nat.le_of_ble_eq_true rfl) (by rw [hR]; exact Nat.le_of_ble_eq_true rfl) (by rw [hR]; exact Nat.le_of_ble_eq_true rfl) (inv_S C dc_Oc_begin_13 l_Oc_27 st_C_Ar_fillI i_Ar cd_C_Ar_fillI ⟨by decide, by decide⟩ ln_C_Ar_fillI rfl) (fun oc L1 hL => ?_)
  obtain ⟨S13, hp, rfl, rfl⟩ := hL.resolve_right pC_no
  refine ⟨_, rfl, ?_⟩
  refine aw_eq (lo' := _) (st' := []) (L' := (cw lt_C U oa S13)) rfl rfl rfl ?_
  exact a_vret C hQ hA dc_Oc_begin_16 rfl (Or.inl ⟨S13, hp, rfl, rfl⟩)
end C_Oc_begin
section C_Oc_beginc
variable {D : va_G} {z : Nat → ClassId} {U : ut} {oa : Nat → Nat}
set_option maxRecDepth 100000 in
theorem ct_Oc_begin {l : Launch} (u : Nat)  (S : cs) {K : cs → Prop} (hu : c_cl U u = 5) (hp : p_Oc_begin U u S K) : ct gG D z l n_C_Oc_begin c_C_Oc_begin 1 (none) 2 200 [.ref (oa u)] (cw lt_C U oa S) 0 0 (pC_v lt_C U oa K (fun _ _ => False)) := by
  refine ct_of (lo := [some (.ref (oa u))]) (by decide) g_ok (Nat.le_of_ble_eq_true rfl) rfl ?_
  intro X A _ C hR hQ hA _
  exact s_Oc_begin_0 C hQ hA hR hu S hp
end C_Oc_beginc
def b_Ro_add_36 (U : ut) (u : Nat)  (S : cs) (K : cs → Prop) : Prop :=
  K S
def p_Ro_add (U : ut) (u : Nat) (x1 : Int32) (S : cs) (K : cs → Prop) : Prop :=
  ¬ S.2.2 u 0 = NU ∧ (c_cl U (S.2.2 u 0) = 902 ∧ (((nI (c_ln U (S.2.2 u 0))) ≤ (S.1 u 1) → (b_Ro_add_36 U u S K)) ∧ (¬ ((nI (c_ln U (S.2.2 u 0))) ≤ (S.1 u 1)) → (¬ S.2.2 u 0 = NU ∧ (vp_in (S.1 u 1) (c_ln U (S.2.2 u 0)) ∧ (b_Ro_add_36 U u (va_up (va_up S.1 (S.2.2 u 0) (upd (S.1 (S.2.2 u 0)) (S.1 u 1).toNatClampNeg (x1 &&& 255))) u (upd ((va_up S.1 (S.2.2 u 0) (upd (S.1 (S.2.2 u 0)) (S.1 u 1).toNatClampNeg (x1 &&& 255))) u) 1 (((va_up S.1 (S.2.2 u 0) (upd (S.1 (S.2.2 u 0)) (S.1 u 1).toNatClampNeg (x1 &&& 255))) u 1) + 1)), S.2.1, S.2.2) K))))))
section C_Ro_add
variable {D : va_G} {z : Nat → ClassId} {A : Nat → Prop} {X : cx} {L0 : fw} {U : ut} {oa : Nat → Nat} {u : Nat} {K : cs → Prop}
set_option maxRecDepth 100000 in
set_option maxHeartbeats 1000000 in
theorem s_Ro_add_36 (C : fcx gG D z A X R_Ro c_C_Ro_add 2 (none)) (hQ : X.2.2.2.2.2.2.2.2.2.2 = eQ gG D z X.2.2.2.2.2.2.2.1 X.2.2.2.2.1 L0 0 0 (pC_v lt_C U oa K (fun _ _ => False))) (hA : A = owA gG L0 X.2.2.2.2.1.heap.size) (hR : X.2.2.2.1 = { frames := 1, cells := 1, slots := 6, locals := 100 }) (hu : c_cl U u = 9)  (S : cs) (hp : b_Ro_add_36 U u S K) : aw gG D z A X 2 36 [some (.ref (oa u)), none] [] (cw lt_C U oa S) 0 0 := by
  unfold b_Ro_add_36 at hp
  exact a_vret C hQ hA dc_Ro_add_36 rfl (Or.inl ⟨S, hp, rfl, rfl⟩)
set_option maxRecDepth 100000 in
set_option maxHeartbeats 1000000 in
theorem s_Ro_add_0 (C : fcx gG D z A X R_Ro c_C_Ro_add 2 (none)) (hQ : X.2.2.2.2.2.2.2.2.2.2 = eQ gG D z X.2.2.2.2.2.2.2.1 X.2.2.2.2.1 L0 0 0 (pC_v lt_C U oa K (fun _ _ => False))) (hA : A = owA gG L0 X.2.2.2.2.1.heap.size) (hR : X.2.2.2.1 = { frames := 1, cells := 1, slots := 6, locals := 100 }) (hu : c_cl U u = 9) (x1 : Int32) (S : cs) (hp : p_Ro_add U u x1 S K) : aw gG D z A X 2 0 [some (.ref (oa u)), some (.int x1)] [] (cw lt_C U oa S) 0 0 := by
  unfold p_Ro_add at hp
  refine a_aload_n C dc_Ro_add_0 rfl rfl ?_
  refine c_getI C u 1 dc_Ro_add_1 hu rfl rfl (Nat.le_of_ble_eq_true rfl) f_Ro_19 (Nat.le_of_ble_eq_true rfl) ?_
  refine a_aload_n C dc_Ro_add_4 rfl rfl ?_
  refine c_getR C u 0 dc_Ro_add_5 hu rfl rfl (Nat.le_of_ble_eq_true rfl) f_Ro_13 rfl hp.1 ?_
  have hp := hp.2
  have hc1 := hp.1
  have hp := hp.2
  refine c_alen C (S.2.2 u 0) dc_Ro_add_8 hc1 ?_
  refine a_icmp_ge (tgt := 36) C dc_Ro_add_9 (by decide) ⟨fun hc => ?_, fun hc => ?_⟩
  · have hp := hp.1 hc
    refine aw_lo (lo' := [some (.ref (oa u)), none]) ⟨.inr rfl, .inl rfl, trivial⟩ ?_
    exact s_Ro_add_36 C hQ hA hR hu S  hp
  · have hp := hp.2 hc
    refine a_aload_n C dc_Ro_add_12 rfl rfl ?_
    refine c_getR C u 0 dc_Ro_add_13 hu rfl rfl (Nat.le_of_ble_eq_true rfl) f_Ro_13 rfl hp.1 ?_
    have hp := hp.2
    refine a_aload_n C dc_Ro_add_16 rfl rfl ?_
    refine c_getI C u 1 dc_Ro_add_17 hu rfl rfl (Nat.le_of_ble_eq_true rfl) f_Ro_19 (Nat.le_of_ble_eq_true rfl) ?_
    refine a_iload_n C dc_Ro_add_20 rfl rfl ?_
    refine a_sipush (v := 255) C dc_Ro_add_21 (by decide) ?_
    refine a_iand C dc_Ro_add_24 ?_
    refine c_iast C (S.2.2 u 0) dc_Ro_add_25 hc1 hp.1 ?_
    have hp := hp.2
    refine aw_eq (lo' := _) (st' := _) (L' := (cw lt_C U oa (va_up S.1 (S.2.2 u 0) (upd (S.1 (S.2.2 u 0)) (S.1 u 1).toNatClampNeg (x1 &&& 255)), S.2.1, S.2.2))) rfl rfl rfl ?_
    refine a_aload_n C dc_Ro_add_26 rfl rfl ?_
    refine a_dup C dc_Ro_add_27 rfl ?_
    refine c_getI C u 1 dc_Ro_add_28 hu rfl rfl (Nat.le_of_ble_eq_true rfl) f_Ro_19 (Nat.le_of_ble_eq_true rfl) ?_
    refine a_iconst (v := 1) C dc_Ro_add_31 (by decide) ?_
    refine a_iadd C dc_Ro_add_32 ?_
    refine c_putI (ty := .int) C u 1 dc_Ro_add_33 hu rfl rfl (Nat.le_of_ble_eq_true rfl) f_Ro_19 (Nat.le_of_ble_eq_true rfl) rfl rfl rfl rfl ?_
    refine aw_eq (lo' := _) (st' := _) (L' := (cw lt_C U oa (va_up (va_up S.1 (S.2.2 u 0) (upd (S.1 (S.2.2 u 0)) (S.1 u 1).toNatClampNeg (x1 &&& 255))) u (upd ((va_up S.1 (S.2.2 u 0) (upd (S.1 (S.2.2 u 0)) (S.1 u 1).toNatClampNeg (x1 &&& 255))) u) 1 (((va_up S.1 (S.2.2 u 0) (upd (S.1 (S.2.2 u 0)) (S.1 u 1).toNatClampNeg (x1 &&& 255))) u 1) + 1)), S.2.1, S.2.2))) rfl rfl rfl ?_
    refine aw_lo (lo' := [some (.ref (oa u)), none]) ⟨.inr rfl, .inl rfl, trivial⟩ ?_
    exact s_Ro_add_36 C hQ hA hR hu (va_up (va_up S.1 (S.2.2 u 0) (upd (S.1 (S.2.2 u 0)) (S.1 u 1).toNatClampNeg (x1 &&& 255))) u (upd ((va_up S.1 (S.2.2 u 0) (upd (S.1 (S.2.2 u 0)) (S.1 u 1).toNatClampNeg (x1 &&& 255))) u) 1 (((va_up S.1 (S.2.2 u 0) (upd (S.1 (S.2.2 u 0)) (S.1 u 1).toNatClampNeg (x1 &&& 255))) u 1) + 1)), S.2.1, S.2.2)  hp
end C_Ro_add
section C_Ro_addc
variable {D : va_G} {z : Nat → ClassId} {U : ut} {oa : Nat → Nat}
set_option maxRecDepth 100000 in
theorem ct_Ro_add {l : Launch} (u : Nat) (x1 : Int32) (S : cs) {K : cs → Prop} (hu : c_cl U u = 9) (hp : p_Ro_add U u x1 S K) : ct gG D z l n_C_Ro_add c_C_Ro_add 2 (none) 1 100 [.ref (oa u), .int x1] (cw lt_C U oa S) 0 0 (pC_v lt_C U oa K (fun _ _ => False)) := by
  refine ct_of (lo := [some (.ref (oa u)), some (.int x1)]) (by decide) g_ok (Nat.le_of_ble_eq_true rfl) rfl ?_
  intro X A _ C hR hQ hA _
  exact s_Ro_add_0 C hQ hA hR hu x1 S hp
end C_Ro_addc
def b_Pa_writeBits_79 (U : ut) (u : Nat)  (S : cs) (R22 : cs → Prop) (K : cs → Prop) : Prop :=
  R22 S
def b_Pa_writeBits_22 (U : ut) (u : Nat)  (S : cs) (R22 : cs → Prop) (K : cs → Prop) : Prop :=
  ((S.1 u 11) < 8 → (K S)) ∧ (¬ ((S.1 u 11) < 8) → (¬ S.2.2 u 0 = NU ∧ (c_cl U (S.2.2 u 0) = 9 ∧ (p_Ro_add U (S.2.2 u 0) ((((va_up S.1 u (upd (S.1 u) 11 ((S.1 u 11) - 8))) u 10) >>> (((va_up S.1 u (upd (S.1 u) 11 ((S.1 u 11) - 8))) u 11) &&& 31 : Int32) : Int32) &&& 255) (va_up S.1 u (upd (S.1 u) 11 ((S.1 u 11) - 8)), S.2.1, S.2.2) (fun S61 => (¬ ((((va_up S.1 u (upd (S.1 u) 11 ((S.1 u 11) - 8))) u 10) >>> (((va_up S.1 u (upd (S.1 u) 11 ((S.1 u 11) - 8))) u 11) &&& 31 : Int32) : Int32) &&& 255) = 255 → (b_Pa_writeBits_79 U u S61 R22 K)) ∧ (((((va_up S.1 u (upd (S.1 u) 11 ((S.1 u 11) - 8))) u 10) >>> (((va_up S.1 u (upd (S.1 u) 11 ((S.1 u 11) - 8))) u 11) &&& 31 : Int32) : Int32) &&& 255) = 255 → (¬ S61.2.2 u 0 = NU ∧ (c_cl U (S61.2.2 u 0) = 9 ∧ (p_Ro_add U (S61.2.2 u 0) 0 S61 (fun S76 => b_Pa_writeBits_79 U u S76 R22 K))))))))))
def e_Pa_writeBits_22 (U : ut) (u : Nat)  (S : cs) (K : cs → Prop) : Prop :=
  ∃ (I : cs → Prop) (μ : cs → Nat), I S ∧ ∀ yS, I yS → b_Pa_writeBits_22 U u yS (fun zS => I zS ∧ μ zS < μ yS) K
def p_Pa_writeBits (U : ut) (u : Nat) (x1 : Int32) (x2 : Int32) (S : cs) (K : cs → Prop) : Prop :=
  e_Pa_writeBits_22 U u (va_up (va_up S.1 u (upd (S.1 u) 10 (((S.1 u 10) <<< (x2 &&& 31 : Int32) : Int32) ||| x1))) u (upd ((va_up S.1 u (upd (S.1 u) 10 (((S.1 u 10) <<< (x2 &&& 31 : Int32) : Int32) ||| x1))) u) 11 (((va_up S.1 u (upd (S.1 u) 10 (((S.1 u 10) <<< (x2 &&& 31 : Int32) : Int32) ||| x1))) u 11) + x2)), S.2.1, S.2.2) K
section C_Pa_writeBits
variable {D : va_G} {z : Nat → ClassId} {A : Nat → Prop} {X : cx} {L0 : fw} {U : ut} {oa : Nat → Nat} {u : Nat} {K : cs → Prop}
set_option maxRecDepth 100000 in
set_option maxHeartbeats 1000000 in
theorem s_Pa_writeBits_79 (C : fcx gG D z A X R_Pa c_C_Pa_writeBits 4 (none)) (hQ : X.2.2.2.2.2.2.2.2.2.2 = eQ gG D z X.2.2.2.2.2.2.2.1 X.2.2.2.2.1 L0 0 0 (pC_v lt_C U oa K (fun _ _ => False))) (hA : A = owA gG L0 X.2.2.2.2.1.heap.size) (hR : X.2.2.2.1 = { frames := 2, cells := 1, slots := 6, locals := 200 }) (hu : c_cl U u = 6)  (S : cs) (R22 : cs → Prop) (hR22 : ∀ yS, R22 yS → aw gG D z A X 4 22 [some (.ref (oa u)), none, none, none] [] (cw lt_C U oa yS) 0 0) (hp : b_Pa_writeBits_79 U u S R22 K) : aw gG D z A X 4 79 [some (.ref (oa u)), none, none, none] [] (cw lt_C U oa S) 0 0 := by
  unfold b_Pa_writeBits_79 at hp
  refine a_goto (tgt := 22) C dc_Pa_writeBits_79 (by decide) ?_
  refine aw_lo (lo' := [some (.ref (oa u)), none, none, none]) ⟨.inr rfl, .inr rfl, .inr rfl, .inr rfl, trivial⟩ ?_
  exact hR22 S hp
set_option maxRecDepth 100000 in
set_option maxHeartbeats 1000000 in
theorem s_Pa_writeBits_22 (C : fcx gG D z A X R_Pa c_C_Pa_writeBits 4 (none)) (hQ : X.2.2.2.2.2.2.2.2.2.2 = eQ gG D z X.2.2.2.2.2.2.2.1 X.2.2.2.2.1 L0 0 0 (pC_v lt_C U oa K (fun _ _ => False))) (hA : A = owA gG L0 X.2.2.2.2.1.heap.size) (hR : X.2.2.2.1 = { frames := 2, cells := 1, slots := 6, locals := 200 }) (hu : c_cl U u = 6)  (S : cs) (R22 : cs → Prop) (hR22 : ∀ yS, R22 yS → aw gG D z A X 4 22 [some (.ref (oa u)), none, none, none] [] (cw lt_C U oa yS) 0 0) (hp : b_Pa_writeBits_22 U u S R22 K) : aw gG D z A X 4 22 [some (.ref (oa u)), none, none, none] [] (cw lt_C U oa S) 0 0 := by
  unfold b_Pa_writeBits_22 at hp
  refine a_aload_n C dc_Pa_writeBits_22 rfl rfl ?_
  refine c_getI C u 11 dc_Pa_writeBits_23 hu rfl rfl (Nat.le_of_ble_eq_true rfl) f_Pa_276 (Nat.le_of_ble_eq_true rfl) ?_
  refine a_bipush (v := 8) C dc_Pa_writeBits_26 (by decide) ?_
  refine a_icmp_lt (tgt := 82) C dc_Pa_writeBits_28 (by decide) ⟨fun hc => ?_, fun hc => ?_⟩
  · have hp := hp.1 hc
    exact a_vret C hQ hA dc_Pa_writeBits_82 rfl (Or.inl ⟨S, hp, rfl, rfl⟩)
  · have hp := hp.2 hc
    refine a_aload_n C dc_Pa_writeBits_31 rfl rfl ?_
    refine a_dup C dc_Pa_writeBits_32 rfl ?_
    refine c_getI C u 11 dc_Pa_writeBits_33 hu rfl rfl (Nat.le_of_ble_eq_true rfl) f_Pa_276 (Nat.le_of_ble_eq_true rfl) ?_
    refine a_bipush (v := 8) C dc_Pa_writeBits_36 (by decide) ?_
    refine a_isub C dc_Pa_writeBits_38 ?_
    refine c_putI (ty := .int) C u 11 dc_Pa_writeBits_39 hu rfl rfl (Nat.le_of_ble_eq_true rfl) f_Pa_276 (Nat.le_of_ble_eq_true rfl) rfl rfl rfl rfl ?_
    refine aw_eq (lo' := _) (st' := _) (L' := (cw lt_C U oa (va_up S.1 u (upd (S.1 u) 11 ((S.1 u 11) - 8)), S.2.1, S.2.2))) rfl rfl rfl ?_
    refine a_aload_n C dc_Pa_writeBits_42 rfl rfl ?_
    refine c_getI C u 10 dc_Pa_writeBits_43 hu rfl rfl (Nat.le_of_ble_eq_true rfl) f_Pa_273 (Nat.le_of_ble_eq_true rfl) ?_
    refine a_aload_n C dc_Pa_writeBits_46 rfl rfl ?_
    refine c_getI C u 11 dc_Pa_writeBits_47 hu rfl rfl (Nat.le_of_ble_eq_true rfl) f_Pa_276 (Nat.le_of_ble_eq_true rfl) ?_
    refine a_ishr C dc_Pa_writeBits_50 ?_
    refine a_sipush (v := 255) C dc_Pa_writeBits_51 (by decide) ?_
    refine a_iand C dc_Pa_writeBits_54 ?_
    refine a_istore_n (lo' := [some (.ref (oa u)), none, none, some (.int ((((va_up S.1 u (upd (S.1 u) 11 ((S.1 u 11) - 8))) u 10) >>> (((va_up S.1 u (upd (S.1 u) 11 ((S.1 u 11) - 8))) u 11) &&& 31 : Int32) : Int32) &&& 255))]) C dc_Pa_writeBits_55 rfl (by decide) rfl ?_
    refine a_aload_n C dc_Pa_writeBits_56 rfl rfl ?_
    refine c_getR C u 0 dc_Pa_writeBits_57 hu rfl rfl (Nat.le_of_ble_eq_true rfl) f_Pa_15 rfl hp.1 ?_
    have hp := hp.2
    refine a_iload_n C dc_Pa_writeBits_60 rfl rfl ?_
    have hc1 := hp.1
    have hp := hp.2
    refine c_call (rest := []) (av := .ref (oa (S.2.2 u 0)) :: [.int ((((va_up S.1 u (upd (S.1 u) 11 ((S.1 u 11) - 8))) u 10) >>> (((va_up S.1 u (upd (S.1 u) 11 ((S.1 u 11) - 8))) u 11) &&& 31 : Int32) : Int32) &&& 255)]) C dc_Pa_writeBits_61 (ct_Ro_add (S.2.2 u 0) ((((va_up S.1 u (upd (S.1 u) 11 ((S.1 u 11) - 8))) u 10) >>> (((va_up S.1 u (upd (S.1 u) 11 ((S.1 u 11) - 8))) u 11) &&& 31 : Int32) : Int32) &&& 255) (va_up S.1 u (upd (S.1 u) 11 ((S.1 u 11) - 8)), S.2.1, S.2.2) hc1 hp) cd_C_Ro_add i_Ro (Nat.le_of_ble_eq_true rfl) (by rw [hR]; exact Nat.le_of_ble_eq_true rfl) (by rw [hR]; exact Nat.le_of_ble_eq_true rfl) (by rw [hR]; exact Nat.le_of_ble_eq_true rfl) (by rw [hR]; exact Nat.le_of_ble_eq_true rfl) (inv_V C (S.2.2 u 0) dc_Pa_writeBits_61 l_Pa_214 im_C_Ro_add se_C_Ro_add cd_C_Ro_add ⟨by decide, by decide⟩ ln_C_Ro_add rfl rfl (cw_obj hc1 rfl) rfl rfl) (fun oc L1 hL => ?_)
    obtain ⟨S61, hp, rfl, rfl⟩ := hL.resolve_right pC_no
    refine ⟨_, rfl, ?_⟩
    refine aw_eq (lo' := _) (st' := []) (L' := (cw lt_C U oa S61)) rfl rfl rfl ?_
    refine a_iload_n C dc_Pa_writeBits_64 rfl rfl ?_
    refine a_sipush (v := 255) C dc_Pa_writeBits_65 (by decide) ?_
    refine a_icmp_ne (tgt := 79) C dc_Pa_writeBits_68 (by decide) ⟨fun hc => ?_, fun hc => ?_⟩
    · have hp := hp.1 hc
      refine aw_lo (lo' := [some (.ref (oa u)), none, none, none]) ⟨.inr rfl, .inr rfl, .inr rfl, .inl rfl, trivial⟩ ?_
      exact s_Pa_writeBits_79 C hQ hA hR hu S61 R22 hR22 hp
    · have hp := hp.2 hc
      refine a_aload_n C dc_Pa_writeBits_71 rfl rfl ?_
      refine c_getR C u 0 dc_Pa_writeBits_72 hu rfl rfl (Nat.le_of_ble_eq_true rfl) f_Pa_15 rfl hp.1 ?_
      have hp := hp.2
      refine a_iconst (v := 0) C dc_Pa_writeBits_75 (by decide) ?_
      have hc2 := hp.1
      have hp := hp.2
      refine c_call (rest := []) (av := .ref (oa (S61.2.2 u 0)) :: [.int 0]) C dc_Pa_writeBits_76 (ct_Ro_add (S61.2.2 u 0) 0 S61 hc2 hp) cd_C_Ro_add i_Ro (Nat.le_of_ble_eq_true rfl) (by rw [hR]; exact Nat.le_of_ble_eq_true rfl) (by rw [hR]; exact Nat.le_of_ble_eq_true rfl) (by rw [hR]; exact Nat.le_of_ble_eq_true rfl) (by rw [hR]; exact Nat.le_of_ble_eq_true rfl) (inv_V C (S61.2.2 u 0) dc_Pa_writeBits_76 l_Pa_214 im_C_Ro_add se_C_Ro_add cd_C_Ro_add ⟨by decide, by decide⟩ ln_C_Ro_add rfl rfl (cw_obj hc2 rfl) rfl rfl) (fun oc L1 hL => ?_)
      obtain ⟨S76, hp, rfl, rfl⟩ := hL.resolve_right pC_no
      refine ⟨_, rfl, ?_⟩
      refine aw_eq (lo' := _) (st' := []) (L' := (cw lt_C U oa S76)) rfl rfl rfl ?_
      refine aw_lo (lo' := [some (.ref (oa u)), none, none, none]) ⟨.inr rfl, .inr rfl, .inr rfl, .inl rfl, trivial⟩ ?_
      exact s_Pa_writeBits_79 C hQ hA hR hu S76 R22 hR22 hp
set_option maxRecDepth 100000 in
set_option maxHeartbeats 1000000 in
theorem se_Pa_writeBits_22 (C : fcx gG D z A X R_Pa c_C_Pa_writeBits 4 (none)) (hQ : X.2.2.2.2.2.2.2.2.2.2 = eQ gG D z X.2.2.2.2.2.2.2.1 X.2.2.2.2.1 L0 0 0 (pC_v lt_C U oa K (fun _ _ => False))) (hA : A = owA gG L0 X.2.2.2.2.1.heap.size) (hR : X.2.2.2.1 = { frames := 2, cells := 1, slots := 6, locals := 200 }) (hu : c_cl U u = 6)  (S : cs) (hp : e_Pa_writeBits_22 U u S K) : aw gG D z A X 4 22 [some (.ref (oa u)), none, none, none] [] (cw lt_C U oa S) 0 0 := by
  obtain ⟨I, μ, h0, hs⟩ := hp
  have key : ∀ (n : Nat)  (yS : cs), μ yS < n → I yS → aw gG D z A X 4 22 [some (.ref (oa u)), none, none, none] [] (cw lt_C U oa yS) 0 0 := by
    intro n
    induction n with
    | zero => intro yS h; omega
    | succ n ih =>
      intro yS hn hI
      exact s_Pa_writeBits_22 C hQ hA hR hu yS _ (fun zS hw => ih zS (by omega) hw.1) (hs yS hI)
  exact key (μ S + 1) S (Nat.lt_succ_self _) h0
set_option maxRecDepth 100000 in
set_option maxHeartbeats 1000000 in
theorem s_Pa_writeBits_0 (C : fcx gG D z A X R_Pa c_C_Pa_writeBits 4 (none)) (hQ : X.2.2.2.2.2.2.2.2.2.2 = eQ gG D z X.2.2.2.2.2.2.2.1 X.2.2.2.2.1 L0 0 0 (pC_v lt_C U oa K (fun _ _ => False))) (hA : A = owA gG L0 X.2.2.2.2.1.heap.size) (hR : X.2.2.2.1 = { frames := 2, cells := 1, slots := 6, locals := 200 }) (hu : c_cl U u = 6) (x1 : Int32) (x2 : Int32) (S : cs) (hp : p_Pa_writeBits U u x1 x2 S K) : aw gG D z A X 4 0 [some (.ref (oa u)), some (.int x1), some (.int x2), none] [] (cw lt_C U oa S) 0 0 := by
  unfold p_Pa_writeBits at hp
  refine a_aload_n C dc_Pa_writeBits_0 rfl rfl ?_
  refine a_aload_n C dc_Pa_writeBits_1 rfl rfl ?_
  refine c_getI C u 10 dc_Pa_writeBits_2 hu rfl rfl (Nat.le_of_ble_eq_true rfl) f_Pa_273 (Nat.le_of_ble_eq_true rfl) ?_
  refine a_iload_n C dc_Pa_writeBits_5 rfl rfl ?_
  refine a_ishl C dc_Pa_writeBits_6 ?_
  refine a_iload_n C dc_Pa_writeBits_7 rfl rfl ?_
  refine a_ior C dc_Pa_writeBits_8 ?_
  refine c_putI (ty := .int) C u 10 dc_Pa_writeBits_9 hu rfl rfl (Nat.le_of_ble_eq_true rfl) f_Pa_273 (Nat.le_of_ble_eq_true rfl) rfl rfl rfl rfl ?_
  refine aw_eq (lo' := _) (st' := _) (L' := (cw lt_C U oa (va_up S.1 u (upd (S.1 u) 10 (((S.1 u 10) <<< (x2 &&& 31 : Int32) : Int32) ||| x1)), S.2.1, S.2.2))) rfl rfl rfl ?_
  refine a_aload_n C dc_Pa_writeBits_12 rfl rfl ?_
  refine a_dup C dc_Pa_writeBits_13 rfl ?_
  refine c_getI C u 11 dc_Pa_writeBits_14 hu rfl rfl (Nat.le_of_ble_eq_true rfl) f_Pa_276 (Nat.le_of_ble_eq_true rfl) ?_
  refine a_iload_n C dc_Pa_writeBits_17 rfl rfl ?_
  refine a_iadd C dc_Pa_writeBits_18 ?_
  refine c_putI (ty := .int) C u 11 dc_Pa_writeBits_19 hu rfl rfl (Nat.le_of_ble_eq_true rfl) f_Pa_276 (Nat.le_of_ble_eq_true rfl) rfl rfl rfl rfl ?_
  refine aw_eq (lo' := _) (st' := _) (L' := (cw lt_C U oa (va_up (va_up S.1 u (upd (S.1 u) 10 (((S.1 u 10) <<< (x2 &&& 31 : Int32) : Int32) ||| x1))) u (upd ((va_up S.1 u (upd (S.1 u) 10 (((S.1 u 10) <<< (x2 &&& 31 : Int32) : Int32) ||| x1))) u) 11 (((va_up S.1 u (upd (S.1 u) 10 (((S.1 u 10) <<< (x2 &&& 31 : Int32) : Int32) ||| x1))) u 11) + x2)), S.2.1, S.2.2))) rfl rfl rfl ?_
  refine aw_lo (lo' := [some (.ref (oa u)), none, none, none]) ⟨.inr rfl, .inl rfl, .inl rfl, .inr rfl, trivial⟩ ?_
  exact se_Pa_writeBits_22 C hQ hA hR hu (va_up (va_up S.1 u (upd (S.1 u) 10 (((S.1 u 10) <<< (x2 &&& 31 : Int32) : Int32) ||| x1))) u (upd ((va_up S.1 u (upd (S.1 u) 10 (((S.1 u 10) <<< (x2 &&& 31 : Int32) : Int32) ||| x1))) u) 11 (((va_up S.1 u (upd (S.1 u) 10 (((S.1 u 10) <<< (x2 &&& 31 : Int32) : Int32) ||| x1))) u 11) + x2)), S.2.1, S.2.2)  hp
end C_Pa_writeBits
section C_Pa_writeBitsc
variable {D : va_G} {z : Nat → ClassId} {U : ut} {oa : Nat → Nat}
set_option maxRecDepth 100000 in
theorem ct_Pa_writeBits {l : Launch} (u : Nat) (x1 : Int32) (x2 : Int32) (S : cs) {K : cs → Prop} (hu : c_cl U u = 6) (hp : p_Pa_writeBits U u x1 x2 S K) : ct gG D z l n_C_Pa_writeBits c_C_Pa_writeBits 4 (none) 2 200 [.ref (oa u), .int x1, .int x2] (cw lt_C U oa S) 0 0 (pC_v lt_C U oa K (fun _ _ => False)) := by
  refine ct_of (lo := [some (.ref (oa u)), some (.int x1), some (.int x2), none]) (by decide) g_ok (Nat.le_of_ble_eq_true rfl) rfl ?_
  intro X A _ C hR hQ hA _
  exact s_Pa_writeBits_0 C hQ hA hR hu x1 x2 S hp
end C_Pa_writeBitsc
def b_Pa_fillByte_29 (U : ut) (u : Nat)  (S : cs) (K : cs → Prop) : Prop :=
  K S
def p_Pa_fillByte (U : ut) (u : Nat)  (S : cs) (K : cs → Prop) : Prop :=
  ((S.1 u 11) ≤ 0 → (b_Pa_fillByte_29 U u S K)) ∧ (¬ ((S.1 u 11) ≤ 0) → (p_Pa_writeBits U u (((1 : Int32) <<< ((8 - (S.1 u 11)) &&& 31 : Int32) : Int32) - 1) (8 - (S.1 u 11)) S (fun S26 => b_Pa_fillByte_29 U u S26 K)))
section C_Pa_fillByte
variable {D : va_G} {z : Nat → ClassId} {A : Nat → Prop} {X : cx} {L0 : fw} {U : ut} {oa : Nat → Nat} {u : Nat} {K : cs → Prop}
set_option maxRecDepth 100000 in
set_option maxHeartbeats 1000000 in
theorem s_Pa_fillByte_29 (C : fcx gG D z A X R_Pa c_C_Pa_fillByte 1 (none)) (hQ : X.2.2.2.2.2.2.2.2.2.2 = eQ gG D z X.2.2.2.2.2.2.2.1 X.2.2.2.2.1 L0 0 0 (pC_v lt_C U oa K (fun _ _ => False))) (hA : A = owA gG L0 X.2.2.2.2.1.heap.size) (hR : X.2.2.2.1 = { frames := 3, cells := 1, slots := 6, locals := 300 }) (hu : c_cl U u = 6)  (S : cs) (hp : b_Pa_fillByte_29 U u S K) : aw gG D z A X 1 29 [some (.ref (oa u))] [] (cw lt_C U oa S) 0 0 := by
  unfold b_Pa_fillByte_29 at hp
  exact a_vret C hQ hA dc_Pa_fillByte_29 rfl (Or.inl ⟨S, hp, rfl, rfl⟩)
set_option maxRecDepth 100000 in
set_option maxHeartbeats 1000000 in
theorem s_Pa_fillByte_0 (C : fcx gG D z A X R_Pa c_C_Pa_fillByte 1 (none)) (hQ : X.2.2.2.2.2.2.2.2.2.2 = eQ gG D z X.2.2.2.2.2.2.2.1 X.2.2.2.2.1 L0 0 0 (pC_v lt_C U oa K (fun _ _ => False))) (hA : A = owA gG L0 X.2.2.2.2.1.heap.size) (hR : X.2.2.2.1 = { frames := 3, cells := 1, slots := 6, locals := 300 }) (hu : c_cl U u = 6)  (S : cs) (hp : p_Pa_fillByte U u S K) : aw gG D z A X 1 0 [some (.ref (oa u))] [] (cw lt_C U oa S) 0 0 := by
  unfold p_Pa_fillByte at hp
  refine a_aload_n C dc_Pa_fillByte_0 rfl rfl ?_
  refine c_getI C u 11 dc_Pa_fillByte_1 hu rfl rfl (Nat.le_of_ble_eq_true rfl) f_Pa_276 (Nat.le_of_ble_eq_true rfl) ?_
  refine a_if_le (tgt := 29) C dc_Pa_fillByte_4 (by decide) ⟨fun hc => ?_, fun hc => ?_⟩
  · have hp := hp.1 hc
    refine aw_lo (lo' := [some (.ref (oa u))]) ⟨.inr rfl, trivial⟩ ?_
    exact s_Pa_fillByte_29 C hQ hA hR hu S  hp
  · have hp := hp.2 hc
    refine a_aload_n C dc_Pa_fillByte_7 rfl rfl ?_
    refine a_iconst (v := 1) C dc_Pa_fillByte_8 (by decide) ?_
    refine a_bipush (v := 8) C dc_Pa_fillByte_9 (by decide) ?_
    refine a_aload_n C dc_Pa_fillByte_11 rfl rfl ?_
    refine c_getI C u 11 dc_Pa_fillByte_12 hu rfl rfl (Nat.le_of_ble_eq_true rfl) f_Pa_276 (Nat.le_of_ble_eq_true rfl) ?_
    refine a_isub C dc_Pa_fillByte_15 ?_
    refine a_ishl C dc_Pa_fillByte_16 ?_
    refine a_iconst (v := 1) C dc_Pa_fillByte_17 (by decide) ?_
    refine a_isub C dc_Pa_fillByte_18 ?_
    refine a_bipush (v := 8) C dc_Pa_fillByte_19 (by decide) ?_
    refine a_aload_n C dc_Pa_fillByte_21 rfl rfl ?_
    refine c_getI C u 11 dc_Pa_fillByte_22 hu rfl rfl (Nat.le_of_ble_eq_true rfl) f_Pa_276 (Nat.le_of_ble_eq_true rfl) ?_
    refine a_isub C dc_Pa_fillByte_25 ?_
    refine c_call (rest := []) (av := .ref (oa u) :: [.int (((1 : Int32) <<< ((8 - (S.1 u 11)) &&& 31 : Int32) : Int32) - 1), .int (8 - (S.1 u 11))]) C dc_Pa_fillByte_26 (ct_Pa_writeBits u (((1 : Int32) <<< ((8 - (S.1 u 11)) &&& 31 : Int32) : Int32) - 1) (8 - (S.1 u 11)) S hu hp) cd_C_Pa_writeBits i_Pa (Nat.le_of_ble_eq_true rfl) (by rw [hR]; exact Nat.le_of_ble_eq_true rfl) (by rw [hR]; exact Nat.le_of_ble_eq_true rfl) (by rw [hR]; exact Nat.le_of_ble_eq_true rfl) (by rw [hR]; exact Nat.le_of_ble_eq_true rfl) (inv_V C u dc_Pa_fillByte_26 l_Pa_269 im_C_Pa_writeBits se_C_Pa_writeBits cd_C_Pa_writeBits ⟨by decide, by decide⟩ ln_C_Pa_writeBits rfl rfl (cw_obj hu rfl) rfl rfl) (fun oc L1 hL => ?_)
    obtain ⟨S26, hp, rfl, rfl⟩ := hL.resolve_right pC_no
    refine ⟨_, rfl, ?_⟩
    refine aw_eq (lo' := _) (st' := []) (L' := (cw lt_C U oa S26)) rfl rfl rfl ?_
    refine aw_lo (lo' := [some (.ref (oa u))]) ⟨.inr rfl, trivial⟩ ?_
    exact s_Pa_fillByte_29 C hQ hA hR hu S26  hp
end C_Pa_fillByte
section C_Pa_fillBytec
variable {D : va_G} {z : Nat → ClassId} {U : ut} {oa : Nat → Nat}
set_option maxRecDepth 100000 in
theorem ct_Pa_fillByte {l : Launch} (u : Nat)  (S : cs) {K : cs → Prop} (hu : c_cl U u = 6) (hp : p_Pa_fillByte U u S K) : ct gG D z l n_C_Pa_fillByte c_C_Pa_fillByte 1 (none) 3 300 [.ref (oa u)] (cw lt_C U oa S) 0 0 (pC_v lt_C U oa K (fun _ _ => False)) := by
  refine ct_of (lo := [some (.ref (oa u))]) (by decide) g_ok (Nat.le_of_ble_eq_true rfl) rfl ?_
  intro X A _ C hR hQ hA _
  exact s_Pa_fillByte_0 C hQ hA hR hu S hp
end C_Pa_fillBytec
def p_Pa_addMark (U : ut) (u : Nat) (x1 : Int32) (S : cs) (K : cs → Prop) : Prop :=
  ¬ S.2.2 u 0 = NU ∧ (c_cl U (S.2.2 u 0) = 9 ∧ (p_Ro_add U (S.2.2 u 0) 255 S (fun S7 => ¬ S7.2.2 u 0 = NU ∧ (c_cl U (S7.2.2 u 0) = 9 ∧ (p_Ro_add U (S7.2.2 u 0) x1 S7 (fun S15 => K S15))))))
section C_Pa_addMark
variable {D : va_G} {z : Nat → ClassId} {A : Nat → Prop} {X : cx} {L0 : fw} {U : ut} {oa : Nat → Nat} {u : Nat} {K : cs → Prop}
set_option maxRecDepth 100000 in
set_option maxHeartbeats 1000000 in
theorem s_Pa_addMark_0 (C : fcx gG D z A X R_Pa c_C_Pa_addMark 2 (none)) (hQ : X.2.2.2.2.2.2.2.2.2.2 = eQ gG D z X.2.2.2.2.2.2.2.1 X.2.2.2.2.1 L0 0 0 (pC_v lt_C U oa K (fun _ _ => False))) (hA : A = owA gG L0 X.2.2.2.2.1.heap.size) (hR : X.2.2.2.1 = { frames := 2, cells := 1, slots := 6, locals := 200 }) (hu : c_cl U u = 6) (x1 : Int32) (S : cs) (hp : p_Pa_addMark U u x1 S K) : aw gG D z A X 2 0 [some (.ref (oa u)), some (.int x1)] [] (cw lt_C U oa S) 0 0 := by
  unfold p_Pa_addMark at hp
  refine a_aload_n C dc_Pa_addMark_0 rfl rfl ?_
  refine c_getR C u 0 dc_Pa_addMark_1 hu rfl rfl (Nat.le_of_ble_eq_true rfl) f_Pa_15 rfl hp.1 ?_
  have hp := hp.2
  refine a_sipush (v := 255) C dc_Pa_addMark_4 (by decide) ?_
  have hc1 := hp.1
  have hp := hp.2
  refine c_call (rest := []) (av := .ref (oa (S.2.2 u 0)) :: [.int 255]) C dc_Pa_addMark_7 (ct_Ro_add (S.2.2 u 0) 255 S hc1 hp) cd_C_Ro_add i_Ro (Nat.le_of_ble_eq_true rfl) (by rw [hR]; exact Nat.le_of_ble_eq_true rfl) (by rw [hR]; exact Nat.le_of_ble_eq_true rfl) (by rw [hR]; exact Nat.le_of_ble_eq_true rfl) (by rw [hR]; exact Nat.le_of_ble_eq_true rfl) (inv_V C (S.2.2 u 0) dc_Pa_addMark_7 l_Pa_214 im_C_Ro_add se_C_Ro_add cd_C_Ro_add ⟨by decide, by decide⟩ ln_C_Ro_add rfl rfl (cw_obj hc1 rfl) rfl rfl) (fun oc L1 hL => ?_)
  obtain ⟨S7, hp, rfl, rfl⟩ := hL.resolve_right pC_no
  refine ⟨_, rfl, ?_⟩
  refine aw_eq (lo' := _) (st' := []) (L' := (cw lt_C U oa S7)) rfl rfl rfl ?_
  refine a_aload_n C dc_Pa_addMark_10 rfl rfl ?_
  refine c_getR C u 0 dc_Pa_addMark_11 hu rfl rfl (Nat.le_of_ble_eq_true rfl) f_Pa_15 rfl hp.1 ?_
  have hp := hp.2
  refine a_iload_n C dc_Pa_addMark_14 rfl rfl ?_
  have hc2 := hp.1
  have hp := hp.2
  refine c_call (rest := []) (av := .ref (oa (S7.2.2 u 0)) :: [.int x1]) C dc_Pa_addMark_15 (ct_Ro_add (S7.2.2 u 0) x1 S7 hc2 hp) cd_C_Ro_add i_Ro (Nat.le_of_ble_eq_true rfl) (by rw [hR]; exact Nat.le_of_ble_eq_true rfl) (by rw [hR]; exact Nat.le_of_ble_eq_true rfl) (by rw [hR]; exact Nat.le_of_ble_eq_true rfl) (by rw [hR]; exact Nat.le_of_ble_eq_true rfl) (inv_V C (S7.2.2 u 0) dc_Pa_addMark_15 l_Pa_214 im_C_Ro_add se_C_Ro_add cd_C_Ro_add ⟨by decide, by decide⟩ ln_C_Ro_add rfl rfl (cw_obj hc2 rfl) rfl rfl) (fun oc L1 hL => ?_)
  obtain ⟨S15, hp, rfl, rfl⟩ := hL.resolve_right pC_no
  refine ⟨_, rfl, ?_⟩
  refine aw_eq (lo' := _) (st' := []) (L' := (cw lt_C U oa S15)) rfl rfl rfl ?_
  exact a_vret C hQ hA dc_Pa_addMark_18 rfl (Or.inl ⟨S15, hp, rfl, rfl⟩)
end C_Pa_addMark
section C_Pa_addMarkc
variable {D : va_G} {z : Nat → ClassId} {U : ut} {oa : Nat → Nat}
set_option maxRecDepth 100000 in
theorem ct_Pa_addMark {l : Launch} (u : Nat) (x1 : Int32) (S : cs) {K : cs → Prop} (hu : c_cl U u = 6) (hp : p_Pa_addMark U u x1 S K) : ct gG D z l n_C_Pa_addMark c_C_Pa_addMark 2 (none) 2 200 [.ref (oa u), .int x1] (cw lt_C U oa S) 0 0 (pC_v lt_C U oa K (fun _ _ => False)) := by
  refine ct_of (lo := [some (.ref (oa u)), some (.int x1)]) (by decide) g_ok (Nat.le_of_ble_eq_true rfl) rfl ?_
  intro X A _ C hR hQ hA _
  exact s_Pa_addMark_0 C hQ hA hR hu x1 S hp
end C_Pa_addMarkc
def b_Pa_writeAgain_16 (U : ut) (u : Nat)  (S : cs) (K : cs → Prop) : Prop :=
  ¬ S.2.2 u 7 = NU ∧ (p_Ar_fillI U (S.2.2 u 7) 0 S (fun S21 => K S21))
def p_Pa_writeAgain (U : ut) (u : Nat) (x1 : Int32) (S : cs) (K : cs → Prop) : Prop :=
  p_Pa_fillByte U u S (fun S1 => (¬ (S1.1 u 9) = 0 → (b_Pa_writeAgain_16 U u S1 K)) ∧ ((S1.1 u 9) = 0 → (p_Pa_addMark U u x1 S1 (fun S13 => b_Pa_writeAgain_16 U u S13 K))))
section C_Pa_writeAgain
variable {D : va_G} {z : Nat → ClassId} {A : Nat → Prop} {X : cx} {L0 : fw} {U : ut} {oa : Nat → Nat} {u : Nat} {K : cs → Prop}
set_option maxRecDepth 100000 in
set_option maxHeartbeats 1000000 in
theorem s_Pa_writeAgain_16 (C : fcx gG D z A X R_Pa c_C_Pa_writeAgain 2 (none)) (hQ : X.2.2.2.2.2.2.2.2.2.2 = eQ gG D z X.2.2.2.2.2.2.2.1 X.2.2.2.2.1 L0 0 0 (pC_v lt_C U oa K (fun _ _ => False))) (hA : A = owA gG L0 X.2.2.2.2.1.heap.size) (hR : X.2.2.2.1 = { frames := 4, cells := 1, slots := 6, locals := 400 }) (hu : c_cl U u = 6)  (S : cs) (hp : b_Pa_writeAgain_16 U u S K) : aw gG D z A X 2 16 [some (.ref (oa u)), none] [] (cw lt_C U oa S) 0 0 := by
  unfold b_Pa_writeAgain_16 at hp
  refine a_aload_n C dc_Pa_writeAgain_16 rfl rfl ?_
  refine c_getR C u 7 dc_Pa_writeAgain_17 hu rfl rfl (Nat.le_of_ble_eq_true rfl) f_Pa_59 rfl hp.1 ?_
  have hp := hp.2
  refine a_iconst (v := 0) C dc_Pa_writeAgain_20 (by decide) ?_
  refine c_call (rest := []) (av := [.ref (oa (S.2.2 u 7)), .int 0]) C dc_Pa_writeAgain_21 (ct_Ar_fillI (S.2.2 u 7) 0 S  hp) cd_C_Ar_fillI i_Ar (Nat.le_of_ble_eq_true rfl) (by rw [hR]; exact Nat.le_of_ble_eq_true rfl) (by rw [hR]; exact Nat.le_of_ble_eq_true rfl) (by rw [hR]; exact Nat.le_of_ble_eq_true rfl) (by rw [hR]; exact Nat.le_of_ble_eq_true rfl) (inv_S C dc_Pa_writeAgain_21 l_Pa_228 st_C_Ar_fillI i_Ar cd_C_Ar_fillI ⟨by decide, by decide⟩ ln_C_Ar_fillI rfl) (fun oc L1 hL => ?_)
  obtain ⟨S21, hp, rfl, rfl⟩ := hL.resolve_right pC_no
  refine ⟨_, rfl, ?_⟩
  refine aw_eq (lo' := _) (st' := []) (L' := (cw lt_C U oa S21)) rfl rfl rfl ?_
  exact a_vret C hQ hA dc_Pa_writeAgain_24 rfl (Or.inl ⟨S21, hp, rfl, rfl⟩)
set_option maxRecDepth 100000 in
set_option maxHeartbeats 1000000 in
theorem s_Pa_writeAgain_0 (C : fcx gG D z A X R_Pa c_C_Pa_writeAgain 2 (none)) (hQ : X.2.2.2.2.2.2.2.2.2.2 = eQ gG D z X.2.2.2.2.2.2.2.1 X.2.2.2.2.1 L0 0 0 (pC_v lt_C U oa K (fun _ _ => False))) (hA : A = owA gG L0 X.2.2.2.2.1.heap.size) (hR : X.2.2.2.1 = { frames := 4, cells := 1, slots := 6, locals := 400 }) (hu : c_cl U u = 6) (x1 : Int32) (S : cs) (hp : p_Pa_writeAgain U u x1 S K) : aw gG D z A X 2 0 [some (.ref (oa u)), some (.int x1)] [] (cw lt_C U oa S) 0 0 := by
  unfold p_Pa_writeAgain at hp
  refine a_aload_n C dc_Pa_writeAgain_0 rfl rfl ?_
  refine c_call (rest := []) (av := .ref (oa u) :: []) C dc_Pa_writeAgain_1 (ct_Pa_fillByte u S hu hp) cd_C_Pa_fillByte i_Pa (Nat.le_of_ble_eq_true rfl) (by rw [hR]; exact Nat.le_of_ble_eq_true rfl) (by rw [hR]; exact Nat.le_of_ble_eq_true rfl) (by rw [hR]; exact Nat.le_of_ble_eq_true rfl) (by rw [hR]; exact Nat.le_of_ble_eq_true rfl) (inv_V C u dc_Pa_writeAgain_1 l_Pa_246 im_C_Pa_fillByte se_C_Pa_fillByte cd_C_Pa_fillByte ⟨by decide, by decide⟩ ln_C_Pa_fillByte rfl rfl (cw_obj hu rfl) rfl rfl) (fun oc L1 hL => ?_)
  obtain ⟨S1, hp, rfl, rfl⟩ := hL.resolve_right pC_no
  refine ⟨_, rfl, ?_⟩
  refine aw_eq (lo' := _) (st' := []) (L' := (cw lt_C U oa S1)) rfl rfl rfl ?_
  refine a_aload_n C dc_Pa_writeAgain_4 rfl rfl ?_
  refine c_getI C u 9 dc_Pa_writeAgain_5 hu rfl rfl (Nat.le_of_ble_eq_true rfl) f_Pa_179 (Nat.le_of_ble_eq_true rfl) ?_
  refine a_if_ne (tgt := 16) C dc_Pa_writeAgain_8 (by decide) ⟨fun hc => ?_, fun hc => ?_⟩
  · have hp := hp.1 hc
    refine aw_lo (lo' := [some (.ref (oa u)), none]) ⟨.inr rfl, .inl rfl, trivial⟩ ?_
    exact s_Pa_writeAgain_16 C hQ hA hR hu S1  hp
  · have hp := hp.2 hc
    refine a_aload_n C dc_Pa_writeAgain_11 rfl rfl ?_
    refine a_iload_n C dc_Pa_writeAgain_12 rfl rfl ?_
    refine c_call (rest := []) (av := .ref (oa u) :: [.int x1]) C dc_Pa_writeAgain_13 (ct_Pa_addMark u x1 S1 hu hp) cd_C_Pa_addMark i_Pa (Nat.le_of_ble_eq_true rfl) (by rw [hR]; exact Nat.le_of_ble_eq_true rfl) (by rw [hR]; exact Nat.le_of_ble_eq_true rfl) (by rw [hR]; exact Nat.le_of_ble_eq_true rfl) (by rw [hR]; exact Nat.le_of_ble_eq_true rfl) (inv_V C u dc_Pa_writeAgain_13 l_Pa_195 im_C_Pa_addMark se_C_Pa_addMark cd_C_Pa_addMark ⟨by decide, by decide⟩ ln_C_Pa_addMark rfl rfl (cw_obj hu rfl) rfl rfl) (fun oc L1 hL => ?_)
    obtain ⟨S13, hp, rfl, rfl⟩ := hL.resolve_right pC_no
    refine ⟨_, rfl, ?_⟩
    refine aw_eq (lo' := _) (st' := []) (L' := (cw lt_C U oa S13)) rfl rfl rfl ?_
    refine aw_lo (lo' := [some (.ref (oa u)), none]) ⟨.inr rfl, .inl rfl, trivial⟩ ?_
    exact s_Pa_writeAgain_16 C hQ hA hR hu S13  hp
end C_Pa_writeAgain
section C_Pa_writeAgainc
variable {D : va_G} {z : Nat → ClassId} {U : ut} {oa : Nat → Nat}
set_option maxRecDepth 100000 in
theorem ct_Pa_writeAgain {l : Launch} (u : Nat) (x1 : Int32) (S : cs) {K : cs → Prop} (hu : c_cl U u = 6) (hp : p_Pa_writeAgain U u x1 S K) : ct gG D z l n_C_Pa_writeAgain c_C_Pa_writeAgain 2 (none) 4 400 [.ref (oa u), .int x1] (cw lt_C U oa S) 0 0 (pC_v lt_C U oa K (fun _ _ => False)) := by
  refine ct_of (lo := [some (.ref (oa u)), some (.int x1)]) (by decide) g_ok (Nat.le_of_ble_eq_true rfl) rfl ?_
  intro X A _ C hR hQ hA _
  exact s_Pa_writeAgain_0 C hQ hA hR hu x1 S hp
end C_Pa_writeAgainc
def b_Pa_bitsOf_7 (x1 : Int32) (x2 : Int32) (R7 : Int32 → Int32 → Prop) (K : Int32 → Prop) : Prop :=
  (x2 ≤ 0 → (K x1)) ∧ (¬ (x2 ≤ 0) → (R7 (x1 + 1) (x2 / 2)))
def e_Pa_bitsOf_7 (x1 : Int32) (x2 : Int32) (K : Int32 → Prop) : Prop :=
  ∃ (I : Int32 → Int32 → Prop) (μ : Int32 → Int32 → Nat), I x1 x2 ∧ ∀ yx1 yx2, I yx1 yx2 → b_Pa_bitsOf_7 yx1 yx2 (fun zx1 zx2 => I zx1 zx2 ∧ μ zx1 zx2 < μ yx1 yx2) K
def p_Pa_bitsOf (x0 : Int32) (K : Int32 → Prop) : Prop :=
  e_Pa_bitsOf_7 0 (i_abs x0) K
section C_Pa_bitsOf
variable {D : va_G} {z : Nat → ClassId} {A : Nat → Prop} {X : cx} {L0 : fw} {K : Int32 → Prop}
set_option maxRecDepth 100000 in
set_option maxHeartbeats 1000000 in
theorem s_Pa_bitsOf_7 (C : fcx gG D z A X R_Pa c_C_Pa_bitsOf 3 (some .int)) (hQ : X.2.2.2.2.2.2.2.2.2.2 = eQ gG D z X.2.2.2.2.2.2.2.1 X.2.2.2.2.1 L0 0 0 (pS_i K)) (hA : A = owA gG L0 X.2.2.2.2.1.heap.size) (hR : X.2.2.2.1 = { frames := 1, cells := 1, slots := 6, locals := 100 }) (x1 : Int32) (x2 : Int32) (R7 : Int32 → Int32 → Prop) (hR7 : ∀ yx1 yx2, R7 yx1 yx2 → aw gG D z A X 3 7 [none, some (.int yx1), some (.int yx2)] [] ([] : fw) 0 0) (hp : b_Pa_bitsOf_7 x1 x2 R7 K) : aw gG D z A X 3 7 [none, some (.int x1), some (.int x2)] [] ([] : fw) 0 0 := by
  unfold b_Pa_bitsOf_7 at hp
  refine a_iload_n C dc_Pa_bitsOf_7 rfl rfl ?_
  refine a_if_le (tgt := 21) C dc_Pa_bitsOf_8 (by decide) ⟨fun hc => ?_, fun hc => ?_⟩
  · have hp := hp.1 hc
    refine a_iload_n C dc_Pa_bitsOf_21 rfl rfl ?_
    exact a_iret (ty := .int) C hQ hA dc_Pa_bitsOf_22 rfl rfl ⟨_, hp, rfl, rfl⟩
  · have hp := hp.2 hc
    refine a_iinc (v := x1 + 1) (lo' := [none, some (.int (x1 + 1)), some (.int x2)]) C dc_Pa_bitsOf_11 rfl rfl (by decide) rfl ?_
    refine a_iload_n C dc_Pa_bitsOf_14 rfl rfl ?_
    refine a_iconst (v := 2) C dc_Pa_bitsOf_15 (by decide) ?_
    refine a_idiv C dc_Pa_bitsOf_16 (by decide) ?_
    refine a_istore_n (lo' := [none, some (.int (x1 + 1)), some (.int (x2 / 2))]) C dc_Pa_bitsOf_17 rfl (by decide) rfl ?_
    refine a_goto (tgt := 7) C dc_Pa_bitsOf_18 (by decide) ?_
    refine aw_lo (lo' := [none, some (.int (x1 + 1)), some (.int (x2 / 2))]) ⟨.inr rfl, .inr rfl, .inr rfl, trivial⟩ ?_
    exact hR7 (x1 + 1) (x2 / 2) hp
set_option maxRecDepth 100000 in
set_option maxHeartbeats 1000000 in
theorem se_Pa_bitsOf_7 (C : fcx gG D z A X R_Pa c_C_Pa_bitsOf 3 (some .int)) (hQ : X.2.2.2.2.2.2.2.2.2.2 = eQ gG D z X.2.2.2.2.2.2.2.1 X.2.2.2.2.1 L0 0 0 (pS_i K)) (hA : A = owA gG L0 X.2.2.2.2.1.heap.size) (hR : X.2.2.2.1 = { frames := 1, cells := 1, slots := 6, locals := 100 }) (x1 : Int32) (x2 : Int32) (hp : e_Pa_bitsOf_7 x1 x2 K) : aw gG D z A X 3 7 [none, some (.int x1), some (.int x2)] [] ([] : fw) 0 0 := by
  obtain ⟨I, μ, h0, hs⟩ := hp
  have key : ∀ (n : Nat) (yx1 : Int32) (yx2 : Int32), μ yx1 yx2 < n → I yx1 yx2 → aw gG D z A X 3 7 [none, some (.int yx1), some (.int yx2)] [] ([] : fw) 0 0 := by
    intro n
    induction n with
    | zero => intro yx1 yx2 h; omega
    | succ n ih =>
      intro yx1 yx2 hn hI
      exact s_Pa_bitsOf_7 C hQ hA hR yx1 yx2 _ (fun zx1 zx2 hw => ih zx1 zx2 (by omega) hw.1) (hs yx1 yx2 hI)
  exact key (μ x1 x2 + 1) x1 x2 (Nat.lt_succ_self _) h0
set_option maxRecDepth 100000 in
set_option maxHeartbeats 1000000 in
theorem s_Pa_bitsOf_0 (C : fcx gG D z A X R_Pa c_C_Pa_bitsOf 3 (some .int)) (hQ : X.2.2.2.2.2.2.2.2.2.2 = eQ gG D z X.2.2.2.2.2.2.2.1 X.2.2.2.2.1 L0 0 0 (pS_i K)) (hA : A = owA gG L0 X.2.2.2.2.1.heap.size) (hR : X.2.2.2.1 = { frames := 1, cells := 1, slots := 6, locals := 100 }) (x0 : Int32) (hp : p_Pa_bitsOf x0 K) : aw gG D z A X 3 0 [some (.int x0), none, none] [] ([] : fw) 0 0 := by
  unfold p_Pa_bitsOf at hp
  refine a_iconst (v := 0) C dc_Pa_bitsOf_0 (by decide) ?_
  refine a_istore_n (lo' := [some (.int x0), some (.int 0), none]) C dc_Pa_bitsOf_1 rfl (by decide) rfl ?_
  refine a_iload_n C dc_Pa_bitsOf_2 rfl rfl ?_
  refine a_ab C dc_Pa_bitsOf_3 l_Pa_171 st_Ma_abs i_Ma cd_Ma_abs (Nat.le_of_ble_eq_true rfl) (by rw [hR]; exact Nat.le_of_ble_eq_true rfl) (by rw [hR]; exact Nat.le_of_ble_eq_true rfl) (by rw [hR]; exact Nat.le_of_ble_eq_true rfl) (by rw [hR]; exact Nat.le_of_ble_eq_true rfl) ?_
  refine a_istore_n (lo' := [some (.int x0), some (.int 0), some (.int (i_abs x0))]) C dc_Pa_bitsOf_6 rfl (by decide) rfl ?_
  refine aw_lo (lo' := [none, some (.int 0), some (.int (i_abs x0))]) ⟨.inl rfl, .inr rfl, .inr rfl, trivial⟩ ?_
  exact se_Pa_bitsOf_7 C hQ hA hR 0 (i_abs x0)  hp
end C_Pa_bitsOf
section C_Pa_bitsOfc
variable {D : va_G} {z : Nat → ClassId}
set_option maxRecDepth 100000 in
theorem ct_Pa_bitsOf {l : Launch} (x0 : Int32) {K : Int32 → Prop} (hp : p_Pa_bitsOf x0 K) : ct gG D z l n_C_Pa_bitsOf c_C_Pa_bitsOf 3 (some .int) 1 100 [.int x0] ([] : fw) 0 0 (pS_i K) := by
  refine ct_of (lo := [some (.int x0), none, none]) (by decide) g_ok (Nat.le_of_ble_eq_true rfl) rfl ?_
  intro X A _ C hR hQ hA _
  exact s_Pa_bitsOf_0 C hQ hA hR x0 hp
end C_Pa_bitsOfc
def b_Pa_writeSymbol_69 (U : ut) (u : Nat) (x4 : Int32) (s1 : Int32) (S : cs) (K : cs → Prop) : Prop :=
  p_Pa_writeBits U u s1 x4 S (fun S71 => K S71)
def p_Pa_writeSymbol (U : ut) (u : Nat) (x1 : Nat) (x2 : Int32) (x3 : Int32) (S : cs) (K : cs → Prop) : Prop :=
  p_B_isWithin x2 0 255 (fun v5 => (¬ v5 = 0 → (((S.1 u 9) = 0 → (c_cl U x1 = 5 ∧ (¬ S.2.2 x1 2 = NU ∧ (c_cl U (S.2.2 x1 2) = 902 ∧ (vp_in x2 (c_ln U (S.2.2 x1 2)) ∧ (¬ S.2.2 x1 1 = NU ∧ (c_cl U (S.2.2 x1 1) = 902 ∧ (vp_in x2 (c_ln U (S.2.2 x1 1)) ∧ (p_Pa_writeBits U u (S.1 (S.2.2 x1 2) x2.toNatClampNeg) (S.1 (S.2.2 x1 1) x2.toNatClampNeg) S (fun S49 => (0 ≤ x3 → (b_Pa_writeSymbol_69 U u (x2 - x2 / 16 * 16) x3 S49 K)) ∧ (¬ (0 ≤ x3) → (b_Pa_writeSymbol_69 U u (x2 - x2 / 16 * 16) ((x3 + ((1 : Int32) <<< ((x2 - x2 / 16 * 16) &&& 31 : Int32) : Int32)) - 1) S49 K)))))))))))) ∧ (¬ ((S.1 u 9) = 0) → (c_cl U x1 = 5 ∧ (¬ S.2.2 x1 0 = NU ∧ (c_cl U (S.2.2 x1 0) = 902 ∧ (vp_in x2 (c_ln U (S.2.2 x1 0)) ∧ (vp_in x2 (c_ln U (S.2.2 x1 0)) ∧ (K (va_up S.1 (S.2.2 x1 0) (upd (S.1 (S.2.2 x1 0)) x2.toNatClampNeg ((S.1 (S.2.2 x1 0) x2.toNatClampNeg) + 1)), S.2.1, S.2.2)))))))))) ∧ (v5 = 0 → (K S)))
section C_Pa_writeSymbol
variable {D : va_G} {z : Nat → ClassId} {A : Nat → Prop} {X : cx} {L0 : fw} {U : ut} {oa : Nat → Nat} {u : Nat} {K : cs → Prop}
set_option maxRecDepth 100000 in
set_option maxHeartbeats 1000000 in
theorem s_Pa_writeSymbol_69 (C : fcx gG D z A X R_Pa c_C_Pa_writeSymbol 5 (none)) (hQ : X.2.2.2.2.2.2.2.2.2.2 = eQ gG D z X.2.2.2.2.2.2.2.1 X.2.2.2.2.1 L0 0 0 (pC_v lt_C U oa K (fun _ _ => False))) (hA : A = owA gG L0 X.2.2.2.2.1.heap.size) (hR : X.2.2.2.1 = { frames := 3, cells := 1, slots := 6, locals := 300 }) (hu : c_cl U u = 6) (x4 : Int32) (s1 : Int32) (S : cs) (hp : b_Pa_writeSymbol_69 U u x4 s1 S K) : aw gG D z A X 5 69 [some (.ref (oa u)), none, none, none, some (.int x4)] [.int s1, .ref (oa u)] (cw lt_C U oa S) 0 0 := by
  unfold b_Pa_writeSymbol_69 at hp
  refine a_iload C dc_Pa_writeSymbol_69 rfl ?_
  refine c_call (rest := []) (av := .ref (oa u) :: [.int s1, .int x4]) C dc_Pa_writeSymbol_71 (ct_Pa_writeBits u s1 x4 S hu hp) cd_C_Pa_writeBits i_Pa (Nat.le_of_ble_eq_true rfl) (by rw [hR]; exact Nat.le_of_ble_eq_true rfl) (by rw [hR]; exact Nat.le_of_ble_eq_true rfl) (by rw [hR]; exact Nat.le_of_ble_eq_true rfl) (by rw [hR]; exact Nat.le_of_ble_eq_true rfl) (inv_V C u dc_Pa_writeSymbol_71 l_Pa_269 im_C_Pa_writeBits se_C_Pa_writeBits cd_C_Pa_writeBits ⟨by decide, by decide⟩ ln_C_Pa_writeBits rfl rfl (cw_obj hu rfl) rfl rfl) (fun oc L1 hL => ?_)
  obtain ⟨S71, hp, rfl, rfl⟩ := hL.resolve_right pC_no
  refine ⟨_, rfl, ?_⟩
  refine aw_eq (lo' := _) (st' := []) (L' := (cw lt_C U oa S71)) rfl rfl rfl ?_
  exact a_vret C hQ hA dc_Pa_writeSymbol_74 rfl (Or.inl ⟨S71, hp, rfl, rfl⟩)
set_option maxRecDepth 100000 in
set_option maxHeartbeats 1000000 in
theorem s_Pa_writeSymbol_0 (C : fcx gG D z A X R_Pa c_C_Pa_writeSymbol 5 (none)) (hQ : X.2.2.2.2.2.2.2.2.2.2 = eQ gG D z X.2.2.2.2.2.2.2.1 X.2.2.2.2.1 L0 0 0 (pC_v lt_C U oa K (fun _ _ => False))) (hA : A = owA gG L0 X.2.2.2.2.1.heap.size) (hR : X.2.2.2.1 = { frames := 3, cells := 1, slots := 6, locals := 300 }) (hu : c_cl U u = 6) (x1 : Nat) (x2 : Int32) (x3 : Int32) (S : cs) (hp : p_Pa_writeSymbol U u x1 x2 x3 S K) : aw gG D z A X 5 0 [some (.ref (oa u)), some (.ref (oa x1)), some (.int x2), some (.int x3), none] [] (cw lt_C U oa S) 0 0 := by
  unfold p_Pa_writeSymbol at hp
  refine a_iload_n C dc_Pa_writeSymbol_0 rfl rfl ?_
  refine a_iconst (v := 0) C dc_Pa_writeSymbol_1 (by decide) ?_
  refine a_sipush (v := 255) C dc_Pa_writeSymbol_2 (by decide) ?_
  refine a_callP (rest := []) (av := [.int x2, .int 0, .int 255]) C dc_Pa_writeSymbol_5 (ct_B_isWithin x2 0 255 hp) cd_C_B_isWithin i_B (Nat.le_of_ble_eq_true rfl) (by rw [hR]; exact Nat.le_of_ble_eq_true rfl) (by rw [hR]; exact Nat.le_of_ble_eq_true rfl) (by rw [hR]; exact Nat.le_of_ble_eq_true rfl) (by rw [hR]; exact Nat.le_of_ble_eq_true rfl) (inv_SN C dc_Pa_writeSymbol_5 l_Pa_256 st_C_B_isWithin i_B cd_C_B_isWithin ⟨by decide, by decide⟩ ln_C_B_isWithin rfl) (fun v5 hp => ?_)
  refine aw_eq (lo' := _) (st' := [.int v5]) (L' := (cw lt_C U oa S)) rfl rfl rfl ?_
  refine a_if_ne (tgt := 12) C dc_Pa_writeSymbol_8 (by decide) ⟨fun hc => ?_, fun hc => ?_⟩
  · have hp := hp.1 hc
    refine a_aload_n C dc_Pa_writeSymbol_12 rfl rfl ?_
    refine c_getI C u 9 dc_Pa_writeSymbol_13 hu rfl rfl (Nat.le_of_ble_eq_true rfl) f_Pa_179 (Nat.le_of_ble_eq_true rfl) ?_
    refine a_if_eq (tgt := 30) C dc_Pa_writeSymbol_16 (by decide) ⟨fun hc => ?_, fun hc => ?_⟩
    · have hp := hp.1 hc
      refine a_iload_n C dc_Pa_writeSymbol_30 rfl rfl ?_
      refine a_bipush (v := 16) C dc_Pa_writeSymbol_31 (by decide) ?_
      refine a_irem C dc_Pa_writeSymbol_33 (by decide) ?_
      refine a_istore (lo' := [some (.ref (oa u)), some (.ref (oa x1)), some (.int x2), some (.int x3), some (.int (x2 - x2 / 16 * 16))]) C dc_Pa_writeSymbol_34 (by decide) rfl ?_
      refine a_aload_n C dc_Pa_writeSymbol_36 rfl rfl ?_
      refine a_aload_n C dc_Pa_writeSymbol_37 rfl rfl ?_
      have hc1 := hp.1
      have hp := hp.2
      refine c_getRN C x1 2 dc_Pa_writeSymbol_38 hc1 rfl rfl (Nat.le_of_ble_eq_true rfl) f_Pa_263 rfl hp.1 ?_
      have hp := hp.2
      refine a_iload_n C dc_Pa_writeSymbol_41 rfl rfl ?_
      have hc2 := hp.1
      have hp := hp.2
      refine c_iald C (S.2.2 x1 2) dc_Pa_writeSymbol_42 hc2 hp.1 ?_
      have hp := hp.2
      refine a_aload_n C dc_Pa_writeSymbol_43 rfl rfl ?_
      refine c_getRN C x1 1 dc_Pa_writeSymbol_44 hc1 rfl rfl (Nat.le_of_ble_eq_true rfl) f_Pa_266 rfl hp.1 ?_
      have hp := hp.2
      refine a_iload_n C dc_Pa_writeSymbol_47 rfl rfl ?_
      have hc3 := hp.1
      have hp := hp.2
      refine c_iald C (S.2.2 x1 1) dc_Pa_writeSymbol_48 hc3 hp.1 ?_
      have hp := hp.2
      refine c_call (rest := []) (av := .ref (oa u) :: [.int (S.1 (S.2.2 x1 2) x2.toNatClampNeg), .int (S.1 (S.2.2 x1 1) x2.toNatClampNeg)]) C dc_Pa_writeSymbol_49 (ct_Pa_writeBits u (S.1 (S.2.2 x1 2) x2.toNatClampNeg) (S.1 (S.2.2 x1 1) x2.toNatClampNeg) S hu hp) cd_C_Pa_writeBits i_Pa (Nat.le_of_ble_eq_true rfl) (by rw [hR]; exact Nat.le_of_ble_eq_true rfl) (by rw [hR]; exact Nat.le_of_ble_eq_true rfl) (by rw [hR]; exact Nat.le_of_ble_eq_true rfl) (by rw [hR]; exact Nat.le_of_ble_eq_true rfl) (inv_V C u dc_Pa_writeSymbol_49 l_Pa_269 im_C_Pa_writeBits se_C_Pa_writeBits cd_C_Pa_writeBits ⟨by decide, by decide⟩ ln_C_Pa_writeBits rfl rfl (cw_obj hu rfl) rfl rfl) (fun oc L1 hL => ?_)
      obtain ⟨S49, hp, rfl, rfl⟩ := hL.resolve_right pC_no
      refine ⟨_, rfl, ?_⟩
      refine aw_eq (lo' := _) (st' := []) (L' := (cw lt_C U oa S49)) rfl rfl rfl ?_
      refine a_aload_n C dc_Pa_writeSymbol_52 rfl rfl ?_
      refine a_iload_n C dc_Pa_writeSymbol_53 rfl rfl ?_
      refine a_if_ge (tgt := 68) C dc_Pa_writeSymbol_54 (by decide) ⟨fun hc => ?_, fun hc => ?_⟩
      · have hp := hp.1 hc
        refine a_iload_n C dc_Pa_writeSymbol_68 rfl rfl ?_
        refine aw_lo (lo' := [some (.ref (oa u)), none, none, none, some (.int (x2 - x2 / 16 * 16))]) ⟨.inr rfl, .inl rfl, .inl rfl, .inl rfl, .inr rfl, trivial⟩ ?_
        exact s_Pa_writeSymbol_69 C hQ hA hR hu (x2 - x2 / 16 * 16) x3 S49  hp
      · have hp := hp.2 hc
        refine a_iload_n C dc_Pa_writeSymbol_57 rfl rfl ?_
        refine a_iconst (v := 1) C dc_Pa_writeSymbol_58 (by decide) ?_
        refine a_iload C dc_Pa_writeSymbol_59 rfl ?_
        refine a_ishl C dc_Pa_writeSymbol_61 ?_
        refine a_iadd C dc_Pa_writeSymbol_62 ?_
        refine a_iconst (v := 1) C dc_Pa_writeSymbol_63 (by decide) ?_
        refine a_isub C dc_Pa_writeSymbol_64 ?_
        refine a_goto (tgt := 69) C dc_Pa_writeSymbol_65 (by decide) ?_
        refine aw_lo (lo' := [some (.ref (oa u)), none, none, none, some (.int (x2 - x2 / 16 * 16))]) ⟨.inr rfl, .inl rfl, .inl rfl, .inl rfl, .inr rfl, trivial⟩ ?_
        exact s_Pa_writeSymbol_69 C hQ hA hR hu (x2 - x2 / 16 * 16) ((x3 + ((1 : Int32) <<< ((x2 - x2 / 16 * 16) &&& 31 : Int32) : Int32)) - 1) S49  hp
    · have hp := hp.2 hc
      refine a_aload_n C dc_Pa_writeSymbol_19 rfl rfl ?_
      have hc4 := hp.1
      have hp := hp.2
      refine c_getRN C x1 0 dc_Pa_writeSymbol_20 hc4 rfl rfl (Nat.le_of_ble_eq_true rfl) f_Pa_260 rfl hp.1 ?_
      have hp := hp.2
      refine a_iload_n C dc_Pa_writeSymbol_23 rfl rfl ?_
      refine a_dup2 C dc_Pa_writeSymbol_24 rfl rfl ?_
      have hc5 := hp.1
      have hp := hp.2
      refine c_iald C (S.2.2 x1 0) dc_Pa_writeSymbol_25 hc5 hp.1 ?_
      have hp := hp.2
      refine a_iconst (v := 1) C dc_Pa_writeSymbol_26 (by decide) ?_
      refine a_iadd C dc_Pa_writeSymbol_27 ?_
      refine c_iast C (S.2.2 x1 0) dc_Pa_writeSymbol_28 hc5 hp.1 ?_
      have hp := hp.2
      refine aw_eq (lo' := _) (st' := _) (L' := (cw lt_C U oa (va_up S.1 (S.2.2 x1 0) (upd (S.1 (S.2.2 x1 0)) x2.toNatClampNeg ((S.1 (S.2.2 x1 0) x2.toNatClampNeg) + 1)), S.2.1, S.2.2))) rfl rfl rfl ?_
      exact a_vret C hQ hA dc_Pa_writeSymbol_29 rfl (Or.inl ⟨(va_up S.1 (S.2.2 x1 0) (upd (S.1 (S.2.2 x1 0)) x2.toNatClampNeg ((S.1 (S.2.2 x1 0) x2.toNatClampNeg) + 1)), S.2.1, S.2.2), hp, rfl, rfl⟩)
  · have hp := hp.2 hc
    exact a_vret C hQ hA dc_Pa_writeSymbol_11 rfl (Or.inl ⟨S, hp, rfl, rfl⟩)
end C_Pa_writeSymbol
section C_Pa_writeSymbolc
variable {D : va_G} {z : Nat → ClassId} {U : ut} {oa : Nat → Nat}
set_option maxRecDepth 100000 in
theorem ct_Pa_writeSymbol {l : Launch} (u : Nat) (x1 : Nat) (x2 : Int32) (x3 : Int32) (S : cs) {K : cs → Prop} (hu : c_cl U u = 6) (hp : p_Pa_writeSymbol U u x1 x2 x3 S K) : ct gG D z l n_C_Pa_writeSymbol c_C_Pa_writeSymbol 5 (none) 3 300 [.ref (oa u), .ref (oa x1), .int x2, .int x3] (cw lt_C U oa S) 0 0 (pC_v lt_C U oa K (fun _ _ => False)) := by
  refine ct_of (lo := [some (.ref (oa u)), some (.ref (oa x1)), some (.int x2), some (.int x3), none]) (by decide) g_ok (Nat.le_of_ble_eq_true rfl) rfl ?_
  intro X A _ C hR hQ hA _
  exact s_Pa_writeSymbol_0 C hQ hA hR hu x1 x2 x3 S hp
end C_Pa_writeSymbolc
def b_Pa_writeBlock_176 (U : ut) (u : Nat)  (S : cs) (K : cs → Prop) : Prop :=
  K S
def b_Pa_writeBlock_157 (U : ut) (u : Nat) (x3 : Int32) (x5 : Nat) (x6 : Int32) (x7 : Int32) (S : cs) (R80 : Int32 → Nat → Int32 → Int32 → cs → Prop) (K : cs → Prop) : Prop :=
  R80 x3 x5 x6 (x7 + 1) S
def b_Pa_writeBlock_112 (U : ut) (u : Nat) (x3 : Int32) (x5 : Nat) (x6 : Int32) (x7 : Int32) (x8 : Int32) (S : cs) (R80 : Int32 → Nat → Int32 → Int32 → cs → Prop) (R112 : Int32 → Nat → Int32 → Int32 → Int32 → cs → Prop) (K : cs → Prop) : Prop :=
  (x6 < 16 → (p_Pa_bitsOf x8 (fun v145 => p_Pa_writeSymbol U u x5 ((16 * x6) + v145) x8 S (fun S151 => b_Pa_writeBlock_157 U u x3 x5 0 x7 S151 R80 K)))) ∧ (¬ (x6 < 16) → (p_Pa_writeSymbol U u x5 240 0 S (fun S126 => R112 x3 x5 (x6 + (-16)) x7 x8 S126)))
def e_Pa_writeBlock_112 (U : ut) (u : Nat) (x3 : Int32) (x5 : Nat) (x6 : Int32) (x7 : Int32) (x8 : Int32) (S : cs) (R80 : Int32 → Nat → Int32 → Int32 → cs → Prop) (K : cs → Prop) : Prop :=
  ∃ (I : Int32 → Nat → Int32 → Int32 → Int32 → cs → Prop) (μ : Int32 → Nat → Int32 → Int32 → Int32 → cs → Nat), I x3 x5 x6 x7 x8 S ∧ ∀ yx3 yx5 yx6 yx7 yx8 yS, I yx3 yx5 yx6 yx7 yx8 yS → b_Pa_writeBlock_112 U u yx3 yx5 yx6 yx7 yx8 yS R80 (fun zx3 zx5 zx6 zx7 zx8 zS => I zx3 zx5 zx6 zx7 zx8 zS ∧ μ zx3 zx5 zx6 zx7 zx8 zS < μ yx3 yx5 yx6 yx7 yx8 yS) K
def b_Pa_writeBlock_80 (U : ut) (u : Nat) (x3 : Int32) (x5 : Nat) (x6 : Int32) (x7 : Int32) (S : cs) (R80 : Int32 → Nat → Int32 → Int32 → cs → Prop) (K : cs → Prop) : Prop :=
  (64 ≤ x7 → ((x6 ≤ 0 → (b_Pa_writeBlock_176 U u S K)) ∧ (¬ (x6 ≤ 0) → (p_Pa_writeSymbol U u x5 0 0 S (fun S173 => b_Pa_writeBlock_176 U u S173 K))))) ∧ (¬ (64 ≤ x7) → (¬ S.2.2 u 2 = NU ∧ (c_cl U (S.2.2 u 2) = 7 ∧ (¬ S.2.2 (S.2.2 u 2) 13 = NU ∧ (c_cl U (S.2.2 (S.2.2 u 2) 13) = 902 ∧ (vp_in (x3 + x7) (c_ln U (S.2.2 (S.2.2 u 2) 13)) ∧ ((¬ (S.1 (S.2.2 (S.2.2 u 2) 13) (x3 + x7).toNatClampNeg) = 0 → (e_Pa_writeBlock_112 U u x3 x5 x6 x7 (S.1 (S.2.2 (S.2.2 u 2) 13) (x3 + x7).toNatClampNeg) S R80 K)) ∧ ((S.1 (S.2.2 (S.2.2 u 2) 13) (x3 + x7).toNatClampNeg) = 0 → (b_Pa_writeBlock_157 U u x3 x5 (x6 + 1) x7 S R80 K)))))))))
def e_Pa_writeBlock_80 (U : ut) (u : Nat) (x3 : Int32) (x5 : Nat) (x6 : Int32) (x7 : Int32) (S : cs) (K : cs → Prop) : Prop :=
  ∃ (I : Int32 → Nat → Int32 → Int32 → cs → Prop) (μ : Int32 → Nat → Int32 → Int32 → cs → Nat), I x3 x5 x6 x7 S ∧ ∀ yx3 yx5 yx6 yx7 yS, I yx3 yx5 yx6 yx7 yS → b_Pa_writeBlock_80 U u yx3 yx5 yx6 yx7 yS (fun zx3 zx5 zx6 zx7 zS => I zx3 zx5 zx6 zx7 zS ∧ μ zx3 zx5 zx6 zx7 zS < μ yx3 yx5 yx6 yx7 yS) K
def p_Pa_writeBlock (U : ut) (u : Nat) (x1 : Int32) (S : cs) (K : cs → Prop) : Prop :=
  ¬ S.2.2 u 2 = NU ∧ (c_cl U (S.2.2 u 2) = 7 ∧ (¬ S.2.2 (S.2.2 u 2) 13 = NU ∧ (c_cl U (S.2.2 (S.2.2 u 2) 13) = 902 ∧ (vp_in (64 * x1) (c_ln U (S.2.2 (S.2.2 u 2) 13)) ∧ (¬ S.2.2 u 7 = NU ∧ (c_cl U (S.2.2 u 7) = 902 ∧ (vp_in (x1 / 64) (c_ln U (S.2.2 u 7)) ∧ (¬ S.2.2 u 7 = NU ∧ (¬ S.2.2 u 2 = NU ∧ (¬ S.2.2 (S.2.2 u 2) 13 = NU ∧ (vp_in (64 * x1) (c_ln U (S.2.2 (S.2.2 u 2) 13)) ∧ (vp_in (x1 / 64) (c_ln U (S.2.2 u 7)) ∧ (¬ S.2.2 u 5 = NU ∧ (p_Pa_kindOf (x1 / 64) (fun v49 => c_cl U (S.2.2 u 5) = 950 ∧ (vp_in v49 (c_ln U (S.2.2 u 5)) ∧ ¬ S.2.2 (S.2.2 u 5) v49.toNatClampNeg = NU ∧ (p_Pa_bitsOf ((S.1 (S.2.2 (S.2.2 u 2) 13) (64 * x1).toNatClampNeg) - (S.1 (S.2.2 u 7) (x1 / 64).toNatClampNeg)) (fun v55 => p_Pa_writeSymbol U u (S.2.2 (S.2.2 u 5) v49.toNatClampNeg) v55 ((S.1 (S.2.2 (S.2.2 u 2) 13) (64 * x1).toNatClampNeg) - (S.1 (S.2.2 u 7) (x1 / 64).toNatClampNeg)) (va_up S.1 (S.2.2 u 7) (upd (S.1 (S.2.2 u 7)) (x1 / 64).toNatClampNeg (S.1 (S.2.2 (S.2.2 u 2) 13) (64 * x1).toNatClampNeg)), S.2.1, S.2.2) (fun S60 => ¬ S60.2.2 u 6 = NU ∧ (p_Pa_kindOf (x1 / 64) (fun v68 => c_cl U (S60.2.2 u 6) = 950 ∧ (vp_in v68 (c_ln U (S60.2.2 u 6)) ∧ ¬ S60.2.2 (S60.2.2 u 6) v68.toNatClampNeg = NU ∧ (e_Pa_writeBlock_80 U u (64 * x1) (S60.2.2 (S60.2.2 u 6) v68.toNatClampNeg) 0 1 S60 K)))))))))))))))))))))))
section C_Pa_writeBlock
variable {D : va_G} {z : Nat → ClassId} {A : Nat → Prop} {X : cx} {L0 : fw} {U : ut} {oa : Nat → Nat} {u : Nat} {K : cs → Prop}
set_option maxRecDepth 100000 in
set_option maxHeartbeats 1000000 in
theorem s_Pa_writeBlock_176 (C : fcx gG D z A X R_Pa c_C_Pa_writeBlock 9 (none)) (hQ : X.2.2.2.2.2.2.2.2.2.2 = eQ gG D z X.2.2.2.2.2.2.2.1 X.2.2.2.2.1 L0 0 0 (pC_v lt_C U oa K (fun _ _ => False))) (hA : A = owA gG L0 X.2.2.2.2.1.heap.size) (hR : X.2.2.2.1 = { frames := 4, cells := 1, slots := 6, locals := 400 }) (hu : c_cl U u = 6)  (S : cs) (hp : b_Pa_writeBlock_176 U u S K) : aw gG D z A X 9 176 [some (.ref (oa u)), none, none, none, none, none, none, none, none] [] (cw lt_C U oa S) 0 0 := by
  unfold b_Pa_writeBlock_176 at hp
  exact a_vret C hQ hA dc_Pa_writeBlock_176 rfl (Or.inl ⟨S, hp, rfl, rfl⟩)
set_option maxRecDepth 100000 in
set_option maxHeartbeats 1000000 in
theorem s_Pa_writeBlock_157 (C : fcx gG D z A X R_Pa c_C_Pa_writeBlock 9 (none)) (hQ : X.2.2.2.2.2.2.2.2.2.2 = eQ gG D z X.2.2.2.2.2.2.2.1 X.2.2.2.2.1 L0 0 0 (pC_v lt_C U oa K (fun _ _ => False))) (hA : A = owA gG L0 X.2.2.2.2.1.heap.size) (hR : X.2.2.2.1 = { frames := 4, cells := 1, slots := 6, locals := 400 }) (hu : c_cl U u = 6) (x3 : Int32) (x5 : Nat) (x6 : Int32) (x7 : Int32) (S : cs) (R80 : Int32 → Nat → Int32 → Int32 → cs → Prop) (hR80 : ∀ yx3 yx5 yx6 yx7 yS, R80 yx3 yx5 yx6 yx7 yS → aw gG D z A X 9 80 [some (.ref (oa u)), none, none, some (.int yx3), none, some (.ref (oa yx5)), some (.int yx6), some (.int yx7), none] [] (cw lt_C U oa yS) 0 0) (hp : b_Pa_writeBlock_157 U u x3 x5 x6 x7 S R80 K) : aw gG D z A X 9 157 [some (.ref (oa u)), none, none, some (.int x3), none, some (.ref (oa x5)), some (.int x6), some (.int x7), none] [] (cw lt_C U oa S) 0 0 := by
  unfold b_Pa_writeBlock_157 at hp
  refine a_iinc (v := x7 + 1) (lo' := [some (.ref (oa u)), none, none, some (.int x3), none, some (.ref (oa x5)), some (.int x6), some (.int (x7 + 1)), none]) C dc_Pa_writeBlock_157 rfl rfl (by decide) rfl ?_
  refine a_goto (tgt := 80) C dc_Pa_writeBlock_160 (by decide) ?_
  refine aw_lo (lo' := [some (.ref (oa u)), none, none, some (.int x3), none, some (.ref (oa x5)), some (.int x6), some (.int (x7 + 1)), none]) ⟨.inr rfl, .inr rfl, .inr rfl, .inr rfl, .inr rfl, .inr rfl, .inr rfl, .inr rfl, .inr rfl, trivial⟩ ?_
  exact hR80 x3 x5 x6 (x7 + 1) S hp
set_option maxRecDepth 100000 in
set_option maxHeartbeats 1000000 in
theorem s_Pa_writeBlock_112 (C : fcx gG D z A X R_Pa c_C_Pa_writeBlock 9 (none)) (hQ : X.2.2.2.2.2.2.2.2.2.2 = eQ gG D z X.2.2.2.2.2.2.2.1 X.2.2.2.2.1 L0 0 0 (pC_v lt_C U oa K (fun _ _ => False))) (hA : A = owA gG L0 X.2.2.2.2.1.heap.size) (hR : X.2.2.2.1 = { frames := 4, cells := 1, slots := 6, locals := 400 }) (hu : c_cl U u = 6) (x3 : Int32) (x5 : Nat) (x6 : Int32) (x7 : Int32) (x8 : Int32) (S : cs) (R80 : Int32 → Nat → Int32 → Int32 → cs → Prop) (hR80 : ∀ yx3 yx5 yx6 yx7 yS, R80 yx3 yx5 yx6 yx7 yS → aw gG D z A X 9 80 [some (.ref (oa u)), none, none, some (.int yx3), none, some (.ref (oa yx5)), some (.int yx6), some (.int yx7), none] [] (cw lt_C U oa yS) 0 0) (R112 : Int32 → Nat → Int32 → Int32 → Int32 → cs → Prop) (hR112 : ∀ yx3 yx5 yx6 yx7 yx8 yS, R112 yx3 yx5 yx6 yx7 yx8 yS → aw gG D z A X 9 112 [some (.ref (oa u)), none, none, some (.int yx3), none, some (.ref (oa yx5)), some (.int yx6), some (.int yx7), some (.int yx8)] [] (cw lt_C U oa yS) 0 0) (hp : b_Pa_writeBlock_112 U u x3 x5 x6 x7 x8 S R80 R112 K) : aw gG D z A X 9 112 [some (.ref (oa u)), none, none, some (.int x3), none, some (.ref (oa x5)), some (.int x6), some (.int x7), some (.int x8)] [] (cw lt_C U oa S) 0 0 := by
  unfold b_Pa_writeBlock_112 at hp
  refine a_iload C dc_Pa_writeBlock_112 rfl ?_
  refine a_bipush (v := 16) C dc_Pa_writeBlock_114 (by decide) ?_
  refine a_icmp_lt (tgt := 135) C dc_Pa_writeBlock_116 (by decide) ⟨fun hc => ?_, fun hc => ?_⟩
  · have hp := hp.1 hc
    refine a_aload_n C dc_Pa_writeBlock_135 rfl rfl ?_
    refine a_aload C dc_Pa_writeBlock_136 rfl ?_
    refine a_bipush (v := 16) C dc_Pa_writeBlock_138 (by decide) ?_
    refine a_iload C dc_Pa_writeBlock_140 rfl ?_
    refine a_imul C dc_Pa_writeBlock_142 ?_
    refine a_iload C dc_Pa_writeBlock_143 rfl ?_
    refine a_callP (rest := [.int (16 * x6), .ref (oa x5), .ref (oa u)]) (av := [.int x8]) C dc_Pa_writeBlock_145 (ct_Pa_bitsOf x8 hp) cd_C_Pa_bitsOf i_Pa (Nat.le_of_ble_eq_true rfl) (by rw [hR]; exact Nat.le_of_ble_eq_true rfl) (by rw [hR]; exact Nat.le_of_ble_eq_true rfl) (by rw [hR]; exact Nat.le_of_ble_eq_true rfl) (by rw [hR]; exact Nat.le_of_ble_eq_true rfl) (inv_S C dc_Pa_writeBlock_145 l_Pa_249 st_C_Pa_bitsOf i_Pa cd_C_Pa_bitsOf ⟨by decide, by decide⟩ ln_C_Pa_bitsOf rfl) (fun v145 hp => ?_)
    refine aw_eq (lo' := _) (st' := [.int v145, .int (16 * x6), .ref (oa x5), .ref (oa u)]) (L' := (cw lt_C U oa S)) rfl rfl rfl ?_
    refine a_iadd C dc_Pa_writeBlock_148 ?_
    refine a_iload C dc_Pa_writeBlock_149 rfl ?_
    refine c_call (rest := []) (av := .ref (oa u) :: [.ref (oa x5), .int ((16 * x6) + v145), .int x8]) C dc_Pa_writeBlock_151 (ct_Pa_writeSymbol u x5 ((16 * x6) + v145) x8 S hu hp) cd_C_Pa_writeSymbol i_Pa (Nat.le_of_ble_eq_true rfl) (by rw [hR]; exact Nat.le_of_ble_eq_true rfl) (by rw [hR]; exact Nat.le_of_ble_eq_true rfl) (by rw [hR]; exact Nat.le_of_ble_eq_true rfl) (by rw [hR]; exact Nat.le_of_ble_eq_true rfl) (inv_V C u dc_Pa_writeBlock_151 l_Pa_252 im_C_Pa_writeSymbol se_C_Pa_writeSymbol cd_C_Pa_writeSymbol ⟨by decide, by decide⟩ ln_C_Pa_writeSymbol rfl rfl (cw_obj hu rfl) rfl rfl) (fun oc L1 hL => ?_)
    obtain ⟨S151, hp, rfl, rfl⟩ := hL.resolve_right pC_no
    refine ⟨_, rfl, ?_⟩
    refine aw_eq (lo' := _) (st' := []) (L' := (cw lt_C U oa S151)) rfl rfl rfl ?_
    refine a_iconst (v := 0) C dc_Pa_writeBlock_154 (by decide) ?_
    refine a_istore (lo' := [some (.ref (oa u)), none, none, some (.int x3), none, some (.ref (oa x5)), some (.int 0), some (.int x7), some (.int x8)]) C dc_Pa_writeBlock_155 (by decide) rfl ?_
    refine aw_lo (lo' := [some (.ref (oa u)), none, none, some (.int x3), none, some (.ref (oa x5)), some (.int 0), some (.int x7), none]) ⟨.inr rfl, .inr rfl, .inr rfl, .inr rfl, .inr rfl, .inr rfl, .inr rfl, .inr rfl, .inl rfl, trivial⟩ ?_
    exact s_Pa_writeBlock_157 C hQ hA hR hu x3 x5 0 x7 S151 R80 hR80 hp
  · have hp := hp.2 hc
    refine a_aload_n C dc_Pa_writeBlock_119 rfl rfl ?_
    refine a_aload C dc_Pa_writeBlock_120 rfl ?_
    refine a_sipush (v := 240) C dc_Pa_writeBlock_122 (by decide) ?_
    refine a_iconst (v := 0) C dc_Pa_writeBlock_125 (by decide) ?_
    refine c_call (rest := []) (av := .ref (oa u) :: [.ref (oa x5), .int 240, .int 0]) C dc_Pa_writeBlock_126 (ct_Pa_writeSymbol u x5 240 0 S hu hp) cd_C_Pa_writeSymbol i_Pa (Nat.le_of_ble_eq_true rfl) (by rw [hR]; exact Nat.le_of_ble_eq_true rfl) (by rw [hR]; exact Nat.le_of_ble_eq_true rfl) (by rw [hR]; exact Nat.le_of_ble_eq_true rfl) (by rw [hR]; exact Nat.le_of_ble_eq_true rfl) (inv_V C u dc_Pa_writeBlock_126 l_Pa_252 im_C_Pa_writeSymbol se_C_Pa_writeSymbol cd_C_Pa_writeSymbol ⟨by decide, by decide⟩ ln_C_Pa_writeSymbol rfl rfl (cw_obj hu rfl) rfl rfl) (fun oc L1 hL => ?_)
    obtain ⟨S126, hp, rfl, rfl⟩ := hL.resolve_right pC_no
    refine ⟨_, rfl, ?_⟩
    refine aw_eq (lo' := _) (st' := []) (L' := (cw lt_C U oa S126)) rfl rfl rfl ?_
    refine a_iinc (v := x6 + (-16)) (lo' := [some (.ref (oa u)), none, none, some (.int x3), none, some (.ref (oa x5)), some (.int (x6 + (-16))), some (.int x7), some (.int x8)]) C dc_Pa_writeBlock_129 rfl rfl (by decide) rfl ?_
    refine a_goto (tgt := 112) C dc_Pa_writeBlock_132 (by decide) ?_
    refine aw_lo (lo' := [some (.ref (oa u)), none, none, some (.int x3), none, some (.ref (oa x5)), some (.int (x6 + (-16))), some (.int x7), some (.int x8)]) ⟨.inr rfl, .inr rfl, .inr rfl, .inr rfl, .inr rfl, .inr rfl, .inr rfl, .inr rfl, .inr rfl, trivial⟩ ?_
    exact hR112 x3 x5 (x6 + (-16)) x7 x8 S126 hp
set_option maxRecDepth 100000 in
set_option maxHeartbeats 1000000 in
theorem se_Pa_writeBlock_112 (C : fcx gG D z A X R_Pa c_C_Pa_writeBlock 9 (none)) (hQ : X.2.2.2.2.2.2.2.2.2.2 = eQ gG D z X.2.2.2.2.2.2.2.1 X.2.2.2.2.1 L0 0 0 (pC_v lt_C U oa K (fun _ _ => False))) (hA : A = owA gG L0 X.2.2.2.2.1.heap.size) (hR : X.2.2.2.1 = { frames := 4, cells := 1, slots := 6, locals := 400 }) (hu : c_cl U u = 6) (x3 : Int32) (x5 : Nat) (x6 : Int32) (x7 : Int32) (x8 : Int32) (S : cs) (R80 : Int32 → Nat → Int32 → Int32 → cs → Prop) (hR80 : ∀ yx3 yx5 yx6 yx7 yS, R80 yx3 yx5 yx6 yx7 yS → aw gG D z A X 9 80 [some (.ref (oa u)), none, none, some (.int yx3), none, some (.ref (oa yx5)), some (.int yx6), some (.int yx7), none] [] (cw lt_C U oa yS) 0 0) (hp : e_Pa_writeBlock_112 U u x3 x5 x6 x7 x8 S R80 K) : aw gG D z A X 9 112 [some (.ref (oa u)), none, none, some (.int x3), none, some (.ref (oa x5)), some (.int x6), some (.int x7), some (.int x8)] [] (cw lt_C U oa S) 0 0 := by
  obtain ⟨I, μ, h0, hs⟩ := hp
  have key : ∀ (n : Nat) (yx3 : Int32) (yx5 : Nat) (yx6 : Int32) (yx7 : Int32) (yx8 : Int32) (yS : cs), μ yx3 yx5 yx6 yx7 yx8 yS < n → I yx3 yx5 yx6 yx7 yx8 yS → aw gG D z A X 9 112 [some (.ref (oa u)), none, none, some (.int yx3), none, some (.ref (oa yx5)), some (.int yx6), some (.int yx7), some (.int yx8)] [] (cw lt_C U oa yS) 0 0 := by
    intro n
    induction n with
    | zero => intro yx3 yx5 yx6 yx7 yx8 yS h; omega
    | succ n ih =>
      intro yx3 yx5 yx6 yx7 yx8 yS hn hI
      exact s_Pa_writeBlock_112 C hQ hA hR hu yx3 yx5 yx6 yx7 yx8 yS R80 hR80 _ (fun zx3 zx5 zx6 zx7 zx8 zS hw => ih zx3 zx5 zx6 zx7 zx8 zS (by omega) hw.1) (hs yx3 yx5 yx6 yx7 yx8 yS hI)
  exact key (μ x3 x5 x6 x7 x8 S + 1) x3 x5 x6 x7 x8 S (Nat.lt_succ_self _) h0
set_option maxRecDepth 100000 in
set_option maxHeartbeats 1000000 in
theorem s_Pa_writeBlock_80 (C : fcx gG D z A X R_Pa c_C_Pa_writeBlock 9 (none)) (hQ : X.2.2.2.2.2.2.2.2.2.2 = eQ gG D z X.2.2.2.2.2.2.2.1 X.2.2.2.2.1 L0 0 0 (pC_v lt_C U oa K (fun _ _ => False))) (hA : A = owA gG L0 X.2.2.2.2.1.heap.size) (hR : X.2.2.2.1 = { frames := 4, cells := 1, slots := 6, locals := 400 }) (hu : c_cl U u = 6) (x3 : Int32) (x5 : Nat) (x6 : Int32) (x7 : Int32) (S : cs) (R80 : Int32 → Nat → Int32 → Int32 → cs → Prop) (hR80 : ∀ yx3 yx5 yx6 yx7 yS, R80 yx3 yx5 yx6 yx7 yS → aw gG D z A X 9 80 [some (.ref (oa u)), none, none, some (.int yx3), none, some (.ref (oa yx5)), some (.int yx6), some (.int yx7), none] [] (cw lt_C U oa yS) 0 0) (hp : b_Pa_writeBlock_80 U u x3 x5 x6 x7 S R80 K) : aw gG D z A X 9 80 [some (.ref (oa u)), none, none, some (.int x3), none, some (.ref (oa x5)), some (.int x6), some (.int x7), none] [] (cw lt_C U oa S) 0 0 := by
  unfold b_Pa_writeBlock_80 at hp
  refine a_iload C dc_Pa_writeBlock_80 rfl ?_
  refine a_bipush (v := 64) C dc_Pa_writeBlock_82 (by decide) ?_
  refine a_icmp_ge (tgt := 163) C dc_Pa_writeBlock_84 (by decide) ⟨fun hc => ?_, fun hc => ?_⟩
  · have hp := hp.1 hc
    refine a_iload C dc_Pa_writeBlock_163 rfl ?_
    refine a_if_le (tgt := 176) C dc_Pa_writeBlock_165 (by decide) ⟨fun hc => ?_, fun hc => ?_⟩
    · have hp := hp.1 hc
      refine aw_lo (lo' := [some (.ref (oa u)), none, none, none, none, none, none, none, none]) ⟨.inr rfl, .inr rfl, .inr rfl, .inl rfl, .inr rfl, .inl rfl, .inl rfl, .inl rfl, .inr rfl, trivial⟩ ?_
      exact s_Pa_writeBlock_176 C hQ hA hR hu S  hp
    · have hp := hp.2 hc
      refine a_aload_n C dc_Pa_writeBlock_168 rfl rfl ?_
      refine a_aload C dc_Pa_writeBlock_169 rfl ?_
      refine a_iconst (v := 0) C dc_Pa_writeBlock_171 (by decide) ?_
      refine a_iconst (v := 0) C dc_Pa_writeBlock_172 (by decide) ?_
      refine c_call (rest := []) (av := .ref (oa u) :: [.ref (oa x5), .int 0, .int 0]) C dc_Pa_writeBlock_173 (ct_Pa_writeSymbol u x5 0 0 S hu hp) cd_C_Pa_writeSymbol i_Pa (Nat.le_of_ble_eq_true rfl) (by rw [hR]; exact Nat.le_of_ble_eq_true rfl) (by rw [hR]; exact Nat.le_of_ble_eq_true rfl) (by rw [hR]; exact Nat.le_of_ble_eq_true rfl) (by rw [hR]; exact Nat.le_of_ble_eq_true rfl) (inv_V C u dc_Pa_writeBlock_173 l_Pa_252 im_C_Pa_writeSymbol se_C_Pa_writeSymbol cd_C_Pa_writeSymbol ⟨by decide, by decide⟩ ln_C_Pa_writeSymbol rfl rfl (cw_obj hu rfl) rfl rfl) (fun oc L1 hL => ?_)
      obtain ⟨S173, hp, rfl, rfl⟩ := hL.resolve_right pC_no
      refine ⟨_, rfl, ?_⟩
      refine aw_eq (lo' := _) (st' := []) (L' := (cw lt_C U oa S173)) rfl rfl rfl ?_
      refine aw_lo (lo' := [some (.ref (oa u)), none, none, none, none, none, none, none, none]) ⟨.inr rfl, .inr rfl, .inr rfl, .inl rfl, .inr rfl, .inl rfl, .inl rfl, .inl rfl, .inr rfl, trivial⟩ ?_
      exact s_Pa_writeBlock_176 C hQ hA hR hu S173  hp
  · have hp := hp.2 hc
    refine a_aload_n C dc_Pa_writeBlock_87 rfl rfl ?_
    refine c_getR C u 2 dc_Pa_writeBlock_88 hu rfl rfl (Nat.le_of_ble_eq_true rfl) f_Pa_31 rfl hp.1 ?_
    have hp := hp.2
    have hc1 := hp.1
    have hp := hp.2
    refine c_getRN C (S.2.2 u 2) 13 dc_Pa_writeBlock_91 hc1 rfl rfl (Nat.le_of_ble_eq_true rfl) f_Pa_174 rfl hp.1 ?_
    have hp := hp.2
    refine a_iload_n C dc_Pa_writeBlock_94 rfl rfl ?_
    refine a_iload C dc_Pa_writeBlock_95 rfl ?_
    refine a_iadd C dc_Pa_writeBlock_97 ?_
    have hc2 := hp.1
    have hp := hp.2
    refine c_iald C (S.2.2 (S.2.2 u 2) 13) dc_Pa_writeBlock_98 hc2 hp.1 ?_
    have hp := hp.2
    refine a_istore (lo' := [some (.ref (oa u)), none, none, some (.int x3), none, some (.ref (oa x5)), some (.int x6), some (.int x7), some (.int (S.1 (S.2.2 (S.2.2 u 2) 13) (x3 + x7).toNatClampNeg))]) C dc_Pa_writeBlock_99 (by decide) rfl ?_
    refine a_iload C dc_Pa_writeBlock_101 rfl ?_
    refine a_if_ne (tgt := 112) C dc_Pa_writeBlock_103 (by decide) ⟨fun hc => ?_, fun hc => ?_⟩
    · have hp := hp.1 hc
      refine aw_lo (lo' := [some (.ref (oa u)), none, none, some (.int x3), none, some (.ref (oa x5)), some (.int x6), some (.int x7), some (.int (S.1 (S.2.2 (S.2.2 u 2) 13) (x3 + x7).toNatClampNeg))]) ⟨.inr rfl, .inr rfl, .inr rfl, .inr rfl, .inr rfl, .inr rfl, .inr rfl, .inr rfl, .inr rfl, trivial⟩ ?_
      exact se_Pa_writeBlock_112 C hQ hA hR hu x3 x5 x6 x7 (S.1 (S.2.2 (S.2.2 u 2) 13) (x3 + x7).toNatClampNeg) S R80 hR80 hp
    · have hp := hp.2 hc
      refine a_iinc (v := x6 + 1) (lo' := [some (.ref (oa u)), none, none, some (.int x3), none, some (.ref (oa x5)), some (.int (x6 + 1)), some (.int x7), some (.int (S.1 (S.2.2 (S.2.2 u 2) 13) (x3 + x7).toNatClampNeg))]) C dc_Pa_writeBlock_106 rfl rfl (by decide) rfl ?_
      refine a_goto (tgt := 157) C dc_Pa_writeBlock_109 (by decide) ?_
      refine aw_lo (lo' := [some (.ref (oa u)), none, none, some (.int x3), none, some (.ref (oa x5)), some (.int (x6 + 1)), some (.int x7), none]) ⟨.inr rfl, .inr rfl, .inr rfl, .inr rfl, .inr rfl, .inr rfl, .inr rfl, .inr rfl, .inl rfl, trivial⟩ ?_
      exact s_Pa_writeBlock_157 C hQ hA hR hu x3 x5 (x6 + 1) x7 S R80 hR80 hp
set_option maxRecDepth 100000 in
set_option maxHeartbeats 1000000 in
theorem se_Pa_writeBlock_80 (C : fcx gG D z A X R_Pa c_C_Pa_writeBlock 9 (none)) (hQ : X.2.2.2.2.2.2.2.2.2.2 = eQ gG D z X.2.2.2.2.2.2.2.1 X.2.2.2.2.1 L0 0 0 (pC_v lt_C U oa K (fun _ _ => False))) (hA : A = owA gG L0 X.2.2.2.2.1.heap.size) (hR : X.2.2.2.1 = { frames := 4, cells := 1, slots := 6, locals := 400 }) (hu : c_cl U u = 6) (x3 : Int32) (x5 : Nat) (x6 : Int32) (x7 : Int32) (S : cs) (hp : e_Pa_writeBlock_80 U u x3 x5 x6 x7 S K) : aw gG D z A X 9 80 [some (.ref (oa u)), none, none, some (.int x3), none, some (.ref (oa x5)), some (.int x6), some (.int x7), none] [] (cw lt_C U oa S) 0 0 := by
  obtain ⟨I, μ, h0, hs⟩ := hp
  have key : ∀ (n : Nat) (yx3 : Int32) (yx5 : Nat) (yx6 : Int32) (yx7 : Int32) (yS : cs), μ yx3 yx5 yx6 yx7 yS < n → I yx3 yx5 yx6 yx7 yS → aw gG D z A X 9 80 [some (.ref (oa u)), none, none, some (.int yx3), none, some (.ref (oa yx5)), some (.int yx6), some (.int yx7), none] [] (cw lt_C U oa yS) 0 0 := by
    intro n
    induction n with
    | zero => intro yx3 yx5 yx6 yx7 yS h; omega
    | succ n ih =>
      intro yx3 yx5 yx6 yx7 yS hn hI
      exact s_Pa_writeBlock_80 C hQ hA hR hu yx3 yx5 yx6 yx7 yS _ (fun zx3 zx5 zx6 zx7 zS hw => ih zx3 zx5 zx6 zx7 zS (by omega) hw.1) (hs yx3 yx5 yx6 yx7 yS hI)
  exact key (μ x3 x5 x6 x7 S + 1) x3 x5 x6 x7 S (Nat.lt_succ_self _) h0
set_option maxRecDepth 100000 in
set_option maxHeartbeats 1000000 in
theorem s_Pa_writeBlock_0 (C : fcx gG D z A X R_Pa c_C_Pa_writeBlock 9 (none)) (hQ : X.2.2.2.2.2.2.2.2.2.2 = eQ gG D z X.2.2.2.2.2.2.2.1 X.2.2.2.2.1 L0 0 0 (pC_v lt_C U oa K (fun _ _ => False))) (hA : A = owA gG L0 X.2.2.2.2.1.heap.size) (hR : X.2.2.2.1 = { frames := 4, cells := 1, slots := 6, locals := 400 }) (hu : c_cl U u = 6) (x1 : Int32) (S : cs) (hp : p_Pa_writeBlock U u x1 S K) : aw gG D z A X 9 0 [some (.ref (oa u)), some (.int x1), none, none, none, none, none, none, none] [] (cw lt_C U oa S) 0 0 := by
  unfold p_Pa_writeBlock at hp
  refine a_iload_n C dc_Pa_writeBlock_0 rfl rfl ?_
  refine a_bipush (v := 64) C dc_Pa_writeBlock_1 (by decide) ?_
  refine a_idiv C dc_Pa_writeBlock_3 (by decide) ?_
  refine a_istore_n (lo' := [some (.ref (oa u)), some (.int x1), some (.int (x1 / 64)), none, none, none, none, none, none]) C dc_Pa_writeBlock_4 rfl (by decide) rfl ?_
  refine a_bipush (v := 64) C dc_Pa_writeBlock_5 (by decide) ?_
  refine a_iload_n C dc_Pa_writeBlock_7 rfl rfl ?_
  refine a_imul C dc_Pa_writeBlock_8 ?_
  refine a_istore_n (lo' := [some (.ref (oa u)), some (.int x1), some (.int (x1 / 64)), some (.int (64 * x1)), none, none, none, none, none]) C dc_Pa_writeBlock_9 rfl (by decide) rfl ?_
  refine a_aload_n C dc_Pa_writeBlock_10 rfl rfl ?_
  refine c_getR C u 2 dc_Pa_writeBlock_11 hu rfl rfl (Nat.le_of_ble_eq_true rfl) f_Pa_31 rfl hp.1 ?_
  have hp := hp.2
  have hc3 := hp.1
  have hp := hp.2
  refine c_getRN C (S.2.2 u 2) 13 dc_Pa_writeBlock_14 hc3 rfl rfl (Nat.le_of_ble_eq_true rfl) f_Pa_174 rfl hp.1 ?_
  have hp := hp.2
  refine a_iload_n C dc_Pa_writeBlock_17 rfl rfl ?_
  have hc4 := hp.1
  have hp := hp.2
  refine c_iald C (S.2.2 (S.2.2 u 2) 13) dc_Pa_writeBlock_18 hc4 hp.1 ?_
  have hp := hp.2
  refine a_aload_n C dc_Pa_writeBlock_19 rfl rfl ?_
  refine c_getR C u 7 dc_Pa_writeBlock_20 hu rfl rfl (Nat.le_of_ble_eq_true rfl) f_Pa_59 rfl hp.1 ?_
  have hp := hp.2
  refine a_iload_n C dc_Pa_writeBlock_23 rfl rfl ?_
  have hc5 := hp.1
  have hp := hp.2
  refine c_iald C (S.2.2 u 7) dc_Pa_writeBlock_24 hc5 hp.1 ?_
  have hp := hp.2
  refine a_isub C dc_Pa_writeBlock_25 ?_
  refine a_istore (lo' := [some (.ref (oa u)), some (.int x1), some (.int (x1 / 64)), some (.int (64 * x1)), some (.int ((S.1 (S.2.2 (S.2.2 u 2) 13) (64 * x1).toNatClampNeg) - (S.1 (S.2.2 u 7) (x1 / 64).toNatClampNeg))), none, none, none, none]) C dc_Pa_writeBlock_26 (by decide) rfl ?_
  refine a_aload_n C dc_Pa_writeBlock_28 rfl rfl ?_
  refine c_getR C u 7 dc_Pa_writeBlock_29 hu rfl rfl (Nat.le_of_ble_eq_true rfl) f_Pa_59 rfl hp.1 ?_
  have hp := hp.2
  refine a_iload_n C dc_Pa_writeBlock_32 rfl rfl ?_
  refine a_aload_n C dc_Pa_writeBlock_33 rfl rfl ?_
  refine c_getR C u 2 dc_Pa_writeBlock_34 hu rfl rfl (Nat.le_of_ble_eq_true rfl) f_Pa_31 rfl hp.1 ?_
  have hp := hp.2
  refine c_getRN C (S.2.2 u 2) 13 dc_Pa_writeBlock_37 hc3 rfl rfl (Nat.le_of_ble_eq_true rfl) f_Pa_174 rfl hp.1 ?_
  have hp := hp.2
  refine a_iload_n C dc_Pa_writeBlock_40 rfl rfl ?_
  refine c_iald C (S.2.2 (S.2.2 u 2) 13) dc_Pa_writeBlock_41 hc4 hp.1 ?_
  have hp := hp.2
  refine c_iast C (S.2.2 u 7) dc_Pa_writeBlock_42 hc5 hp.1 ?_
  have hp := hp.2
  refine aw_eq (lo' := _) (st' := _) (L' := (cw lt_C U oa (va_up S.1 (S.2.2 u 7) (upd (S.1 (S.2.2 u 7)) (x1 / 64).toNatClampNeg (S.1 (S.2.2 (S.2.2 u 2) 13) (64 * x1).toNatClampNeg)), S.2.1, S.2.2))) rfl rfl rfl ?_
  refine a_aload_n C dc_Pa_writeBlock_43 rfl rfl ?_
  refine a_aload_n C dc_Pa_writeBlock_44 rfl rfl ?_
  refine c_getR C u 5 dc_Pa_writeBlock_45 hu rfl rfl (Nat.le_of_ble_eq_true rfl) f_Pa_52 rfl hp.1 ?_
  have hp := hp.2
  refine a_iload_n C dc_Pa_writeBlock_48 rfl rfl ?_
  refine a_callP (rest := [.ref (oa (S.2.2 u 5)), .ref (oa u)]) (av := [.int (x1 / 64)]) C dc_Pa_writeBlock_49 (ct_Pa_kindOf (x1 / 64) hp) cd_C_Pa_kindOf i_Pa (Nat.le_of_ble_eq_true rfl) (by rw [hR]; exact Nat.le_of_ble_eq_true rfl) (by rw [hR]; exact Nat.le_of_ble_eq_true rfl) (by rw [hR]; exact Nat.le_of_ble_eq_true rfl) (by rw [hR]; exact Nat.le_of_ble_eq_true rfl) (inv_S C dc_Pa_writeBlock_49 l_Pa_89 st_C_Pa_kindOf i_Pa cd_C_Pa_kindOf ⟨by decide, by decide⟩ ln_C_Pa_kindOf rfl) (fun v49 hp => ?_)
  refine aw_eq (lo' := _) (st' := [.int v49, .ref (oa (S.2.2 u 5)), .ref (oa u)]) (L' := (cw lt_C U oa (va_up S.1 (S.2.2 u 7) (upd (S.1 (S.2.2 u 7)) (x1 / 64).toNatClampNeg (S.1 (S.2.2 (S.2.2 u 2) 13) (64 * x1).toNatClampNeg)), S.2.1, S.2.2))) rfl rfl rfl ?_
  have hc6 := hp.1
  have hp := hp.2
  refine c_aald C (S.2.2 u 5) 0 dc_Pa_writeBlock_52 hc6 rfl (by decide) rfl hp.1 hp.2.1 ?_
  have hp := hp.2.2
  refine a_iload C dc_Pa_writeBlock_53 rfl ?_
  refine a_callP (rest := [.ref (oa (S.2.2 (S.2.2 u 5) v49.toNatClampNeg)), .ref (oa u)]) (av := [.int ((S.1 (S.2.2 (S.2.2 u 2) 13) (64 * x1).toNatClampNeg) - (S.1 (S.2.2 u 7) (x1 / 64).toNatClampNeg))]) C dc_Pa_writeBlock_55 (ct_Pa_bitsOf ((S.1 (S.2.2 (S.2.2 u 2) 13) (64 * x1).toNatClampNeg) - (S.1 (S.2.2 u 7) (x1 / 64).toNatClampNeg)) hp) cd_C_Pa_bitsOf i_Pa (Nat.le_of_ble_eq_true rfl) (by rw [hR]; exact Nat.le_of_ble_eq_true rfl) (by rw [hR]; exact Nat.le_of_ble_eq_true rfl) (by rw [hR]; exact Nat.le_of_ble_eq_true rfl) (by rw [hR]; exact Nat.le_of_ble_eq_true rfl) (inv_S C dc_Pa_writeBlock_55 l_Pa_249 st_C_Pa_bitsOf i_Pa cd_C_Pa_bitsOf ⟨by decide, by decide⟩ ln_C_Pa_bitsOf rfl) (fun v55 hp => ?_)
  refine aw_eq (lo' := _) (st' := [.int v55, .ref (oa (S.2.2 (S.2.2 u 5) v49.toNatClampNeg)), .ref (oa u)]) (L' := (cw lt_C U oa (va_up S.1 (S.2.2 u 7) (upd (S.1 (S.2.2 u 7)) (x1 / 64).toNatClampNeg (S.1 (S.2.2 (S.2.2 u 2) 13) (64 * x1).toNatClampNeg)), S.2.1, S.2.2))) rfl rfl rfl ?_
  refine a_iload C dc_Pa_writeBlock_58 rfl ?_
  refine c_call (rest := []) (av := .ref (oa u) :: [.ref (oa (S.2.2 (S.2.2 u 5) v49.toNatClampNeg)), .int v55, .int ((S.1 (S.2.2 (S.2.2 u 2) 13) (64 * x1).toNatClampNeg) - (S.1 (S.2.2 u 7) (x1 / 64).toNatClampNeg))]) C dc_Pa_writeBlock_60 (ct_Pa_writeSymbol u (S.2.2 (S.2.2 u 5) v49.toNatClampNeg) v55 ((S.1 (S.2.2 (S.2.2 u 2) 13) (64 * x1).toNatClampNeg) - (S.1 (S.2.2 u 7) (x1 / 64).toNatClampNeg)) (va_up S.1 (S.2.2 u 7) (upd (S.1 (S.2.2 u 7)) (x1 / 64).toNatClampNeg (S.1 (S.2.2 (S.2.2 u 2) 13) (64 * x1).toNatClampNeg)), S.2.1, S.2.2) hu hp) cd_C_Pa_writeSymbol i_Pa (Nat.le_of_ble_eq_true rfl) (by rw [hR]; exact Nat.le_of_ble_eq_true rfl) (by rw [hR]; exact Nat.le_of_ble_eq_true rfl) (by rw [hR]; exact Nat.le_of_ble_eq_true rfl) (by rw [hR]; exact Nat.le_of_ble_eq_true rfl) (inv_V C u dc_Pa_writeBlock_60 l_Pa_252 im_C_Pa_writeSymbol se_C_Pa_writeSymbol cd_C_Pa_writeSymbol ⟨by decide, by decide⟩ ln_C_Pa_writeSymbol rfl rfl (cw_obj hu rfl) rfl rfl) (fun oc L1 hL => ?_)
  obtain ⟨S60, hp, rfl, rfl⟩ := hL.resolve_right pC_no
  refine ⟨_, rfl, ?_⟩
  refine aw_eq (lo' := _) (st' := []) (L' := (cw lt_C U oa S60)) rfl rfl rfl ?_
  refine a_aload_n C dc_Pa_writeBlock_63 rfl rfl ?_
  refine c_getR C u 6 dc_Pa_writeBlock_64 hu rfl rfl (Nat.le_of_ble_eq_true rfl) f_Pa_56 rfl hp.1 ?_
  have hp := hp.2
  refine a_iload_n C dc_Pa_writeBlock_67 rfl rfl ?_
  refine a_callP (rest := [.ref (oa (S60.2.2 u 6))]) (av := [.int (x1 / 64)]) C dc_Pa_writeBlock_68 (ct_Pa_kindOf (x1 / 64) hp) cd_C_Pa_kindOf i_Pa (Nat.le_of_ble_eq_true rfl) (by rw [hR]; exact Nat.le_of_ble_eq_true rfl) (by rw [hR]; exact Nat.le_of_ble_eq_true rfl) (by rw [hR]; exact Nat.le_of_ble_eq_true rfl) (by rw [hR]; exact Nat.le_of_ble_eq_true rfl) (inv_S C dc_Pa_writeBlock_68 l_Pa_89 st_C_Pa_kindOf i_Pa cd_C_Pa_kindOf ⟨by decide, by decide⟩ ln_C_Pa_kindOf rfl) (fun v68 hp => ?_)
  refine aw_eq (lo' := _) (st' := [.int v68, .ref (oa (S60.2.2 u 6))]) (L' := (cw lt_C U oa S60)) rfl rfl rfl ?_
  have hc7 := hp.1
  have hp := hp.2
  refine c_aald C (S60.2.2 u 6) 0 dc_Pa_writeBlock_71 hc7 rfl (by decide) rfl hp.1 hp.2.1 ?_
  have hp := hp.2.2
  refine a_astore (lo' := [some (.ref (oa u)), some (.int x1), some (.int (x1 / 64)), some (.int (64 * x1)), some (.int ((S.1 (S.2.2 (S.2.2 u 2) 13) (64 * x1).toNatClampNeg) - (S.1 (S.2.2 u 7) (x1 / 64).toNatClampNeg))), some (.ref (oa (S60.2.2 (S60.2.2 u 6) v68.toNatClampNeg))), none, none, none]) C dc_Pa_writeBlock_72 (by decide) rfl ?_
  refine a_iconst (v := 0) C dc_Pa_writeBlock_74 (by decide) ?_
  refine a_istore (lo' := [some (.ref (oa u)), some (.int x1), some (.int (x1 / 64)), some (.int (64 * x1)), some (.int ((S.1 (S.2.2 (S.2.2 u 2) 13) (64 * x1).toNatClampNeg) - (S.1 (S.2.2 u 7) (x1 / 64).toNatClampNeg))), some (.ref (oa (S60.2.2 (S60.2.2 u 6) v68.toNatClampNeg))), some (.int 0), none, none]) C dc_Pa_writeBlock_75 (by decide) rfl ?_
  refine a_iconst (v := 1) C dc_Pa_writeBlock_77 (by decide) ?_
  refine a_istore (lo' := [some (.ref (oa u)), some (.int x1), some (.int (x1 / 64)), some (.int (64 * x1)), some (.int ((S.1 (S.2.2 (S.2.2 u 2) 13) (64 * x1).toNatClampNeg) - (S.1 (S.2.2 u 7) (x1 / 64).toNatClampNeg))), some (.ref (oa (S60.2.2 (S60.2.2 u 6) v68.toNatClampNeg))), some (.int 0), some (.int 1), none]) C dc_Pa_writeBlock_78 (by decide) rfl ?_
  refine aw_lo (lo' := [some (.ref (oa u)), none, none, some (.int (64 * x1)), none, some (.ref (oa (S60.2.2 (S60.2.2 u 6) v68.toNatClampNeg))), some (.int 0), some (.int 1), none]) ⟨.inr rfl, .inl rfl, .inl rfl, .inr rfl, .inl rfl, .inr rfl, .inr rfl, .inr rfl, .inr rfl, trivial⟩ ?_
  exact se_Pa_writeBlock_80 C hQ hA hR hu (64 * x1) (S60.2.2 (S60.2.2 u 6) v68.toNatClampNeg) 0 1 S60  hp
end C_Pa_writeBlock
section C_Pa_writeBlockc
variable {D : va_G} {z : Nat → ClassId} {U : ut} {oa : Nat → Nat}
set_option maxRecDepth 100000 in
theorem ct_Pa_writeBlock {l : Launch} (u : Nat) (x1 : Int32) (S : cs) {K : cs → Prop} (hu : c_cl U u = 6) (hp : p_Pa_writeBlock U u x1 S K) : ct gG D z l n_C_Pa_writeBlock c_C_Pa_writeBlock 9 (none) 4 400 [.ref (oa u), .int x1] (cw lt_C U oa S) 0 0 (pC_v lt_C U oa K (fun _ _ => False)) := by
  refine ct_of (lo := [some (.ref (oa u)), some (.int x1), none, none, none, none, none, none, none]) (by decide) g_ok (Nat.le_of_ble_eq_true rfl) rfl ?_
  intro X A _ C hR hQ hA _
  exact s_Pa_writeBlock_0 C hQ hA hR hu x1 S hp
end C_Pa_writeBlockc
def b_Pa_writeData_55 (U : ut) (u : Nat) (x1 : Int32) (x2 : Int32) (x3 : Int32) (x4 : Int32) (S : cs) (R12 : Int32 → Int32 → Int32 → cs → Prop) (R55 : Int32 → Int32 → Int32 → Int32 → cs → Prop) (K : cs → Prop) : Prop :=
  ¬ S.2.2 u 3 = NU ∧ (c_cl U (S.2.2 u 3) = 10 ∧ (((S.1 (S.2.2 u 3) 5) ≤ x4 → (R12 x1 x2 (x3 + 1) S)) ∧ (¬ ((S.1 (S.2.2 u 3) 5) ≤ x4) → (¬ S.2.2 u 3 = NU ∧ (¬ S.2.2 (S.2.2 u 3) 7 = NU ∧ (¬ S.2.2 u 3 = NU ∧ (c_cl U (S.2.2 (S.2.2 u 3) 7) = 902 ∧ (vp_in (((S.1 (S.2.2 u 3) 5) * x3) + x4) (c_ln U (S.2.2 (S.2.2 u 3) 7)) ∧ (p_Pa_writeBlock U u (S.1 (S.2.2 (S.2.2 u 3) 7) (((S.1 (S.2.2 u 3) 5) * x3) + x4).toNatClampNeg) S (fun S88 => R55 x1 x2 x3 (x4 + 1) S88))))))))))
def e_Pa_writeData_55 (U : ut) (u : Nat) (x1 : Int32) (x2 : Int32) (x3 : Int32) (x4 : Int32) (S : cs) (R12 : Int32 → Int32 → Int32 → cs → Prop) (K : cs → Prop) : Prop :=
  ∃ (I : Int32 → Int32 → Int32 → Int32 → cs → Prop) (μ : Int32 → Int32 → Int32 → Int32 → cs → Nat), I x1 x2 x3 x4 S ∧ ∀ yx1 yx2 yx3 yx4 yS, I yx1 yx2 yx3 yx4 yS → b_Pa_writeData_55 U u yx1 yx2 yx3 yx4 yS R12 (fun zx1 zx2 zx3 zx4 zS => I zx1 zx2 zx3 zx4 zS ∧ μ zx1 zx2 zx3 zx4 zS < μ yx1 yx2 yx3 yx4 yS) K
def b_Pa_writeData_52 (U : ut) (u : Nat) (x1 : Int32) (x2 : Int32) (x3 : Int32) (S : cs) (R12 : Int32 → Int32 → Int32 → cs → Prop) (K : cs → Prop) : Prop :=
  e_Pa_writeData_55 U u x1 x2 x3 0 S R12 K
def b_Pa_writeData_12 (U : ut) (u : Nat) (x1 : Int32) (x2 : Int32) (x3 : Int32) (S : cs) (R12 : Int32 → Int32 → Int32 → cs → Prop) (K : cs → Prop) : Prop :=
  ¬ S.2.2 u 3 = NU ∧ (c_cl U (S.2.2 u 3) = 10 ∧ (((S.1 (S.2.2 u 3) 4) ≤ x3 → (p_Pa_fillByte U u S (fun S104 => K S104))) ∧ (¬ ((S.1 (S.2.2 u 3) 4) ≤ x3) → ((x1 ≤ 0 → (b_Pa_writeData_52 U u x1 x2 x3 S R12 K)) ∧ (¬ (x1 ≤ 0) → ((x3 ≤ 0 → (b_Pa_writeData_52 U u x1 x2 x3 S R12 K)) ∧ (¬ (x3 ≤ 0) → (¬ x1 = 0 ∧ ((¬ (x3 - x3 / x1 * x1) = 0 → (b_Pa_writeData_52 U u x1 x2 x3 S R12 K)) ∧ ((x3 - x3 / x1 * x1) = 0 → (p_Pa_writeAgain U u (208 + (x2 - x2 / 8 * 8)) S (fun S46 => b_Pa_writeData_52 U u x1 (x2 + 1) x3 S46 R12 K))))))))))))
def e_Pa_writeData_12 (U : ut) (u : Nat) (x1 : Int32) (x2 : Int32) (x3 : Int32) (S : cs) (K : cs → Prop) : Prop :=
  ∃ (I : Int32 → Int32 → Int32 → cs → Prop) (μ : Int32 → Int32 → Int32 → cs → Nat), I x1 x2 x3 S ∧ ∀ yx1 yx2 yx3 yS, I yx1 yx2 yx3 yS → b_Pa_writeData_12 U u yx1 yx2 yx3 yS (fun zx1 zx2 zx3 zS => I zx1 zx2 zx3 zS ∧ μ zx1 zx2 zx3 zS < μ yx1 yx2 yx3 yS) K
def p_Pa_writeData (U : ut) (u : Nat) (x1 : Int32) (S : cs) (K : cs → Prop) : Prop :=
  ¬ S.2.2 u 7 = NU ∧ (p_Ar_fillI U (S.2.2 u 7) 0 S (fun S5 => e_Pa_writeData_12 U u x1 0 0 S5 K))
section C_Pa_writeData
variable {D : va_G} {z : Nat → ClassId} {A : Nat → Prop} {X : cx} {L0 : fw} {U : ut} {oa : Nat → Nat} {u : Nat} {K : cs → Prop}
set_option maxRecDepth 100000 in
set_option maxHeartbeats 1000000 in
theorem s_Pa_writeData_55 (C : fcx gG D z A X R_Pa c_C_Pa_writeData 5 (none)) (hQ : X.2.2.2.2.2.2.2.2.2.2 = eQ gG D z X.2.2.2.2.2.2.2.1 X.2.2.2.2.1 L0 0 0 (pC_v lt_C U oa K (fun _ _ => False))) (hA : A = owA gG L0 X.2.2.2.2.1.heap.size) (hR : X.2.2.2.1 = { frames := 5, cells := 1, slots := 6, locals := 500 }) (hu : c_cl U u = 6) (x1 : Int32) (x2 : Int32) (x3 : Int32) (x4 : Int32) (S : cs) (R12 : Int32 → Int32 → Int32 → cs → Prop) (hR12 : ∀ yx1 yx2 yx3 yS, R12 yx1 yx2 yx3 yS → aw gG D z A X 5 12 [some (.ref (oa u)), some (.int yx1), some (.int yx2), some (.int yx3), none] [] (cw lt_C U oa yS) 0 0) (R55 : Int32 → Int32 → Int32 → Int32 → cs → Prop) (hR55 : ∀ yx1 yx2 yx3 yx4 yS, R55 yx1 yx2 yx3 yx4 yS → aw gG D z A X 5 55 [some (.ref (oa u)), some (.int yx1), some (.int yx2), some (.int yx3), some (.int yx4)] [] (cw lt_C U oa yS) 0 0) (hp : b_Pa_writeData_55 U u x1 x2 x3 x4 S R12 R55 K) : aw gG D z A X 5 55 [some (.ref (oa u)), some (.int x1), some (.int x2), some (.int x3), some (.int x4)] [] (cw lt_C U oa S) 0 0 := by
  unfold b_Pa_writeData_55 at hp
  refine a_iload C dc_Pa_writeData_55 rfl ?_
  refine a_aload_n C dc_Pa_writeData_57 rfl rfl ?_
  refine c_getR C u 3 dc_Pa_writeData_58 hu rfl rfl (Nat.le_of_ble_eq_true rfl) f_Pa_38 rfl hp.1 ?_
  have hp := hp.2
  have hc1 := hp.1
  have hp := hp.2
  refine c_getIN C (S.2.2 u 3) 5 dc_Pa_writeData_61 hc1 rfl rfl (Nat.le_of_ble_eq_true rfl) f_Pa_240 (Nat.le_of_ble_eq_true rfl) ?_
  refine a_icmp_ge (tgt := 97) C dc_Pa_writeData_64 (by decide) ⟨fun hc => ?_, fun hc => ?_⟩
  · have hp := hp.1 hc
    refine a_iinc (v := x3 + 1) (lo' := [some (.ref (oa u)), some (.int x1), some (.int x2), some (.int (x3 + 1)), some (.int x4)]) C dc_Pa_writeData_97 rfl rfl (by decide) rfl ?_
    refine a_goto (tgt := 12) C dc_Pa_writeData_100 (by decide) ?_
    refine aw_lo (lo' := [some (.ref (oa u)), some (.int x1), some (.int x2), some (.int (x3 + 1)), none]) ⟨.inr rfl, .inr rfl, .inr rfl, .inr rfl, .inl rfl, trivial⟩ ?_
    exact hR12 x1 x2 (x3 + 1) S hp
  · have hp := hp.2 hc
    refine a_aload_n C dc_Pa_writeData_67 rfl rfl ?_
    refine a_aload_n C dc_Pa_writeData_68 rfl rfl ?_
    refine c_getR C u 3 dc_Pa_writeData_69 hu rfl rfl (Nat.le_of_ble_eq_true rfl) f_Pa_38 rfl hp.1 ?_
    have hp := hp.2
    refine c_getRN C (S.2.2 u 3) 7 dc_Pa_writeData_72 hc1 rfl rfl (Nat.le_of_ble_eq_true rfl) f_Pa_114 rfl hp.1 ?_
    have hp := hp.2
    refine a_aload_n C dc_Pa_writeData_75 rfl rfl ?_
    refine c_getR C u 3 dc_Pa_writeData_76 hu rfl rfl (Nat.le_of_ble_eq_true rfl) f_Pa_38 rfl hp.1 ?_
    have hp := hp.2
    refine c_getIN C (S.2.2 u 3) 5 dc_Pa_writeData_79 hc1 rfl rfl (Nat.le_of_ble_eq_true rfl) f_Pa_240 (Nat.le_of_ble_eq_true rfl) ?_
    refine a_iload_n C dc_Pa_writeData_82 rfl rfl ?_
    refine a_imul C dc_Pa_writeData_83 ?_
    refine a_iload C dc_Pa_writeData_84 rfl ?_
    refine a_iadd C dc_Pa_writeData_86 ?_
    have hc2 := hp.1
    have hp := hp.2
    refine c_iald C (S.2.2 (S.2.2 u 3) 7) dc_Pa_writeData_87 hc2 hp.1 ?_
    have hp := hp.2
    refine c_call (rest := []) (av := .ref (oa u) :: [.int (S.1 (S.2.2 (S.2.2 u 3) 7) (((S.1 (S.2.2 u 3) 5) * x3) + x4).toNatClampNeg)]) C dc_Pa_writeData_88 (ct_Pa_writeBlock u (S.1 (S.2.2 (S.2.2 u 3) 7) (((S.1 (S.2.2 u 3) 5) * x3) + x4).toNatClampNeg) S hu hp) cd_C_Pa_writeBlock i_Pa (Nat.le_of_ble_eq_true rfl) (by rw [hR]; exact Nat.le_of_ble_eq_true rfl) (by rw [hR]; exact Nat.le_of_ble_eq_true rfl) (by rw [hR]; exact Nat.le_of_ble_eq_true rfl) (by rw [hR]; exact Nat.le_of_ble_eq_true rfl) (inv_V C u dc_Pa_writeData_88 l_Pa_243 im_C_Pa_writeBlock se_C_Pa_writeBlock cd_C_Pa_writeBlock ⟨by decide, by decide⟩ ln_C_Pa_writeBlock rfl rfl (cw_obj hu rfl) rfl rfl) (fun oc L1 hL => ?_)
    obtain ⟨S88, hp, rfl, rfl⟩ := hL.resolve_right pC_no
    refine ⟨_, rfl, ?_⟩
    refine aw_eq (lo' := _) (st' := []) (L' := (cw lt_C U oa S88)) rfl rfl rfl ?_
    refine a_iinc (v := x4 + 1) (lo' := [some (.ref (oa u)), some (.int x1), some (.int x2), some (.int x3), some (.int (x4 + 1))]) C dc_Pa_writeData_91 rfl rfl (by decide) rfl ?_
    refine a_goto (tgt := 55) C dc_Pa_writeData_94 (by decide) ?_
    refine aw_lo (lo' := [some (.ref (oa u)), some (.int x1), some (.int x2), some (.int x3), some (.int (x4 + 1))]) ⟨.inr rfl, .inr rfl, .inr rfl, .inr rfl, .inr rfl, trivial⟩ ?_
    exact hR55 x1 x2 x3 (x4 + 1) S88 hp
set_option maxRecDepth 100000 in
set_option maxHeartbeats 1000000 in
theorem se_Pa_writeData_55 (C : fcx gG D z A X R_Pa c_C_Pa_writeData 5 (none)) (hQ : X.2.2.2.2.2.2.2.2.2.2 = eQ gG D z X.2.2.2.2.2.2.2.1 X.2.2.2.2.1 L0 0 0 (pC_v lt_C U oa K (fun _ _ => False))) (hA : A = owA gG L0 X.2.2.2.2.1.heap.size) (hR : X.2.2.2.1 = { frames := 5, cells := 1, slots := 6, locals := 500 }) (hu : c_cl U u = 6) (x1 : Int32) (x2 : Int32) (x3 : Int32) (x4 : Int32) (S : cs) (R12 : Int32 → Int32 → Int32 → cs → Prop) (hR12 : ∀ yx1 yx2 yx3 yS, R12 yx1 yx2 yx3 yS → aw gG D z A X 5 12 [some (.ref (oa u)), some (.int yx1), some (.int yx2), some (.int yx3), none] [] (cw lt_C U oa yS) 0 0) (hp : e_Pa_writeData_55 U u x1 x2 x3 x4 S R12 K) : aw gG D z A X 5 55 [some (.ref (oa u)), some (.int x1), some (.int x2), some (.int x3), some (.int x4)] [] (cw lt_C U oa S) 0 0 := by
  obtain ⟨I, μ, h0, hs⟩ := hp
  have key : ∀ (n : Nat) (yx1 : Int32) (yx2 : Int32) (yx3 : Int32) (yx4 : Int32) (yS : cs), μ yx1 yx2 yx3 yx4 yS < n → I yx1 yx2 yx3 yx4 yS → aw gG D z A X 5 55 [some (.ref (oa u)), some (.int yx1), some (.int yx2), some (.int yx3), some (.int yx4)] [] (cw lt_C U oa yS) 0 0 := by
    intro n
    induction n with
    | zero => intro yx1 yx2 yx3 yx4 yS h; omega
    | succ n ih =>
      intro yx1 yx2 yx3 yx4 yS hn hI
      exact s_Pa_writeData_55 C hQ hA hR hu yx1 yx2 yx3 yx4 yS R12 hR12 _ (fun zx1 zx2 zx3 zx4 zS hw => ih zx1 zx2 zx3 zx4 zS (by omega) hw.1) (hs yx1 yx2 yx3 yx4 yS hI)
  exact key (μ x1 x2 x3 x4 S + 1) x1 x2 x3 x4 S (Nat.lt_succ_self _) h0
set_option maxRecDepth 100000 in
set_option maxHeartbeats 1000000 in
theorem s_Pa_writeData_52 (C : fcx gG D z A X R_Pa c_C_Pa_writeData 5 (none)) (hQ : X.2.2.2.2.2.2.2.2.2.2 = eQ gG D z X.2.2.2.2.2.2.2.1 X.2.2.2.2.1 L0 0 0 (pC_v lt_C U oa K (fun _ _ => False))) (hA : A = owA gG L0 X.2.2.2.2.1.heap.size) (hR : X.2.2.2.1 = { frames := 5, cells := 1, slots := 6, locals := 500 }) (hu : c_cl U u = 6) (x1 : Int32) (x2 : Int32) (x3 : Int32) (S : cs) (R12 : Int32 → Int32 → Int32 → cs → Prop) (hR12 : ∀ yx1 yx2 yx3 yS, R12 yx1 yx2 yx3 yS → aw gG D z A X 5 12 [some (.ref (oa u)), some (.int yx1), some (.int yx2), some (.int yx3), none] [] (cw lt_C U oa yS) 0 0) (hp : b_Pa_writeData_52 U u x1 x2 x3 S R12 K) : aw gG D z A X 5 52 [some (.ref (oa u)), some (.int x1), some (.int x2), some (.int x3), none] [] (cw lt_C U oa S) 0 0 := by
  unfold b_Pa_writeData_52 at hp
  refine a_iconst (v := 0) C dc_Pa_writeData_52 (by decide) ?_
  refine a_istore (lo' := [some (.ref (oa u)), some (.int x1), some (.int x2), some (.int x3), some (.int 0)]) C dc_Pa_writeData_53 (by decide) rfl ?_
  refine aw_lo (lo' := [some (.ref (oa u)), some (.int x1), some (.int x2), some (.int x3), some (.int 0)]) ⟨.inr rfl, .inr rfl, .inr rfl, .inr rfl, .inr rfl, trivial⟩ ?_
  exact se_Pa_writeData_55 C hQ hA hR hu x1 x2 x3 0 S R12 hR12 hp
set_option maxRecDepth 100000 in
set_option maxHeartbeats 1000000 in
theorem s_Pa_writeData_12 (C : fcx gG D z A X R_Pa c_C_Pa_writeData 5 (none)) (hQ : X.2.2.2.2.2.2.2.2.2.2 = eQ gG D z X.2.2.2.2.2.2.2.1 X.2.2.2.2.1 L0 0 0 (pC_v lt_C U oa K (fun _ _ => False))) (hA : A = owA gG L0 X.2.2.2.2.1.heap.size) (hR : X.2.2.2.1 = { frames := 5, cells := 1, slots := 6, locals := 500 }) (hu : c_cl U u = 6) (x1 : Int32) (x2 : Int32) (x3 : Int32) (S : cs) (R12 : Int32 → Int32 → Int32 → cs → Prop) (hR12 : ∀ yx1 yx2 yx3 yS, R12 yx1 yx2 yx3 yS → aw gG D z A X 5 12 [some (.ref (oa u)), some (.int yx1), some (.int yx2), some (.int yx3), none] [] (cw lt_C U oa yS) 0 0) (hp : b_Pa_writeData_12 U u x1 x2 x3 S R12 K) : aw gG D z A X 5 12 [some (.ref (oa u)), some (.int x1), some (.int x2), some (.int x3), none] [] (cw lt_C U oa S) 0 0 := by
  unfold b_Pa_writeData_12 at hp
  refine a_iload_n C dc_Pa_writeData_12 rfl rfl ?_
  refine a_aload_n C dc_Pa_writeData_13 rfl rfl ?_
  refine c_getR C u 3 dc_Pa_writeData_14 hu rfl rfl (Nat.le_of_ble_eq_true rfl) f_Pa_38 rfl hp.1 ?_
  have hp := hp.2
  have hc3 := hp.1
  have hp := hp.2
  refine c_getIN C (S.2.2 u 3) 4 dc_Pa_writeData_17 hc3 rfl rfl (Nat.le_of_ble_eq_true rfl) f_Pa_234 (Nat.le_of_ble_eq_true rfl) ?_
  refine a_icmp_ge (tgt := 103) C dc_Pa_writeData_20 (by decide) ⟨fun hc => ?_, fun hc => ?_⟩
  · have hp := hp.1 hc
    refine a_aload_n C dc_Pa_writeData_103 rfl rfl ?_
    refine c_call (rest := []) (av := .ref (oa u) :: []) C dc_Pa_writeData_104 (ct_Pa_fillByte u S hu hp) cd_C_Pa_fillByte i_Pa (Nat.le_of_ble_eq_true rfl) (by rw [hR]; exact Nat.le_of_ble_eq_true rfl) (by rw [hR]; exact Nat.le_of_ble_eq_true rfl) (by rw [hR]; exact Nat.le_of_ble_eq_true rfl) (by rw [hR]; exact Nat.le_of_ble_eq_true rfl) (inv_V C u dc_Pa_writeData_104 l_Pa_246 im_C_Pa_fillByte se_C_Pa_fillByte cd_C_Pa_fillByte ⟨by decide, by decide⟩ ln_C_Pa_fillByte rfl rfl (cw_obj hu rfl) rfl rfl) (fun oc L1 hL => ?_)
    obtain ⟨S104, hp, rfl, rfl⟩ := hL.resolve_right pC_no
    refine ⟨_, rfl, ?_⟩
    refine aw_eq (lo' := _) (st' := []) (L' := (cw lt_C U oa S104)) rfl rfl rfl ?_
    exact a_vret C hQ hA dc_Pa_writeData_107 rfl (Or.inl ⟨S104, hp, rfl, rfl⟩)
  · have hp := hp.2 hc
    refine a_iload_n C dc_Pa_writeData_23 rfl rfl ?_
    refine a_if_le (tgt := 52) C dc_Pa_writeData_24 (by decide) ⟨fun hc => ?_, fun hc => ?_⟩
    · have hp := hp.1 hc
      refine aw_lo (lo' := [some (.ref (oa u)), some (.int x1), some (.int x2), some (.int x3), none]) ⟨.inr rfl, .inr rfl, .inr rfl, .inr rfl, .inr rfl, trivial⟩ ?_
      exact s_Pa_writeData_52 C hQ hA hR hu x1 x2 x3 S R12 hR12 hp
    · have hp := hp.2 hc
      refine a_iload_n C dc_Pa_writeData_27 rfl rfl ?_
      refine a_if_le (tgt := 52) C dc_Pa_writeData_28 (by decide) ⟨fun hc => ?_, fun hc => ?_⟩
      · have hp := hp.1 hc
        refine aw_lo (lo' := [some (.ref (oa u)), some (.int x1), some (.int x2), some (.int x3), none]) ⟨.inr rfl, .inr rfl, .inr rfl, .inr rfl, .inr rfl, trivial⟩ ?_
        exact s_Pa_writeData_52 C hQ hA hR hu x1 x2 x3 S R12 hR12 hp
      · have hp := hp.2 hc
        refine a_iload_n C dc_Pa_writeData_31 rfl rfl ?_
        refine a_iload_n C dc_Pa_writeData_32 rfl rfl ?_
        refine a_irem C dc_Pa_writeData_33 hp.1 ?_
        have hp := hp.2
        refine a_if_ne (tgt := 52) C dc_Pa_writeData_34 (by decide) ⟨fun hc => ?_, fun hc => ?_⟩
        · have hp := hp.1 hc
          refine aw_lo (lo' := [some (.ref (oa u)), some (.int x1), some (.int x2), some (.int x3), none]) ⟨.inr rfl, .inr rfl, .inr rfl, .inr rfl, .inr rfl, trivial⟩ ?_
          exact s_Pa_writeData_52 C hQ hA hR hu x1 x2 x3 S R12 hR12 hp
        · have hp := hp.2 hc
          refine a_aload_n C dc_Pa_writeData_37 rfl rfl ?_
          refine a_sipush (v := 208) C dc_Pa_writeData_38 (by decide) ?_
          refine a_iload_n C dc_Pa_writeData_41 rfl rfl ?_
          refine a_bipush (v := 8) C dc_Pa_writeData_42 (by decide) ?_
          refine a_irem C dc_Pa_writeData_44 (by decide) ?_
          refine a_iadd C dc_Pa_writeData_45 ?_
          refine c_call (rest := []) (av := .ref (oa u) :: [.int (208 + (x2 - x2 / 8 * 8))]) C dc_Pa_writeData_46 (ct_Pa_writeAgain u (208 + (x2 - x2 / 8 * 8)) S hu hp) cd_C_Pa_writeAgain i_Pa (Nat.le_of_ble_eq_true rfl) (by rw [hR]; exact Nat.le_of_ble_eq_true rfl) (by rw [hR]; exact Nat.le_of_ble_eq_true rfl) (by rw [hR]; exact Nat.le_of_ble_eq_true rfl) (by rw [hR]; exact Nat.le_of_ble_eq_true rfl) (inv_V C u dc_Pa_writeData_46 l_Pa_237 im_C_Pa_writeAgain se_C_Pa_writeAgain cd_C_Pa_writeAgain ⟨by decide, by decide⟩ ln_C_Pa_writeAgain rfl rfl (cw_obj hu rfl) rfl rfl) (fun oc L1 hL => ?_)
          obtain ⟨S46, hp, rfl, rfl⟩ := hL.resolve_right pC_no
          refine ⟨_, rfl, ?_⟩
          refine aw_eq (lo' := _) (st' := []) (L' := (cw lt_C U oa S46)) rfl rfl rfl ?_
          refine a_iinc (v := x2 + 1) (lo' := [some (.ref (oa u)), some (.int x1), some (.int (x2 + 1)), some (.int x3), none]) C dc_Pa_writeData_49 rfl rfl (by decide) rfl ?_
          refine aw_lo (lo' := [some (.ref (oa u)), some (.int x1), some (.int (x2 + 1)), some (.int x3), none]) ⟨.inr rfl, .inr rfl, .inr rfl, .inr rfl, .inr rfl, trivial⟩ ?_
          exact s_Pa_writeData_52 C hQ hA hR hu x1 (x2 + 1) x3 S46 R12 hR12 hp
set_option maxRecDepth 100000 in
set_option maxHeartbeats 1000000 in
theorem se_Pa_writeData_12 (C : fcx gG D z A X R_Pa c_C_Pa_writeData 5 (none)) (hQ : X.2.2.2.2.2.2.2.2.2.2 = eQ gG D z X.2.2.2.2.2.2.2.1 X.2.2.2.2.1 L0 0 0 (pC_v lt_C U oa K (fun _ _ => False))) (hA : A = owA gG L0 X.2.2.2.2.1.heap.size) (hR : X.2.2.2.1 = { frames := 5, cells := 1, slots := 6, locals := 500 }) (hu : c_cl U u = 6) (x1 : Int32) (x2 : Int32) (x3 : Int32) (S : cs) (hp : e_Pa_writeData_12 U u x1 x2 x3 S K) : aw gG D z A X 5 12 [some (.ref (oa u)), some (.int x1), some (.int x2), some (.int x3), none] [] (cw lt_C U oa S) 0 0 := by
  obtain ⟨I, μ, h0, hs⟩ := hp
  have key : ∀ (n : Nat) (yx1 : Int32) (yx2 : Int32) (yx3 : Int32) (yS : cs), μ yx1 yx2 yx3 yS < n → I yx1 yx2 yx3 yS → aw gG D z A X 5 12 [some (.ref (oa u)), some (.int yx1), some (.int yx2), some (.int yx3), none] [] (cw lt_C U oa yS) 0 0 := by
    intro n
    induction n with
    | zero => intro yx1 yx2 yx3 yS h; omega
    | succ n ih =>
      intro yx1 yx2 yx3 yS hn hI
      exact s_Pa_writeData_12 C hQ hA hR hu yx1 yx2 yx3 yS _ (fun zx1 zx2 zx3 zS hw => ih zx1 zx2 zx3 zS (by omega) hw.1) (hs yx1 yx2 yx3 yS hI)
  exact key (μ x1 x2 x3 S + 1) x1 x2 x3 S (Nat.lt_succ_self _) h0
set_option maxRecDepth 100000 in
set_option maxHeartbeats 1000000 in
theorem s_Pa_writeData_0 (C : fcx gG D z A X R_Pa c_C_Pa_writeData 5 (none)) (hQ : X.2.2.2.2.2.2.2.2.2.2 = eQ gG D z X.2.2.2.2.2.2.2.1 X.2.2.2.2.1 L0 0 0 (pC_v lt_C U oa K (fun _ _ => False))) (hA : A = owA gG L0 X.2.2.2.2.1.heap.size) (hR : X.2.2.2.1 = { frames := 5, cells := 1, slots := 6, locals := 500 }) (hu : c_cl U u = 6) (x1 : Int32) (S : cs) (hp : p_Pa_writeData U u x1 S K) : aw gG D z A X 5 0 [some (.ref (oa u)), some (.int x1), none, none, none] [] (cw lt_C U oa S) 0 0 := by
  unfold p_Pa_writeData at hp
  refine a_aload_n C dc_Pa_writeData_0 rfl rfl ?_
  refine c_getR C u 7 dc_Pa_writeData_1 hu rfl rfl (Nat.le_of_ble_eq_true rfl) f_Pa_59 rfl hp.1 ?_
  have hp := hp.2
  refine a_iconst (v := 0) C dc_Pa_writeData_4 (by decide) ?_
  refine c_call (rest := []) (av := [.ref (oa (S.2.2 u 7)), .int 0]) C dc_Pa_writeData_5 (ct_Ar_fillI (S.2.2 u 7) 0 S  hp) cd_C_Ar_fillI i_Ar (Nat.le_of_ble_eq_true rfl) (by rw [hR]; exact Nat.le_of_ble_eq_true rfl) (by rw [hR]; exact Nat.le_of_ble_eq_true rfl) (by rw [hR]; exact Nat.le_of_ble_eq_true rfl) (by rw [hR]; exact Nat.le_of_ble_eq_true rfl) (inv_S C dc_Pa_writeData_5 l_Pa_228 st_C_Ar_fillI i_Ar cd_C_Ar_fillI ⟨by decide, by decide⟩ ln_C_Ar_fillI rfl) (fun oc L1 hL => ?_)
  obtain ⟨S5, hp, rfl, rfl⟩ := hL.resolve_right pC_no
  refine ⟨_, rfl, ?_⟩
  refine aw_eq (lo' := _) (st' := []) (L' := (cw lt_C U oa S5)) rfl rfl rfl ?_
  refine a_iconst (v := 0) C dc_Pa_writeData_8 (by decide) ?_
  refine a_istore_n (lo' := [some (.ref (oa u)), some (.int x1), some (.int 0), none, none]) C dc_Pa_writeData_9 rfl (by decide) rfl ?_
  refine a_iconst (v := 0) C dc_Pa_writeData_10 (by decide) ?_
  refine a_istore_n (lo' := [some (.ref (oa u)), some (.int x1), some (.int 0), some (.int 0), none]) C dc_Pa_writeData_11 rfl (by decide) rfl ?_
  refine aw_lo (lo' := [some (.ref (oa u)), some (.int x1), some (.int 0), some (.int 0), none]) ⟨.inr rfl, .inr rfl, .inr rfl, .inr rfl, .inr rfl, trivial⟩ ?_
  exact se_Pa_writeData_12 C hQ hA hR hu x1 0 0 S5  hp
end C_Pa_writeData
section C_Pa_writeDatac
variable {D : va_G} {z : Nat → ClassId} {U : ut} {oa : Nat → Nat}
set_option maxRecDepth 100000 in
theorem ct_Pa_writeData {l : Launch} (u : Nat) (x1 : Int32) (S : cs) {K : cs → Prop} (hu : c_cl U u = 6) (hp : p_Pa_writeData U u x1 S K) : ct gG D z l n_C_Pa_writeData c_C_Pa_writeData 5 (none) 5 500 [.ref (oa u), .int x1] (cw lt_C U oa S) 0 0 (pC_v lt_C U oa K (fun _ _ => False)) := by
  refine ct_of (lo := [some (.ref (oa u)), some (.int x1), none, none, none]) (by decide) g_ok (Nat.le_of_ble_eq_true rfl) rfl ?_
  intro X A _ C hR hQ hA _
  exact s_Pa_writeData_0 C hQ hA hR hu x1 S hp
end C_Pa_writeDatac
def b_Li_sortSymbols_89 (U : ut) (u : Nat) (x1 : Nat) (x2 : Int32) (S : cs) (R7 : Nat → Int32 → cs → Prop) (K : cs → Prop) : Prop :=
  R7 x1 (x2 + 1) S
def b_Li_sortSymbols_72 (U : ut) (u : Nat) (x1 : Nat) (x2 : Int32) (x3 : Int32) (S : cs) (R7 : Nat → Int32 → cs → Prop) (K : cs → Prop) : Prop :=
  ¬ S.2.2 u 0 = NU ∧ (c_cl U (S.2.2 u 0) = 902 ∧ (vp_in x3 (c_ln U (S.2.2 u 0)) ∧ (b_Li_sortSymbols_89 U u x1 x2 (va_up (va_up S.1 (S.2.2 u 0) (upd (S.1 (S.2.2 u 0)) x3.toNatClampNeg x2)) u (upd ((va_up S.1 (S.2.2 u 0) (upd (S.1 (S.2.2 u 0)) x3.toNatClampNeg x2)) u) 1 (((va_up S.1 (S.2.2 u 0) (upd (S.1 (S.2.2 u 0)) x3.toNatClampNeg x2)) u 1) + 1)), S.2.1, S.2.2) R7 K)))
def b_Li_sortSymbols_32 (U : ut) (u : Nat) (x1 : Nat) (x2 : Int32) (x3 : Int32) (S : cs) (R7 : Nat → Int32 → cs → Prop) (R32 : Nat → Int32 → Int32 → cs → Prop) (K : cs → Prop) : Prop :=
  (x3 ≤ 0 → (b_Li_sortSymbols_72 U u x1 x2 x3 S R7 K)) ∧ (¬ (x3 ≤ 0) → (¬ S.2.2 u 0 = NU ∧ (c_cl U (S.2.2 u 0) = 902 ∧ (vp_in (x3 - 1) (c_ln U (S.2.2 u 0)) ∧ (c_cl U x1 = 902 ∧ (vp_in (S.1 (S.2.2 u 0) (x3 - 1).toNatClampNeg) (c_ln U x1) ∧ (vp_in x2 (c_ln U x1) ∧ (((S.1 x1 (S.1 (S.2.2 u 0) (x3 - 1).toNatClampNeg).toNatClampNeg) ≤ (S.1 x1 x2.toNatClampNeg) → (b_Li_sortSymbols_72 U u x1 x2 x3 S R7 K)) ∧ (¬ ((S.1 x1 (S.1 (S.2.2 u 0) (x3 - 1).toNatClampNeg).toNatClampNeg) ≤ (S.1 x1 x2.toNatClampNeg)) → (¬ S.2.2 u 0 = NU ∧ (¬ S.2.2 u 0 = NU ∧ (vp_in (x3 - 1) (c_ln U (S.2.2 u 0)) ∧ (vp_in x3 (c_ln U (S.2.2 u 0)) ∧ (R32 x1 x2 (x3 + (-1)) (va_up S.1 (S.2.2 u 0) (upd (S.1 (S.2.2 u 0)) x3.toNatClampNeg (S.1 (S.2.2 u 0) (x3 - 1).toNatClampNeg)), S.2.1, S.2.2)))))))))))))))
def e_Li_sortSymbols_32 (U : ut) (u : Nat) (x1 : Nat) (x2 : Int32) (x3 : Int32) (S : cs) (R7 : Nat → Int32 → cs → Prop) (K : cs → Prop) : Prop :=
  ∃ (I : Nat → Int32 → Int32 → cs → Prop) (μ : Nat → Int32 → Int32 → cs → Nat), I x1 x2 x3 S ∧ ∀ yx1 yx2 yx3 yS, I yx1 yx2 yx3 yS → b_Li_sortSymbols_32 U u yx1 yx2 yx3 yS R7 (fun zx1 zx2 zx3 zS => I zx1 zx2 zx3 zS ∧ μ zx1 zx2 zx3 zS < μ yx1 yx2 yx3 yS) K
def b_Li_sortSymbols_27 (U : ut) (u : Nat) (x1 : Nat) (x2 : Int32) (S : cs) (R7 : Nat → Int32 → cs → Prop) (K : cs → Prop) : Prop :=
  e_Li_sortSymbols_32 U u x1 x2 (S.1 u 1) S R7 K
def b_Li_sortSymbols_7 (U : ut) (u : Nat) (x1 : Nat) (x2 : Int32) (S : cs) (R7 : Nat → Int32 → cs → Prop) (K : cs → Prop) : Prop :=
  (257 ≤ x2 → (K S)) ∧ (¬ (257 ≤ x2) → (c_cl U x1 = 902 ∧ (vp_in x2 (c_ln U x1) ∧ ((0 < (S.1 x1 x2.toNatClampNeg) → (b_Li_sortSymbols_27 U u x1 x2 S R7 K)) ∧ (¬ (0 < (S.1 x1 x2.toNatClampNeg)) → ((¬ x2 = 256 → (b_Li_sortSymbols_89 U u x1 x2 S R7 K)) ∧ (x2 = 256 → (b_Li_sortSymbols_27 U u x1 x2 S R7 K))))))))
def e_Li_sortSymbols_7 (U : ut) (u : Nat) (x1 : Nat) (x2 : Int32) (S : cs) (K : cs → Prop) : Prop :=
  ∃ (I : Nat → Int32 → cs → Prop) (μ : Nat → Int32 → cs → Nat), I x1 x2 S ∧ ∀ yx1 yx2 yS, I yx1 yx2 yS → b_Li_sortSymbols_7 U u yx1 yx2 yS (fun zx1 zx2 zS => I zx1 zx2 zS ∧ μ zx1 zx2 zS < μ yx1 yx2 yS) K
def p_Li_sortSymbols (U : ut) (u : Nat) (x1 : Nat) (S : cs) (K : cs → Prop) : Prop :=
  e_Li_sortSymbols_7 U u x1 0 (va_up S.1 u (upd (S.1 u) 1 0), S.2.1, S.2.2) K
section C_Li_sortSymbols
variable {D : va_G} {z : Nat → ClassId} {A : Nat → Prop} {X : cx} {L0 : fw} {U : ut} {oa : Nat → Nat} {u : Nat} {K : cs → Prop}
set_option maxRecDepth 100000 in
set_option maxHeartbeats 1000000 in
theorem s_Li_sortSymbols_89 (C : fcx gG D z A X R_Li c_C_Li_sortSymbols 4 (none)) (hQ : X.2.2.2.2.2.2.2.2.2.2 = eQ gG D z X.2.2.2.2.2.2.2.1 X.2.2.2.2.1 L0 0 0 (pC_v lt_C U oa K (fun _ _ => False))) (hA : A = owA gG L0 X.2.2.2.2.1.heap.size) (hR : X.2.2.2.1 = { frames := 1, cells := 1, slots := 6, locals := 100 }) (hu : c_cl U u = 4) (x1 : Nat) (x2 : Int32) (S : cs) (R7 : Nat → Int32 → cs → Prop) (hR7 : ∀ yx1 yx2 yS, R7 yx1 yx2 yS → aw gG D z A X 4 7 [some (.ref (oa u)), some (.ref (oa yx1)), some (.int yx2), none] [] (cw lt_C U oa yS) 0 0) (hp : b_Li_sortSymbols_89 U u x1 x2 S R7 K) : aw gG D z A X 4 89 [some (.ref (oa u)), some (.ref (oa x1)), some (.int x2), none] [] (cw lt_C U oa S) 0 0 := by
  unfold b_Li_sortSymbols_89 at hp
  refine a_iinc (v := x2 + 1) (lo' := [some (.ref (oa u)), some (.ref (oa x1)), some (.int (x2 + 1)), none]) C dc_Li_sortSymbols_89 rfl rfl (by decide) rfl ?_
  refine a_goto (tgt := 7) C dc_Li_sortSymbols_92 (by decide) ?_
  refine aw_lo (lo' := [some (.ref (oa u)), some (.ref (oa x1)), some (.int (x2 + 1)), none]) ⟨.inr rfl, .inr rfl, .inr rfl, .inr rfl, trivial⟩ ?_
  exact hR7 x1 (x2 + 1) S hp
set_option maxRecDepth 100000 in
set_option maxHeartbeats 1000000 in
theorem s_Li_sortSymbols_72 (C : fcx gG D z A X R_Li c_C_Li_sortSymbols 4 (none)) (hQ : X.2.2.2.2.2.2.2.2.2.2 = eQ gG D z X.2.2.2.2.2.2.2.1 X.2.2.2.2.1 L0 0 0 (pC_v lt_C U oa K (fun _ _ => False))) (hA : A = owA gG L0 X.2.2.2.2.1.heap.size) (hR : X.2.2.2.1 = { frames := 1, cells := 1, slots := 6, locals := 100 }) (hu : c_cl U u = 4) (x1 : Nat) (x2 : Int32) (x3 : Int32) (S : cs) (R7 : Nat → Int32 → cs → Prop) (hR7 : ∀ yx1 yx2 yS, R7 yx1 yx2 yS → aw gG D z A X 4 7 [some (.ref (oa u)), some (.ref (oa yx1)), some (.int yx2), none] [] (cw lt_C U oa yS) 0 0) (hp : b_Li_sortSymbols_72 U u x1 x2 x3 S R7 K) : aw gG D z A X 4 72 [some (.ref (oa u)), some (.ref (oa x1)), some (.int x2), some (.int x3)] [] (cw lt_C U oa S) 0 0 := by
  unfold b_Li_sortSymbols_72 at hp
  refine a_aload_n C dc_Li_sortSymbols_72 rfl rfl ?_
  refine c_getR C u 0 dc_Li_sortSymbols_73 hu rfl rfl (Nat.le_of_ble_eq_true rfl) f_Li_13 rfl hp.1 ?_
  have hp := hp.2
  refine a_iload_n C dc_Li_sortSymbols_76 rfl rfl ?_
  refine a_iload_n C dc_Li_sortSymbols_77 rfl rfl ?_
  have hc1 := hp.1
  have hp := hp.2
  refine c_iast C (S.2.2 u 0) dc_Li_sortSymbols_78 hc1 hp.1 ?_
  have hp := hp.2
  refine aw_eq (lo' := _) (st' := _) (L' := (cw lt_C U oa (va_up S.1 (S.2.2 u 0) (upd (S.1 (S.2.2 u 0)) x3.toNatClampNeg x2), S.2.1, S.2.2))) rfl rfl rfl ?_
  refine a_aload_n C dc_Li_sortSymbols_79 rfl rfl ?_
  refine a_dup C dc_Li_sortSymbols_80 rfl ?_
  refine c_getI C u 1 dc_Li_sortSymbols_81 hu rfl rfl (Nat.le_of_ble_eq_true rfl) f_Li_34 (Nat.le_of_ble_eq_true rfl) ?_
  refine a_iconst (v := 1) C dc_Li_sortSymbols_84 (by decide) ?_
  refine a_iadd C dc_Li_sortSymbols_85 ?_
  refine c_putI (ty := .int) C u 1 dc_Li_sortSymbols_86 hu rfl rfl (Nat.le_of_ble_eq_true rfl) f_Li_34 (Nat.le_of_ble_eq_true rfl) rfl rfl rfl rfl ?_
  refine aw_eq (lo' := _) (st' := _) (L' := (cw lt_C U oa (va_up (va_up S.1 (S.2.2 u 0) (upd (S.1 (S.2.2 u 0)) x3.toNatClampNeg x2)) u (upd ((va_up S.1 (S.2.2 u 0) (upd (S.1 (S.2.2 u 0)) x3.toNatClampNeg x2)) u) 1 (((va_up S.1 (S.2.2 u 0) (upd (S.1 (S.2.2 u 0)) x3.toNatClampNeg x2)) u 1) + 1)), S.2.1, S.2.2))) rfl rfl rfl ?_
  refine aw_lo (lo' := [some (.ref (oa u)), some (.ref (oa x1)), some (.int x2), none]) ⟨.inr rfl, .inr rfl, .inr rfl, .inl rfl, trivial⟩ ?_
  exact s_Li_sortSymbols_89 C hQ hA hR hu x1 x2 (va_up (va_up S.1 (S.2.2 u 0) (upd (S.1 (S.2.2 u 0)) x3.toNatClampNeg x2)) u (upd ((va_up S.1 (S.2.2 u 0) (upd (S.1 (S.2.2 u 0)) x3.toNatClampNeg x2)) u) 1 (((va_up S.1 (S.2.2 u 0) (upd (S.1 (S.2.2 u 0)) x3.toNatClampNeg x2)) u 1) + 1)), S.2.1, S.2.2) R7 hR7 hp
set_option maxRecDepth 100000 in
set_option maxHeartbeats 1000000 in
theorem s_Li_sortSymbols_32 (C : fcx gG D z A X R_Li c_C_Li_sortSymbols 4 (none)) (hQ : X.2.2.2.2.2.2.2.2.2.2 = eQ gG D z X.2.2.2.2.2.2.2.1 X.2.2.2.2.1 L0 0 0 (pC_v lt_C U oa K (fun _ _ => False))) (hA : A = owA gG L0 X.2.2.2.2.1.heap.size) (hR : X.2.2.2.1 = { frames := 1, cells := 1, slots := 6, locals := 100 }) (hu : c_cl U u = 4) (x1 : Nat) (x2 : Int32) (x3 : Int32) (S : cs) (R7 : Nat → Int32 → cs → Prop) (hR7 : ∀ yx1 yx2 yS, R7 yx1 yx2 yS → aw gG D z A X 4 7 [some (.ref (oa u)), some (.ref (oa yx1)), some (.int yx2), none] [] (cw lt_C U oa yS) 0 0) (R32 : Nat → Int32 → Int32 → cs → Prop) (hR32 : ∀ yx1 yx2 yx3 yS, R32 yx1 yx2 yx3 yS → aw gG D z A X 4 32 [some (.ref (oa u)), some (.ref (oa yx1)), some (.int yx2), some (.int yx3)] [] (cw lt_C U oa yS) 0 0) (hp : b_Li_sortSymbols_32 U u x1 x2 x3 S R7 R32 K) : aw gG D z A X 4 32 [some (.ref (oa u)), some (.ref (oa x1)), some (.int x2), some (.int x3)] [] (cw lt_C U oa S) 0 0 := by
  unfold b_Li_sortSymbols_32 at hp
  refine a_iload_n C dc_Li_sortSymbols_32 rfl rfl ?_
  refine a_if_le (tgt := 72) C dc_Li_sortSymbols_33 (by decide) ⟨fun hc => ?_, fun hc => ?_⟩
  · have hp := hp.1 hc
    refine aw_lo (lo' := [some (.ref (oa u)), some (.ref (oa x1)), some (.int x2), some (.int x3)]) ⟨.inr rfl, .inr rfl, .inr rfl, .inr rfl, trivial⟩ ?_
    exact s_Li_sortSymbols_72 C hQ hA hR hu x1 x2 x3 S R7 hR7 hp
  · have hp := hp.2 hc
    refine a_aload_n C dc_Li_sortSymbols_36 rfl rfl ?_
    refine a_aload_n C dc_Li_sortSymbols_37 rfl rfl ?_
    refine c_getR C u 0 dc_Li_sortSymbols_38 hu rfl rfl (Nat.le_of_ble_eq_true rfl) f_Li_13 rfl hp.1 ?_
    have hp := hp.2
    refine a_iload_n C dc_Li_sortSymbols_41 rfl rfl ?_
    refine a_iconst (v := 1) C dc_Li_sortSymbols_42 (by decide) ?_
    refine a_isub C dc_Li_sortSymbols_43 ?_
    have hc2 := hp.1
    have hp := hp.2
    refine c_iald C (S.2.2 u 0) dc_Li_sortSymbols_44 hc2 hp.1 ?_
    have hp := hp.2
    have hc3 := hp.1
    have hp := hp.2
    refine c_iald C x1 dc_Li_sortSymbols_45 hc3 hp.1 ?_
    have hp := hp.2
    refine a_aload_n C dc_Li_sortSymbols_46 rfl rfl ?_
    refine a_iload_n C dc_Li_sortSymbols_47 rfl rfl ?_
    refine c_iald C x1 dc_Li_sortSymbols_48 hc3 hp.1 ?_
    have hp := hp.2
    refine a_icmp_le (tgt := 72) C dc_Li_sortSymbols_49 (by decide) ⟨fun hc => ?_, fun hc => ?_⟩
    · have hp := hp.1 hc
      refine aw_lo (lo' := [some (.ref (oa u)), some (.ref (oa x1)), some (.int x2), some (.int x3)]) ⟨.inr rfl, .inr rfl, .inr rfl, .inr rfl, trivial⟩ ?_
      exact s_Li_sortSymbols_72 C hQ hA hR hu x1 x2 x3 S R7 hR7 hp
    · have hp := hp.2 hc
      refine a_aload_n C dc_Li_sortSymbols_52 rfl rfl ?_
      refine c_getR C u 0 dc_Li_sortSymbols_53 hu rfl rfl (Nat.le_of_ble_eq_true rfl) f_Li_13 rfl hp.1 ?_
      have hp := hp.2
      refine a_iload_n C dc_Li_sortSymbols_56 rfl rfl ?_
      refine a_aload_n C dc_Li_sortSymbols_57 rfl rfl ?_
      refine c_getR C u 0 dc_Li_sortSymbols_58 hu rfl rfl (Nat.le_of_ble_eq_true rfl) f_Li_13 rfl hp.1 ?_
      have hp := hp.2
      refine a_iload_n C dc_Li_sortSymbols_61 rfl rfl ?_
      refine a_iconst (v := 1) C dc_Li_sortSymbols_62 (by decide) ?_
      refine a_isub C dc_Li_sortSymbols_63 ?_
      refine c_iald C (S.2.2 u 0) dc_Li_sortSymbols_64 hc2 hp.1 ?_
      have hp := hp.2
      refine c_iast C (S.2.2 u 0) dc_Li_sortSymbols_65 hc2 hp.1 ?_
      have hp := hp.2
      refine aw_eq (lo' := _) (st' := _) (L' := (cw lt_C U oa (va_up S.1 (S.2.2 u 0) (upd (S.1 (S.2.2 u 0)) x3.toNatClampNeg (S.1 (S.2.2 u 0) (x3 - 1).toNatClampNeg)), S.2.1, S.2.2))) rfl rfl rfl ?_
      refine a_iinc (v := x3 + (-1)) (lo' := [some (.ref (oa u)), some (.ref (oa x1)), some (.int x2), some (.int (x3 + (-1)))]) C dc_Li_sortSymbols_66 rfl rfl (by decide) rfl ?_
      refine a_goto (tgt := 32) C dc_Li_sortSymbols_69 (by decide) ?_
      refine aw_lo (lo' := [some (.ref (oa u)), some (.ref (oa x1)), some (.int x2), some (.int (x3 + (-1)))]) ⟨.inr rfl, .inr rfl, .inr rfl, .inr rfl, trivial⟩ ?_
      exact hR32 x1 x2 (x3 + (-1)) (va_up S.1 (S.2.2 u 0) (upd (S.1 (S.2.2 u 0)) x3.toNatClampNeg (S.1 (S.2.2 u 0) (x3 - 1).toNatClampNeg)), S.2.1, S.2.2) hp
set_option maxRecDepth 100000 in
set_option maxHeartbeats 1000000 in
theorem se_Li_sortSymbols_32 (C : fcx gG D z A X R_Li c_C_Li_sortSymbols 4 (none)) (hQ : X.2.2.2.2.2.2.2.2.2.2 = eQ gG D z X.2.2.2.2.2.2.2.1 X.2.2.2.2.1 L0 0 0 (pC_v lt_C U oa K (fun _ _ => False))) (hA : A = owA gG L0 X.2.2.2.2.1.heap.size) (hR : X.2.2.2.1 = { frames := 1, cells := 1, slots := 6, locals := 100 }) (hu : c_cl U u = 4) (x1 : Nat) (x2 : Int32) (x3 : Int32) (S : cs) (R7 : Nat → Int32 → cs → Prop) (hR7 : ∀ yx1 yx2 yS, R7 yx1 yx2 yS → aw gG D z A X 4 7 [some (.ref (oa u)), some (.ref (oa yx1)), some (.int yx2), none] [] (cw lt_C U oa yS) 0 0) (hp : e_Li_sortSymbols_32 U u x1 x2 x3 S R7 K) : aw gG D z A X 4 32 [some (.ref (oa u)), some (.ref (oa x1)), some (.int x2), some (.int x3)] [] (cw lt_C U oa S) 0 0 := by
  obtain ⟨I, μ, h0, hs⟩ := hp
  have key : ∀ (n : Nat) (yx1 : Nat) (yx2 : Int32) (yx3 : Int32) (yS : cs), μ yx1 yx2 yx3 yS < n → I yx1 yx2 yx3 yS → aw gG D z A X 4 32 [some (.ref (oa u)), some (.ref (oa yx1)), some (.int yx2), some (.int yx3)] [] (cw lt_C U oa yS) 0 0 := by
    intro n
    induction n with
    | zero => intro yx1 yx2 yx3 yS h; omega
    | succ n ih =>
      intro yx1 yx2 yx3 yS hn hI
      exact s_Li_sortSymbols_32 C hQ hA hR hu yx1 yx2 yx3 yS R7 hR7 _ (fun zx1 zx2 zx3 zS hw => ih zx1 zx2 zx3 zS (by omega) hw.1) (hs yx1 yx2 yx3 yS hI)
  exact key (μ x1 x2 x3 S + 1) x1 x2 x3 S (Nat.lt_succ_self _) h0
set_option maxRecDepth 100000 in
set_option maxHeartbeats 1000000 in
theorem s_Li_sortSymbols_27 (C : fcx gG D z A X R_Li c_C_Li_sortSymbols 4 (none)) (hQ : X.2.2.2.2.2.2.2.2.2.2 = eQ gG D z X.2.2.2.2.2.2.2.1 X.2.2.2.2.1 L0 0 0 (pC_v lt_C U oa K (fun _ _ => False))) (hA : A = owA gG L0 X.2.2.2.2.1.heap.size) (hR : X.2.2.2.1 = { frames := 1, cells := 1, slots := 6, locals := 100 }) (hu : c_cl U u = 4) (x1 : Nat) (x2 : Int32) (S : cs) (R7 : Nat → Int32 → cs → Prop) (hR7 : ∀ yx1 yx2 yS, R7 yx1 yx2 yS → aw gG D z A X 4 7 [some (.ref (oa u)), some (.ref (oa yx1)), some (.int yx2), none] [] (cw lt_C U oa yS) 0 0) (hp : b_Li_sortSymbols_27 U u x1 x2 S R7 K) : aw gG D z A X 4 27 [some (.ref (oa u)), some (.ref (oa x1)), some (.int x2), none] [] (cw lt_C U oa S) 0 0 := by
  unfold b_Li_sortSymbols_27 at hp
  refine a_aload_n C dc_Li_sortSymbols_27 rfl rfl ?_
  refine c_getI C u 1 dc_Li_sortSymbols_28 hu rfl rfl (Nat.le_of_ble_eq_true rfl) f_Li_34 (Nat.le_of_ble_eq_true rfl) ?_
  refine a_istore_n (lo' := [some (.ref (oa u)), some (.ref (oa x1)), some (.int x2), some (.int (S.1 u 1))]) C dc_Li_sortSymbols_31 rfl (by decide) rfl ?_
  refine aw_lo (lo' := [some (.ref (oa u)), some (.ref (oa x1)), some (.int x2), some (.int (S.1 u 1))]) ⟨.inr rfl, .inr rfl, .inr rfl, .inr rfl, trivial⟩ ?_
  exact se_Li_sortSymbols_32 C hQ hA hR hu x1 x2 (S.1 u 1) S R7 hR7 hp
set_option maxRecDepth 100000 in
set_option maxHeartbeats 1000000 in
theorem s_Li_sortSymbols_7 (C : fcx gG D z A X R_Li c_C_Li_sortSymbols 4 (none)) (hQ : X.2.2.2.2.2.2.2.2.2.2 = eQ gG D z X.2.2.2.2.2.2.2.1 X.2.2.2.2.1 L0 0 0 (pC_v lt_C U oa K (fun _ _ => False))) (hA : A = owA gG L0 X.2.2.2.2.1.heap.size) (hR : X.2.2.2.1 = { frames := 1, cells := 1, slots := 6, locals := 100 }) (hu : c_cl U u = 4) (x1 : Nat) (x2 : Int32) (S : cs) (R7 : Nat → Int32 → cs → Prop) (hR7 : ∀ yx1 yx2 yS, R7 yx1 yx2 yS → aw gG D z A X 4 7 [some (.ref (oa u)), some (.ref (oa yx1)), some (.int yx2), none] [] (cw lt_C U oa yS) 0 0) (hp : b_Li_sortSymbols_7 U u x1 x2 S R7 K) : aw gG D z A X 4 7 [some (.ref (oa u)), some (.ref (oa x1)), some (.int x2), none] [] (cw lt_C U oa S) 0 0 := by
  unfold b_Li_sortSymbols_7 at hp
  refine a_iload_n C dc_Li_sortSymbols_7 rfl rfl ?_
  refine a_sipush (v := 257) C dc_Li_sortSymbols_8 (by decide) ?_
  refine a_icmp_ge (tgt := 95) C dc_Li_sortSymbols_11 (by decide) ⟨fun hc => ?_, fun hc => ?_⟩
  · have hp := hp.1 hc
    exact a_vret C hQ hA dc_Li_sortSymbols_95 rfl (Or.inl ⟨S, hp, rfl, rfl⟩)
  · have hp := hp.2 hc
    refine a_aload_n C dc_Li_sortSymbols_14 rfl rfl ?_
    refine a_iload_n C dc_Li_sortSymbols_15 rfl rfl ?_
    have hc4 := hp.1
    have hp := hp.2
    refine c_iald C x1 dc_Li_sortSymbols_16 hc4 hp.1 ?_
    have hp := hp.2
    refine a_if_gt (tgt := 27) C dc_Li_sortSymbols_17 (by decide) ⟨fun hc => ?_, fun hc => ?_⟩
    · have hp := hp.1 hc
      refine aw_lo (lo' := [some (.ref (oa u)), some (.ref (oa x1)), some (.int x2), none]) ⟨.inr rfl, .inr rfl, .inr rfl, .inr rfl, trivial⟩ ?_
      exact s_Li_sortSymbols_27 C hQ hA hR hu x1 x2 S R7 hR7 hp
    · have hp := hp.2 hc
      refine a_iload_n C dc_Li_sortSymbols_20 rfl rfl ?_
      refine a_sipush (v := 256) C dc_Li_sortSymbols_21 (by decide) ?_
      refine a_icmp_ne (tgt := 89) C dc_Li_sortSymbols_24 (by decide) ⟨fun hc => ?_, fun hc => ?_⟩
      · have hp := hp.1 hc
        refine aw_lo (lo' := [some (.ref (oa u)), some (.ref (oa x1)), some (.int x2), none]) ⟨.inr rfl, .inr rfl, .inr rfl, .inr rfl, trivial⟩ ?_
        exact s_Li_sortSymbols_89 C hQ hA hR hu x1 x2 S R7 hR7 hp
      · have hp := hp.2 hc
        refine aw_lo (lo' := [some (.ref (oa u)), some (.ref (oa x1)), some (.int x2), none]) ⟨.inr rfl, .inr rfl, .inr rfl, .inr rfl, trivial⟩ ?_
        exact s_Li_sortSymbols_27 C hQ hA hR hu x1 x2 S R7 hR7 hp
set_option maxRecDepth 100000 in
set_option maxHeartbeats 1000000 in
theorem se_Li_sortSymbols_7 (C : fcx gG D z A X R_Li c_C_Li_sortSymbols 4 (none)) (hQ : X.2.2.2.2.2.2.2.2.2.2 = eQ gG D z X.2.2.2.2.2.2.2.1 X.2.2.2.2.1 L0 0 0 (pC_v lt_C U oa K (fun _ _ => False))) (hA : A = owA gG L0 X.2.2.2.2.1.heap.size) (hR : X.2.2.2.1 = { frames := 1, cells := 1, slots := 6, locals := 100 }) (hu : c_cl U u = 4) (x1 : Nat) (x2 : Int32) (S : cs) (hp : e_Li_sortSymbols_7 U u x1 x2 S K) : aw gG D z A X 4 7 [some (.ref (oa u)), some (.ref (oa x1)), some (.int x2), none] [] (cw lt_C U oa S) 0 0 := by
  obtain ⟨I, μ, h0, hs⟩ := hp
  have key : ∀ (n : Nat) (yx1 : Nat) (yx2 : Int32) (yS : cs), μ yx1 yx2 yS < n → I yx1 yx2 yS → aw gG D z A X 4 7 [some (.ref (oa u)), some (.ref (oa yx1)), some (.int yx2), none] [] (cw lt_C U oa yS) 0 0 := by
    intro n
    induction n with
    | zero => intro yx1 yx2 yS h; omega
    | succ n ih =>
      intro yx1 yx2 yS hn hI
      exact s_Li_sortSymbols_7 C hQ hA hR hu yx1 yx2 yS _ (fun zx1 zx2 zS hw => ih zx1 zx2 zS (by omega) hw.1) (hs yx1 yx2 yS hI)
  exact key (μ x1 x2 S + 1) x1 x2 S (Nat.lt_succ_self _) h0
set_option maxRecDepth 100000 in
set_option maxHeartbeats 1000000 in
theorem s_Li_sortSymbols_0 (C : fcx gG D z A X R_Li c_C_Li_sortSymbols 4 (none)) (hQ : X.2.2.2.2.2.2.2.2.2.2 = eQ gG D z X.2.2.2.2.2.2.2.1 X.2.2.2.2.1 L0 0 0 (pC_v lt_C U oa K (fun _ _ => False))) (hA : A = owA gG L0 X.2.2.2.2.1.heap.size) (hR : X.2.2.2.1 = { frames := 1, cells := 1, slots := 6, locals := 100 }) (hu : c_cl U u = 4) (x1 : Nat) (S : cs) (hp : p_Li_sortSymbols U u x1 S K) : aw gG D z A X 4 0 [some (.ref (oa u)), some (.ref (oa x1)), none, none] [] (cw lt_C U oa S) 0 0 := by
  unfold p_Li_sortSymbols at hp
  refine a_aload_n C dc_Li_sortSymbols_0 rfl rfl ?_
  refine a_iconst (v := 0) C dc_Li_sortSymbols_1 (by decide) ?_
  refine c_putI (ty := .int) C u 1 dc_Li_sortSymbols_2 hu rfl rfl (Nat.le_of_ble_eq_true rfl) f_Li_34 (Nat.le_of_ble_eq_true rfl) rfl rfl rfl rfl ?_
  refine aw_eq (lo' := _) (st' := _) (L' := (cw lt_C U oa (va_up S.1 u (upd (S.1 u) 1 0), S.2.1, S.2.2))) rfl rfl rfl ?_
  refine a_iconst (v := 0) C dc_Li_sortSymbols_5 (by decide) ?_
  refine a_istore_n (lo' := [some (.ref (oa u)), some (.ref (oa x1)), some (.int 0), none]) C dc_Li_sortSymbols_6 rfl (by decide) rfl ?_
  refine aw_lo (lo' := [some (.ref (oa u)), some (.ref (oa x1)), some (.int 0), none]) ⟨.inr rfl, .inr rfl, .inr rfl, .inr rfl, trivial⟩ ?_
  exact se_Li_sortSymbols_7 C hQ hA hR hu x1 0 (va_up S.1 u (upd (S.1 u) 1 0), S.2.1, S.2.2)  hp
end C_Li_sortSymbols
section C_Li_sortSymbolsc
variable {D : va_G} {z : Nat → ClassId} {U : ut} {oa : Nat → Nat}
set_option maxRecDepth 100000 in
theorem ct_Li_sortSymbols {l : Launch} (u : Nat) (x1 : Nat) (S : cs) {K : cs → Prop} (hu : c_cl U u = 4) (hp : p_Li_sortSymbols U u x1 S K) : ct gG D z l n_C_Li_sortSymbols c_C_Li_sortSymbols 4 (none) 1 100 [.ref (oa u), .ref (oa x1)] (cw lt_C U oa S) 0 0 (pC_v lt_C U oa K (fun _ _ => False)) := by
  refine ct_of (lo := [some (.ref (oa u)), some (.ref (oa x1)), none, none]) (by decide) g_ok (Nat.le_of_ble_eq_true rfl) rfl ?_
  intro X A _ C hR hQ hA _
  exact s_Li_sortSymbols_0 C hQ hA hR hu x1 S hp
end C_Li_sortSymbolsc
def b_Li_makeLine_143 (U : ut) (u : Nat) (x1 : Int32) (x2 : Int32) (x3 : Nat) (x4 : Int32) (x5 : Int32) (x6 : Int32) (S : cs) (R9 : Int32 → Int32 → Nat → Int32 → Int32 → Int32 → cs → Prop) (K : Int32 → cs → Prop) : Prop :=
  R9 x1 x2 x3 x4 x5 (x6 + 1) S
def b_Li_makeLine_87 (U : ut) (u : Nat) (x1 : Int32) (x2 : Int32) (x3 : Nat) (x4 : Int32) (x5 : Int32) (x6 : Int32) (x7 : Int32) (s0 : Int32) (S : cs) (R9 : Int32 → Int32 → Nat → Int32 → Int32 → Int32 → cs → Prop) (K : Int32 → cs → Prop) : Prop :=
  ¬ S.2.2 u 2 = NU ∧ (c_cl U (S.2.2 u 2) = 903 ∧ (vp_in ((514 * x1) + x6) (c_ln U (S.2.2 u 2)) ∧ ((s0 = 0 → (¬ S.2.2 u 4 = NU ∧ (¬ S.2.2 u 0 = NU ∧ (c_cl U (S.2.2 u 0) = 902 ∧ (vp_in x4 (c_ln U (S.2.2 u 0)) ∧ (c_cl U x3 = 902 ∧ (vp_in ((va_up S.1 (S.2.2 u 2) (upd (S.1 (S.2.2 u 2)) ((514 * x1) + x6).toNatClampNeg (vp_nar .boolean s0))) (S.2.2 u 0) x4.toNatClampNeg) (c_ln U x3) ∧ (c_cl U (S.2.2 u 4) = 902 ∧ (vp_in x6 (c_ln U (S.2.2 u 4)) ∧ (b_Li_makeLine_143 U u x1 x2 x3 (x4 + 1) x5 x6 (va_up (va_up S.1 (S.2.2 u 2) (upd (S.1 (S.2.2 u 2)) ((514 * x1) + x6).toNatClampNeg (vp_nar .boolean s0))) (S.2.2 u 4) (upd ((va_up S.1 (S.2.2 u 2) (upd (S.1 (S.2.2 u 2)) ((514 * x1) + x6).toNatClampNeg (vp_nar .boolean s0))) (S.2.2 u 4)) x6.toNatClampNeg ((va_up S.1 (S.2.2 u 2) (upd (S.1 (S.2.2 u 2)) ((514 * x1) + x6).toNatClampNeg (vp_nar .boolean s0))) x3 ((va_up S.1 (S.2.2 u 2) (upd (S.1 (S.2.2 u 2)) ((514 * x1) + x6).toNatClampNeg (vp_nar .boolean s0))) (S.2.2 u 0) x4.toNatClampNeg).toNatClampNeg)), S.2.1, S.2.2) R9 K)))))))))) ∧ (¬ (s0 = 0) → (¬ S.2.2 u 4 = NU ∧ (c_cl U (S.2.2 u 4) = 902 ∧ (vp_in x6 (c_ln U (S.2.2 u 4)) ∧ (b_Li_makeLine_143 U u x1 x2 x3 x4 (x5 + 1) x6 (va_up (va_up S.1 (S.2.2 u 2) (upd (S.1 (S.2.2 u 2)) ((514 * x1) + x6).toNatClampNeg (vp_nar .boolean s0))) (S.2.2 u 4) (upd ((va_up S.1 (S.2.2 u 2) (upd (S.1 (S.2.2 u 2)) ((514 * x1) + x6).toNatClampNeg (vp_nar .boolean s0))) (S.2.2 u 4)) x6.toNatClampNeg x7), S.2.1, S.2.2) R9 K))))))))
def b_Li_makeLine_86 (U : ut) (u : Nat) (x1 : Int32) (x2 : Int32) (x3 : Nat) (x4 : Int32) (x5 : Int32) (x6 : Int32) (x7 : Int32) (S : cs) (R9 : Int32 → Int32 → Nat → Int32 → Int32 → Int32 → cs → Prop) (K : Int32 → cs → Prop) : Prop :=
  b_Li_makeLine_87 U u x1 x2 x3 x4 x5 x6 x7 0 S R9 K
def b_Li_makeLine_82 (U : ut) (u : Nat) (x1 : Int32) (x2 : Int32) (x3 : Nat) (x4 : Int32) (x5 : Int32) (x6 : Int32) (x7 : Int32) (S : cs) (R9 : Int32 → Int32 → Nat → Int32 → Int32 → Int32 → cs → Prop) (K : Int32 → cs → Prop) : Prop :=
  b_Li_makeLine_87 U u x1 x2 x3 x4 x5 x6 x7 1 S R9 K
def b_Li_makeLine_51 (U : ut) (u : Nat) (x1 : Int32) (x2 : Int32) (x3 : Nat) (x4 : Int32) (x5 : Int32) (x6 : Int32) (s0 : Int32) (S : cs) (R9 : Int32 → Int32 → Nat → Int32 → Int32 → Int32 → cs → Prop) (K : Int32 → cs → Prop) : Prop :=
  (x4 = (S.1 u 1) → (b_Li_makeLine_82 U u x1 x2 x3 x4 x5 x6 s0 S R9 K)) ∧ (¬ (x4 = (S.1 u 1)) → ((x2 ≤ x5 → (b_Li_makeLine_86 U u x1 x2 x3 x4 x5 x6 s0 S R9 K)) ∧ (¬ (x2 ≤ x5) → (¬ S.2.2 u 0 = NU ∧ (c_cl U (S.2.2 u 0) = 902 ∧ (vp_in x4 (c_ln U (S.2.2 u 0)) ∧ (c_cl U x3 = 902 ∧ (vp_in (S.1 (S.2.2 u 0) x4.toNatClampNeg) (c_ln U x3) ∧ (((S.1 x3 (S.1 (S.2.2 u 0) x4.toNatClampNeg).toNatClampNeg) ≤ s0 → (b_Li_makeLine_86 U u x1 x2 x3 x4 x5 x6 s0 S R9 K)) ∧ (¬ ((S.1 x3 (S.1 (S.2.2 u 0) x4.toNatClampNeg).toNatClampNeg) ≤ s0) → (b_Li_makeLine_82 U u x1 x2 x3 x4 x5 x6 s0 S R9 K)))))))))))
def b_Li_makeLine_9 (U : ut) (u : Nat) (x1 : Int32) (x2 : Int32) (x3 : Nat) (x4 : Int32) (x5 : Int32) (x6 : Int32) (S : cs) (R9 : Int32 → Int32 → Nat → Int32 → Int32 → Int32 → cs → Prop) (K : Int32 → cs → Prop) : Prop :=
  (((S.1 u 1) + x2) ≤ x6 → (¬ S.2.2 u 3 = NU ∧ (¬ S.2.2 u 4 = NU ∧ (¬ (S.2.2 u 4) = NU ∧ (¬ (S.2.2 u 3) = NU ∧ (K ((S.1 u 1) + x2) (S.1, S.2.1, va_up (va_up S.2.2 u (va_up (S.2.2 u) 3 (S.2.2 u 4))) u (va_up ((va_up S.2.2 u (va_up (S.2.2 u) 3 (S.2.2 u 4))) u) 4 (S.2.2 u 3))))))))) ∧ (¬ (((S.1 u 1) + x2) ≤ x6) → ((x2 ≤ x5 → (b_Li_makeLine_51 U u x1 x2 x3 x4 x5 x6 0 S R9 K)) ∧ (¬ (x2 ≤ x5) → (¬ S.2.2 u 3 = NU ∧ (c_cl U (S.2.2 u 3) = 902 ∧ (vp_in (2 * x5) (c_ln U (S.2.2 u 3)) ∧ (¬ S.2.2 u 3 = NU ∧ (vp_in ((2 * x5) + 1) (c_ln U (S.2.2 u 3)) ∧ (b_Li_makeLine_51 U u x1 x2 x3 x4 x5 x6 ((S.1 (S.2.2 u 3) (2 * x5).toNatClampNeg) + (S.1 (S.2.2 u 3) ((2 * x5) + 1).toNatClampNeg)) S R9 K)))))))))
def e_Li_makeLine_9 (U : ut) (u : Nat) (x1 : Int32) (x2 : Int32) (x3 : Nat) (x4 : Int32) (x5 : Int32) (x6 : Int32) (S : cs) (K : Int32 → cs → Prop) : Prop :=
  ∃ (I : Int32 → Int32 → Nat → Int32 → Int32 → Int32 → cs → Prop) (μ : Int32 → Int32 → Nat → Int32 → Int32 → Int32 → cs → Nat), I x1 x2 x3 x4 x5 x6 S ∧ ∀ yx1 yx2 yx3 yx4 yx5 yx6 yS, I yx1 yx2 yx3 yx4 yx5 yx6 yS → b_Li_makeLine_9 U u yx1 yx2 yx3 yx4 yx5 yx6 yS (fun zx1 zx2 zx3 zx4 zx5 zx6 zS => I zx1 zx2 zx3 zx4 zx5 zx6 zS ∧ μ zx1 zx2 zx3 zx4 zx5 zx6 zS < μ yx1 yx2 yx3 yx4 yx5 yx6 yS) K
def p_Li_makeLine (U : ut) (u : Nat) (x1 : Int32) (x2 : Int32) (x3 : Nat) (S : cs) (K : Int32 → cs → Prop) : Prop :=
  e_Li_makeLine_9 U u x1 x2 x3 0 0 0 S K
section C_Li_makeLine
variable {D : va_G} {z : Nat → ClassId} {A : Nat → Prop} {X : cx} {L0 : fw} {U : ut} {oa : Nat → Nat} {u : Nat} {K : Int32 → cs → Prop}
set_option maxRecDepth 100000 in
set_option maxHeartbeats 1000000 in
theorem s_Li_makeLine_143 (C : fcx gG D z A X R_Li c_C_Li_makeLine 9 (some .int)) (hQ : X.2.2.2.2.2.2.2.2.2.2 = eQ gG D z X.2.2.2.2.2.2.2.1 X.2.2.2.2.1 L0 0 0 (pC_i lt_C U oa K (fun _ _ => False))) (hA : A = owA gG L0 X.2.2.2.2.1.heap.size) (hR : X.2.2.2.1 = { frames := 1, cells := 1, slots := 6, locals := 100 }) (hu : c_cl U u = 4) (x1 : Int32) (x2 : Int32) (x3 : Nat) (x4 : Int32) (x5 : Int32) (x6 : Int32) (S : cs) (R9 : Int32 → Int32 → Nat → Int32 → Int32 → Int32 → cs → Prop) (hR9 : ∀ yx1 yx2 yx3 yx4 yx5 yx6 yS, R9 yx1 yx2 yx3 yx4 yx5 yx6 yS → aw gG D z A X 9 9 [some (.ref (oa u)), some (.int yx1), some (.int yx2), some (.ref (oa yx3)), some (.int yx4), some (.int yx5), some (.int yx6), none, none] [] (cw lt_C U oa yS) 0 0) (hp : b_Li_makeLine_143 U u x1 x2 x3 x4 x5 x6 S R9 K) : aw gG D z A X 9 143 [some (.ref (oa u)), some (.int x1), some (.int x2), some (.ref (oa x3)), some (.int x4), some (.int x5), some (.int x6), none, none] [] (cw lt_C U oa S) 0 0 := by
  unfold b_Li_makeLine_143 at hp
  refine a_iinc (v := x6 + 1) (lo' := [some (.ref (oa u)), some (.int x1), some (.int x2), some (.ref (oa x3)), some (.int x4), some (.int x5), some (.int (x6 + 1)), none, none]) C dc_Li_makeLine_143 rfl rfl (by decide) rfl ?_
  refine a_goto (tgt := 9) C dc_Li_makeLine_146 (by decide) ?_
  refine aw_lo (lo' := [some (.ref (oa u)), some (.int x1), some (.int x2), some (.ref (oa x3)), some (.int x4), some (.int x5), some (.int (x6 + 1)), none, none]) ⟨.inr rfl, .inr rfl, .inr rfl, .inr rfl, .inr rfl, .inr rfl, .inr rfl, .inr rfl, .inr rfl, trivial⟩ ?_
  exact hR9 x1 x2 x3 x4 x5 (x6 + 1) S hp
set_option maxRecDepth 100000 in
set_option maxHeartbeats 1000000 in
theorem s_Li_makeLine_87 (C : fcx gG D z A X R_Li c_C_Li_makeLine 9 (some .int)) (hQ : X.2.2.2.2.2.2.2.2.2.2 = eQ gG D z X.2.2.2.2.2.2.2.1 X.2.2.2.2.1 L0 0 0 (pC_i lt_C U oa K (fun _ _ => False))) (hA : A = owA gG L0 X.2.2.2.2.1.heap.size) (hR : X.2.2.2.1 = { frames := 1, cells := 1, slots := 6, locals := 100 }) (hu : c_cl U u = 4) (x1 : Int32) (x2 : Int32) (x3 : Nat) (x4 : Int32) (x5 : Int32) (x6 : Int32) (x7 : Int32) (s0 : Int32) (S : cs) (R9 : Int32 → Int32 → Nat → Int32 → Int32 → Int32 → cs → Prop) (hR9 : ∀ yx1 yx2 yx3 yx4 yx5 yx6 yS, R9 yx1 yx2 yx3 yx4 yx5 yx6 yS → aw gG D z A X 9 9 [some (.ref (oa u)), some (.int yx1), some (.int yx2), some (.ref (oa yx3)), some (.int yx4), some (.int yx5), some (.int yx6), none, none] [] (cw lt_C U oa yS) 0 0) (hp : b_Li_makeLine_87 U u x1 x2 x3 x4 x5 x6 x7 s0 S R9 K) : aw gG D z A X 9 87 [some (.ref (oa u)), some (.int x1), some (.int x2), some (.ref (oa x3)), some (.int x4), some (.int x5), some (.int x6), some (.int x7), none] [.int s0] (cw lt_C U oa S) 0 0 := by
  unfold b_Li_makeLine_87 at hp
  refine a_istore (lo' := [some (.ref (oa u)), some (.int x1), some (.int x2), some (.ref (oa x3)), some (.int x4), some (.int x5), some (.int x6), some (.int x7), some (.int s0)]) C dc_Li_makeLine_87 (by decide) rfl ?_
  refine a_aload_n C dc_Li_makeLine_89 rfl rfl ?_
  refine c_getR C u 2 dc_Li_makeLine_90 hu rfl rfl (Nat.le_of_ble_eq_true rfl) f_Li_17 rfl hp.1 ?_
  have hp := hp.2
  refine a_sipush (v := 514) C dc_Li_makeLine_93 (by decide) ?_
  refine a_iload_n C dc_Li_makeLine_96 rfl rfl ?_
  refine a_imul C dc_Li_makeLine_97 ?_
  refine a_iload C dc_Li_makeLine_98 rfl ?_
  refine a_iadd C dc_Li_makeLine_100 ?_
  refine a_iload C dc_Li_makeLine_101 rfl ?_
  have hc1 := hp.1
  have hp := hp.2
  refine c_zast C (S.2.2 u 2) dc_Li_makeLine_103 hc1 hp.1 ?_
  have hp := hp.2
  refine aw_eq (lo' := _) (st' := _) (L' := (cw lt_C U oa (va_up S.1 (S.2.2 u 2) (upd (S.1 (S.2.2 u 2)) ((514 * x1) + x6).toNatClampNeg (vp_nar .boolean s0)), S.2.1, S.2.2))) rfl rfl rfl ?_
  refine a_iload C dc_Li_makeLine_104 rfl ?_
  refine a_if_eq (tgt := 124) C dc_Li_makeLine_106 (by decide) ⟨fun hc => ?_, fun hc => ?_⟩
  · have hp := hp.1 hc
    refine a_aload_n C dc_Li_makeLine_124 rfl rfl ?_
    refine c_getR C u 4 dc_Li_makeLine_125 hu rfl rfl (Nat.le_of_ble_eq_true rfl) f_Li_24 rfl hp.1 ?_
    have hp := hp.2
    refine a_iload C dc_Li_makeLine_128 rfl ?_
    refine a_aload_n C dc_Li_makeLine_130 rfl rfl ?_
    refine a_aload_n C dc_Li_makeLine_131 rfl rfl ?_
    refine c_getR C u 0 dc_Li_makeLine_132 hu rfl rfl (Nat.le_of_ble_eq_true rfl) f_Li_13 rfl hp.1 ?_
    have hp := hp.2
    refine a_iload C dc_Li_makeLine_135 rfl ?_
    have hc2 := hp.1
    have hp := hp.2
    refine c_iald C (S.2.2 u 0) dc_Li_makeLine_137 hc2 hp.1 ?_
    have hp := hp.2
    have hc3 := hp.1
    have hp := hp.2
    refine c_iald C x3 dc_Li_makeLine_138 hc3 hp.1 ?_
    have hp := hp.2
    have hc4 := hp.1
    have hp := hp.2
    refine c_iast C (S.2.2 u 4) dc_Li_makeLine_139 hc4 hp.1 ?_
    have hp := hp.2
    refine aw_eq (lo' := _) (st' := _) (L' := (cw lt_C U oa (va_up (va_up S.1 (S.2.2 u 2) (upd (S.1 (S.2.2 u 2)) ((514 * x1) + x6).toNatClampNeg (vp_nar .boolean s0))) (S.2.2 u 4) (upd ((va_up S.1 (S.2.2 u 2) (upd (S.1 (S.2.2 u 2)) ((514 * x1) + x6).toNatClampNeg (vp_nar .boolean s0))) (S.2.2 u 4)) x6.toNatClampNeg ((va_up S.1 (S.2.2 u 2) (upd (S.1 (S.2.2 u 2)) ((514 * x1) + x6).toNatClampNeg (vp_nar .boolean s0))) x3 ((va_up S.1 (S.2.2 u 2) (upd (S.1 (S.2.2 u 2)) ((514 * x1) + x6).toNatClampNeg (vp_nar .boolean s0))) (S.2.2 u 0) x4.toNatClampNeg).toNatClampNeg)), S.2.1, S.2.2))) rfl rfl rfl ?_
    refine a_iinc (v := x4 + 1) (lo' := [some (.ref (oa u)), some (.int x1), some (.int x2), some (.ref (oa x3)), some (.int (x4 + 1)), some (.int x5), some (.int x6), some (.int x7), some (.int s0)]) C dc_Li_makeLine_140 rfl rfl (by decide) rfl ?_
    refine aw_lo (lo' := [some (.ref (oa u)), some (.int x1), some (.int x2), some (.ref (oa x3)), some (.int (x4 + 1)), some (.int x5), some (.int x6), none, none]) ⟨.inr rfl, .inr rfl, .inr rfl, .inr rfl, .inr rfl, .inr rfl, .inr rfl, .inl rfl, .inl rfl, trivial⟩ ?_
    exact s_Li_makeLine_143 C hQ hA hR hu x1 x2 x3 (x4 + 1) x5 x6 (va_up (va_up S.1 (S.2.2 u 2) (upd (S.1 (S.2.2 u 2)) ((514 * x1) + x6).toNatClampNeg (vp_nar .boolean s0))) (S.2.2 u 4) (upd ((va_up S.1 (S.2.2 u 2) (upd (S.1 (S.2.2 u 2)) ((514 * x1) + x6).toNatClampNeg (vp_nar .boolean s0))) (S.2.2 u 4)) x6.toNatClampNeg ((va_up S.1 (S.2.2 u 2) (upd (S.1 (S.2.2 u 2)) ((514 * x1) + x6).toNatClampNeg (vp_nar .boolean s0))) x3 ((va_up S.1 (S.2.2 u 2) (upd (S.1 (S.2.2 u 2)) ((514 * x1) + x6).toNatClampNeg (vp_nar .boolean s0))) (S.2.2 u 0) x4.toNatClampNeg).toNatClampNeg)), S.2.1, S.2.2) R9 hR9 hp
  · have hp := hp.2 hc
    refine a_aload_n C dc_Li_makeLine_109 rfl rfl ?_
    refine c_getR C u 4 dc_Li_makeLine_110 hu rfl rfl (Nat.le_of_ble_eq_true rfl) f_Li_24 rfl hp.1 ?_
    have hp := hp.2
    refine a_iload C dc_Li_makeLine_113 rfl ?_
    refine a_iload C dc_Li_makeLine_115 rfl ?_
    have hc5 := hp.1
    have hp := hp.2
    refine c_iast C (S.2.2 u 4) dc_Li_makeLine_117 hc5 hp.1 ?_
    have hp := hp.2
    refine aw_eq (lo' := _) (st' := _) (L' := (cw lt_C U oa (va_up (va_up S.1 (S.2.2 u 2) (upd (S.1 (S.2.2 u 2)) ((514 * x1) + x6).toNatClampNeg (vp_nar .boolean s0))) (S.2.2 u 4) (upd ((va_up S.1 (S.2.2 u 2) (upd (S.1 (S.2.2 u 2)) ((514 * x1) + x6).toNatClampNeg (vp_nar .boolean s0))) (S.2.2 u 4)) x6.toNatClampNeg x7), S.2.1, S.2.2))) rfl rfl rfl ?_
    refine a_iinc (v := x5 + 1) (lo' := [some (.ref (oa u)), some (.int x1), some (.int x2), some (.ref (oa x3)), some (.int x4), some (.int (x5 + 1)), some (.int x6), some (.int x7), some (.int s0)]) C dc_Li_makeLine_118 rfl rfl (by decide) rfl ?_
    refine a_goto (tgt := 143) C dc_Li_makeLine_121 (by decide) ?_
    refine aw_lo (lo' := [some (.ref (oa u)), some (.int x1), some (.int x2), some (.ref (oa x3)), some (.int x4), some (.int (x5 + 1)), some (.int x6), none, none]) ⟨.inr rfl, .inr rfl, .inr rfl, .inr rfl, .inr rfl, .inr rfl, .inr rfl, .inl rfl, .inl rfl, trivial⟩ ?_
    exact s_Li_makeLine_143 C hQ hA hR hu x1 x2 x3 x4 (x5 + 1) x6 (va_up (va_up S.1 (S.2.2 u 2) (upd (S.1 (S.2.2 u 2)) ((514 * x1) + x6).toNatClampNeg (vp_nar .boolean s0))) (S.2.2 u 4) (upd ((va_up S.1 (S.2.2 u 2) (upd (S.1 (S.2.2 u 2)) ((514 * x1) + x6).toNatClampNeg (vp_nar .boolean s0))) (S.2.2 u 4)) x6.toNatClampNeg x7), S.2.1, S.2.2) R9 hR9 hp
set_option maxRecDepth 100000 in
set_option maxHeartbeats 1000000 in
theorem s_Li_makeLine_86 (C : fcx gG D z A X R_Li c_C_Li_makeLine 9 (some .int)) (hQ : X.2.2.2.2.2.2.2.2.2.2 = eQ gG D z X.2.2.2.2.2.2.2.1 X.2.2.2.2.1 L0 0 0 (pC_i lt_C U oa K (fun _ _ => False))) (hA : A = owA gG L0 X.2.2.2.2.1.heap.size) (hR : X.2.2.2.1 = { frames := 1, cells := 1, slots := 6, locals := 100 }) (hu : c_cl U u = 4) (x1 : Int32) (x2 : Int32) (x3 : Nat) (x4 : Int32) (x5 : Int32) (x6 : Int32) (x7 : Int32) (S : cs) (R9 : Int32 → Int32 → Nat → Int32 → Int32 → Int32 → cs → Prop) (hR9 : ∀ yx1 yx2 yx3 yx4 yx5 yx6 yS, R9 yx1 yx2 yx3 yx4 yx5 yx6 yS → aw gG D z A X 9 9 [some (.ref (oa u)), some (.int yx1), some (.int yx2), some (.ref (oa yx3)), some (.int yx4), some (.int yx5), some (.int yx6), none, none] [] (cw lt_C U oa yS) 0 0) (hp : b_Li_makeLine_86 U u x1 x2 x3 x4 x5 x6 x7 S R9 K) : aw gG D z A X 9 86 [some (.ref (oa u)), some (.int x1), some (.int x2), some (.ref (oa x3)), some (.int x4), some (.int x5), some (.int x6), some (.int x7), none] [] (cw lt_C U oa S) 0 0 := by
  unfold b_Li_makeLine_86 at hp
  refine a_iconst (v := 0) C dc_Li_makeLine_86 (by decide) ?_
  refine aw_lo (lo' := [some (.ref (oa u)), some (.int x1), some (.int x2), some (.ref (oa x3)), some (.int x4), some (.int x5), some (.int x6), some (.int x7), none]) ⟨.inr rfl, .inr rfl, .inr rfl, .inr rfl, .inr rfl, .inr rfl, .inr rfl, .inr rfl, .inr rfl, trivial⟩ ?_
  exact s_Li_makeLine_87 C hQ hA hR hu x1 x2 x3 x4 x5 x6 x7 0 S R9 hR9 hp
set_option maxRecDepth 100000 in
set_option maxHeartbeats 1000000 in
theorem s_Li_makeLine_82 (C : fcx gG D z A X R_Li c_C_Li_makeLine 9 (some .int)) (hQ : X.2.2.2.2.2.2.2.2.2.2 = eQ gG D z X.2.2.2.2.2.2.2.1 X.2.2.2.2.1 L0 0 0 (pC_i lt_C U oa K (fun _ _ => False))) (hA : A = owA gG L0 X.2.2.2.2.1.heap.size) (hR : X.2.2.2.1 = { frames := 1, cells := 1, slots := 6, locals := 100 }) (hu : c_cl U u = 4) (x1 : Int32) (x2 : Int32) (x3 : Nat) (x4 : Int32) (x5 : Int32) (x6 : Int32) (x7 : Int32) (S : cs) (R9 : Int32 → Int32 → Nat → Int32 → Int32 → Int32 → cs → Prop) (hR9 : ∀ yx1 yx2 yx3 yx4 yx5 yx6 yS, R9 yx1 yx2 yx3 yx4 yx5 yx6 yS → aw gG D z A X 9 9 [some (.ref (oa u)), some (.int yx1), some (.int yx2), some (.ref (oa yx3)), some (.int yx4), some (.int yx5), some (.int yx6), none, none] [] (cw lt_C U oa yS) 0 0) (hp : b_Li_makeLine_82 U u x1 x2 x3 x4 x5 x6 x7 S R9 K) : aw gG D z A X 9 82 [some (.ref (oa u)), some (.int x1), some (.int x2), some (.ref (oa x3)), some (.int x4), some (.int x5), some (.int x6), some (.int x7), none] [] (cw lt_C U oa S) 0 0 := by
  unfold b_Li_makeLine_82 at hp
  refine a_iconst (v := 1) C dc_Li_makeLine_82 (by decide) ?_
  refine a_goto (tgt := 87) C dc_Li_makeLine_83 (by decide) ?_
  refine aw_lo (lo' := [some (.ref (oa u)), some (.int x1), some (.int x2), some (.ref (oa x3)), some (.int x4), some (.int x5), some (.int x6), some (.int x7), none]) ⟨.inr rfl, .inr rfl, .inr rfl, .inr rfl, .inr rfl, .inr rfl, .inr rfl, .inr rfl, .inr rfl, trivial⟩ ?_
  exact s_Li_makeLine_87 C hQ hA hR hu x1 x2 x3 x4 x5 x6 x7 1 S R9 hR9 hp
set_option maxRecDepth 100000 in
set_option maxHeartbeats 1000000 in
theorem s_Li_makeLine_51 (C : fcx gG D z A X R_Li c_C_Li_makeLine 9 (some .int)) (hQ : X.2.2.2.2.2.2.2.2.2.2 = eQ gG D z X.2.2.2.2.2.2.2.1 X.2.2.2.2.1 L0 0 0 (pC_i lt_C U oa K (fun _ _ => False))) (hA : A = owA gG L0 X.2.2.2.2.1.heap.size) (hR : X.2.2.2.1 = { frames := 1, cells := 1, slots := 6, locals := 100 }) (hu : c_cl U u = 4) (x1 : Int32) (x2 : Int32) (x3 : Nat) (x4 : Int32) (x5 : Int32) (x6 : Int32) (s0 : Int32) (S : cs) (R9 : Int32 → Int32 → Nat → Int32 → Int32 → Int32 → cs → Prop) (hR9 : ∀ yx1 yx2 yx3 yx4 yx5 yx6 yS, R9 yx1 yx2 yx3 yx4 yx5 yx6 yS → aw gG D z A X 9 9 [some (.ref (oa u)), some (.int yx1), some (.int yx2), some (.ref (oa yx3)), some (.int yx4), some (.int yx5), some (.int yx6), none, none] [] (cw lt_C U oa yS) 0 0) (hp : b_Li_makeLine_51 U u x1 x2 x3 x4 x5 x6 s0 S R9 K) : aw gG D z A X 9 51 [some (.ref (oa u)), some (.int x1), some (.int x2), some (.ref (oa x3)), some (.int x4), some (.int x5), some (.int x6), none, none] [.int s0] (cw lt_C U oa S) 0 0 := by
  unfold b_Li_makeLine_51 at hp
  refine a_istore (lo' := [some (.ref (oa u)), some (.int x1), some (.int x2), some (.ref (oa x3)), some (.int x4), some (.int x5), some (.int x6), some (.int s0), none]) C dc_Li_makeLine_51 (by decide) rfl ?_
  refine a_iload C dc_Li_makeLine_53 rfl ?_
  refine a_aload_n C dc_Li_makeLine_55 rfl rfl ?_
  refine c_getI C u 1 dc_Li_makeLine_56 hu rfl rfl (Nat.le_of_ble_eq_true rfl) f_Li_34 (Nat.le_of_ble_eq_true rfl) ?_
  refine a_icmp_eq (tgt := 82) C dc_Li_makeLine_59 (by decide) ⟨fun hc => ?_, fun hc => ?_⟩
  · have hp := hp.1 hc
    refine aw_lo (lo' := [some (.ref (oa u)), some (.int x1), some (.int x2), some (.ref (oa x3)), some (.int x4), some (.int x5), some (.int x6), some (.int s0), none]) ⟨.inr rfl, .inr rfl, .inr rfl, .inr rfl, .inr rfl, .inr rfl, .inr rfl, .inr rfl, .inr rfl, trivial⟩ ?_
    exact s_Li_makeLine_82 C hQ hA hR hu x1 x2 x3 x4 x5 x6 s0 S R9 hR9 hp
  · have hp := hp.2 hc
    refine a_iload C dc_Li_makeLine_62 rfl ?_
    refine a_iload_n C dc_Li_makeLine_64 rfl rfl ?_
    refine a_icmp_ge (tgt := 86) C dc_Li_makeLine_65 (by decide) ⟨fun hc => ?_, fun hc => ?_⟩
    · have hp := hp.1 hc
      refine aw_lo (lo' := [some (.ref (oa u)), some (.int x1), some (.int x2), some (.ref (oa x3)), some (.int x4), some (.int x5), some (.int x6), some (.int s0), none]) ⟨.inr rfl, .inr rfl, .inr rfl, .inr rfl, .inr rfl, .inr rfl, .inr rfl, .inr rfl, .inr rfl, trivial⟩ ?_
      exact s_Li_makeLine_86 C hQ hA hR hu x1 x2 x3 x4 x5 x6 s0 S R9 hR9 hp
    · have hp := hp.2 hc
      refine a_iload C dc_Li_makeLine_68 rfl ?_
      refine a_aload_n C dc_Li_makeLine_70 rfl rfl ?_
      refine a_aload_n C dc_Li_makeLine_71 rfl rfl ?_
      refine c_getR C u 0 dc_Li_makeLine_72 hu rfl rfl (Nat.le_of_ble_eq_true rfl) f_Li_13 rfl hp.1 ?_
      have hp := hp.2
      refine a_iload C dc_Li_makeLine_75 rfl ?_
      have hc6 := hp.1
      have hp := hp.2
      refine c_iald C (S.2.2 u 0) dc_Li_makeLine_77 hc6 hp.1 ?_
      have hp := hp.2
      have hc7 := hp.1
      have hp := hp.2
      refine c_iald C x3 dc_Li_makeLine_78 hc7 hp.1 ?_
      have hp := hp.2
      refine a_icmp_ge (tgt := 86) C dc_Li_makeLine_79 (by decide) ⟨fun hc => ?_, fun hc => ?_⟩
      · have hp := hp.1 hc
        refine aw_lo (lo' := [some (.ref (oa u)), some (.int x1), some (.int x2), some (.ref (oa x3)), some (.int x4), some (.int x5), some (.int x6), some (.int s0), none]) ⟨.inr rfl, .inr rfl, .inr rfl, .inr rfl, .inr rfl, .inr rfl, .inr rfl, .inr rfl, .inr rfl, trivial⟩ ?_
        exact s_Li_makeLine_86 C hQ hA hR hu x1 x2 x3 x4 x5 x6 s0 S R9 hR9 hp
      · have hp := hp.2 hc
        refine aw_lo (lo' := [some (.ref (oa u)), some (.int x1), some (.int x2), some (.ref (oa x3)), some (.int x4), some (.int x5), some (.int x6), some (.int s0), none]) ⟨.inr rfl, .inr rfl, .inr rfl, .inr rfl, .inr rfl, .inr rfl, .inr rfl, .inr rfl, .inr rfl, trivial⟩ ?_
        exact s_Li_makeLine_82 C hQ hA hR hu x1 x2 x3 x4 x5 x6 s0 S R9 hR9 hp
set_option maxRecDepth 100000 in
set_option maxHeartbeats 1000000 in
theorem s_Li_makeLine_9 (C : fcx gG D z A X R_Li c_C_Li_makeLine 9 (some .int)) (hQ : X.2.2.2.2.2.2.2.2.2.2 = eQ gG D z X.2.2.2.2.2.2.2.1 X.2.2.2.2.1 L0 0 0 (pC_i lt_C U oa K (fun _ _ => False))) (hA : A = owA gG L0 X.2.2.2.2.1.heap.size) (hR : X.2.2.2.1 = { frames := 1, cells := 1, slots := 6, locals := 100 }) (hu : c_cl U u = 4) (x1 : Int32) (x2 : Int32) (x3 : Nat) (x4 : Int32) (x5 : Int32) (x6 : Int32) (S : cs) (R9 : Int32 → Int32 → Nat → Int32 → Int32 → Int32 → cs → Prop) (hR9 : ∀ yx1 yx2 yx3 yx4 yx5 yx6 yS, R9 yx1 yx2 yx3 yx4 yx5 yx6 yS → aw gG D z A X 9 9 [some (.ref (oa u)), some (.int yx1), some (.int yx2), some (.ref (oa yx3)), some (.int yx4), some (.int yx5), some (.int yx6), none, none] [] (cw lt_C U oa yS) 0 0) (hp : b_Li_makeLine_9 U u x1 x2 x3 x4 x5 x6 S R9 K) : aw gG D z A X 9 9 [some (.ref (oa u)), some (.int x1), some (.int x2), some (.ref (oa x3)), some (.int x4), some (.int x5), some (.int x6), none, none] [] (cw lt_C U oa S) 0 0 := by
  unfold b_Li_makeLine_9 at hp
  refine a_iload C dc_Li_makeLine_9 rfl ?_
  refine a_aload_n C dc_Li_makeLine_11 rfl rfl ?_
  refine c_getI C u 1 dc_Li_makeLine_12 hu rfl rfl (Nat.le_of_ble_eq_true rfl) f_Li_34 (Nat.le_of_ble_eq_true rfl) ?_
  refine a_iload_n C dc_Li_makeLine_15 rfl rfl ?_
  refine a_iadd C dc_Li_makeLine_16 ?_
  refine a_icmp_ge (tgt := 149) C dc_Li_makeLine_17 (by decide) ⟨fun hc => ?_, fun hc => ?_⟩
  · have hp := hp.1 hc
    refine a_aload_n C dc_Li_makeLine_149 rfl rfl ?_
    refine c_getR C u 3 dc_Li_makeLine_150 hu rfl rfl (Nat.le_of_ble_eq_true rfl) f_Li_21 rfl hp.1 ?_
    have hp := hp.2
    refine a_astore (lo' := [some (.ref (oa u)), some (.int x1), some (.int x2), some (.ref (oa x3)), some (.int x4), some (.int x5), some (.ref (oa (S.2.2 u 3))), none, none]) C dc_Li_makeLine_153 (by decide) rfl ?_
    refine a_aload_n C dc_Li_makeLine_155 rfl rfl ?_
    refine a_aload_n C dc_Li_makeLine_156 rfl rfl ?_
    refine c_getR C u 4 dc_Li_makeLine_157 hu rfl rfl (Nat.le_of_ble_eq_true rfl) f_Li_24 rfl hp.1 ?_
    have hp := hp.2
    refine c_putR (ty := .array .int) C u 3 dc_Li_makeLine_160 hu rfl rfl (Nat.le_of_ble_eq_true rfl) f_Li_21 rfl rfl (fun _ => rfl) (fun _ => rfl) rfl rfl hp.1 ?_
    have hp := hp.2
    refine aw_eq (lo' := _) (st' := _) (L' := (cw lt_C U oa (S.1, S.2.1, va_up S.2.2 u (va_up (S.2.2 u) 3 (S.2.2 u 4))))) rfl rfl rfl ?_
    refine a_aload_n C dc_Li_makeLine_163 rfl rfl ?_
    refine a_aload C dc_Li_makeLine_164 rfl ?_
    refine c_putR (ty := .array .int) C u 4 dc_Li_makeLine_166 hu rfl rfl (Nat.le_of_ble_eq_true rfl) f_Li_24 rfl rfl (fun _ => rfl) (fun _ => rfl) rfl rfl hp.1 ?_
    have hp := hp.2
    refine aw_eq (lo' := _) (st' := _) (L' := (cw lt_C U oa (S.1, S.2.1, va_up (va_up S.2.2 u (va_up (S.2.2 u) 3 (S.2.2 u 4))) u (va_up ((va_up S.2.2 u (va_up (S.2.2 u) 3 (S.2.2 u 4))) u) 4 (S.2.2 u 3))))) rfl rfl rfl ?_
    refine a_aload_n C dc_Li_makeLine_169 rfl rfl ?_
    refine c_getI C u 1 dc_Li_makeLine_170 hu rfl rfl (Nat.le_of_ble_eq_true rfl) f_Li_34 (Nat.le_of_ble_eq_true rfl) ?_
    refine a_iload_n C dc_Li_makeLine_173 rfl rfl ?_
    refine a_iadd C dc_Li_makeLine_174 ?_
    exact a_iret (ty := .int) C hQ hA dc_Li_makeLine_175 rfl rfl (Or.inl ⟨_, (S.1, S.2.1, va_up (va_up S.2.2 u (va_up (S.2.2 u) 3 (S.2.2 u 4))) u (va_up ((va_up S.2.2 u (va_up (S.2.2 u) 3 (S.2.2 u 4))) u) 4 (S.2.2 u 3))), hp, rfl, rfl⟩)
  · have hp := hp.2 hc
    refine a_iload C dc_Li_makeLine_20 rfl ?_
    refine a_iload_n C dc_Li_makeLine_22 rfl rfl ?_
    refine a_icmp_ge (tgt := 50) C dc_Li_makeLine_23 (by decide) ⟨fun hc => ?_, fun hc => ?_⟩
    · have hp := hp.1 hc
      refine a_iconst (v := 0) C dc_Li_makeLine_50 (by decide) ?_
      refine aw_lo (lo' := [some (.ref (oa u)), some (.int x1), some (.int x2), some (.ref (oa x3)), some (.int x4), some (.int x5), some (.int x6), none, none]) ⟨.inr rfl, .inr rfl, .inr rfl, .inr rfl, .inr rfl, .inr rfl, .inr rfl, .inr rfl, .inr rfl, trivial⟩ ?_
      exact s_Li_makeLine_51 C hQ hA hR hu x1 x2 x3 x4 x5 x6 0 S R9 hR9 hp
    · have hp := hp.2 hc
      refine a_aload_n C dc_Li_makeLine_26 rfl rfl ?_
      refine c_getR C u 3 dc_Li_makeLine_27 hu rfl rfl (Nat.le_of_ble_eq_true rfl) f_Li_21 rfl hp.1 ?_
      have hp := hp.2
      refine a_iconst (v := 2) C dc_Li_makeLine_30 (by decide) ?_
      refine a_iload C dc_Li_makeLine_31 rfl ?_
      refine a_imul C dc_Li_makeLine_33 ?_
      have hc8 := hp.1
      have hp := hp.2
      refine c_iald C (S.2.2 u 3) dc_Li_makeLine_34 hc8 hp.1 ?_
      have hp := hp.2
      refine a_aload_n C dc_Li_makeLine_35 rfl rfl ?_
      refine c_getR C u 3 dc_Li_makeLine_36 hu rfl rfl (Nat.le_of_ble_eq_true rfl) f_Li_21 rfl hp.1 ?_
      have hp := hp.2
      refine a_iconst (v := 2) C dc_Li_makeLine_39 (by decide) ?_
      refine a_iload C dc_Li_makeLine_40 rfl ?_
      refine a_imul C dc_Li_makeLine_42 ?_
      refine a_iconst (v := 1) C dc_Li_makeLine_43 (by decide) ?_
      refine a_iadd C dc_Li_makeLine_44 ?_
      refine c_iald C (S.2.2 u 3) dc_Li_makeLine_45 hc8 hp.1 ?_
      have hp := hp.2
      refine a_iadd C dc_Li_makeLine_46 ?_
      refine a_goto (tgt := 51) C dc_Li_makeLine_47 (by decide) ?_
      refine aw_lo (lo' := [some (.ref (oa u)), some (.int x1), some (.int x2), some (.ref (oa x3)), some (.int x4), some (.int x5), some (.int x6), none, none]) ⟨.inr rfl, .inr rfl, .inr rfl, .inr rfl, .inr rfl, .inr rfl, .inr rfl, .inr rfl, .inr rfl, trivial⟩ ?_
      exact s_Li_makeLine_51 C hQ hA hR hu x1 x2 x3 x4 x5 x6 ((S.1 (S.2.2 u 3) (2 * x5).toNatClampNeg) + (S.1 (S.2.2 u 3) ((2 * x5) + 1).toNatClampNeg)) S R9 hR9 hp
set_option maxRecDepth 100000 in
set_option maxHeartbeats 1000000 in
theorem se_Li_makeLine_9 (C : fcx gG D z A X R_Li c_C_Li_makeLine 9 (some .int)) (hQ : X.2.2.2.2.2.2.2.2.2.2 = eQ gG D z X.2.2.2.2.2.2.2.1 X.2.2.2.2.1 L0 0 0 (pC_i lt_C U oa K (fun _ _ => False))) (hA : A = owA gG L0 X.2.2.2.2.1.heap.size) (hR : X.2.2.2.1 = { frames := 1, cells := 1, slots := 6, locals := 100 }) (hu : c_cl U u = 4) (x1 : Int32) (x2 : Int32) (x3 : Nat) (x4 : Int32) (x5 : Int32) (x6 : Int32) (S : cs) (hp : e_Li_makeLine_9 U u x1 x2 x3 x4 x5 x6 S K) : aw gG D z A X 9 9 [some (.ref (oa u)), some (.int x1), some (.int x2), some (.ref (oa x3)), some (.int x4), some (.int x5), some (.int x6), none, none] [] (cw lt_C U oa S) 0 0 := by
  obtain ⟨I, μ, h0, hs⟩ := hp
  have key : ∀ (n : Nat) (yx1 : Int32) (yx2 : Int32) (yx3 : Nat) (yx4 : Int32) (yx5 : Int32) (yx6 : Int32) (yS : cs), μ yx1 yx2 yx3 yx4 yx5 yx6 yS < n → I yx1 yx2 yx3 yx4 yx5 yx6 yS → aw gG D z A X 9 9 [some (.ref (oa u)), some (.int yx1), some (.int yx2), some (.ref (oa yx3)), some (.int yx4), some (.int yx5), some (.int yx6), none, none] [] (cw lt_C U oa yS) 0 0 := by
    intro n
    induction n with
    | zero => intro yx1 yx2 yx3 yx4 yx5 yx6 yS h; omega
    | succ n ih =>
      intro yx1 yx2 yx3 yx4 yx5 yx6 yS hn hI
      exact s_Li_makeLine_9 C hQ hA hR hu yx1 yx2 yx3 yx4 yx5 yx6 yS _ (fun zx1 zx2 zx3 zx4 zx5 zx6 zS hw => ih zx1 zx2 zx3 zx4 zx5 zx6 zS (by omega) hw.1) (hs yx1 yx2 yx3 yx4 yx5 yx6 yS hI)
  exact key (μ x1 x2 x3 x4 x5 x6 S + 1) x1 x2 x3 x4 x5 x6 S (Nat.lt_succ_self _) h0
set_option maxRecDepth 100000 in
set_option maxHeartbeats 1000000 in
theorem s_Li_makeLine_0 (C : fcx gG D z A X R_Li c_C_Li_makeLine 9 (some .int)) (hQ : X.2.2.2.2.2.2.2.2.2.2 = eQ gG D z X.2.2.2.2.2.2.2.1 X.2.2.2.2.1 L0 0 0 (pC_i lt_C U oa K (fun _ _ => False))) (hA : A = owA gG L0 X.2.2.2.2.1.heap.size) (hR : X.2.2.2.1 = { frames := 1, cells := 1, slots := 6, locals := 100 }) (hu : c_cl U u = 4) (x1 : Int32) (x2 : Int32) (x3 : Nat) (S : cs) (hp : p_Li_makeLine U u x1 x2 x3 S K) : aw gG D z A X 9 0 [some (.ref (oa u)), some (.int x1), some (.int x2), some (.ref (oa x3)), none, none, none, none, none] [] (cw lt_C U oa S) 0 0 := by
  unfold p_Li_makeLine at hp
  refine a_iconst (v := 0) C dc_Li_makeLine_0 (by decide) ?_
  refine a_istore (lo' := [some (.ref (oa u)), some (.int x1), some (.int x2), some (.ref (oa x3)), some (.int 0), none, none, none, none]) C dc_Li_makeLine_1 (by decide) rfl ?_
  refine a_iconst (v := 0) C dc_Li_makeLine_3 (by decide) ?_
  refine a_istore (lo' := [some (.ref (oa u)), some (.int x1), some (.int x2), some (.ref (oa x3)), some (.int 0), some (.int 0), none, none, none]) C dc_Li_makeLine_4 (by decide) rfl ?_
  refine a_iconst (v := 0) C dc_Li_makeLine_6 (by decide) ?_
  refine a_istore (lo' := [some (.ref (oa u)), some (.int x1), some (.int x2), some (.ref (oa x3)), some (.int 0), some (.int 0), some (.int 0), none, none]) C dc_Li_makeLine_7 (by decide) rfl ?_
  refine aw_lo (lo' := [some (.ref (oa u)), some (.int x1), some (.int x2), some (.ref (oa x3)), some (.int 0), some (.int 0), some (.int 0), none, none]) ⟨.inr rfl, .inr rfl, .inr rfl, .inr rfl, .inr rfl, .inr rfl, .inr rfl, .inr rfl, .inr rfl, trivial⟩ ?_
  exact se_Li_makeLine_9 C hQ hA hR hu x1 x2 x3 0 0 0 S  hp
end C_Li_makeLine
section C_Li_makeLinec
variable {D : va_G} {z : Nat → ClassId} {U : ut} {oa : Nat → Nat}
set_option maxRecDepth 100000 in
theorem ct_Li_makeLine {l : Launch} (u : Nat) (x1 : Int32) (x2 : Int32) (x3 : Nat) (S : cs) {K : Int32 → cs → Prop} (hu : c_cl U u = 4) (hp : p_Li_makeLine U u x1 x2 x3 S K) : ct gG D z l n_C_Li_makeLine c_C_Li_makeLine 9 (some .int) 1 100 [.ref (oa u), .int x1, .int x2, .ref (oa x3)] (cw lt_C U oa S) 0 0 (pC_i lt_C U oa K (fun _ _ => False)) := by
  refine ct_of (lo := [some (.ref (oa u)), some (.int x1), some (.int x2), some (.ref (oa x3)), none, none, none, none, none]) (by decide) g_ok (Nat.le_of_ble_eq_true rfl) rfl ?_
  intro X A _ C hR hQ hA _
  exact s_Li_makeLine_0 C hQ hA hR hu x1 x2 x3 S hp
end C_Li_makeLinec
