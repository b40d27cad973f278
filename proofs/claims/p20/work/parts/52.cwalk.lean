def b_Un_readScanLayer_226 (U : ut) (u : Nat) (x3 : Int32) (x5 : Int32) (S : cs) (K : Int32 → cs → Prop) (T : Nat → cs → Prop) : Prop :=
  ¬ S.2.2 u 2 = NU ∧ (c_cl U (S.2.2 u 2) = 10 ∧ (p_Sc_addLayer U (S.2.2 u 2) x3 (x5 / 16) (2 + (x5 - x5 / 16 * 16)) S (fun S243 => ¬ S243.2.2 u 9 = NU ∧ (c_cl U (S243.2.2 u 9) = 903 ∧ (vp_in x3 (c_ln U (S243.2.2 u 9)) ∧ (K x3 (va_up S243.1 (S243.2.2 u 9) (upd (S243.1 (S243.2.2 u 9)) x3.toNatClampNeg (vp_nar .boolean 1)), S243.2.1, S243.2.2)))))))
def b_Un_readScanLayer_208 (U : ut) (u : Nat) (x3 : Int32) (x5 : Int32) (S : cs) (K : Int32 → cs → Prop) (T : Nat → cs → Prop) : Prop :=
  ¬ S.2.2 u 0 = NU ∧ (¬ S.2.2 u 0 = NU ∧ (c_cl U (S.2.2 u 0) = 8 ∧ (p_Re_fail U (S.2.2 u 0) 6 ((S.1 (S.2.2 u 0) 1) - 1) S (fun S223 => b_Un_readScanLayer_226 U u x3 x5 S223 K T) T)))
def b_Un_readScanLayer_174 (U : ut) (u : Nat) (x3 : Int32) (x5 : Int32) (S : cs) (K : Int32 → cs → Prop) (T : Nat → cs → Prop) : Prop :=
  ¬ S.2.2 u 5 = NU ∧ (c_cl U (S.2.2 u 5) = 951 ∧ (vp_in (x5 / 16) (c_ln U (S.2.2 u 5)) ∧ ¬ S.2.2 (S.2.2 u 5) (x5 / 16).toNatClampNeg = NU ∧ (c_cl U (S.2.2 (S.2.2 u 5) (x5 / 16).toNatClampNeg) = 3 ∧ (((S.1 (S.2.2 (S.2.2 u 5) (x5 / 16).toNatClampNeg) 0) = 0 → (b_Un_readScanLayer_208 U u x3 x5 S K T)) ∧ (¬ ((S.1 (S.2.2 (S.2.2 u 5) (x5 / 16).toNatClampNeg) 0) = 0) → (¬ S.2.2 u 5 = NU ∧ (vp_in (2 + (x5 - x5 / 16 * 16)) (c_ln U (S.2.2 u 5)) ∧ ¬ S.2.2 (S.2.2 u 5) (2 + (x5 - x5 / 16 * 16)).toNatClampNeg = NU ∧ (c_cl U (S.2.2 (S.2.2 u 5) (2 + (x5 - x5 / 16 * 16)).toNatClampNeg) = 3 ∧ ((¬ (S.1 (S.2.2 (S.2.2 u 5) (2 + (x5 - x5 / 16 * 16)).toNatClampNeg) 0) = 0 → (b_Un_readScanLayer_226 U u x3 x5 S K T)) ∧ ((S.1 (S.2.2 (S.2.2 u 5) (2 + (x5 - x5 / 16 * 16)).toNatClampNeg) 0) = 0 → (b_Un_readScanLayer_208 U u x3 x5 S K T)))))))))))
def b_Un_readScanLayer_114 (U : ut) (u : Nat) (x3 : Int32) (x4 : Int32) (S : cs) (K : Int32 → cs → Prop) (T : Nat → cs → Prop) : Prop :=
  ¬ S.2.2 u 3 = NU ∧ (¬ S.2.2 u 1 = NU ∧ (c_cl U (S.2.2 u 1) = 7 ∧ (¬ S.2.2 (S.2.2 u 1) 14 = NU ∧ (c_cl U (S.2.2 u 3) = 902 ∧ (c_cl U (S.2.2 (S.2.2 u 1) 14) = 902 ∧ (¬ (64 * x4) < 0 ∧ ¬ (64 * x3) < 0 ∧ ¬ (64 : Int32) < 0 ∧ (64 * x4).toNatClampNeg + (64 : Int32).toNatClampNeg ≤ c_ln U (S.2.2 u 3) ∧ (64 * x3).toNatClampNeg + (64 : Int32).toNatClampNeg ≤ c_ln U (S.2.2 (S.2.2 u 1) 14) ∧ (p_Un_readWithin U u 0 17 (va_up S.1 (S.2.2 (S.2.2 u 1) 14) (va_cpy (S.1 (S.2.2 u 3)) (S.1 (S.2.2 (S.2.2 u 1) 14)) (64 * x4).toNatClampNeg (64 * x3).toNatClampNeg (64 : Int32).toNatClampNeg), S.2.1, S.2.2) (fun v143 S143 => ((v143 - v143 / 16 * 16) ≤ 1 → (b_Un_readScanLayer_174 U u x3 v143 S143 K T)) ∧ (¬ ((v143 - v143 / 16 * 16) ≤ 1) → (¬ S143.2.2 u 0 = NU ∧ (¬ S143.2.2 u 0 = NU ∧ (c_cl U (S143.2.2 u 0) = 8 ∧ (p_Re_fail U (S143.2.2 u 0) 5 ((S143.1 (S143.2.2 u 0) 1) - 1) S143 (fun S171 => b_Un_readScanLayer_174 U u x3 v143 S171 K T) T)))))) T)))))))
def b_Un_readScanLayer_59 (U : ut) (u : Nat) (x1 : Int32) (S : cs) (K : Int32 → cs → Prop) (T : Nat → cs → Prop) : Prop :=
  ¬ S.2.2 u 0 = NU ∧ (¬ S.2.2 u 0 = NU ∧ (c_cl U (S.2.2 u 0) = 8 ∧ (p_Re_fail U (S.2.2 u 0) 5 ((S.1 (S.2.2 u 0) 1) - 1) S (fun S73 => K x1 S73) T)))
def b_Un_readScanLayer_39 (U : ut) (u : Nat) (x1 : Int32) (x2 : Int32) (x3 : Int32) (x4 : Int32) (S : cs) (R13 : Int32 → Int32 → Int32 → Int32 → cs → Prop) (K : Int32 → cs → Prop) (T : Nat → cs → Prop) : Prop :=
  R13 x1 x2 x3 (x4 + 1) S
def b_Un_readScanLayer_13 (U : ut) (u : Nat) (x1 : Int32) (x2 : Int32) (x3 : Int32) (x4 : Int32) (S : cs) (R13 : Int32 → Int32 → Int32 → Int32 → cs → Prop) (K : Int32 → cs → Prop) (T : Nat → cs → Prop) : Prop :=
  ¬ S.2.2 u 1 = NU ∧ (c_cl U (S.2.2 u 1) = 7 ∧ (((S.1 (S.2.2 u 1) 2) ≤ x4 → ((x3 = (-1) → (b_Un_readScanLayer_59 U u x1 S K T)) ∧ (¬ (x3 = (-1)) → (¬ S.2.2 u 9 = NU ∧ (c_cl U (S.2.2 u 9) = 903 ∧ (vp_in x3 (c_ln U (S.2.2 u 9)) ∧ (((S.1 (S.2.2 u 9) x3.toNatClampNeg) = 0 → (¬ S.2.2 u 8 = NU ∧ (c_cl U (S.2.2 u 8) = 902 ∧ (vp_in x3 (c_ln U (S.2.2 u 8)) ∧ (¬ S.2.2 u 4 = NU ∧ (c_cl U (S.2.2 u 4) = 903 ∧ (vp_in (S.1 (S.2.2 u 8) x3.toNatClampNeg) (c_ln U (S.2.2 u 4)) ∧ ((¬ (S.1 (S.2.2 u 4) (S.1 (S.2.2 u 8) x3.toNatClampNeg).toNatClampNeg) = 0 → (b_Un_readScanLayer_114 U u x3 (S.1 (S.2.2 u 8) x3.toNatClampNeg) S K T)) ∧ ((S.1 (S.2.2 u 4) (S.1 (S.2.2 u 8) x3.toNatClampNeg).toNatClampNeg) = 0 → (¬ S.2.2 u 0 = NU ∧ (¬ S.2.2 u 0 = NU ∧ (c_cl U (S.2.2 u 0) = 8 ∧ (p_Re_fail U (S.2.2 u 0) 6 ((S.1 (S.2.2 u 0) 1) - 1) S (fun S111 => b_Un_readScanLayer_114 U u x3 (S.1 (S.2.2 u 8) x3.toNatClampNeg) S111 K T) T))))))))))))) ∧ (¬ ((S.1 (S.2.2 u 9) x3.toNatClampNeg) = 0) → (b_Un_readScanLayer_59 U u x1 S K T))))))))) ∧ (¬ ((S.1 (S.2.2 u 1) 2) ≤ x4) → (¬ S.2.2 u 7 = NU ∧ (c_cl U (S.2.2 u 7) = 902 ∧ (vp_in x4 (c_ln U (S.2.2 u 7)) ∧ ((¬ (S.1 (S.2.2 u 7) x4.toNatClampNeg) = x2 → (b_Un_readScanLayer_39 U u x1 x2 x3 x4 S R13 K T)) ∧ ((S.1 (S.2.2 u 7) x4.toNatClampNeg) = x2 → (b_Un_readScanLayer_39 U u x1 x2 x4 x4 S R13 K T)))))))))
def e_Un_readScanLayer_13 (U : ut) (u : Nat) (x1 : Int32) (x2 : Int32) (x3 : Int32) (x4 : Int32) (S : cs) (K : Int32 → cs → Prop) (T : Nat → cs → Prop) : Prop :=
  ∃ (I : Int32 → Int32 → Int32 → Int32 → cs → Prop) (μ : Int32 → Int32 → Int32 → Int32 → cs → Nat), I x1 x2 x3 x4 S ∧ ∀ yx1 yx2 yx3 yx4 yS, I yx1 yx2 yx3 yx4 yS → b_Un_readScanLayer_13 U u yx1 yx2 yx3 yx4 yS (fun zx1 zx2 zx3 zx4 zS => I zx1 zx2 zx3 zx4 zS ∧ μ zx1 zx2 zx3 zx4 zS < μ yx1 yx2 yx3 yx4 yS) K T
def p_Un_readScanLayer (U : ut) (u : Nat) (x1 : Int32) (S : cs) (K : Int32 → cs → Prop) (T : Nat → cs → Prop) : Prop :=
  ¬ S.2.2 u 0 = NU ∧ (c_cl U (S.2.2 u 0) = 8 ∧ (p_Re_read U (S.2.2 u 0) S (fun v4 S4 => e_Un_readScanLayer_13 U u x1 v4 (-1) x1 S4 K T) T))
section C_Un_readScanLayer
variable {D : va_G} {z : Nat → ClassId} {A : Nat → Prop} {X : cx} {L0 : fw} {U : ut} {oa : Nat → Nat} {u : Nat} {K : Int32 → cs → Prop} {T : Nat → cs → Prop}
set_option maxRecDepth 100000 in
set_option maxHeartbeats 1000000 in
theorem s_Un_readScanLayer_226 (C : fcx gG D z A X R_Un c_C_Un_readScanLayer 6 (some .int)) (hQ : X.2.2.2.2.2.2.2.2.2.2 = eQ gG D z X.2.2.2.2.2.2.2.1 X.2.2.2.2.1 L0 0 0 (pC_i lt_C U oa K T)) (hA : A = owA gG L0 X.2.2.2.2.1.heap.size) (hR : X.2.2.2.1 = { frames := 11, cells := 1, slots := 6, locals := 1100 }) (hno : ∀ x ∈ X.2.2.2.2.2.2.2.2.2.1.exceptionTable.toList, False) (hfl : X.2.1.flags = pinnedFlags ++ [noTraceFlag]) (hu : c_cl U u = 11) (x3 : Int32) (x5 : Int32) (S : cs) (hp : b_Un_readScanLayer_226 U u x3 x5 S K T) : aw gG D z A X 6 226 [some (.ref (oa u)), none, none, some (.int x3), none, some (.int x5)] [] (cw lt_C U oa S) 0 0 := by
  unfold b_Un_readScanLayer_226 at hp
  refine a_aload_n C dc_Un_readScanLayer_226 rfl rfl ?_
  refine c_getR C u 2 dc_Un_readScanLayer_227 hu rfl rfl (Nat.le_of_ble_eq_true rfl) f_Un_28 rfl hp.1 ?_
  have hp := hp.2
  refine a_iload_n C dc_Un_readScanLayer_230 rfl rfl ?_
  refine a_iload C dc_Un_readScanLayer_231 rfl ?_
  refine a_bipush (v := 16) C dc_Un_readScanLayer_233 (by decide) ?_
  refine a_idiv C dc_Un_readScanLayer_235 (by decide) ?_
  refine a_iconst (v := 2) C dc_Un_readScanLayer_236 (by decide) ?_
  refine a_iload C dc_Un_readScanLayer_237 rfl ?_
  refine a_bipush (v := 16) C dc_Un_readScanLayer_239 (by decide) ?_
  refine a_irem C dc_Un_readScanLayer_241 (by decide) ?_
  refine a_iadd C dc_Un_readScanLayer_242 ?_
  have hc1 := hp.1
  have hp := hp.2
  refine c_call (rest := []) (av := .ref (oa (S.2.2 u 2)) :: [.int x3, .int (x5 / 16), .int (2 + (x5 - x5 / 16 * 16))]) C dc_Un_readScanLayer_243 (ct_Sc_addLayer (S.2.2 u 2) x3 (x5 / 16) (2 + (x5 - x5 / 16 * 16)) S hc1 hp) cd_C_Sc_addLayer i_Sc (Nat.le_of_ble_eq_true rfl) (by rw [hR]; exact Nat.le_of_ble_eq_true rfl) (by rw [hR]; exact Nat.le_of_ble_eq_true rfl) (by rw [hR]; exact Nat.le_of_ble_eq_true rfl) (by rw [hR]; exact Nat.le_of_ble_eq_true rfl) (inv_V C (S.2.2 u 2) dc_Un_readScanLayer_243 l_Un_210 im_C_Sc_addLayer se_C_Sc_addLayer cd_C_Sc_addLayer ⟨by decide, by decide⟩ ln_C_Sc_addLayer rfl rfl (cw_obj hc1 rfl) rfl rfl) (fun oc L1 hL => ?_)
  obtain ⟨S243, hp, rfl, rfl⟩ := hL.resolve_right pC_no
  refine ⟨_, rfl, ?_⟩
  refine aw_eq (lo' := _) (st' := []) (L' := (cw lt_C U oa S243)) rfl rfl rfl ?_
  refine a_aload_n C dc_Un_readScanLayer_246 rfl rfl ?_
  refine c_getR C u 9 dc_Un_readScanLayer_247 hu rfl rfl (Nat.le_of_ble_eq_true rfl) f_Un_53 rfl hp.1 ?_
  have hp := hp.2
  refine a_iload_n C dc_Un_readScanLayer_250 rfl rfl ?_
  refine a_iconst (v := 1) C dc_Un_readScanLayer_251 (by decide) ?_
  have hc2 := hp.1
  have hp := hp.2
  refine c_zast C (S243.2.2 u 9) dc_Un_readScanLayer_252 hc2 hp.1 ?_
  have hp := hp.2
  refine aw_eq (lo' := _) (st' := _) (L' := (cw lt_C U oa (va_up S243.1 (S243.2.2 u 9) (upd (S243.1 (S243.2.2 u 9)) x3.toNatClampNeg (vp_nar .boolean 1)), S243.2.1, S243.2.2))) rfl rfl rfl ?_
  refine a_iload_n C dc_Un_readScanLayer_253 rfl rfl ?_
  exact a_iret (ty := .int) C hQ hA dc_Un_readScanLayer_254 rfl rfl (Or.inl ⟨_, (va_up S243.1 (S243.2.2 u 9) (upd (S243.1 (S243.2.2 u 9)) x3.toNatClampNeg (vp_nar .boolean 1)), S243.2.1, S243.2.2), hp, rfl, rfl⟩)
set_option maxRecDepth 100000 in
set_option maxHeartbeats 1000000 in
theorem s_Un_readScanLayer_208 (C : fcx gG D z A X R_Un c_C_Un_readScanLayer 6 (some .int)) (hQ : X.2.2.2.2.2.2.2.2.2.2 = eQ gG D z X.2.2.2.2.2.2.2.1 X.2.2.2.2.1 L0 0 0 (pC_i lt_C U oa K T)) (hA : A = owA gG L0 X.2.2.2.2.1.heap.size) (hR : X.2.2.2.1 = { frames := 11, cells := 1, slots := 6, locals := 1100 }) (hno : ∀ x ∈ X.2.2.2.2.2.2.2.2.2.1.exceptionTable.toList, False) (hfl : X.2.1.flags = pinnedFlags ++ [noTraceFlag]) (hu : c_cl U u = 11) (x3 : Int32) (x5 : Int32) (S : cs) (hp : b_Un_readScanLayer_208 U u x3 x5 S K T) : aw gG D z A X 6 208 [some (.ref (oa u)), none, none, some (.int x3), none, some (.int x5)] [] (cw lt_C U oa S) 0 0 := by
  unfold b_Un_readScanLayer_208 at hp
  refine a_aload_n C dc_Un_readScanLayer_208 rfl rfl ?_
  refine c_getR C u 0 dc_Un_readScanLayer_209 hu rfl rfl (Nat.le_of_ble_eq_true rfl) f_Un_12 rfl hp.1 ?_
  have hp := hp.2
  refine a_bipush (v := 6) C dc_Un_readScanLayer_212 (by decide) ?_
  refine a_aload_n C dc_Un_readScanLayer_214 rfl rfl ?_
  refine c_getR C u 0 dc_Un_readScanLayer_215 hu rfl rfl (Nat.le_of_ble_eq_true rfl) f_Un_12 rfl hp.1 ?_
  have hp := hp.2
  have hc3 := hp.1
  have hp := hp.2
  refine c_getIN C (S.2.2 u 0) 1 dc_Un_readScanLayer_218 hc3 rfl rfl (Nat.le_of_ble_eq_true rfl) f_Un_70 (Nat.le_of_ble_eq_true rfl) ?_
  refine a_iconst (v := 1) C dc_Un_readScanLayer_221 (by decide) ?_
  refine a_isub C dc_Un_readScanLayer_222 ?_
  refine c_callT (rest := []) (av := .ref (oa (S.2.2 u 0)) :: [.int 6, .int ((S.1 (S.2.2 u 0) 1) - 1)]) C dc_Un_readScanLayer_223 (ct_Re_fail (S.2.2 u 0) 6 ((S.1 (S.2.2 u 0) 1) - 1) S hfl hc3 hp) cd_C_Re_fail i_Re (Nat.le_of_ble_eq_true rfl) (by rw [hR]; exact Nat.le_of_ble_eq_true rfl) (by rw [hR]; exact Nat.le_of_ble_eq_true rfl) (by rw [hR]; exact Nat.le_of_ble_eq_true rfl) (by rw [hR]; exact Nat.le_of_ble_eq_true rfl) (inv_V C (S.2.2 u 0) dc_Un_readScanLayer_223 l_Un_74 im_C_Re_fail se_C_Re_fail cd_C_Re_fail ⟨by decide, by decide⟩ ln_C_Re_fail rfl rfl (cw_obj hc3 rfl) rfl rfl) (fun oc L1 hL => ?_)
  rcases hL with ⟨S223, hp, rfl, rfl⟩ | ⟨c9, a9, S9, hp, rfl, rfl⟩
  rotate_left
  · exact Or.inr ⟨a9, rfl, t_out C hQ hA (fun x hx => (hno x hx).elim) (Or.inr ⟨c9, a9, S9, hp, rfl, rfl⟩) (Nat.le_of_ble_eq_true rfl) (Nat.le_of_ble_eq_true rfl)⟩
  refine Or.inl ⟨_, rfl, ?_⟩
  refine aw_eq (lo' := _) (st' := []) (L' := (cw lt_C U oa S223)) rfl rfl rfl ?_
  refine aw_lo (lo' := [some (.ref (oa u)), none, none, some (.int x3), none, some (.int x5)]) ⟨.inr rfl, .inr rfl, .inr rfl, .inr rfl, .inr rfl, .inr rfl, trivial⟩ ?_
  exact s_Un_readScanLayer_226 C hQ hA hR hno hfl hu x3 x5 S223  hp
set_option maxRecDepth 100000 in
set_option maxHeartbeats 1000000 in
theorem s_Un_readScanLayer_174 (C : fcx gG D z A X R_Un c_C_Un_readScanLayer 6 (some .int)) (hQ : X.2.2.2.2.2.2.2.2.2.2 = eQ gG D z X.2.2.2.2.2.2.2.1 X.2.2.2.2.1 L0 0 0 (pC_i lt_C U oa K T)) (hA : A = owA gG L0 X.2.2.2.2.1.heap.size) (hR : X.2.2.2.1 = { frames := 11, cells := 1, slots := 6, locals := 1100 }) (hno : ∀ x ∈ X.2.2.2.2.2.2.2.2.2.1.exceptionTable.toList, False) (hfl : X.2.1.flags = pinnedFlags ++ [noTraceFlag]) (hu : c_cl U u = 11) (x3 : Int32) (x5 : Int32) (S : cs) (hp : b_Un_readScanLayer_174 U u x3 x5 S K T) : aw gG D z A X 6 174 [some (.ref (oa u)), none, none, some (.int x3), none, some (.int x5)] [] (cw lt_C U oa S) 0 0 := by
  unfold b_Un_readScanLayer_174 at hp
  refine a_aload_n C dc_Un_readScanLayer_174 rfl rfl ?_
  refine c_getR C u 5 dc_Un_readScanLayer_175 hu rfl rfl (Nat.le_of_ble_eq_true rfl) f_Un_43 rfl hp.1 ?_
  have hp := hp.2
  refine a_iload C dc_Un_readScanLayer_178 rfl ?_
  refine a_bipush (v := 16) C dc_Un_readScanLayer_180 (by decide) ?_
  refine a_idiv C dc_Un_readScanLayer_182 (by decide) ?_
  have hc4 := hp.1
  have hp := hp.2
  refine c_aald C (S.2.2 u 5) 1 dc_Un_readScanLayer_183 hc4 rfl (by decide) rfl hp.1 hp.2.1 ?_
  have hp := hp.2.2
  have hc5 := hp.1
  have hp := hp.2
  refine c_getIN C (S.2.2 (S.2.2 u 5) (x5 / 16).toNatClampNeg) 0 dc_Un_readScanLayer_184 hc5 rfl rfl (Nat.le_of_ble_eq_true rfl) f_Un_105 (Nat.le_of_ble_eq_true rfl) ?_
  refine a_if_eq (tgt := 208) C dc_Un_readScanLayer_187 (by decide) ⟨fun hc => ?_, fun hc => ?_⟩
  · have hp := hp.1 hc
    refine aw_lo (lo' := [some (.ref (oa u)), none, none, some (.int x3), none, some (.int x5)]) ⟨.inr rfl, .inr rfl, .inr rfl, .inr rfl, .inr rfl, .inr rfl, trivial⟩ ?_
    exact s_Un_readScanLayer_208 C hQ hA hR hno hfl hu x3 x5 S  hp
  · have hp := hp.2 hc
    refine a_aload_n C dc_Un_readScanLayer_190 rfl rfl ?_
    refine c_getR C u 5 dc_Un_readScanLayer_191 hu rfl rfl (Nat.le_of_ble_eq_true rfl) f_Un_43 rfl hp.1 ?_
    have hp := hp.2
    refine a_iconst (v := 2) C dc_Un_readScanLayer_194 (by decide) ?_
    refine a_iload C dc_Un_readScanLayer_195 rfl ?_
    refine a_bipush (v := 16) C dc_Un_readScanLayer_197 (by decide) ?_
    refine a_irem C dc_Un_readScanLayer_199 (by decide) ?_
    refine a_iadd C dc_Un_readScanLayer_200 ?_
    refine c_aald C (S.2.2 u 5) 1 dc_Un_readScanLayer_201 hc4 rfl (by decide) rfl hp.1 hp.2.1 ?_
    have hp := hp.2.2
    have hc6 := hp.1
    have hp := hp.2
    refine c_getIN C (S.2.2 (S.2.2 u 5) (2 + (x5 - x5 / 16 * 16)).toNatClampNeg) 0 dc_Un_readScanLayer_202 hc6 rfl rfl (Nat.le_of_ble_eq_true rfl) f_Un_105 (Nat.le_of_ble_eq_true rfl) ?_
    refine a_if_ne (tgt := 226) C dc_Un_readScanLayer_205 (by decide) ⟨fun hc => ?_, fun hc => ?_⟩
    · have hp := hp.1 hc
      refine aw_lo (lo' := [some (.ref (oa u)), none, none, some (.int x3), none, some (.int x5)]) ⟨.inr rfl, .inr rfl, .inr rfl, .inr rfl, .inr rfl, .inr rfl, trivial⟩ ?_
      exact s_Un_readScanLayer_226 C hQ hA hR hno hfl hu x3 x5 S  hp
    · have hp := hp.2 hc
      refine aw_lo (lo' := [some (.ref (oa u)), none, none, some (.int x3), none, some (.int x5)]) ⟨.inr rfl, .inr rfl, .inr rfl, .inr rfl, .inr rfl, .inr rfl, trivial⟩ ?_
      exact s_Un_readScanLayer_208 C hQ hA hR hno hfl hu x3 x5 S  hp
set_option maxRecDepth 100000 in
set_option maxHeartbeats 1000000 in
theorem s_Un_readScanLayer_114 (C : fcx gG D z A X R_Un c_C_Un_readScanLayer 6 (some .int)) (hQ : X.2.2.2.2.2.2.2.2.2.2 = eQ gG D z X.2.2.2.2.2.2.2.1 X.2.2.2.2.1 L0 0 0 (pC_i lt_C U oa K T)) (hA : A = owA gG L0 X.2.2.2.2.1.heap.size) (hR : X.2.2.2.1 = { frames := 11, cells := 1, slots := 6, locals := 1100 }) (hno : ∀ x ∈ X.2.2.2.2.2.2.2.2.2.1.exceptionTable.toList, False) (hfl : X.2.1.flags = pinnedFlags ++ [noTraceFlag]) (hu : c_cl U u = 11) (x3 : Int32) (x4 : Int32) (S : cs) (hp : b_Un_readScanLayer_114 U u x3 x4 S K T) : aw gG D z A X 6 114 [some (.ref (oa u)), none, none, some (.int x3), some (.int x4), none] [] (cw lt_C U oa S) 0 0 := by
  unfold b_Un_readScanLayer_114 at hp
  refine a_aload_n C dc_Un_readScanLayer_114 rfl rfl ?_
  refine c_getR C u 3 dc_Un_readScanLayer_115 hu rfl rfl (Nat.le_of_ble_eq_true rfl) f_Un_32 rfl hp.1 ?_
  have hp := hp.2
  refine a_bipush (v := 64) C dc_Un_readScanLayer_118 (by decide) ?_
  refine a_iload C dc_Un_readScanLayer_120 rfl ?_
  refine a_imul C dc_Un_readScanLayer_122 ?_
  refine a_aload_n C dc_Un_readScanLayer_123 rfl rfl ?_
  refine c_getR C u 1 dc_Un_readScanLayer_124 hu rfl rfl (Nat.le_of_ble_eq_true rfl) f_Un_21 rfl hp.1 ?_
  have hp := hp.2
  have hc7 := hp.1
  have hp := hp.2
  refine c_getRN C (S.2.2 u 1) 14 dc_Un_readScanLayer_127 hc7 rfl rfl (Nat.le_of_ble_eq_true rfl) f_Un_201 rfl hp.1 ?_
  have hp := hp.2
  refine a_bipush (v := 64) C dc_Un_readScanLayer_130 (by decide) ?_
  refine a_iload_n C dc_Un_readScanLayer_132 rfl rfl ?_
  refine a_imul C dc_Un_readScanLayer_133 ?_
  refine a_bipush (v := 64) C dc_Un_readScanLayer_134 (by decide) ?_
  have hc8 := hp.1
  have hp := hp.2
  have hc9 := hp.1
  have hp := hp.2
  obtain ⟨g10a, g10b, g10c, g10d, g10e, hp⟩ := hp
  refine c_copy C (S.2.2 u 3) (S.2.2 (S.2.2 u 1) 14) dc_Un_readScanLayer_136 l_Un_204 nt_copy st_copy i_Sy hc8 hc9 g10a g10b g10c g10d g10e (Nat.le_of_ble_eq_true rfl) (by rw [hR]; exact Nat.le_of_ble_eq_true rfl) (by rw [hR]; exact Nat.le_of_ble_eq_true rfl) ?_
  refine aw_eq (lo' := _) (st' := _) (L' := (cw lt_C U oa (va_up S.1 (S.2.2 (S.2.2 u 1) 14) (va_cpy (S.1 (S.2.2 u 3)) (S.1 (S.2.2 (S.2.2 u 1) 14)) (64 * x4).toNatClampNeg (64 * x3).toNatClampNeg (64 : Int32).toNatClampNeg), S.2.1, S.2.2))) rfl rfl rfl ?_
  refine a_aload_n C dc_Un_readScanLayer_139 rfl rfl ?_
  refine a_iconst (v := 0) C dc_Un_readScanLayer_140 (by decide) ?_
  refine a_bipush (v := 17) C dc_Un_readScanLayer_141 (by decide) ?_
  refine c_callT (rest := []) (av := .ref (oa u) :: [.int 0, .int 17]) C dc_Un_readScanLayer_143 (ct_Un_readWithin u 0 17 (va_up S.1 (S.2.2 (S.2.2 u 1) 14) (va_cpy (S.1 (S.2.2 u 3)) (S.1 (S.2.2 (S.2.2 u 1) 14)) (64 * x4).toNatClampNeg (64 * x3).toNatClampNeg (64 : Int32).toNatClampNeg), S.2.1, S.2.2) hfl hu hp) cd_C_Un_readWithin i_Un (Nat.le_of_ble_eq_true rfl) (by rw [hR]; exact Nat.le_of_ble_eq_true rfl) (by rw [hR]; exact Nat.le_of_ble_eq_true rfl) (by rw [hR]; exact Nat.le_of_ble_eq_true rfl) (by rw [hR]; exact Nat.le_of_ble_eq_true rfl) (inv_V C u dc_Un_readScanLayer_143 l_Un_151 im_C_Un_readWithin se_C_Un_readWithin cd_C_Un_readWithin ⟨by decide, by decide⟩ ln_C_Un_readWithin rfl rfl (cw_obj hu rfl) rfl rfl) (fun oc L1 hL => ?_)
  rcases hL with ⟨v143, S143, hp, rfl, rfl⟩ | ⟨c9, a9, S9, hp, rfl, rfl⟩
  rotate_left
  · exact Or.inr ⟨a9, rfl, t_out C hQ hA (fun x hx => (hno x hx).elim) (Or.inr ⟨c9, a9, S9, hp, rfl, rfl⟩) (Nat.le_of_ble_eq_true rfl) (Nat.le_of_ble_eq_true rfl)⟩
  refine Or.inl ⟨_, rfl, ?_⟩
  refine aw_eq (lo' := _) (st' := [.int v143]) (L' := (cw lt_C U oa S143)) rfl rfl rfl ?_
  refine a_istore (lo' := [some (.ref (oa u)), none, none, some (.int x3), some (.int x4), some (.int v143)]) C dc_Un_readScanLayer_146 (by decide) rfl ?_
  refine a_iload C dc_Un_readScanLayer_148 rfl ?_
  refine a_bipush (v := 16) C dc_Un_readScanLayer_150 (by decide) ?_
  refine a_irem C dc_Un_readScanLayer_152 (by decide) ?_
  refine a_iconst (v := 1) C dc_Un_readScanLayer_153 (by decide) ?_
  refine a_icmp_le (tgt := 174) C dc_Un_readScanLayer_154 (by decide) ⟨fun hc => ?_, fun hc => ?_⟩
  · have hp := hp.1 hc
    refine aw_lo (lo' := [some (.ref (oa u)), none, none, some (.int x3), none, some (.int v143)]) ⟨.inr rfl, .inr rfl, .inr rfl, .inr rfl, .inl rfl, .inr rfl, trivial⟩ ?_
    exact s_Un_readScanLayer_174 C hQ hA hR hno hfl hu x3 v143 S143  hp
  · have hp := hp.2 hc
    refine a_aload_n C dc_Un_readScanLayer_157 rfl rfl ?_
    refine c_getR C u 0 dc_Un_readScanLayer_158 hu rfl rfl (Nat.le_of_ble_eq_true rfl) f_Un_12 rfl hp.1 ?_
    have hp := hp.2
    refine a_iconst (v := 5) C dc_Un_readScanLayer_161 (by decide) ?_
    refine a_aload_n C dc_Un_readScanLayer_162 rfl rfl ?_
    refine c_getR C u 0 dc_Un_readScanLayer_163 hu rfl rfl (Nat.le_of_ble_eq_true rfl) f_Un_12 rfl hp.1 ?_
    have hp := hp.2
    have hc11 := hp.1
    have hp := hp.2
    refine c_getIN C (S143.2.2 u 0) 1 dc_Un_readScanLayer_166 hc11 rfl rfl (Nat.le_of_ble_eq_true rfl) f_Un_70 (Nat.le_of_ble_eq_true rfl) ?_
    refine a_iconst (v := 1) C dc_Un_readScanLayer_169 (by decide) ?_
    refine a_isub C dc_Un_readScanLayer_170 ?_
    refine c_callT (rest := []) (av := .ref (oa (S143.2.2 u 0)) :: [.int 5, .int ((S143.1 (S143.2.2 u 0) 1) - 1)]) C dc_Un_readScanLayer_171 (ct_Re_fail (S143.2.2 u 0) 5 ((S143.1 (S143.2.2 u 0) 1) - 1) S143 hfl hc11 hp) cd_C_Re_fail i_Re (Nat.le_of_ble_eq_true rfl) (by rw [hR]; exact Nat.le_of_ble_eq_true rfl) (by rw [hR]; exact Nat.le_of_ble_eq_true rfl) (by rw [hR]; exact Nat.le_of_ble_eq_true rfl) (by rw [hR]; exact Nat.le_of_ble_eq_true rfl) (inv_V C (S143.2.2 u 0) dc_Un_readScanLayer_171 l_Un_74 im_C_Re_fail se_C_Re_fail cd_C_Re_fail ⟨by decide, by decide⟩ ln_C_Re_fail rfl rfl (cw_obj hc11 rfl) rfl rfl) (fun oc L1 hL => ?_)
    rcases hL with ⟨S171, hp, rfl, rfl⟩ | ⟨c9, a9, S9, hp, rfl, rfl⟩
    rotate_left
    · exact Or.inr ⟨a9, rfl, t_out C hQ hA (fun x hx => (hno x hx).elim) (Or.inr ⟨c9, a9, S9, hp, rfl, rfl⟩) (Nat.le_of_ble_eq_true rfl) (Nat.le_of_ble_eq_true rfl)⟩
    refine Or.inl ⟨_, rfl, ?_⟩
    refine aw_eq (lo' := _) (st' := []) (L' := (cw lt_C U oa S171)) rfl rfl rfl ?_
    refine aw_lo (lo' := [some (.ref (oa u)), none, none, some (.int x3), none, some (.int v143)]) ⟨.inr rfl, .inr rfl, .inr rfl, .inr rfl, .inl rfl, .inr rfl, trivial⟩ ?_
    exact s_Un_readScanLayer_174 C hQ hA hR hno hfl hu x3 v143 S171  hp
set_option maxRecDepth 100000 in
set_option maxHeartbeats 1000000 in
theorem s_Un_readScanLayer_59 (C : fcx gG D z A X R_Un c_C_Un_readScanLayer 6 (some .int)) (hQ : X.2.2.2.2.2.2.2.2.2.2 = eQ gG D z X.2.2.2.2.2.2.2.1 X.2.2.2.2.1 L0 0 0 (pC_i lt_C U oa K T)) (hA : A = owA gG L0 X.2.2.2.2.1.heap.size) (hR : X.2.2.2.1 = { frames := 11, cells := 1, slots := 6, locals := 1100 }) (hno : ∀ x ∈ X.2.2.2.2.2.2.2.2.2.1.exceptionTable.toList, False) (hfl : X.2.1.flags = pinnedFlags ++ [noTraceFlag]) (hu : c_cl U u = 11) (x1 : Int32) (S : cs) (hp : b_Un_readScanLayer_59 U u x1 S K T) : aw gG D z A X 6 59 [some (.ref (oa u)), some (.int x1), none, none, none, none] [] (cw lt_C U oa S) 0 0 := by
  unfold b_Un_readScanLayer_59 at hp
  refine a_aload_n C dc_Un_readScanLayer_59 rfl rfl ?_
  refine c_getR C u 0 dc_Un_readScanLayer_60 hu rfl rfl (Nat.le_of_ble_eq_true rfl) f_Un_12 rfl hp.1 ?_
  have hp := hp.2
  refine a_iconst (v := 5) C dc_Un_readScanLayer_63 (by decide) ?_
  refine a_aload_n C dc_Un_readScanLayer_64 rfl rfl ?_
  refine c_getR C u 0 dc_Un_readScanLayer_65 hu rfl rfl (Nat.le_of_ble_eq_true rfl) f_Un_12 rfl hp.1 ?_
  have hp := hp.2
  have hc12 := hp.1
  have hp := hp.2
  refine c_getIN C (S.2.2 u 0) 1 dc_Un_readScanLayer_68 hc12 rfl rfl (Nat.le_of_ble_eq_true rfl) f_Un_70 (Nat.le_of_ble_eq_true rfl) ?_
  refine a_iconst (v := 1) C dc_Un_readScanLayer_71 (by decide) ?_
  refine a_isub C dc_Un_readScanLayer_72 ?_
  refine c_callT (rest := []) (av := .ref (oa (S.2.2 u 0)) :: [.int 5, .int ((S.1 (S.2.2 u 0) 1) - 1)]) C dc_Un_readScanLayer_73 (ct_Re_fail (S.2.2 u 0) 5 ((S.1 (S.2.2 u 0) 1) - 1) S hfl hc12 hp) cd_C_Re_fail i_Re (Nat.le_of_ble_eq_true rfl) (by rw [hR]; exact Nat.le_of_ble_eq_true rfl) (by rw [hR]; exact Nat.le_of_ble_eq_true rfl) (by rw [hR]; exact Nat.le_of_ble_eq_true rfl) (by rw [hR]; exact Nat.le_of_ble_eq_true rfl) (inv_V C (S.2.2 u 0) dc_Un_readScanLayer_73 l_Un_74 im_C_Re_fail se_C_Re_fail cd_C_Re_fail ⟨by decide, by decide⟩ ln_C_Re_fail rfl rfl (cw_obj hc12 rfl) rfl rfl) (fun oc L1 hL => ?_)
  rcases hL with ⟨S73, hp, rfl, rfl⟩ | ⟨c9, a9, S9, hp, rfl, rfl⟩
  rotate_left
  · exact Or.inr ⟨a9, rfl, t_out C hQ hA (fun x hx => (hno x hx).elim) (Or.inr ⟨c9, a9, S9, hp, rfl, rfl⟩) (Nat.le_of_ble_eq_true rfl) (Nat.le_of_ble_eq_true rfl)⟩
  refine Or.inl ⟨_, rfl, ?_⟩
  refine aw_eq (lo' := _) (st' := []) (L' := (cw lt_C U oa S73)) rfl rfl rfl ?_
  refine a_iload_n C dc_Un_readScanLayer_76 rfl rfl ?_
  exact a_iret (ty := .int) C hQ hA dc_Un_readScanLayer_77 rfl rfl (Or.inl ⟨_, S73, hp, rfl, rfl⟩)
set_option maxRecDepth 100000 in
set_option maxHeartbeats 1000000 in
theorem s_Un_readScanLayer_39 (C : fcx gG D z A X R_Un c_C_Un_readScanLayer 6 (some .int)) (hQ : X.2.2.2.2.2.2.2.2.2.2 = eQ gG D z X.2.2.2.2.2.2.2.1 X.2.2.2.2.1 L0 0 0 (pC_i lt_C U oa K T)) (hA : A = owA gG L0 X.2.2.2.2.1.heap.size) (hR : X.2.2.2.1 = { frames := 11, cells := 1, slots := 6, locals := 1100 }) (hno : ∀ x ∈ X.2.2.2.2.2.2.2.2.2.1.exceptionTable.toList, False) (hfl : X.2.1.flags = pinnedFlags ++ [noTraceFlag]) (hu : c_cl U u = 11) (x1 : Int32) (x2 : Int32) (x3 : Int32) (x4 : Int32) (S : cs) (R13 : Int32 → Int32 → Int32 → Int32 → cs → Prop) (hR13 : ∀ yx1 yx2 yx3 yx4 yS, R13 yx1 yx2 yx3 yx4 yS → aw gG D z A X 6 13 [some (.ref (oa u)), some (.int yx1), some (.int yx2), some (.int yx3), some (.int yx4), none] [] (cw lt_C U oa yS) 0 0) (hp : b_Un_readScanLayer_39 U u x1 x2 x3 x4 S R13 K T) : aw gG D z A X 6 39 [some (.ref (oa u)), some (.int x1), some (.int x2), some (.int x3), some (.int x4), none] [] (cw lt_C U oa S) 0 0 := by
  unfold b_Un_readScanLayer_39 at hp
  refine a_iinc (v := x4 + 1) (lo' := [some (.ref (oa u)), some (.int x1), some (.int x2), some (.int x3), some (.int (x4 + 1)), none]) C dc_Un_readScanLayer_39 rfl rfl (by decide) rfl ?_
  refine a_goto (tgt := 13) C dc_Un_readScanLayer_42 (by decide) ?_
  refine aw_lo (lo' := [some (.ref (oa u)), some (.int x1), some (.int x2), some (.int x3), some (.int (x4 + 1)), none]) ⟨.inr rfl, .inr rfl, .inr rfl, .inr rfl, .inr rfl, .inr rfl, trivial⟩ ?_
  exact hR13 x1 x2 x3 (x4 + 1) S hp
set_option maxRecDepth 100000 in
set_option maxHeartbeats 1000000 in
theorem s_Un_readScanLayer_13 (C : fcx gG D z A X R_Un c_C_Un_readScanLayer 6 (some .int)) (hQ : X.2.2.2.2.2.2.2.2.2.2 = eQ gG D z X.2.2.2.2.2.2.2.1 X.2.2.2.2.1 L0 0 0 (pC_i lt_C U oa K T)) (hA : A = owA gG L0 X.2.2.2.2.1.heap.size) (hR : X.2.2.2.1 = { frames := 11, cells := 1, slots := 6, locals := 1100 }) (hno : ∀ x ∈ X.2.2.2.2.2.2.2.2.2.1.exceptionTable.toList, False) (hfl : X.2.1.flags = pinnedFlags ++ [noTraceFlag]) (hu : c_cl U u = 11) (x1 : Int32) (x2 : Int32) (x3 : Int32) (x4 : Int32) (S : cs) (R13 : Int32 → Int32 → Int32 → Int32 → cs → Prop) (hR13 : ∀ yx1 yx2 yx3 yx4 yS, R13 yx1 yx2 yx3 yx4 yS → aw gG D z A X 6 13 [some (.ref (oa u)), some (.int yx1), some (.int yx2), some (.int yx3), some (.int yx4), none] [] (cw lt_C U oa yS) 0 0) (hp : b_Un_readScanLayer_13 U u x1 x2 x3 x4 S R13 K T) : aw gG D z A X 6 13 [some (.ref (oa u)), some (.int x1), some (.int x2), some (.int x3), some (.int x4), none] [] (cw lt_C U oa S) 0 0 := by
  unfold b_Un_readScanLayer_13 at hp
  refine a_iload C dc_Un_readScanLayer_13 rfl ?_
  refine a_aload_n C dc_Un_readScanLayer_15 rfl rfl ?_
  refine c_getR C u 1 dc_Un_readScanLayer_16 hu rfl rfl (Nat.le_of_ble_eq_true rfl) f_Un_21 rfl hp.1 ?_
  have hp := hp.2
  have hc13 := hp.1
  have hp := hp.2
  refine c_getIN C (S.2.2 u 1) 2 dc_Un_readScanLayer_19 hc13 rfl rfl (Nat.le_of_ble_eq_true rfl) f_Un_110 (Nat.le_of_ble_eq_true rfl) ?_
  refine a_icmp_ge (tgt := 45) C dc_Un_readScanLayer_22 (by decide) ⟨fun hc => ?_, fun hc => ?_⟩
  · have hp := hp.1 hc
    refine a_iload_n C dc_Un_readScanLayer_45 rfl rfl ?_
    refine a_iconst (v := (-1)) C dc_Un_readScanLayer_46 (by decide) ?_
    refine a_icmp_eq (tgt := 59) C dc_Un_readScanLayer_47 (by decide) ⟨fun hc => ?_, fun hc => ?_⟩
    · have hp := hp.1 hc
      refine aw_lo (lo' := [some (.ref (oa u)), some (.int x1), none, none, none, none]) ⟨.inr rfl, .inr rfl, .inl rfl, .inl rfl, .inl rfl, .inr rfl, trivial⟩ ?_
      exact s_Un_readScanLayer_59 C hQ hA hR hno hfl hu x1 S  hp
    · have hp := hp.2 hc
      refine a_aload_n C dc_Un_readScanLayer_50 rfl rfl ?_
      refine c_getR C u 9 dc_Un_readScanLayer_51 hu rfl rfl (Nat.le_of_ble_eq_true rfl) f_Un_53 rfl hp.1 ?_
      have hp := hp.2
      refine a_iload_n C dc_Un_readScanLayer_54 rfl rfl ?_
      have hc14 := hp.1
      have hp := hp.2
      refine c_zald C (S.2.2 u 9) dc_Un_readScanLayer_55 hc14 hp.1 ?_
      have hp := hp.2
      refine a_if_eq (tgt := 78) C dc_Un_readScanLayer_56 (by decide) ⟨fun hc => ?_, fun hc => ?_⟩
      · have hp := hp.1 hc
        refine a_aload_n C dc_Un_readScanLayer_78 rfl rfl ?_
        refine c_getR C u 8 dc_Un_readScanLayer_79 hu rfl rfl (Nat.le_of_ble_eq_true rfl) f_Un_50 rfl hp.1 ?_
        have hp := hp.2
        refine a_iload_n C dc_Un_readScanLayer_82 rfl rfl ?_
        have hc15 := hp.1
        have hp := hp.2
        refine c_iald C (S.2.2 u 8) dc_Un_readScanLayer_83 hc15 hp.1 ?_
        have hp := hp.2
        refine a_istore (lo' := [some (.ref (oa u)), some (.int x1), some (.int x2), some (.int x3), some (.int (S.1 (S.2.2 u 8) x3.toNatClampNeg)), none]) C dc_Un_readScanLayer_84 (by decide) rfl ?_
        refine a_aload_n C dc_Un_readScanLayer_86 rfl rfl ?_
        refine c_getR C u 4 dc_Un_readScanLayer_87 hu rfl rfl (Nat.le_of_ble_eq_true rfl) f_Un_36 rfl hp.1 ?_
        have hp := hp.2
        refine a_iload C dc_Un_readScanLayer_90 rfl ?_
        have hc16 := hp.1
        have hp := hp.2
        refine c_zald C (S.2.2 u 4) dc_Un_readScanLayer_92 hc16 hp.1 ?_
        have hp := hp.2
        refine a_if_ne (tgt := 114) C dc_Un_readScanLayer_93 (by decide) ⟨fun hc => ?_, fun hc => ?_⟩
        · have hp := hp.1 hc
          refine aw_lo (lo' := [some (.ref (oa u)), none, none, some (.int x3), some (.int (S.1 (S.2.2 u 8) x3.toNatClampNeg)), none]) ⟨.inr rfl, .inl rfl, .inl rfl, .inr rfl, .inr rfl, .inr rfl, trivial⟩ ?_
          exact s_Un_readScanLayer_114 C hQ hA hR hno hfl hu x3 (S.1 (S.2.2 u 8) x3.toNatClampNeg) S  hp
        · have hp := hp.2 hc
          refine a_aload_n C dc_Un_readScanLayer_96 rfl rfl ?_
          refine c_getR C u 0 dc_Un_readScanLayer_97 hu rfl rfl (Nat.le_of_ble_eq_true rfl) f_Un_12 rfl hp.1 ?_
          have hp := hp.2
          refine a_bipush (v := 6) C dc_Un_readScanLayer_100 (by decide) ?_
          refine a_aload_n C dc_Un_readScanLayer_102 rfl rfl ?_
          refine c_getR C u 0 dc_Un_readScanLayer_103 hu rfl rfl (Nat.le_of_ble_eq_true rfl) f_Un_12 rfl hp.1 ?_
          have hp := hp.2
          have hc17 := hp.1
          have hp := hp.2
          refine c_getIN C (S.2.2 u 0) 1 dc_Un_readScanLayer_106 hc17 rfl rfl (Nat.le_of_ble_eq_true rfl) f_Un_70 (Nat.le_of_ble_eq_true rfl) ?_
          refine a_iconst (v := 1) C dc_Un_readScanLayer_109 (by decide) ?_
          refine a_isub C dc_Un_readScanLayer_110 ?_
          refine c_callT (rest := []) (av := .ref (oa (S.2.2 u 0)) :: [.int 6, .int ((S.1 (S.2.2 u 0) 1) - 1)]) C dc_Un_readScanLayer_111 (ct_Re_fail (S.2.2 u 0) 6 ((S.1 (S.2.2 u 0) 1) - 1) S hfl hc17 hp) cd_C_Re_fail i_Re (Nat.le_of_ble_eq_true rfl) (by rw [hR]; exact Nat.le_of_ble_eq_true rfl) (by rw [hR]; exact Nat.le_of_ble_eq_true rfl) (by rw [hR]; exact Nat.le_of_ble_eq_true rfl) (by rw [hR]; exact Nat.le_of_ble_eq_true rfl) (inv_V C (S.2.2 u 0) dc_Un_readScanLayer_111 l_Un_74 im_C_Re_fail se_C_Re_fail cd_C_Re_fail ⟨by decide, by decide⟩ ln_C_Re_fail rfl rfl (cw_obj hc17 rfl) rfl rfl) (fun oc L1 hL => ?_)
          rcases hL with ⟨S111, hp, rfl, rfl⟩ | ⟨c9, a9, S9, hp, rfl, rfl⟩
          rotate_left
          · exact Or.inr ⟨a9, rfl, t_out C hQ hA (fun x hx => (hno x hx).elim) (Or.inr ⟨c9, a9, S9, hp, rfl, rfl⟩) (Nat.le_of_ble_eq_true rfl) (Nat.le_of_ble_eq_true rfl)⟩
          refine Or.inl ⟨_, rfl, ?_⟩
          refine aw_eq (lo' := _) (st' := []) (L' := (cw lt_C U oa S111)) rfl rfl rfl ?_
          refine aw_lo (lo' := [some (.ref (oa u)), none, none, some (.int x3), some (.int (S.1 (S.2.2 u 8) x3.toNatClampNeg)), none]) ⟨.inr rfl, .inl rfl, .inl rfl, .inr rfl, .inr rfl, .inr rfl, trivial⟩ ?_
          exact s_Un_readScanLayer_114 C hQ hA hR hno hfl hu x3 (S.1 (S.2.2 u 8) x3.toNatClampNeg) S111  hp
      · have hp := hp.2 hc
        refine aw_lo (lo' := [some (.ref (oa u)), some (.int x1), none, none, none, none]) ⟨.inr rfl, .inr rfl, .inl rfl, .inl rfl, .inl rfl, .inr rfl, trivial⟩ ?_
        exact s_Un_readScanLayer_59 C hQ hA hR hno hfl hu x1 S  hp
  · have hp := hp.2 hc
    refine a_aload_n C dc_Un_readScanLayer_25 rfl rfl ?_
    refine c_getR C u 7 dc_Un_readScanLayer_26 hu rfl rfl (Nat.le_of_ble_eq_true rfl) f_Un_47 rfl hp.1 ?_
    have hp := hp.2
    refine a_iload C dc_Un_readScanLayer_29 rfl ?_
    have hc18 := hp.1
    have hp := hp.2
    refine c_iald C (S.2.2 u 7) dc_Un_readScanLayer_31 hc18 hp.1 ?_
    have hp := hp.2
    refine a_iload_n C dc_Un_readScanLayer_32 rfl rfl ?_
    refine a_icmp_ne (tgt := 39) C dc_Un_readScanLayer_33 (by decide) ⟨fun hc => ?_, fun hc => ?_⟩
    · have hp := hp.1 hc
      refine aw_lo (lo' := [some (.ref (oa u)), some (.int x1), some (.int x2), some (.int x3), some (.int x4), none]) ⟨.inr rfl, .inr rfl, .inr rfl, .inr rfl, .inr rfl, .inr rfl, trivial⟩ ?_
      exact s_Un_readScanLayer_39 C hQ hA hR hno hfl hu x1 x2 x3 x4 S R13 hR13 hp
    · have hp := hp.2 hc
      refine a_iload C dc_Un_readScanLayer_36 rfl ?_
      refine a_istore_n (lo' := [some (.ref (oa u)), some (.int x1), some (.int x2), some (.int x4), some (.int x4), none]) C dc_Un_readScanLayer_38 rfl (by decide) rfl ?_
      refine aw_lo (lo' := [some (.ref (oa u)), some (.int x1), some (.int x2), some (.int x4), some (.int x4), none]) ⟨.inr rfl, .inr rfl, .inr rfl, .inr rfl, .inr rfl, .inr rfl, trivial⟩ ?_
      exact s_Un_readScanLayer_39 C hQ hA hR hno hfl hu x1 x2 x4 x4 S R13 hR13 hp
set_option maxRecDepth 100000 in
set_option maxHeartbeats 1000000 in
theorem se_Un_readScanLayer_13 (C : fcx gG D z A X R_Un c_C_Un_readScanLayer 6 (some .int)) (hQ : X.2.2.2.2.2.2.2.2.2.2 = eQ gG D z X.2.2.2.2.2.2.2.1 X.2.2.2.2.1 L0 0 0 (pC_i lt_C U oa K T)) (hA : A = owA gG L0 X.2.2.2.2.1.heap.size) (hR : X.2.2.2.1 = { frames := 11, cells := 1, slots := 6, locals := 1100 }) (hno : ∀ x ∈ X.2.2.2.2.2.2.2.2.2.1.exceptionTable.toList, False) (hfl : X.2.1.flags = pinnedFlags ++ [noTraceFlag]) (hu : c_cl U u = 11) (x1 : Int32) (x2 : Int32) (x3 : Int32) (x4 : Int32) (S : cs) (hp : e_Un_readScanLayer_13 U u x1 x2 x3 x4 S K T) : aw gG D z A X 6 13 [some (.ref (oa u)), some (.int x1), some (.int x2), some (.int x3), some (.int x4), none] [] (cw lt_C U oa S) 0 0 := by
  obtain ⟨I, μ, h0, hs⟩ := hp
  have key : ∀ (n : Nat) (yx1 : Int32) (yx2 : Int32) (yx3 : Int32) (yx4 : Int32) (yS : cs), μ yx1 yx2 yx3 yx4 yS < n → I yx1 yx2 yx3 yx4 yS → aw gG D z A X 6 13 [some (.ref (oa u)), some (.int yx1), some (.int yx2), some (.int yx3), some (.int yx4), none] [] (cw lt_C U oa yS) 0 0 := by
    intro n
    induction n with
    | zero => intro yx1 yx2 yx3 yx4 yS h; omega
    | succ n ih =>
      intro yx1 yx2 yx3 yx4 yS hn hI
      exact s_Un_readScanLayer_13 C hQ hA hR hno hfl hu yx1 yx2 yx3 yx4 yS _ (fun zx1 zx2 zx3 zx4 zS hw => ih zx1 zx2 zx3 zx4 zS (by omega) hw.1) (hs yx1 yx2 yx3 yx4 yS hI)
  exact key (μ x1 x2 x3 x4 S + 1) x1 x2 x3 x4 S (Nat.lt_succ_self _) h0
set_option maxRecDepth 100000 in
set_option maxHeartbeats 1000000 in
theorem s_Un_readScanLayer_0 (C : fcx gG D z A X R_Un c_C_Un_readScanLayer 6 (some .int)) (hQ : X.2.2.2.2.2.2.2.2.2.2 = eQ gG D z X.2.2.2.2.2.2.2.1 X.2.2.2.2.1 L0 0 0 (pC_i lt_C U oa K T)) (hA : A = owA gG L0 X.2.2.2.2.1.heap.size) (hR : X.2.2.2.1 = { frames := 11, cells := 1, slots := 6, locals := 1100 }) (hno : ∀ x ∈ X.2.2.2.2.2.2.2.2.2.1.exceptionTable.toList, False) (hfl : X.2.1.flags = pinnedFlags ++ [noTraceFlag]) (hu : c_cl U u = 11) (x1 : Int32) (S : cs) (hp : p_Un_readScanLayer U u x1 S K T) : aw gG D z A X 6 0 [some (.ref (oa u)), some (.int x1), none, none, none, none] [] (cw lt_C U oa S) 0 0 := by
  unfold p_Un_readScanLayer at hp
  refine a_aload_n C dc_Un_readScanLayer_0 rfl rfl ?_
  refine c_getR C u 0 dc_Un_readScanLayer_1 hu rfl rfl (Nat.le_of_ble_eq_true rfl) f_Un_12 rfl hp.1 ?_
  have hp := hp.2
  have hc19 := hp.1
  have hp := hp.2
  refine c_callT (rest := []) (av := .ref (oa (S.2.2 u 0)) :: []) C dc_Un_readScanLayer_4 (ct_Re_read (S.2.2 u 0) S hfl hc19 hp) cd_C_Re_read i_Re (Nat.le_of_ble_eq_true rfl) (by rw [hR]; exact Nat.le_of_ble_eq_true rfl) (by rw [hR]; exact Nat.le_of_ble_eq_true rfl) (by rw [hR]; exact Nat.le_of_ble_eq_true rfl) (by rw [hR]; exact Nat.le_of_ble_eq_true rfl) (inv_V C (S.2.2 u 0) dc_Un_readScanLayer_4 l_Un_138 im_C_Re_read se_C_Re_read cd_C_Re_read ⟨by decide, by decide⟩ ln_C_Re_read rfl rfl (cw_obj hc19 rfl) rfl rfl) (fun oc L1 hL => ?_)
  rcases hL with ⟨v4, S4, hp, rfl, rfl⟩ | ⟨c9, a9, S9, hp, rfl, rfl⟩
  rotate_left
  · exact Or.inr ⟨a9, rfl, t_out C hQ hA (fun x hx => (hno x hx).elim) (Or.inr ⟨c9, a9, S9, hp, rfl, rfl⟩) (Nat.le_of_ble_eq_true rfl) (Nat.le_of_ble_eq_true rfl)⟩
  refine Or.inl ⟨_, rfl, ?_⟩
  refine aw_eq (lo' := _) (st' := [.int v4]) (L' := (cw lt_C U oa S4)) rfl rfl rfl ?_
  refine a_istore_n (lo' := [some (.ref (oa u)), some (.int x1), some (.int v4), none, none, none]) C dc_Un_readScanLayer_7 rfl (by decide) rfl ?_
  refine a_iconst (v := (-1)) C dc_Un_readScanLayer_8 (by decide) ?_
  refine a_istore_n (lo' := [some (.ref (oa u)), some (.int x1), some (.int v4), some (.int (-1)), none, none]) C dc_Un_readScanLayer_9 rfl (by decide) rfl ?_
  refine a_iload_n C dc_Un_readScanLayer_10 rfl rfl ?_
  refine a_istore (lo' := [some (.ref (oa u)), some (.int x1), some (.int v4), some (.int (-1)), some (.int x1), none]) C dc_Un_readScanLayer_11 (by decide) rfl ?_
  refine aw_lo (lo' := [some (.ref (oa u)), some (.int x1), some (.int v4), some (.int (-1)), some (.int x1), none]) ⟨.inr rfl, .inr rfl, .inr rfl, .inr rfl, .inr rfl, .inr rfl, trivial⟩ ?_
  exact se_Un_readScanLayer_13 C hQ hA hR hno hfl hu x1 v4 (-1) x1 S4  hp
end C_Un_readScanLayer
section C_Un_readScanLayerc
variable {D : va_G} {z : Nat → ClassId} {U : ut} {oa : Nat → Nat}
set_option maxRecDepth 100000 in
theorem ct_Un_readScanLayer {l : Launch} (u : Nat) (x1 : Int32) (S : cs) {K : Int32 → cs → Prop} {T : Nat → cs → Prop} (hfl : l.flags = pinnedFlags ++ [noTraceFlag]) (hu : c_cl U u = 11) (hp : p_Un_readScanLayer U u x1 S K T) : ct gG D z l n_C_Un_readScanLayer c_C_Un_readScanLayer 6 (some .int) 11 1100 [.ref (oa u), .int x1] (cw lt_C U oa S) 0 0 (pC_i lt_C U oa K T) := by
  refine ct_of (lo := [some (.ref (oa u)), some (.int x1), none, none, none, none]) (by decide) g_ok (Nat.le_of_ble_eq_true rfl) rfl ?_
  intro X A hl C hR hQ hA hno
  exact s_Un_readScanLayer_0 C hQ hA hR hno (by rw [hl]; exact hfl) hu x1 S hp
end C_Un_readScanLayerc
def b_Un_readScan_130 (U : ut) (u : Nat)  (S : cs) (K : cs → Prop) (T : Nat → cs → Prop) : Prop :=
  ¬ S.2.2 u 2 = NU ∧ (¬ S.2.2 u 1 = NU ∧ (c_cl U (S.2.2 u 2) = 10 ∧ (p_Sc_arrange U (S.2.2 u 2) (S.2.2 u 1) S (fun S138 => K S138))))
def b_Un_readScan_56 (U : ut) (u : Nat) (x1 : Int32) (x2 : Int32) (x3 : Int32) (x4 : Int32) (S : cs) (R56 : Int32 → Int32 → Int32 → Int32 → cs → Prop) (K : cs → Prop) (T : Nat → cs → Prop) : Prop :=
  (x2 ≤ x4 → (p_Un_readWithin U u 0 0 S (fun v79 S79 => p_Un_readWithin U u 63 63 S79 (fun v88 S88 => p_Un_readWithin U u 0 0 S88 (fun v95 S95 => (x2 ≤ 1 → (b_Un_readScan_130 U u S95 K T)) ∧ (¬ (x2 ≤ 1) → (¬ S95.2.2 u 2 = NU ∧ (¬ S95.2.2 u 1 = NU ∧ (c_cl U (S95.2.2 u 2) = 10 ∧ (p_Sc_blocksTogether U (S95.2.2 u 2) (S95.2.2 u 1) S95 (fun v112 S112 => (v112 ≤ 10 → (b_Un_readScan_130 U u S112 K T)) ∧ (¬ (v112 ≤ 10) → (¬ S112.2.2 u 0 = NU ∧ (c_cl U (S112.2.2 u 0) = 8 ∧ (p_Re_fail U (S112.2.2 u 0) 6 x1 S112 (fun S127 => b_Un_readScan_130 U u S127 K T) T))))))))))) T) T) T)) ∧ (¬ (x2 ≤ x4) → (p_Un_readScanLayer U u x3 S (fun v64 S64 => R56 x1 x2 (v64 + 1) (x4 + 1) S64) T))
def e_Un_readScan_56 (U : ut) (u : Nat) (x1 : Int32) (x2 : Int32) (x3 : Int32) (x4 : Int32) (S : cs) (K : cs → Prop) (T : Nat → cs → Prop) : Prop :=
  ∃ (I : Int32 → Int32 → Int32 → Int32 → cs → Prop) (μ : Int32 → Int32 → Int32 → Int32 → cs → Nat), I x1 x2 x3 x4 S ∧ ∀ yx1 yx2 yx3 yx4 yS, I yx1 yx2 yx3 yx4 yS → b_Un_readScan_56 U u yx1 yx2 yx3 yx4 yS (fun zx1 zx2 zx3 zx4 zS => I zx1 zx2 zx3 zx4 zS ∧ μ zx1 zx2 zx3 zx4 zS < μ yx1 yx2 yx3 yx4 yS) K T
def b_Un_readScan_40 (U : ut) (u : Nat) (x1 : Int32) (x2 : Int32) (s1 : Int32) (S : cs) (K : cs → Prop) (T : Nat → cs → Prop) : Prop :=
  p_Un_wantLength U u s1 S (fun S40 => ¬ S40.2.2 u 2 = NU ∧ (c_cl U (S40.2.2 u 2) = 10 ∧ (e_Un_readScan_56 U u x1 x2 0 0 (va_up S40.1 (S40.2.2 u 2) (upd (S40.1 (S40.2.2 u 2)) 0 0), S40.2.1, S40.2.2) K T))) T
def p_Un_readScan (U : ut) (u : Nat)  (S : cs) (K : cs → Prop) (T : Nat → cs → Prop) : Prop :=
  ¬ S.2.2 u 0 = NU ∧ (c_cl U (S.2.2 u 0) = 8 ∧ (¬ S.2.2 u 1 = NU ∧ (c_cl U (S.2.2 u 1) = 7 ∧ (p_Un_readWithin U u 1 (S.1 (S.2.2 u 1) 2) S (fun v17 S17 => (¬ (S17.1 u 13) = (6 + (2 * v17)) → (b_Un_readScan_40 U u (S.1 (S.2.2 u 0) 1) v17 0 S17 K T)) ∧ ((S17.1 u 13) = (6 + (2 * v17)) → (b_Un_readScan_40 U u (S.1 (S.2.2 u 0) 1) v17 1 S17 K T))) T))))
section C_Un_readScan
variable {D : va_G} {z : Nat → ClassId} {A : Nat → Prop} {X : cx} {L0 : fw} {U : ut} {oa : Nat → Nat} {u : Nat} {K : cs → Prop} {T : Nat → cs → Prop}
set_option maxRecDepth 100000 in
set_option maxHeartbeats 1000000 in
theorem s_Un_readScan_130 (C : fcx gG D z A X R_Un c_C_Un_readScan 5 (none)) (hQ : X.2.2.2.2.2.2.2.2.2.2 = eQ gG D z X.2.2.2.2.2.2.2.1 X.2.2.2.2.1 L0 0 0 (pC_v lt_C U oa K T)) (hA : A = owA gG L0 X.2.2.2.2.1.heap.size) (hR : X.2.2.2.1 = { frames := 12, cells := 1, slots := 6, locals := 1200 }) (hno : ∀ x ∈ X.2.2.2.2.2.2.2.2.2.1.exceptionTable.toList, False) (hfl : X.2.1.flags = pinnedFlags ++ [noTraceFlag]) (hu : c_cl U u = 11)  (S : cs) (hp : b_Un_readScan_130 U u S K T) : aw gG D z A X 5 130 [some (.ref (oa u)), none, none, none, none] [] (cw lt_C U oa S) 0 0 := by
  unfold b_Un_readScan_130 at hp
  refine a_aload_n C dc_Un_readScan_130 rfl rfl ?_
  refine c_getR C u 2 dc_Un_readScan_131 hu rfl rfl (Nat.le_of_ble_eq_true rfl) f_Un_28 rfl hp.1 ?_
  have hp := hp.2
  refine a_aload_n C dc_Un_readScan_134 rfl rfl ?_
  refine c_getR C u 1 dc_Un_readScan_135 hu rfl rfl (Nat.le_of_ble_eq_true rfl) f_Un_21 rfl hp.1 ?_
  have hp := hp.2
  have hc1 := hp.1
  have hp := hp.2
  refine c_call (rest := []) (av := .ref (oa (S.2.2 u 2)) :: [.ref (oa (S.2.2 u 1))]) C dc_Un_readScan_138 (ct_Sc_arrange (S.2.2 u 2) (S.2.2 u 1) S hc1 hp) cd_C_Sc_arrange i_Sc (Nat.le_of_ble_eq_true rfl) (by rw [hR]; exact Nat.le_of_ble_eq_true rfl) (by rw [hR]; exact Nat.le_of_ble_eq_true rfl) (by rw [hR]; exact Nat.le_of_ble_eq_true rfl) (by rw [hR]; exact Nat.le_of_ble_eq_true rfl) (inv_V C (S.2.2 u 2) dc_Un_readScan_138 l_Un_197 im_C_Sc_arrange se_C_Sc_arrange cd_C_Sc_arrange ⟨by decide, by decide⟩ ln_C_Sc_arrange rfl rfl (cw_obj hc1 rfl) rfl rfl) (fun oc L1 hL => ?_)
  obtain ⟨S138, hp, rfl, rfl⟩ := hL.resolve_right pC_no
  refine ⟨_, rfl, ?_⟩
  refine aw_eq (lo' := _) (st' := []) (L' := (cw lt_C U oa S138)) rfl rfl rfl ?_
  exact a_vret C hQ hA dc_Un_readScan_141 rfl (Or.inl ⟨S138, hp, rfl, rfl⟩)
set_option maxRecDepth 100000 in
set_option maxHeartbeats 1000000 in
theorem s_Un_readScan_56 (C : fcx gG D z A X R_Un c_C_Un_readScan 5 (none)) (hQ : X.2.2.2.2.2.2.2.2.2.2 = eQ gG D z X.2.2.2.2.2.2.2.1 X.2.2.2.2.1 L0 0 0 (pC_v lt_C U oa K T)) (hA : A = owA gG L0 X.2.2.2.2.1.heap.size) (hR : X.2.2.2.1 = { frames := 12, cells := 1, slots := 6, locals := 1200 }) (hno : ∀ x ∈ X.2.2.2.2.2.2.2.2.2.1.exceptionTable.toList, False) (hfl : X.2.1.flags = pinnedFlags ++ [noTraceFlag]) (hu : c_cl U u = 11) (x1 : Int32) (x2 : Int32) (x3 : Int32) (x4 : Int32) (S : cs) (R56 : Int32 → Int32 → Int32 → Int32 → cs → Prop) (hR56 : ∀ yx1 yx2 yx3 yx4 yS, R56 yx1 yx2 yx3 yx4 yS → aw gG D z A X 5 56 [some (.ref (oa u)), some (.int yx1), some (.int yx2), some (.int yx3), some (.int yx4)] [] (cw lt_C U oa yS) 0 0) (hp : b_Un_readScan_56 U u x1 x2 x3 x4 S R56 K T) : aw gG D z A X 5 56 [some (.ref (oa u)), some (.int x1), some (.int x2), some (.int x3), some (.int x4)] [] (cw lt_C U oa S) 0 0 := by
  unfold b_Un_readScan_56 at hp
  refine a_iload C dc_Un_readScan_56 rfl ?_
  refine a_iload_n C dc_Un_readScan_58 rfl rfl ?_
  refine a_icmp_ge (tgt := 76) C dc_Un_readScan_59 (by decide) ⟨fun hc => ?_, fun hc => ?_⟩
  · have hp := hp.1 hc
    refine a_aload_n C dc_Un_readScan_76 rfl rfl ?_
    refine a_iconst (v := 0) C dc_Un_readScan_77 (by decide) ?_
    refine a_iconst (v := 0) C dc_Un_readScan_78 (by decide) ?_
    refine c_callT (rest := []) (av := .ref (oa u) :: [.int 0, .int 0]) C dc_Un_readScan_79 (ct_Un_readWithin u 0 0 S hfl hu hp) cd_C_Un_readWithin i_Un (Nat.le_of_ble_eq_true rfl) (by rw [hR]; exact Nat.le_of_ble_eq_true rfl) (by rw [hR]; exact Nat.le_of_ble_eq_true rfl) (by rw [hR]; exact Nat.le_of_ble_eq_true rfl) (by rw [hR]; exact Nat.le_of_ble_eq_true rfl) (inv_V C u dc_Un_readScan_79 l_Un_151 im_C_Un_readWithin se_C_Un_readWithin cd_C_Un_readWithin ⟨by decide, by decide⟩ ln_C_Un_readWithin rfl rfl (cw_obj hu rfl) rfl rfl) (fun oc L1 hL => ?_)
    rcases hL with ⟨v79, S79, hp, rfl, rfl⟩ | ⟨c9, a9, S9, hp, rfl, rfl⟩
    rotate_left
    · exact Or.inr ⟨a9, rfl, t_out C hQ hA (fun x hx => (hno x hx).elim) (Or.inr ⟨c9, a9, S9, hp, rfl, rfl⟩) (Nat.le_of_ble_eq_true rfl) (Nat.le_of_ble_eq_true rfl)⟩
    refine Or.inl ⟨_, rfl, ?_⟩
    refine aw_eq (lo' := _) (st' := [.int v79]) (L' := (cw lt_C U oa S79)) rfl rfl rfl ?_
    refine a_pop C dc_Un_readScan_82 rfl ?_
    refine a_aload_n C dc_Un_readScan_83 rfl rfl ?_
    refine a_bipush (v := 63) C dc_Un_readScan_84 (by decide) ?_
    refine a_bipush (v := 63) C dc_Un_readScan_86 (by decide) ?_
    refine c_callT (rest := []) (av := .ref (oa u) :: [.int 63, .int 63]) C dc_Un_readScan_88 (ct_Un_readWithin u 63 63 S79 hfl hu hp) cd_C_Un_readWithin i_Un (Nat.le_of_ble_eq_true rfl) (by rw [hR]; exact Nat.le_of_ble_eq_true rfl) (by rw [hR]; exact Nat.le_of_ble_eq_true rfl) (by rw [hR]; exact Nat.le_of_ble_eq_true rfl) (by rw [hR]; exact Nat.le_of_ble_eq_true rfl) (inv_V C u dc_Un_readScan_88 l_Un_151 im_C_Un_readWithin se_C_Un_readWithin cd_C_Un_readWithin ⟨by decide, by decide⟩ ln_C_Un_readWithin rfl rfl (cw_obj hu rfl) rfl rfl) (fun oc L1 hL => ?_)
    rcases hL with ⟨v88, S88, hp, rfl, rfl⟩ | ⟨c9, a9, S9, hp, rfl, rfl⟩
    rotate_left
    · exact Or.inr ⟨a9, rfl, t_out C hQ hA (fun x hx => (hno x hx).elim) (Or.inr ⟨c9, a9, S9, hp, rfl, rfl⟩) (Nat.le_of_ble_eq_true rfl) (Nat.le_of_ble_eq_true rfl)⟩
    refine Or.inl ⟨_, rfl, ?_⟩
    refine aw_eq (lo' := _) (st' := [.int v88]) (L' := (cw lt_C U oa S88)) rfl rfl rfl ?_
    refine a_pop C dc_Un_readScan_91 rfl ?_
    refine a_aload_n C dc_Un_readScan_92 rfl rfl ?_
    refine a_iconst (v := 0) C dc_Un_readScan_93 (by decide) ?_
    refine a_iconst (v := 0) C dc_Un_readScan_94 (by decide) ?_
    refine c_callT (rest := []) (av := .ref (oa u) :: [.int 0, .int 0]) C dc_Un_readScan_95 (ct_Un_readWithin u 0 0 S88 hfl hu hp) cd_C_Un_readWithin i_Un (Nat.le_of_ble_eq_true rfl) (by rw [hR]; exact Nat.le_of_ble_eq_true rfl) (by rw [hR]; exact Nat.le_of_ble_eq_true rfl) (by rw [hR]; exact Nat.le_of_ble_eq_true rfl) (by rw [hR]; exact Nat.le_of_ble_eq_true rfl) (inv_V C u dc_Un_readScan_95 l_Un_151 im_C_Un_readWithin se_C_Un_readWithin cd_C_Un_readWithin ⟨by decide, by decide⟩ ln_C_Un_readWithin rfl rfl (cw_obj hu rfl) rfl rfl) (fun oc L1 hL => ?_)
    rcases hL with ⟨v95, S95, hp, rfl, rfl⟩ | ⟨c9, a9, S9, hp, rfl, rfl⟩
    rotate_left
    · exact Or.inr ⟨a9, rfl, t_out C hQ hA (fun x hx => (hno x hx).elim) (Or.inr ⟨c9, a9, S9, hp, rfl, rfl⟩) (Nat.le_of_ble_eq_true rfl) (Nat.le_of_ble_eq_true rfl)⟩
    refine Or.inl ⟨_, rfl, ?_⟩
    refine aw_eq (lo' := _) (st' := [.int v95]) (L' := (cw lt_C U oa S95)) rfl rfl rfl ?_
    refine a_pop C dc_Un_readScan_98 rfl ?_
    refine a_iload_n C dc_Un_readScan_99 rfl rfl ?_
    refine a_iconst (v := 1) C dc_Un_readScan_100 (by decide) ?_
    refine a_icmp_le (tgt := 130) C dc_Un_readScan_101 (by decide) ⟨fun hc => ?_, fun hc => ?_⟩
    · have hp := hp.1 hc
      refine aw_lo (lo' := [some (.ref (oa u)), none, none, none, none]) ⟨.inr rfl, .inl rfl, .inl rfl, .inl rfl, .inl rfl, trivial⟩ ?_
      exact s_Un_readScan_130 C hQ hA hR hno hfl hu S95  hp
    · have hp := hp.2 hc
      refine a_aload_n C dc_Un_readScan_104 rfl rfl ?_
      refine c_getR C u 2 dc_Un_readScan_105 hu rfl rfl (Nat.le_of_ble_eq_true rfl) f_Un_28 rfl hp.1 ?_
      have hp := hp.2
      refine a_aload_n C dc_Un_readScan_108 rfl rfl ?_
      refine c_getR C u 1 dc_Un_readScan_109 hu rfl rfl (Nat.le_of_ble_eq_true rfl) f_Un_21 rfl hp.1 ?_
      have hp := hp.2
      have hc2 := hp.1
      have hp := hp.2
      refine c_call (rest := []) (av := .ref (oa (S95.2.2 u 2)) :: [.ref (oa (S95.2.2 u 1))]) C dc_Un_readScan_112 (ct_Sc_blocksTogether (S95.2.2 u 2) (S95.2.2 u 1) S95 hc2 hp) cd_C_Sc_blocksTogether i_Sc (Nat.le_of_ble_eq_true rfl) (by rw [hR]; exact Nat.le_of_ble_eq_true rfl) (by rw [hR]; exact Nat.le_of_ble_eq_true rfl) (by rw [hR]; exact Nat.le_of_ble_eq_true rfl) (by rw [hR]; exact Nat.le_of_ble_eq_true rfl) (inv_V C (S95.2.2 u 2) dc_Un_readScan_112 l_Un_193 im_C_Sc_blocksTogether se_C_Sc_blocksTogether cd_C_Sc_blocksTogether ⟨by decide, by decide⟩ ln_C_Sc_blocksTogether rfl rfl (cw_obj hc2 rfl) rfl rfl) (fun oc L1 hL => ?_)
      obtain ⟨v112, S112, hp, rfl, rfl⟩ := hL.resolve_right pC_no
      refine ⟨_, rfl, ?_⟩
      refine aw_eq (lo' := _) (st' := [.int v112]) (L' := (cw lt_C U oa S112)) rfl rfl rfl ?_
      refine a_bipush (v := 10) C dc_Un_readScan_115 (by decide) ?_
      refine a_icmp_le (tgt := 130) C dc_Un_readScan_117 (by decide) ⟨fun hc => ?_, fun hc => ?_⟩
      · have hp := hp.1 hc
        refine aw_lo (lo' := [some (.ref (oa u)), none, none, none, none]) ⟨.inr rfl, .inl rfl, .inl rfl, .inl rfl, .inl rfl, trivial⟩ ?_
        exact s_Un_readScan_130 C hQ hA hR hno hfl hu S112  hp
      · have hp := hp.2 hc
        refine a_aload_n C dc_Un_readScan_120 rfl rfl ?_
        refine c_getR C u 0 dc_Un_readScan_121 hu rfl rfl (Nat.le_of_ble_eq_true rfl) f_Un_12 rfl hp.1 ?_
        have hp := hp.2
        refine a_bipush (v := 6) C dc_Un_readScan_124 (by decide) ?_
        refine a_iload_n C dc_Un_readScan_126 rfl rfl ?_
        have hc3 := hp.1
        have hp := hp.2
        refine c_callT (rest := []) (av := .ref (oa (S112.2.2 u 0)) :: [.int 6, .int x1]) C dc_Un_readScan_127 (ct_Re_fail (S112.2.2 u 0) 6 x1 S112 hfl hc3 hp) cd_C_Re_fail i_Re (Nat.le_of_ble_eq_true rfl) (by rw [hR]; exact Nat.le_of_ble_eq_true rfl) (by rw [hR]; exact Nat.le_of_ble_eq_true rfl) (by rw [hR]; exact Nat.le_of_ble_eq_true rfl) (by rw [hR]; exact Nat.le_of_ble_eq_true rfl) (inv_V C (S112.2.2 u 0) dc_Un_readScan_127 l_Un_74 im_C_Re_fail se_C_Re_fail cd_C_Re_fail ⟨by decide, by decide⟩ ln_C_Re_fail rfl rfl (cw_obj hc3 rfl) rfl rfl) (fun oc L1 hL => ?_)
        rcases hL with ⟨S127, hp, rfl, rfl⟩ | ⟨c9, a9, S9, hp, rfl, rfl⟩
        rotate_left
        · exact Or.inr ⟨a9, rfl, t_out C hQ hA (fun x hx => (hno x hx).elim) (Or.inr ⟨c9, a9, S9, hp, rfl, rfl⟩) (Nat.le_of_ble_eq_true rfl) (Nat.le_of_ble_eq_true rfl)⟩
        refine Or.inl ⟨_, rfl, ?_⟩
        refine aw_eq (lo' := _) (st' := []) (L' := (cw lt_C U oa S127)) rfl rfl rfl ?_
        refine aw_lo (lo' := [some (.ref (oa u)), none, none, none, none]) ⟨.inr rfl, .inl rfl, .inl rfl, .inl rfl, .inl rfl, trivial⟩ ?_
        exact s_Un_readScan_130 C hQ hA hR hno hfl hu S127  hp
  · have hp := hp.2 hc
    refine a_aload_n C dc_Un_readScan_62 rfl rfl ?_
    refine a_iload_n C dc_Un_readScan_63 rfl rfl ?_
    refine c_callT (rest := []) (av := .ref (oa u) :: [.int x3]) C dc_Un_readScan_64 (ct_Un_readScanLayer u x3 S hfl hu hp) cd_C_Un_readScanLayer i_Un (Nat.le_of_ble_eq_true rfl) (by rw [hR]; exact Nat.le_of_ble_eq_true rfl) (by rw [hR]; exact Nat.le_of_ble_eq_true rfl) (by rw [hR]; exact Nat.le_of_ble_eq_true rfl) (by rw [hR]; exact Nat.le_of_ble_eq_true rfl) (inv_V C u dc_Un_readScan_64 l_Un_189 im_C_Un_readScanLayer se_C_Un_readScanLayer cd_C_Un_readScanLayer ⟨by decide, by decide⟩ ln_C_Un_readScanLayer rfl rfl (cw_obj hu rfl) rfl rfl) (fun oc L1 hL => ?_)
    rcases hL with ⟨v64, S64, hp, rfl, rfl⟩ | ⟨c9, a9, S9, hp, rfl, rfl⟩
    rotate_left
    · exact Or.inr ⟨a9, rfl, t_out C hQ hA (fun x hx => (hno x hx).elim) (Or.inr ⟨c9, a9, S9, hp, rfl, rfl⟩) (Nat.le_of_ble_eq_true rfl) (Nat.le_of_ble_eq_true rfl)⟩
    refine Or.inl ⟨_, rfl, ?_⟩
    refine aw_eq (lo' := _) (st' := [.int v64]) (L' := (cw lt_C U oa S64)) rfl rfl rfl ?_
    refine a_iconst (v := 1) C dc_Un_readScan_67 (by decide) ?_
    refine a_iadd C dc_Un_readScan_68 ?_
    refine a_istore_n (lo' := [some (.ref (oa u)), some (.int x1), some (.int x2), some (.int (v64 + 1)), some (.int x4)]) C dc_Un_readScan_69 rfl (by decide) rfl ?_
    refine a_iinc (v := x4 + 1) (lo' := [some (.ref (oa u)), some (.int x1), some (.int x2), some (.int (v64 + 1)), some (.int (x4 + 1))]) C dc_Un_readScan_70 rfl rfl (by decide) rfl ?_
    refine a_goto (tgt := 56) C dc_Un_readScan_73 (by decide) ?_
    refine aw_lo (lo' := [some (.ref (oa u)), some (.int x1), some (.int x2), some (.int (v64 + 1)), some (.int (x4 + 1))]) ⟨.inr rfl, .inr rfl, .inr rfl, .inr rfl, .inr rfl, trivial⟩ ?_
    exact hR56 x1 x2 (v64 + 1) (x4 + 1) S64 hp
set_option maxRecDepth 100000 in
set_option maxHeartbeats 1000000 in
theorem se_Un_readScan_56 (C : fcx gG D z A X R_Un c_C_Un_readScan 5 (none)) (hQ : X.2.2.2.2.2.2.2.2.2.2 = eQ gG D z X.2.2.2.2.2.2.2.1 X.2.2.2.2.1 L0 0 0 (pC_v lt_C U oa K T)) (hA : A = owA gG L0 X.2.2.2.2.1.heap.size) (hR : X.2.2.2.1 = { frames := 12, cells := 1, slots := 6, locals := 1200 }) (hno : ∀ x ∈ X.2.2.2.2.2.2.2.2.2.1.exceptionTable.toList, False) (hfl : X.2.1.flags = pinnedFlags ++ [noTraceFlag]) (hu : c_cl U u = 11) (x1 : Int32) (x2 : Int32) (x3 : Int32) (x4 : Int32) (S : cs) (hp : e_Un_readScan_56 U u x1 x2 x3 x4 S K T) : aw gG D z A X 5 56 [some (.ref (oa u)), some (.int x1), some (.int x2), some (.int x3), some (.int x4)] [] (cw lt_C U oa S) 0 0 := by
  obtain ⟨I, μ, h0, hs⟩ := hp
  have key : ∀ (n : Nat) (yx1 : Int32) (yx2 : Int32) (yx3 : Int32) (yx4 : Int32) (yS : cs), μ yx1 yx2 yx3 yx4 yS < n → I yx1 yx2 yx3 yx4 yS → aw gG D z A X 5 56 [some (.ref (oa u)), some (.int yx1), some (.int yx2), some (.int yx3), some (.int yx4)] [] (cw lt_C U oa yS) 0 0 := by
    intro n
    induction n with
    | zero => intro yx1 yx2 yx3 yx4 yS h; omega
    | succ n ih =>
      intro yx1 yx2 yx3 yx4 yS hn hI
      exact s_Un_readScan_56 C hQ hA hR hno hfl hu yx1 yx2 yx3 yx4 yS _ (fun zx1 zx2 zx3 zx4 zS hw => ih zx1 zx2 zx3 zx4 zS (by omega) hw.1) (hs yx1 yx2 yx3 yx4 yS hI)
  exact key (μ x1 x2 x3 x4 S + 1) x1 x2 x3 x4 S (Nat.lt_succ_self _) h0
set_option maxRecDepth 100000 in
set_option maxHeartbeats 1000000 in
theorem s_Un_readScan_40 (C : fcx gG D z A X R_Un c_C_Un_readScan 5 (none)) (hQ : X.2.2.2.2.2.2.2.2.2.2 = eQ gG D z X.2.2.2.2.2.2.2.1 X.2.2.2.2.1 L0 0 0 (pC_v lt_C U oa K T)) (hA : A = owA gG L0 X.2.2.2.2.1.heap.size) (hR : X.2.2.2.1 = { frames := 12, cells := 1, slots := 6, locals := 1200 }) (hno : ∀ x ∈ X.2.2.2.2.2.2.2.2.2.1.exceptionTable.toList, False) (hfl : X.2.1.flags = pinnedFlags ++ [noTraceFlag]) (hu : c_cl U u = 11) (x1 : Int32) (x2 : Int32) (s1 : Int32) (S : cs) (hp : b_Un_readScan_40 U u x1 x2 s1 S K T) : aw gG D z A X 5 40 [some (.ref (oa u)), some (.int x1), some (.int x2), none, none] [.int s1, .ref (oa u)] (cw lt_C U oa S) 0 0 := by
  unfold b_Un_readScan_40 at hp
  refine c_callT (rest := []) (av := .ref (oa u) :: [.int s1]) C dc_Un_readScan_40 (ct_Un_wantLength u s1 S hfl hu hp) cd_C_Un_wantLength i_Un (Nat.le_of_ble_eq_true rfl) (by rw [hR]; exact Nat.le_of_ble_eq_true rfl) (by rw [hR]; exact Nat.le_of_ble_eq_true rfl) (by rw [hR]; exact Nat.le_of_ble_eq_true rfl) (by rw [hR]; exact Nat.le_of_ble_eq_true rfl) (inv_V C u dc_Un_readScan_40 l_Un_128 im_C_Un_wantLength se_C_Un_wantLength cd_C_Un_wantLength ⟨by decide, by decide⟩ ln_C_Un_wantLength rfl rfl (cw_obj hu rfl) rfl rfl) (fun oc L1 hL => ?_)
  rcases hL with ⟨S40, hp, rfl, rfl⟩ | ⟨c9, a9, S9, hp, rfl, rfl⟩
  rotate_left
  · exact Or.inr ⟨a9, rfl, t_out C hQ hA (fun x hx => (hno x hx).elim) (Or.inr ⟨c9, a9, S9, hp, rfl, rfl⟩) (Nat.le_of_ble_eq_true rfl) (Nat.le_of_ble_eq_true rfl)⟩
  refine Or.inl ⟨_, rfl, ?_⟩
  refine aw_eq (lo' := _) (st' := []) (L' := (cw lt_C U oa S40)) rfl rfl rfl ?_
  refine a_aload_n C dc_Un_readScan_43 rfl rfl ?_
  refine c_getR C u 2 dc_Un_readScan_44 hu rfl rfl (Nat.le_of_ble_eq_true rfl) f_Un_28 rfl hp.1 ?_
  have hp := hp.2
  refine a_iconst (v := 0) C dc_Un_readScan_47 (by decide) ?_
  have hc4 := hp.1
  have hp := hp.2
  refine c_putIN (ty := .int) C (S40.2.2 u 2) 0 dc_Un_readScan_48 hc4 rfl rfl (Nat.le_of_ble_eq_true rfl) f_Un_188 (Nat.le_of_ble_eq_true rfl) rfl rfl rfl rfl ?_
  refine aw_eq (lo' := _) (st' := _) (L' := (cw lt_C U oa (va_up S40.1 (S40.2.2 u 2) (upd (S40.1 (S40.2.2 u 2)) 0 0), S40.2.1, S40.2.2))) rfl rfl rfl ?_
  refine a_iconst (v := 0) C dc_Un_readScan_51 (by decide) ?_
  refine a_istore_n (lo' := [some (.ref (oa u)), some (.int x1), some (.int x2), some (.int 0), none]) C dc_Un_readScan_52 rfl (by decide) rfl ?_
  refine a_iconst (v := 0) C dc_Un_readScan_53 (by decide) ?_
  refine a_istore (lo' := [some (.ref (oa u)), some (.int x1), some (.int x2), some (.int 0), some (.int 0)]) C dc_Un_readScan_54 (by decide) rfl ?_
  refine aw_lo (lo' := [some (.ref (oa u)), some (.int x1), some (.int x2), some (.int 0), some (.int 0)]) ⟨.inr rfl, .inr rfl, .inr rfl, .inr rfl, .inr rfl, trivial⟩ ?_
  exact se_Un_readScan_56 C hQ hA hR hno hfl hu x1 x2 0 0 (va_up S40.1 (S40.2.2 u 2) (upd (S40.1 (S40.2.2 u 2)) 0 0), S40.2.1, S40.2.2)  hp
set_option maxRecDepth 100000 in
set_option maxHeartbeats 1000000 in
theorem s_Un_readScan_0 (C : fcx gG D z A X R_Un c_C_Un_readScan 5 (none)) (hQ : X.2.2.2.2.2.2.2.2.2.2 = eQ gG D z X.2.2.2.2.2.2.2.1 X.2.2.2.2.1 L0 0 0 (pC_v lt_C U oa K T)) (hA : A = owA gG L0 X.2.2.2.2.1.heap.size) (hR : X.2.2.2.1 = { frames := 12, cells := 1, slots := 6, locals := 1200 }) (hno : ∀ x ∈ X.2.2.2.2.2.2.2.2.2.1.exceptionTable.toList, False) (hfl : X.2.1.flags = pinnedFlags ++ [noTraceFlag]) (hu : c_cl U u = 11)  (S : cs) (hp : p_Un_readScan U u S K T) : aw gG D z A X 5 0 [some (.ref (oa u)), none, none, none, none] [] (cw lt_C U oa S) 0 0 := by
  unfold p_Un_readScan at hp
  refine a_aload_n C dc_Un_readScan_0 rfl rfl ?_
  refine c_getR C u 0 dc_Un_readScan_1 hu rfl rfl (Nat.le_of_ble_eq_true rfl) f_Un_12 rfl hp.1 ?_
  have hp := hp.2
  have hc5 := hp.1
  have hp := hp.2
  refine c_getIN C (S.2.2 u 0) 1 dc_Un_readScan_4 hc5 rfl rfl (Nat.le_of_ble_eq_true rfl) f_Un_70 (Nat.le_of_ble_eq_true rfl) ?_
  refine a_istore_n (lo' := [some (.ref (oa u)), some (.int (S.1 (S.2.2 u 0) 1)), none, none, none]) C dc_Un_readScan_7 rfl (by decide) rfl ?_
  refine a_aload_n C dc_Un_readScan_8 rfl rfl ?_
  refine a_iconst (v := 1) C dc_Un_readScan_9 (by decide) ?_
  refine a_aload_n C dc_Un_readScan_10 rfl rfl ?_
  refine c_getR C u 1 dc_Un_readScan_11 hu rfl rfl (Nat.le_of_ble_eq_true rfl) f_Un_21 rfl hp.1 ?_
  have hp := hp.2
  have hc6 := hp.1
  have hp := hp.2
  refine c_getIN C (S.2.2 u 1) 2 dc_Un_readScan_14 hc6 rfl rfl (Nat.le_of_ble_eq_true rfl) f_Un_110 (Nat.le_of_ble_eq_true rfl) ?_
  refine c_callT (rest := []) (av := .ref (oa u) :: [.int 1, .int (S.1 (S.2.2 u 1) 2)]) C dc_Un_readScan_17 (ct_Un_readWithin u 1 (S.1 (S.2.2 u 1) 2) S hfl hu hp) cd_C_Un_readWithin i_Un (Nat.le_of_ble_eq_true rfl) (by rw [hR]; exact Nat.le_of_ble_eq_true rfl) (by rw [hR]; exact Nat.le_of_ble_eq_true rfl) (by rw [hR]; exact Nat.le_of_ble_eq_true rfl) (by rw [hR]; exact Nat.le_of_ble_eq_true rfl) (inv_V C u dc_Un_readScan_17 l_Un_151 im_C_Un_readWithin se_C_Un_readWithin cd_C_Un_readWithin ⟨by decide, by decide⟩ ln_C_Un_readWithin rfl rfl (cw_obj hu rfl) rfl rfl) (fun oc L1 hL => ?_)
  rcases hL with ⟨v17, S17, hp, rfl, rfl⟩ | ⟨c9, a9, S9, hp, rfl, rfl⟩
  rotate_left
  · exact Or.inr ⟨a9, rfl, t_out C hQ hA (fun x hx => (hno x hx).elim) (Or.inr ⟨c9, a9, S9, hp, rfl, rfl⟩) (Nat.le_of_ble_eq_true rfl) (Nat.le_of_ble_eq_true rfl)⟩
  refine Or.inl ⟨_, rfl, ?_⟩
  refine aw_eq (lo' := _) (st' := [.int v17]) (L' := (cw lt_C U oa S17)) rfl rfl rfl ?_
  refine a_istore_n (lo' := [some (.ref (oa u)), some (.int (S.1 (S.2.2 u 0) 1)), some (.int v17), none, none]) C dc_Un_readScan_20 rfl (by decide) rfl ?_
  refine a_aload_n C dc_Un_readScan_21 rfl rfl ?_
  refine a_aload_n C dc_Un_readScan_22 rfl rfl ?_
  refine c_getI C u 13 dc_Un_readScan_23 hu rfl rfl (Nat.le_of_ble_eq_true rfl) f_Un_119 (Nat.le_of_ble_eq_true rfl) ?_
  refine a_bipush (v := 6) C dc_Un_readScan_26 (by decide) ?_
  refine a_iconst (v := 2) C dc_Un_readScan_28 (by decide) ?_
  refine a_iload_n C dc_Un_readScan_29 rfl rfl ?_
  refine a_imul C dc_Un_readScan_30 ?_
  refine a_iadd C dc_Un_readScan_31 ?_
  refine a_icmp_ne (tgt := 39) C dc_Un_readScan_32 (by decide) ⟨fun hc => ?_, fun hc => ?_⟩
  · have hp := hp.1 hc
    refine a_iconst (v := 0) C dc_Un_readScan_39 (by decide) ?_
    refine aw_lo (lo' := [some (.ref (oa u)), some (.int (S.1 (S.2.2 u 0) 1)), some (.int v17), none, none]) ⟨.inr rfl, .inr rfl, .inr rfl, .inr rfl, .inr rfl, trivial⟩ ?_
    exact s_Un_readScan_40 C hQ hA hR hno hfl hu (S.1 (S.2.2 u 0) 1) v17 0 S17  hp
  · have hp := hp.2 hc
    refine a_iconst (v := 1) C dc_Un_readScan_35 (by decide) ?_
    refine a_goto (tgt := 40) C dc_Un_readScan_36 (by decide) ?_
    refine aw_lo (lo' := [some (.ref (oa u)), some (.int (S.1 (S.2.2 u 0) 1)), some (.int v17), none, none]) ⟨.inr rfl, .inr rfl, .inr rfl, .inr rfl, .inr rfl, trivial⟩ ?_
    exact s_Un_readScan_40 C hQ hA hR hno hfl hu (S.1 (S.2.2 u 0) 1) v17 1 S17  hp
end C_Un_readScan
section C_Un_readScanc
variable {D : va_G} {z : Nat → ClassId} {U : ut} {oa : Nat → Nat}
set_option maxRecDepth 100000 in
theorem ct_Un_readScan {l : Launch} (u : Nat)  (S : cs) {K : cs → Prop} {T : Nat → cs → Prop} (hfl : l.flags = pinnedFlags ++ [noTraceFlag]) (hu : c_cl U u = 11) (hp : p_Un_readScan U u S K T) : ct gG D z l n_C_Un_readScan c_C_Un_readScan 5 (none) 12 1200 [.ref (oa u)] (cw lt_C U oa S) 0 0 (pC_v lt_C U oa K T) := by
  refine ct_of (lo := [some (.ref (oa u)), none, none, none, none]) (by decide) g_ok (Nat.le_of_ble_eq_true rfl) rfl ?_
  intro X A hl C hR hQ hA hno
  exact s_Un_readScan_0 C hQ hA hR hno (by rw [hl]; exact hfl) hu S hp
end C_Un_readScanc
def b_Un_wantMore_31 (U : ut) (u : Nat)  (S : cs) (K : cs → Prop) (T : Nat → cs → Prop) : Prop :=
  K S
def p_Un_wantMore (U : ut) (u : Nat)  (S : cs) (K : cs → Prop) (T : Nat → cs → Prop) : Prop :=
  ¬ S.2.2 u 0 = NU ∧ (c_cl U (S.2.2 u 0) = 8 ∧ (((S.1 (S.2.2 u 0) 1) < ((S.1 u 12) + (S.1 u 13)) → (b_Un_wantMore_31 U u S K T)) ∧ (¬ ((S.1 (S.2.2 u 0) 1) < ((S.1 u 12) + (S.1 u 13))) → (¬ S.2.2 u 0 = NU ∧ (p_Re_fail U (S.2.2 u 0) 4 (S.1 u 12) S (fun S28 => b_Un_wantMore_31 U u S28 K T) T)))))
section C_Un_wantMore
variable {D : va_G} {z : Nat → ClassId} {A : Nat → Prop} {X : cx} {L0 : fw} {U : ut} {oa : Nat → Nat} {u : Nat} {K : cs → Prop} {T : Nat → cs → Prop}
set_option maxRecDepth 100000 in
set_option maxHeartbeats 1000000 in
theorem s_Un_wantMore_31 (C : fcx gG D z A X R_Un c_C_Un_wantMore 1 (none)) (hQ : X.2.2.2.2.2.2.2.2.2.2 = eQ gG D z X.2.2.2.2.2.2.2.1 X.2.2.2.2.1 L0 0 0 (pC_v lt_C U oa K T)) (hA : A = owA gG L0 X.2.2.2.2.1.heap.size) (hR : X.2.2.2.1 = { frames := 10, cells := 1, slots := 6, locals := 1000 }) (hno : ∀ x ∈ X.2.2.2.2.2.2.2.2.2.1.exceptionTable.toList, False) (hfl : X.2.1.flags = pinnedFlags ++ [noTraceFlag]) (hu : c_cl U u = 11)  (S : cs) (hp : b_Un_wantMore_31 U u S K T) : aw gG D z A X 1 31 [some (.ref (oa u))] [] (cw lt_C U oa S) 0 0 := by
  unfold b_Un_wantMore_31 at hp
  exact a_vret C hQ hA dc_Un_wantMore_31 rfl (Or.inl ⟨S, hp, rfl, rfl⟩)
set_option maxRecDepth 100000 in
set_option maxHeartbeats 1000000 in
theorem s_Un_wantMore_0 (C : fcx gG D z A X R_Un c_C_Un_wantMore 1 (none)) (hQ : X.2.2.2.2.2.2.2.2.2.2 = eQ gG D z X.2.2.2.2.2.2.2.1 X.2.2.2.2.1 L0 0 0 (pC_v lt_C U oa K T)) (hA : A = owA gG L0 X.2.2.2.2.1.heap.size) (hR : X.2.2.2.1 = { frames := 10, cells := 1, slots := 6, locals := 1000 }) (hno : ∀ x ∈ X.2.2.2.2.2.2.2.2.2.1.exceptionTable.toList, False) (hfl : X.2.1.flags = pinnedFlags ++ [noTraceFlag]) (hu : c_cl U u = 11)  (S : cs) (hp : p_Un_wantMore U u S K T) : aw gG D z A X 1 0 [some (.ref (oa u))] [] (cw lt_C U oa S) 0 0 := by
  unfold p_Un_wantMore at hp
  refine a_aload_n C dc_Un_wantMore_0 rfl rfl ?_
  refine c_getR C u 0 dc_Un_wantMore_1 hu rfl rfl (Nat.le_of_ble_eq_true rfl) f_Un_12 rfl hp.1 ?_
  have hp := hp.2
  have hc1 := hp.1
  have hp := hp.2
  refine c_getIN C (S.2.2 u 0) 1 dc_Un_wantMore_4 hc1 rfl rfl (Nat.le_of_ble_eq_true rfl) f_Un_70 (Nat.le_of_ble_eq_true rfl) ?_
  refine a_aload_n C dc_Un_wantMore_7 rfl rfl ?_
  refine c_getI C u 12 dc_Un_wantMore_8 hu rfl rfl (Nat.le_of_ble_eq_true rfl) f_Un_113 (Nat.le_of_ble_eq_true rfl) ?_
  refine a_aload_n C dc_Un_wantMore_11 rfl rfl ?_
  refine c_getI C u 13 dc_Un_wantMore_12 hu rfl rfl (Nat.le_of_ble_eq_true rfl) f_Un_119 (Nat.le_of_ble_eq_true rfl) ?_
  refine a_iadd C dc_Un_wantMore_15 ?_
  refine a_icmp_lt (tgt := 31) C dc_Un_wantMore_16 (by decide) ⟨fun hc => ?_, fun hc => ?_⟩
  · have hp := hp.1 hc
    refine aw_lo (lo' := [some (.ref (oa u))]) ⟨.inr rfl, trivial⟩ ?_
    exact s_Un_wantMore_31 C hQ hA hR hno hfl hu S  hp
  · have hp := hp.2 hc
    refine a_aload_n C dc_Un_wantMore_19 rfl rfl ?_
    refine c_getR C u 0 dc_Un_wantMore_20 hu rfl rfl (Nat.le_of_ble_eq_true rfl) f_Un_12 rfl hp.1 ?_
    have hp := hp.2
    refine a_iconst (v := 4) C dc_Un_wantMore_23 (by decide) ?_
    refine a_aload_n C dc_Un_wantMore_24 rfl rfl ?_
    refine c_getI C u 12 dc_Un_wantMore_25 hu rfl rfl (Nat.le_of_ble_eq_true rfl) f_Un_113 (Nat.le_of_ble_eq_true rfl) ?_
    refine c_callT (rest := []) (av := .ref (oa (S.2.2 u 0)) :: [.int 4, .int (S.1 u 12)]) C dc_Un_wantMore_28 (ct_Re_fail (S.2.2 u 0) 4 (S.1 u 12) S hfl hc1 hp) cd_C_Re_fail i_Re (Nat.le_of_ble_eq_true rfl) (by rw [hR]; exact Nat.le_of_ble_eq_true rfl) (by rw [hR]; exact Nat.le_of_ble_eq_true rfl) (by rw [hR]; exact Nat.le_of_ble_eq_true rfl) (by rw [hR]; exact Nat.le_of_ble_eq_true rfl) (inv_V C (S.2.2 u 0) dc_Un_wantMore_28 l_Un_74 im_C_Re_fail se_C_Re_fail cd_C_Re_fail ⟨by decide, by decide⟩ ln_C_Re_fail rfl rfl (cw_obj hc1 rfl) rfl rfl) (fun oc L1 hL => ?_)
    rcases hL with ⟨S28, hp, rfl, rfl⟩ | ⟨c9, a9, S9, hp, rfl, rfl⟩
    rotate_left
    · exact Or.inr ⟨a9, rfl, t_out C hQ hA (fun x hx => (hno x hx).elim) (Or.inr ⟨c9, a9, S9, hp, rfl, rfl⟩) (Nat.le_of_ble_eq_true rfl) (Nat.le_of_ble_eq_true rfl)⟩
    refine Or.inl ⟨_, rfl, ?_⟩
    refine aw_eq (lo' := _) (st' := []) (L' := (cw lt_C U oa S28)) rfl rfl rfl ?_
    refine aw_lo (lo' := [some (.ref (oa u))]) ⟨.inr rfl, trivial⟩ ?_
    exact s_Un_wantMore_31 C hQ hA hR hno hfl hu S28  hp
end C_Un_wantMore
section C_Un_wantMorec
variable {D : va_G} {z : Nat → ClassId} {U : ut} {oa : Nat → Nat}
set_option maxRecDepth 100000 in
theorem ct_Un_wantMore {l : Launch} (u : Nat)  (S : cs) {K : cs → Prop} {T : Nat → cs → Prop} (hfl : l.flags = pinnedFlags ++ [noTraceFlag]) (hu : c_cl U u = 11) (hp : p_Un_wantMore U u S K T) : ct gG D z l n_C_Un_wantMore c_C_Un_wantMore 1 (none) 10 1000 [.ref (oa u)] (cw lt_C U oa S) 0 0 (pC_v lt_C U oa K T) := by
  refine ct_of (lo := [some (.ref (oa u))]) (by decide) g_ok (Nat.le_of_ble_eq_true rfl) rfl ?_
  intro X A hl C hR hQ hA hno
  exact s_Un_wantMore_0 C hQ hA hR hno (by rw [hl]; exact hfl) hu S hp
end C_Un_wantMorec
def b_Un_readTable_9 (U : ut) (u : Nat) (x1 : Int32) (x2 : Int32) (S : cs) (R9 : Int32 → Int32 → cs → Prop) (K : cs → Prop) (T : Nat → cs → Prop) : Prop :=
  (64 ≤ x2 → (¬ S.2.2 u 4 = NU ∧ (c_cl U (S.2.2 u 4) = 903 ∧ (vp_in x1 (c_ln U (S.2.2 u 4)) ∧ (K (va_up S.1 (S.2.2 u 4) (upd (S.1 (S.2.2 u 4)) x1.toNatClampNeg (vp_nar .boolean 1)), S.2.1, S.2.2)))))) ∧ (¬ (64 ≤ x2) → (p_Un_wantMore U u S (fun S16 => ¬ S16.2.2 u 3 = NU ∧ (p_Un_readWithin U u 1 255 S16 (fun v34 S34 => c_cl U (S16.2.2 u 3) = 902 ∧ (vp_in ((64 * x1) + x2) (c_ln U (S16.2.2 u 3)) ∧ (R9 x1 (x2 + 1) (va_up S34.1 (S16.2.2 u 3) (upd (S34.1 (S16.2.2 u 3)) ((64 * x1) + x2).toNatClampNeg v34), S34.2.1, S34.2.2)))) T)) T))
def e_Un_readTable_9 (U : ut) (u : Nat) (x1 : Int32) (x2 : Int32) (S : cs) (K : cs → Prop) (T : Nat → cs → Prop) : Prop :=
  ∃ (I : Int32 → Int32 → cs → Prop) (μ : Int32 → Int32 → cs → Nat), I x1 x2 S ∧ ∀ yx1 yx2 yS, I yx1 yx2 yS → b_Un_readTable_9 U u yx1 yx2 yS (fun zx1 zx2 zS => I zx1 zx2 zS ∧ μ zx1 zx2 zS < μ yx1 yx2 yS) K T
def p_Un_readTable (U : ut) (u : Nat)  (S : cs) (K : cs → Prop) (T : Nat → cs → Prop) : Prop :=
  p_Un_readWithin U u 0 3 S (fun v3 S3 => e_Un_readTable_9 U u v3 0 S3 K T) T
section C_Un_readTable
variable {D : va_G} {z : Nat → ClassId} {A : Nat → Prop} {X : cx} {L0 : fw} {U : ut} {oa : Nat → Nat} {u : Nat} {K : cs → Prop} {T : Nat → cs → Prop}
set_option maxRecDepth 100000 in
set_option maxHeartbeats 1000000 in
theorem s_Un_readTable_9 (C : fcx gG D z A X R_Un c_C_Un_readTable 3 (none)) (hQ : X.2.2.2.2.2.2.2.2.2.2 = eQ gG D z X.2.2.2.2.2.2.2.1 X.2.2.2.2.1 L0 0 0 (pC_v lt_C U oa K T)) (hA : A = owA gG L0 X.2.2.2.2.1.heap.size) (hR : X.2.2.2.1 = { frames := 11, cells := 1, slots := 6, locals := 1100 }) (hno : ∀ x ∈ X.2.2.2.2.2.2.2.2.2.1.exceptionTable.toList, False) (hfl : X.2.1.flags = pinnedFlags ++ [noTraceFlag]) (hu : c_cl U u = 11) (x1 : Int32) (x2 : Int32) (S : cs) (R9 : Int32 → Int32 → cs → Prop) (hR9 : ∀ yx1 yx2 yS, R9 yx1 yx2 yS → aw gG D z A X 3 9 [some (.ref (oa u)), some (.int yx1), some (.int yx2)] [] (cw lt_C U oa yS) 0 0) (hp : b_Un_readTable_9 U u x1 x2 S R9 K T) : aw gG D z A X 3 9 [some (.ref (oa u)), some (.int x1), some (.int x2)] [] (cw lt_C U oa S) 0 0 := by
  unfold b_Un_readTable_9 at hp
  refine a_iload_n C dc_Un_readTable_9 rfl rfl ?_
  refine a_bipush (v := 64) C dc_Un_readTable_10 (by decide) ?_
  refine a_icmp_ge (tgt := 44) C dc_Un_readTable_12 (by decide) ⟨fun hc => ?_, fun hc => ?_⟩
  · have hp := hp.1 hc
    refine a_aload_n C dc_Un_readTable_44 rfl rfl ?_
    refine c_getR C u 4 dc_Un_readTable_45 hu rfl rfl (Nat.le_of_ble_eq_true rfl) f_Un_36 rfl hp.1 ?_
    have hp := hp.2
    refine a_iload_n C dc_Un_readTable_48 rfl rfl ?_
    refine a_iconst (v := 1) C dc_Un_readTable_49 (by decide) ?_
    have hc1 := hp.1
    have hp := hp.2
    refine c_zast C (S.2.2 u 4) dc_Un_readTable_50 hc1 hp.1 ?_
    have hp := hp.2
    refine aw_eq (lo' := _) (st' := _) (L' := (cw lt_C U oa (va_up S.1 (S.2.2 u 4) (upd (S.1 (S.2.2 u 4)) x1.toNatClampNeg (vp_nar .boolean 1)), S.2.1, S.2.2))) rfl rfl rfl ?_
    exact a_vret C hQ hA dc_Un_readTable_51 rfl (Or.inl ⟨(va_up S.1 (S.2.2 u 4) (upd (S.1 (S.2.2 u 4)) x1.toNatClampNeg (vp_nar .boolean 1)), S.2.1, S.2.2), hp, rfl, rfl⟩)
  · have hp := hp.2 hc
    refine a_aload_n C dc_Un_readTable_15 rfl rfl ?_
    refine c_callT (rest := []) (av := .ref (oa u) :: []) C dc_Un_readTable_16 (ct_Un_wantMore u S hfl hu hp) cd_C_Un_wantMore i_Un (Nat.le_of_ble_eq_true rfl) (by rw [hR]; exact Nat.le_of_ble_eq_true rfl) (by rw [hR]; exact Nat.le_of_ble_eq_true rfl) (by rw [hR]; exact Nat.le_of_ble_eq_true rfl) (by rw [hR]; exact Nat.le_of_ble_eq_true rfl) (inv_V C u dc_Un_readTable_16 l_Un_155 im_C_Un_wantMore se_C_Un_wantMore cd_C_Un_wantMore ⟨by decide, by decide⟩ ln_C_Un_wantMore rfl rfl (cw_obj hu rfl) rfl rfl) (fun oc L1 hL => ?_)
    rcases hL with ⟨S16, hp, rfl, rfl⟩ | ⟨c9, a9, S9, hp, rfl, rfl⟩
    rotate_left
    · exact Or.inr ⟨a9, rfl, t_out C hQ hA (fun x hx => (hno x hx).elim) (Or.inr ⟨c9, a9, S9, hp, rfl, rfl⟩) (Nat.le_of_ble_eq_true rfl) (Nat.le_of_ble_eq_true rfl)⟩
    refine Or.inl ⟨_, rfl, ?_⟩
    refine aw_eq (lo' := _) (st' := []) (L' := (cw lt_C U oa S16)) rfl rfl rfl ?_
    refine a_aload_n C dc_Un_readTable_19 rfl rfl ?_
    refine c_getR C u 3 dc_Un_readTable_20 hu rfl rfl (Nat.le_of_ble_eq_true rfl) f_Un_32 rfl hp.1 ?_
    have hp := hp.2
    refine a_bipush (v := 64) C dc_Un_readTable_23 (by decide) ?_
    refine a_iload_n C dc_Un_readTable_25 rfl rfl ?_
    refine a_imul C dc_Un_readTable_26 ?_
    refine a_iload_n C dc_Un_readTable_27 rfl rfl ?_
    refine a_iadd C dc_Un_readTable_28 ?_
    refine a_aload_n C dc_Un_readTable_29 rfl rfl ?_
    refine a_iconst (v := 1) C dc_Un_readTable_30 (by decide) ?_
    refine a_sipush (v := 255) C dc_Un_readTable_31 (by decide) ?_
    refine c_callT (rest := [.int ((64 * x1) + x2), .ref (oa (S16.2.2 u 3))]) (av := .ref (oa u) :: [.int 1, .int 255]) C dc_Un_readTable_34 (ct_Un_readWithin u 1 255 S16 hfl hu hp) cd_C_Un_readWithin i_Un (Nat.le_of_ble_eq_true rfl) (by rw [hR]; exact Nat.le_of_ble_eq_true rfl) (by rw [hR]; exact Nat.le_of_ble_eq_true rfl) (by rw [hR]; exact Nat.le_of_ble_eq_true rfl) (by rw [hR]; exact Nat.le_of_ble_eq_true rfl) (inv_V C u dc_Un_readTable_34 l_Un_151 im_C_Un_readWithin se_C_Un_readWithin cd_C_Un_readWithin ⟨by decide, by decide⟩ ln_C_Un_readWithin rfl rfl (cw_obj hu rfl) rfl rfl) (fun oc L1 hL => ?_)
    rcases hL with ⟨v34, S34, hp, rfl, rfl⟩ | ⟨c9, a9, S9, hp, rfl, rfl⟩
    rotate_left
    · exact Or.inr ⟨a9, rfl, t_out C hQ hA (fun x hx => (hno x hx).elim) (Or.inr ⟨c9, a9, S9, hp, rfl, rfl⟩) (Nat.le_of_ble_eq_true rfl) (Nat.le_of_ble_eq_true rfl)⟩
    refine Or.inl ⟨_, rfl, ?_⟩
    refine aw_eq (lo' := _) (st' := [.int v34, .int ((64 * x1) + x2), .ref (oa (S16.2.2 u 3))]) (L' := (cw lt_C U oa S34)) rfl rfl rfl ?_
    have hc2 := hp.1
    have hp := hp.2
    refine c_iast C (S16.2.2 u 3) dc_Un_readTable_37 hc2 hp.1 ?_
    have hp := hp.2
    refine aw_eq (lo' := _) (st' := _) (L' := (cw lt_C U oa (va_up S34.1 (S16.2.2 u 3) (upd (S34.1 (S16.2.2 u 3)) ((64 * x1) + x2).toNatClampNeg v34), S34.2.1, S34.2.2))) rfl rfl rfl ?_
    refine a_iinc (v := x2 + 1) (lo' := [some (.ref (oa u)), some (.int x1), some (.int (x2 + 1))]) C dc_Un_readTable_38 rfl rfl (by decide) rfl ?_
    refine a_goto (tgt := 9) C dc_Un_readTable_41 (by decide) ?_
    refine aw_lo (lo' := [some (.ref (oa u)), some (.int x1), some (.int (x2 + 1))]) ⟨.inr rfl, .inr rfl, .inr rfl, trivial⟩ ?_
    exact hR9 x1 (x2 + 1) (va_up S34.1 (S16.2.2 u 3) (upd (S34.1 (S16.2.2 u 3)) ((64 * x1) + x2).toNatClampNeg v34), S34.2.1, S34.2.2) hp
set_option maxRecDepth 100000 in
set_option maxHeartbeats 1000000 in
theorem se_Un_readTable_9 (C : fcx gG D z A X R_Un c_C_Un_readTable 3 (none)) (hQ : X.2.2.2.2.2.2.2.2.2.2 = eQ gG D z X.2.2.2.2.2.2.2.1 X.2.2.2.2.1 L0 0 0 (pC_v lt_C U oa K T)) (hA : A = owA gG L0 X.2.2.2.2.1.heap.size) (hR : X.2.2.2.1 = { frames := 11, cells := 1, slots := 6, locals := 1100 }) (hno : ∀ x ∈ X.2.2.2.2.2.2.2.2.2.1.exceptionTable.toList, False) (hfl : X.2.1.flags = pinnedFlags ++ [noTraceFlag]) (hu : c_cl U u = 11) (x1 : Int32) (x2 : Int32) (S : cs) (hp : e_Un_readTable_9 U u x1 x2 S K T) : aw gG D z A X 3 9 [some (.ref (oa u)), some (.int x1), some (.int x2)] [] (cw lt_C U oa S) 0 0 := by
  obtain ⟨I, μ, h0, hs⟩ := hp
  have key : ∀ (n : Nat) (yx1 : Int32) (yx2 : Int32) (yS : cs), μ yx1 yx2 yS < n → I yx1 yx2 yS → aw gG D z A X 3 9 [some (.ref (oa u)), some (.int yx1), some (.int yx2)] [] (cw lt_C U oa yS) 0 0 := by
    intro n
    induction n with
    | zero => intro yx1 yx2 yS h; omega
    | succ n ih =>
      intro yx1 yx2 yS hn hI
      exact s_Un_readTable_9 C hQ hA hR hno hfl hu yx1 yx2 yS _ (fun zx1 zx2 zS hw => ih zx1 zx2 zS (by omega) hw.1) (hs yx1 yx2 yS hI)
  exact key (μ x1 x2 S + 1) x1 x2 S (Nat.lt_succ_self _) h0
set_option maxRecDepth 100000 in
set_option maxHeartbeats 1000000 in
theorem s_Un_readTable_0 (C : fcx gG D z A X R_Un c_C_Un_readTable 3 (none)) (hQ : X.2.2.2.2.2.2.2.2.2.2 = eQ gG D z X.2.2.2.2.2.2.2.1 X.2.2.2.2.1 L0 0 0 (pC_v lt_C U oa K T)) (hA : A = owA gG L0 X.2.2.2.2.1.heap.size) (hR : X.2.2.2.1 = { frames := 11, cells := 1, slots := 6, locals := 1100 }) (hno : ∀ x ∈ X.2.2.2.2.2.2.2.2.2.1.exceptionTable.toList, False) (hfl : X.2.1.flags = pinnedFlags ++ [noTraceFlag]) (hu : c_cl U u = 11)  (S : cs) (hp : p_Un_readTable U u S K T) : aw gG D z A X 3 0 [some (.ref (oa u)), none, none] [] (cw lt_C U oa S) 0 0 := by
  unfold p_Un_readTable at hp
  refine a_aload_n C dc_Un_readTable_0 rfl rfl ?_
  refine a_iconst (v := 0) C dc_Un_readTable_1 (by decide) ?_
  refine a_iconst (v := 3) C dc_Un_readTable_2 (by decide) ?_
  refine c_callT (rest := []) (av := .ref (oa u) :: [.int 0, .int 3]) C dc_Un_readTable_3 (ct_Un_readWithin u 0 3 S hfl hu hp) cd_C_Un_readWithin i_Un (Nat.le_of_ble_eq_true rfl) (by rw [hR]; exact Nat.le_of_ble_eq_true rfl) (by rw [hR]; exact Nat.le_of_ble_eq_true rfl) (by rw [hR]; exact Nat.le_of_ble_eq_true rfl) (by rw [hR]; exact Nat.le_of_ble_eq_true rfl) (inv_V C u dc_Un_readTable_3 l_Un_151 im_C_Un_readWithin se_C_Un_readWithin cd_C_Un_readWithin ⟨by decide, by decide⟩ ln_C_Un_readWithin rfl rfl (cw_obj hu rfl) rfl rfl) (fun oc L1 hL => ?_)
  rcases hL with ⟨v3, S3, hp, rfl, rfl⟩ | ⟨c9, a9, S9, hp, rfl, rfl⟩
  rotate_left
  · exact Or.inr ⟨a9, rfl, t_out C hQ hA (fun x hx => (hno x hx).elim) (Or.inr ⟨c9, a9, S9, hp, rfl, rfl⟩) (Nat.le_of_ble_eq_true rfl) (Nat.le_of_ble_eq_true rfl)⟩
  refine Or.inl ⟨_, rfl, ?_⟩
  refine aw_eq (lo' := _) (st' := [.int v3]) (L' := (cw lt_C U oa S3)) rfl rfl rfl ?_
  refine a_istore_n (lo' := [some (.ref (oa u)), some (.int v3), none]) C dc_Un_readTable_6 rfl (by decide) rfl ?_
  refine a_iconst (v := 0) C dc_Un_readTable_7 (by decide) ?_
  refine a_istore_n (lo' := [some (.ref (oa u)), some (.int v3), some (.int 0)]) C dc_Un_readTable_8 rfl (by decide) rfl ?_
  refine aw_lo (lo' := [some (.ref (oa u)), some (.int v3), some (.int 0)]) ⟨.inr rfl, .inr rfl, .inr rfl, trivial⟩ ?_
  exact se_Un_readTable_9 C hQ hA hR hno hfl hu v3 0 S3  hp
end C_Un_readTable
section C_Un_readTablec
variable {D : va_G} {z : Nat → ClassId} {U : ut} {oa : Nat → Nat}
set_option maxRecDepth 100000 in
theorem ct_Un_readTable {l : Launch} (u : Nat)  (S : cs) {K : cs → Prop} {T : Nat → cs → Prop} (hfl : l.flags = pinnedFlags ++ [noTraceFlag]) (hu : c_cl U u = 11) (hp : p_Un_readTable U u S K T) : ct gG D z l n_C_Un_readTable c_C_Un_readTable 3 (none) 11 1100 [.ref (oa u)] (cw lt_C U oa S) 0 0 (pC_v lt_C U oa K T) := by
  refine ct_of (lo := [some (.ref (oa u)), none, none]) (by decide) g_ok (Nat.le_of_ble_eq_true rfl) rfl ?_
  intro X A hl C hR hQ hA hno
  exact s_Un_readTable_0 C hQ hA hR hno (by rw [hl]; exact hfl) hu S hp
end C_Un_readTablec
def b_Co_giveOut_97 (U : ut) (u : Nat) (x2 : Int32) (S : cs) (K : Int32 → cs → Prop) : Prop :=
  narrow .boolean (.int x2) = .int x2 ∧ K x2 S
def b_Co_giveOut_86 (U : ut) (u : Nat) (x1 : Int32) (x3 : Int32) (s0 : Int32) (S : cs) (R11 : Int32 → Int32 → Int32 → cs → Prop) (K : Int32 → cs → Prop) : Prop :=
  R11 (x1 * 2) s0 (x3 + 1) S
def b_Co_giveOut_85 (U : ut) (u : Nat) (x1 : Int32) (x3 : Int32) (S : cs) (R11 : Int32 → Int32 → Int32 → cs → Prop) (K : Int32 → cs → Prop) : Prop :=
  b_Co_giveOut_86 U u x1 x3 0 S R11 K
def b_Co_giveOut_11 (U : ut) (u : Nat) (x1 : Int32) (x2 : Int32) (x3 : Int32) (S : cs) (R11 : Int32 → Int32 → Int32 → cs → Prop) (K : Int32 → cs → Prop) : Prop :=
  (16 < x3 → (b_Co_giveOut_97 U u x2 S K)) ∧ (¬ (16 < x3) → ((x2 = 0 → (b_Co_giveOut_97 U u x2 S K)) ∧ (¬ (x2 = 0) → (¬ S.2.2 u 2 = NU ∧ (c_cl U (S.2.2 u 2) = 902 ∧ (vp_in x3 (c_ln U (S.2.2 u 2)) ∧ (¬ S.2.2 u 3 = NU ∧ (c_cl U (S.2.2 u 3) = 902 ∧ (vp_in x3 (c_ln U (S.2.2 u 3)) ∧ (¬ S.2.2 u 1 = NU ∧ (c_cl U (S.2.2 u 1) = 902 ∧ (vp_in x3 (c_ln U (S.2.2 u 1)) ∧ (¬ S.2.2 u 1 = NU ∧ (vp_in x3 (c_ln U (S.2.2 u 1)) ∧ (¬ S.2.2 u 4 = NU ∧ (c_cl U (S.2.2 u 4) = 902 ∧ (((nI (c_ln U (S.2.2 u 4))) < ((va_up (va_up (va_up S.1 (S.2.2 u 2) (upd (S.1 (S.2.2 u 2)) x3.toNatClampNeg x1)) (S.2.2 u 3) (upd ((va_up S.1 (S.2.2 u 2) (upd (S.1 (S.2.2 u 2)) x3.toNatClampNeg x1)) (S.2.2 u 3)) x3.toNatClampNeg ((va_up S.1 (S.2.2 u 2) (upd (S.1 (S.2.2 u 2)) x3.toNatClampNeg x1)) u 5))) u (upd ((va_up (va_up S.1 (S.2.2 u 2) (upd (S.1 (S.2.2 u 2)) x3.toNatClampNeg x1)) (S.2.2 u 3) (upd ((va_up S.1 (S.2.2 u 2) (upd (S.1 (S.2.2 u 2)) x3.toNatClampNeg x1)) (S.2.2 u 3)) x3.toNatClampNeg ((va_up S.1 (S.2.2 u 2) (upd (S.1 (S.2.2 u 2)) x3.toNatClampNeg x1)) u 5))) u) 5 (((va_up (va_up S.1 (S.2.2 u 2) (upd (S.1 (S.2.2 u 2)) x3.toNatClampNeg x1)) (S.2.2 u 3) (upd ((va_up S.1 (S.2.2 u 2) (upd (S.1 (S.2.2 u 2)) x3.toNatClampNeg x1)) (S.2.2 u 3)) x3.toNatClampNeg ((va_up S.1 (S.2.2 u 2) (upd (S.1 (S.2.2 u 2)) x3.toNatClampNeg x1)) u 5))) u 5) + ((va_up (va_up S.1 (S.2.2 u 2) (upd (S.1 (S.2.2 u 2)) x3.toNatClampNeg x1)) (S.2.2 u 3) (upd ((va_up S.1 (S.2.2 u 2) (upd (S.1 (S.2.2 u 2)) x3.toNatClampNeg x1)) (S.2.2 u 3)) x3.toNatClampNeg ((va_up S.1 (S.2.2 u 2) (upd (S.1 (S.2.2 u 2)) x3.toNatClampNeg x1)) u 5))) (S.2.2 u 1) x3.toNatClampNeg)))) u 5) → (b_Co_giveOut_85 U u (x1 + ((va_up (va_up S.1 (S.2.2 u 2) (upd (S.1 (S.2.2 u 2)) x3.toNatClampNeg x1)) (S.2.2 u 3) (upd ((va_up S.1 (S.2.2 u 2) (upd (S.1 (S.2.2 u 2)) x3.toNatClampNeg x1)) (S.2.2 u 3)) x3.toNatClampNeg ((va_up S.1 (S.2.2 u 2) (upd (S.1 (S.2.2 u 2)) x3.toNatClampNeg x1)) u 5))) (S.2.2 u 1) x3.toNatClampNeg)) x3 (va_up (va_up (va_up S.1 (S.2.2 u 2) (upd (S.1 (S.2.2 u 2)) x3.toNatClampNeg x1)) (S.2.2 u 3) (upd ((va_up S.1 (S.2.2 u 2) (upd (S.1 (S.2.2 u 2)) x3.toNatClampNeg x1)) (S.2.2 u 3)) x3.toNatClampNeg ((va_up S.1 (S.2.2 u 2) (upd (S.1 (S.2.2 u 2)) x3.toNatClampNeg x1)) u 5))) u (upd ((va_up (va_up S.1 (S.2.2 u 2) (upd (S.1 (S.2.2 u 2)) x3.toNatClampNeg x1)) (S.2.2 u 3) (upd ((va_up S.1 (S.2.2 u 2) (upd (S.1 (S.2.2 u 2)) x3.toNatClampNeg x1)) (S.2.2 u 3)) x3.toNatClampNeg ((va_up S.1 (S.2.2 u 2) (upd (S.1 (S.2.2 u 2)) x3.toNatClampNeg x1)) u 5))) u) 5 (((va_up (va_up S.1 (S.2.2 u 2) (upd (S.1 (S.2.2 u 2)) x3.toNatClampNeg x1)) (S.2.2 u 3) (upd ((va_up S.1 (S.2.2 u 2) (upd (S.1 (S.2.2 u 2)) x3.toNatClampNeg x1)) (S.2.2 u 3)) x3.toNatClampNeg ((va_up S.1 (S.2.2 u 2) (upd (S.1 (S.2.2 u 2)) x3.toNatClampNeg x1)) u 5))) u 5) + ((va_up (va_up S.1 (S.2.2 u 2) (upd (S.1 (S.2.2 u 2)) x3.toNatClampNeg x1)) (S.2.2 u 3) (upd ((va_up S.1 (S.2.2 u 2) (upd (S.1 (S.2.2 u 2)) x3.toNatClampNeg x1)) (S.2.2 u 3)) x3.toNatClampNeg ((va_up S.1 (S.2.2 u 2) (upd (S.1 (S.2.2 u 2)) x3.toNatClampNeg x1)) u 5))) (S.2.2 u 1) x3.toNatClampNeg))), S.2.1, S.2.2) R11 K)) ∧ (¬ ((nI (c_ln U (S.2.2 u 4))) < ((va_up (va_up (va_up S.1 (S.2.2 u 2) (upd (S.1 (S.2.2 u 2)) x3.toNatClampNeg x1)) (S.2.2 u 3) (upd ((va_up S.1 (S.2.2 u 2) (upd (S.1 (S.2.2 u 2)) x3.toNatClampNeg x1)) (S.2.2 u 3)) x3.toNatClampNeg ((va_up S.1 (S.2.2 u 2) (upd (S.1 (S.2.2 u 2)) x3.toNatClampNeg x1)) u 5))) u (upd ((va_up (va_up S.1 (S.2.2 u 2) (upd (S.1 (S.2.2 u 2)) x3.toNatClampNeg x1)) (S.2.2 u 3) (upd ((va_up S.1 (S.2.2 u 2) (upd (S.1 (S.2.2 u 2)) x3.toNatClampNeg x1)) (S.2.2 u 3)) x3.toNatClampNeg ((va_up S.1 (S.2.2 u 2) (upd (S.1 (S.2.2 u 2)) x3.toNatClampNeg x1)) u 5))) u) 5 (((va_up (va_up S.1 (S.2.2 u 2) (upd (S.1 (S.2.2 u 2)) x3.toNatClampNeg x1)) (S.2.2 u 3) (upd ((va_up S.1 (S.2.2 u 2) (upd (S.1 (S.2.2 u 2)) x3.toNatClampNeg x1)) (S.2.2 u 3)) x3.toNatClampNeg ((va_up S.1 (S.2.2 u 2) (upd (S.1 (S.2.2 u 2)) x3.toNatClampNeg x1)) u 5))) u 5) + ((va_up (va_up S.1 (S.2.2 u 2) (upd (S.1 (S.2.2 u 2)) x3.toNatClampNeg x1)) (S.2.2 u 3) (upd ((va_up S.1 (S.2.2 u 2) (upd (S.1 (S.2.2 u 2)) x3.toNatClampNeg x1)) (S.2.2 u 3)) x3.toNatClampNeg ((va_up S.1 (S.2.2 u 2) (upd (S.1 (S.2.2 u 2)) x3.toNatClampNeg x1)) u 5))) (S.2.2 u 1) x3.toNatClampNeg)))) u 5)) → ((((1 : Int32) <<< (x3 &&& 31 : Int32) : Int32) ≤ (x1 + ((va_up (va_up S.1 (S.2.2 u 2) (upd (S.1 (S.2.2 u 2)) x3.toNatClampNeg x1)) (S.2.2 u 3) (upd ((va_up S.1 (S.2.2 u 2) (upd (S.1 (S.2.2 u 2)) x3.toNatClampNeg x1)) (S.2.2 u 3)) x3.toNatClampNeg ((va_up S.1 (S.2.2 u 2) (upd (S.1 (S.2.2 u 2)) x3.toNatClampNeg x1)) u 5))) (S.2.2 u 1) x3.toNatClampNeg)) → (b_Co_giveOut_85 U u (x1 + ((va_up (va_up S.1 (S.2.2 u 2) (upd (S.1 (S.2.2 u 2)) x3.toNatClampNeg x1)) (S.2.2 u 3) (upd ((va_up S.1 (S.2.2 u 2) (upd (S.1 (S.2.2 u 2)) x3.toNatClampNeg x1)) (S.2.2 u 3)) x3.toNatClampNeg ((va_up S.1 (S.2.2 u 2) (upd (S.1 (S.2.2 u 2)) x3.toNatClampNeg x1)) u 5))) (S.2.2 u 1) x3.toNatClampNeg)) x3 (va_up (va_up (va_up S.1 (S.2.2 u 2) (upd (S.1 (S.2.2 u 2)) x3.toNatClampNeg x1)) (S.2.2 u 3) (upd ((va_up S.1 (S.2.2 u 2) (upd (S.1 (S.2.2 u 2)) x3.toNatClampNeg x1)) (S.2.2 u 3)) x3.toNatClampNeg ((va_up S.1 (S.2.2 u 2) (upd (S.1 (S.2.2 u 2)) x3.toNatClampNeg x1)) u 5))) u (upd ((va_up (va_up S.1 (S.2.2 u 2) (upd (S.1 (S.2.2 u 2)) x3.toNatClampNeg x1)) (S.2.2 u 3) (upd ((va_up S.1 (S.2.2 u 2) (upd (S.1 (S.2.2 u 2)) x3.toNatClampNeg x1)) (S.2.2 u 3)) x3.toNatClampNeg ((va_up S.1 (S.2.2 u 2) (upd (S.1 (S.2.2 u 2)) x3.toNatClampNeg x1)) u 5))) u) 5 (((va_up (va_up S.1 (S.2.2 u 2) (upd (S.1 (S.2.2 u 2)) x3.toNatClampNeg x1)) (S.2.2 u 3) (upd ((va_up S.1 (S.2.2 u 2) (upd (S.1 (S.2.2 u 2)) x3.toNatClampNeg x1)) (S.2.2 u 3)) x3.toNatClampNeg ((va_up S.1 (S.2.2 u 2) (upd (S.1 (S.2.2 u 2)) x3.toNatClampNeg x1)) u 5))) u 5) + ((va_up (va_up S.1 (S.2.2 u 2) (upd (S.1 (S.2.2 u 2)) x3.toNatClampNeg x1)) (S.2.2 u 3) (upd ((va_up S.1 (S.2.2 u 2) (upd (S.1 (S.2.2 u 2)) x3.toNatClampNeg x1)) (S.2.2 u 3)) x3.toNatClampNeg ((va_up S.1 (S.2.2 u 2) (upd (S.1 (S.2.2 u 2)) x3.toNatClampNeg x1)) u 5))) (S.2.2 u 1) x3.toNatClampNeg))), S.2.1, S.2.2) R11 K)) ∧ (¬ (((1 : Int32) <<< (x3 &&& 31 : Int32) : Int32) ≤ (x1 + ((va_up (va_up S.1 (S.2.2 u 2) (upd (S.1 (S.2.2 u 2)) x3.toNatClampNeg x1)) (S.2.2 u 3) (upd ((va_up S.1 (S.2.2 u 2) (upd (S.1 (S.2.2 u 2)) x3.toNatClampNeg x1)) (S.2.2 u 3)) x3.toNatClampNeg ((va_up S.1 (S.2.2 u 2) (upd (S.1 (S.2.2 u 2)) x3.toNatClampNeg x1)) u 5))) (S.2.2 u 1) x3.toNatClampNeg))) → (b_Co_giveOut_86 U u (x1 + ((va_up (va_up S.1 (S.2.2 u 2) (upd (S.1 (S.2.2 u 2)) x3.toNatClampNeg x1)) (S.2.2 u 3) (upd ((va_up S.1 (S.2.2 u 2) (upd (S.1 (S.2.2 u 2)) x3.toNatClampNeg x1)) (S.2.2 u 3)) x3.toNatClampNeg ((va_up S.1 (S.2.2 u 2) (upd (S.1 (S.2.2 u 2)) x3.toNatClampNeg x1)) u 5))) (S.2.2 u 1) x3.toNatClampNeg)) x3 1 (va_up (va_up (va_up S.1 (S.2.2 u 2) (upd (S.1 (S.2.2 u 2)) x3.toNatClampNeg x1)) (S.2.2 u 3) (upd ((va_up S.1 (S.2.2 u 2) (upd (S.1 (S.2.2 u 2)) x3.toNatClampNeg x1)) (S.2.2 u 3)) x3.toNatClampNeg ((va_up S.1 (S.2.2 u 2) (upd (S.1 (S.2.2 u 2)) x3.toNatClampNeg x1)) u 5))) u (upd ((va_up (va_up S.1 (S.2.2 u 2) (upd (S.1 (S.2.2 u 2)) x3.toNatClampNeg x1)) (S.2.2 u 3) (upd ((va_up S.1 (S.2.2 u 2) (upd (S.1 (S.2.2 u 2)) x3.toNatClampNeg x1)) (S.2.2 u 3)) x3.toNatClampNeg ((va_up S.1 (S.2.2 u 2) (upd (S.1 (S.2.2 u 2)) x3.toNatClampNeg x1)) u 5))) u) 5 (((va_up (va_up S.1 (S.2.2 u 2) (upd (S.1 (S.2.2 u 2)) x3.toNatClampNeg x1)) (S.2.2 u 3) (upd ((va_up S.1 (S.2.2 u 2) (upd (S.1 (S.2.2 u 2)) x3.toNatClampNeg x1)) (S.2.2 u 3)) x3.toNatClampNeg ((va_up S.1 (S.2.2 u 2) (upd (S.1 (S.2.2 u 2)) x3.toNatClampNeg x1)) u 5))) u 5) + ((va_up (va_up S.1 (S.2.2 u 2) (upd (S.1 (S.2.2 u 2)) x3.toNatClampNeg x1)) (S.2.2 u 3) (upd ((va_up S.1 (S.2.2 u 2) (upd (S.1 (S.2.2 u 2)) x3.toNatClampNeg x1)) (S.2.2 u 3)) x3.toNatClampNeg ((va_up S.1 (S.2.2 u 2) (upd (S.1 (S.2.2 u 2)) x3.toNatClampNeg x1)) u 5))) (S.2.2 u 1) x3.toNatClampNeg))), S.2.1, S.2.2) R11 K)))))))))))))))))))))
def e_Co_giveOut_11 (U : ut) (u : Nat) (x1 : Int32) (x2 : Int32) (x3 : Int32) (S : cs) (K : Int32 → cs → Prop) : Prop :=
  ∃ (I : Int32 → Int32 → Int32 → cs → Prop) (μ : Int32 → Int32 → Int32 → cs → Nat), I x1 x2 x3 S ∧ ∀ yx1 yx2 yx3 yS, I yx1 yx2 yx3 yS → b_Co_giveOut_11 U u yx1 yx2 yx3 yS (fun zx1 zx2 zx3 zS => I zx1 zx2 zx3 zS ∧ μ zx1 zx2 zx3 zS < μ yx1 yx2 yx3 yS) K
def p_Co_giveOut (U : ut) (u : Nat)  (S : cs) (K : Int32 → cs → Prop) : Prop :=
  e_Co_giveOut_11 U u 0 1 1 (va_up S.1 u (upd (S.1 u) 5 0), S.2.1, S.2.2) K
section C_Co_giveOut
variable {D : va_G} {z : Nat → ClassId} {A : Nat → Prop} {X : cx} {L0 : fw} {U : ut} {oa : Nat → Nat} {u : Nat} {K : Int32 → cs → Prop}
set_option maxRecDepth 100000 in
set_option maxHeartbeats 1000000 in
theorem s_Co_giveOut_97 (C : fcx gG D z A X R_Co c_C_Co_giveOut 4 (some .boolean)) (hQ : X.2.2.2.2.2.2.2.2.2.2 = eQ gG D z X.2.2.2.2.2.2.2.1 X.2.2.2.2.1 L0 0 0 (pC_i lt_C U oa K (fun _ _ => False))) (hA : A = owA gG L0 X.2.2.2.2.1.heap.size) (hR : X.2.2.2.1 = { frames := 1, cells := 1, slots := 6, locals := 100 }) (hu : c_cl U u = 3) (x2 : Int32) (S : cs) (hp : b_Co_giveOut_97 U u x2 S K) : aw gG D z A X 4 97 [some (.ref (oa u)), none, some (.int x2), none] [] (cw lt_C U oa S) 0 0 := by
  unfold b_Co_giveOut_97 at hp
  refine a_iload_n C dc_Co_giveOut_97 rfl rfl ?_
  exact a_iret (ty := .boolean) C hQ hA dc_Co_giveOut_98 rfl hp.1 (Or.inl ⟨_, S, hp.2, rfl, rfl⟩)
set_option maxRecDepth 100000 in
set_option maxHeartbeats 1000000 in
theorem s_Co_giveOut_86 (C : fcx gG D z A X R_Co c_C_Co_giveOut 4 (some .boolean)) (hQ : X.2.2.2.2.2.2.2.2.2.2 = eQ gG D z X.2.2.2.2.2.2.2.1 X.2.2.2.2.1 L0 0 0 (pC_i lt_C U oa K (fun _ _ => False))) (hA : A = owA gG L0 X.2.2.2.2.1.heap.size) (hR : X.2.2.2.1 = { frames := 1, cells := 1, slots := 6, locals := 100 }) (hu : c_cl U u = 3) (x1 : Int32) (x3 : Int32) (s0 : Int32) (S : cs) (R11 : Int32 → Int32 → Int32 → cs → Prop) (hR11 : ∀ yx1 yx2 yx3 yS, R11 yx1 yx2 yx3 yS → aw gG D z A X 4 11 [some (.ref (oa u)), some (.int yx1), some (.int yx2), some (.int yx3)] [] (cw lt_C U oa yS) 0 0) (hp : b_Co_giveOut_86 U u x1 x3 s0 S R11 K) : aw gG D z A X 4 86 [some (.ref (oa u)), some (.int x1), none, some (.int x3)] [.int s0] (cw lt_C U oa S) 0 0 := by
  unfold b_Co_giveOut_86 at hp
  refine a_istore_n (lo' := [some (.ref (oa u)), some (.int x1), some (.int s0), some (.int x3)]) C dc_Co_giveOut_86 rfl (by decide) rfl ?_
  refine a_iload_n C dc_Co_giveOut_87 rfl rfl ?_
  refine a_iconst (v := 2) C dc_Co_giveOut_88 (by decide) ?_
  refine a_imul C dc_Co_giveOut_89 ?_
  refine a_istore_n (lo' := [some (.ref (oa u)), some (.int (x1 * 2)), some (.int s0), some (.int x3)]) C dc_Co_giveOut_90 rfl (by decide) rfl ?_
  refine a_iinc (v := x3 + 1) (lo' := [some (.ref (oa u)), some (.int (x1 * 2)), some (.int s0), some (.int (x3 + 1))]) C dc_Co_giveOut_91 rfl rfl (by decide) rfl ?_
  refine a_goto (tgt := 11) C dc_Co_giveOut_94 (by decide) ?_
  refine aw_lo (lo' := [some (.ref (oa u)), some (.int (x1 * 2)), some (.int s0), some (.int (x3 + 1))]) ⟨.inr rfl, .inr rfl, .inr rfl, .inr rfl, trivial⟩ ?_
  exact hR11 (x1 * 2) s0 (x3 + 1) S hp
set_option maxRecDepth 100000 in
set_option maxHeartbeats 1000000 in
theorem s_Co_giveOut_85 (C : fcx gG D z A X R_Co c_C_Co_giveOut 4 (some .boolean)) (hQ : X.2.2.2.2.2.2.2.2.2.2 = eQ gG D z X.2.2.2.2.2.2.2.1 X.2.2.2.2.1 L0 0 0 (pC_i lt_C U oa K (fun _ _ => False))) (hA : A = owA gG L0 X.2.2.2.2.1.heap.size) (hR : X.2.2.2.1 = { frames := 1, cells := 1, slots := 6, locals := 100 }) (hu : c_cl U u = 3) (x1 : Int32) (x3 : Int32) (S : cs) (R11 : Int32 → Int32 → Int32 → cs → Prop) (hR11 : ∀ yx1 yx2 yx3 yS, R11 yx1 yx2 yx3 yS → aw gG D z A X 4 11 [some (.ref (oa u)), some (.int yx1), some (.int yx2), some (.int yx3)] [] (cw lt_C U oa yS) 0 0) (hp : b_Co_giveOut_85 U u x1 x3 S R11 K) : aw gG D z A X 4 85 [some (.ref (oa u)), some (.int x1), none, some (.int x3)] [] (cw lt_C U oa S) 0 0 := by
  unfold b_Co_giveOut_85 at hp
  refine a_iconst (v := 0) C dc_Co_giveOut_85 (by decide) ?_
  refine aw_lo (lo' := [some (.ref (oa u)), some (.int x1), none, some (.int x3)]) ⟨.inr rfl, .inr rfl, .inr rfl, .inr rfl, trivial⟩ ?_
  exact s_Co_giveOut_86 C hQ hA hR hu x1 x3 0 S R11 hR11 hp
set_option maxRecDepth 100000 in
set_option maxHeartbeats 1000000 in
theorem s_Co_giveOut_11 (C : fcx gG D z A X R_Co c_C_Co_giveOut 4 (some .boolean)) (hQ : X.2.2.2.2.2.2.2.2.2.2 = eQ gG D z X.2.2.2.2.2.2.2.1 X.2.2.2.2.1 L0 0 0 (pC_i lt_C U oa K (fun _ _ => False))) (hA : A = owA gG L0 X.2.2.2.2.1.heap.size) (hR : X.2.2.2.1 = { frames := 1, cells := 1, slots := 6, locals := 100 }) (hu : c_cl U u = 3) (x1 : Int32) (x2 : Int32) (x3 : Int32) (S : cs) (R11 : Int32 → Int32 → Int32 → cs → Prop) (hR11 : ∀ yx1 yx2 yx3 yS, R11 yx1 yx2 yx3 yS → aw gG D z A X 4 11 [some (.ref (oa u)), some (.int yx1), some (.int yx2), some (.int yx3)] [] (cw lt_C U oa yS) 0 0) (hp : b_Co_giveOut_11 U u x1 x2 x3 S R11 K) : aw gG D z A X 4 11 [some (.ref (oa u)), some (.int x1), some (.int x2), some (.int x3)] [] (cw lt_C U oa S) 0 0 := by
  unfold b_Co_giveOut_11 at hp
  refine a_iload_n C dc_Co_giveOut_11 rfl rfl ?_
  refine a_bipush (v := 16) C dc_Co_giveOut_12 (by decide) ?_
  refine a_icmp_gt (tgt := 97) C dc_Co_giveOut_14 (by decide) ⟨fun hc => ?_, fun hc => ?_⟩
  · have hp := hp.1 hc
    refine aw_lo (lo' := [some (.ref (oa u)), none, some (.int x2), none]) ⟨.inr rfl, .inl rfl, .inr rfl, .inl rfl, trivial⟩ ?_
    exact s_Co_giveOut_97 C hQ hA hR hu x2 S  hp
  · have hp := hp.2 hc
    refine a_iload_n C dc_Co_giveOut_17 rfl rfl ?_
    refine a_if_eq (tgt := 97) C dc_Co_giveOut_18 (by decide) ⟨fun hc => ?_, fun hc => ?_⟩
    · have hp := hp.1 hc
      refine aw_lo (lo' := [some (.ref (oa u)), none, some (.int x2), none]) ⟨.inr rfl, .inl rfl, .inr rfl, .inl rfl, trivial⟩ ?_
      exact s_Co_giveOut_97 C hQ hA hR hu x2 S  hp
    · have hp := hp.2 hc
      refine a_aload_n C dc_Co_giveOut_21 rfl rfl ?_
      refine c_getR C u 2 dc_Co_giveOut_22 hu rfl rfl (Nat.le_of_ble_eq_true rfl) f_Co_15 rfl hp.1 ?_
      have hp := hp.2
      refine a_iload_n C dc_Co_giveOut_25 rfl rfl ?_
      refine a_iload_n C dc_Co_giveOut_26 rfl rfl ?_
      have hc1 := hp.1
      have hp := hp.2
      refine c_iast C (S.2.2 u 2) dc_Co_giveOut_27 hc1 hp.1 ?_
      have hp := hp.2
      refine aw_eq (lo' := _) (st' := _) (L' := (cw lt_C U oa (va_up S.1 (S.2.2 u 2) (upd (S.1 (S.2.2 u 2)) x3.toNatClampNeg x1), S.2.1, S.2.2))) rfl rfl rfl ?_
      refine a_aload_n C dc_Co_giveOut_28 rfl rfl ?_
      refine c_getR C u 3 dc_Co_giveOut_29 hu rfl rfl (Nat.le_of_ble_eq_true rfl) f_Co_18 rfl hp.1 ?_
      have hp := hp.2
      refine a_iload_n C dc_Co_giveOut_32 rfl rfl ?_
      refine a_aload_n C dc_Co_giveOut_33 rfl rfl ?_
      refine c_getI C u 5 dc_Co_giveOut_34 hu rfl rfl (Nat.le_of_ble_eq_true rfl) f_Co_24 (Nat.le_of_ble_eq_true rfl) ?_
      have hc2 := hp.1
      have hp := hp.2
      refine c_iast C (S.2.2 u 3) dc_Co_giveOut_37 hc2 hp.1 ?_
      have hp := hp.2
      refine aw_eq (lo' := _) (st' := _) (L' := (cw lt_C U oa (va_up (va_up S.1 (S.2.2 u 2) (upd (S.1 (S.2.2 u 2)) x3.toNatClampNeg x1)) (S.2.2 u 3) (upd ((va_up S.1 (S.2.2 u 2) (upd (S.1 (S.2.2 u 2)) x3.toNatClampNeg x1)) (S.2.2 u 3)) x3.toNatClampNeg ((va_up S.1 (S.2.2 u 2) (upd (S.1 (S.2.2 u 2)) x3.toNatClampNeg x1)) u 5)), S.2.1, S.2.2))) rfl rfl rfl ?_
      refine a_iload_n C dc_Co_giveOut_38 rfl rfl ?_
      refine a_aload_n C dc_Co_giveOut_39 rfl rfl ?_
      refine c_getR C u 1 dc_Co_giveOut_40 hu rfl rfl (Nat.le_of_ble_eq_true rfl) f_Co_9 rfl hp.1 ?_
      have hp := hp.2
      refine a_iload_n C dc_Co_giveOut_43 rfl rfl ?_
      have hc3 := hp.1
      have hp := hp.2
      refine c_iald C (S.2.2 u 1) dc_Co_giveOut_44 hc3 hp.1 ?_
      have hp := hp.2
      refine a_iadd C dc_Co_giveOut_45 ?_
      refine a_istore_n (lo' := [some (.ref (oa u)), some (.int (x1 + ((va_up (va_up S.1 (S.2.2 u 2) (upd (S.1 (S.2.2 u 2)) x3.toNatClampNeg x1)) (S.2.2 u 3) (upd ((va_up S.1 (S.2.2 u 2) (upd (S.1 (S.2.2 u 2)) x3.toNatClampNeg x1)) (S.2.2 u 3)) x3.toNatClampNeg ((va_up S.1 (S.2.2 u 2) (upd (S.1 (S.2.2 u 2)) x3.toNatClampNeg x1)) u 5))) (S.2.2 u 1) x3.toNatClampNeg))), some (.int x2), some (.int x3)]) C dc_Co_giveOut_46 rfl (by decide) rfl ?_
      refine a_aload_n C dc_Co_giveOut_47 rfl rfl ?_
      refine a_dup C dc_Co_giveOut_48 rfl ?_
      refine c_getI C u 5 dc_Co_giveOut_49 hu rfl rfl (Nat.le_of_ble_eq_true rfl) f_Co_24 (Nat.le_of_ble_eq_true rfl) ?_
      refine a_aload_n C dc_Co_giveOut_52 rfl rfl ?_
      refine c_getR C u 1 dc_Co_giveOut_53 hu rfl rfl (Nat.le_of_ble_eq_true rfl) f_Co_9 rfl hp.1 ?_
      have hp := hp.2
      refine a_iload_n C dc_Co_giveOut_56 rfl rfl ?_
      refine c_iald C (S.2.2 u 1) dc_Co_giveOut_57 hc3 hp.1 ?_
      have hp := hp.2
      refine a_iadd C dc_Co_giveOut_58 ?_
      refine c_putI (ty := .int) C u 5 dc_Co_giveOut_59 hu rfl rfl (Nat.le_of_ble_eq_true rfl) f_Co_24 (Nat.le_of_ble_eq_true rfl) rfl rfl rfl rfl ?_
      refine aw_eq (lo' := _) (st' := _) (L' := (cw lt_C U oa (va_up (va_up (va_up S.1 (S.2.2 u 2) (upd (S.1 (S.2.2 u 2)) x3.toNatClampNeg x1)) (S.2.2 u 3) (upd ((va_up S.1 (S.2.2 u 2) (upd (S.1 (S.2.2 u 2)) x3.toNatClampNeg x1)) (S.2.2 u 3)) x3.toNatClampNeg ((va_up S.1 (S.2.2 u 2) (upd (S.1 (S.2.2 u 2)) x3.toNatClampNeg x1)) u 5))) u (upd ((va_up (va_up S.1 (S.2.2 u 2) (upd (S.1 (S.2.2 u 2)) x3.toNatClampNeg x1)) (S.2.2 u 3) (upd ((va_up S.1 (S.2.2 u 2) (upd (S.1 (S.2.2 u 2)) x3.toNatClampNeg x1)) (S.2.2 u 3)) x3.toNatClampNeg ((va_up S.1 (S.2.2 u 2) (upd (S.1 (S.2.2 u 2)) x3.toNatClampNeg x1)) u 5))) u) 5 (((va_up (va_up S.1 (S.2.2 u 2) (upd (S.1 (S.2.2 u 2)) x3.toNatClampNeg x1)) (S.2.2 u 3) (upd ((va_up S.1 (S.2.2 u 2) (upd (S.1 (S.2.2 u 2)) x3.toNatClampNeg x1)) (S.2.2 u 3)) x3.toNatClampNeg ((va_up S.1 (S.2.2 u 2) (upd (S.1 (S.2.2 u 2)) x3.toNatClampNeg x1)) u 5))) u 5) + ((va_up (va_up S.1 (S.2.2 u 2) (upd (S.1 (S.2.2 u 2)) x3.toNatClampNeg x1)) (S.2.2 u 3) (upd ((va_up S.1 (S.2.2 u 2) (upd (S.1 (S.2.2 u 2)) x3.toNatClampNeg x1)) (S.2.2 u 3)) x3.toNatClampNeg ((va_up S.1 (S.2.2 u 2) (upd (S.1 (S.2.2 u 2)) x3.toNatClampNeg x1)) u 5))) (S.2.2 u 1) x3.toNatClampNeg))), S.2.1, S.2.2))) rfl rfl rfl ?_
      refine a_aload_n C dc_Co_giveOut_62 rfl rfl ?_
      refine c_getI C u 5 dc_Co_giveOut_63 hu rfl rfl (Nat.le_of_ble_eq_true rfl) f_Co_24 (Nat.le_of_ble_eq_true rfl) ?_
      refine a_aload_n C dc_Co_giveOut_66 rfl rfl ?_
      refine c_getR C u 4 dc_Co_giveOut_67 hu rfl rfl (Nat.le_of_ble_eq_true rfl) f_Co_21 rfl hp.1 ?_
      have hp := hp.2
      have hc4 := hp.1
      have hp := hp.2
      refine c_alen C (S.2.2 u 4) dc_Co_giveOut_70 hc4 ?_
      refine a_icmp_gt (tgt := 85) C dc_Co_giveOut_71 (by decide) ⟨fun hc => ?_, fun hc => ?_⟩
      · have hp := hp.1 hc
        refine aw_lo (lo' := [some (.ref (oa u)), some (.int (x1 + ((va_up (va_up S.1 (S.2.2 u 2) (upd (S.1 (S.2.2 u 2)) x3.toNatClampNeg x1)) (S.2.2 u 3) (upd ((va_up S.1 (S.2.2 u 2) (upd (S.1 (S.2.2 u 2)) x3.toNatClampNeg x1)) (S.2.2 u 3)) x3.toNatClampNeg ((va_up S.1 (S.2.2 u 2) (upd (S.1 (S.2.2 u 2)) x3.toNatClampNeg x1)) u 5))) (S.2.2 u 1) x3.toNatClampNeg))), none, some (.int x3)]) ⟨.inr rfl, .inr rfl, .inl rfl, .inr rfl, trivial⟩ ?_
        exact s_Co_giveOut_85 C hQ hA hR hu (x1 + ((va_up (va_up S.1 (S.2.2 u 2) (upd (S.1 (S.2.2 u 2)) x3.toNatClampNeg x1)) (S.2.2 u 3) (upd ((va_up S.1 (S.2.2 u 2) (upd (S.1 (S.2.2 u 2)) x3.toNatClampNeg x1)) (S.2.2 u 3)) x3.toNatClampNeg ((va_up S.1 (S.2.2 u 2) (upd (S.1 (S.2.2 u 2)) x3.toNatClampNeg x1)) u 5))) (S.2.2 u 1) x3.toNatClampNeg)) x3 (va_up (va_up (va_up S.1 (S.2.2 u 2) (upd (S.1 (S.2.2 u 2)) x3.toNatClampNeg x1)) (S.2.2 u 3) (upd ((va_up S.1 (S.2.2 u 2) (upd (S.1 (S.2.2 u 2)) x3.toNatClampNeg x1)) (S.2.2 u 3)) x3.toNatClampNeg ((va_up S.1 (S.2.2 u 2) (upd (S.1 (S.2.2 u 2)) x3.toNatClampNeg x1)) u 5))) u (upd ((va_up (va_up S.1 (S.2.2 u 2) (upd (S.1 (S.2.2 u 2)) x3.toNatClampNeg x1)) (S.2.2 u 3) (upd ((va_up S.1 (S.2.2 u 2) (upd (S.1 (S.2.2 u 2)) x3.toNatClampNeg x1)) (S.2.2 u 3)) x3.toNatClampNeg ((va_up S.1 (S.2.2 u 2) (upd (S.1 (S.2.2 u 2)) x3.toNatClampNeg x1)) u 5))) u) 5 (((va_up (va_up S.1 (S.2.2 u 2) (upd (S.1 (S.2.2 u 2)) x3.toNatClampNeg x1)) (S.2.2 u 3) (upd ((va_up S.1 (S.2.2 u 2) (upd (S.1 (S.2.2 u 2)) x3.toNatClampNeg x1)) (S.2.2 u 3)) x3.toNatClampNeg ((va_up S.1 (S.2.2 u 2) (upd (S.1 (S.2.2 u 2)) x3.toNatClampNeg x1)) u 5))) u 5) + ((va_up (va_up S.1 (S.2.2 u 2) (upd (S.1 (S.2.2 u 2)) x3.toNatClampNeg x1)) (S.2.2 u 3) (upd ((va_up S.1 (S.2.2 u 2) (upd (S.1 (S.2.2 u 2)) x3.toNatClampNeg x1)) (S.2.2 u 3)) x3.toNatClampNeg ((va_up S.1 (S.2.2 u 2) (upd (S.1 (S.2.2 u 2)) x3.toNatClampNeg x1)) u 5))) (S.2.2 u 1) x3.toNatClampNeg))), S.2.1, S.2.2) R11 hR11 hp
      · have hp := hp.2 hc
        refine a_iload_n C dc_Co_giveOut_74 rfl rfl ?_
        refine a_iconst (v := 1) C dc_Co_giveOut_75 (by decide) ?_
        refine a_iload_n C dc_Co_giveOut_76 rfl rfl ?_
        refine a_ishl C dc_Co_giveOut_77 ?_
        refine a_icmp_ge (tgt := 85) C dc_Co_giveOut_78 (by decide) ⟨fun hc => ?_, fun hc => ?_⟩
        · have hp := hp.1 hc
          refine aw_lo (lo' := [some (.ref (oa u)), some (.int (x1 + ((va_up (va_up S.1 (S.2.2 u 2) (upd (S.1 (S.2.2 u 2)) x3.toNatClampNeg x1)) (S.2.2 u 3) (upd ((va_up S.1 (S.2.2 u 2) (upd (S.1 (S.2.2 u 2)) x3.toNatClampNeg x1)) (S.2.2 u 3)) x3.toNatClampNeg ((va_up S.1 (S.2.2 u 2) (upd (S.1 (S.2.2 u 2)) x3.toNatClampNeg x1)) u 5))) (S.2.2 u 1) x3.toNatClampNeg))), none, some (.int x3)]) ⟨.inr rfl, .inr rfl, .inl rfl, .inr rfl, trivial⟩ ?_
          exact s_Co_giveOut_85 C hQ hA hR hu (x1 + ((va_up (va_up S.1 (S.2.2 u 2) (upd (S.1 (S.2.2 u 2)) x3.toNatClampNeg x1)) (S.2.2 u 3) (upd ((va_up S.1 (S.2.2 u 2) (upd (S.1 (S.2.2 u 2)) x3.toNatClampNeg x1)) (S.2.2 u 3)) x3.toNatClampNeg ((va_up S.1 (S.2.2 u 2) (upd (S.1 (S.2.2 u 2)) x3.toNatClampNeg x1)) u 5))) (S.2.2 u 1) x3.toNatClampNeg)) x3 (va_up (va_up (va_up S.1 (S.2.2 u 2) (upd (S.1 (S.2.2 u 2)) x3.toNatClampNeg x1)) (S.2.2 u 3) (upd ((va_up S.1 (S.2.2 u 2) (upd (S.1 (S.2.2 u 2)) x3.toNatClampNeg x1)) (S.2.2 u 3)) x3.toNatClampNeg ((va_up S.1 (S.2.2 u 2) (upd (S.1 (S.2.2 u 2)) x3.toNatClampNeg x1)) u 5))) u (upd ((va_up (va_up S.1 (S.2.2 u 2) (upd (S.1 (S.2.2 u 2)) x3.toNatClampNeg x1)) (S.2.2 u 3) (upd ((va_up S.1 (S.2.2 u 2) (upd (S.1 (S.2.2 u 2)) x3.toNatClampNeg x1)) (S.2.2 u 3)) x3.toNatClampNeg ((va_up S.1 (S.2.2 u 2) (upd (S.1 (S.2.2 u 2)) x3.toNatClampNeg x1)) u 5))) u) 5 (((va_up (va_up S.1 (S.2.2 u 2) (upd (S.1 (S.2.2 u 2)) x3.toNatClampNeg x1)) (S.2.2 u 3) (upd ((va_up S.1 (S.2.2 u 2) (upd (S.1 (S.2.2 u 2)) x3.toNatClampNeg x1)) (S.2.2 u 3)) x3.toNatClampNeg ((va_up S.1 (S.2.2 u 2) (upd (S.1 (S.2.2 u 2)) x3.toNatClampNeg x1)) u 5))) u 5) + ((va_up (va_up S.1 (S.2.2 u 2) (upd (S.1 (S.2.2 u 2)) x3.toNatClampNeg x1)) (S.2.2 u 3) (upd ((va_up S.1 (S.2.2 u 2) (upd (S.1 (S.2.2 u 2)) x3.toNatClampNeg x1)) (S.2.2 u 3)) x3.toNatClampNeg ((va_up S.1 (S.2.2 u 2) (upd (S.1 (S.2.2 u 2)) x3.toNatClampNeg x1)) u 5))) (S.2.2 u 1) x3.toNatClampNeg))), S.2.1, S.2.2) R11 hR11 hp
        · have hp := hp.2 hc
          refine a_iconst (v := 1) C dc_Co_giveOut_81 (by decide) ?_
          refine a_goto (tgt := 86) C dc_Co_giveOut_82 (by decide) ?_
          refine aw_lo (lo' := [some (.ref (oa u)), some (.int (x1 + ((va_up (va_up S.1 (S.2.2 u 2) (upd (S.1 (S.2.2 u 2)) x3.toNatClampNeg x1)) (S.2.2 u 3) (upd ((va_up S.1 (S.2.2 u 2) (upd (S.1 (S.2.2 u 2)) x3.toNatClampNeg x1)) (S.2.2 u 3)) x3.toNatClampNeg ((va_up S.1 (S.2.2 u 2) (upd (S.1 (S.2.2 u 2)) x3.toNatClampNeg x1)) u 5))) (S.2.2 u 1) x3.toNatClampNeg))), none, some (.int x3)]) ⟨.inr rfl, .inr rfl, .inl rfl, .inr rfl, trivial⟩ ?_
          exact s_Co_giveOut_86 C hQ hA hR hu (x1 + ((va_up (va_up S.1 (S.2.2 u 2) (upd (S.1 (S.2.2 u 2)) x3.toNatClampNeg x1)) (S.2.2 u 3) (upd ((va_up S.1 (S.2.2 u 2) (upd (S.1 (S.2.2 u 2)) x3.toNatClampNeg x1)) (S.2.2 u 3)) x3.toNatClampNeg ((va_up S.1 (S.2.2 u 2) (upd (S.1 (S.2.2 u 2)) x3.toNatClampNeg x1)) u 5))) (S.2.2 u 1) x3.toNatClampNeg)) x3 1 (va_up (va_up (va_up S.1 (S.2.2 u 2) (upd (S.1 (S.2.2 u 2)) x3.toNatClampNeg x1)) (S.2.2 u 3) (upd ((va_up S.1 (S.2.2 u 2) (upd (S.1 (S.2.2 u 2)) x3.toNatClampNeg x1)) (S.2.2 u 3)) x3.toNatClampNeg ((va_up S.1 (S.2.2 u 2) (upd (S.1 (S.2.2 u 2)) x3.toNatClampNeg x1)) u 5))) u (upd ((va_up (va_up S.1 (S.2.2 u 2) (upd (S.1 (S.2.2 u 2)) x3.toNatClampNeg x1)) (S.2.2 u 3) (upd ((va_up S.1 (S.2.2 u 2) (upd (S.1 (S.2.2 u 2)) x3.toNatClampNeg x1)) (S.2.2 u 3)) x3.toNatClampNeg ((va_up S.1 (S.2.2 u 2) (upd (S.1 (S.2.2 u 2)) x3.toNatClampNeg x1)) u 5))) u) 5 (((va_up (va_up S.1 (S.2.2 u 2) (upd (S.1 (S.2.2 u 2)) x3.toNatClampNeg x1)) (S.2.2 u 3) (upd ((va_up S.1 (S.2.2 u 2) (upd (S.1 (S.2.2 u 2)) x3.toNatClampNeg x1)) (S.2.2 u 3)) x3.toNatClampNeg ((va_up S.1 (S.2.2 u 2) (upd (S.1 (S.2.2 u 2)) x3.toNatClampNeg x1)) u 5))) u 5) + ((va_up (va_up S.1 (S.2.2 u 2) (upd (S.1 (S.2.2 u 2)) x3.toNatClampNeg x1)) (S.2.2 u 3) (upd ((va_up S.1 (S.2.2 u 2) (upd (S.1 (S.2.2 u 2)) x3.toNatClampNeg x1)) (S.2.2 u 3)) x3.toNatClampNeg ((va_up S.1 (S.2.2 u 2) (upd (S.1 (S.2.2 u 2)) x3.toNatClampNeg x1)) u 5))) (S.2.2 u 1) x3.toNatClampNeg))), S.2.1, S.2.2) R11 hR11 hp
set_option maxRecDepth 100000 in
set_option maxHeartbeats 1000000 in
theorem se_Co_giveOut_11 (C : fcx gG D z A X R_Co c_C_Co_giveOut 4 (some .boolean)) (hQ : X.2.2.2.2.2.2.2.2.2.2 = eQ gG D z X.2.2.2.2.2.2.2.1 X.2.2.2.2.1 L0 0 0 (pC_i lt_C U oa K (fun _ _ => False))) (hA : A = owA gG L0 X.2.2.2.2.1.heap.size) (hR : X.2.2.2.1 = { frames := 1, cells := 1, slots := 6, locals := 100 }) (hu : c_cl U u = 3) (x1 : Int32) (x2 : Int32) (x3 : Int32) (S : cs) (hp : e_Co_giveOut_11 U u x1 x2 x3 S K) : aw gG D z A X 4 11 [some (.ref (oa u)), some (.int x1), some (.int x2), some (.int x3)] [] (cw lt_C U oa S) 0 0 := by
  obtain ⟨I, μ, h0, hs⟩ := hp
  have key : ∀ (n : Nat) (yx1 : Int32) (yx2 : Int32) (yx3 : Int32) (yS : cs), μ yx1 yx2 yx3 yS < n → I yx1 yx2 yx3 yS → aw gG D z A X 4 11 [some (.ref (oa u)), some (.int yx1), some (.int yx2), some (.int yx3)] [] (cw lt_C U oa yS) 0 0 := by
    intro n
    induction n with
    | zero => intro yx1 yx2 yx3 yS h; omega
    | succ n ih =>
      intro yx1 yx2 yx3 yS hn hI
      exact s_Co_giveOut_11 C hQ hA hR hu yx1 yx2 yx3 yS _ (fun zx1 zx2 zx3 zS hw => ih zx1 zx2 zx3 zS (by omega) hw.1) (hs yx1 yx2 yx3 yS hI)
  exact key (μ x1 x2 x3 S + 1) x1 x2 x3 S (Nat.lt_succ_self _) h0
set_option maxRecDepth 100000 in
set_option maxHeartbeats 1000000 in
theorem s_Co_giveOut_0 (C : fcx gG D z A X R_Co c_C_Co_giveOut 4 (some .boolean)) (hQ : X.2.2.2.2.2.2.2.2.2.2 = eQ gG D z X.2.2.2.2.2.2.2.1 X.2.2.2.2.1 L0 0 0 (pC_i lt_C U oa K (fun _ _ => False))) (hA : A = owA gG L0 X.2.2.2.2.1.heap.size) (hR : X.2.2.2.1 = { frames := 1, cells := 1, slots := 6, locals := 100 }) (hu : c_cl U u = 3)  (S : cs) (hp : p_Co_giveOut U u S K) : aw gG D z A X 4 0 [some (.ref (oa u)), none, none, none] [] (cw lt_C U oa S) 0 0 := by
  unfold p_Co_giveOut at hp
  refine a_iconst (v := 0) C dc_Co_giveOut_0 (by decide) ?_
  refine a_istore_n (lo' := [some (.ref (oa u)), some (.int 0), none, none]) C dc_Co_giveOut_1 rfl (by decide) rfl ?_
  refine a_iconst (v := 1) C dc_Co_giveOut_2 (by decide) ?_
  refine a_istore_n (lo' := [some (.ref (oa u)), some (.int 0), some (.int 1), none]) C dc_Co_giveOut_3 rfl (by decide) rfl ?_
  refine a_aload_n C dc_Co_giveOut_4 rfl rfl ?_
  refine a_iconst (v := 0) C dc_Co_giveOut_5 (by decide) ?_
  refine c_putI (ty := .int) C u 5 dc_Co_giveOut_6 hu rfl rfl (Nat.le_of_ble_eq_true rfl) f_Co_24 (Nat.le_of_ble_eq_true rfl) rfl rfl rfl rfl ?_
  refine aw_eq (lo' := _) (st' := _) (L' := (cw lt_C U oa (va_up S.1 u (upd (S.1 u) 5 0), S.2.1, S.2.2))) rfl rfl rfl ?_
  refine a_iconst (v := 1) C dc_Co_giveOut_9 (by decide) ?_
  refine a_istore_n (lo' := [some (.ref (oa u)), some (.int 0), some (.int 1), some (.int 1)]) C dc_Co_giveOut_10 rfl (by decide) rfl ?_
  refine aw_lo (lo' := [some (.ref (oa u)), some (.int 0), some (.int 1), some (.int 1)]) ⟨.inr rfl, .inr rfl, .inr rfl, .inr rfl, trivial⟩ ?_
  exact se_Co_giveOut_11 C hQ hA hR hu 0 1 1 (va_up S.1 u (upd (S.1 u) 5 0), S.2.1, S.2.2)  hp
end C_Co_giveOut
section C_Co_giveOutc
variable {D : va_G} {z : Nat → ClassId} {U : ut} {oa : Nat → Nat}
set_option maxRecDepth 100000 in
theorem ct_Co_giveOut {l : Launch} (u : Nat)  (S : cs) {K : Int32 → cs → Prop} (hu : c_cl U u = 3) (hp : p_Co_giveOut U u S K) : ct gG D z l n_C_Co_giveOut c_C_Co_giveOut 4 (some .boolean) 1 100 [.ref (oa u)] (cw lt_C U oa S) 0 0 (pC_i lt_C U oa K (fun _ _ => False)) := by
  refine ct_of (lo := [some (.ref (oa u)), none, none, none]) (by decide) g_ok (Nat.le_of_ble_eq_true rfl) rfl ?_
  intro X A _ C hR hQ hA _
  exact s_Co_giveOut_0 C hQ hA hR hu S hp
end C_Co_giveOutc
def b_Un_isForRests_29 (s0 : Int32) (K : Int32 → Prop) : Prop :=
  narrow .boolean (.int s0) = .int s0 ∧ K s0
def b_Un_isForRests_24  (K : Int32 → Prop) : Prop :=
  b_Un_isForRests_29 1 K
def p_Un_isForRests (x0 : Int32) (K : Int32 → Prop) : Prop :=
  (x0 = 0 → (b_Un_isForRests_24 K)) ∧ (¬ (x0 = 0) → ((x0 = 240 → (b_Un_isForRests_24 K)) ∧ (¬ (x0 = 240) → (p_B_isWithin (x0 - x0 / 16 * 16) 1 10 (fun v18 => (v18 = 0 → (b_Un_isForRests_29 0 K)) ∧ (¬ (v18 = 0) → (b_Un_isForRests_24 K)))))))
section C_Un_isForRests
variable {D : va_G} {z : Nat → ClassId} {A : Nat → Prop} {X : cx} {L0 : fw} {K : Int32 → Prop}
set_option maxRecDepth 100000 in
set_option maxHeartbeats 1000000 in
theorem s_Un_isForRests_29 (C : fcx gG D z A X R_Un c_C_Un_isForRests 1 (some .boolean)) (hQ : X.2.2.2.2.2.2.2.2.2.2 = eQ gG D z X.2.2.2.2.2.2.2.1 X.2.2.2.2.1 L0 0 0 (pS_i K)) (hA : A = owA gG L0 X.2.2.2.2.1.heap.size) (hR : X.2.2.2.1 = { frames := 2, cells := 1, slots := 6, locals := 200 }) (s0 : Int32) (hp : b_Un_isForRests_29 s0 K) : aw gG D z A X 1 29 [none] [.int s0] ([] : fw) 0 0 := by
  unfold b_Un_isForRests_29 at hp
  exact a_iret (ty := .boolean) C hQ hA dc_Un_isForRests_29 rfl hp.1 ⟨_, hp.2, rfl, rfl⟩
set_option maxRecDepth 100000 in
set_option maxHeartbeats 1000000 in
theorem s_Un_isForRests_24 (C : fcx gG D z A X R_Un c_C_Un_isForRests 1 (some .boolean)) (hQ : X.2.2.2.2.2.2.2.2.2.2 = eQ gG D z X.2.2.2.2.2.2.2.1 X.2.2.2.2.1 L0 0 0 (pS_i K)) (hA : A = owA gG L0 X.2.2.2.2.1.heap.size) (hR : X.2.2.2.1 = { frames := 2, cells := 1, slots := 6, locals := 200 })  (hp : b_Un_isForRests_24  K) : aw gG D z A X 1 24 [none] [] ([] : fw) 0 0 := by
  unfold b_Un_isForRests_24 at hp
  refine a_iconst (v := 1) C dc_Un_isForRests_24 (by decide) ?_
  refine a_goto (tgt := 29) C dc_Un_isForRests_25 (by decide) ?_
  refine aw_lo (lo' := [none]) ⟨.inr rfl, trivial⟩ ?_
  exact s_Un_isForRests_29 C hQ hA hR 1  hp
set_option maxRecDepth 100000 in
set_option maxHeartbeats 1000000 in
theorem s_Un_isForRests_0 (C : fcx gG D z A X R_Un c_C_Un_isForRests 1 (some .boolean)) (hQ : X.2.2.2.2.2.2.2.2.2.2 = eQ gG D z X.2.2.2.2.2.2.2.1 X.2.2.2.2.1 L0 0 0 (pS_i K)) (hA : A = owA gG L0 X.2.2.2.2.1.heap.size) (hR : X.2.2.2.1 = { frames := 2, cells := 1, slots := 6, locals := 200 }) (x0 : Int32) (hp : p_Un_isForRests x0 K) : aw gG D z A X 1 0 [some (.int x0)] [] ([] : fw) 0 0 := by
  unfold p_Un_isForRests at hp
  refine a_iload_n C dc_Un_isForRests_0 rfl rfl ?_
  refine a_if_eq (tgt := 24) C dc_Un_isForRests_1 (by decide) ⟨fun hc => ?_, fun hc => ?_⟩
  · have hp := hp.1 hc
    refine aw_lo (lo' := [none]) ⟨.inl rfl, trivial⟩ ?_
    exact s_Un_isForRests_24 C hQ hA hR   hp
  · have hp := hp.2 hc
    refine a_iload_n C dc_Un_isForRests_4 rfl rfl ?_
    refine a_sipush (v := 240) C dc_Un_isForRests_5 (by decide) ?_
    refine a_icmp_eq (tgt := 24) C dc_Un_isForRests_8 (by decide) ⟨fun hc => ?_, fun hc => ?_⟩
    · have hp := hp.1 hc
      refine aw_lo (lo' := [none]) ⟨.inl rfl, trivial⟩ ?_
      exact s_Un_isForRests_24 C hQ hA hR   hp
    · have hp := hp.2 hc
      refine a_iload_n C dc_Un_isForRests_11 rfl rfl ?_
      refine a_bipush (v := 16) C dc_Un_isForRests_12 (by decide) ?_
      refine a_irem C dc_Un_isForRests_14 (by decide) ?_
      refine a_iconst (v := 1) C dc_Un_isForRests_15 (by decide) ?_
      refine a_bipush (v := 10) C dc_Un_isForRests_16 (by decide) ?_
      refine a_callP (rest := []) (av := [.int (x0 - x0 / 16 * 16), .int 1, .int 10]) C dc_Un_isForRests_18 (ct_B_isWithin (x0 - x0 / 16 * 16) 1 10 hp) cd_C_B_isWithin i_B (Nat.le_of_ble_eq_true rfl) (by rw [hR]; exact Nat.le_of_ble_eq_true rfl) (by rw [hR]; exact Nat.le_of_ble_eq_true rfl) (by rw [hR]; exact Nat.le_of_ble_eq_true rfl) (by rw [hR]; exact Nat.le_of_ble_eq_true rfl) (inv_SN C dc_Un_isForRests_18 l_Un_141 st_C_B_isWithin i_B cd_C_B_isWithin ⟨by decide, by decide⟩ ln_C_B_isWithin rfl) (fun v18 hp => ?_)
      refine aw_eq (lo' := _) (st' := [.int v18]) (L' := ([] : fw)) rfl rfl rfl ?_
      refine a_if_eq (tgt := 28) C dc_Un_isForRests_21 (by decide) ⟨fun hc => ?_, fun hc => ?_⟩
      · have hp := hp.1 hc
        refine a_iconst (v := 0) C dc_Un_isForRests_28 (by decide) ?_
        refine aw_lo (lo' := [none]) ⟨.inl rfl, trivial⟩ ?_
        exact s_Un_isForRests_29 C hQ hA hR 0  hp
      · have hp := hp.2 hc
        refine aw_lo (lo' := [none]) ⟨.inl rfl, trivial⟩ ?_
        exact s_Un_isForRests_24 C hQ hA hR   hp
end C_Un_isForRests
section C_Un_isForRestsc
variable {D : va_G} {z : Nat → ClassId}
set_option maxRecDepth 100000 in
theorem ct_Un_isForRests {l : Launch} (x0 : Int32) {K : Int32 → Prop} (hp : p_Un_isForRests x0 K) : ct gG D z l n_C_Un_isForRests c_C_Un_isForRests 1 (some .boolean) 2 200 [.int x0] ([] : fw) 0 0 (pS_i K) := by
  refine ct_of (lo := [some (.int x0)]) (by decide) g_ok (Nat.le_of_ble_eq_true rfl) rfl ?_
  intro X A _ C hR hQ hA _
  exact s_Un_isForRests_0 C hQ hA hR x0 hp
end C_Un_isForRestsc
def b_Un_readCodes_174 (U : ut) (u : Nat) (x1 : Int32) (x2 : Nat) (x4 : Int32) (x5 : Int32) (S : cs) (R111 : Int32 → Nat → Int32 → cs → Prop) (K : cs → Prop) (T : Nat → cs → Prop) : Prop :=
  c_cl U x2 = 3 ∧ (¬ S.2.2 x2 4 = NU ∧ (c_cl U (S.2.2 x2 4) = 902 ∧ (vp_in x4 (c_ln U (S.2.2 x2 4)) ∧ (R111 x1 x2 (x4 + 1) (va_up S.1 (S.2.2 x2 4) (upd (S.1 (S.2.2 x2 4)) x4.toNatClampNeg x5), S.2.1, S.2.2)))))
def b_Un_readCodes_157 (U : ut) (u : Nat) (x1 : Int32) (x2 : Nat) (x4 : Int32) (x5 : Int32) (S : cs) (R111 : Int32 → Nat → Int32 → cs → Prop) (K : cs → Prop) (T : Nat → cs → Prop) : Prop :=
  ¬ S.2.2 u 0 = NU ∧ (¬ S.2.2 u 0 = NU ∧ (c_cl U (S.2.2 u 0) = 8 ∧ (p_Re_fail U (S.2.2 u 0) 5 ((S.1 (S.2.2 u 0) 1) - 1) S (fun S171 => b_Un_readCodes_174 U u x1 x2 x4 x5 S171 R111 K T) T)))
def b_Un_readCodes_111 (U : ut) (u : Nat) (x1 : Int32) (x2 : Nat) (x4 : Int32) (S : cs) (R111 : Int32 → Nat → Int32 → cs → Prop) (K : cs → Prop) (T : Nat → cs → Prop) : Prop :=
  c_cl U x2 = 3 ∧ (((S.1 x2 5) ≤ x4 → (K (va_up S.1 x2 (upd (S.1 x2) 0 1), S.2.1, S.2.2))) ∧ (¬ ((S.1 x2 5) ≤ x4) → (p_Un_wantMore U u S (fun S121 => ¬ S121.2.2 u 0 = NU ∧ (c_cl U (S121.2.2 u 0) = 8 ∧ (p_Re_read U (S121.2.2 u 0) S121 (fun v128 S128 => (16 ≤ x1 → (p_Un_isForRests v128 (fun v151 => (¬ v151 = 0 → (b_Un_readCodes_174 U u x1 x2 x4 v128 S128 R111 K T)) ∧ (v151 = 0 → (b_Un_readCodes_157 U u x1 x2 x4 v128 S128 R111 K T))))) ∧ (¬ (16 ≤ x1) → ((v128 ≤ 11 → (b_Un_readCodes_174 U u x1 x2 x4 v128 S128 R111 K T)) ∧ (¬ (v128 ≤ 11) → (b_Un_readCodes_157 U u x1 x2 x4 v128 S128 R111 K T))))) T))) T)))
def e_Un_readCodes_111 (U : ut) (u : Nat) (x1 : Int32) (x2 : Nat) (x4 : Int32) (S : cs) (K : cs → Prop) (T : Nat → cs → Prop) : Prop :=
  ∃ (I : Int32 → Nat → Int32 → cs → Prop) (μ : Int32 → Nat → Int32 → cs → Nat), I x1 x2 x4 S ∧ ∀ yx1 yx2 yx4 yS, I yx1 yx2 yx4 yS → b_Un_readCodes_111 U u yx1 yx2 yx4 yS (fun zx1 zx2 zx4 zS => I zx1 zx2 zx4 zS ∧ μ zx1 zx2 zx4 zS < μ yx1 yx2 yx4 yS) K T
def b_Un_readCodes_108 (U : ut) (u : Nat) (x1 : Int32) (x2 : Nat) (S : cs) (K : cs → Prop) (T : Nat → cs → Prop) : Prop :=
  e_Un_readCodes_111 U u x1 x2 0 S K T
def b_Un_readCodes_61 (U : ut) (u : Nat) (x1 : Int32) (x2 : Nat) (x3 : Int32) (x4 : Int32) (S : cs) (R61 : Int32 → Nat → Int32 → Int32 → cs → Prop) (K : cs → Prop) (T : Nat → cs → Prop) : Prop :=
  (16 < x4 → (c_cl U x2 = 3 ∧ (p_Co_giveOut U x2 S (fun v93 S93 => (¬ v93 = 0 → (b_Un_readCodes_108 U u x1 x2 S93 K T)) ∧ (v93 = 0 → (¬ S93.2.2 u 0 = NU ∧ (c_cl U (S93.2.2 u 0) = 8 ∧ (p_Re_fail U (S93.2.2 u 0) 5 x3 S93 (fun S105 => b_Un_readCodes_108 U u x1 x2 S105 K T) T)))))))) ∧ (¬ (16 < x4) → (p_Un_wantMore U u S (fun S69 => c_cl U x2 = 3 ∧ (¬ S69.2.2 x2 1 = NU ∧ (¬ S69.2.2 u 0 = NU ∧ (c_cl U (S69.2.2 u 0) = 8 ∧ (p_Re_read U (S69.2.2 u 0) S69 (fun v82 S82 => c_cl U (S69.2.2 x2 1) = 902 ∧ (vp_in x4 (c_ln U (S69.2.2 x2 1)) ∧ (R61 x1 x2 x3 (x4 + 1) (va_up S82.1 (S69.2.2 x2 1) (upd (S82.1 (S69.2.2 x2 1)) x4.toNatClampNeg v82), S82.2.1, S82.2.2)))) T))))) T))
def e_Un_readCodes_61 (U : ut) (u : Nat) (x1 : Int32) (x2 : Nat) (x3 : Int32) (x4 : Int32) (S : cs) (K : cs → Prop) (T : Nat → cs → Prop) : Prop :=
  ∃ (I : Int32 → Nat → Int32 → Int32 → cs → Prop) (μ : Int32 → Nat → Int32 → Int32 → cs → Nat), I x1 x2 x3 x4 S ∧ ∀ yx1 yx2 yx3 yx4 yS, I yx1 yx2 yx3 yx4 yS → b_Un_readCodes_61 U u yx1 yx2 yx3 yx4 yS (fun zx1 zx2 zx3 zx4 zS => I zx1 zx2 zx3 zx4 zS ∧ μ zx1 zx2 zx3 zx4 zS < μ yx1 yx2 yx3 yx4 yS) K T
def b_Un_readCodes_33 (U : ut) (u : Nat) (x1 : Int32) (S : cs) (K : cs → Prop) (T : Nat → cs → Prop) : Prop :=
  ¬ S.2.2 u 5 = NU ∧ (c_cl U (S.2.2 u 5) = 951 ∧ (vp_in (((x1 / 16) * 2) + (x1 - x1 / 16 * 16)) (c_ln U (S.2.2 u 5)) ∧ ¬ S.2.2 (S.2.2 u 5) (((x1 / 16) * 2) + (x1 - x1 / 16 * 16)).toNatClampNeg = NU ∧ (¬ S.2.2 u 0 = NU ∧ (c_cl U (S.2.2 u 0) = 8 ∧ (e_Un_readCodes_61 U u x1 (S.2.2 (S.2.2 u 5) (((x1 / 16) * 2) + (x1 - x1 / 16 * 16)).toNatClampNeg) (S.1 (S.2.2 u 0) 1) 1 S K T)))))
def p_Un_readCodes (U : ut) (u : Nat)  (S : cs) (K : cs → Prop) (T : Nat → cs → Prop) : Prop :=
  p_Un_readWithin U u 0 17 S (fun v4 S4 => ((v4 - v4 / 16 * 16) ≤ 1 → (b_Un_readCodes_33 U u v4 S4 K T)) ∧ (¬ ((v4 - v4 / 16 * 16) ≤ 1) → (¬ S4.2.2 u 0 = NU ∧ (¬ S4.2.2 u 0 = NU ∧ (c_cl U (S4.2.2 u 0) = 8 ∧ (p_Re_fail U (S4.2.2 u 0) 5 ((S4.1 (S4.2.2 u 0) 1) - 1) S4 (fun S30 => b_Un_readCodes_33 U u v4 S30 K T) T)))))) T
section C_Un_readCodes
variable {D : va_G} {z : Nat → ClassId} {A : Nat → Prop} {X : cx} {L0 : fw} {U : ut} {oa : Nat → Nat} {u : Nat} {K : cs → Prop} {T : Nat → cs → Prop}
set_option maxRecDepth 100000 in
set_option maxHeartbeats 1000000 in
theorem s_Un_readCodes_174 (C : fcx gG D z A X R_Un c_C_Un_readCodes 6 (none)) (hQ : X.2.2.2.2.2.2.2.2.2.2 = eQ gG D z X.2.2.2.2.2.2.2.1 X.2.2.2.2.1 L0 0 0 (pC_v lt_C U oa K T)) (hA : A = owA gG L0 X.2.2.2.2.1.heap.size) (hR : X.2.2.2.1 = { frames := 11, cells := 1, slots := 6, locals := 1100 }) (hno : ∀ x ∈ X.2.2.2.2.2.2.2.2.2.1.exceptionTable.toList, False) (hfl : X.2.1.flags = pinnedFlags ++ [noTraceFlag]) (hu : c_cl U u = 11) (x1 : Int32) (x2 : Nat) (x4 : Int32) (x5 : Int32) (S : cs) (R111 : Int32 → Nat → Int32 → cs → Prop) (hR111 : ∀ yx1 yx2 yx4 yS, R111 yx1 yx2 yx4 yS → aw gG D z A X 6 111 [some (.ref (oa u)), some (.int yx1), some (.ref (oa yx2)), none, some (.int yx4), none] [] (cw lt_C U oa yS) 0 0) (hp : b_Un_readCodes_174 U u x1 x2 x4 x5 S R111 K T) : aw gG D z A X 6 174 [some (.ref (oa u)), some (.int x1), some (.ref (oa x2)), none, some (.int x4), some (.int x5)] [] (cw lt_C U oa S) 0 0 := by
  unfold b_Un_readCodes_174 at hp
  refine a_aload_n C dc_Un_readCodes_174 rfl rfl ?_
  have hc1 := hp.1
  have hp := hp.2
  refine c_getRN C x2 4 dc_Un_readCodes_175 hc1 rfl rfl (Nat.le_of_ble_eq_true rfl) f_Un_170 rfl hp.1 ?_
  have hp := hp.2
  refine a_iload C dc_Un_readCodes_178 rfl ?_
  refine a_iload C dc_Un_readCodes_180 rfl ?_
  have hc2 := hp.1
  have hp := hp.2
  refine c_iast C (S.2.2 x2 4) dc_Un_readCodes_182 hc2 hp.1 ?_
  have hp := hp.2
  refine aw_eq (lo' := _) (st' := _) (L' := (cw lt_C U oa (va_up S.1 (S.2.2 x2 4) (upd (S.1 (S.2.2 x2 4)) x4.toNatClampNeg x5), S.2.1, S.2.2))) rfl rfl rfl ?_
  refine a_iinc (v := x4 + 1) (lo' := [some (.ref (oa u)), some (.int x1), some (.ref (oa x2)), none, some (.int (x4 + 1)), some (.int x5)]) C dc_Un_readCodes_183 rfl rfl (by decide) rfl ?_
  refine a_goto (tgt := 111) C dc_Un_readCodes_186 (by decide) ?_
  refine aw_lo (lo' := [some (.ref (oa u)), some (.int x1), some (.ref (oa x2)), none, some (.int (x4 + 1)), none]) ⟨.inr rfl, .inr rfl, .inr rfl, .inr rfl, .inr rfl, .inl rfl, trivial⟩ ?_
  exact hR111 x1 x2 (x4 + 1) (va_up S.1 (S.2.2 x2 4) (upd (S.1 (S.2.2 x2 4)) x4.toNatClampNeg x5), S.2.1, S.2.2) hp
set_option maxRecDepth 100000 in
set_option maxHeartbeats 1000000 in
theorem s_Un_readCodes_157 (C : fcx gG D z A X R_Un c_C_Un_readCodes 6 (none)) (hQ : X.2.2.2.2.2.2.2.2.2.2 = eQ gG D z X.2.2.2.2.2.2.2.1 X.2.2.2.2.1 L0 0 0 (pC_v lt_C U oa K T)) (hA : A = owA gG L0 X.2.2.2.2.1.heap.size) (hR : X.2.2.2.1 = { frames := 11, cells := 1, slots := 6, locals := 1100 }) (hno : ∀ x ∈ X.2.2.2.2.2.2.2.2.2.1.exceptionTable.toList, False) (hfl : X.2.1.flags = pinnedFlags ++ [noTraceFlag]) (hu : c_cl U u = 11) (x1 : Int32) (x2 : Nat) (x4 : Int32) (x5 : Int32) (S : cs) (R111 : Int32 → Nat → Int32 → cs → Prop) (hR111 : ∀ yx1 yx2 yx4 yS, R111 yx1 yx2 yx4 yS → aw gG D z A X 6 111 [some (.ref (oa u)), some (.int yx1), some (.ref (oa yx2)), none, some (.int yx4), none] [] (cw lt_C U oa yS) 0 0) (hp : b_Un_readCodes_157 U u x1 x2 x4 x5 S R111 K T) : aw gG D z A X 6 157 [some (.ref (oa u)), some (.int x1), some (.ref (oa x2)), none, some (.int x4), some (.int x5)] [] (cw lt_C U oa S) 0 0 := by
  unfold b_Un_readCodes_157 at hp
  refine a_aload_n C dc_Un_readCodes_157 rfl rfl ?_
  refine c_getR C u 0 dc_Un_readCodes_158 hu rfl rfl (Nat.le_of_ble_eq_true rfl) f_Un_12 rfl hp.1 ?_
  have hp := hp.2
  refine a_iconst (v := 5) C dc_Un_readCodes_161 (by decide) ?_
  refine a_aload_n C dc_Un_readCodes_162 rfl rfl ?_
  refine c_getR C u 0 dc_Un_readCodes_163 hu rfl rfl (Nat.le_of_ble_eq_true rfl) f_Un_12 rfl hp.1 ?_
  have hp := hp.2
  have hc3 := hp.1
  have hp := hp.2
  refine c_getIN C (S.2.2 u 0) 1 dc_Un_readCodes_166 hc3 rfl rfl (Nat.le_of_ble_eq_true rfl) f_Un_70 (Nat.le_of_ble_eq_true rfl) ?_
  refine a_iconst (v := 1) C dc_Un_readCodes_169 (by decide) ?_
  refine a_isub C dc_Un_readCodes_170 ?_
  refine c_callT (rest := []) (av := .ref (oa (S.2.2 u 0)) :: [.int 5, .int ((S.1 (S.2.2 u 0) 1) - 1)]) C dc_Un_readCodes_171 (ct_Re_fail (S.2.2 u 0) 5 ((S.1 (S.2.2 u 0) 1) - 1) S hfl hc3 hp) cd_C_Re_fail i_Re (Nat.le_of_ble_eq_true rfl) (by rw [hR]; exact Nat.le_of_ble_eq_true rfl) (by rw [hR]; exact Nat.le_of_ble_eq_true rfl) (by rw [hR]; exact Nat.le_of_ble_eq_true rfl) (by rw [hR]; exact Nat.le_of_ble_eq_true rfl) (inv_V C (S.2.2 u 0) dc_Un_readCodes_171 l_Un_74 im_C_Re_fail se_C_Re_fail cd_C_Re_fail ⟨by decide, by decide⟩ ln_C_Re_fail rfl rfl (cw_obj hc3 rfl) rfl rfl) (fun oc L1 hL => ?_)
  rcases hL with ⟨S171, hp, rfl, rfl⟩ | ⟨c9, a9, S9, hp, rfl, rfl⟩
  rotate_left
  · exact Or.inr ⟨a9, rfl, t_out C hQ hA (fun x hx => (hno x hx).elim) (Or.inr ⟨c9, a9, S9, hp, rfl, rfl⟩) (Nat.le_of_ble_eq_true rfl) (Nat.le_of_ble_eq_true rfl)⟩
  refine Or.inl ⟨_, rfl, ?_⟩
  refine aw_eq (lo' := _) (st' := []) (L' := (cw lt_C U oa S171)) rfl rfl rfl ?_
  refine aw_lo (lo' := [some (.ref (oa u)), some (.int x1), some (.ref (oa x2)), none, some (.int x4), some (.int x5)]) ⟨.inr rfl, .inr rfl, .inr rfl, .inr rfl, .inr rfl, .inr rfl, trivial⟩ ?_
  exact s_Un_readCodes_174 C hQ hA hR hno hfl hu x1 x2 x4 x5 S171 R111 hR111 hp
set_option maxRecDepth 100000 in
set_option maxHeartbeats 1000000 in
theorem s_Un_readCodes_111 (C : fcx gG D z A X R_Un c_C_Un_readCodes 6 (none)) (hQ : X.2.2.2.2.2.2.2.2.2.2 = eQ gG D z X.2.2.2.2.2.2.2.1 X.2.2.2.2.1 L0 0 0 (pC_v lt_C U oa K T)) (hA : A = owA gG L0 X.2.2.2.2.1.heap.size) (hR : X.2.2.2.1 = { frames := 11, cells := 1, slots := 6, locals := 1100 }) (hno : ∀ x ∈ X.2.2.2.2.2.2.2.2.2.1.exceptionTable.toList, False) (hfl : X.2.1.flags = pinnedFlags ++ [noTraceFlag]) (hu : c_cl U u = 11) (x1 : Int32) (x2 : Nat) (x4 : Int32) (S : cs) (R111 : Int32 → Nat → Int32 → cs → Prop) (hR111 : ∀ yx1 yx2 yx4 yS, R111 yx1 yx2 yx4 yS → aw gG D z A X 6 111 [some (.ref (oa u)), some (.int yx1), some (.ref (oa yx2)), none, some (.int yx4), none] [] (cw lt_C U oa yS) 0 0) (hp : b_Un_readCodes_111 U u x1 x2 x4 S R111 K T) : aw gG D z A X 6 111 [some (.ref (oa u)), some (.int x1), some (.ref (oa x2)), none, some (.int x4), none] [] (cw lt_C U oa S) 0 0 := by
  unfold b_Un_readCodes_111 at hp
  refine a_iload C dc_Un_readCodes_111 rfl ?_
  refine a_aload_n C dc_Un_readCodes_113 rfl rfl ?_
  have hc4 := hp.1
  have hp := hp.2
  refine c_getIN C x2 5 dc_Un_readCodes_114 hc4 rfl rfl (Nat.le_of_ble_eq_true rfl) f_Un_164 (Nat.le_of_ble_eq_true rfl) ?_
  refine a_icmp_ge (tgt := 189) C dc_Un_readCodes_117 (by decide) ⟨fun hc => ?_, fun hc => ?_⟩
  · have hp := hp.1 hc
    refine a_aload_n C dc_Un_readCodes_189 rfl rfl ?_
    refine a_iconst (v := 1) C dc_Un_readCodes_190 (by decide) ?_
    refine c_putIN (ty := .boolean) C x2 0 dc_Un_readCodes_191 hc4 rfl rfl (Nat.le_of_ble_eq_true rfl) f_Un_105 (Nat.le_of_ble_eq_true rfl) rfl rfl rfl rfl ?_
    refine aw_eq (lo' := _) (st' := _) (L' := (cw lt_C U oa (va_up S.1 x2 (upd (S.1 x2) 0 1), S.2.1, S.2.2))) rfl rfl rfl ?_
    exact a_vret C hQ hA dc_Un_readCodes_194 rfl (Or.inl ⟨(va_up S.1 x2 (upd (S.1 x2) 0 1), S.2.1, S.2.2), hp, rfl, rfl⟩)
  · have hp := hp.2 hc
    refine a_aload_n C dc_Un_readCodes_120 rfl rfl ?_
    refine c_callT (rest := []) (av := .ref (oa u) :: []) C dc_Un_readCodes_121 (ct_Un_wantMore u S hfl hu hp) cd_C_Un_wantMore i_Un (Nat.le_of_ble_eq_true rfl) (by rw [hR]; exact Nat.le_of_ble_eq_true rfl) (by rw [hR]; exact Nat.le_of_ble_eq_true rfl) (by rw [hR]; exact Nat.le_of_ble_eq_true rfl) (by rw [hR]; exact Nat.le_of_ble_eq_true rfl) (inv_V C u dc_Un_readCodes_121 l_Un_155 im_C_Un_wantMore se_C_Un_wantMore cd_C_Un_wantMore ⟨by decide, by decide⟩ ln_C_Un_wantMore rfl rfl (cw_obj hu rfl) rfl rfl) (fun oc L1 hL => ?_)
    rcases hL with ⟨S121, hp, rfl, rfl⟩ | ⟨c9, a9, S9, hp, rfl, rfl⟩
    rotate_left
    · exact Or.inr ⟨a9, rfl, t_out C hQ hA (fun x hx => (hno x hx).elim) (Or.inr ⟨c9, a9, S9, hp, rfl, rfl⟩) (Nat.le_of_ble_eq_true rfl) (Nat.le_of_ble_eq_true rfl)⟩
    refine Or.inl ⟨_, rfl, ?_⟩
    refine aw_eq (lo' := _) (st' := []) (L' := (cw lt_C U oa S121)) rfl rfl rfl ?_
    refine a_aload_n C dc_Un_readCodes_124 rfl rfl ?_
    refine c_getR C u 0 dc_Un_readCodes_125 hu rfl rfl (Nat.le_of_ble_eq_true rfl) f_Un_12 rfl hp.1 ?_
    have hp := hp.2
    have hc5 := hp.1
    have hp := hp.2
    refine c_callT (rest := []) (av := .ref (oa (S121.2.2 u 0)) :: []) C dc_Un_readCodes_128 (ct_Re_read (S121.2.2 u 0) S121 hfl hc5 hp) cd_C_Re_read i_Re (Nat.le_of_ble_eq_true rfl) (by rw [hR]; exact Nat.le_of_ble_eq_true rfl) (by rw [hR]; exact Nat.le_of_ble_eq_true rfl) (by rw [hR]; exact Nat.le_of_ble_eq_true rfl) (by rw [hR]; exact Nat.le_of_ble_eq_true rfl) (inv_V C (S121.2.2 u 0) dc_Un_readCodes_128 l_Un_138 im_C_Re_read se_C_Re_read cd_C_Re_read ⟨by decide, by decide⟩ ln_C_Re_read rfl rfl (cw_obj hc5 rfl) rfl rfl) (fun oc L1 hL => ?_)
    rcases hL with ⟨v128, S128, hp, rfl, rfl⟩ | ⟨c9, a9, S9, hp, rfl, rfl⟩
    rotate_left
    · exact Or.inr ⟨a9, rfl, t_out C hQ hA (fun x hx => (hno x hx).elim) (Or.inr ⟨c9, a9, S9, hp, rfl, rfl⟩) (Nat.le_of_ble_eq_true rfl) (Nat.le_of_ble_eq_true rfl)⟩
    refine Or.inl ⟨_, rfl, ?_⟩
    refine aw_eq (lo' := _) (st' := [.int v128]) (L' := (cw lt_C U oa S128)) rfl rfl rfl ?_
    refine a_istore (lo' := [some (.ref (oa u)), some (.int x1), some (.ref (oa x2)), none, some (.int x4), some (.int v128)]) C dc_Un_readCodes_131 (by decide) rfl ?_
    refine a_iload_n C dc_Un_readCodes_133 rfl rfl ?_
    refine a_bipush (v := 16) C dc_Un_readCodes_134 (by decide) ?_
    refine a_icmp_ge (tgt := 149) C dc_Un_readCodes_136 (by decide) ⟨fun hc => ?_, fun hc => ?_⟩
    · have hp := hp.1 hc
      refine a_iload C dc_Un_readCodes_149 rfl ?_
      refine a_callP (rest := []) (av := [.int v128]) C dc_Un_readCodes_151 (ct_Un_isForRests v128 hp) cd_C_Un_isForRests i_Un (Nat.le_of_ble_eq_true rfl) (by rw [hR]; exact Nat.le_of_ble_eq_true rfl) (by rw [hR]; exact Nat.le_of_ble_eq_true rfl) (by rw [hR]; exact Nat.le_of_ble_eq_true rfl) (by rw [hR]; exact Nat.le_of_ble_eq_true rfl) (inv_S C dc_Un_readCodes_151 l_Un_167 st_C_Un_isForRests i_Un cd_C_Un_isForRests ⟨by decide, by decide⟩ ln_C_Un_isForRests rfl) (fun v151 hp => ?_)
      refine aw_eq (lo' := _) (st' := [.int v151]) (L' := (cw lt_C U oa S128)) rfl rfl rfl ?_
      refine a_if_ne (tgt := 174) C dc_Un_readCodes_154 (by decide) ⟨fun hc => ?_, fun hc => ?_⟩
      · have hp := hp.1 hc
        refine aw_lo (lo' := [some (.ref (oa u)), some (.int x1), some (.ref (oa x2)), none, some (.int x4), some (.int v128)]) ⟨.inr rfl, .inr rfl, .inr rfl, .inr rfl, .inr rfl, .inr rfl, trivial⟩ ?_
        exact s_Un_readCodes_174 C hQ hA hR hno hfl hu x1 x2 x4 v128 S128 R111 hR111 hp
      · have hp := hp.2 hc
        refine aw_lo (lo' := [some (.ref (oa u)), some (.int x1), some (.ref (oa x2)), none, some (.int x4), some (.int v128)]) ⟨.inr rfl, .inr rfl, .inr rfl, .inr rfl, .inr rfl, .inr rfl, trivial⟩ ?_
        exact s_Un_readCodes_157 C hQ hA hR hno hfl hu x1 x2 x4 v128 S128 R111 hR111 hp
    · have hp := hp.2 hc
      refine a_iload C dc_Un_readCodes_139 rfl ?_
      refine a_bipush (v := 11) C dc_Un_readCodes_141 (by decide) ?_
      refine a_icmp_le (tgt := 174) C dc_Un_readCodes_143 (by decide) ⟨fun hc => ?_, fun hc => ?_⟩
      · have hp := hp.1 hc
        refine aw_lo (lo' := [some (.ref (oa u)), some (.int x1), some (.ref (oa x2)), none, some (.int x4), some (.int v128)]) ⟨.inr rfl, .inr rfl, .inr rfl, .inr rfl, .inr rfl, .inr rfl, trivial⟩ ?_
        exact s_Un_readCodes_174 C hQ hA hR hno hfl hu x1 x2 x4 v128 S128 R111 hR111 hp
      · have hp := hp.2 hc
        refine a_goto (tgt := 157) C dc_Un_readCodes_146 (by decide) ?_
        refine aw_lo (lo' := [some (.ref (oa u)), some (.int x1), some (.ref (oa x2)), none, some (.int x4), some (.int v128)]) ⟨.inr rfl, .inr rfl, .inr rfl, .inr rfl, .inr rfl, .inr rfl, trivial⟩ ?_
        exact s_Un_readCodes_157 C hQ hA hR hno hfl hu x1 x2 x4 v128 S128 R111 hR111 hp
set_option maxRecDepth 100000 in
set_option maxHeartbeats 1000000 in
theorem se_Un_readCodes_111 (C : fcx gG D z A X R_Un c_C_Un_readCodes 6 (none)) (hQ : X.2.2.2.2.2.2.2.2.2.2 = eQ gG D z X.2.2.2.2.2.2.2.1 X.2.2.2.2.1 L0 0 0 (pC_v lt_C U oa K T)) (hA : A = owA gG L0 X.2.2.2.2.1.heap.size) (hR : X.2.2.2.1 = { frames := 11, cells := 1, slots := 6, locals := 1100 }) (hno : ∀ x ∈ X.2.2.2.2.2.2.2.2.2.1.exceptionTable.toList, False) (hfl : X.2.1.flags = pinnedFlags ++ [noTraceFlag]) (hu : c_cl U u = 11) (x1 : Int32) (x2 : Nat) (x4 : Int32) (S : cs) (hp : e_Un_readCodes_111 U u x1 x2 x4 S K T) : aw gG D z A X 6 111 [some (.ref (oa u)), some (.int x1), some (.ref (oa x2)), none, some (.int x4), none] [] (cw lt_C U oa S) 0 0 := by
  obtain ⟨I, μ, h0, hs⟩ := hp
  have key : ∀ (n : Nat) (yx1 : Int32) (yx2 : Nat) (yx4 : Int32) (yS : cs), μ yx1 yx2 yx4 yS < n → I yx1 yx2 yx4 yS → aw gG D z A X 6 111 [some (.ref (oa u)), some (.int yx1), some (.ref (oa yx2)), none, some (.int yx4), none] [] (cw lt_C U oa yS) 0 0 := by
    intro n
    induction n with
    | zero => intro yx1 yx2 yx4 yS h; omega
    | succ n ih =>
      intro yx1 yx2 yx4 yS hn hI
      exact s_Un_readCodes_111 C hQ hA hR hno hfl hu yx1 yx2 yx4 yS _ (fun zx1 zx2 zx4 zS hw => ih zx1 zx2 zx4 zS (by omega) hw.1) (hs yx1 yx2 yx4 yS hI)
  exact key (μ x1 x2 x4 S + 1) x1 x2 x4 S (Nat.lt_succ_self _) h0
set_option maxRecDepth 100000 in
set_option maxHeartbeats 1000000 in
theorem s_Un_readCodes_108 (C : fcx gG D z A X R_Un c_C_Un_readCodes 6 (none)) (hQ : X.2.2.2.2.2.2.2.2.2.2 = eQ gG D z X.2.2.2.2.2.2.2.1 X.2.2.2.2.1 L0 0 0 (pC_v lt_C U oa K T)) (hA : A = owA gG L0 X.2.2.2.2.1.heap.size) (hR : X.2.2.2.1 = { frames := 11, cells := 1, slots := 6, locals := 1100 }) (hno : ∀ x ∈ X.2.2.2.2.2.2.2.2.2.1.exceptionTable.toList, False) (hfl : X.2.1.flags = pinnedFlags ++ [noTraceFlag]) (hu : c_cl U u = 11) (x1 : Int32) (x2 : Nat) (S : cs) (hp : b_Un_readCodes_108 U u x1 x2 S K T) : aw gG D z A X 6 108 [some (.ref (oa u)), some (.int x1), some (.ref (oa x2)), none, none, none] [] (cw lt_C U oa S) 0 0 := by
  unfold b_Un_readCodes_108 at hp
  refine a_iconst (v := 0) C dc_Un_readCodes_108 (by decide) ?_
  refine a_istore (lo' := [some (.ref (oa u)), some (.int x1), some (.ref (oa x2)), none, some (.int 0), none]) C dc_Un_readCodes_109 (by decide) rfl ?_
  refine aw_lo (lo' := [some (.ref (oa u)), some (.int x1), some (.ref (oa x2)), none, some (.int 0), none]) ⟨.inr rfl, .inr rfl, .inr rfl, .inr rfl, .inr rfl, .inr rfl, trivial⟩ ?_
  exact se_Un_readCodes_111 C hQ hA hR hno hfl hu x1 x2 0 S  hp
set_option maxRecDepth 100000 in
set_option maxHeartbeats 1000000 in
theorem s_Un_readCodes_61 (C : fcx gG D z A X R_Un c_C_Un_readCodes 6 (none)) (hQ : X.2.2.2.2.2.2.2.2.2.2 = eQ gG D z X.2.2.2.2.2.2.2.1 X.2.2.2.2.1 L0 0 0 (pC_v lt_C U oa K T)) (hA : A = owA gG L0 X.2.2.2.2.1.heap.size) (hR : X.2.2.2.1 = { frames := 11, cells := 1, slots := 6, locals := 1100 }) (hno : ∀ x ∈ X.2.2.2.2.2.2.2.2.2.1.exceptionTable.toList, False) (hfl : X.2.1.flags = pinnedFlags ++ [noTraceFlag]) (hu : c_cl U u = 11) (x1 : Int32) (x2 : Nat) (x3 : Int32) (x4 : Int32) (S : cs) (R61 : Int32 → Nat → Int32 → Int32 → cs → Prop) (hR61 : ∀ yx1 yx2 yx3 yx4 yS, R61 yx1 yx2 yx3 yx4 yS → aw gG D z A X 6 61 [some (.ref (oa u)), some (.int yx1), some (.ref (oa yx2)), some (.int yx3), some (.int yx4), none] [] (cw lt_C U oa yS) 0 0) (hp : b_Un_readCodes_61 U u x1 x2 x3 x4 S R61 K T) : aw gG D z A X 6 61 [some (.ref (oa u)), some (.int x1), some (.ref (oa x2)), some (.int x3), some (.int x4), none] [] (cw lt_C U oa S) 0 0 := by
  unfold b_Un_readCodes_61 at hp
  refine a_iload C dc_Un_readCodes_61 rfl ?_
  refine a_bipush (v := 16) C dc_Un_readCodes_63 (by decide) ?_
  refine a_icmp_gt (tgt := 92) C dc_Un_readCodes_65 (by decide) ⟨fun hc => ?_, fun hc => ?_⟩
  · have hp := hp.1 hc
    refine a_aload_n C dc_Un_readCodes_92 rfl rfl ?_
    have hc6 := hp.1
    have hp := hp.2
    refine c_call (rest := []) (av := .ref (oa x2) :: []) C dc_Un_readCodes_93 (ct_Co_giveOut x2 S hc6 hp) cd_C_Co_giveOut i_Co (Nat.le_of_ble_eq_true rfl) (by rw [hR]; exact Nat.le_of_ble_eq_true rfl) (by rw [hR]; exact Nat.le_of_ble_eq_true rfl) (by rw [hR]; exact Nat.le_of_ble_eq_true rfl) (by rw [hR]; exact Nat.le_of_ble_eq_true rfl) (inv_V C x2 dc_Un_readCodes_93 l_Un_161 im_C_Co_giveOut se_C_Co_giveOut cd_C_Co_giveOut ⟨by decide, by decide⟩ ln_C_Co_giveOut rfl rfl (cw_obj hc6 rfl) rfl rfl) (fun oc L1 hL => ?_)
    obtain ⟨v93, S93, hp, rfl, rfl⟩ := hL.resolve_right pC_no
    refine ⟨_, rfl, ?_⟩
    refine aw_eq (lo' := _) (st' := [.int v93]) (L' := (cw lt_C U oa S93)) rfl rfl rfl ?_
    refine a_if_ne (tgt := 108) C dc_Un_readCodes_96 (by decide) ⟨fun hc => ?_, fun hc => ?_⟩
    · have hp := hp.1 hc
      refine aw_lo (lo' := [some (.ref (oa u)), some (.int x1), some (.ref (oa x2)), none, none, none]) ⟨.inr rfl, .inr rfl, .inr rfl, .inl rfl, .inl rfl, .inr rfl, trivial⟩ ?_
      exact s_Un_readCodes_108 C hQ hA hR hno hfl hu x1 x2 S93  hp
    · have hp := hp.2 hc
      refine a_aload_n C dc_Un_readCodes_99 rfl rfl ?_
      refine c_getR C u 0 dc_Un_readCodes_100 hu rfl rfl (Nat.le_of_ble_eq_true rfl) f_Un_12 rfl hp.1 ?_
      have hp := hp.2
      refine a_iconst (v := 5) C dc_Un_readCodes_103 (by decide) ?_
      refine a_iload_n C dc_Un_readCodes_104 rfl rfl ?_
      have hc7 := hp.1
      have hp := hp.2
      refine c_callT (rest := []) (av := .ref (oa (S93.2.2 u 0)) :: [.int 5, .int x3]) C dc_Un_readCodes_105 (ct_Re_fail (S93.2.2 u 0) 5 x3 S93 hfl hc7 hp) cd_C_Re_fail i_Re (Nat.le_of_ble_eq_true rfl) (by rw [hR]; exact Nat.le_of_ble_eq_true rfl) (by rw [hR]; exact Nat.le_of_ble_eq_true rfl) (by rw [hR]; exact Nat.le_of_ble_eq_true rfl) (by rw [hR]; exact Nat.le_of_ble_eq_true rfl) (inv_V C (S93.2.2 u 0) dc_Un_readCodes_105 l_Un_74 im_C_Re_fail se_C_Re_fail cd_C_Re_fail ⟨by decide, by decide⟩ ln_C_Re_fail rfl rfl (cw_obj hc7 rfl) rfl rfl) (fun oc L1 hL => ?_)
      rcases hL with ⟨S105, hp, rfl, rfl⟩ | ⟨c9, a9, S9, hp, rfl, rfl⟩
      rotate_left
      · exact Or.inr ⟨a9, rfl, t_out C hQ hA (fun x hx => (hno x hx).elim) (Or.inr ⟨c9, a9, S9, hp, rfl, rfl⟩) (Nat.le_of_ble_eq_true rfl) (Nat.le_of_ble_eq_true rfl)⟩
      refine Or.inl ⟨_, rfl, ?_⟩
      refine aw_eq (lo' := _) (st' := []) (L' := (cw lt_C U oa S105)) rfl rfl rfl ?_
      refine aw_lo (lo' := [some (.ref (oa u)), some (.int x1), some (.ref (oa x2)), none, none, none]) ⟨.inr rfl, .inr rfl, .inr rfl, .inl rfl, .inl rfl, .inr rfl, trivial⟩ ?_
      exact s_Un_readCodes_108 C hQ hA hR hno hfl hu x1 x2 S105  hp
  · have hp := hp.2 hc
    refine a_aload_n C dc_Un_readCodes_68 rfl rfl ?_
    refine c_callT (rest := []) (av := .ref (oa u) :: []) C dc_Un_readCodes_69 (ct_Un_wantMore u S hfl hu hp) cd_C_Un_wantMore i_Un (Nat.le_of_ble_eq_true rfl) (by rw [hR]; exact Nat.le_of_ble_eq_true rfl) (by rw [hR]; exact Nat.le_of_ble_eq_true rfl) (by rw [hR]; exact Nat.le_of_ble_eq_true rfl) (by rw [hR]; exact Nat.le_of_ble_eq_true rfl) (inv_V C u dc_Un_readCodes_69 l_Un_155 im_C_Un_wantMore se_C_Un_wantMore cd_C_Un_wantMore ⟨by decide, by decide⟩ ln_C_Un_wantMore rfl rfl (cw_obj hu rfl) rfl rfl) (fun oc L1 hL => ?_)
    rcases hL with ⟨S69, hp, rfl, rfl⟩ | ⟨c9, a9, S9, hp, rfl, rfl⟩
    rotate_left
    · exact Or.inr ⟨a9, rfl, t_out C hQ hA (fun x hx => (hno x hx).elim) (Or.inr ⟨c9, a9, S9, hp, rfl, rfl⟩) (Nat.le_of_ble_eq_true rfl) (Nat.le_of_ble_eq_true rfl)⟩
    refine Or.inl ⟨_, rfl, ?_⟩
    refine aw_eq (lo' := _) (st' := []) (L' := (cw lt_C U oa S69)) rfl rfl rfl ?_
    refine a_aload_n C dc_Un_readCodes_72 rfl rfl ?_
    have hc8 := hp.1
    have hp := hp.2
    refine c_getRN C x2 1 dc_Un_readCodes_73 hc8 rfl rfl (Nat.le_of_ble_eq_true rfl) f_Un_158 rfl hp.1 ?_
    have hp := hp.2
    refine a_iload C dc_Un_readCodes_76 rfl ?_
    refine a_aload_n C dc_Un_readCodes_78 rfl rfl ?_
    refine c_getR C u 0 dc_Un_readCodes_79 hu rfl rfl (Nat.le_of_ble_eq_true rfl) f_Un_12 rfl hp.1 ?_
    have hp := hp.2
    have hc9 := hp.1
    have hp := hp.2
    refine c_callT (rest := [.int x4, .ref (oa (S69.2.2 x2 1))]) (av := .ref (oa (S69.2.2 u 0)) :: []) C dc_Un_readCodes_82 (ct_Re_read (S69.2.2 u 0) S69 hfl hc9 hp) cd_C_Re_read i_Re (Nat.le_of_ble_eq_true rfl) (by rw [hR]; exact Nat.le_of_ble_eq_true rfl) (by rw [hR]; exact Nat.le_of_ble_eq_true rfl) (by rw [hR]; exact Nat.le_of_ble_eq_true rfl) (by rw [hR]; exact Nat.le_of_ble_eq_true rfl) (inv_V C (S69.2.2 u 0) dc_Un_readCodes_82 l_Un_138 im_C_Re_read se_C_Re_read cd_C_Re_read ⟨by decide, by decide⟩ ln_C_Re_read rfl rfl (cw_obj hc9 rfl) rfl rfl) (fun oc L1 hL => ?_)
    rcases hL with ⟨v82, S82, hp, rfl, rfl⟩ | ⟨c9, a9, S9, hp, rfl, rfl⟩
    rotate_left
    · exact Or.inr ⟨a9, rfl, t_out C hQ hA (fun x hx => (hno x hx).elim) (Or.inr ⟨c9, a9, S9, hp, rfl, rfl⟩) (Nat.le_of_ble_eq_true rfl) (Nat.le_of_ble_eq_true rfl)⟩
    refine Or.inl ⟨_, rfl, ?_⟩
    refine aw_eq (lo' := _) (st' := [.int v82, .int x4, .ref (oa (S69.2.2 x2 1))]) (L' := (cw lt_C U oa S82)) rfl rfl rfl ?_
    have hc10 := hp.1
    have hp := hp.2
    refine c_iast C (S69.2.2 x2 1) dc_Un_readCodes_85 hc10 hp.1 ?_
    have hp := hp.2
    refine aw_eq (lo' := _) (st' := _) (L' := (cw lt_C U oa (va_up S82.1 (S69.2.2 x2 1) (upd (S82.1 (S69.2.2 x2 1)) x4.toNatClampNeg v82), S82.2.1, S82.2.2))) rfl rfl rfl ?_
    refine a_iinc (v := x4 + 1) (lo' := [some (.ref (oa u)), some (.int x1), some (.ref (oa x2)), some (.int x3), some (.int (x4 + 1)), none]) C dc_Un_readCodes_86 rfl rfl (by decide) rfl ?_
    refine a_goto (tgt := 61) C dc_Un_readCodes_89 (by decide) ?_
    refine aw_lo (lo' := [some (.ref (oa u)), some (.int x1), some (.ref (oa x2)), some (.int x3), some (.int (x4 + 1)), none]) ⟨.inr rfl, .inr rfl, .inr rfl, .inr rfl, .inr rfl, .inr rfl, trivial⟩ ?_
    exact hR61 x1 x2 x3 (x4 + 1) (va_up S82.1 (S69.2.2 x2 1) (upd (S82.1 (S69.2.2 x2 1)) x4.toNatClampNeg v82), S82.2.1, S82.2.2) hp
set_option maxRecDepth 100000 in
set_option maxHeartbeats 1000000 in
theorem se_Un_readCodes_61 (C : fcx gG D z A X R_Un c_C_Un_readCodes 6 (none)) (hQ : X.2.2.2.2.2.2.2.2.2.2 = eQ gG D z X.2.2.2.2.2.2.2.1 X.2.2.2.2.1 L0 0 0 (pC_v lt_C U oa K T)) (hA : A = owA gG L0 X.2.2.2.2.1.heap.size) (hR : X.2.2.2.1 = { frames := 11, cells := 1, slots := 6, locals := 1100 }) (hno : ∀ x ∈ X.2.2.2.2.2.2.2.2.2.1.exceptionTable.toList, False) (hfl : X.2.1.flags = pinnedFlags ++ [noTraceFlag]) (hu : c_cl U u = 11) (x1 : Int32) (x2 : Nat) (x3 : Int32) (x4 : Int32) (S : cs) (hp : e_Un_readCodes_61 U u x1 x2 x3 x4 S K T) : aw gG D z A X 6 61 [some (.ref (oa u)), some (.int x1), some (.ref (oa x2)), some (.int x3), some (.int x4), none] [] (cw lt_C U oa S) 0 0 := by
  obtain ⟨I, μ, h0, hs⟩ := hp
  have key : ∀ (n : Nat) (yx1 : Int32) (yx2 : Nat) (yx3 : Int32) (yx4 : Int32) (yS : cs), μ yx1 yx2 yx3 yx4 yS < n → I yx1 yx2 yx3 yx4 yS → aw gG D z A X 6 61 [some (.ref (oa u)), some (.int yx1), some (.ref (oa yx2)), some (.int yx3), some (.int yx4), none] [] (cw lt_C U oa yS) 0 0 := by
    intro n
    induction n with
    | zero => intro yx1 yx2 yx3 yx4 yS h; omega
    | succ n ih =>
      intro yx1 yx2 yx3 yx4 yS hn hI
      exact s_Un_readCodes_61 C hQ hA hR hno hfl hu yx1 yx2 yx3 yx4 yS _ (fun zx1 zx2 zx3 zx4 zS hw => ih zx1 zx2 zx3 zx4 zS (by omega) hw.1) (hs yx1 yx2 yx3 yx4 yS hI)
  exact key (μ x1 x2 x3 x4 S + 1) x1 x2 x3 x4 S (Nat.lt_succ_self _) h0
set_option maxRecDepth 100000 in
set_option maxHeartbeats 1000000 in
theorem s_Un_readCodes_33 (C : fcx gG D z A X R_Un c_C_Un_readCodes 6 (none)) (hQ : X.2.2.2.2.2.2.2.2.2.2 = eQ gG D z X.2.2.2.2.2.2.2.1 X.2.2.2.2.1 L0 0 0 (pC_v lt_C U oa K T)) (hA : A = owA gG L0 X.2.2.2.2.1.heap.size) (hR : X.2.2.2.1 = { frames := 11, cells := 1, slots := 6, locals := 1100 }) (hno : ∀ x ∈ X.2.2.2.2.2.2.2.2.2.1.exceptionTable.toList, False) (hfl : X.2.1.flags = pinnedFlags ++ [noTraceFlag]) (hu : c_cl U u = 11) (x1 : Int32) (S : cs) (hp : b_Un_readCodes_33 U u x1 S K T) : aw gG D z A X 6 33 [some (.ref (oa u)), some (.int x1), none, none, none, none] [] (cw lt_C U oa S) 0 0 := by
  unfold b_Un_readCodes_33 at hp
  refine a_aload_n C dc_Un_readCodes_33 rfl rfl ?_
  refine c_getR C u 5 dc_Un_readCodes_34 hu rfl rfl (Nat.le_of_ble_eq_true rfl) f_Un_43 rfl hp.1 ?_
  have hp := hp.2
  refine a_iload_n C dc_Un_readCodes_37 rfl rfl ?_
  refine a_bipush (v := 16) C dc_Un_readCodes_38 (by decide) ?_
  refine a_idiv C dc_Un_readCodes_40 (by decide) ?_
  refine a_iconst (v := 2) C dc_Un_readCodes_41 (by decide) ?_
  refine a_imul C dc_Un_readCodes_42 ?_
  refine a_iload_n C dc_Un_readCodes_43 rfl rfl ?_
  refine a_bipush (v := 16) C dc_Un_readCodes_44 (by decide) ?_
  refine a_irem C dc_Un_readCodes_46 (by decide) ?_
  refine a_iadd C dc_Un_readCodes_47 ?_
  have hc11 := hp.1
  have hp := hp.2
  refine c_aald C (S.2.2 u 5) 1 dc_Un_readCodes_48 hc11 rfl (by decide) rfl hp.1 hp.2.1 ?_
  have hp := hp.2.2
  refine a_astore_n (lo' := [some (.ref (oa u)), some (.int x1), some (.ref (oa (S.2.2 (S.2.2 u 5) (((x1 / 16) * 2) + (x1 - x1 / 16 * 16)).toNatClampNeg))), none, none, none]) C dc_Un_readCodes_49 rfl (by decide) rfl ?_
  refine a_aload_n C dc_Un_readCodes_50 rfl rfl ?_
  refine c_getR C u 0 dc_Un_readCodes_51 hu rfl rfl (Nat.le_of_ble_eq_true rfl) f_Un_12 rfl hp.1 ?_
  have hp := hp.2
  have hc12 := hp.1
  have hp := hp.2
  refine c_getIN C (S.2.2 u 0) 1 dc_Un_readCodes_54 hc12 rfl rfl (Nat.le_of_ble_eq_true rfl) f_Un_70 (Nat.le_of_ble_eq_true rfl) ?_
  refine a_istore_n (lo' := [some (.ref (oa u)), some (.int x1), some (.ref (oa (S.2.2 (S.2.2 u 5) (((x1 / 16) * 2) + (x1 - x1 / 16 * 16)).toNatClampNeg))), some (.int (S.1 (S.2.2 u 0) 1)), none, none]) C dc_Un_readCodes_57 rfl (by decide) rfl ?_
  refine a_iconst (v := 1) C dc_Un_readCodes_58 (by decide) ?_
  refine a_istore (lo' := [some (.ref (oa u)), some (.int x1), some (.ref (oa (S.2.2 (S.2.2 u 5) (((x1 / 16) * 2) + (x1 - x1 / 16 * 16)).toNatClampNeg))), some (.int (S.1 (S.2.2 u 0) 1)), some (.int 1), none]) C dc_Un_readCodes_59 (by decide) rfl ?_
  refine aw_lo (lo' := [some (.ref (oa u)), some (.int x1), some (.ref (oa (S.2.2 (S.2.2 u 5) (((x1 / 16) * 2) + (x1 - x1 / 16 * 16)).toNatClampNeg))), some (.int (S.1 (S.2.2 u 0) 1)), some (.int 1), none]) ⟨.inr rfl, .inr rfl, .inr rfl, .inr rfl, .inr rfl, .inr rfl, trivial⟩ ?_
  exact se_Un_readCodes_61 C hQ hA hR hno hfl hu x1 (S.2.2 (S.2.2 u 5) (((x1 / 16) * 2) + (x1 - x1 / 16 * 16)).toNatClampNeg) (S.1 (S.2.2 u 0) 1) 1 S  hp
set_option maxRecDepth 100000 in
set_option maxHeartbeats 1000000 in
theorem s_Un_readCodes_0 (C : fcx gG D z A X R_Un c_C_Un_readCodes 6 (none)) (hQ : X.2.2.2.2.2.2.2.2.2.2 = eQ gG D z X.2.2.2.2.2.2.2.1 X.2.2.2.2.1 L0 0 0 (pC_v lt_C U oa K T)) (hA : A = owA gG L0 X.2.2.2.2.1.heap.size) (hR : X.2.2.2.1 = { frames := 11, cells := 1, slots := 6, locals := 1100 }) (hno : ∀ x ∈ X.2.2.2.2.2.2.2.2.2.1.exceptionTable.toList, False) (hfl : X.2.1.flags = pinnedFlags ++ [noTraceFlag]) (hu : c_cl U u = 11)  (S : cs) (hp : p_Un_readCodes U u S K T) : aw gG D z A X 6 0 [some (.ref (oa u)), none, none, none, none, none] [] (cw lt_C U oa S) 0 0 := by
  unfold p_Un_readCodes at hp
  refine a_aload_n C dc_Un_readCodes_0 rfl rfl ?_
  refine a_iconst (v := 0) C dc_Un_readCodes_1 (by decide) ?_
  refine a_bipush (v := 17) C dc_Un_readCodes_2 (by decide) ?_
  refine c_callT (rest := []) (av := .ref (oa u) :: [.int 0, .int 17]) C dc_Un_readCodes_4 (ct_Un_readWithin u 0 17 S hfl hu hp) cd_C_Un_readWithin i_Un (Nat.le_of_ble_eq_true rfl) (by rw [hR]; exact Nat.le_of_ble_eq_true rfl) (by rw [hR]; exact Nat.le_of_ble_eq_true rfl) (by rw [hR]; exact Nat.le_of_ble_eq_true rfl) (by rw [hR]; exact Nat.le_of_ble_eq_true rfl) (inv_V C u dc_Un_readCodes_4 l_Un_151 im_C_Un_readWithin se_C_Un_readWithin cd_C_Un_readWithin ⟨by decide, by decide⟩ ln_C_Un_readWithin rfl rfl (cw_obj hu rfl) rfl rfl) (fun oc L1 hL => ?_)
  rcases hL with ⟨v4, S4, hp, rfl, rfl⟩ | ⟨c9, a9, S9, hp, rfl, rfl⟩
  rotate_left
  · exact Or.inr ⟨a9, rfl, t_out C hQ hA (fun x hx => (hno x hx).elim) (Or.inr ⟨c9, a9, S9, hp, rfl, rfl⟩) (Nat.le_of_ble_eq_true rfl) (Nat.le_of_ble_eq_true rfl)⟩
  refine Or.inl ⟨_, rfl, ?_⟩
  refine aw_eq (lo' := _) (st' := [.int v4]) (L' := (cw lt_C U oa S4)) rfl rfl rfl ?_
  refine a_istore_n (lo' := [some (.ref (oa u)), some (.int v4), none, none, none, none]) C dc_Un_readCodes_7 rfl (by decide) rfl ?_
  refine a_iload_n C dc_Un_readCodes_8 rfl rfl ?_
  refine a_bipush (v := 16) C dc_Un_readCodes_9 (by decide) ?_
  refine a_irem C dc_Un_readCodes_11 (by decide) ?_
  refine a_iconst (v := 1) C dc_Un_readCodes_12 (by decide) ?_
  refine a_icmp_le (tgt := 33) C dc_Un_readCodes_13 (by decide) ⟨fun hc => ?_, fun hc => ?_⟩
  · have hp := hp.1 hc
    refine aw_lo (lo' := [some (.ref (oa u)), some (.int v4), none, none, none, none]) ⟨.inr rfl, .inr rfl, .inr rfl, .inr rfl, .inr rfl, .inr rfl, trivial⟩ ?_
    exact s_Un_readCodes_33 C hQ hA hR hno hfl hu v4 S4  hp
  · have hp := hp.2 hc
    refine a_aload_n C dc_Un_readCodes_16 rfl rfl ?_
    refine c_getR C u 0 dc_Un_readCodes_17 hu rfl rfl (Nat.le_of_ble_eq_true rfl) f_Un_12 rfl hp.1 ?_
    have hp := hp.2
    refine a_iconst (v := 5) C dc_Un_readCodes_20 (by decide) ?_
    refine a_aload_n C dc_Un_readCodes_21 rfl rfl ?_
    refine c_getR C u 0 dc_Un_readCodes_22 hu rfl rfl (Nat.le_of_ble_eq_true rfl) f_Un_12 rfl hp.1 ?_
    have hp := hp.2
    have hc13 := hp.1
    have hp := hp.2
    refine c_getIN C (S4.2.2 u 0) 1 dc_Un_readCodes_25 hc13 rfl rfl (Nat.le_of_ble_eq_true rfl) f_Un_70 (Nat.le_of_ble_eq_true rfl) ?_
    refine a_iconst (v := 1) C dc_Un_readCodes_28 (by decide) ?_
    refine a_isub C dc_Un_readCodes_29 ?_
    refine c_callT (rest := []) (av := .ref (oa (S4.2.2 u 0)) :: [.int 5, .int ((S4.1 (S4.2.2 u 0) 1) - 1)]) C dc_Un_readCodes_30 (ct_Re_fail (S4.2.2 u 0) 5 ((S4.1 (S4.2.2 u 0) 1) - 1) S4 hfl hc13 hp) cd_C_Re_fail i_Re (Nat.le_of_ble_eq_true rfl) (by rw [hR]; exact Nat.le_of_ble_eq_true rfl) (by rw [hR]; exact Nat.le_of_ble_eq_true rfl) (by rw [hR]; exact Nat.le_of_ble_eq_true rfl) (by rw [hR]; exact Nat.le_of_ble_eq_true rfl) (inv_V C (S4.2.2 u 0) dc_Un_readCodes_30 l_Un_74 im_C_Re_fail se_C_Re_fail cd_C_Re_fail ⟨by decide, by decide⟩ ln_C_Re_fail rfl rfl (cw_obj hc13 rfl) rfl rfl) (fun oc L1 hL => ?_)
    rcases hL with ⟨S30, hp, rfl, rfl⟩ | ⟨c9, a9, S9, hp, rfl, rfl⟩
    rotate_left
    · exact Or.inr ⟨a9, rfl, t_out C hQ hA (fun x hx => (hno x hx).elim) (Or.inr ⟨c9, a9, S9, hp, rfl, rfl⟩) (Nat.le_of_ble_eq_true rfl) (Nat.le_of_ble_eq_true rfl)⟩
    refine Or.inl ⟨_, rfl, ?_⟩
    refine aw_eq (lo' := _) (st' := []) (L' := (cw lt_C U oa S30)) rfl rfl rfl ?_
    refine aw_lo (lo' := [some (.ref (oa u)), some (.int v4), none, none, none, none]) ⟨.inr rfl, .inr rfl, .inr rfl, .inr rfl, .inr rfl, .inr rfl, trivial⟩ ?_
    exact s_Un_readCodes_33 C hQ hA hR hno hfl hu v4 S30  hp
end C_Un_readCodes
section C_Un_readCodesc
variable {D : va_G} {z : Nat → ClassId} {U : ut} {oa : Nat → Nat}
set_option maxRecDepth 100000 in
theorem ct_Un_readCodes {l : Launch} (u : Nat)  (S : cs) {K : cs → Prop} {T : Nat → cs → Prop} (hfl : l.flags = pinnedFlags ++ [noTraceFlag]) (hu : c_cl U u = 11) (hp : p_Un_readCodes U u S K T) : ct gG D z l n_C_Un_readCodes c_C_Un_readCodes 6 (none) 11 1100 [.ref (oa u)] (cw lt_C U oa S) 0 0 (pC_v lt_C U oa K T) := by
  refine ct_of (lo := [some (.ref (oa u)), none, none, none, none, none]) (by decide) g_ok (Nat.le_of_ble_eq_true rfl) rfl ?_
  intro X A hl C hR hQ hA hno
  exact s_Un_readCodes_0 C hQ hA hR hno (by rw [hl]; exact hfl) hu S hp
end C_Un_readCodesc
def b_Un_readParts_51 (U : ut) (u : Nat)  (S : cs) (K : cs → Prop) (T : Nat → cs → Prop) : Prop :=
  K S
def b_Un_readParts_45 (U : ut) (u : Nat) (x1 : Int32) (x2 : Int32) (S : cs) (R2 : Int32 → Int32 → cs → Prop) (K : cs → Prop) (T : Nat → cs → Prop) : Prop :=
  R2 x1 (x2 + 1) S
def b_Un_readParts_2 (U : ut) (u : Nat) (x1 : Int32) (x2 : Int32) (S : cs) (R2 : Int32 → Int32 → cs → Prop) (K : cs → Prop) (T : Nat → cs → Prop) : Prop :=
  ¬ S.2.2 u 0 = NU ∧ (c_cl U (S.2.2 u 0) = 8 ∧ ((((S.1 u 12) + (S.1 u 13)) ≤ (S.1 (S.2.2 u 0) 1) → (b_Un_readParts_51 U u S K T)) ∧ (¬ (((S.1 u 12) + (S.1 u 13)) ≤ (S.1 (S.2.2 u 0) 1)) → ((32768 ≤ x2 → (b_Un_readParts_51 U u S K T)) ∧ (¬ (32768 ≤ x2) → ((¬ x1 = 219 → (p_Un_readCodes U u S (fun S42 => b_Un_readParts_45 U u x1 x2 S42 R2 K T) T)) ∧ (x1 = 219 → (p_Un_readTable U u S (fun S35 => b_Un_readParts_45 U u x1 x2 S35 R2 K T) T))))))))
def e_Un_readParts_2 (U : ut) (u : Nat) (x1 : Int32) (x2 : Int32) (S : cs) (K : cs → Prop) (T : Nat → cs → Prop) : Prop :=
  ∃ (I : Int32 → Int32 → cs → Prop) (μ : Int32 → Int32 → cs → Nat), I x1 x2 S ∧ ∀ yx1 yx2 yS, I yx1 yx2 yS → b_Un_readParts_2 U u yx1 yx2 yS (fun zx1 zx2 zS => I zx1 zx2 zS ∧ μ zx1 zx2 zS < μ yx1 yx2 yS) K T
def p_Un_readParts (U : ut) (u : Nat) (x1 : Int32) (S : cs) (K : cs → Prop) (T : Nat → cs → Prop) : Prop :=
  e_Un_readParts_2 U u x1 0 S K T
section C_Un_readParts
variable {D : va_G} {z : Nat → ClassId} {A : Nat → Prop} {X : cx} {L0 : fw} {U : ut} {oa : Nat → Nat} {u : Nat} {K : cs → Prop} {T : Nat → cs → Prop}
set_option maxRecDepth 100000 in
set_option maxHeartbeats 1000000 in
theorem s_Un_readParts_51 (C : fcx gG D z A X R_Un c_C_Un_readParts 3 (none)) (hQ : X.2.2.2.2.2.2.2.2.2.2 = eQ gG D z X.2.2.2.2.2.2.2.1 X.2.2.2.2.1 L0 0 0 (pC_v lt_C U oa K T)) (hA : A = owA gG L0 X.2.2.2.2.1.heap.size) (hR : X.2.2.2.1 = { frames := 12, cells := 1, slots := 6, locals := 1200 }) (hno : ∀ x ∈ X.2.2.2.2.2.2.2.2.2.1.exceptionTable.toList, False) (hfl : X.2.1.flags = pinnedFlags ++ [noTraceFlag]) (hu : c_cl U u = 11)  (S : cs) (hp : b_Un_readParts_51 U u S K T) : aw gG D z A X 3 51 [some (.ref (oa u)), none, none] [] (cw lt_C U oa S) 0 0 := by
  unfold b_Un_readParts_51 at hp
  exact a_vret C hQ hA dc_Un_readParts_51 rfl (Or.inl ⟨S, hp, rfl, rfl⟩)
set_option maxRecDepth 100000 in
set_option maxHeartbeats 1000000 in
theorem s_Un_readParts_45 (C : fcx gG D z A X R_Un c_C_Un_readParts 3 (none)) (hQ : X.2.2.2.2.2.2.2.2.2.2 = eQ gG D z X.2.2.2.2.2.2.2.1 X.2.2.2.2.1 L0 0 0 (pC_v lt_C U oa K T)) (hA : A = owA gG L0 X.2.2.2.2.1.heap.size) (hR : X.2.2.2.1 = { frames := 12, cells := 1, slots := 6, locals := 1200 }) (hno : ∀ x ∈ X.2.2.2.2.2.2.2.2.2.1.exceptionTable.toList, False) (hfl : X.2.1.flags = pinnedFlags ++ [noTraceFlag]) (hu : c_cl U u = 11) (x1 : Int32) (x2 : Int32) (S : cs) (R2 : Int32 → Int32 → cs → Prop) (hR2 : ∀ yx1 yx2 yS, R2 yx1 yx2 yS → aw gG D z A X 3 2 [some (.ref (oa u)), some (.int yx1), some (.int yx2)] [] (cw lt_C U oa yS) 0 0) (hp : b_Un_readParts_45 U u x1 x2 S R2 K T) : aw gG D z A X 3 45 [some (.ref (oa u)), some (.int x1), some (.int x2)] [] (cw lt_C U oa S) 0 0 := by
  unfold b_Un_readParts_45 at hp
  refine a_iinc (v := x2 + 1) (lo' := [some (.ref (oa u)), some (.int x1), some (.int (x2 + 1))]) C dc_Un_readParts_45 rfl rfl (by decide) rfl ?_
  refine a_goto (tgt := 2) C dc_Un_readParts_48 (by decide) ?_
  refine aw_lo (lo' := [some (.ref (oa u)), some (.int x1), some (.int (x2 + 1))]) ⟨.inr rfl, .inr rfl, .inr rfl, trivial⟩ ?_
  exact hR2 x1 (x2 + 1) S hp
set_option maxRecDepth 100000 in
set_option maxHeartbeats 1000000 in
theorem s_Un_readParts_2 (C : fcx gG D z A X R_Un c_C_Un_readParts 3 (none)) (hQ : X.2.2.2.2.2.2.2.2.2.2 = eQ gG D z X.2.2.2.2.2.2.2.1 X.2.2.2.2.1 L0 0 0 (pC_v lt_C U oa K T)) (hA : A = owA gG L0 X.2.2.2.2.1.heap.size) (hR : X.2.2.2.1 = { frames := 12, cells := 1, slots := 6, locals := 1200 }) (hno : ∀ x ∈ X.2.2.2.2.2.2.2.2.2.1.exceptionTable.toList, False) (hfl : X.2.1.flags = pinnedFlags ++ [noTraceFlag]) (hu : c_cl U u = 11) (x1 : Int32) (x2 : Int32) (S : cs) (R2 : Int32 → Int32 → cs → Prop) (hR2 : ∀ yx1 yx2 yS, R2 yx1 yx2 yS → aw gG D z A X 3 2 [some (.ref (oa u)), some (.int yx1), some (.int yx2)] [] (cw lt_C U oa yS) 0 0) (hp : b_Un_readParts_2 U u x1 x2 S R2 K T) : aw gG D z A X 3 2 [some (.ref (oa u)), some (.int x1), some (.int x2)] [] (cw lt_C U oa S) 0 0 := by
  unfold b_Un_readParts_2 at hp
  refine a_aload_n C dc_Un_readParts_2 rfl rfl ?_
  refine c_getR C u 0 dc_Un_readParts_3 hu rfl rfl (Nat.le_of_ble_eq_true rfl) f_Un_12 rfl hp.1 ?_
  have hp := hp.2
  have hc1 := hp.1
  have hp := hp.2
  refine c_getIN C (S.2.2 u 0) 1 dc_Un_readParts_6 hc1 rfl rfl (Nat.le_of_ble_eq_true rfl) f_Un_70 (Nat.le_of_ble_eq_true rfl) ?_
  refine a_aload_n C dc_Un_readParts_9 rfl rfl ?_
  refine c_getI C u 12 dc_Un_readParts_10 hu rfl rfl (Nat.le_of_ble_eq_true rfl) f_Un_113 (Nat.le_of_ble_eq_true rfl) ?_
  refine a_aload_n C dc_Un_readParts_13 rfl rfl ?_
  refine c_getI C u 13 dc_Un_readParts_14 hu rfl rfl (Nat.le_of_ble_eq_true rfl) f_Un_119 (Nat.le_of_ble_eq_true rfl) ?_
  refine a_iadd C dc_Un_readParts_17 ?_
  refine a_icmp_ge (tgt := 51) C dc_Un_readParts_18 (by decide) ⟨fun hc => ?_, fun hc => ?_⟩
  · have hp := hp.1 hc
    refine aw_lo (lo' := [some (.ref (oa u)), none, none]) ⟨.inr rfl, .inl rfl, .inl rfl, trivial⟩ ?_
    exact s_Un_readParts_51 C hQ hA hR hno hfl hu S  hp
  · have hp := hp.2 hc
    refine a_iload_n C dc_Un_readParts_21 rfl rfl ?_
    refine a_ldc (v := 32768) C dc_Un_readParts_22 k_Un_78 ?_
    refine a_icmp_ge (tgt := 51) C dc_Un_readParts_24 (by decide) ⟨fun hc => ?_, fun hc => ?_⟩
    · have hp := hp.1 hc
      refine aw_lo (lo' := [some (.ref (oa u)), none, none]) ⟨.inr rfl, .inl rfl, .inl rfl, trivial⟩ ?_
      exact s_Un_readParts_51 C hQ hA hR hno hfl hu S  hp
    · have hp := hp.2 hc
      refine a_iload_n C dc_Un_readParts_27 rfl rfl ?_
      refine a_sipush (v := 219) C dc_Un_readParts_28 (by decide) ?_
      refine a_icmp_ne (tgt := 41) C dc_Un_readParts_31 (by decide) ⟨fun hc => ?_, fun hc => ?_⟩
      · have hp := hp.1 hc
        refine a_aload_n C dc_Un_readParts_41 rfl rfl ?_
        refine c_callT (rest := []) (av := .ref (oa u) :: []) C dc_Un_readParts_42 (ct_Un_readCodes u S hfl hu hp) cd_C_Un_readCodes i_Un (Nat.le_of_ble_eq_true rfl) (by rw [hR]; exact Nat.le_of_ble_eq_true rfl) (by rw [hR]; exact Nat.le_of_ble_eq_true rfl) (by rw [hR]; exact Nat.le_of_ble_eq_true rfl) (by rw [hR]; exact Nat.le_of_ble_eq_true rfl) (inv_V C u dc_Un_readParts_42 l_Un_148 im_C_Un_readCodes se_C_Un_readCodes cd_C_Un_readCodes ⟨by decide, by decide⟩ ln_C_Un_readCodes rfl rfl (cw_obj hu rfl) rfl rfl) (fun oc L1 hL => ?_)
        rcases hL with ⟨S42, hp, rfl, rfl⟩ | ⟨c9, a9, S9, hp, rfl, rfl⟩
        rotate_left
        · exact Or.inr ⟨a9, rfl, t_out C hQ hA (fun x hx => (hno x hx).elim) (Or.inr ⟨c9, a9, S9, hp, rfl, rfl⟩) (Nat.le_of_ble_eq_true rfl) (Nat.le_of_ble_eq_true rfl)⟩
        refine Or.inl ⟨_, rfl, ?_⟩
        refine aw_eq (lo' := _) (st' := []) (L' := (cw lt_C U oa S42)) rfl rfl rfl ?_
        refine aw_lo (lo' := [some (.ref (oa u)), some (.int x1), some (.int x2)]) ⟨.inr rfl, .inr rfl, .inr rfl, trivial⟩ ?_
        exact s_Un_readParts_45 C hQ hA hR hno hfl hu x1 x2 S42 R2 hR2 hp
      · have hp := hp.2 hc
        refine a_aload_n C dc_Un_readParts_34 rfl rfl ?_
        refine c_callT (rest := []) (av := .ref (oa u) :: []) C dc_Un_readParts_35 (ct_Un_readTable u S hfl hu hp) cd_C_Un_readTable i_Un (Nat.le_of_ble_eq_true rfl) (by rw [hR]; exact Nat.le_of_ble_eq_true rfl) (by rw [hR]; exact Nat.le_of_ble_eq_true rfl) (by rw [hR]; exact Nat.le_of_ble_eq_true rfl) (by rw [hR]; exact Nat.le_of_ble_eq_true rfl) (inv_V C u dc_Un_readParts_35 l_Un_145 im_C_Un_readTable se_C_Un_readTable cd_C_Un_readTable ⟨by decide, by decide⟩ ln_C_Un_readTable rfl rfl (cw_obj hu rfl) rfl rfl) (fun oc L1 hL => ?_)
        rcases hL with ⟨S35, hp, rfl, rfl⟩ | ⟨c9, a9, S9, hp, rfl, rfl⟩
        rotate_left
        · exact Or.inr ⟨a9, rfl, t_out C hQ hA (fun x hx => (hno x hx).elim) (Or.inr ⟨c9, a9, S9, hp, rfl, rfl⟩) (Nat.le_of_ble_eq_true rfl) (Nat.le_of_ble_eq_true rfl)⟩
        refine Or.inl ⟨_, rfl, ?_⟩
        refine aw_eq (lo' := _) (st' := []) (L' := (cw lt_C U oa S35)) rfl rfl rfl ?_
        refine a_goto (tgt := 45) C dc_Un_readParts_38 (by decide) ?_
        refine aw_lo (lo' := [some (.ref (oa u)), some (.int x1), some (.int x2)]) ⟨.inr rfl, .inr rfl, .inr rfl, trivial⟩ ?_
        exact s_Un_readParts_45 C hQ hA hR hno hfl hu x1 x2 S35 R2 hR2 hp
set_option maxRecDepth 100000 in
set_option maxHeartbeats 1000000 in
theorem se_Un_readParts_2 (C : fcx gG D z A X R_Un c_C_Un_readParts 3 (none)) (hQ : X.2.2.2.2.2.2.2.2.2.2 = eQ gG D z X.2.2.2.2.2.2.2.1 X.2.2.2.2.1 L0 0 0 (pC_v lt_C U oa K T)) (hA : A = owA gG L0 X.2.2.2.2.1.heap.size) (hR : X.2.2.2.1 = { frames := 12, cells := 1, slots := 6, locals := 1200 }) (hno : ∀ x ∈ X.2.2.2.2.2.2.2.2.2.1.exceptionTable.toList, False) (hfl : X.2.1.flags = pinnedFlags ++ [noTraceFlag]) (hu : c_cl U u = 11) (x1 : Int32) (x2 : Int32) (S : cs) (hp : e_Un_readParts_2 U u x1 x2 S K T) : aw gG D z A X 3 2 [some (.ref (oa u)), some (.int x1), some (.int x2)] [] (cw lt_C U oa S) 0 0 := by
  obtain ⟨I, μ, h0, hs⟩ := hp
  have key : ∀ (n : Nat) (yx1 : Int32) (yx2 : Int32) (yS : cs), μ yx1 yx2 yS < n → I yx1 yx2 yS → aw gG D z A X 3 2 [some (.ref (oa u)), some (.int yx1), some (.int yx2)] [] (cw lt_C U oa yS) 0 0 := by
    intro n
    induction n with
    | zero => intro yx1 yx2 yS h; omega
    | succ n ih =>
      intro yx1 yx2 yS hn hI
      exact s_Un_readParts_2 C hQ hA hR hno hfl hu yx1 yx2 yS _ (fun zx1 zx2 zS hw => ih zx1 zx2 zS (by omega) hw.1) (hs yx1 yx2 yS hI)
  exact key (μ x1 x2 S + 1) x1 x2 S (Nat.lt_succ_self _) h0
set_option maxRecDepth 100000 in
set_option maxHeartbeats 1000000 in
theorem s_Un_readParts_0 (C : fcx gG D z A X R_Un c_C_Un_readParts 3 (none)) (hQ : X.2.2.2.2.2.2.2.2.2.2 = eQ gG D z X.2.2.2.2.2.2.2.1 X.2.2.2.2.1 L0 0 0 (pC_v lt_C U oa K T)) (hA : A = owA gG L0 X.2.2.2.2.1.heap.size) (hR : X.2.2.2.1 = { frames := 12, cells := 1, slots := 6, locals := 1200 }) (hno : ∀ x ∈ X.2.2.2.2.2.2.2.2.2.1.exceptionTable.toList, False) (hfl : X.2.1.flags = pinnedFlags ++ [noTraceFlag]) (hu : c_cl U u = 11) (x1 : Int32) (S : cs) (hp : p_Un_readParts U u x1 S K T) : aw gG D z A X 3 0 [some (.ref (oa u)), some (.int x1), none] [] (cw lt_C U oa S) 0 0 := by
  unfold p_Un_readParts at hp
  refine a_iconst (v := 0) C dc_Un_readParts_0 (by decide) ?_
  refine a_istore_n (lo' := [some (.ref (oa u)), some (.int x1), some (.int 0)]) C dc_Un_readParts_1 rfl (by decide) rfl ?_
  refine aw_lo (lo' := [some (.ref (oa u)), some (.int x1), some (.int 0)]) ⟨.inr rfl, .inr rfl, .inr rfl, trivial⟩ ?_
  exact se_Un_readParts_2 C hQ hA hR hno hfl hu x1 0 S  hp
end C_Un_readParts
section C_Un_readPartsc
variable {D : va_G} {z : Nat → ClassId} {U : ut} {oa : Nat → Nat}
set_option maxRecDepth 100000 in
theorem ct_Un_readParts {l : Launch} (u : Nat) (x1 : Int32) (S : cs) {K : cs → Prop} {T : Nat → cs → Prop} (hfl : l.flags = pinnedFlags ++ [noTraceFlag]) (hu : c_cl U u = 11) (hp : p_Un_readParts U u x1 S K T) : ct gG D z l n_C_Un_readParts c_C_Un_readParts 3 (none) 12 1200 [.ref (oa u), .int x1] (cw lt_C U oa S) 0 0 (pC_v lt_C U oa K T) := by
  refine ct_of (lo := [some (.ref (oa u)), some (.int x1), none]) (by decide) g_ok (Nat.le_of_ble_eq_true rfl) rfl ?_
  intro X A hl C hR hQ hA hno
  exact s_Un_readParts_0 C hQ hA hR hno (by rw [hl]; exact hfl) hu x1 S hp
end C_Un_readPartsc
def p_Re_skip (U : ut) (u : Nat) (x1 : Int32) (S : cs) (K : cs → Prop) : Prop :=
  K (va_up S.1 u (upd (S.1 u) 1 ((S.1 u 1) + x1)), S.2.1, S.2.2)
section C_Re_skip
variable {D : va_G} {z : Nat → ClassId} {A : Nat → Prop} {X : cx} {L0 : fw} {U : ut} {oa : Nat → Nat} {u : Nat} {K : cs → Prop}
set_option maxRecDepth 100000 in
set_option maxHeartbeats 1000000 in
theorem s_Re_skip_0 (C : fcx gG D z A X R_Re c_C_Re_skip 2 (none)) (hQ : X.2.2.2.2.2.2.2.2.2.2 = eQ gG D z X.2.2.2.2.2.2.2.1 X.2.2.2.2.1 L0 0 0 (pC_v lt_C U oa K (fun _ _ => False))) (hA : A = owA gG L0 X.2.2.2.2.1.heap.size) (hR : X.2.2.2.1 = { frames := 1, cells := 1, slots := 6, locals := 100 }) (hu : c_cl U u = 8) (x1 : Int32) (S : cs) (hp : p_Re_skip U u x1 S K) : aw gG D z A X 2 0 [some (.ref (oa u)), some (.int x1)] [] (cw lt_C U oa S) 0 0 := by
  unfold p_Re_skip at hp
  refine a_aload_n C dc_Re_skip_0 rfl rfl ?_
  refine a_dup C dc_Re_skip_1 rfl ?_
  refine c_getI C u 1 dc_Re_skip_2 hu rfl rfl (Nat.le_of_ble_eq_true rfl) f_Re_35 (Nat.le_of_ble_eq_true rfl) ?_
  refine a_iload_n C dc_Re_skip_5 rfl rfl ?_
  refine a_iadd C dc_Re_skip_6 ?_
  refine c_putI (ty := .int) C u 1 dc_Re_skip_7 hu rfl rfl (Nat.le_of_ble_eq_true rfl) f_Re_35 (Nat.le_of_ble_eq_true rfl) rfl rfl rfl rfl ?_
  refine aw_eq (lo' := _) (st' := _) (L' := (cw lt_C U oa (va_up S.1 u (upd (S.1 u) 1 ((S.1 u 1) + x1)), S.2.1, S.2.2))) rfl rfl rfl ?_
  exact a_vret C hQ hA dc_Re_skip_10 rfl (Or.inl ⟨(va_up S.1 u (upd (S.1 u) 1 ((S.1 u 1) + x1)), S.2.1, S.2.2), hp, rfl, rfl⟩)
end C_Re_skip
section C_Re_skipc
variable {D : va_G} {z : Nat → ClassId} {U : ut} {oa : Nat → Nat}
set_option maxRecDepth 100000 in
theorem ct_Re_skip {l : Launch} (u : Nat) (x1 : Int32) (S : cs) {K : cs → Prop} (hu : c_cl U u = 8) (hp : p_Re_skip U u x1 S K) : ct gG D z l n_C_Re_skip c_C_Re_skip 2 (none) 1 100 [.ref (oa u), .int x1] (cw lt_C U oa S) 0 0 (pC_v lt_C U oa K (fun _ _ => False)) := by
  refine ct_of (lo := [some (.ref (oa u)), some (.int x1)]) (by decide) g_ok (Nat.le_of_ble_eq_true rfl) rfl ?_
  intro X A _ C hR hQ hA _
  exact s_Re_skip_0 C hQ hA hR hu x1 S hp
end C_Re_skipc
def b_Un_readSection_157 (U : ut) (u : Nat)  (S : cs) (K : cs → Prop) (T : Nat → cs → Prop) : Prop :=
  K S
def b_Un_readSection_141 (U : ut) (u : Nat) (s1 : Int32) (S : cs) (K : cs → Prop) (T : Nat → cs → Prop) : Prop :=
  p_Un_wantLength U u s1 S (fun S141 => ¬ S141.2.2 u 0 = NU ∧ (c_cl U (S141.2.2 u 0) = 8 ∧ (p_Re_skip U (S141.2.2 u 0) ((S141.1 u 13) - 2) S141 (fun S154 => b_Un_readSection_157 U u S154 K T)))) T
def b_Un_readSection_116 (U : ut) (u : Nat) (x1 : Int32) (s1 : Int32) (S : cs) (K : cs → Prop) (T : Nat → cs → Prop) : Prop :=
  p_Un_wantLength U u s1 S (fun S116 => p_Un_readParts U u x1 S116 (fun S121 => b_Un_readSection_157 U u S121 K T) T) T
def b_Un_readSection_102 (U : ut) (u : Nat) (x1 : Int32) (S : cs) (K : cs → Prop) (T : Nat → cs → Prop) : Prop :=
  ((S.1 u 13) ≤ 2 → (b_Un_readSection_116 U u x1 0 S K T)) ∧ (¬ ((S.1 u 13) ≤ 2) → (b_Un_readSection_116 U u x1 1 S K T))
def b_Un_readSection_71 (U : ut) (u : Nat) (s1 : Int32) (S : cs) (K : cs → Prop) (T : Nat → cs → Prop) : Prop :=
  p_Un_wantLength U u s1 S (fun S71 => ¬ S71.2.2 u 0 = NU ∧ (c_cl U (S71.2.2 u 0) = 8 ∧ (p_Re_readTwo U (S71.2.2 u 0) S71 (fun v79 S79 => b_Un_readSection_157 U u (va_up S79.1 u (upd (S79.1 u) 11 v79), S79.2.1, S79.2.2) K T) T))) T
def p_Un_readSection (U : ut) (u : Nat) (x1 : Int32) (S : cs) (K : cs → Prop) (T : Nat → cs → Prop) : Prop :=
  ¬ S.2.2 u 0 = NU ∧ (c_cl U (S.2.2 u 0) = 8 ∧ (¬ S.2.2 u 0 = NU ∧ (p_Re_readTwo U (S.2.2 u 0) (va_up S.1 u (upd (S.1 u) 12 (S.1 (S.2.2 u 0) 1)), S.2.1, S.2.2) (fun v16 S16 => (¬ x1 = 192 → ((¬ x1 = 218 → ((¬ x1 = 221 → ((x1 = 219 → (b_Un_readSection_102 U u x1 (va_up S16.1 u (upd (S16.1 u) 13 v16), S16.2.1, S16.2.2) K T)) ∧ (¬ (x1 = 219) → ((¬ x1 = 196 → ((((va_up S16.1 u (upd (S16.1 u) 13 v16)) u 13) < 2 → (b_Un_readSection_141 U u 0 (va_up S16.1 u (upd (S16.1 u) 13 v16), S16.2.1, S16.2.2) K T)) ∧ (¬ (((va_up S16.1 u (upd (S16.1 u) 13 v16)) u 13) < 2) → (b_Un_readSection_141 U u 1 (va_up S16.1 u (upd (S16.1 u) 13 v16), S16.2.1, S16.2.2) K T)))) ∧ (x1 = 196 → (b_Un_readSection_102 U u x1 (va_up S16.1 u (upd (S16.1 u) 13 v16), S16.2.1, S16.2.2) K T)))))) ∧ (x1 = 221 → ((¬ ((va_up S16.1 u (upd (S16.1 u) 13 v16)) u 13) = 4 → (b_Un_readSection_71 U u 0 (va_up S16.1 u (upd (S16.1 u) 13 v16), S16.2.1, S16.2.2) K T)) ∧ (((va_up S16.1 u (upd (S16.1 u) 13 v16)) u 13) = 4 → (b_Un_readSection_71 U u 1 (va_up S16.1 u (upd (S16.1 u) 13 v16), S16.2.1, S16.2.2) K T)))))) ∧ (x1 = 218 → (p_Un_readScan U u (va_up S16.1 u (upd (S16.1 u) 13 v16), S16.2.1, S16.2.2) (fun S44 => b_Un_readSection_157 U u S44 K T) T)))) ∧ (x1 = 192 → (p_Un_readFrame U u (va_up S16.1 u (upd (S16.1 u) 13 v16), S16.2.1, S16.2.2) (fun S30 => b_Un_readSection_157 U u S30 K T) T))) T)))
section C_Un_readSection
variable {D : va_G} {z : Nat → ClassId} {A : Nat → Prop} {X : cx} {L0 : fw} {U : ut} {oa : Nat → Nat} {u : Nat} {K : cs → Prop} {T : Nat → cs → Prop}
set_option maxRecDepth 100000 in
set_option maxHeartbeats 1000000 in
theorem s_Un_readSection_157 (C : fcx gG D z A X R_Un c_C_Un_readSection 2 (none)) (hQ : X.2.2.2.2.2.2.2.2.2.2 = eQ gG D z X.2.2.2.2.2.2.2.1 X.2.2.2.2.1 L0 0 0 (pC_v lt_C U oa K T)) (hA : A = owA gG L0 X.2.2.2.2.1.heap.size) (hR : X.2.2.2.1 = { frames := 13, cells := 1, slots := 6, locals := 1300 }) (hno : ∀ x ∈ X.2.2.2.2.2.2.2.2.2.1.exceptionTable.toList, False) (hfl : X.2.1.flags = pinnedFlags ++ [noTraceFlag]) (hu : c_cl U u = 11)  (S : cs) (hp : b_Un_readSection_157 U u S K T) : aw gG D z A X 2 157 [some (.ref (oa u)), none] [] (cw lt_C U oa S) 0 0 := by
  unfold b_Un_readSection_157 at hp
  exact a_vret C hQ hA dc_Un_readSection_157 rfl (Or.inl ⟨S, hp, rfl, rfl⟩)
set_option maxRecDepth 100000 in
set_option maxHeartbeats 1000000 in
theorem s_Un_readSection_141 (C : fcx gG D z A X R_Un c_C_Un_readSection 2 (none)) (hQ : X.2.2.2.2.2.2.2.2.2.2 = eQ gG D z X.2.2.2.2.2.2.2.1 X.2.2.2.2.1 L0 0 0 (pC_v lt_C U oa K T)) (hA : A = owA gG L0 X.2.2.2.2.1.heap.size) (hR : X.2.2.2.1 = { frames := 13, cells := 1, slots := 6, locals := 1300 }) (hno : ∀ x ∈ X.2.2.2.2.2.2.2.2.2.1.exceptionTable.toList, False) (hfl : X.2.1.flags = pinnedFlags ++ [noTraceFlag]) (hu : c_cl U u = 11) (s1 : Int32) (S : cs) (hp : b_Un_readSection_141 U u s1 S K T) : aw gG D z A X 2 141 [some (.ref (oa u)), none] [.int s1, .ref (oa u)] (cw lt_C U oa S) 0 0 := by
  unfold b_Un_readSection_141 at hp
  refine c_callT (rest := []) (av := .ref (oa u) :: [.int s1]) C dc_Un_readSection_141 (ct_Un_wantLength u s1 S hfl hu hp) cd_C_Un_wantLength i_Un (Nat.le_of_ble_eq_true rfl) (by rw [hR]; exact Nat.le_of_ble_eq_true rfl) (by rw [hR]; exact Nat.le_of_ble_eq_true rfl) (by rw [hR]; exact Nat.le_of_ble_eq_true rfl) (by rw [hR]; exact Nat.le_of_ble_eq_true rfl) (inv_V C u dc_Un_readSection_141 l_Un_128 im_C_Un_wantLength se_C_Un_wantLength cd_C_Un_wantLength ⟨by decide, by decide⟩ ln_C_Un_wantLength rfl rfl (cw_obj hu rfl) rfl rfl) (fun oc L1 hL => ?_)
  rcases hL with ⟨S141, hp, rfl, rfl⟩ | ⟨c9, a9, S9, hp, rfl, rfl⟩
  rotate_left
  · exact Or.inr ⟨a9, rfl, t_out C hQ hA (fun x hx => (hno x hx).elim) (Or.inr ⟨c9, a9, S9, hp, rfl, rfl⟩) (Nat.le_of_ble_eq_true rfl) (Nat.le_of_ble_eq_true rfl)⟩
  refine Or.inl ⟨_, rfl, ?_⟩
  refine aw_eq (lo' := _) (st' := []) (L' := (cw lt_C U oa S141)) rfl rfl rfl ?_
  refine a_aload_n C dc_Un_readSection_144 rfl rfl ?_
  refine c_getR C u 0 dc_Un_readSection_145 hu rfl rfl (Nat.le_of_ble_eq_true rfl) f_Un_12 rfl hp.1 ?_
  have hp := hp.2
  refine a_aload_n C dc_Un_readSection_148 rfl rfl ?_
  refine c_getI C u 13 dc_Un_readSection_149 hu rfl rfl (Nat.le_of_ble_eq_true rfl) f_Un_119 (Nat.le_of_ble_eq_true rfl) ?_
  refine a_iconst (v := 2) C dc_Un_readSection_152 (by decide) ?_
  refine a_isub C dc_Un_readSection_153 ?_
  have hc1 := hp.1
  have hp := hp.2
  refine c_call (rest := []) (av := .ref (oa (S141.2.2 u 0)) :: [.int ((S141.1 u 13) - 2)]) C dc_Un_readSection_154 (ct_Re_skip (S141.2.2 u 0) ((S141.1 u 13) - 2) S141 hc1 hp) cd_C_Re_skip i_Re (Nat.le_of_ble_eq_true rfl) (by rw [hR]; exact Nat.le_of_ble_eq_true rfl) (by rw [hR]; exact Nat.le_of_ble_eq_true rfl) (by rw [hR]; exact Nat.le_of_ble_eq_true rfl) (by rw [hR]; exact Nat.le_of_ble_eq_true rfl) (inv_V C (S141.2.2 u 0) dc_Un_readSection_154 l_Un_135 im_C_Re_skip se_C_Re_skip cd_C_Re_skip ⟨by decide, by decide⟩ ln_C_Re_skip rfl rfl (cw_obj hc1 rfl) rfl rfl) (fun oc L1 hL => ?_)
  obtain ⟨S154, hp, rfl, rfl⟩ := hL.resolve_right pC_no
  refine ⟨_, rfl, ?_⟩
  refine aw_eq (lo' := _) (st' := []) (L' := (cw lt_C U oa S154)) rfl rfl rfl ?_
  refine aw_lo (lo' := [some (.ref (oa u)), none]) ⟨.inr rfl, .inr rfl, trivial⟩ ?_
  exact s_Un_readSection_157 C hQ hA hR hno hfl hu S154  hp
set_option maxRecDepth 100000 in
set_option maxHeartbeats 1000000 in
theorem s_Un_readSection_116 (C : fcx gG D z A X R_Un c_C_Un_readSection 2 (none)) (hQ : X.2.2.2.2.2.2.2.2.2.2 = eQ gG D z X.2.2.2.2.2.2.2.1 X.2.2.2.2.1 L0 0 0 (pC_v lt_C U oa K T)) (hA : A = owA gG L0 X.2.2.2.2.1.heap.size) (hR : X.2.2.2.1 = { frames := 13, cells := 1, slots := 6, locals := 1300 }) (hno : ∀ x ∈ X.2.2.2.2.2.2.2.2.2.1.exceptionTable.toList, False) (hfl : X.2.1.flags = pinnedFlags ++ [noTraceFlag]) (hu : c_cl U u = 11) (x1 : Int32) (s1 : Int32) (S : cs) (hp : b_Un_readSection_116 U u x1 s1 S K T) : aw gG D z A X 2 116 [some (.ref (oa u)), some (.int x1)] [.int s1, .ref (oa u)] (cw lt_C U oa S) 0 0 := by
  unfold b_Un_readSection_116 at hp
  refine c_callT (rest := []) (av := .ref (oa u) :: [.int s1]) C dc_Un_readSection_116 (ct_Un_wantLength u s1 S hfl hu hp) cd_C_Un_wantLength i_Un (Nat.le_of_ble_eq_true rfl) (by rw [hR]; exact Nat.le_of_ble_eq_true rfl) (by rw [hR]; exact Nat.le_of_ble_eq_true rfl) (by rw [hR]; exact Nat.le_of_ble_eq_true rfl) (by rw [hR]; exact Nat.le_of_ble_eq_true rfl) (inv_V C u dc_Un_readSection_116 l_Un_128 im_C_Un_wantLength se_C_Un_wantLength cd_C_Un_wantLength ⟨by decide, by decide⟩ ln_C_Un_wantLength rfl rfl (cw_obj hu rfl) rfl rfl) (fun oc L1 hL => ?_)
  rcases hL with ⟨S116, hp, rfl, rfl⟩ | ⟨c9, a9, S9, hp, rfl, rfl⟩
  rotate_left
  · exact Or.inr ⟨a9, rfl, t_out C hQ hA (fun x hx => (hno x hx).elim) (Or.inr ⟨c9, a9, S9, hp, rfl, rfl⟩) (Nat.le_of_ble_eq_true rfl) (Nat.le_of_ble_eq_true rfl)⟩
  refine Or.inl ⟨_, rfl, ?_⟩
  refine aw_eq (lo' := _) (st' := []) (L' := (cw lt_C U oa S116)) rfl rfl rfl ?_
  refine a_aload_n C dc_Un_readSection_119 rfl rfl ?_
  refine a_iload_n C dc_Un_readSection_120 rfl rfl ?_
  refine c_callT (rest := []) (av := .ref (oa u) :: [.int x1]) C dc_Un_readSection_121 (ct_Un_readParts u x1 S116 hfl hu hp) cd_C_Un_readParts i_Un (Nat.le_of_ble_eq_true rfl) (by rw [hR]; exact Nat.le_of_ble_eq_true rfl) (by rw [hR]; exact Nat.le_of_ble_eq_true rfl) (by rw [hR]; exact Nat.le_of_ble_eq_true rfl) (by rw [hR]; exact Nat.le_of_ble_eq_true rfl) (inv_V C u dc_Un_readSection_121 l_Un_132 im_C_Un_readParts se_C_Un_readParts cd_C_Un_readParts ⟨by decide, by decide⟩ ln_C_Un_readParts rfl rfl (cw_obj hu rfl) rfl rfl) (fun oc L1 hL => ?_)
  rcases hL with ⟨S121, hp, rfl, rfl⟩ | ⟨c9, a9, S9, hp, rfl, rfl⟩
  rotate_left
  · exact Or.inr ⟨a9, rfl, t_out C hQ hA (fun x hx => (hno x hx).elim) (Or.inr ⟨c9, a9, S9, hp, rfl, rfl⟩) (Nat.le_of_ble_eq_true rfl) (Nat.le_of_ble_eq_true rfl)⟩
  refine Or.inl ⟨_, rfl, ?_⟩
  refine aw_eq (lo' := _) (st' := []) (L' := (cw lt_C U oa S121)) rfl rfl rfl ?_
  refine a_goto (tgt := 157) C dc_Un_readSection_124 (by decide) ?_
  refine aw_lo (lo' := [some (.ref (oa u)), none]) ⟨.inr rfl, .inl rfl, trivial⟩ ?_
  exact s_Un_readSection_157 C hQ hA hR hno hfl hu S121  hp
set_option maxRecDepth 100000 in
set_option maxHeartbeats 1000000 in
theorem s_Un_readSection_102 (C : fcx gG D z A X R_Un c_C_Un_readSection 2 (none)) (hQ : X.2.2.2.2.2.2.2.2.2.2 = eQ gG D z X.2.2.2.2.2.2.2.1 X.2.2.2.2.1 L0 0 0 (pC_v lt_C U oa K T)) (hA : A = owA gG L0 X.2.2.2.2.1.heap.size) (hR : X.2.2.2.1 = { frames := 13, cells := 1, slots := 6, locals := 1300 }) (hno : ∀ x ∈ X.2.2.2.2.2.2.2.2.2.1.exceptionTable.toList, False) (hfl : X.2.1.flags = pinnedFlags ++ [noTraceFlag]) (hu : c_cl U u = 11) (x1 : Int32) (S : cs) (hp : b_Un_readSection_102 U u x1 S K T) : aw gG D z A X 2 102 [some (.ref (oa u)), some (.int x1)] [] (cw lt_C U oa S) 0 0 := by
  unfold b_Un_readSection_102 at hp
  refine a_aload_n C dc_Un_readSection_102 rfl rfl ?_
  refine a_aload_n C dc_Un_readSection_103 rfl rfl ?_
  refine c_getI C u 13 dc_Un_readSection_104 hu rfl rfl (Nat.le_of_ble_eq_true rfl) f_Un_119 (Nat.le_of_ble_eq_true rfl) ?_
  refine a_iconst (v := 2) C dc_Un_readSection_107 (by decide) ?_
  refine a_icmp_le (tgt := 115) C dc_Un_readSection_108 (by decide) ⟨fun hc => ?_, fun hc => ?_⟩
  · have hp := hp.1 hc
    refine a_iconst (v := 0) C dc_Un_readSection_115 (by decide) ?_
    refine aw_lo (lo' := [some (.ref (oa u)), some (.int x1)]) ⟨.inr rfl, .inr rfl, trivial⟩ ?_
    exact s_Un_readSection_116 C hQ hA hR hno hfl hu x1 0 S  hp
  · have hp := hp.2 hc
    refine a_iconst (v := 1) C dc_Un_readSection_111 (by decide) ?_
    refine a_goto (tgt := 116) C dc_Un_readSection_112 (by decide) ?_
    refine aw_lo (lo' := [some (.ref (oa u)), some (.int x1)]) ⟨.inr rfl, .inr rfl, trivial⟩ ?_
    exact s_Un_readSection_116 C hQ hA hR hno hfl hu x1 1 S  hp
set_option maxRecDepth 100000 in
set_option maxHeartbeats 1000000 in
theorem s_Un_readSection_71 (C : fcx gG D z A X R_Un c_C_Un_readSection 2 (none)) (hQ : X.2.2.2.2.2.2.2.2.2.2 = eQ gG D z X.2.2.2.2.2.2.2.1 X.2.2.2.2.1 L0 0 0 (pC_v lt_C U oa K T)) (hA : A = owA gG L0 X.2.2.2.2.1.heap.size) (hR : X.2.2.2.1 = { frames := 13, cells := 1, slots := 6, locals := 1300 }) (hno : ∀ x ∈ X.2.2.2.2.2.2.2.2.2.1.exceptionTable.toList, False) (hfl : X.2.1.flags = pinnedFlags ++ [noTraceFlag]) (hu : c_cl U u = 11) (s1 : Int32) (S : cs) (hp : b_Un_readSection_71 U u s1 S K T) : aw gG D z A X 2 71 [some (.ref (oa u)), none] [.int s1, .ref (oa u)] (cw lt_C U oa S) 0 0 := by
  unfold b_Un_readSection_71 at hp
  refine c_callT (rest := []) (av := .ref (oa u) :: [.int s1]) C dc_Un_readSection_71 (ct_Un_wantLength u s1 S hfl hu hp) cd_C_Un_wantLength i_Un (Nat.le_of_ble_eq_true rfl) (by rw [hR]; exact Nat.le_of_ble_eq_true rfl) (by rw [hR]; exact Nat.le_of_ble_eq_true rfl) (by rw [hR]; exact Nat.le_of_ble_eq_true rfl) (by rw [hR]; exact Nat.le_of_ble_eq_true rfl) (inv_V C u dc_Un_readSection_71 l_Un_128 im_C_Un_wantLength se_C_Un_wantLength cd_C_Un_wantLength ⟨by decide, by decide⟩ ln_C_Un_wantLength rfl rfl (cw_obj hu rfl) rfl rfl) (fun oc L1 hL => ?_)
  rcases hL with ⟨S71, hp, rfl, rfl⟩ | ⟨c9, a9, S9, hp, rfl, rfl⟩
  rotate_left
  · exact Or.inr ⟨a9, rfl, t_out C hQ hA (fun x hx => (hno x hx).elim) (Or.inr ⟨c9, a9, S9, hp, rfl, rfl⟩) (Nat.le_of_ble_eq_true rfl) (Nat.le_of_ble_eq_true rfl)⟩
  refine Or.inl ⟨_, rfl, ?_⟩
  refine aw_eq (lo' := _) (st' := []) (L' := (cw lt_C U oa S71)) rfl rfl rfl ?_
  refine a_aload_n C dc_Un_readSection_74 rfl rfl ?_
  refine a_aload_n C dc_Un_readSection_75 rfl rfl ?_
  refine c_getR C u 0 dc_Un_readSection_76 hu rfl rfl (Nat.le_of_ble_eq_true rfl) f_Un_12 rfl hp.1 ?_
  have hp := hp.2
  have hc2 := hp.1
  have hp := hp.2
  refine c_callT (rest := [.ref (oa u)]) (av := .ref (oa (S71.2.2 u 0)) :: []) C dc_Un_readSection_79 (ct_Re_readTwo (S71.2.2 u 0) S71 hfl hc2 hp) cd_C_Re_readTwo i_Re (Nat.le_of_ble_eq_true rfl) (by rw [hR]; exact Nat.le_of_ble_eq_true rfl) (by rw [hR]; exact Nat.le_of_ble_eq_true rfl) (by rw [hR]; exact Nat.le_of_ble_eq_true rfl) (by rw [hR]; exact Nat.le_of_ble_eq_true rfl) (inv_V C (S71.2.2 u 0) dc_Un_readSection_79 l_Un_116 im_C_Re_readTwo se_C_Re_readTwo cd_C_Re_readTwo ⟨by decide, by decide⟩ ln_C_Re_readTwo rfl rfl (cw_obj hc2 rfl) rfl rfl) (fun oc L1 hL => ?_)
  rcases hL with ⟨v79, S79, hp, rfl, rfl⟩ | ⟨c9, a9, S9, hp, rfl, rfl⟩
  rotate_left
  · exact Or.inr ⟨a9, rfl, t_out C hQ hA (fun x hx => (hno x hx).elim) (Or.inr ⟨c9, a9, S9, hp, rfl, rfl⟩) (Nat.le_of_ble_eq_true rfl) (Nat.le_of_ble_eq_true rfl)⟩
  refine Or.inl ⟨_, rfl, ?_⟩
  refine aw_eq (lo' := _) (st' := [.int v79, .ref (oa u)]) (L' := (cw lt_C U oa S79)) rfl rfl rfl ?_
  refine c_putI (ty := .int) C u 11 dc_Un_readSection_82 hu rfl rfl (Nat.le_of_ble_eq_true rfl) f_Un_102 (Nat.le_of_ble_eq_true rfl) rfl rfl rfl rfl ?_
  refine aw_eq (lo' := _) (st' := _) (L' := (cw lt_C U oa (va_up S79.1 u (upd (S79.1 u) 11 v79), S79.2.1, S79.2.2))) rfl rfl rfl ?_
  refine a_goto (tgt := 157) C dc_Un_readSection_85 (by decide) ?_
  refine aw_lo (lo' := [some (.ref (oa u)), none]) ⟨.inr rfl, .inr rfl, trivial⟩ ?_
  exact s_Un_readSection_157 C hQ hA hR hno hfl hu (va_up S79.1 u (upd (S79.1 u) 11 v79), S79.2.1, S79.2.2)  hp
set_option maxRecDepth 100000 in
set_option maxHeartbeats 1000000 in
theorem s_Un_readSection_0 (C : fcx gG D z A X R_Un c_C_Un_readSection 2 (none)) (hQ : X.2.2.2.2.2.2.2.2.2.2 = eQ gG D z X.2.2.2.2.2.2.2.1 X.2.2.2.2.1 L0 0 0 (pC_v lt_C U oa K T)) (hA : A = owA gG L0 X.2.2.2.2.1.heap.size) (hR : X.2.2.2.1 = { frames := 13, cells := 1, slots := 6, locals := 1300 }) (hno : ∀ x ∈ X.2.2.2.2.2.2.2.2.2.1.exceptionTable.toList, False) (hfl : X.2.1.flags = pinnedFlags ++ [noTraceFlag]) (hu : c_cl U u = 11) (x1 : Int32) (S : cs) (hp : p_Un_readSection U u x1 S K T) : aw gG D z A X 2 0 [some (.ref (oa u)), some (.int x1)] [] (cw lt_C U oa S) 0 0 := by
  unfold p_Un_readSection at hp
  refine a_aload_n C dc_Un_readSection_0 rfl rfl ?_
  refine a_aload_n C dc_Un_readSection_1 rfl rfl ?_
  refine c_getR C u 0 dc_Un_readSection_2 hu rfl rfl (Nat.le_of_ble_eq_true rfl) f_Un_12 rfl hp.1 ?_
  have hp := hp.2
  have hc3 := hp.1
  have hp := hp.2
  refine c_getIN C (S.2.2 u 0) 1 dc_Un_readSection_5 hc3 rfl rfl (Nat.le_of_ble_eq_true rfl) f_Un_70 (Nat.le_of_ble_eq_true rfl) ?_
  refine c_putI (ty := .int) C u 12 dc_Un_readSection_8 hu rfl rfl (Nat.le_of_ble_eq_true rfl) f_Un_113 (Nat.le_of_ble_eq_true rfl) rfl rfl rfl rfl ?_
  refine aw_eq (lo' := _) (st' := _) (L' := (cw lt_C U oa (va_up S.1 u (upd (S.1 u) 12 (S.1 (S.2.2 u 0) 1)), S.2.1, S.2.2))) rfl rfl rfl ?_
  refine a_aload_n C dc_Un_readSection_11 rfl rfl ?_
  refine a_aload_n C dc_Un_readSection_12 rfl rfl ?_
  refine c_getR C u 0 dc_Un_readSection_13 hu rfl rfl (Nat.le_of_ble_eq_true rfl) f_Un_12 rfl hp.1 ?_
  have hp := hp.2
  refine c_callT (rest := [.ref (oa u)]) (av := .ref (oa (S.2.2 u 0)) :: []) C dc_Un_readSection_16 (ct_Re_readTwo (S.2.2 u 0) (va_up S.1 u (upd (S.1 u) 12 (S.1 (S.2.2 u 0) 1)), S.2.1, S.2.2) hfl hc3 hp) cd_C_Re_readTwo i_Re (Nat.le_of_ble_eq_true rfl) (by rw [hR]; exact Nat.le_of_ble_eq_true rfl) (by rw [hR]; exact Nat.le_of_ble_eq_true rfl) (by rw [hR]; exact Nat.le_of_ble_eq_true rfl) (by rw [hR]; exact Nat.le_of_ble_eq_true rfl) (inv_V C (S.2.2 u 0) dc_Un_readSection_16 l_Un_116 im_C_Re_readTwo se_C_Re_readTwo cd_C_Re_readTwo ⟨by decide, by decide⟩ ln_C_Re_readTwo rfl rfl (cw_obj hc3 rfl) rfl rfl) (fun oc L1 hL => ?_)
  rcases hL with ⟨v16, S16, hp, rfl, rfl⟩ | ⟨c9, a9, S9, hp, rfl, rfl⟩
  rotate_left
  · exact Or.inr ⟨a9, rfl, t_out C hQ hA (fun x hx => (hno x hx).elim) (Or.inr ⟨c9, a9, S9, hp, rfl, rfl⟩) (Nat.le_of_ble_eq_true rfl) (Nat.le_of_ble_eq_true rfl)⟩
  refine Or.inl ⟨_, rfl, ?_⟩
  refine aw_eq (lo' := _) (st' := [.int v16, .ref (oa u)]) (L' := (cw lt_C U oa S16)) rfl rfl rfl ?_
  refine c_putI (ty := .int) C u 13 dc_Un_readSection_19 hu rfl rfl (Nat.le_of_ble_eq_true rfl) f_Un_119 (Nat.le_of_ble_eq_true rfl) rfl rfl rfl rfl ?_
  refine aw_eq (lo' := _) (st' := _) (L' := (cw lt_C U oa (va_up S16.1 u (upd (S16.1 u) 13 v16), S16.2.1, S16.2.2))) rfl rfl rfl ?_
  refine a_iload_n C dc_Un_readSection_22 rfl rfl ?_
  refine a_sipush (v := 192) C dc_Un_readSection_23 (by decide) ?_
  refine a_icmp_ne (tgt := 36) C dc_Un_readSection_26 (by decide) ⟨fun hc => ?_, fun hc => ?_⟩
  · have hp := hp.1 hc
    refine a_iload_n C dc_Un_readSection_36 rfl rfl ?_
    refine a_sipush (v := 218) C dc_Un_readSection_37 (by decide) ?_
    refine a_icmp_ne (tgt := 50) C dc_Un_readSection_40 (by decide) ⟨fun hc => ?_, fun hc => ?_⟩
    · have hp := hp.1 hc
      refine a_iload_n C dc_Un_readSection_50 rfl rfl ?_
      refine a_sipush (v := 221) C dc_Un_readSection_51 (by decide) ?_
      refine a_icmp_ne (tgt := 88) C dc_Un_readSection_54 (by decide) ⟨fun hc => ?_, fun hc => ?_⟩
      · have hp := hp.1 hc
        refine a_iload_n C dc_Un_readSection_88 rfl rfl ?_
        refine a_sipush (v := 219) C dc_Un_readSection_89 (by decide) ?_
        refine a_icmp_eq (tgt := 102) C dc_Un_readSection_92 (by decide) ⟨fun hc => ?_, fun hc => ?_⟩
        · have hp := hp.1 hc
          refine aw_lo (lo' := [some (.ref (oa u)), some (.int x1)]) ⟨.inr rfl, .inr rfl, trivial⟩ ?_
          exact s_Un_readSection_102 C hQ hA hR hno hfl hu x1 (va_up S16.1 u (upd (S16.1 u) 13 v16), S16.2.1, S16.2.2)  hp
        · have hp := hp.2 hc
          refine a_iload_n C dc_Un_readSection_95 rfl rfl ?_
          refine a_sipush (v := 196) C dc_Un_readSection_96 (by decide) ?_
          refine a_icmp_ne (tgt := 127) C dc_Un_readSection_99 (by decide) ⟨fun hc => ?_, fun hc => ?_⟩
          · have hp := hp.1 hc
            refine a_aload_n C dc_Un_readSection_127 rfl rfl ?_
            refine a_aload_n C dc_Un_readSection_128 rfl rfl ?_
            refine c_getI C u 13 dc_Un_readSection_129 hu rfl rfl (Nat.le_of_ble_eq_true rfl) f_Un_119 (Nat.le_of_ble_eq_true rfl) ?_
            refine a_iconst (v := 2) C dc_Un_readSection_132 (by decide) ?_
            refine a_icmp_lt (tgt := 140) C dc_Un_readSection_133 (by decide) ⟨fun hc => ?_, fun hc => ?_⟩
            · have hp := hp.1 hc
              refine a_iconst (v := 0) C dc_Un_readSection_140 (by decide) ?_
              refine aw_lo (lo' := [some (.ref (oa u)), none]) ⟨.inr rfl, .inl rfl, trivial⟩ ?_
              exact s_Un_readSection_141 C hQ hA hR hno hfl hu 0 (va_up S16.1 u (upd (S16.1 u) 13 v16), S16.2.1, S16.2.2)  hp
            · have hp := hp.2 hc
              refine a_iconst (v := 1) C dc_Un_readSection_136 (by decide) ?_
              refine a_goto (tgt := 141) C dc_Un_readSection_137 (by decide) ?_
              refine aw_lo (lo' := [some (.ref (oa u)), none]) ⟨.inr rfl, .inl rfl, trivial⟩ ?_
              exact s_Un_readSection_141 C hQ hA hR hno hfl hu 1 (va_up S16.1 u (upd (S16.1 u) 13 v16), S16.2.1, S16.2.2)  hp
          · have hp := hp.2 hc
            refine aw_lo (lo' := [some (.ref (oa u)), some (.int x1)]) ⟨.inr rfl, .inr rfl, trivial⟩ ?_
            exact s_Un_readSection_102 C hQ hA hR hno hfl hu x1 (va_up S16.1 u (upd (S16.1 u) 13 v16), S16.2.1, S16.2.2)  hp
      · have hp := hp.2 hc
        refine a_aload_n C dc_Un_readSection_57 rfl rfl ?_
        refine a_aload_n C dc_Un_readSection_58 rfl rfl ?_
        refine c_getI C u 13 dc_Un_readSection_59 hu rfl rfl (Nat.le_of_ble_eq_true rfl) f_Un_119 (Nat.le_of_ble_eq_true rfl) ?_
        refine a_iconst (v := 4) C dc_Un_readSection_62 (by decide) ?_
        refine a_icmp_ne (tgt := 70) C dc_Un_readSection_63 (by decide) ⟨fun hc => ?_, fun hc => ?_⟩
        · have hp := hp.1 hc
          refine a_iconst (v := 0) C dc_Un_readSection_70 (by decide) ?_
          refine aw_lo (lo' := [some (.ref (oa u)), none]) ⟨.inr rfl, .inl rfl, trivial⟩ ?_
          exact s_Un_readSection_71 C hQ hA hR hno hfl hu 0 (va_up S16.1 u (upd (S16.1 u) 13 v16), S16.2.1, S16.2.2)  hp
        · have hp := hp.2 hc
          refine a_iconst (v := 1) C dc_Un_readSection_66 (by decide) ?_
          refine a_goto (tgt := 71) C dc_Un_readSection_67 (by decide) ?_
          refine aw_lo (lo' := [some (.ref (oa u)), none]) ⟨.inr rfl, .inl rfl, trivial⟩ ?_
          exact s_Un_readSection_71 C hQ hA hR hno hfl hu 1 (va_up S16.1 u (upd (S16.1 u) 13 v16), S16.2.1, S16.2.2)  hp
    · have hp := hp.2 hc
      refine a_aload_n C dc_Un_readSection_43 rfl rfl ?_
      refine c_callT (rest := []) (av := .ref (oa u) :: []) C dc_Un_readSection_44 (ct_Un_readScan u (va_up S16.1 u (upd (S16.1 u) 13 v16), S16.2.1, S16.2.2) hfl hu hp) cd_C_Un_readScan i_Un (Nat.le_of_ble_eq_true rfl) (by rw [hR]; exact Nat.le_of_ble_eq_true rfl) (by rw [hR]; exact Nat.le_of_ble_eq_true rfl) (by rw [hR]; exact Nat.le_of_ble_eq_true rfl) (by rw [hR]; exact Nat.le_of_ble_eq_true rfl) (inv_V C u dc_Un_readSection_44 l_Un_125 im_C_Un_readScan se_C_Un_readScan cd_C_Un_readScan ⟨by decide, by decide⟩ ln_C_Un_readScan rfl rfl (cw_obj hu rfl) rfl rfl) (fun oc L1 hL => ?_)
      rcases hL with ⟨S44, hp, rfl, rfl⟩ | ⟨c9, a9, S9, hp, rfl, rfl⟩
      rotate_left
      · exact Or.inr ⟨a9, rfl, t_out C hQ hA (fun x hx => (hno x hx).elim) (Or.inr ⟨c9, a9, S9, hp, rfl, rfl⟩) (Nat.le_of_ble_eq_true rfl) (Nat.le_of_ble_eq_true rfl)⟩
      refine Or.inl ⟨_, rfl, ?_⟩
      refine aw_eq (lo' := _) (st' := []) (L' := (cw lt_C U oa S44)) rfl rfl rfl ?_
      refine a_goto (tgt := 157) C dc_Un_readSection_47 (by decide) ?_
      refine aw_lo (lo' := [some (.ref (oa u)), none]) ⟨.inr rfl, .inl rfl, trivial⟩ ?_
      exact s_Un_readSection_157 C hQ hA hR hno hfl hu S44  hp
  · have hp := hp.2 hc
    refine a_aload_n C dc_Un_readSection_29 rfl rfl ?_
    refine c_callT (rest := []) (av := .ref (oa u) :: []) C dc_Un_readSection_30 (ct_Un_readFrame u (va_up S16.1 u (upd (S16.1 u) 13 v16), S16.2.1, S16.2.2) hfl hu hp) cd_C_Un_readFrame i_Un (Nat.le_of_ble_eq_true rfl) (by rw [hR]; exact Nat.le_of_ble_eq_true rfl) (by rw [hR]; exact Nat.le_of_ble_eq_true rfl) (by rw [hR]; exact Nat.le_of_ble_eq_true rfl) (by rw [hR]; exact Nat.le_of_ble_eq_true rfl) (inv_V C u dc_Un_readSection_30 l_Un_122 im_C_Un_readFrame se_C_Un_readFrame cd_C_Un_readFrame ⟨by decide, by decide⟩ ln_C_Un_readFrame rfl rfl (cw_obj hu rfl) rfl rfl) (fun oc L1 hL => ?_)
    rcases hL with ⟨S30, hp, rfl, rfl⟩ | ⟨c9, a9, S9, hp, rfl, rfl⟩
    rotate_left
    · exact Or.inr ⟨a9, rfl, t_out C hQ hA (fun x hx => (hno x hx).elim) (Or.inr ⟨c9, a9, S9, hp, rfl, rfl⟩) (Nat.le_of_ble_eq_true rfl) (Nat.le_of_ble_eq_true rfl)⟩
    refine Or.inl ⟨_, rfl, ?_⟩
    refine aw_eq (lo' := _) (st' := []) (L' := (cw lt_C U oa S30)) rfl rfl rfl ?_
    refine a_goto (tgt := 157) C dc_Un_readSection_33 (by decide) ?_
    refine aw_lo (lo' := [some (.ref (oa u)), none]) ⟨.inr rfl, .inl rfl, trivial⟩ ?_
    exact s_Un_readSection_157 C hQ hA hR hno hfl hu S30  hp
end C_Un_readSection
section C_Un_readSectionc
variable {D : va_G} {z : Nat → ClassId} {U : ut} {oa : Nat → Nat}
set_option maxRecDepth 100000 in
theorem ct_Un_readSection {l : Launch} (u : Nat) (x1 : Int32) (S : cs) {K : cs → Prop} {T : Nat → cs → Prop} (hfl : l.flags = pinnedFlags ++ [noTraceFlag]) (hu : c_cl U u = 11) (hp : p_Un_readSection U u x1 S K T) : ct gG D z l n_C_Un_readSection c_C_Un_readSection 2 (none) 13 1300 [.ref (oa u), .int x1] (cw lt_C U oa S) 0 0 (pC_v lt_C U oa K T) := by
  refine ct_of (lo := [some (.ref (oa u)), some (.int x1)]) (by decide) g_ok (Nat.le_of_ble_eq_true rfl) rfl ?_
  intro X A hl C hR hQ hA hno
  exact s_Un_readSection_0 C hQ hA hR hno (by rw [hl]; exact hfl) hu x1 S hp
end C_Un_readSectionc
def p_Re_dropBits (U : ut) (u : Nat)  (S : cs) (K : cs → Prop) : Prop :=
  K (va_up S.1 u (upd (S.1 u) 4 0), S.2.1, S.2.2)
section C_Re_dropBits
variable {D : va_G} {z : Nat → ClassId} {A : Nat → Prop} {X : cx} {L0 : fw} {U : ut} {oa : Nat → Nat} {u : Nat} {K : cs → Prop}
set_option maxRecDepth 100000 in
set_option maxHeartbeats 1000000 in
theorem s_Re_dropBits_0 (C : fcx gG D z A X R_Re c_C_Re_dropBits 1 (none)) (hQ : X.2.2.2.2.2.2.2.2.2.2 = eQ gG D z X.2.2.2.2.2.2.2.1 X.2.2.2.2.1 L0 0 0 (pC_v lt_C U oa K (fun _ _ => False))) (hA : A = owA gG L0 X.2.2.2.2.1.heap.size) (hR : X.2.2.2.1 = { frames := 1, cells := 1, slots := 6, locals := 100 }) (hu : c_cl U u = 8)  (S : cs) (hp : p_Re_dropBits U u S K) : aw gG D z A X 1 0 [some (.ref (oa u))] [] (cw lt_C U oa S) 0 0 := by
  unfold p_Re_dropBits at hp
  refine a_aload_n C dc_Re_dropBits_0 rfl rfl ?_
  refine a_iconst (v := 0) C dc_Re_dropBits_1 (by decide) ?_
  refine c_putI (ty := .int) C u 4 dc_Re_dropBits_2 hu rfl rfl (Nat.le_of_ble_eq_true rfl) f_Re_55 (Nat.le_of_ble_eq_true rfl) rfl rfl rfl rfl ?_
  refine aw_eq (lo' := _) (st' := _) (L' := (cw lt_C U oa (va_up S.1 u (upd (S.1 u) 4 0), S.2.1, S.2.2))) rfl rfl rfl ?_
  exact a_vret C hQ hA dc_Re_dropBits_5 rfl (Or.inl ⟨(va_up S.1 u (upd (S.1 u) 4 0), S.2.1, S.2.2), hp, rfl, rfl⟩)
end C_Re_dropBits
section C_Re_dropBitsc
variable {D : va_G} {z : Nat → ClassId} {U : ut} {oa : Nat → Nat}
set_option maxRecDepth 100000 in
theorem ct_Re_dropBits {l : Launch} (u : Nat)  (S : cs) {K : cs → Prop} (hu : c_cl U u = 8) (hp : p_Re_dropBits U u S K) : ct gG D z l n_C_Re_dropBits c_C_Re_dropBits 1 (none) 1 100 [.ref (oa u)] (cw lt_C U oa S) 0 0 (pC_v lt_C U oa K (fun _ _ => False)) := by
  refine ct_of (lo := [some (.ref (oa u))]) (by decide) g_ok (Nat.le_of_ble_eq_true rfl) rfl ?_
  intro X A _ C hR hQ hA _
  exact s_Re_dropBits_0 C hQ hA hR hu S hp
end C_Re_dropBitsc
def b_Un_readAgain_35 (U : ut) (u : Nat)  (S : cs) (K : cs → Prop) (T : Nat → cs → Prop) : Prop :=
  ¬ S.2.2 u 10 = NU ∧ (p_Ar_fillI U (S.2.2 u 10) 0 S (fun S40 => K S40))
def p_Un_readAgain (U : ut) (u : Nat) (x1 : Int32) (S : cs) (K : cs → Prop) (T : Nat → cs → Prop) : Prop :=
  ¬ S.2.2 u 0 = NU ∧ (c_cl U (S.2.2 u 0) = 8 ∧ (p_Re_dropBits U (S.2.2 u 0) S (fun S4 => ¬ S4.2.2 u 0 = NU ∧ (c_cl U (S4.2.2 u 0) = 8 ∧ (p_Re_readMark U (S4.2.2 u 0) S4 (fun v11 S11 => (v11 = x1 → (b_Un_readAgain_35 U u S11 K T)) ∧ (¬ (v11 = x1) → (¬ S11.2.2 u 0 = NU ∧ (¬ S11.2.2 u 0 = NU ∧ (c_cl U (S11.2.2 u 0) = 8 ∧ (p_Re_fail U (S11.2.2 u 0) 3 ((S11.1 (S11.2.2 u 0) 1) - 1) S11 (fun S32 => b_Un_readAgain_35 U u S32 K T) T)))))) T)))))
section C_Un_readAgain
variable {D : va_G} {z : Nat → ClassId} {A : Nat → Prop} {X : cx} {L0 : fw} {U : ut} {oa : Nat → Nat} {u : Nat} {K : cs → Prop} {T : Nat → cs → Prop}
set_option maxRecDepth 100000 in
set_option maxHeartbeats 1000000 in
theorem s_Un_readAgain_35 (C : fcx gG D z A X R_Un c_C_Un_readAgain 2 (none)) (hQ : X.2.2.2.2.2.2.2.2.2.2 = eQ gG D z X.2.2.2.2.2.2.2.1 X.2.2.2.2.1 L0 0 0 (pC_v lt_C U oa K T)) (hA : A = owA gG L0 X.2.2.2.2.1.heap.size) (hR : X.2.2.2.1 = { frames := 11, cells := 1, slots := 6, locals := 1100 }) (hno : ∀ x ∈ X.2.2.2.2.2.2.2.2.2.1.exceptionTable.toList, False) (hfl : X.2.1.flags = pinnedFlags ++ [noTraceFlag]) (hu : c_cl U u = 11)  (S : cs) (hp : b_Un_readAgain_35 U u S K T) : aw gG D z A X 2 35 [some (.ref (oa u)), none] [] (cw lt_C U oa S) 0 0 := by
  unfold b_Un_readAgain_35 at hp
  refine a_aload_n C dc_Un_readAgain_35 rfl rfl ?_
  refine c_getR C u 10 dc_Un_readAgain_36 hu rfl rfl (Nat.le_of_ble_eq_true rfl) f_Un_56 rfl hp.1 ?_
  have hp := hp.2
  refine a_iconst (v := 0) C dc_Un_readAgain_39 (by decide) ?_
  refine c_call (rest := []) (av := [.ref (oa (S.2.2 u 10)), .int 0]) C dc_Un_readAgain_40 (ct_Ar_fillI (S.2.2 u 10) 0 S  hp) cd_C_Ar_fillI i_Ar (Nat.le_of_ble_eq_true rfl) (by rw [hR]; exact Nat.le_of_ble_eq_true rfl) (by rw [hR]; exact Nat.le_of_ble_eq_true rfl) (by rw [hR]; exact Nat.le_of_ble_eq_true rfl) (by rw [hR]; exact Nat.le_of_ble_eq_true rfl) (inv_S C dc_Un_readAgain_40 l_Un_216 st_C_Ar_fillI i_Ar cd_C_Ar_fillI ⟨by decide, by decide⟩ ln_C_Ar_fillI rfl) (fun oc L1 hL => ?_)
  obtain ⟨S40, hp, rfl, rfl⟩ := hL.resolve_right pC_no
  refine ⟨_, rfl, ?_⟩
  refine aw_eq (lo' := _) (st' := []) (L' := (cw lt_C U oa S40)) rfl rfl rfl ?_
  exact a_vret C hQ hA dc_Un_readAgain_43 rfl (Or.inl ⟨S40, hp, rfl, rfl⟩)
set_option maxRecDepth 100000 in
set_option maxHeartbeats 1000000 in
theorem s_Un_readAgain_0 (C : fcx gG D z A X R_Un c_C_Un_readAgain 2 (none)) (hQ : X.2.2.2.2.2.2.2.2.2.2 = eQ gG D z X.2.2.2.2.2.2.2.1 X.2.2.2.2.1 L0 0 0 (pC_v lt_C U oa K T)) (hA : A = owA gG L0 X.2.2.2.2.1.heap.size) (hR : X.2.2.2.1 = { frames := 11, cells := 1, slots := 6, locals := 1100 }) (hno : ∀ x ∈ X.2.2.2.2.2.2.2.2.2.1.exceptionTable.toList, False) (hfl : X.2.1.flags = pinnedFlags ++ [noTraceFlag]) (hu : c_cl U u = 11) (x1 : Int32) (S : cs) (hp : p_Un_readAgain U u x1 S K T) : aw gG D z A X 2 0 [some (.ref (oa u)), some (.int x1)] [] (cw lt_C U oa S) 0 0 := by
  unfold p_Un_readAgain at hp
  refine a_aload_n C dc_Un_readAgain_0 rfl rfl ?_
  refine c_getR C u 0 dc_Un_readAgain_1 hu rfl rfl (Nat.le_of_ble_eq_true rfl) f_Un_12 rfl hp.1 ?_
  have hp := hp.2
  have hc1 := hp.1
  have hp := hp.2
  refine c_call (rest := []) (av := .ref (oa (S.2.2 u 0)) :: []) C dc_Un_readAgain_4 (ct_Re_dropBits (S.2.2 u 0) S hc1 hp) cd_C_Re_dropBits i_Re (Nat.le_of_ble_eq_true rfl) (by rw [hR]; exact Nat.le_of_ble_eq_true rfl) (by rw [hR]; exact Nat.le_of_ble_eq_true rfl) (by rw [hR]; exact Nat.le_of_ble_eq_true rfl) (by rw [hR]; exact Nat.le_of_ble_eq_true rfl) (inv_V C (S.2.2 u 0) dc_Un_readAgain_4 l_Un_213 im_C_Re_dropBits se_C_Re_dropBits cd_C_Re_dropBits ⟨by decide, by decide⟩ ln_C_Re_dropBits rfl rfl (cw_obj hc1 rfl) rfl rfl) (fun oc L1 hL => ?_)
  obtain ⟨S4, hp, rfl, rfl⟩ := hL.resolve_right pC_no
  refine ⟨_, rfl, ?_⟩
  refine aw_eq (lo' := _) (st' := []) (L' := (cw lt_C U oa S4)) rfl rfl rfl ?_
  refine a_aload_n C dc_Un_readAgain_7 rfl rfl ?_
  refine c_getR C u 0 dc_Un_readAgain_8 hu rfl rfl (Nat.le_of_ble_eq_true rfl) f_Un_12 rfl hp.1 ?_
  have hp := hp.2
  have hc2 := hp.1
  have hp := hp.2
  refine c_callT (rest := []) (av := .ref (oa (S4.2.2 u 0)) :: []) C dc_Un_readAgain_11 (ct_Re_readMark (S4.2.2 u 0) S4 hfl hc2 hp) cd_C_Re_readMark i_Re (Nat.le_of_ble_eq_true rfl) (by rw [hR]; exact Nat.le_of_ble_eq_true rfl) (by rw [hR]; exact Nat.le_of_ble_eq_true rfl) (by rw [hR]; exact Nat.le_of_ble_eq_true rfl) (by rw [hR]; exact Nat.le_of_ble_eq_true rfl) (inv_V C (S4.2.2 u 0) dc_Un_readAgain_11 l_Un_66 im_C_Re_readMark se_C_Re_readMark cd_C_Re_readMark ⟨by decide, by decide⟩ ln_C_Re_readMark rfl rfl (cw_obj hc2 rfl) rfl rfl) (fun oc L1 hL => ?_)
  rcases hL with ⟨v11, S11, hp, rfl, rfl⟩ | ⟨c9, a9, S9, hp, rfl, rfl⟩
  rotate_left
  · exact Or.inr ⟨a9, rfl, t_out C hQ hA (fun x hx => (hno x hx).elim) (Or.inr ⟨c9, a9, S9, hp, rfl, rfl⟩) (Nat.le_of_ble_eq_true rfl) (Nat.le_of_ble_eq_true rfl)⟩
  refine Or.inl ⟨_, rfl, ?_⟩
  refine aw_eq (lo' := _) (st' := [.int v11]) (L' := (cw lt_C U oa S11)) rfl rfl rfl ?_
  refine a_iload_n C dc_Un_readAgain_14 rfl rfl ?_
  refine a_icmp_eq (tgt := 35) C dc_Un_readAgain_15 (by decide) ⟨fun hc => ?_, fun hc => ?_⟩
  · have hp := hp.1 hc
    refine aw_lo (lo' := [some (.ref (oa u)), none]) ⟨.inr rfl, .inl rfl, trivial⟩ ?_
    exact s_Un_readAgain_35 C hQ hA hR hno hfl hu S11  hp
  · have hp := hp.2 hc
    refine a_aload_n C dc_Un_readAgain_18 rfl rfl ?_
    refine c_getR C u 0 dc_Un_readAgain_19 hu rfl rfl (Nat.le_of_ble_eq_true rfl) f_Un_12 rfl hp.1 ?_
    have hp := hp.2
    refine a_iconst (v := 3) C dc_Un_readAgain_22 (by decide) ?_
    refine a_aload_n C dc_Un_readAgain_23 rfl rfl ?_
    refine c_getR C u 0 dc_Un_readAgain_24 hu rfl rfl (Nat.le_of_ble_eq_true rfl) f_Un_12 rfl hp.1 ?_
    have hp := hp.2
    have hc3 := hp.1
    have hp := hp.2
    refine c_getIN C (S11.2.2 u 0) 1 dc_Un_readAgain_27 hc3 rfl rfl (Nat.le_of_ble_eq_true rfl) f_Un_70 (Nat.le_of_ble_eq_true rfl) ?_
    refine a_iconst (v := 1) C dc_Un_readAgain_30 (by decide) ?_
    refine a_isub C dc_Un_readAgain_31 ?_
    refine c_callT (rest := []) (av := .ref (oa (S11.2.2 u 0)) :: [.int 3, .int ((S11.1 (S11.2.2 u 0) 1) - 1)]) C dc_Un_readAgain_32 (ct_Re_fail (S11.2.2 u 0) 3 ((S11.1 (S11.2.2 u 0) 1) - 1) S11 hfl hc3 hp) cd_C_Re_fail i_Re (Nat.le_of_ble_eq_true rfl) (by rw [hR]; exact Nat.le_of_ble_eq_true rfl) (by rw [hR]; exact Nat.le_of_ble_eq_true rfl) (by rw [hR]; exact Nat.le_of_ble_eq_true rfl) (by rw [hR]; exact Nat.le_of_ble_eq_true rfl) (inv_V C (S11.2.2 u 0) dc_Un_readAgain_32 l_Un_74 im_C_Re_fail se_C_Re_fail cd_C_Re_fail ⟨by decide, by decide⟩ ln_C_Re_fail rfl rfl (cw_obj hc3 rfl) rfl rfl) (fun oc L1 hL => ?_)
    rcases hL with ⟨S32, hp, rfl, rfl⟩ | ⟨c9, a9, S9, hp, rfl, rfl⟩
    rotate_left
    · exact Or.inr ⟨a9, rfl, t_out C hQ hA (fun x hx => (hno x hx).elim) (Or.inr ⟨c9, a9, S9, hp, rfl, rfl⟩) (Nat.le_of_ble_eq_true rfl) (Nat.le_of_ble_eq_true rfl)⟩
    refine Or.inl ⟨_, rfl, ?_⟩
    refine aw_eq (lo' := _) (st' := []) (L' := (cw lt_C U oa S32)) rfl rfl rfl ?_
    refine aw_lo (lo' := [some (.ref (oa u)), none]) ⟨.inr rfl, .inl rfl, trivial⟩ ?_
    exact s_Un_readAgain_35 C hQ hA hR hno hfl hu S32  hp
end C_Un_readAgain
section C_Un_readAgainc
variable {D : va_G} {z : Nat → ClassId} {U : ut} {oa : Nat → Nat}
set_option maxRecDepth 100000 in
theorem ct_Un_readAgain {l : Launch} (u : Nat) (x1 : Int32) (S : cs) {K : cs → Prop} {T : Nat → cs → Prop} (hfl : l.flags = pinnedFlags ++ [noTraceFlag]) (hu : c_cl U u = 11) (hp : p_Un_readAgain U u x1 S K T) : ct gG D z l n_C_Un_readAgain c_C_Un_readAgain 2 (none) 11 1100 [.ref (oa u), .int x1] (cw lt_C U oa S) 0 0 (pC_v lt_C U oa K T) := by
  refine ct_of (lo := [some (.ref (oa u)), some (.int x1)]) (by decide) g_ok (Nat.le_of_ble_eq_true rfl) rfl ?_
  intro X A hl C hR hQ hA hno
  exact s_Un_readAgain_0 C hQ hA hR hno (by rw [hl]; exact hfl) hu x1 S hp
end C_Un_readAgainc
