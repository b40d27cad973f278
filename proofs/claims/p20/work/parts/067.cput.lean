/-! a field that is final gets its unit; a row of objects gets one -/
section CPUT
variable {G : List Cond × List vw_C} {D : va_G} {z : Nat → ClassId} {A : Nat → Prop} {X : cx} {nL pc : Nat} {lo : List (Option Value)} {st : List Value} {L : fw} {nc ns : Nat} {own : String} {cc : ByteArray} {ret : Option FieldType}
variable {lt : Nat → fl} {U : ut} {oa : Nat → Nat} {S : cs} {ci ce : Nat} {C0 : String} {T : u_T} {N idx : Nat}
theorem c_putRF (C : fcx G D z A X own cc nL ret) (u k : Nat) {w : Nat} {ty : FieldType} (hin : X.2.2.2.2.2.2.2.2.1.name = "<init>") (hd : decode cc pc = .ok (.putfield idx, 3)) (hu : c_cl U u = ci) (h0 : Nat.blt ci 900 = true) (hc : G.2[ci]? = some (C0, T, N)) (hk : k < N) (hf : Cond.fieldLink own idx (T k).1 (T k).2.1 (T k).2.2.1 ∈ G.1) (hfin : (T k).2.2.2 = true) (hown : (T k).1 = own) (hty : parseFieldDescriptor (T k).2.2.1 = some ty) (hn : ∀ q, narrow ty (.ref q) = .ref q) (hfit : ∀ q, fits ty (.ref q) = true) (hkd : fo_kd (lt ci) k = 5) (hlk : (lt ci)[k]? = some (5, 0)) (hnw : ¬ w = NU)
    (kk : aw G D z A X nL (pc + 3) lo st (cw lt U oa (c_pr S u k w)) nc ns) : aw G D z A X nL pc lo (.ref (oa w) :: .ref (oa u) :: st) (cw lt U oa S) nc ns := a_putOF C u k hin hd h0 (cw_obj hu h0) hc hk hf hfin hown hty (hn _) (hfit _) (lx_56 hkd _) (lx_set hlk hnw) (by rw [lx_len]; exact (List.getElem?_eq_some_iff.mp hlk).1) (by rw [cw_sref hu h0]; exact kk)
theorem a_aast {o b : Nat} {ly lb : fl} {ad : Nat → Nat} {g : Nat → Int32} {r : Nat → Nat → Int32} {h : Nat → Nat → Int64} {R : fo} (C : fcx G D z A X own cc nL ret) (i i1 t0 : Nat) {n : Nat} {j : Int32} (hd : decode cc pc = .ok (.aastore, 1)) (h9 : Nat.ble 950 ci = true) (hi : L[i]? = some (ci, ly, (o, ad, g, r, h))) (hn : fo_ln ly 0 = n) (hkd : ∀ t, ¬ (2 ≤ fo_kd ly t ∧ fo_kd ly t ≤ 4)) (hz : (zx z)[t0]? = some (z ci, .object C0)) (h0 : Nat.blt ce 900 = true) (hi1 : L[i1]? = some (ce, lb, R)) (hb : R.1 = b) (hce : G.2[ce]? = some (C0, T, N)) (hj : vp_in j n)
    (kk : aw G D z A X nL (pc + 1) lo st (L.set i (ci, ly, (o, va_up ad j.toNatClampNeg b, upd g j.toNatClampNeg 1, r, h))) nc ns) : aw G D z A X nL pc lo (.ref b :: .int j :: .ref o :: st) L nc ns := by
  intro H locs ls hH hD hS hl
  subst hb
  have hlt : j.toNatClampNeg < n := Nat.not_le.mp fun q => hj (Or.inr q)
  have hj0 : ¬ j < 0 := fun q => hj (Or.inl q)
  have ht : ([(z 2, .int), (z 3, .boolean), (z 4, .long)] ++ zx z : List (ClassId × FieldType))[3 + t0]? = some (z ci, .object C0) := by
    rw [List.getElem?_append_right (by show 3 ≤ 3 + t0; omega)]
    show (zx z)[3 + t0 - 3]? = _
    rw [show 3 + t0 - 3 = t0 by omega]
    exact hz
  have hcell := (hH i _ 0 hi (Or.inr h9)).q h9
  rw [hn] at hcell
  obtain ⟨q, h1, cellV, g1, g2, g3, -⟩ := (hH i1 _ 0 hi1 (Or.inl h0)).o h0
  have hcls := (C.kn.1 ce _ hce).2
  obtain ⟨kA, comp, k1, k2, k3, -⟩ := (C.kn.2 (3 + t0) _ ht).2
  have hcomp : comp = D.1 ce := Option.some.inj (k3.symm.trans hcls.1)
  subst hcomp
  obtain ⟨kC, hkC, -⟩ := hcls.2
  refine W.aast C.x C.b hcell (fun q h => by cases h) (fun h => by cases h) k1 k2 rfl hkC ⟨hj0, by show _ < (arrV _ _ _).slots.size; rw [arrV_size]; exact hlt⟩ g1 (fun q h => by rw [g3] at h; cases h) (by rw [g2]; exact hkC) (by rw [g2]; exact va_assign hcls) rfl rfl hd fun H1 e1 z1 oq => ?_
  obtain ⟨hH', hD'⟩ := fw_set2 (t := 0) (ly' := ly) (R' := (o, va_up ad j.toNatClampNeg R.1, upd g j.toNatClampNeg 1, r, h)) (H1 := H1) hH hD hi (fun u hu => by
      cases u with
      | zero => exact ⟨hu, rfl⟩
      | succ u => exact absurd hu (hkd u)) (Or.inr h9) (fo_at.r h9 (by
      show H1[o]? = some (vp_cell (z ci) (fo_ln ly 0, _))
      rw [e1, hn, vp_cell_q, vp_cell_q, arrV_store]
      congr 2
      funext q
      by_cases hq : q = j.toNatClampNeg
      · subst hq
        simp [updV, va_up, upd, va_rf]
      · simp [updV, va_up, upd, hq])) (fun u hne hu _ => by
      cases u with
      | zero => exact absurd rfl hne
      | succ u => exact absurd hu (hkd u)) oq
  exact kk H1 _ ls hH' hD' (hS.put z1 oq (hD.2 i _ 0 hi (Or.inr h9))) hl
theorem c_aast (C : fcx G D z A X own cc nL ret) (u w t0 : Nat) {j : Int32} (hd : decode cc pc = .ok (.aastore, 1)) (hu : c_cl U u = ci) (h9 : Nat.ble 950 ci = true) (hn9 : ¬ ci = 999) (hz : (zx z)[t0]? = some (z ci, .object C0)) (hw : c_cl U w = ce) (h0 : Nat.blt ce 900 = true) (hce : G.2[ce]? = some (C0, T, N)) (hj : vp_in j (c_ln U u)) (hnw : ¬ w = NU)
    (kk : aw G D z A X nL (pc + 1) lo st (cw lt U oa (c_pr S u j.toNatClampNeg w)) nc ns) : aw G D z A X nL pc lo (.ref (oa w) :: .int j :: .ref (oa u) :: st) (cw lt U oa S) nc ns := by
  refine a_aast C u w t0 hd h9 (cw_rro hu h9 hn9) rfl (fun t ht => ?_) hz h0 (cw_obj hw h0) rfl hce hj ?_
  · match t, ht with
    | 0, ht => exact absurd ht.2 (by show ¬ 5 ≤ 4; omega)
    | t + 1, ht => exact absurd ht.1 (by show ¬ 2 ≤ 0; omega)
  · rw [cw_set (S' := c_pr S u j.toNatClampNeg w) ?_ (fun v hv => c_uR hv)]
    · exact kk
    · have hb : ¬ Nat.blt ci 900 = true := by
        have := Nat.le_of_ble_eq_true h9
        intro x
        have := Nat.le_of_ble_eq_true x
        omega
      rw [c_u, if_neg (by rw [hu]; exact hb), if_pos (by rw [hu]; exact h9), hu]
      have e1 : (fun k => oa ((c_pr S u j.toNatClampNeg w).2.2 u k)) = va_up (fun k => oa (S.2.2 u k)) j.toNatClampNeg (oa w) := by
        funext k
        simp only [c_pr, up_at]
        unfold va_up
        split <;> rfl
      have e2 : (fun k => if (c_pr S u j.toNatClampNeg w).2.2 u k = NU then (0 : Int32) else 1) = upd (fun k => if S.2.2 u k = NU then (0 : Int32) else 1) j.toNatClampNeg 1 := by
        funext k
        simp only [c_pr, up_at, upd]
        by_cases e : k = j.toNatClampNeg
        · rw [if_pos e, e, up_at, if_neg hnw]
        · rw [if_neg e, up_ne e]
      rw [e1, e2]
end CPUT
