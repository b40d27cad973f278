/-! System.arraycopy between rows of ints -/
section COPY
variable {G : List Cond × List vw_C} {D : va_G} {z : Nat → ClassId} {A : Nat → Prop} {X : cx} {nL pc : Nat} {lo : List (Option Value)} {st : List Value} {L : fw} {nc ns : Nat} {own : String} {cc : ByteArray} {ret : Option FieldType} {idx : Nat} {rest : List Value}
theorem a_copy {ca cb oa ob : Nat} {la lb : fl} {ada adb : Nat → Nat} {ga gb : Nat → Int32} {ra rb : Nat → Nat → Int32} {ha hb : Nat → Nat → Int64} (C : fcx G D z A X own cc nL ret) (i j : Nat) {na nb : Nat} {sp dp n : Int32} (hd : decode cc pc = .ok (.invokestatic idx, 3)) (hl : Cond.methodLink own idx arraycopyName ∈ G.1) (hnat : Cond.native arraycopyName ∈ G.1) (hst : Cond.static arraycopyName ∈ G.1) (hni : Cond.initialized "java/lang/System" ∈ G.1)
    (hi : L[i]? = some (ca, la, (oa, ada, ga, ra, ha))) (hj : L[j]? = some (cb, lb, (ob, adb, gb, rb, hb))) (hka : fo_kd la 0 = 2) (hkb : fo_kd lb 0 = 2) (hna : fo_ln la 0 = na) (hnb : fo_ln lb 0 = nb) (h1 : ¬ sp < 0) (h2 : ¬ dp < 0) (h3 : ¬ n < 0) (h4 : sp.toNatClampNeg + n.toNatClampNeg ≤ na) (h5 : dp.toNatClampNeg + n.toNatClampNeg ≤ nb)
    (hrest : (rest.map fun v => v.category).sum ≤ 8) (hf : 1 ≤ X.2.2.2.1.frames) (hlc : 8 + (nativeFrameWords "java/lang/System" "arraycopy" 5 + 11) ≤ X.2.2.2.1.locals)
    (k : aw G D z A X nL (pc + 3) lo rest (L.set j (cb, lb, (ob, adb, gb, va_up rb 0 (va_cpy (ra 0) (rb 0) sp.toNatClampNeg dp.toNatClampNeg n.toNatClampNeg), hb))) nc ns) : aw G D z A X nL pc lo (.int n :: .int dp :: .ref (adb 0) :: .int sp :: .ref (ada 0) :: rest) L nc ns := by
  intro H locs ls hH hD hS hlv
  have nn : ∀ z : Int32, ¬ z < 0 → z.toInt = (z.toNatClampNeg : Int) := by
    intro z hz
    have hz0 : (0 : Int) ≤ z.toInt := by
      have := Int32.not_lt.mp hz
      simpa using Int32.le_iff_toInt_le.mp this
    show z.toInt = ((z.toInt.toNat : Nat) : Int)
    omega
  have okb : fo_ok cb lb (0 + 1) := by
    show 2 ≤ fo_kd lb 0 ∧ fo_kd lb 0 ≤ 4
    rw [hkb]
    exact ⟨Nat.le_refl _, by decide⟩
  have hc0 : H[ada 0]? = some (vp_cell (z 2) (na, .inl (ra 0))) := by
    have h9 : H[ada 0]? = some (vp_cell (z (fo_kd la 0)) (fo_x la (oa, ada, ga, ra, ha) 0)) := hH i _ (0 + 1) hi (by show 2 ≤ fo_kd la 0 ∧ fo_kd la 0 ≤ 4; rw [hka]; exact ⟨Nat.le_refl _, by decide⟩)
    rw [h9, fo_x, hka, hna]; rfl
  have hc1 : H[adb 0]? = some (vp_cell (z 2) (nb, .inl (rb 0))) := by
    have h9 : H[adb 0]? = some (vp_cell (z (fo_kd lb 0)) (fo_x lb (ob, adb, gb, rb, hb) 0)) := hH j _ (0 + 1) hj okb
    rw [h9, fo_x, hkb, hnb]; rfl
  intro T hT XX
  obtain ⟨-, k0, hk0, cm0, hkk0⟩ := (C.kn.2 0 _ rfl).1 na (fun q => .int (ra 0 q))
  obtain ⟨-, k1, hk1, cm1, hkk1⟩ := (C.kn.2 0 _ rfl).1 nb (fun q => .int (rb 0 q))
  obtain ⟨vm', X', step⟩ := XX.arraycopy C.x C.ow (C.tb.use hl rfl) (C.tb.use hnat rfl) (C.tb.use hst rfl) (C.tb.use hni rfl) (src := ada 0) (dst := adb 0) (cs := vp_cell (z 2) (na, .inl (ra 0))) (cd := vp_cell (z 2) (nb, .inl (rb 0))) (srcPos := sp) (destPos := dp) (n := n) (by rw [hT]; exact hc0) (by rw [hT]; exact hc1)
    (fun _ h => by cases h) (fun _ h => by cases h) (fun h => by cases h) (fun h => by cases h) hk0 hk1 hkk0 hkk1 (by simp [refKind]) h1 h2 h3
    (by rw [nn sp h1, nn n h3]; show ¬ _ > ((arrV (z 2) na (fun j => .int (ra 0 j))).slots.size : Int); rw [arrV_size]; omega)
    (by rw [nn dp h2, nn n h3]; show ¬ _ > ((arrV (z 2) nb (fun j => .int (rb 0 j))).slots.size : Int); rw [arrV_size]; omega)
    (fun vm₁ _ i hi => by
      have e : (vp_cell (z 2) (na, .inl (ra 0))).slots.getD (sp.toNatClampNeg + i) .null = .int (ra 0 (sp.toNatClampNeg + i)) := by
        show (arrV (z 2) na (fun j => .int (ra 0 j))).slots.getD _ _ = _
        rw [Array.getD_eq_getD_getElem?, arrV_read _ _ (by omega)]
        rfl
      refine ⟨?_, ?_⟩
      · rw [e]; rfl
      · rw [e]; exact trivial)
    (g := F0 X.2.2.2.2.2.1 pc ls (.int n :: .int dp :: .ref (adb 0) :: .int sp :: .ref (ada 0) :: rest)) rfl (hlv.1.trans C.ml.symm) (rest := rest) rfl (by rw [C.b]; exact hd) hf (by show 2 * 0 + _ + _ ≤ _; omega)
  have e1 : copied (vp_cell (z 2) (na, .inl (ra 0))) (vp_cell (z 2) (nb, .inl (rb 0))) sp dp n = vp_cell (z 2) (nb, .inl (va_cpy (ra 0) (rb 0) sp.toNatClampNeg dp.toNatClampNeg n.toNatClampNeg)) := va_copied (fun z => .int z) (z 2) (z 2) (ra 0) (rb 0) h4
  rw [e1] at X' step
  have hlt : adb 0 < H.size := (Array.getElem?_eq_some_iff.mp hc1).1
  have hheap : ((T.setVm vm').setCell (adb 0) (vp_cell (z 2) (nb, .inl (va_cpy (ra 0) (rb 0) sp.toNatClampNeg dp.toNatClampNeg n.toNatClampNeg)))).heap = H.setIfInBounds (adb 0) (vp_cell (z 2) (nb, .inl (va_cpy (ra 0) (rb 0) sp.toNatClampNeg dp.toNatClampNeg n.toNatClampNeg))) := by rw [← hT]; rfl
  have oq : ∀ q : Nat, q ≠ adb 0 → (H.setIfInBounds (adb 0) (vp_cell (z 2) (nb, .inl (va_cpy (ra 0) (rb 0) sp.toNatClampNeg dp.toNatClampNeg n.toNatClampNeg))))[q]? = H[q]? := fun q hq => by simp [Array.getElem?_setIfInBounds, Ne.symm hq]
  obtain ⟨hH', hD'⟩ := fw_set (t := 0 + 1) (R' := (ob, adb, gb, va_up rb 0 (va_cpy (ra 0) (rb 0) sp.toNatClampNeg dp.toNatClampNeg n.toNatClampNeg), hb)) (H1 := H.setIfInBounds (adb 0) (vp_cell (z 2) (nb, .inl (va_cpy (ra 0) (rb 0) sp.toNatClampNeg dp.toNatClampNeg n.toNatClampNeg)))) hH hD hj okb (fun u => by cases u <;> rfl) (by
      show (H.setIfInBounds (adb 0) _)[adb 0]? = some (vp_cell (z (fo_kd lb 0)) (fo_x lb _ 0))
      rw [fo_x, hkb, hnb]
      simp [Array.getElem?_setIfInBounds, hlt, va_up]) (fun u hu h9 => by
      cases u with
      | zero =>
        by_cases h0 : Nat.blt cb 900 = true
        · obtain ⟨q, g1, g2⟩ := h9.o h0
          exact fo_at.i h0 ⟨q, g1, g2⟩
        · unfold fo_at at h9 ⊢
          rw [if_neg h0] at h9 ⊢
          exact h9
      | succ u =>
        have hne : u ≠ 0 := fun e => hu (by omega)
        have h8 : (H.setIfInBounds (adb 0) _)[adb u]? = some (vp_cell (z (fo_kd lb u)) (fo_x lb (ob, adb, gb, rb, hb) u)) := h9
        show (H.setIfInBounds (adb 0) _)[adb u]? = some (vp_cell (z (fo_kd lb u)) (fo_x lb _ u))
        rw [h8]
        simp [fo_x, va_up, hne]) oq
  have hadA : A (adb 0) := hD.2 j _ (0 + 1) hj okb
  obtain ⟨t, a1, b1⟩ := k _ _ ls hH' hD' ⟨by simp; exact hS.1, fun q g1 g2 => by
      rw [oq q (fun e => g2 (by rw [e]; exact hadA))]
      exact hS.2.1 q g1 g2, fun q hq => by
      rcases List.mem_append.mp hq with h | h
      · exact hS.2.2 q h
      · obtain ⟨w, -, hw⟩ := List.mem_map.mp h
        rw [← hw]
        exact hadA⟩ hlv _ hheap X'
  exact ⟨t, step t a1, b1⟩
theorem c_copy {lt : Nat → fl} {U : ut} {oa : Nat → Nat} {S : cs} (C : fcx G D z A X own cc nL ret) (u v : Nat) {sp dp n : Int32} (hd : decode cc pc = .ok (.invokestatic idx, 3)) (hl : Cond.methodLink own idx arraycopyName ∈ G.1) (hnat : Cond.native arraycopyName ∈ G.1) (hst : Cond.static arraycopyName ∈ G.1) (hni : Cond.initialized "java/lang/System" ∈ G.1) (hu : c_cl U u = 902) (hv : c_cl U v = 902) (h1 : ¬ sp < 0) (h2 : ¬ dp < 0) (h3 : ¬ n < 0) (h4 : sp.toNatClampNeg + n.toNatClampNeg ≤ c_ln U u) (h5 : dp.toNatClampNeg + n.toNatClampNeg ≤ c_ln U v)
    (hrest : (rest.map fun v => v.category).sum ≤ 8) (hf : 1 ≤ X.2.2.2.1.frames) (hlc : 8 + (nativeFrameWords "java/lang/System" "arraycopy" 5 + 11) ≤ X.2.2.2.1.locals)
    (k : aw G D z A X nL (pc + 3) lo rest (cw lt U oa (c_pf S v (va_cpy (S.1 u) (S.1 v) sp.toNatClampNeg dp.toNatClampNeg n.toNatClampNeg))) nc ns) : aw G D z A X nL pc lo (.int n :: .int dp :: .ref (oa v) :: .int sp :: .ref (oa u) :: rest) (cw lt U oa S) nc ns :=
  a_copy C u v hd hl hnat hst hni (cw_row (kd := 2) hu (by decide)) (cw_row (kd := 2) hv (by decide)) rfl rfl rfl rfl h1 h2 h3 h4 h5 hrest hf hlc (by rw [up_at, up_at, cw_srow (kd := 2) hv (by decide)]; exact k)
end COPY
