theorem fw_appi {L : fw} {u q : Nat × fl × fo} {j : Nat} (h : (L ++ [u])[j]? = some q) : (j < L.length ∧ L[j]? = some q) ∨ (j = L.length ∧ q = u) := by
  by_cases hl : j < L.length
  · rw [List.getElem?_append_left hl] at h; exact Or.inl ⟨hl, h⟩
  · rw [List.getElem?_append_right (by omega)] at h
    have hz : j - L.length < 1 := (List.getElem?_eq_some_iff.mp h).1
    rw [show j - L.length = 0 by omega] at h
    exact Or.inr ⟨by omega, (Option.some.inj h).symm⟩
theorem fw_push {D : va_G} {cl : List vw_C} {z : Nat → ClassId} {A : Nat → Prop} {L : fw} {H H1 : Heap} {u : Nat × fl × fo} (hH : fw_H D cl z L H) (hD : fw_D A L) (keep : ∀ q : Nat, q < H.size → H1[q]? = H[q]?)
    (hu : ∀ t, fo_ok u.1 u.2.1 t → fo_at D cl z u.1 u.2.1 u.2.2 H1 t ∧ H.size ≤ fo_ad u.2.2 t ∧ A (fo_ad u.2.2 t)) (huu : ∀ t t', fo_ok u.1 u.2.1 t → fo_ok u.1 u.2.1 t' → fo_ad u.2.2 t = fo_ad u.2.2 t' → t = t') : fw_H D cl z (L ++ [u]) H1 ∧ fw_D A (L ++ [u]) := by
  refine ⟨fun j q t hq ht => ?_, fun i j p q t t' hp hq ht ht' e => ?_, fun j q t hq ht => ?_⟩
  · rcases fw_appi hq with ⟨-, h⟩ | ⟨-, rfl⟩
    · exact (hH j q t h ht).kept (keep _ (hH j q t h ht).lt)
    · exact (hu t ht).1
  · rcases fw_appi hp with ⟨l1, h1⟩ | ⟨e1, rfl⟩ <;> rcases fw_appi hq with ⟨l2, h2⟩ | ⟨e2, rfl⟩
    · exact hD.1 i j p q t t' h1 h2 ht ht' e
    · have a1 := (hH i p t h1 ht).lt
      have a2 := (hu t' ht').2.1
      omega
    · have a1 := (hH j q t' h2 ht').lt
      have a2 := (hu t ht).2.1
      omega
    · exact ⟨by omega, huu t t' ht ht' e⟩
  · rcases fw_appi hq with ⟨-, h⟩ | ⟨-, rfl⟩
    · exact hD.2 j q t h ht
    · exact (hu t ht).2.2
/-- a row alone, all 0 -/
abbrev fz (kd N q : Nat) : Nat × fl × fo := (900, [(kd, N)], (0, fun _ => q, fun _ => 0, fun _ _ => 0, fun _ _ => 0))
section ALLOC
variable {G : List Cond × List vw_C} {D : va_G} {z : Nat → ClassId} {A : Nat → Prop} {X : cx} {nL pc : Nat} {lo : List (Option Value)} {st : List Value} {L : fw} {nc ns : Nat} {own : String} {cc : ByteArray} {ret : Option FieldType}
theorem a_newa (C : fcx G D z A X own cc nL ret) {atype : ArrayType} {ty : FieldType} (kd : Nat) {N : Nat} {n : Int32} (hd : decode cc pc = .ok (.newarray atype, 2)) (harr : Cond.arrayClass ty ∈ G.1) (hty : newarray.typeOf atype = ty) (hz : X.2.2.2.2.1.vm.findClass ("[" ++ ty.toString) = some (z kd)) (hcell : ∀ cA, arrV cA N (fun _ => defaultValue ty) = vp_cell cA (fo_x [(kd, N)] (0, fun _ => 0, fun _ => 0, fun _ _ => 0, fun _ _ => 0) 0))
    (hn : ¬ n < 0) (hN : n.toNatClampNeg = N) (hb : N * componentBytes ty ≤ 536870912) (hc : nc + 1 ≤ X.2.2.2.1.cells) (hs : ns + N ≤ X.2.2.2.1.slots) (k : ∀ q : Nat, aw G D z A X nL (pc + 2) lo (.ref q :: st) (L ++ [fz kd N q]) (nc + 1) (ns + N)) : aw G D z A X nL pc lo (.int n :: st) L nc ns := by
  intro H locs ls hH hD hS hl
  subst hty
  refine va_newaK C.x C.b (C.tb.use harr rfl) rfl hd rfl hn hN hb hc hs rfl fun H1 cA e1 z1 o1 _ hNm => ?_
  have hcA : cA = z kd := Option.some.inj (hNm.symm.trans hz)
  subst hcA
  have hu : ∀ t, fo_ok (fz kd N H.size).1 (fz kd N H.size).2.1 t → t = 1 := by
    intro t ht
    match t, ht with
    | 0, ht => exact absurd (show Nat.blt 900 900 = true ∨ Nat.ble 950 900 = true from ht) (by decide)
    | 1, _ => rfl
    | t + 2, ht =>
      have h9 : fo_kd [(kd, N)] (t + 1) = 0 := rfl
      have h8 : 2 ≤ fo_kd [(kd, N)] (t + 1) := ht.1
      omega
  obtain ⟨hH', hD'⟩ := fw_push (u := fz kd N H.size) hH hD o1 (fun t ht => by
      cases hu t ht
      refine ⟨?_, Nat.le_refl _, C.hA _ hS.1⟩
      show H1[H.size]? = some (vp_cell (z kd) _)
      rw [e1, hcell]
      rfl) (fun t t' ht ht' _ => (hu t ht).trans (hu t' ht').symm)
  exact k H.size H1 locs ls hH' hD' ⟨Nat.le_trans hS.1 (by omega), fun x h1 h2 => (o1 x (Nat.lt_of_lt_of_le h1 hS.1)).trans (hS.2.1 x h1 h2), hS.2.2⟩ hl
theorem a_obj (C : fcx G D z A X own cc nL ret) {idx a : Nat} (hd : decode cc pc = .ok (.invokespecial idx, 3)) (hl : Cond.methodLink own idx Lib.objectInit ∈ G.1) (hin : Cond.instanceMethod Lib.objectInit ∈ G.1) (hco : Cond.code Lib.objectInit ⟨#[0xb1]⟩ 1 none ∈ G.1) (hst : (st.map fun v => v.category).sum ≤ 8) (hf : 1 ≤ X.2.2.2.1.frames) (hlo : 20 ≤ X.2.2.2.1.locals) (k : aw G D z A X nL (pc + 3) lo st L nc ns) : aw G D z A X nL pc lo (.ref a :: st) L nc ns := by
  intro H locs ls hH hD hS hlv
  exact W.objInit C.x C.b C.ow (C.tb.use hl rfl) (C.tb.use hin rfl) (C.tb.use hco rfl) rfl (hlv.1.trans C.ml.symm) rfl hd hf (by show 2 * 0 + _ + 12 ≤ _; omega) (k H locs ls hH hD hS hlv)
variable {ci o : Nat} {ly : fl} {ad : Nat → Nat} {g : Nat → Int32} {C0 : String} {T : u_T} {N0 idx : Nat}
theorem a_putA (C : fcx G D z A X own cc nL ret) (i k : Nat) {kd N q : Nat} {ly' : fl} {ty : FieldType} (hin : X.2.2.2.2.2.2.2.2.1.name = "<init>") (hd : decode cc pc = .ok (.putfield idx, 3)) (h0 : Nat.blt ci 900 = true) (hi : L[i]? = some (ci, ly, (o, ad, g, fun _ _ => 0, fun _ _ => 0))) (hc : G.2[ci]? = some (C0, T, N0)) (hk : k < N0) (hf : Cond.fieldLink own idx (T k).1 (T k).2.1 (T k).2.2.1 ∈ G.1) (hfin : (T k).2.2.2 = true) (hown : (T k).1 = own) (hty : parseFieldDescriptor (T k).2.2.1 = some ty) (hn : narrow ty (.ref q) = .ref q) (hfit : fits ty (.ref q) = true) (hly : ly.set k (kd, N) = ly') (hlk : k < ly.length) (hkd : 2 ≤ kd ∧ kd ≤ 4)
    (kk : aw G D z A X nL (pc + 3) lo st (L.set i (ci, ly', (o, va_up ad k q, g, fun _ _ => 0, fun _ _ => 0))) nc ns) : aw G D z A X nL pc lo (.ref q :: .ref o :: st) (L ++ [fz kd N q]) nc ns := by
  intro H locs ls hH hD hS hl
  have hiL : i < L.length := (List.getElem?_eq_some_iff.mp hi).1
  have hi' : (L ++ [fz kd N q])[i]? = some (ci, ly, (o, ad, g, fun _ _ => 0, fun _ _ => 0)) := by rw [List.getElem?_append_left hiL]; exact hi
  have hz' : (L ++ [fz kd N q])[L.length]? = some (fz kd N q) := by rw [List.getElem?_append_right (Nat.le_refl _)]; simp
  have ok1 : fo_ok (fz kd N q).1 (fz kd N q).2.1 1 := hkd
  have kdk : ∀ j, fo_kd ly' j = if j = k then kd else fo_kd ly j := by
    intro j
    subst hly
    unfold fo_kd
    rw [List.getD_eq_getElem?_getD, List.getD_eq_getElem?_getD, List.getElem?_set]
    by_cases e : k = j
    · subst e; simp [hlk]
    · rw [if_neg e, if_neg (fun x => e x.symm)]
  have lnk : ∀ j, fo_ln ly' j = if j = k then N else fo_ln ly j := by
    intro j
    subst hly
    unfold fo_ln
    rw [List.getD_eq_getElem?_getD, List.getD_eq_getElem?_getD, List.getElem?_set]
    by_cases e : k = j
    · subst e; simp [hlk]
    · rw [if_neg e, if_neg (fun x => e x.symm)]
  obtain ⟨q0, h1, cell, q1, q2, q3, q4⟩ := (hH i _ 0 hi' (Or.inl h0)).o h0
  have hr : q0 = (C0, T, N0) := Option.some.inj (h1.symm.trans hc)
  subst hr
  have hts := C.tb.lays C.gk hc X.2.2.2.2.2.2.1
  obtain ⟨-, hnm, ty0, hty0⟩ := C.gk ci _ hc
  have hap := va_apart (own := own) (D := D) hts (fun _ hw => hw) ty0 hty0 hnm C.kn hc
  obtain ⟨hSl, hfc, kC, hkC, hkind⟩ := C.kn.1 ci _ hc
  obtain ⟨cf, kf, fi, f, hi2, hsl⟩ := hSl k hk
  have hlay := hts _ (u_in_lay hk)
  unfold u_lay at hlay
  rw [if_pos hfin] at hlay
  have hst := (u_facts hfc hkC (u_lays hts (fun _ hw => hw) hk) hi2).1
  have hcf : X.2.2.2.2.2.1.cls = cf := by
    obtain ⟨_, _, c', _, _, _, -, -, hf', -, -, -, hown2, -⟩ := Cond.laysFinal_spec hlay
    have e1 : c' = cf := by have := hi2.symm.trans hf'; simp at this; exact this.1.symm
    rw [hown] at hown2
    rw [← e1]; exact Option.some.inj (C.ow.symm.trans hown2)
  have h6 := u_fits hfc hkC hkind (Or.inr hlay) hi2 hty hn hfit
  refine W.putFinK C.x C.b C.ow (C.tb.use hf rfl) hi2 hst hcf hin (by rw [q2]; exact h6) q1 q3 (by rw [hsl]; exact k2_hasslot (q4 k hk)) rfl rfl hd fun H' e1 e2 e3 => ?_
  rw [hsl] at e1 ⊢
  have hv : ∀ j, j < N0 → updV (fo_v ly (o, ad, g, fun _ _ => 0, fun _ _ => 0)) k (.ref q) j = fo_v ly' (o, va_up ad k q, g, fun _ _ => 0, fun _ _ => 0) j := by
    intro j _
    unfold fo_v
    rw [kdk]
    by_cases e : j = k
    · subst e
      have a1 : ¬ kd ≤ 1 := by omega
      have a2 : ¬ kd = 6 := by omega
      simp [updV, va_up, a1, a2]
    · simp [updV, va_up, e]
  have back : ∀ (j : Nat) (p : Nat × fl × fo) (t : Nat), (L.set i (ci, ly', (o, va_up ad k q, g, fun _ _ => 0, fun _ _ => 0)))[j]? = some p → fo_ok p.1 p.2.1 t → ∃ (j0 : Nat) (p0 : Nat × fl × fo) (t0 : Nat), (L ++ [fz kd N q])[j0]? = some p0 ∧ fo_ok p0.1 p0.2.1 t0 ∧ fo_ad p.2.2 t = fo_ad p0.2.2 t0 ∧ ((j0 = j ∧ t0 = t ∧ j < L.length ∧ ¬ (j = i ∧ t = k + 1)) ∨ (j = i ∧ t = k + 1 ∧ j0 = L.length ∧ t0 = 1)) ∧ ((j = i ∧ t = 0) ∨ fo_at D G.2 z p0.1 p0.2.1 p0.2.2 H' t0 → fo_at D G.2 z p.1 p.2.1 p.2.2 H' t) := by
    intro j p t hp ht
    rcases fw_seti hp with ⟨rfl, rfl, hjl⟩ | ⟨hne, h⟩
    · match t, ht with
      | 0, ht => exact ⟨j, _, 0, hi', Or.inl h0, rfl, Or.inl ⟨rfl, rfl, hjl, fun x => by omega⟩, fun _ => fo_at.i h0 ⟨_, hc, t_OB.to ⟨_, e1, q2, q3, t_set q4 hap hk _⟩ hv⟩⟩
      | t + 1, ht =>
        by_cases e : t = k
        · subst e
          refine ⟨L.length, _, 1, hz', ok1, ?_, Or.inr ⟨rfl, rfl, rfl, rfl⟩, fun h9 => ?_⟩
          · show va_up ad t q t = q
            simp [va_up]
          · rcases h9 with ⟨-, h9⟩ | h9
            · omega
            · have h8 : H'[q]? = some (vp_cell (z kd) (fo_x [(kd, N)] (0, fun _ => q, fun _ => 0, fun _ _ => 0, fun _ _ => 0) 0)) := h9
              show H'[va_up ad t q t]? = some (vp_cell (z (fo_kd ly' t)) (fo_x ly' _ t))
              rw [show va_up ad t q t = q by simp [va_up], h8]
              unfold fo_x
              rw [kdk, lnk, if_pos rfl, if_pos rfl]
              rfl
        · have hok : fo_ok ci ly (t + 1) := by
            have h9 : 2 ≤ fo_kd ly' t ∧ fo_kd ly' t ≤ 4 := ht
            rw [kdk, if_neg e] at h9
            exact h9
          refine ⟨j, _, t + 1, hi', hok, ?_, Or.inl ⟨rfl, rfl, hjl, fun x => e (by omega)⟩, fun h9 => ?_⟩
          · show va_up ad k q t = ad t
            simp [va_up, e]
          · rcases h9 with ⟨-, h9⟩ | h9
            · omega
            · have h8 : H'[ad t]? = some (vp_cell (z (fo_kd ly t)) (fo_x ly (o, ad, g, fun _ _ => 0, fun _ _ => 0) t)) := h9
              show H'[va_up ad k q t]? = some (vp_cell (z (fo_kd ly' t)) (fo_x ly' _ t))
              rw [show va_up ad k q t = ad t by simp [va_up, e], h8]
              unfold fo_x
              rw [kdk, lnk, if_neg e, if_neg e]
    · have hj : j < L.length := (List.getElem?_eq_some_iff.mp h).1
      exact ⟨j, p, t, by rw [List.getElem?_append_left hj]; exact h, ht, rfl, Or.inl ⟨rfl, rfl, hj, fun x => hne x.1⟩, fun h9 => h9.elim (fun x => absurd x.1 hne) id⟩
  have hH1 : fw_H D G.2 z (L.set i (ci, ly', (o, va_up ad k q, g, fun _ _ => 0, fun _ _ => 0))) H' := by
    intro j p t hp ht
    obtain ⟨j0, p0, t0, a1, a2, a3, a4, a5⟩ := back j p t hp ht
    by_cases e : j = i ∧ t = 0
    · exact a5 (Or.inl e)
    · refine a5 (Or.inr ((hH j0 p0 t0 a1 a2).kept (e3 _ (fun x => ?_))))
      obtain ⟨b1, b2⟩ := hD.1 j0 i p0 _ t0 0 a1 hi' a2 (Or.inl h0) x
      rcases a4 with ⟨c1, c2, c3, c4⟩ | ⟨c1, c2, c3, c4⟩
      · exact e ⟨by omega, by omega⟩
      · omega
  have hD1 : fw_D A (L.set i (ci, ly', (o, va_up ad k q, g, fun _ _ => 0, fun _ _ => 0))) := by
    refine ⟨fun j j' p p' t t' hp hp' ht ht' e => ?_, fun j p t hp ht => ?_⟩
    · obtain ⟨j0, p0, t0, a1, a2, a3, a4, -⟩ := back j p t hp ht
      obtain ⟨j1, p1, t1, b1, b2, b3, b4, -⟩ := back j' p' t' hp' ht'
      obtain ⟨c1, c2⟩ := hD.1 j0 j1 p0 p1 t0 t1 a1 b1 a2 b2 (by rw [← a3, ← b3]; exact e)
      rcases a4 with ⟨x1, x2, x3, x4⟩ | ⟨x1, x2, x3, x4⟩ <;> rcases b4 with ⟨y1, y2, y3, y4⟩ | ⟨y1, y2, y3, y4⟩ <;> exact ⟨by omega, by omega⟩
    · obtain ⟨j0, p0, t0, a1, a2, a3, -, -⟩ := back j p t hp ht
      rw [a3]
      exact hD.2 j0 p0 t0 a1 a2
  exact kk H' _ ls hH1 hD1 (hS.put e2 e3 (hD.2 i _ 0 hi' (Or.inl h0))) hl
end ALLOC
theorem ct_ofI {G : List Cond × List vw_C} {D : va_G} {z : Nat → ClassId} {l : Launch} {y : MethodName} {cc : ByteArray} {nL : Nat} {ret : Option FieldType} {fr lc : Nat} {av : List Value} {L : fw} {mc ms : Nat} {Post : Outcome → fw → Prop} {lo : List (Option Value)} (hy : plainName y.cls = true) (hG : gok G) (hlen : (lg_sl av).length ≤ nL) (hlo : lo = lo_e av ++ List.replicate (nL - (lo_e av).length) none)
    (body : ∀ (X : cx) (A : Nat → Prop), X.2.1 = l → fcx G D z A X y.cls cc nL ret → X.2.2.2.1 = { frames := fr, cells := mc + 1, slots := ms + 6, locals := lc } → X.2.2.2.2.2.2.2.2.2.2 = eQ G D z X.2.2.2.2.2.2.2.1 X.2.2.2.2.1 L mc ms Post → A = owA G L X.2.2.2.2.1.heap.size → (∀ x ∈ X.2.2.2.2.2.2.2.2.2.1.exceptionTable.toList, False) → X.2.2.2.2.2.2.2.2.1.name = y.name → aw G D z A X nL 0 lo [] L 0 0) : ct G D z l y cc nL ret fr lc av L mc ms Post := by
  refine MetFree.of_bodyS (code := cc) (maxLocals := nL) (ret := ret) hy ?_ ?_
  · intro args s m h hn
    obtain ⟨meth, c, h1, h2, h3, h4, h5, h6, -, -⟩ := Cond.code_spec hn (atoms_spec (ws := [Cond.code y cc nL ret]) h _ List.mem_cons_self)
    exact ⟨meth, c, h1, h2, h3, h4, h5, h6⟩
  · intro p e s m args below meth c s₁ B hml hP _
    obtain ⟨rfl, htb, hkn, hH, hD, hsx⟩ := hP
    have hh0 : s₁.heap = s.heap := by rw [B.state]; rfl
    have hown : s.vm.findClass y.cls = some m.cls := findClass_of_methodNamed B.named
    have hno : ∀ x ∈ c.exceptionTable.toList, False := by
      have := BodyLoose.noHandlers B (by
        exact atoms_spec (ws := [Cond.code y cc nL ret]) B.pre _ List.mem_cons_self)
      have h0 : c.exceptionTable = #[] := by simpa [Array.isEmpty_iff] using this
      intro x hx
      simp [h0] at hx
    have hb := body (p, l, e, { frames := fr, cells := mc + 1, slots := ms + 6, locals := lc }, s, m, av.toArray, below, meth, c, eQ G D z below s L mc ms Post) (owA G L s.heap.size) rfl
      ⟨B.exec, B.bytes, hml, B.returns, B.notSynchronized, hown, htb, hkn, fun q h => Or.inr h, hG, hsx⟩ rfl rfl rfl hno (name_of_methodNamed B.named B.method).1
    have hl : lo_has ((lg_sl av ++ List.replicate (nL - (lg_sl av).length) Slot.unset).toArray) nL lo := by
      have h9 := lv_entry av (n := nL) hlen
      show lv_has _ _ (lo_l 0 lo)
      rw [hlo, lo_e_l]
      exact h9
    have hw := hb s.heap [] _ hH (owA_self hD) va_S.rf hl
    obtain ⟨t, a1, o, b1, b2, b3⟩ := hw s₁ hh0 (Stand.of_body B)
    refine ⟨t, o, ?_, b1, b2, b3⟩
    rw [lg_entry_eq]
    exact a1
