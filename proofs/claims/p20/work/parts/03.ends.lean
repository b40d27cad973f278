/-- the cells that a world owns, and those that are made from sz on -/
def owA (G : List Cond × List vw_C) (L : fw) (sz : Nat) : Nat → Prop := fun q => (∃ (i : Nat) (p : Nat × fl × fo) (t : Nat), L[i]? = some p ∧ fo_ok p.1 p.2.1 t ∧ q = fo_ad p.2.2 t) ∨ sz ≤ q
/-- what an exception costs: a cell of six slots -/
def th1 : Outcome → Nat
  | .threw _ => 1
  | .returned _ => 0
def th2 : Outcome → Nat
  | .threw _ => 6
  | .returned _ => 0
/-- a method's end: with this outcome, with a world of which Post speaks; nothing else has changed -/
def eP (G : List Cond × List vw_C) (D : va_G) (z : Nat → ClassId) (s : State) (L0 : fw) (mc ms : Nat) (Post : Outcome → fw → Prop) (o : Outcome) (t : State) : Prop :=
  (∃ L' : fw, Post o L' ∧ fw_H D G.2 z L' t.heap ∧ fw_D (owA G L0 s.heap.size) L') ∧ va_F (owA G L0 s.heap.size) s t ∧ s.WarmedH t.vm ∧ ∃ Ls, s.sameButNew ({ t with vm := s.vm } : State) Ls (mc + th1 o) (ms + th2 o) ∧ ∀ q ∈ Ls, owA G L0 s.heap.size q.base
def eQ (G : List Cond × List vw_C) (D : va_G) (z : Nat → ClassId) (below : List Frame) (s : State) (L0 : fw) (mc ms : Nat) (Post : Outcome → fw → Prop) : State → Prop := fun t =>
  ∃ o, t.status = .running ∧ Ended t below o ∧ eP G D z s L0 mc ms Post o t
/-- A CONTRACT: from every state with this world y comes to an end of which Post speaks -/
def ct (G : List Cond × List vw_C) (D : va_G) (z : Nat → ClassId) (l : Launch) (y : MethodName) (cc : ByteArray) (nL : Nat) (ret : Option FieldType) (fr lc : Nat) (av : List Value) (L : fw) (mc ms : Nat) (Post : Outcome → fw → Prop) : Prop :=
  MetFree l y (headSpec [Cond.code y cc nL ret] { frames := fr, cells := mc + 1, slots := ms + 6, locals := lc }) (fun v U => v = av.toArray ∧ tb_ok G.1 U ∧ kn_ok D G.2 z U ∧ fw_H D G.2 z L U.heap ∧ fw_D (fun _ => True) L ∧ sx (owA G L U.heap.size) U U.heap) (fun _ _ _ _ _ => True) (fun _ st o t => eP G D z st L mc ms Post o t)
def lo_e : List Value → List (Option Value)
  | [] => []
  | v :: vs => if v.category = 2 then some v :: none :: lo_e vs else some v :: lo_e vs
theorem lo_e_l : ∀ (vs : List Value) (k b : Nat), lo_l b (lo_e vs ++ List.replicate k none) = lv_args b vs
  | [], k, b => by
    show lo_l b (List.replicate k none) = []
    induction k generalizing b with
    | zero => rfl
    | succ k ih => exact ih (b + 1)
  | v :: vs, k, b => by
    unfold lo_e lv_args
    split
    · show (b, v) :: lo_l (b + 1 + 1) (lo_e vs ++ List.replicate k none) = _
      rw [lo_e_l vs k]
    · show (b, v) :: lo_l (b + 1) (lo_e vs ++ List.replicate k none) = _
      rw [lo_e_l vs k]
theorem owA_self {G : List Cond × List vw_C} {L : fw} {A : Nat → Prop} {sz : Nat} (h : fw_D A L) : fw_D (owA G L sz) L := ⟨h.1, fun i q t h1 h2 => Or.inl ⟨i, q, t, h1, h2, rfl⟩⟩
theorem kn_ok.moved {D : va_G} {cl : List vw_C} {z : Nat → ClassId} {u U : State} (h : kn_ok D cl z u) (hvm : u.vm.Alike U.vm) : kn_ok D cl z U := va_K.moved hvm h
theorem ct_of {G : List Cond × List vw_C} {D : va_G} {z : Nat → ClassId} {l : Launch} {y : MethodName} {cc : ByteArray} {nL : Nat} {ret : Option FieldType} {fr lc : Nat} {av : List Value} {L : fw} {mc ms : Nat} {Post : Outcome → fw → Prop} {lo : List (Option Value)} (hy : plainName y.cls = true) (hG : gok G) (hlen : (lg_sl av).length ≤ nL) (hlo : lo = lo_e av ++ List.replicate (nL - (lo_e av).length) none)
    (body : ∀ (X : cx) (A : Nat → Prop), X.2.1 = l → fcx G D z A X y.cls cc nL ret → X.2.2.2.1 = { frames := fr, cells := mc + 1, slots := ms + 6, locals := lc } → X.2.2.2.2.2.2.2.2.2.2 = eQ G D z X.2.2.2.2.2.2.2.1 X.2.2.2.2.1 L mc ms Post → A = owA G L X.2.2.2.2.1.heap.size → (∀ x ∈ X.2.2.2.2.2.2.2.2.2.1.exceptionTable.toList, False) → aw G D z A X nL 0 lo [] L 0 0) : ct G D z l y cc nL ret fr lc av L mc ms Post := by
  refine MetFree.of_bodyS (code := cc) (maxLocals := nL) (ret := ret) hy ?_ ?_
  · intro args s m h hn
    obtain ⟨meth, c, h1, h2, h3, h4, h5, h6, -, -⟩ := Cond.code_spec hn (atoms_spec (ws := [Cond.code y cc nL ret]) h _ List.mem_cons_self)
    exact ⟨meth, c, h1, h2, h3, h4, h5, h6⟩
  · intro p e s m args below meth c s₁ B hml hP _
    obtain ⟨rfl, htb, hkn, hH, hD, hsx⟩ := hP
    have hh0 : s₁.heap = s.heap := by rw [B.state]; rfl
    have hown : s.vm.findClass y.cls = some m.cls := findClass_of_methodNamed B.named
    have hno : ∀ x ∈ c.exceptionTable.toList, False := by
      have := BodyLoose.noHandlers B (by
        exact atoms_spec (ws := [Cond.code y cc nL ret]) B.pre _ List.mem_cons_self)
      have h0 : c.exceptionTable = #[] := by simpa [Array.isEmpty_iff] using this
      intro x hx
      simp [h0] at hx
    have hb := body (p, l, e, { frames := fr, cells := mc + 1, slots := ms + 6, locals := lc }, s, m, av.toArray, below, meth, c, eQ G D z below s L mc ms Post) (owA G L s.heap.size) rfl
      ⟨B.exec, B.bytes, hml, B.returns, B.notSynchronized, hown, htb, hkn, fun q h => Or.inr h, hG, hsx⟩ rfl rfl rfl hno
    have hl : lo_has ((lg_sl av ++ List.replicate (nL - (lg_sl av).length) Slot.unset).toArray) nL lo := by
      have h9 := lv_entry av (n := nL) hlen
      show lv_has _ _ (lo_l 0 lo)
      rw [hlo, lo_e_l]
      exact h9
    have hw := hb s.heap [] _ hH (owA_self hD) va_S.rf hl
    obtain ⟨t, a1, o, b1, b2, b3⟩ := hw s₁ hh0 (Stand.of_body B)
    refine ⟨t, o, ?_, b1, b2, b3⟩
    rw [lg_entry_eq]
    exact a1
section ENDS
variable {G : List Cond × List vw_C} {D : va_G} {z : Nat → ClassId} {A : Nat → Prop} {X : cx} {nL pc : Nat} {lo : List (Option Value)} {L L0 : fw} {mc ms : Nat} {own : String} {cc : ByteArray} {ret : Option FieldType} {Post : Outcome → fw → Prop}
theorem eQ_of {p : Program} {l : Launch} {e : Env} {R : Room} {s : State} {m : MethodId} {args : Array Value} {below : List Frame} {meth : Method} {c : Code} {H : Heap} {locs : List Loc} {g : JFrame} {v0 : Option Value} (hH : fw_H D G.2 z L H) (hD : fw_D (owA G L0 s.heap.size) L) (hS : va_S (owA G L0 s.heap.size) s.heap H locs) (hp : Post (.returned v0) L)
    (k : W p l e R s m args below meth c H locs mc ms (MQ below (fun _ st o t => o = .returned v0 ∧ t.heap = H) args s mc ms (owA G L0 s.heap.size)) g) : W p l e R s m args below meth c H locs mc ms (eQ G D z below s L0 mc ms Post) g := by
  intro T hT XX
  obtain ⟨t, a1, o, h1, h2, ⟨rfl, ht⟩, Ls, ⟨-, hW, hs⟩, hL⟩ := k T hT XX
  exact ⟨t, a1, _, h1, h2, ⟨L, hp, by rw [ht]; exact hH, hD⟩, hS.F ht, hW, Ls, hs, hL⟩
theorem a_iret (C : fcx G D z A X own cc nL ret) (hQ : X.2.2.2.2.2.2.2.2.2.2 = eQ G D z X.2.2.2.2.2.2.2.1 X.2.2.2.2.1 L0 mc ms Post) (hA : A = owA G L0 X.2.2.2.2.1.heap.size) {v : Int32} {ty : FieldType} (hd : decode cc pc = .ok (.ireturn, 1)) (hr : ret = some ty) (hn : narrow ty (.int v) = .int v) (hp : Post (.returned (some (.int v))) L) : aw G D z A X nL pc lo [.int v] L mc ms := by
  intro H locs ls hH hD hS hl
  rw [hQ]
  subst hA
  exact eQ_of hH hD hS hp (W.zret C.x C.b (C.r.trans hr) hn (fun t ht _ => ⟨rfl, ht⟩) hS.2.2 hd C.lk)
theorem a_vret (C : fcx G D z A X own cc nL ret) (hQ : X.2.2.2.2.2.2.2.2.2.2 = eQ G D z X.2.2.2.2.2.2.2.1 X.2.2.2.2.1 L0 mc ms Post) (hA : A = owA G L0 X.2.2.2.2.1.heap.size) (hd : decode cc pc = .ok (.return_, 1)) (hr : ret = none) (hp : Post (.returned none) L) : aw G D z A X nL pc lo [] L mc ms := by
  intro H locs ls hH hD hS hl
  rw [hQ]
  subst hA
  exact eQ_of hH hD hS hp (W.vret C.x C.b (C.r.trans hr) (fun t ht _ => ⟨rfl, ht⟩) hS.2.2 hd C.lk)
end ENDS
