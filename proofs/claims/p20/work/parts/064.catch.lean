/-! CATCHING: into a handler of the method's own, the first one that covers the pc, or behind one that is passed -/
theorem go_no {Q : Handler → Pre} {E : CtlPost} {e : Env} {d : Bool} {acts : List Action} {s : State} {f : JFrame} {a : Addr} {x : ExceptionTableEntry} {t : List ExceptionTableEntry} {c : ClassId} {cell : Cell} (hx : covers x f.pc = true) (h0 : x.catchType ≠ 0)
    (hl : s.vm.ClassLinks e.platform f.method.cls x.catchType c) (hcell : s.heap[a]? = some cell) (hobj : ∀ k, cell.vm ≠ .statics k)
    (hk : ∃ k, s.vm.classes[cell.cls]? = some k) (hc : ∃ k, s.vm.classes[c]? = some k) (hfit : s.vm.assignable cell.cls c = false) :
    wp (findHandler.go f a (x :: t)) Q E e d acts s ↔ wp (findHandler.go f a t) Q E e d acts (s.setVm (s.vm.noted f.method.cls x.catchType (.cls c))) := by
  simp only [covers] at hx
  obtain ⟨ha, ht⟩ := (resolveClass_links e.toSetting hl).op (op := VmOp.resolveClass f.method.cls x.catchType) rfl
  have hal : s.vm.Alike (s.vm.noted f.method.cls x.catchType (.cls c)) := (Vm.Alike.refl s.vm).noted _ _ _
  obtain ⟨k1, hk1⟩ := hk
  obtain ⟨k2, hk2⟩ := hc
  obtain ⟨k1', hk1', -⟩ := hal.2.2 _ _ hk1
  obtain ⟨k2', hk2', -⟩ := hal.2.2 _ _ hk2
  have hfit' : (s.vm.noted f.method.cls x.catchType (.cls c)).assignable cell.cls c = false := by rw [hal.assignable]; exact hfit
  simp [findHandler.go, hx, h0, ha, ht, hcell, hobj, hk1', hk2', hfit', VmOp.dirties, VmOp.acts]
section CATCH
variable {G : List Cond × List vw_C} {D : va_G} {z : Nat → ClassId} {A : Nat → Prop} {X : cx} {nL pc : Nat} {lo : List (Option Value)} {L : fw} {nc ns : Nat} {own : String} {cc : ByteArray} {ret : Option FieldType} {rest : List Value}
theorem t_catch {x ci : Nat} (i : Nat) {ly : fl} {R : fo} {En Ec : String} {T0 : u_T} {N : Nat} (C : fcx G D z A X own cc nL ret) (en : ExceptionTableEntry) (rest' : List ExceptionTableEntry) (hsplit : X.2.2.2.2.2.2.2.2.2.1.exceptionTable.toList = en :: rest') (hx : covers en pc = true) (h0 : en.catchType ≠ 0) (hlink : Cond.classLink own en.catchType Ec ∈ G.1) (hb : Nat.blt ci 900 = true) (hi : L[i]? = some (ci, ly, R)) (hRx : R.1 = x) (hci : G.2[ci]? = some (En, T0, N)) (hcast : Cond.castable En Ec ∈ G.1)
    (k : aw G D z A X nL en.handlerPc lo [.ref x] L nc ns) : aT G D z A X nL pc lo rest x L nc ns := by
  intro H locs ls hH hD hS hl T hT XX
  obtain ⟨q, h1, cell, q1, q2, q3, q4⟩ := (hH i _ 0 hi (Or.inl hb)).o hb
  have hr : q = (En, T0, N) := Option.some.inj (h1.symm.trans hci)
  subst hr
  subst hRx
  have hKn := C.kn.1 ci _ hci
  obtain ⟨c3, cT, hc3, hcT, hasg⟩ := Cond.castable_spec (C.tb.use (a := X.2.2.2.2.2.2.1) hcast rfl)
  have e3 : c3 = cell.cls := by rw [q2]; exact Option.some.inj (hc3.symm.trans hKn.2.1)
  subst e3
  obtain ⟨vm', XV, stV⟩ := XX.caughtLink R.1 (g := F0 X.2.2.2.2.2.1 pc ls rest) rfl C.ow [] en rest' hsplit (fun y hy => by cases hy) hx h0 (C.tb.use hlink rfl) hcT (by rw [hT]; exact q1) (by rw [q3]; rfl) hasg
  obtain ⟨t, a1, b1⟩ := k H locs ls hH hD hS hl (T.setVm vm') hT XV
  exact ⟨t, by rw [XX.pushThrowing_eq]; exact stV t a1, b1⟩
theorem t_catch2 {x ci : Nat} (i : Nat) {ly : fl} {R : fo} {En Ec E1 : String} {T0 : u_T} {N : Nat} (C : fcx G D z A X own cc nL ret) (e1 en : ExceptionTableEntry) (rest' : List ExceptionTableEntry) (hsplit : X.2.2.2.2.2.2.2.2.2.1.exceptionTable.toList = e1 :: en :: rest') (hx1 : covers e1 pc = true) (h01 : e1.catchType ≠ 0) (hlink1 : Cond.classLink own e1.catchType E1 ∈ G.1) (hnot : Cond.not (.castable En E1) ∈ G.1) (hx : covers en pc = true) (h0 : en.catchType ≠ 0) (hlink : Cond.classLink own en.catchType Ec ∈ G.1) (hb : Nat.blt ci 900 = true) (hi : L[i]? = some (ci, ly, R)) (hRx : R.1 = x) (hci : G.2[ci]? = some (En, T0, N)) (hcast : Cond.castable En Ec ∈ G.1)
    (k : aw G D z A X nL en.handlerPc lo [.ref x] L nc ns) : aT G D z A X nL pc lo rest x L nc ns := by
  intro H locs ls hH hD hS hl T hT XX
  obtain ⟨q, h1, cell, q1, q2, q3, q4⟩ := (hH i _ 0 hi (Or.inl hb)).o hb
  have hr : q = (En, T0, N) := Option.some.inj (h1.symm.trans hci)
  subst hr
  subst hRx
  have hKn := C.kn.1 ci _ hci
  have hpl : X.2.2.1.platform.magicAccessors = ({} : Platform).magicAccessors := by rw [XX.admits.platform]
  obtain ⟨c3, cT, hc3, hcT, hasg⟩ := Cond.castable_spec (C.tb.use (a := X.2.2.2.2.2.2.1) hcast rfl)
  have e3 : c3 = cell.cls := by rw [q2]; exact Option.some.inj (hc3.symm.trans hKn.2.1)
  subst e3
  obtain ⟨c4, cN, hc4, hcN, hnas⟩ := Cond.notCastable_spec (C.tb.use (a := X.2.2.2.2.2.2.1) hnot rfl)
  have e4 : c4 = cell.cls := Option.some.inj (hc4.symm.trans hc3)
  subst e4
  -- the first entry: noted, passed
  obtain ⟨c1, hc1, hcl1⟩ := Cond.classLink_spec C.ow (C.tb.use (a := X.2.2.2.2.2.2.1) hlink1 rfl) X.2.2.1.platform hpl
  cases hcN.symm.trans hc1
  obtain ⟨dk, _, _, kt, hd, _, _, _, _, hkt, _, hopen⟩ := hcl1.here
  have hclT := XX.warmed.classLinks hcl1
  have hW1 : X.2.2.2.2.1.WarmedH (T.vm.noted X.2.2.2.2.2.1.cls e1.catchType (.cls cN)) := XX.warmed.noted hd hopen (State.rightAt_cls hcl1)
  -- the second one
  obtain ⟨c2, hc2, hcl2⟩ := Cond.classLink_spec C.ow (C.tb.use (a := X.2.2.2.2.2.2.1) hlink rfl) X.2.2.1.platform hpl
  cases hcT.symm.trans hc2
  obtain ⟨dk2, _, _, kt2, hd2, _, _, _, _, hkt2, _, hopen2⟩ := hcl2.here
  have hcl2T := hW1.classLinks hcl2
  have hW2 := hW1.noted hd2 hopen2 (State.rightAt_cls hcl2)
  have hal := XX.warmed.alike
  obtain ⟨kN, hkN, -⟩ := hal.2.2 _ _ hkt
  obtain ⟨kT, hkT, -⟩ := hW1.alike.2.2 _ _ hkt2
  have hno : T.vm.assignable cell.cls cN = false := by rw [hal.assignable]; exact hnas
  have hyes : (T.vm.noted X.2.2.2.2.2.1.cls e1.catchType (.cls cN)).assignable cell.cls cT = true := by rw [hW1.alike.assignable]; exact hasg
  obtain ⟨kc, hkc⟩ := Vm.classAt_of_assignable hyes ⟨kT, hkT⟩
  have hcellk : ∃ k, T.vm.classes[cell.cls]? = some k := by
    obtain ⟨_, kq, hkq, _⟩ := hKn.2
    obtain ⟨kq', hkq', -⟩ := hal.2.2 _ _ hkq
    exact ⟨kq', by rw [q2]; exact hkq'⟩
  have hcellT : T.heap[R.1]? = some cell := by rw [hT]; exact q1
  have hob : ∀ k, cell.vm ≠ .statics k := VmData.ne_statics_of (by rw [q3]; rfl)
  have hfind : FindsTo X.2.2.1 ((T.setTop (F0 X.2.2.2.2.2.1 pc ls rest)).pushFrame (.throwing R.1)) (F0 X.2.2.2.2.2.1 pc ls rest) R.1 (.found en.handlerPc) ((T.vm.noted X.2.2.2.2.2.1.cls e1.catchType (.cls cN)).noted X.2.2.2.2.2.1.cls en.catchType (.cls cT)) := by
    intro Q E d acts
    rw [W.findHandler_eq (meth := X.2.2.2.2.2.2.2.2.1) (code := X.2.2.2.2.2.2.2.2.2.1) XX.method' XX.code, hsplit]
    refine Iff.trans (go_no (e := X.2.2.1) (f := F0 X.2.2.2.2.2.1 pc ls rest) (s := (T.setTop (F0 X.2.2.2.2.2.1 pc ls rest)).pushFrame (.throwing R.1)) (c := cN) (cell := cell) hx1 h01 hclT hcellT hob hcellk ⟨kN, hkN⟩ hno) ?_
    exact W.findHandler_go_link (e := X.2.2.1) (f := F0 X.2.2.2.2.2.1 pc ls rest) (s := ((T.setTop (F0 X.2.2.2.2.2.1 pc ls rest)).pushFrame (.throwing R.1)).setVm (T.vm.noted X.2.2.2.2.2.1.cls e1.catchType (.cls cN))) (c := cT) (cell := cell) hx h0 hcl2T hcellT hob ⟨kc, hkc⟩ ⟨kT, hkT⟩ hyes
  have XV := XX.noted hW2
  obtain ⟨t, a1, b1⟩ := k H locs ls hH hD hS hl (T.setVm ((T.vm.noted X.2.2.2.2.2.1.cls e1.catchType (.cls cN)).noted X.2.2.2.2.2.1.cls en.catchType (.cls cT))) hT XV
  exact ⟨t, Steps.caughtTo XX.here hfind a1, b1⟩
end CATCH
