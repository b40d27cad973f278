/-! CATCHING behind two handlers that are passed -/
section CATCH3
variable {G : List Cond × List vw_C} {D : va_G} {z : Nat → ClassId} {A : Nat → Prop} {X : cx} {nL pc : Nat} {lo : List (Option Value)} {L : fw} {nc ns : Nat} {own : String} {cc : ByteArray} {ret : Option FieldType} {rest : List Value}
theorem t_catch3 {x ci : Nat} (i : Nat) {ly : fl} {R : fo} {En Ec E1 E2 : String} {T0 : u_T} {N : Nat} (C : fcx G D z A X own cc nL ret) (e1 e2 en : ExceptionTableEntry) (rest' : List ExceptionTableEntry) (hsplit : X.2.2.2.2.2.2.2.2.2.1.exceptionTable.toList = e1 :: e2 :: en :: rest') (hx1 : covers e1 pc = true) (h01 : e1.catchType ≠ 0) (hlink1 : Cond.classLink own e1.catchType E1 ∈ G.1) (hnot1 : Cond.not (.castable En E1) ∈ G.1) (hx2 : covers e2 pc = true) (h02 : e2.catchType ≠ 0) (hlink2 : Cond.classLink own e2.catchType E2 ∈ G.1) (hnot2 : Cond.not (.castable En E2) ∈ G.1) (hx : covers en pc = true) (h0 : en.catchType ≠ 0) (hlink : Cond.classLink own en.catchType Ec ∈ G.1) (hb : Nat.blt ci 900 = true) (hi : L[i]? = some (ci, ly, R)) (hRx : R.1 = x) (hci : G.2[ci]? = some (En, T0, N)) (hcast : Cond.castable En Ec ∈ G.1)
    (k : aw G D z A X nL en.handlerPc lo [.ref x] L nc ns) : aT G D z A X nL pc lo rest x L nc ns := by
  intro H locs ls hH hD hS hl T hT XX
  obtain ⟨q, h1, cell, q1, q2, q3, q4⟩ := (hH i _ 0 hi (Or.inl hb)).o hb
  have hr : q = (En, T0, N) := Option.some.inj (h1.symm.trans hci)
  subst hr
  subst hRx
  have hKn := C.kn.1 ci _ hci
  have hpl : X.2.2.1.platform.magicAccessors = ({} : Platform).magicAccessors := by rw [XX.admits.platform]
  obtain ⟨c3, cT, hc3, hcT, hasg⟩ := Cond.castable_spec (C.tb.use (a := X.2.2.2.2.2.2.1) hcast rfl)
  have e3 : c3 = cell.cls := by rw [q2]; exact Option.some.inj (hc3.symm.trans hKn.2.1)
  subst e3
  obtain ⟨c4, cN, hc4, hcN, hnas⟩ := Cond.notCastable_spec (C.tb.use (a := X.2.2.2.2.2.2.1) hnot1 rfl)
  have e4 : c4 = cell.cls := Option.some.inj (hc4.symm.trans hc3)
  subst e4
  obtain ⟨c5, cM, hc5, hcM, hnas2⟩ := Cond.notCastable_spec (C.tb.use (a := X.2.2.2.2.2.2.1) hnot2 rfl)
  have e5 : c5 = cell.cls := Option.some.inj (hc5.symm.trans hc3)
  subst e5
  obtain ⟨c1, hc1, hcl1⟩ := Cond.classLink_spec C.ow (C.tb.use (a := X.2.2.2.2.2.2.1) hlink1 rfl) X.2.2.1.platform hpl
  cases hcN.symm.trans hc1
  obtain ⟨dk, _, _, kt, hd, _, _, _, _, hkt, _, hopen⟩ := hcl1.here
  have hclT := XX.warmed.classLinks hcl1
  have hW1 : X.2.2.2.2.1.WarmedH (T.vm.noted X.2.2.2.2.2.1.cls e1.catchType (.cls cN)) := XX.warmed.noted hd hopen (State.rightAt_cls hcl1)
  obtain ⟨c6, hc6, hcl3⟩ := Cond.classLink_spec C.ow (C.tb.use (a := X.2.2.2.2.2.2.1) hlink2 rfl) X.2.2.1.platform hpl
  cases hcM.symm.trans hc6
  obtain ⟨dk3, _, _, kt3, hd3, _, _, _, _, hkt3, _, hopen3⟩ := hcl3.here
  have hcl3T := hW1.classLinks hcl3
  have hW3 : X.2.2.2.2.1.WarmedH ((T.vm.noted X.2.2.2.2.2.1.cls e1.catchType (.cls cN)).noted X.2.2.2.2.2.1.cls e2.catchType (.cls cM)) := hW1.noted hd3 hopen3 (State.rightAt_cls hcl3)
  obtain ⟨c2, hc2, hcl2⟩ := Cond.classLink_spec C.ow (C.tb.use (a := X.2.2.2.2.2.2.1) hlink rfl) X.2.2.1.platform hpl
  cases hcT.symm.trans hc2
  obtain ⟨dk2, _, _, kt2, hd2, _, _, _, _, hkt2, _, hopen2⟩ := hcl2.here
  have hcl2T := hW3.classLinks hcl2
  have hW2 := hW3.noted hd2 hopen2 (State.rightAt_cls hcl2)
  have hal := XX.warmed.alike
  obtain ⟨kN, hkN, -⟩ := hal.2.2 _ _ hkt
  obtain ⟨kM, hkM, -⟩ := hW1.alike.2.2 _ _ hkt3
  obtain ⟨kT, hkT, -⟩ := hW3.alike.2.2 _ _ hkt2
  have hno : T.vm.assignable cell.cls cN = false := by rw [hal.assignable]; exact hnas
  have hno2 : (T.vm.noted X.2.2.2.2.2.1.cls e1.catchType (.cls cN)).assignable cell.cls cM = false := by rw [hW1.alike.assignable]; exact hnas2
  have hyes : ((T.vm.noted X.2.2.2.2.2.1.cls e1.catchType (.cls cN)).noted X.2.2.2.2.2.1.cls e2.catchType (.cls cM)).assignable cell.cls cT = true := by rw [hW3.alike.assignable]; exact hasg
  obtain ⟨kc, hkc⟩ := Vm.classAt_of_assignable hyes ⟨kT, hkT⟩
  obtain ⟨_, kq, hkq, _⟩ := hKn.2
  have hcellk : ∃ k, T.vm.classes[cell.cls]? = some k := by
    obtain ⟨kq', hkq', -⟩ := hal.2.2 _ _ hkq
    exact ⟨kq', by rw [q2]; exact hkq'⟩
  have hcellk2 : ∃ k, (T.vm.noted X.2.2.2.2.2.1.cls e1.catchType (.cls cN)).classes[cell.cls]? = some k := by
    obtain ⟨kq', hkq', -⟩ := hW1.alike.2.2 _ _ hkq
    exact ⟨kq', by rw [q2]; exact hkq'⟩
  have hcellT : T.heap[R.1]? = some cell := by rw [hT]; exact q1
  have hob : ∀ k, cell.vm ≠ .statics k := VmData.ne_statics_of (by rw [q3]; rfl)
  have hfind : FindsTo X.2.2.1 ((T.setTop (F0 X.2.2.2.2.2.1 pc ls rest)).pushFrame (.throwing R.1)) (F0 X.2.2.2.2.2.1 pc ls rest) R.1 (.found en.handlerPc) (((T.vm.noted X.2.2.2.2.2.1.cls e1.catchType (.cls cN)).noted X.2.2.2.2.2.1.cls e2.catchType (.cls cM)).noted X.2.2.2.2.2.1.cls en.catchType (.cls cT)) := by
    intro Q E d acts
    rw [W.findHandler_eq (meth := X.2.2.2.2.2.2.2.2.1) (code := X.2.2.2.2.2.2.2.2.2.1) XX.method' XX.code, hsplit]
    refine Iff.trans (go_no (e := X.2.2.1) (f := F0 X.2.2.2.2.2.1 pc ls rest) (s := (T.setTop (F0 X.2.2.2.2.2.1 pc ls rest)).pushFrame (.throwing R.1)) (c := cN) (cell := cell) hx1 h01 hclT hcellT hob hcellk ⟨kN, hkN⟩ hno) ?_
    refine Iff.trans (go_no (e := X.2.2.1) (f := F0 X.2.2.2.2.2.1 pc ls rest) (s := ((T.setTop (F0 X.2.2.2.2.2.1 pc ls rest)).pushFrame (.throwing R.1)).setVm (T.vm.noted X.2.2.2.2.2.1.cls e1.catchType (.cls cN))) (c := cM) (cell := cell) hx2 h02 hcl3T hcellT hob hcellk2 ⟨kM, hkM⟩ hno2) ?_
    exact W.findHandler_go_link (e := X.2.2.1) (f := F0 X.2.2.2.2.2.1 pc ls rest) (s := (((T.setTop (F0 X.2.2.2.2.2.1 pc ls rest)).pushFrame (.throwing R.1)).setVm (T.vm.noted X.2.2.2.2.2.1.cls e1.catchType (.cls cN))).setVm ((T.vm.noted X.2.2.2.2.2.1.cls e1.catchType (.cls cN)).noted X.2.2.2.2.2.1.cls e2.catchType (.cls cM))) (c := cT) (cell := cell) hx h0 hcl2T hcellT hob ⟨kc, hkc⟩ ⟨kT, hkT⟩ hyes
  have XV := XX.noted hW2
  obtain ⟨t, a1, b1⟩ := k H locs ls hH hD hS hl (T.setVm (((T.vm.noted X.2.2.2.2.2.1.cls e1.catchType (.cls cN)).noted X.2.2.2.2.2.1.cls e2.catchType (.cls cM)).noted X.2.2.2.2.2.1.cls en.catchType (.cls cT))) hT XV
  exact ⟨t, Steps.caughtTo XX.here hfind a1, b1⟩
/-- past two, into the third -/
theorem t_hit3 {x ci a b h1 c1 a2 b2 h2 c2 a3 b3 hpc ct : Nat} {tl : List (Nat × Nat × Nat × Nat)} (i : Nat) {ly : fl} {R : fo} {En Ec E1 E2 : String} {T0 : u_T} {N : Nat} (C : fcx G D z A X own cc nL ret) (htab : X.2.2.2.2.2.2.2.2.2.1.exceptionTable.toList.map (fun h : ExceptionTableEntry => (h.startPc, h.endPc, h.handlerPc, h.catchType)) = (a, b, h1, c1) :: (a2, b2, h2, c2) :: (a3, b3, hpc, ct) :: tl) (ha : a ≤ pc) (hb' : pc < b) (h01 : ¬ c1 = 0) (hlink1 : Cond.classLink own c1 E1 ∈ G.1) (hnot : Cond.not (.castable En E1) ∈ G.1) (ha2 : a2 ≤ pc) (hb2 : pc < b2) (h02 : ¬ c2 = 0) (hlink2 : Cond.classLink own c2 E2 ∈ G.1) (hnot2 : Cond.not (.castable En E2) ∈ G.1) (ha3 : a3 ≤ pc) (hb3 : pc < b3) (h0 : ¬ ct = 0) (hlink : Cond.classLink own ct Ec ∈ G.1) (hb : Nat.blt ci 900 = true) (hi : L[i]? = some (ci, ly, R)) (hRx : R.1 = x) (hci : G.2[ci]? = some (En, T0, N)) (hcast : Cond.castable En Ec ∈ G.1)
    (k : aw G D z A X nL hpc lo [.ref x] L nc ns) : aT G D z A X nL pc lo rest x L nc ns := by
  obtain ⟨en, r, e1, e2, e3, e4, e5, e6⟩ := tab_1 htab
  obtain ⟨en2, r2, f1, f2, f3, f4, f5, f6⟩ := tab_1 e6
  obtain ⟨en3, r3, g1, g2, g3, g4, g5, -⟩ := tab_1 f6
  have e5' : en.catchType = c1 := e5
  have f5' : en2.catchType = c2 := f5
  have g4' : en3.handlerPc = hpc := g4
  have g5' : en3.catchType = ct := g5
  exact t_catch3 i C en en2 en3 r3 (by rw [e1, f1, g1]) (cov_of e2 e3 ha hb') (by rw [e5']; exact h01) (by rw [e5']; exact hlink1) hnot (cov_of f2 f3 ha2 hb2) (by rw [f5']; exact h02) (by rw [f5']; exact hlink2) hnot2 (cov_of g2 g3 ha3 hb3) (by rw [g5']; exact h0) (by rw [g5']; exact hlink) hb hi hRx hci hcast (by rw [g4']; exact k)
end CATCH3
