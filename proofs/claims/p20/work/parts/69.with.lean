/-! METHODS WITH HANDLERS: contracts, calls, and the handlers' places -/
def ctW (G : List Cond × List vw_C) (D : va_G) (z : Nat → ClassId) (l : Launch) (y : MethodName) (cc : ByteArray) (nL : Nat) (ret : Option FieldType) (hh : List (Nat × Nat × Nat × Nat)) (fr lc : Nat) (av : List Value) (L : fw) (mc ms : Nat) (Post : Outcome → fw → Prop) : Prop :=
  MetFree l y (headSpec [Cond.codeWith y cc nL ret hh] { frames := fr, cells := mc + 1, slots := ms + 6, locals := lc }) (fun v U => v = av.toArray ∧ tb_ok G.1 U ∧ kn_ok D G.2 z U ∧ fw_H D G.2 z L U.heap ∧ fw_D (fun _ => True) L ∧ sx (owA G L U.heap.size) U U.heap) (fun _ _ _ _ _ => True) (fun _ st o t => eP G D z st L mc ms Post o t)
theorem ct_ofW {G : List Cond × List vw_C} {D : va_G} {z : Nat → ClassId} {l : Launch} {y : MethodName} {cc : ByteArray} {nL : Nat} {ret : Option FieldType} {hh : List (Nat × Nat × Nat × Nat)} {fr lc : Nat} {av : List Value} {L : fw} {mc ms : Nat} {Post : Outcome → fw → Prop} {lo : List (Option Value)} (hy : plainName y.cls = true) (hG : gok G) (hlen : (lg_sl av).length ≤ nL) (hlo : lo = lo_e av ++ List.replicate (nL - (lo_e av).length) none)
    (body : ∀ (X : cx) (A : Nat → Prop), X.2.1 = l → fcx G D z A X y.cls cc nL ret → X.2.2.2.1 = { frames := fr, cells := mc + 1, slots := ms + 6, locals := lc } → X.2.2.2.2.2.2.2.2.2.2 = eQ G D z X.2.2.2.2.2.2.2.1 X.2.2.2.2.1 L mc ms Post → A = owA G L X.2.2.2.2.1.heap.size → X.2.2.2.2.2.2.2.2.2.1.exceptionTable.toList.map (fun h : ExceptionTableEntry => (h.startPc, h.endPc, h.handlerPc, h.catchType)) = hh → aw G D z A X nL 0 lo [] L 0 0) : ctW G D z l y cc nL ret hh fr lc av L mc ms Post := by
  refine MetFree.of_bodyS (code := cc) (maxLocals := nL) (ret := ret) hy ?_ ?_
  · intro args s m h hn
    obtain ⟨m9, meth, c, hn9, h1, h2, h3, h4, -, h5, h6, -⟩ := Cond.codeWith_spec (atoms_spec (ws := [Cond.codeWith y cc nL ret hh]) h _ List.mem_cons_self)
    cases hn.symm.trans hn9
    exact ⟨meth, c, h1, h2, h3, h4, h5, h6⟩
  · intro p e s m args below meth c s₁ B hml hP _
    obtain ⟨rfl, htb, hkn, hH, hD, hsx⟩ := hP
    have hh0 : s₁.heap = s.heap := by rw [B.state]; rfl
    have hown : s.vm.findClass y.cls = some m.cls := findClass_of_methodNamed B.named
    have hno : c.exceptionTable.toList.map (fun h : ExceptionTableEntry => (h.startPc, h.endPc, h.handlerPc, h.catchType)) = hh := by
      obtain ⟨m9, meth9, c9, hn9, h1, h2, -, -, h7, -⟩ := Cond.codeWith_spec (atoms_spec (ws := [Cond.codeWith y cc nL ret hh]) B.pre _ List.mem_cons_self)
      cases B.named.symm.trans hn9
      cases B.method.symm.trans h1
      cases (Stand.of_body B).code.symm.trans h2
      exact h7
    have hb := body (p, l, e, { frames := fr, cells := mc + 1, slots := ms + 6, locals := lc }, s, m, av.toArray, below, meth, c, eQ G D z below s L mc ms Post) (owA G L s.heap.size) rfl
      ⟨B.exec, B.bytes, hml, B.returns, B.notSynchronized, hown, htb, hkn, fun q h => Or.inr h, hG, hsx⟩ rfl rfl rfl hno
    have hl : lo_has ((lg_sl av ++ List.replicate (nL - (lg_sl av).length) Slot.unset).toArray) nL lo := by
      have h9 := lv_entry av (n := nL) hlen
      show lv_has _ _ (lo_l 0 lo)
      rw [hlo, lo_e_l]
      exact h9
    have hw := hb s.heap [] _ hH (owA_self hD) va_S.rf hl
    obtain ⟨t, a1, o, b1, b2, b3⟩ := hw s₁ hh0 (Stand.of_body B)
    refine ⟨t, o, ?_, b1, b2, b3⟩
    rw [lg_entry_eq]
    exact a1

section CALLSW
variable {G : List Cond × List vw_C} {D : va_G} {z : Nat → ClassId}
/-- a callee with a contract is run to its end -/
theorem ct_backW {l : Launch} {R : Room} {p : Program} {e : Env} {below : List Frame} {s : State} {sargs : Array Value} {m : MethodId} {meth : Method} {c : Code} {y : MethodName} {cc : ByteArray} {nL : Nat} {ret : Option FieldType} {hh : List (Nat × Nat × Nat × Nat)} {fr lc : Nat} {av : List Value} {L : fw} {mc ms : Nat} {Post : Outcome → fw → Prop}
    (hM : ctW G D z l y cc nL ret hh fr lc av L mc ms Post) (hfr : fr + 1 ≤ R.frames) (hlc : 8 + (nL + 11) + lc ≤ R.locals) {U : State} {Ls : List Loc} {c0 s0 : Nat} (X : Stand p l e R s m sargs below meth c U Ls c0 s0) {g : JFrame} (hg : g.method = m) (hsize : g.locals.size = c.maxLocals) {ig : Instr} {len : Nat} (hdg : decode c.code g.pc = .ok (ig, len)) (hW : 2 * g.monitorRoom + (g.stack.map fun v => v.category).sum ≤ 8) {mk : MethodId} (hn : U.methodNamed? y = some mk)
    (hcode : (Cond.codeWith y cc nL ret hh).before av.toArray U = true) (hini : (Cond.initialized y.cls).before av.toArray U = true) (hc : c0 + (mc + 1) ≤ R.cells) (hs : s0 + (ms + 6) ≤ R.slots) (htb : tb_ok G.1 U) (hkn : kn_ok D G.2 z U) (hH : fw_H D G.2 z L U.heap) (hD : fw_D (fun _ => True) L) (hsx : sx (owA G L U.heap.size) U U.heap) :
    ∃ o s₂, Steps p.tables e below (doInvoke e (U.setTop g) [] mk av.toArray).1 s₂ ∧ Ended s₂ (.java g :: below) o ∧ eP G D z (U.calling g mk av.toArray) L mc ms Post o s₂ := by
  obtain ⟨m9, methY, cY, hn9, hmY, hcY, -, hlY, -⟩ := Cond.codeWith_spec hcode
  cases hn.symm.trans hn9
  obtain ⟨kY, hkY, -⟩ := className_of_methodNamed hn
  have hinitY : kY.init = .initialized := Cond.initialized_spec (findClass_of_methodNamed hn) hkY hini
  have h : At U g.method c below := by rw [hg]; exact X.here
  have hpre : (headSpec [Cond.codeWith y cc nL ret hh] { frames := fr, cells := mc + 1, slots := ms + 6, locals := lc }).pre.before av.toArray U = true := atoms_intro (ws := [Cond.codeWith y cc nL ret hh]) fun w hw => by
    rw [List.mem_singleton.mp hw]; exact hcode
  have happ : (headSpec [Cond.codeWith y cc nL ret hh] { frames := fr, cells := mc + 1, slots := ms + 6, locals := lc }).appliesLoose y e.platform (U.calling g mk av.toArray) = true :=
    Spec.appliesLoose_calling (g := g) h hdg hn hkY hinitY
      (X.room_calling (g := g) (R' := { frames := fr, cells := mc + 1, slots := ms + 6, locals := lc }) hsize hmY hcY hfr (by rw [hlY]; show _ + lc ≤ _; omega) hc hs) hpre
  obtain ⟨mid, hmid⟩ := h.above
  have hfr2 : (U.setTop g).frames = (.java g :: mid) ++ below := by rw [State.frames_setTop' g h.top, hmid]; rfl
  obtain ⟨o, s₂, hsteps, -, hend, hq⟩ := Steps.callFree hM p X.admits X.cas X.clock (acts := []) hfr2 happ ⟨rfl, htb.warm (State.WarmedH.refl U), hkn.moved (Vm.Alike.refl U.vm), hH, hD, sx.moved (Vm.Alike.refl U.vm) hsx⟩ trivial
  rw [State.frames_setTop' g h.top, X.tail] at hend
  exact ⟨o, s₂, hsteps, hend, hq⟩
end CALLSW
section THROWSW
variable {G : List Cond × List vw_C} {D : va_G} {z : Nat → ClassId} {A : Nat → Prop} {X : cx} {nL pc : Nat} {lo : List (Option Value)} {st : List Value} {L L0 Lc Lr : fw} {nc ns : Nat} {own : String} {cc : ByteArray} {ret : Option FieldType}
variable {y : MethodName} {cc' : ByteArray} {nL' : Nat} {ret' : Option FieldType} {hh : List (Nat × Nat × Nat × Nat)} {fr lc mc ms idx : Nat} {Post : Outcome → fw → Prop} {rest av : List Value} {ig : Instr}
theorem a_callTW (C : fcx G D z A X own cc nL ret) (pl rl : List Nat) (hd : decode cc pc = .ok (ig, 3)) (hct : ctW G D z X.2.1 y cc' nL' ret' hh fr lc av Lc mc ms Post) (hco : Cond.codeWith y cc' nL' ret' hh ∈ G.1) (hni : Cond.initialized y.cls ∈ G.1) (hrest : (rest.map fun v => v.category).sum ≤ 8) (hfr : fr + 1 ≤ X.2.2.2.1.frames) (hlc : 8 + (nL' + 11) + lc ≤ X.2.2.2.1.locals) (hmc : nc + (mc + 1) ≤ X.2.2.2.1.cells) (hms : ns + (ms + 6) ≤ X.2.2.2.1.slots)
    (hC : pl.map (fun i => L[i]?) = Lc.map some) (hR : rl.map (fun i => L[i]?) = Lr.map some) (hnp : pl.Nodup) (hnr : rl.Nodup) (hdis : ∀ i ∈ rl, i ∉ pl)
    (hinv : ∀ (H : Heap) (locs : List Loc) (ls : Array Slot), fw_H D G.2 z L H → ls.size = nL → inv_ok X nc ns H locs (F0 X.2.2.2.2.2.1 pc ls st) rest av y)
    (k : ∀ (o : Outcome) (L' : fw), Post o L' → (∃ v, o = .returned v ∧ aw G D z A X nL (pc + 3) lo (v.toList ++ rest) (Lr ++ L') (nc + mc) (ns + ms)) ∨ ∃ x, o = .threw x ∧ aT G D z A X nL pc lo rest x (Lr ++ L') (nc + (mc + 1)) (ns + (ms + 6))) : aw G D z A X nL pc lo st L nc ns := by
  intro H locs ls hH hD hS hl T hT XX
  obtain ⟨vm₁, mk, X₁, hmk, hst⟩ := hinv H locs ls hH hl.1 T hT XX
  have hWr : X.2.2.2.2.1.WarmedH vm₁ := X₁.warmed
  have hA' : ∀ q, H.size ≤ q → A q := fun q h => C.hA q (Nat.le_trans hS.1 h)
  have hF := owA_sub (G := G) (sz := H.size) hD hC hA'
  obtain ⟨o, s₂, hsteps, hend, hq⟩ := ct_backW (g := { (F0 X.2.2.2.2.2.1 pc ls st) with stack := rest }) hct hfr hlc X₁ rfl (hl.1.trans C.ml.symm) (by rw [C.b]; exact hd) (by show 2 * 0 + (rest.map fun v => v.category).sum ≤ 8; omega) hmk ((C.tb.warm hWr).use hco rfl) ((C.tb.warm hWr).use hni rfl) hmc hms (C.tb.warm hWr) (C.kn.moved hWr.alike) (by rw [show (T.setVm vm₁).heap = H from hT]; exact hH.pick hC) (hD.pick hC hnp (fun _ _ => trivial)) (by
      have h8 : sx A X.2.2.2.2.1 H := C.sx.kept (fun a h1 h2 => hS.2.1 a h1 h2)
      rw [show (T.setVm vm₁).heap = H from hT]
      exact (h8.moved hWr.alike).narrow hF)
  obtain ⟨L', hp, hH1, hD1⟩ := hq.1
  have hsz : ((T.setVm vm₁).calling { (F0 X.2.2.2.2.2.1 pc ls st) with stack := rest } mk av.toArray).heap.size = H.size := by rw [← hT]; rfl
  have hheap : ((T.setVm vm₁).calling { (F0 X.2.2.2.2.2.1 pc ls st) with stack := rest } mk av.toArray).heap = H := hT
  obtain ⟨hz, hk⟩ := hq.2.1
  rw [hsz] at hD1
  rw [hheap] at hz hk
  obtain ⟨hHj, hDj⟩ := fw_join hH hD hC hR hnr hdis hk hF hH1 hD1
  rcases k o L' hp with ⟨v, rfl, kk⟩ | ⟨x, rfl, kk⟩
  · obtain ⟨T', Ls', X', e1, e2, hLs, hs₂⟩ := ct_ret X₁ rfl (by rw [C.b]; exact hd) hend hq
    have hS' : va_S A X.2.2.2.2.1.heap s₂.heap (locs ++ Ls') := ⟨Nat.le_trans hS.1 hz, fun q h1 h2 => by
        rw [hk q (Nat.lt_of_lt_of_le h1 hS.1) (fun zq => h2 (hF q zq))]; exact hS.2.1 q h1 h2, fun q hq2 => by
        rcases List.mem_append.mp hq2 with h | h
        · exact hS.2.2 q h
        · exact hF _ (by have := hLs q h; rw [show (T.setVm vm₁).heap.size = H.size from by rw [← hT]; rfl] at this; exact this)⟩
    obtain ⟨t, a1, b1⟩ := kk s₂.heap _ ls hHj hDj hS' hl T' e1 X'
    refine ⟨t, hst t (hsteps.trans ?_), b1⟩
    rw [hs₂]
    exact a1
  · obtain ⟨-, -, hW₂, Ls', hsame, hLs⟩ := hq
    obtain ⟨T', X', -, -, hs₂⟩ := X₁.outOfThrown rfl hend hW₂ hsame
    have e1 : T'.heap = s₂.heap := by rw [hs₂]; exact (Stand.throwing_heap T' _ x).symm
    have hS' : va_S A X.2.2.2.2.1.heap s₂.heap (locs ++ Ls') := ⟨Nat.le_trans hS.1 hz, fun q h1 h2 => by
        rw [hk q (Nat.lt_of_lt_of_le h1 hS.1) (fun zq => h2 (hF q zq))]; exact hS.2.1 q h1 h2, fun q hq2 => by
        rcases List.mem_append.mp hq2 with h | h
        · exact hS.2.2 q h
        · exact hF _ (by have := hLs q h; rw [hsz] at this; exact this)⟩
    obtain ⟨t, a1, b1⟩ := kk s₂.heap _ ls hHj hDj hS' hl T' e1 X'
    refine ⟨t, hst t (hsteps.trans ?_), b1⟩
    rw [hs₂]
    exact a1
theorem inv_VW (C : fcx G D z A X own cc nL ret) {As : List Value} {b ci : Nat} {ly : fl} {R : fo} {Cn : String} {T0 : u_T} {N : Nat} (i0 : Nat) (hd : decode cc pc = .ok (.invokevirtual idx, 3)) (hl : Cond.methodLink own idx y ∈ G.1) (hin : Cond.instanceMethod y ∈ G.1) (hse : Cond.selects Cn y y ∈ G.1) (hco : Cond.codeWith y cc' nL' ret' hh ∈ G.1) (hy : y.cls ≠ "java/lang/invoke/MethodHandle" ∧ y.cls ≠ "java/lang/invoke/VarHandle") (hlen : (parseMethodDescriptor y.desc).map (fun d => d.parameters.length) = some As.length)
    (hst : st = As.reverse ++ .ref b :: rest) (h0 : Nat.blt ci 900 = true) (hi : L[i0]? = some (ci, ly, R)) (hb : R.1 = b) (hcl : G.2[ci]? = some (Cn, T0, N)) :
    ∀ (H : Heap) (locs : List Loc) (ls : Array Slot), fw_H D G.2 z L H → ls.size = nL → inv_ok X nc ns H locs (F0 X.2.2.2.2.2.1 pc ls st) rest (.ref b :: As) y := by
  intro H locs ls hH hls T hT XX
  subst hb
  obtain ⟨q, h1, cell, q1, q2, q3, q4⟩ := (hH i0 _ 0 hi (Or.inl h0)).o h0
  obtain ⟨mk, methM, hnamed, hmethM, hstM, habM⟩ := Cond.instanceMethod_spec (C.tb.use (a := X.2.2.2.2.2.2.1) hin rfl)
  obtain ⟨m9, methM', cM, hn9, hmethM', -, -, -, -, -, -, hsigM⟩ := Cond.codeWith_spec (C.tb.use (a := X.2.2.2.2.2.2.1) hco rfl)
  cases hnamed.symm.trans hn9
  cases hmethM.symm.trans hmethM'
  obtain ⟨c2, r2, m2, g1, g2, g3, g4, kP, hkP, hkPi⟩ := Cond.selects_spec (C.tb.use (a := X.2.2.2.2.2.2.1) hse rfl)
  have hcls : X.2.2.2.2.1.vm.findClass Cn = some cell.cls := by rw [q2]; exact (C.kn.1 ci _ hcl).2.1
  cases hcls.symm.trans g1
  cases (State.methodFound?_of_named hnamed hy).symm.trans g2
  cases hnamed.symm.trans g3
  have hselP : selectMethod X.2.2.1.platform X.2.2.2.2.1.vm cell.cls mk = .method mk := by rw [Launch.admits_selectMethod XX.admits]; exact g4
  obtain ⟨vm₁, X₁, hstep₁⟩ := XX.invokevirtual C.x C.ow (C.tb.use (a := X.2.2.2.2.2.2.1) hl rfl) hnamed hmethM hstM hkP hkPi hy (a := R.1) (cell := cell) (by rw [hT]; exact q1)
    (fun zz h => by rw [q3] at h; cases h) hselP hmethM habM hkP hkPi (g := F0 X.2.2.2.2.2.1 pc ls st) rfl (argsL := As) (rest := rest) (by
      rw [hsigM] at hlen; exact (Option.some.inj hlen).symm) hst (by rw [C.b]; exact hd)
  exact ⟨vm₁, mk, X₁, X₁.named hnamed, fun target h => hstep₁ _ fun acts => by rw [doInvoke_state]; exact h⟩
theorem inv_SW (C : fcx G D z A X own cc nL ret) (hd : decode cc pc = .ok (.invokestatic idx, 3)) (hl : Cond.methodLink own idx y ∈ G.1) (hsta : Cond.static y ∈ G.1) (hni : Cond.initialized y.cls ∈ G.1) (hco : Cond.codeWith y cc' nL' ret' hh ∈ G.1) (hy : y.cls ≠ "java/lang/invoke/MethodHandle" ∧ y.cls ≠ "java/lang/invoke/VarHandle") (hlen : (parseMethodDescriptor y.desc).map (fun d => d.parameters.length) = some av.length)
    (hst : st = av.reverse ++ rest) :
    ∀ (H : Heap) (locs : List Loc) (ls : Array Slot), fw_H D G.2 z L H → ls.size = nL → inv_ok X nc ns H locs (F0 X.2.2.2.2.2.1 pc ls st) rest av y := by
  intro H locs ls hH hls T hT XX
  obtain ⟨mk, methM, cM, hnamed, hmethM, -, -, -, -, -, -, hsigM⟩ := Cond.codeWith_spec (C.tb.use (a := X.2.2.2.2.2.2.1) hco rfl)
  have hstatic : methM.isStatic = true := Cond.static_spec hnamed hmethM (C.tb.use (a := X.2.2.2.2.2.2.1) hsta rfl)
  obtain ⟨kP, hkP, -⟩ := className_of_methodNamed hnamed
  have hinitP : kP.init = .initialized := Cond.initialized_spec (findClass_of_methodNamed hnamed) hkP (C.tb.use (a := X.2.2.2.2.2.2.1) hni rfl)
  obtain ⟨vm₁, X₁, hstep₁⟩ := XX.invokestatic C.x C.ow (C.tb.use (a := X.2.2.2.2.2.2.1) hl rfl) hnamed hmethM hstatic hkP hinitP hy (g := F0 X.2.2.2.2.2.1 pc ls st) rfl (argsL := av) (rest := rest) (by
      rw [hsigM] at hlen; exact (Option.some.inj hlen).symm) hst (by rw [C.b]; exact hd)
  exact ⟨vm₁, mk, X₁, X₁.named hnamed, fun target h => hstep₁ _ fun acts => by rw [doInvoke_state]; exact h⟩
end THROWSW
section TABS
variable {G : List Cond × List vw_C} {D : va_G} {z : Nat → ClassId} {A : Nat → Prop} {X : cx} {nL pc : Nat} {lo : List (Option Value)} {st : List Value} {L L' : fw} {nc ns : Nat} {own : String} {cc : ByteArray} {ret : Option FieldType} {rest : List Value}
theorem aw_drop {u : Nat × fl × fo} (k : aw G D z A X nL pc lo st L nc ns) : aw G D z A X nL pc lo st (L ++ [u]) nc ns := by
  intro H locs ls hH hD hS hl
  have h1 : ∀ (i : Nat) (q : Nat × fl × fo), L[i]? = some q → (L ++ [u])[i]? = some q := fun i q hq => by
    rw [List.getElem?_append_left (List.getElem?_eq_some_iff.mp hq).1]; exact hq
  exact k H locs ls (fun i q t hq ht => hH i q t (h1 i q hq) ht) ⟨fun i j p q t v hp hq ht hv e => hD.1 i j p q t v (h1 i p hp) (h1 j q hq) ht hv e, fun i q t hq ht => hD.2 i q t (h1 i q hq) ht⟩ hS hl
theorem tab_1 {l : List ExceptionTableEntry} {x : Nat × Nat × Nat × Nat} {t : List (Nat × Nat × Nat × Nat)} (h : l.map (fun h : ExceptionTableEntry => (h.startPc, h.endPc, h.handlerPc, h.catchType)) = x :: t) : ∃ en r, l = en :: r ∧ en.startPc = x.1 ∧ en.endPc = x.2.1 ∧ en.handlerPc = x.2.2.1 ∧ en.catchType = x.2.2.2 ∧ r.map (fun h : ExceptionTableEntry => (h.startPc, h.endPc, h.handlerPc, h.catchType)) = t := by
  cases l with
  | nil => cases h
  | cons en r =>
    have h1 := List.cons.inj h
    refine ⟨en, r, rfl, ?_, ?_, ?_, ?_, h1.2⟩ <;> rw [← h1.1]
theorem cov_of {en : ExceptionTableEntry} {a b p : Nat} (h1 : en.startPc = a) (h2 : en.endPc = b) (ha : a ≤ p) (hb : p < b) : covers en p = true := by
  simp [covers, h1, h2, ha, hb]
/-- into the first handler -/
theorem t_hit {x ci a b hpc ct : Nat} {tl : List (Nat × Nat × Nat × Nat)} (i : Nat) {ly : fl} {R : fo} {En Ec : String} {T0 : u_T} {N : Nat} (C : fcx G D z A X own cc nL ret) (htab : X.2.2.2.2.2.2.2.2.2.1.exceptionTable.toList.map (fun h : ExceptionTableEntry => (h.startPc, h.endPc, h.handlerPc, h.catchType)) = (a, b, hpc, ct) :: tl) (ha : a ≤ pc) (hb' : pc < b) (h0 : ¬ ct = 0) (hlink : Cond.classLink own ct Ec ∈ G.1) (hb : Nat.blt ci 900 = true) (hi : L[i]? = some (ci, ly, R)) (hRx : R.1 = x) (hci : G.2[ci]? = some (En, T0, N)) (hcast : Cond.castable En Ec ∈ G.1)
    (k : aw G D z A X nL hpc lo [.ref x] L nc ns) : aT G D z A X nL pc lo rest x L nc ns := by
  obtain ⟨en, r, e1, e2, e3, e4, e5, -⟩ := tab_1 htab
  have e4' : en.handlerPc = hpc := e4
  have e5' : en.catchType = ct := e5
  exact t_catch i C en r e1 (cov_of e2 e3 ha hb') (by rw [e5']; exact h0) (by rw [e5']; exact hlink) hb hi hRx hci hcast (by rw [e4']; exact k)
/-- past the first one, into the second -/
theorem t_hit2 {x ci a b h1 c1 a2 b2 hpc ct : Nat} {tl : List (Nat × Nat × Nat × Nat)} (i : Nat) {ly : fl} {R : fo} {En Ec E1 : String} {T0 : u_T} {N : Nat} (C : fcx G D z A X own cc nL ret) (htab : X.2.2.2.2.2.2.2.2.2.1.exceptionTable.toList.map (fun h : ExceptionTableEntry => (h.startPc, h.endPc, h.handlerPc, h.catchType)) = (a, b, h1, c1) :: (a2, b2, hpc, ct) :: tl) (ha : a ≤ pc) (hb' : pc < b) (h01 : ¬ c1 = 0) (hlink1 : Cond.classLink own c1 E1 ∈ G.1) (hnot : Cond.not (.castable En E1) ∈ G.1) (ha2 : a2 ≤ pc) (hb2 : pc < b2) (h0 : ¬ ct = 0) (hlink : Cond.classLink own ct Ec ∈ G.1) (hb : Nat.blt ci 900 = true) (hi : L[i]? = some (ci, ly, R)) (hRx : R.1 = x) (hci : G.2[ci]? = some (En, T0, N)) (hcast : Cond.castable En Ec ∈ G.1)
    (k : aw G D z A X nL hpc lo [.ref x] L nc ns) : aT G D z A X nL pc lo rest x L nc ns := by
  obtain ⟨en, r, e1, e2, e3, e4, e5, e6⟩ := tab_1 htab
  obtain ⟨en2, r2, f1, f2, f3, f4, f5, -⟩ := tab_1 e6
  have e5' : en.catchType = c1 := e5
  have f4' : en2.handlerPc = hpc := f4
  have f5' : en2.catchType = ct := f5
  exact t_catch2 i C en en2 r2 (by rw [e1, f1]) (cov_of e2 e3 ha hb') (by rw [e5']; exact h01) (by rw [e5']; exact hlink1) hnot (cov_of f2 f3 ha2 hb2) (by rw [f5']; exact h0) (by rw [f5']; exact hlink) hb hi hRx hci hcast (by rw [f4']; exact k)
end TABS

