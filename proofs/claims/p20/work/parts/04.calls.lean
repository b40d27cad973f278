section CALLS
variable {G : List Cond × List vw_C} {D : va_G} {z : Nat → ClassId}
/-- a callee with a contract is run to its end -/
theorem ct_back {l : Launch} {R : Room} {p : Program} {e : Env} {below : List Frame} {s : State} {sargs : Array Value} {m : MethodId} {meth : Method} {c : Code} {y : MethodName} {cc : ByteArray} {nL : Nat} {ret : Option FieldType} {fr lc : Nat} {av : List Value} {L : fw} {mc ms : Nat} {Post : Outcome → fw → Prop}
    (hM : ct G D z l y cc nL ret fr lc av L mc ms Post) (hfr : fr + 1 ≤ R.frames) (hlc : 8 + (nL + 11) + lc ≤ R.locals) {U : State} {Ls : List Loc} {c0 s0 : Nat} (X : Stand p l e R s m sargs below meth c U Ls c0 s0) {g : JFrame} (hg : g.method = m) (hsize : g.locals.size = c.maxLocals) {ig : Instr} {len : Nat} (hdg : decode c.code g.pc = .ok (ig, len)) (hW : 2 * g.monitorRoom + (g.stack.map fun v => v.category).sum ≤ 8) {mk : MethodId} (hn : U.methodNamed? y = some mk)
    (hcode : (Cond.code y cc nL ret).before av.toArray U = true) (hini : (Cond.initialized y.cls).before av.toArray U = true) (hc : c0 + (mc + 1) ≤ R.cells) (hs : s0 + (ms + 6) ≤ R.slots) (htb : tb_ok G.1 U) (hkn : kn_ok D G.2 z U) (hH : fw_H D G.2 z L U.heap) (hD : fw_D (fun _ => True) L) (hsx : sx (owA G L U.heap.size) U U.heap) :
    ∃ o s₂, Steps p.tables e below (doInvoke e (U.setTop g) [] mk av.toArray).1 s₂ ∧ Ended s₂ (.java g :: below) o ∧ eP G D z (U.calling g mk av.toArray) L mc ms Post o s₂ := by
  obtain ⟨methY, cY, hmY, hcY, -, hlY, -, -, -, -⟩ := Cond.code_spec hn hcode
  obtain ⟨kY, hkY, -⟩ := className_of_methodNamed hn
  have hinitY : kY.init = .initialized := Cond.initialized_spec (findClass_of_methodNamed hn) hkY hini
  have h : At U g.method c below := by rw [hg]; exact X.here
  have hpre : (headSpec [Cond.code y cc nL ret] { frames := fr, cells := mc + 1, slots := ms + 6, locals := lc }).pre.before av.toArray U = true := atoms_intro (ws := [Cond.code y cc nL ret]) fun w hw => by
    rw [List.mem_singleton.mp hw]; exact hcode
  have happ : (headSpec [Cond.code y cc nL ret] { frames := fr, cells := mc + 1, slots := ms + 6, locals := lc }).appliesLoose y e.platform (U.calling g mk av.toArray) = true :=
    Spec.appliesLoose_calling (g := g) h hdg hn hkY hinitY
      (X.room_calling (g := g) (R' := { frames := fr, cells := mc + 1, slots := ms + 6, locals := lc }) hsize hmY hcY hfr (by rw [hlY]; show _ + lc ≤ _; omega) hc hs) hpre
  obtain ⟨mid, hmid⟩ := h.above
  have hfr2 : (U.setTop g).frames = (.java g :: mid) ++ below := by rw [State.frames_setTop' g h.top, hmid]; rfl
  obtain ⟨o, s₂, hsteps, -, hend, hq⟩ := Steps.callFree hM p X.admits X.cas X.clock (acts := []) hfr2 happ ⟨rfl, htb.warm (State.WarmedH.refl U), hkn.moved (Vm.Alike.refl U.vm), hH, hD, sx.moved (Vm.Alike.refl U.vm) hsx⟩ trivial
  rw [State.frames_setTop' g h.top, X.tail] at hend
  exact ⟨o, s₂, hsteps, hend, hq⟩
/-- .. and comes back with v -/
theorem ct_ret {l : Launch} {R : Room} {p : Program} {e : Env} {below : List Frame} {s : State} {sargs : Array Value} {m : MethodId} {meth : Method} {c : Code} {L : fw} {mc ms : Nat} {Post : Outcome → fw → Prop} {U : State} {Ls : List Loc} {c0 s0 : Nat} (X : Stand p l e R s m sargs below meth c U Ls c0 s0) {g : JFrame} (hg : g.method = m) {ig : Instr} {len : Nat} (hdg : decode c.code g.pc = .ok (ig, len)) {mk : MethodId} {a : Array Value} {v : Option Value} {s₂ : State}
    (hend : Ended s₂ (.java g :: below) (.returned v)) (hq : eP G D z (U.calling g mk a) L mc ms Post (.returned v) s₂) :
    ∃ (T' : State) (Ls' : List Loc), Stand p l e R s m sargs below meth c T' (Ls ++ Ls') (c0 + mc) (s0 + ms) ∧ T'.heap = s₂.heap ∧ T'.vm = s₂.vm ∧ (∀ q ∈ Ls', owA G L U.heap.size q.base) ∧ s₂ = T'.setTop { g with pc := g.pc + len, stack := v.toList ++ g.stack } := by
  obtain ⟨-, -, hW₂, Ls', ⟨e2, q2, q3, q4, q5, q6⟩, hLs⟩ := hq
  have h : At U g.method c below := by rw [hg]; exact X.here
  have e3 : s₂ = ({ (U.calling g mk a).setFrames s₂.frames with heap := s₂.heap, slotsUsed := s₂.slotsUsed } : State).setVm s₂.vm := by
    have : s₂ = ({ s₂ with vm := (U.calling g mk a).vm } : State).setVm s₂.vm := rfl
    rw [e2] at this
    exact this
  obtain ⟨c₂, i₂, len₂, hc₂, hd₂, hf₂⟩ := hend
  have hW' : U.WarmedH s₂.vm := hW₂
  have hcc : c₂ = c := by
    have h1 : s₂.code? g.method = U.code? g.method := by
      rw [State.code?_eq, State.code?_eq, hW'.alike.method?]
    exact Option.some.inj (hc₂.symm.trans (h1.trans h.code))
  subst hcc
  have hlen : len₂ = len := by rw [hdg] at hd₂; cases hd₂; rfl
  subst hlen
  obtain ⟨g₀, hg0⟩ := Option.isSome_iff_exists.mp h.top
  obtain ⟨r, hr⟩ := State.topJava?_eq_some.mp hg0
  have hr2 : r = below := by
    have := X.tail
    rw [hr] at this
    exact this
  subst hr2
  have hs₂ : s₂ = (({ U with heap := s₂.heap, slotsUsed := s₂.slotsUsed } : State).setVm s₂.vm).setTop { g with pc := g.pc + len₂, stack := v.toList ++ g.stack } := by
    have hr' : (({ U with heap := s₂.heap, slotsUsed := s₂.slotsUsed } : State).setVm s₂.vm).frames = .java g₀ :: r := hr
    refine e3.trans ?_
    rw [hf₂, State.calling_eq h.top, State.setFrames_setFrames, State.setTop_of_frames _ hr']
    rfl
  have hsame : U.sameButNew ({ U with heap := s₂.heap, slotsUsed := s₂.slotsUsed } : State) Ls' mc ms := by
    refine ⟨?_, q2, q3, q4, q5, q6⟩
    obtain ⟨t, ht, -⟩ := State.frames_cons hr
    show ({ U with heap := s₂.heap, slotsUsed := s₂.slotsUsed } : State) = { U.setFrames U.frames with heap := s₂.heap, slotsUsed := s₂.slotsUsed }
    rw [State.setFrames_self ht]
  subst hg
  exact ⟨(({ U with heap := s₂.heap, slotsUsed := s₂.slotsUsed } : State).setVm s₂.vm), Ls',
    ⟨X.admits, X.cas, X.clock, X.frames, X.room, X.hears, X.method, X.code, (X.here.setHeapUsed s₂.heap s₂.slotsUsed).setVm hW'.alike, X.tail, State.WarmedH.trans X.warmed hW', X.limits, X.bytes, X.same.trans (hsame.setVm s.vm)⟩, rfl, rfl, hLs, hs₂⟩
end CALLS
