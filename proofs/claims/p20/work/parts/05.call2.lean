theorem fw_pick {L Lc : fw} {pl : List Nat} (hC : pl.map (fun i => L[i]?) = Lc.map some) {k : Nat} {q : Nat × fl × fo} (hq : Lc[k]? = some q) : ∃ i, pl[k]? = some i ∧ L[i]? = some q := by
  have h1 : (pl.map (fun i => L[i]?))[k]? = some (some q) := by rw [hC, List.getElem?_map, hq]; rfl
  rw [List.getElem?_map] at h1
  cases hi : pl[k]? with
  | none => rw [hi] at h1; cases h1
  | some i => rw [hi] at h1; exact ⟨i, rfl, Option.some.inj h1⟩
theorem fw_H.pick {D : va_G} {cl : List vw_C} {z : Nat → ClassId} {L Lc : fw} {H : Heap} {pl : List Nat} (h : fw_H D cl z L H) (hC : pl.map (fun i => L[i]?) = Lc.map some) : fw_H D cl z Lc H := fun k q t hq ht => by
  obtain ⟨i, -, hi⟩ := fw_pick hC hq
  exact h i q t hi ht
theorem fw_nd {pl : List Nat} (hn : pl.Nodup) {i j x : Nat} (h1 : pl[i]? = some x) (h2 : pl[j]? = some x) : i = j :=
  (List.getElem?_inj (List.getElem?_eq_some_iff.mp h1).1 hn).mp (h1.trans h2.symm)
theorem fw_D.pick {A B : Nat → Prop} {L Lc : fw} {pl : List Nat} (h : fw_D A L) (hC : pl.map (fun i => L[i]?) = Lc.map some) (hn : pl.Nodup) (hB : ∀ q, A q → B q) : fw_D B Lc := by
  refine ⟨fun i j p q t u hp hq ht hu e => ?_, fun i q t hq ht => ?_⟩
  · obtain ⟨i', h1, h2⟩ := fw_pick hC hp
    obtain ⟨j', h3, h4⟩ := fw_pick hC hq
    obtain ⟨e1, e2⟩ := h.1 i' j' p q t u h2 h4 ht hu e
    subst e1
    exact ⟨fw_nd hn h1 h3, e2⟩
  · obtain ⟨i', h1, h2⟩ := fw_pick hC hq
    exact hB _ (h.2 i' q t h2 ht)
theorem fw_join {G : List Cond × List vw_C} {D : va_G} {z : Nat → ClassId} {A : Nat → Prop} {L Lc Lr L' : fw} {H H1 : Heap} {pl rl : List Nat} (hH : fw_H D G.2 z L H) (hD : fw_D A L) (hC : pl.map (fun i => L[i]?) = Lc.map some) (hR : rl.map (fun i => L[i]?) = Lr.map some) (hn : rl.Nodup) (hdis : ∀ i ∈ rl, i ∉ pl)
    (hk : ∀ q : Nat, q < H.size → ¬ owA G Lc H.size q → H1[q]? = H[q]?) (hF : ∀ q, owA G Lc H.size q → A q) (hH1 : fw_H D G.2 z L' H1) (hD1 : fw_D (owA G Lc H.size) L') : fw_H D G.2 z (Lr ++ L') H1 ∧ fw_D A (Lr ++ L') := by
  have apart : ∀ (k : Nat) (q : Nat × fl × fo) (t : Nat), Lr[k]? = some q → fo_ok q.1 q.2.1 t → fo_ad q.2.2 t < H.size ∧ ¬ owA G Lc H.size (fo_ad q.2.2 t) := by
    intro k q t hq ht
    obtain ⟨i, h1, h2⟩ := fw_pick hR hq
    have hl := (hH i q t h2 ht).lt
    refine ⟨hl, fun h => ?_⟩
    rcases h with ⟨k2, p, u, g1, g2, g3⟩ | h
    · obtain ⟨j, h3, h4⟩ := fw_pick hC g1
      have hij := (hD.1 i j q p t u h2 h4 ht g2 g3).1
      subst hij
      exact hdis i (List.mem_of_getElem? h1) (List.mem_of_getElem? h3)
    · omega
  have cases' : ∀ (k : Nat) (q : Nat × fl × fo), (Lr ++ L')[k]? = some q → (k < Lr.length ∧ Lr[k]? = some q) ∨ (Lr.length ≤ k ∧ L'[k - Lr.length]? = some q) := by
    intro k q hq
    by_cases hl : k < Lr.length
    · rw [List.getElem?_append_left hl] at hq; exact Or.inl ⟨hl, hq⟩
    · rw [List.getElem?_append_right (by omega)] at hq; exact Or.inr ⟨by omega, hq⟩
  have hDr : fw_D A Lr := hD.pick hR hn (fun _ h => h)
  refine ⟨fun k q t hq ht => ?_, fun i j p q t u hp hq ht hu e => ?_, fun k q t hq ht => ?_⟩
  · rcases cases' k q hq with ⟨-, h⟩ | ⟨-, h⟩
    · obtain ⟨i, h1, h2⟩ := fw_pick hR h
      obtain ⟨g1, g2⟩ := apart k q t h ht
      exact (hH i q t h2 ht).kept (hk _ g1 g2)
    · exact hH1 _ q t h ht
  · rcases cases' i p hp with ⟨l1, h1⟩ | ⟨l1, h1⟩ <;> rcases cases' j q hq with ⟨l2, h2⟩ | ⟨l2, h2⟩
    · exact hDr.1 i j p q t u h1 h2 ht hu e
    · exact absurd (by rw [e]; exact hD1.2 _ q u h2 hu) (apart i p t h1 ht).2
    · exact absurd (by rw [← e]; exact hD1.2 _ p t h1 ht) (apart j q u h2 hu).2
    · obtain ⟨e1, e2⟩ := hD1.1 _ _ p q t u h1 h2 ht hu e
      exact ⟨by omega, e2⟩
  · rcases cases' k q hq with ⟨-, h⟩ | ⟨-, h⟩
    · exact hDr.2 k q t h ht
    · exact hF _ (hD1.2 _ q t h ht)
theorem owA_sub {G : List Cond × List vw_C} {A : Nat → Prop} {L Lc : fw} {pl : List Nat} {sz : Nat} (hD : fw_D A L) (hC : pl.map (fun i => L[i]?) = Lc.map some) (hA : ∀ q, sz ≤ q → A q) : ∀ q, owA G Lc sz q → A q := by
  intro q h
  rcases h with ⟨k, p, t, h1, h2, rfl⟩ | h
  · obtain ⟨i, -, hi⟩ := fw_pick hC h1
    exact hD.2 i p t hi h2
  · exact hA q h
section CALL2
variable {G : List Cond × List vw_C} {D : va_G} {z : Nat → ClassId} {A : Nat → Prop} {X : cx} {nL pc : Nat} {lo : List (Option Value)} {st : List Value} {L Lc Lr : fw} {nc ns : Nat} {own : String} {cc : ByteArray} {ret : Option FieldType}
variable {y : MethodName} {cc' : ByteArray} {nL' : Nat} {ret' : Option FieldType} {fr lc mc ms idx : Nat} {Post : Outcome → fw → Prop} {rest av : List Value} {ig : Instr}
/-- what an invocation does first: the callee is found, its arguments are off the stack -/
def inv_ok (X : cx) (nc ns : Nat) (H : Heap) (locs : List Loc) (g : JFrame) (rest av : List Value) (y : MethodName) : Prop :=
  ∀ T : State, T.heap = H → Stand X.1 X.2.1 X.2.2.1 X.2.2.2.1 X.2.2.2.2.1 X.2.2.2.2.2.1 X.2.2.2.2.2.2.1 X.2.2.2.2.2.2.2.1 X.2.2.2.2.2.2.2.2.1 X.2.2.2.2.2.2.2.2.2.1 T locs nc ns → ∃ (vm₁ : Vm) (mk : MethodId),
    Stand X.1 X.2.1 X.2.2.1 X.2.2.2.1 X.2.2.2.2.1 X.2.2.2.2.2.1 X.2.2.2.2.2.2.1 X.2.2.2.2.2.2.2.1 X.2.2.2.2.2.2.2.2.1 X.2.2.2.2.2.2.2.2.2.1 (T.setVm vm₁) locs nc ns ∧ (T.setVm vm₁).methodNamed? y = some mk ∧
    ∀ target, Steps X.1.tables X.2.2.1 X.2.2.2.2.2.2.2.1 (doInvoke X.2.2.1 ((T.setVm vm₁).setTop { g with stack := rest }) [] mk av.toArray).1 target → Steps X.1.tables X.2.2.1 X.2.2.2.2.2.2.2.1 (T.setTop g) target
theorem a_call (C : fcx G D z A X own cc nL ret) (pl rl : List Nat) (hd : decode cc pc = .ok (ig, 3)) (hct : ct G D z X.2.1 y cc' nL' ret' fr lc av Lc mc ms Post) (hco : Cond.code y cc' nL' ret' ∈ G.1) (hni : Cond.initialized y.cls ∈ G.1) (hrest : (rest.map fun v => v.category).sum ≤ 8) (hfr : fr + 1 ≤ X.2.2.2.1.frames) (hlc : 8 + (nL' + 11) + lc ≤ X.2.2.2.1.locals) (hmc : nc + (mc + 1) ≤ X.2.2.2.1.cells) (hms : ns + (ms + 6) ≤ X.2.2.2.1.slots)
    (hC : pl.map (fun i => L[i]?) = Lc.map some) (hR : rl.map (fun i => L[i]?) = Lr.map some) (hnp : pl.Nodup) (hnr : rl.Nodup) (hdis : ∀ i ∈ rl, i ∉ pl)
    (hinv : ∀ (H : Heap) (locs : List Loc) (ls : Array Slot), fw_H D G.2 z L H → ls.size = nL → inv_ok X nc ns H locs (F0 X.2.2.2.2.2.1 pc ls st) rest av y)
    (k : ∀ (o : Outcome) (L' : fw), Post o L' → ∃ v, o = .returned v ∧ aw G D z A X nL (pc + 3) lo (v.toList ++ rest) (Lr ++ L') (nc + mc) (ns + ms)) : aw G D z A X nL pc lo st L nc ns := by
  intro H locs ls hH hD hS hl T hT XX
  obtain ⟨vm₁, mk, X₁, hmk, hst⟩ := hinv H locs ls hH hl.1 T hT XX
  have hWr : X.2.2.2.2.1.WarmedH vm₁ := X₁.warmed
  obtain ⟨o, s₂, hsteps, hend, hq⟩ := ct_back (g := { (F0 X.2.2.2.2.2.1 pc ls st) with stack := rest }) hct hfr hlc X₁ rfl (hl.1.trans C.ml.symm) (by rw [C.b]; exact hd) (by show 2 * 0 + (rest.map fun v => v.category).sum ≤ 8; omega) hmk ((C.tb.warm hWr).use hco rfl) ((C.tb.warm hWr).use hni rfl) hmc hms (C.tb.warm hWr) (C.kn.moved hWr.alike) (by rw [show (T.setVm vm₁).heap = H from hT]; exact hH.pick hC) (hD.pick hC hnp (fun _ _ => trivial)) (by
      have hA' : ∀ q, H.size ≤ q → A q := fun q h => C.hA q (Nat.le_trans hS.1 h)
      have h8 : sx A X.2.2.2.2.1 H := C.sx.kept (fun a h1 h2 => hS.2.1 a h1 h2)
      rw [show (T.setVm vm₁).heap = H from hT]
      exact (h8.moved hWr.alike).narrow (owA_sub (G := G) (sz := H.size) hD hC hA'))
  obtain ⟨L', hp, hH1, hD1⟩ := hq.1
  obtain ⟨v, rfl, kk⟩ := k o L' hp
  obtain ⟨T', Ls', X', e1, e2, hLs, hs₂⟩ := ct_ret X₁ rfl (by rw [C.b]; exact hd) hend hq
  have hsz : ((T.setVm vm₁).calling { (F0 X.2.2.2.2.2.1 pc ls st) with stack := rest } mk av.toArray).heap.size = H.size := by rw [← hT]; rfl
  have hheap : ((T.setVm vm₁).calling { (F0 X.2.2.2.2.2.1 pc ls st) with stack := rest } mk av.toArray).heap = H := hT
  obtain ⟨hz, hk⟩ := hq.2.1
  rw [hsz] at hD1
  rw [hheap] at hz hk
  have hA' : ∀ q, H.size ≤ q → A q := fun q h => C.hA q (Nat.le_trans hS.1 h)
  have hF := owA_sub (G := G) (sz := H.size) hD hC hA'
  obtain ⟨hHj, hDj⟩ := fw_join hH hD hC hR hnr hdis hk hF hH1 hD1
  have hS' : va_S A X.2.2.2.2.1.heap s₂.heap (locs ++ Ls') := ⟨Nat.le_trans hS.1 hz, fun q h1 h2 => by
      rw [hk q (Nat.lt_of_lt_of_le h1 hS.1) (fun zq => h2 (hF q zq))]; exact hS.2.1 q h1 h2, fun q hq2 => by
      rcases List.mem_append.mp hq2 with h | h
      · exact hS.2.2 q h
      · exact hF _ (by have := hLs q h; rw [show (T.setVm vm₁).heap.size = H.size from by rw [← hT]; rfl] at this; exact this)⟩
  obtain ⟨t, a1, b1⟩ := kk s₂.heap _ ls hHj hDj hS' hl T' e1 X'
  refine ⟨t, hst t (hsteps.trans ?_), b1⟩
  rw [hs₂]
  exact a1
theorem inv_V (C : fcx G D z A X own cc nL ret) {As : List Value} {b ci : Nat} {ly : fl} {R : fo} {Cn : String} {T0 : u_T} {N : Nat} (i0 : Nat) (hd : decode cc pc = .ok (.invokevirtual idx, 3)) (hl : Cond.methodLink own idx y ∈ G.1) (hin : Cond.instanceMethod y ∈ G.1) (hse : Cond.selects Cn y y ∈ G.1) (hco : Cond.code y cc' nL' ret' ∈ G.1) (hy : y.cls ≠ "java/lang/invoke/MethodHandle" ∧ y.cls ≠ "java/lang/invoke/VarHandle") (hlen : (parseMethodDescriptor y.desc).map (fun d => d.parameters.length) = some As.length)
    (hst : st = As.reverse ++ .ref b :: rest) (h0 : Nat.blt ci 900 = true) (hi : L[i0]? = some (ci, ly, R)) (hb : R.1 = b) (hcl : G.2[ci]? = some (Cn, T0, N)) :
    ∀ (H : Heap) (locs : List Loc) (ls : Array Slot), fw_H D G.2 z L H → ls.size = nL → inv_ok X nc ns H locs (F0 X.2.2.2.2.2.1 pc ls st) rest (.ref b :: As) y := by
  intro H locs ls hH hls T hT XX
  subst hb
  obtain ⟨q, h1, cell, q1, q2, q3, q4⟩ := (hH i0 _ 0 hi (Or.inl h0)).o h0
  obtain ⟨mk, methM, hnamed, hmethM, hstM, habM⟩ := Cond.instanceMethod_spec (C.tb.use (a := X.2.2.2.2.2.2.1) hin rfl)
  obtain ⟨methM', cM, hmethM', -, -, -, -, -, -, hsigM⟩ := Cond.code_spec hnamed (C.tb.use (a := X.2.2.2.2.2.2.1) hco rfl)
  cases hmethM.symm.trans hmethM'
  obtain ⟨c2, r2, m2, g1, g2, g3, g4, kP, hkP, hkPi⟩ := Cond.selects_spec (C.tb.use (a := X.2.2.2.2.2.2.1) hse rfl)
  have hcls : X.2.2.2.2.1.vm.findClass Cn = some cell.cls := by rw [q2]; exact (C.kn.1 ci _ hcl).2.1
  cases hcls.symm.trans g1
  cases (State.methodFound?_of_named hnamed hy).symm.trans g2
  cases hnamed.symm.trans g3
  have hselP : selectMethod X.2.2.1.platform X.2.2.2.2.1.vm cell.cls mk = .method mk := by rw [Launch.admits_selectMethod XX.admits]; exact g4
  obtain ⟨vm₁, X₁, hstep₁⟩ := XX.invokevirtual C.x C.ow (C.tb.use (a := X.2.2.2.2.2.2.1) hl rfl) hnamed hmethM hstM hkP hkPi hy (a := R.1) (cell := cell) (by rw [hT]; exact q1)
    (fun zz h => by rw [q3] at h; cases h) hselP hmethM habM hkP hkPi (g := F0 X.2.2.2.2.2.1 pc ls st) rfl (argsL := As) (rest := rest) (by
      rw [hsigM] at hlen; exact (Option.some.inj hlen).symm) hst (by rw [C.b]; exact hd)
  exact ⟨vm₁, mk, X₁, X₁.named hnamed, fun target h => hstep₁ _ fun acts => by rw [doInvoke_state]; exact h⟩
theorem inv_S (C : fcx G D z A X own cc nL ret) (hd : decode cc pc = .ok (.invokestatic idx, 3)) (hl : Cond.methodLink own idx y ∈ G.1) (hsta : Cond.static y ∈ G.1) (hni : Cond.initialized y.cls ∈ G.1) (hco : Cond.code y cc' nL' ret' ∈ G.1) (hy : y.cls ≠ "java/lang/invoke/MethodHandle" ∧ y.cls ≠ "java/lang/invoke/VarHandle") (hlen : (parseMethodDescriptor y.desc).map (fun d => d.parameters.length) = some av.length)
    (hst : st = av.reverse ++ rest) :
    ∀ (H : Heap) (locs : List Loc) (ls : Array Slot), fw_H D G.2 z L H → ls.size = nL → inv_ok X nc ns H locs (F0 X.2.2.2.2.2.1 pc ls st) rest av y := by
  intro H locs ls hH hls T hT XX
  obtain ⟨mk, hnamed⟩ := Cond.code_named (C.tb.use (a := X.2.2.2.2.2.2.1) hco rfl)
  obtain ⟨methM, cM, hmethM, -, -, -, -, -, -, hsigM⟩ := Cond.code_spec hnamed (C.tb.use (a := X.2.2.2.2.2.2.1) hco rfl)
  have hstatic : methM.isStatic = true := Cond.static_spec hnamed hmethM (C.tb.use (a := X.2.2.2.2.2.2.1) hsta rfl)
  obtain ⟨kP, hkP, -⟩ := className_of_methodNamed hnamed
  have hinitP : kP.init = .initialized := Cond.initialized_spec (findClass_of_methodNamed hnamed) hkP (C.tb.use (a := X.2.2.2.2.2.2.1) hni rfl)
  obtain ⟨vm₁, X₁, hstep₁⟩ := XX.invokestatic C.x C.ow (C.tb.use (a := X.2.2.2.2.2.2.1) hl rfl) hnamed hmethM hstatic hkP hinitP hy (g := F0 X.2.2.2.2.2.1 pc ls st) rfl (argsL := av) (rest := rest) (by
      rw [hsigM] at hlen; exact (Option.some.inj hlen).symm) hst (by rw [C.b]; exact hd)
  exact ⟨vm₁, mk, X₁, X₁.named hnamed, fun target h => hstep₁ _ fun acts => by rw [doInvoke_state]; exact h⟩
end CALL2
