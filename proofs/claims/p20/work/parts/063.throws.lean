/-! EXCEPTIONS: the machine with an exception over a frame; out of a method; a new exception thrown; calls of methods that may throw -/
def aT (G : List Cond × List vw_C) (D : va_G) (z : Nat → ClassId) (A : Nat → Prop) (X : cx) (nL pc : Nat) (lo : List (Option Value)) (rest : List Value) (x : Nat) (L : fw) (nc ns : Nat) : Prop :=
  ∀ (H : Heap) (locs : List Loc) (ls : Array Slot), fw_H D G.2 z L H → fw_D A L → va_S A X.2.2.2.2.1.heap H locs → lo_has ls nL lo →
    ∀ T : State, T.heap = H → Stand X.1 X.2.1 X.2.2.1 X.2.2.2.1 X.2.2.2.2.1 X.2.2.2.2.2.1 X.2.2.2.2.2.2.1 X.2.2.2.2.2.2.2.1 X.2.2.2.2.2.2.2.2.1 X.2.2.2.2.2.2.2.2.2.1 T locs nc ns →
      ∃ t, Steps X.1.tables X.2.2.1 X.2.2.2.2.2.2.2.1 ((T.setTop (F0 X.2.2.2.2.2.1 pc ls rest)).pushFrame (.throwing x)) t ∧ X.2.2.2.2.2.2.2.2.2.2 t
section THROWS
variable {G : List Cond × List vw_C} {D : va_G} {z : Nat → ClassId} {A : Nat → Prop} {X : cx} {nL pc : Nat} {lo : List (Option Value)} {st : List Value} {L L0 Lc Lr : fw} {nc ns : Nat} {own : String} {cc : ByteArray} {ret : Option FieldType}
variable {y : MethodName} {cc' : ByteArray} {nL' : Nat} {ret' : Option FieldType} {fr lc mc ms idx : Nat} {Post : Outcome → fw → Prop} {rest av : List Value} {ig : Instr}
theorem t_out {x : Nat} (C : fcx G D z A X own cc nL ret) (hQ : X.2.2.2.2.2.2.2.2.2.2 = eQ G D z X.2.2.2.2.2.2.2.1 X.2.2.2.2.1 L0 mc ms Post) (hA : A = owA G L0 X.2.2.2.2.1.heap.size) (hno : ∀ x ∈ X.2.2.2.2.2.2.2.2.2.1.exceptionTable.toList, covers x pc = false) (hp : Post (.threw x) L) (hnc : nc ≤ mc + 1) (hns : ns ≤ ms + 6) : aT G D z A X nL pc lo rest x L nc ns := by
  intro H locs ls hH hD hS hl T hT XX
  rw [hQ]
  subst hA
  obtain ⟨h1, h2, h3, h4, h5⟩ := XX.leaveThrown x (g := F0 X.2.2.2.2.2.1 pc ls rest) rfl rfl rfl hno C.lk
  exact ⟨_, h1, .threw x, h2, h3, ⟨L, hp, by rw [show (T.setFrames (.throwing x :: X.2.2.2.2.2.2.2.1)).heap = H from hT]; exact hH, hD⟩, hS.F (show (T.setFrames (.throwing x :: X.2.2.2.2.2.2.2.1)).heap = H from hT), h4, locs, h5.mono hnc hns, hS.2.2⟩
theorem a_callT (C : fcx G D z A X own cc nL ret) (pl rl : List Nat) (hd : decode cc pc = .ok (ig, 3)) (hct : ct G D z X.2.1 y cc' nL' ret' fr lc av Lc mc ms Post) (hco : Cond.code y cc' nL' ret' ∈ G.1) (hni : Cond.initialized y.cls ∈ G.1) (hrest : (rest.map fun v => v.category).sum ≤ 8) (hfr : fr + 1 ≤ X.2.2.2.1.frames) (hlc : 8 + (nL' + 11) + lc ≤ X.2.2.2.1.locals) (hmc : nc + (mc + 1) ≤ X.2.2.2.1.cells) (hms : ns + (ms + 6) ≤ X.2.2.2.1.slots)
    (hC : pl.map (fun i => L[i]?) = Lc.map some) (hR : rl.map (fun i => L[i]?) = Lr.map some) (hnp : pl.Nodup) (hnr : rl.Nodup) (hdis : ∀ i ∈ rl, i ∉ pl)
    (hinv : ∀ (H : Heap) (locs : List Loc) (ls : Array Slot), fw_H D G.2 z L H → ls.size = nL → inv_ok X nc ns H locs (F0 X.2.2.2.2.2.1 pc ls st) rest av y)
    (k : ∀ (o : Outcome) (L' : fw), Post o L' → (∃ v, o = .returned v ∧ aw G D z A X nL (pc + 3) lo (v.toList ++ rest) (Lr ++ L') (nc + mc) (ns + ms)) ∨ ∃ x, o = .threw x ∧ aT G D z A X nL pc lo rest x (Lr ++ L') (nc + (mc + 1)) (ns + (ms + 6))) : aw G D z A X nL pc lo st L nc ns := by
  intro H locs ls hH hD hS hl T hT XX
  obtain ⟨vm₁, mk, X₁, hmk, hst⟩ := hinv H locs ls hH hl.1 T hT XX
  have hWr : X.2.2.2.2.1.WarmedH vm₁ := X₁.warmed
  have hA' : ∀ q, H.size ≤ q → A q := fun q h => C.hA q (Nat.le_trans hS.1 h)
  have hF := owA_sub (G := G) (sz := H.size) hD hC hA'
  obtain ⟨o, s₂, hsteps, hend, hq⟩ := ct_back (g := { (F0 X.2.2.2.2.2.1 pc ls st) with stack := rest }) hct hfr hlc X₁ rfl (hl.1.trans C.ml.symm) (by rw [C.b]; exact hd) (by show 2 * 0 + (rest.map fun v => v.category).sum ≤ 8; omega) hmk ((C.tb.warm hWr).use hco rfl) ((C.tb.warm hWr).use hni rfl) hmc hms (C.tb.warm hWr) (C.kn.moved hWr.alike) (by rw [show (T.setVm vm₁).heap = H from hT]; exact hH.pick hC) (hD.pick hC hnp (fun _ _ => trivial)) (by
      have h8 : sx A X.2.2.2.2.1 H := C.sx.kept (fun a h1 h2 => hS.2.1 a h1 h2)
      rw [show (T.setVm vm₁).heap = H from hT]
      exact (h8.moved hWr.alike).narrow hF)
  obtain ⟨L', hp, hH1, hD1⟩ := hq.1
  have hsz : ((T.setVm vm₁).calling { (F0 X.2.2.2.2.2.1 pc ls st) with stack := rest } mk av.toArray).heap.size = H.size := by rw [← hT]; rfl
  have hheap : ((T.setVm vm₁).calling { (F0 X.2.2.2.2.2.1 pc ls st) with stack := rest } mk av.toArray).heap = H := hT
  obtain ⟨hz, hk⟩ := hq.2.1
  rw [hsz] at hD1
  rw [hheap] at hz hk
  obtain ⟨hHj, hDj⟩ := fw_join hH hD hC hR hnr hdis hk hF hH1 hD1
  rcases k o L' hp with ⟨v, rfl, kk⟩ | ⟨x, rfl, kk⟩
  · obtain ⟨T', Ls', X', e1, e2, hLs, hs₂⟩ := ct_ret X₁ rfl (by rw [C.b]; exact hd) hend hq
    have hS' : va_S A X.2.2.2.2.1.heap s₂.heap (locs ++ Ls') := ⟨Nat.le_trans hS.1 hz, fun q h1 h2 => by
        rw [hk q (Nat.lt_of_lt_of_le h1 hS.1) (fun zq => h2 (hF q zq))]; exact hS.2.1 q h1 h2, fun q hq2 => by
        rcases List.mem_append.mp hq2 with h | h
        · exact hS.2.2 q h
        · exact hF _ (by have := hLs q h; rw [show (T.setVm vm₁).heap.size = H.size from by rw [← hT]; rfl] at this; exact this)⟩
    obtain ⟨t, a1, b1⟩ := kk s₂.heap _ ls hHj hDj hS' hl T' e1 X'
    refine ⟨t, hst t (hsteps.trans ?_), b1⟩
    rw [hs₂]
    exact a1
  · obtain ⟨-, -, hW₂, Ls', hsame, hLs⟩ := hq
    obtain ⟨T', X', -, -, hs₂⟩ := X₁.outOfThrown rfl hend hW₂ hsame
    have e1 : T'.heap = s₂.heap := by rw [hs₂]; exact (Stand.throwing_heap T' _ x).symm
    have hS' : va_S A X.2.2.2.2.1.heap s₂.heap (locs ++ Ls') := ⟨Nat.le_trans hS.1 hz, fun q h1 h2 => by
        rw [hk q (Nat.lt_of_lt_of_le h1 hS.1) (fun zq => h2 (hF q zq))]; exact hS.2.1 q h1 h2, fun q hq2 => by
        rcases List.mem_append.mp hq2 with h | h
        · exact hS.2.2 q h
        · exact hF _ (by have := hLs q h; rw [hsz] at this; exact this)⟩
    obtain ⟨t, a1, b1⟩ := kk s₂.heap _ ls hHj hDj hS' hl T' e1 X'
    refine ⟨t, hst t (hsteps.trans ?_), b1⟩
    rw [hs₂]
    exact a1
theorem c_callT (C : fcx G D z A X own cc nL ret) (hd : decode cc pc = .ok (ig, 3)) (hct : ct G D z X.2.1 y cc' nL' ret' fr lc av L mc ms Post) (hco : Cond.code y cc' nL' ret' ∈ G.1) (hni : Cond.initialized y.cls ∈ G.1) (hrest : (rest.map fun v => v.category).sum ≤ 8) (hfr : fr + 1 ≤ X.2.2.2.1.frames) (hlc : 8 + (nL' + 11) + lc ≤ X.2.2.2.1.locals) (hmc : nc + (mc + 1) ≤ X.2.2.2.1.cells) (hms : ns + (ms + 6) ≤ X.2.2.2.1.slots)
    (hinv : ∀ (H : Heap) (locs : List Loc) (ls : Array Slot), fw_H D G.2 z L H → ls.size = nL → inv_ok X nc ns H locs (F0 X.2.2.2.2.2.1 pc ls st) rest av y)
    (k : ∀ (o : Outcome) (L' : fw), Post o L' → (∃ v, o = .returned v ∧ aw G D z A X nL (pc + 3) lo (v.toList ++ rest) L' (nc + mc) (ns + ms)) ∨ ∃ x, o = .threw x ∧ aT G D z A X nL pc lo rest x L' (nc + (mc + 1)) (ns + (ms + 6))) : aw G D z A X nL pc lo st L nc ns :=
  a_callT (Lr := []) C (List.range L.length) [] hd hct hco hni hrest hfr hlc hmc hms (rg_map L) rfl List.nodup_range List.nodup_nil (fun _ h => by cases h) hinv (fun o L' h => k o L' h)
def ex_bad : List Cond := [.laysStatic "java/lang/Throwable" "UNASSIGNED_STACK" "[Ljava/lang/StackTraceElement;", .laysStatic "java/lang/Throwable" "SUPPRESSED_SENTINEL" "Ljava/util/List;", .isRef (.static "java/lang/Throwable" "UNASSIGNED_STACK" "[Ljava/lang/StackTraceElement;"), .isRef (.static "java/lang/Throwable" "SUPPRESSED_SENTINEL" "Ljava/util/List;")]
theorem ex_bads {A : Nat → Prop} {U : State} (h : sx A U U.heap) {a : Array Value} : ∀ w ∈ ex_bad, w.before a U = true := by
  intro w hw
  simp only [ex_bad, List.mem_cons, List.not_mem_nil, or_false] at hw
  rcases hw with rfl | rfl | rfl | rfl
  · exact h.2.2.1.lays
  · exact h.2.2.2.lays
  · exact h.2.2.1.ref
  · exact h.2.2.2.ref
def ex_nm : List String := ["java/lang/RuntimeException", "java/lang/Exception"]
theorem sbn_kept {s s' : State} {c n : Nat} (h : s.sameButNew s' [] c n) {q : Nat} (hq : q < s.heap.size) : s'.heap[q]? = s.heap[q]? := by
  obtain ⟨c', h1, h2, h3, h4⟩ := h.2.2.2.2.2 q _ (Array.getElem?_eq_getElem hq)
  rw [h1, Array.getElem?_eq_getElem hq]
  have e : c'.slots = (s.heap[q]).slots := by
    apply Array.ext
    · exact h3
    · intro i i1 i2
      have := h4 i (by simp)
      rw [Array.getElem?_eq_getElem i1, Array.getElem?_eq_getElem i2] at this
      exact Option.some.inj this
  rw [h2, e]
theorem a_throw {En tx : String} {ci ic k : Nat} {T0 : u_T} (C : fcx G D z A X own cc nL ret) (hQ : X.2.2.2.2.2.2.2.2.2.2 = eQ G D z X.2.2.2.2.2.2.2.1 X.2.2.2.2.1 L0 mc ms Post) (hA : A = owA G L0 X.2.2.2.2.1.heap.size) (hno : ∀ x ∈ X.2.2.2.2.2.2.2.2.2.1.exceptionTable.toList, False) (hfl : X.2.1.flags = pinnedFlags ++ [noTraceFlag])
    (hd0 : decode cc pc = .ok (.new idx, 3)) (hd3 : decode cc (pc + 3) = .ok (.dup, 1)) (hd4 : decode cc (pc + 3 + 1) = .ok (.ldc k, 2)) (hd6 : decode cc (pc + 3 + 1 + 2) = .ok (.invokespecial ic, 3)) (hd9 : decode cc (pc + 3 + 1 + 2 + 3) = .ok (.athrow, 1))
    (hcl : Cond.classLink own idx En ∈ G.1) (h0 : Nat.blt ci 900 = true) (hci : G.2[ci]? = some (En, T0, 0)) (hstr : Cond.stringRef own k tx ∈ G.1) (hini : Cond.initialized En ∈ G.1) (hins : Cond.instantiable En 6 ∈ G.1) (hfit : Bundle.fit En = true) (hlk : Cond.methodLink own ic (Bundle.initS En) ∈ G.1)
    (hat : ∀ w ∈ Bundle.ownAtoms own ic En ex_nm, w = Cond.methodLink own ic (Bundle.initS En) ∨ (w ∈ G.1 ∧ gw w = true) ∨ w ∈ ex_bad)
    (hst : (st.map fun v => v.category).sum ≤ 8) (hf : 6 ≤ X.2.2.2.1.frames) (hlc : 100 ≤ X.2.2.2.1.locals) (hnc : nc ≤ mc) (hns : ns ≤ ms) (hrc : nc + 1 ≤ X.2.2.2.1.cells) (hrs : ns + 6 ≤ X.2.2.2.1.slots)
    (hp : ∀ q, Post (.threw q) (L ++ [(ci, [], (q, fun _ => 0, fun _ => 0, z_r, z_l))])) : aw G D z A X nL pc lo st L nc ns := by
  intro H locs ls hH hD hS hl T hT XX
  have XR := st_rebase XX (by omega) (by omega)
  have hW : X.2.2.2.2.1.WarmedH (T.setFrames (.invoking X.2.2.2.2.2.1 X.2.2.2.2.2.2.1 :: X.2.2.2.2.2.2.2.1)).vm := XX.warmed
  have htb := C.tb.warm hW
  have hkn := C.kn.moved hW.alike
  have hown : (T.setFrames (.invoking X.2.2.2.2.2.1 X.2.2.2.2.2.2.1 :: X.2.2.2.2.2.2.2.1)).vm.findClass own = some X.2.2.2.2.2.1.cls := by rw [hW.alike.findClass]; exact C.ow
  have hsx : sx A (T.setFrames (.invoking X.2.2.2.2.2.1 X.2.2.2.2.2.2.1 :: X.2.2.2.2.2.2.2.1)) H := (C.sx.kept (fun a h1 h2 => hS.2.1 a h1 h2)).moved hW.alike
  have hKn := hkn.1 ci _ hci
  have htr : X.2.2.1.platform.stackTraces = false := Launch.traces_off hfl XX.admits
  generalize hs' : T.setFrames (.invoking X.2.2.2.2.2.1 X.2.2.2.2.2.2.1 :: X.2.2.2.2.2.2.2.1) = s' at XR hW htb hkn hown hsx hKn
  have hsh : s'.heap = H := by rw [← hs']; exact hT
  obtain ⟨sk, scf, si, sa, -, -, -, -, -, hsa⟩ := Cond.stringRef_spec (args := #[]) hown (htb.use (a := #[]) hstr rfl)
  have key : W X.1 X.2.1 X.2.2.1 { frames := X.2.2.2.1.frames, cells := X.2.2.2.1.cells - nc, slots := X.2.2.2.1.slots - ns, locals := X.2.2.2.1.locals } s' X.2.2.2.2.2.1 X.2.2.2.2.2.2.1 X.2.2.2.2.2.2.2.1 X.2.2.2.2.2.2.2.2.1 X.2.2.2.2.2.2.2.2.2.1 H [] 0 0 X.2.2.2.2.2.2.2.2.2.2 (F0 X.2.2.2.2.2.1 pc ls st) := by
    refine W.newcK C.x C.b hown (htb.use hcl rfl) (htb.use hins rfl) (htb.use hini rfl) rfl hd0 (by show 0 + 1 ≤ _ - _; omega) (by show 0 + 6 ≤ _ - _; omega) hKn.2.1 rfl fun H1 kC hkC e1 z1 o1 => ?_
    refine lv_dup C.x C.b hd3 rfl ?_
    refine va_ldcS C.x C.b hown (vk_R.of (htb.use (a := #[]) hstr rfl) hsa) hd4 ?_
    intro T2 hT2 X2
    have hats : ∀ w ∈ Bundle.ownAtoms own ic En ex_nm, w.before X.2.2.2.2.2.2.1 s' = true := (fun w hw => by
        rcases hat w hw with rfl | ⟨h1, h2⟩ | h1
        · exact htb.use hlk rfl
        · exact htb.use h1 h2
        · exact ex_bads (by rw [hsh]; exact hsx) w h1)
    have hcell : T2.heap[H.size]? = some (freshCell (D.1 ci) kC) := by rw [hT2]; exact e1
    have hnew : s'.heap.size ≤ H.size := by rw [hsh]; exact Nat.le_refl _
    have hd6' : decode X.2.2.2.2.2.2.2.2.2.1.code (pc + 3 + 1 + 2) = .ok (.invokespecial ic, 3) := by rw [C.b]; exact hd6
    have hd9' : decode X.2.2.2.2.2.2.2.2.2.1.code (pc + 3 + 1 + 2 + 3) = .ok (.athrow, 1) := by rw [C.b]; exact hd9
    have hfr9 : ex_nm.length + 3 < X.2.2.2.1.frames := by show 2 + 3 < _; omega
    have hlo9 : 2 * (F0 X.2.2.2.2.2.1 (pc + 3 + 1 + 2) ls (.ref sa :: .ref H.size :: .ref H.size :: st)).monitorRoom + ((Value.ref H.size :: st).map fun v => v.category).sum + (13 * (ex_nm.length + 1) + 42) ≤ X.2.2.2.1.locals := by
      show 2 * 0 + ((1 : Nat) + (st.map fun v => v.category).sum) + (13 * (2 + 1) + 42) ≤ _
      omega
    obtain ⟨U, g1, g2, g3, g4, g5, ce, g6, g7⟩ := X2.ctorThrowS C.x htr (own := own) (cls := En) (names := ex_nm) (ic := ic) (g := F0 X.2.2.2.2.2.1 (pc + 3 + 1 + 2) ls (.ref sa :: .ref H.size :: .ref H.size :: st)) (a := H.size) (msg := .ref sa) (rest := st) hown hfit (by decide) hats (fun x hx => by cases hx) hKn.2.1 hkC hcell hnew rfl rfl (hl.1.trans C.ml.symm) rfl rfl rfl hd6' hd9' (fun x hx => (hno x hx).elim) hfr9 hlo9 C.lk
    refine ⟨U, g1, ?_⟩
    rw [hQ]
    subst hA
    have hkeep : ∀ q : Nat, q < H.size → U.heap[q]? = H[q]? := fun q hq => by
      have := sbn_kept g5 (q := q) (by rw [hsh]; exact hq)
      rw [hsh] at this
      exact this
    have hsz : H.size ≤ U.heap.size := by have := g5.2.1; rw [hsh] at this; exact this
    have hunit : ∀ t, fo_ok ci [] t → t = 0 := by
      intro t ht
      cases t with
      | zero => rfl
      | succ t => exact absurd ht.1 (by show ¬ 2 ≤ 0; omega)
    obtain ⟨hH', hD'⟩ := fw_push (u := (ci, [], (H.size, fun _ => 0, fun _ => 0, z_r, z_l))) hH hD hkeep (fun t ht => by
      cases hunit t ht
      refine ⟨fo_at.i h0 ⟨_, hci, ce, g6, ?_, g7.vm, fun j hj => absurd hj (Nat.not_lt_zero _)⟩, Nat.le_refl _, C.hA _ hS.1⟩
      exact Option.some.inj (g7.cls.symm.trans hKn.2.1)) (fun t t' ht ht' _ => (hunit t ht).trans (hunit t' ht').symm)
    have hsb : T.sameButNew ({ U with vm := T.vm } : State) [] 1 6 := by
      refine ⟨?_, ?_⟩
      · have h9 := g5.1
        rw [← hs', State.setFrames_setFrames] at h9
        exact h9
      · have h9 := g5.2
        rw [hsh, ← hT] at h9
        have hsu : s'.slotsUsed = T.slotsUsed := by rw [← hs']; rfl
        rw [hsu] at h9
        exact h9
    have hall := XX.same.trans (hsb.setVm X.2.2.2.2.1.vm)
    refine ⟨.threw H.size, g2, g3, ⟨_, hp H.size, hH', hD'⟩, ⟨Nat.le_trans hS.1 hsz, fun q h1 h2 => (hkeep q (Nat.lt_of_lt_of_le h1 hS.1)).trans (hS.2.1 q h1 h2)⟩, State.WarmedH.trans hW g4, locs ++ [], State.sameButNew.mono hall (by show nc + 1 ≤ mc + 1; omega) (by show ns + 6 ≤ ms + 6; omega), fun q hq => hS.2.2 q (by simpa using hq)⟩
  exact key T hT XR
end THROWS
