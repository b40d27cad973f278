/-! MAKING UNITS: objects, rows of numbers, rows of objects; constructors are called -/
def pC_n (lt : Nat → fl) (U ext : ut) (oa : Nat → Nat) (K : cs → Prop) : Outcome → fw → Prop := fun oc L' => ∃ (oa' : Nat → Nat) (S : cs), K S ∧ (∀ v, v < U.length → oa' v = oa v) ∧ oc = .returned none ∧ L' = cw lt (U ++ ext) oa' S
def fresh (S : cs) (n : Nat) : Prop := (∀ u k, ¬ S.2.2 u k = n) ∧ (∀ k, S.1 n k = 0) ∧ (∀ k, S.2.1 n k = 0) ∧ ∀ k, S.2.2 n k = NU
section CNL
variable {lt : Nat → fl} {U V : ut} {oa : Nat → Nat} {S : cs} {u n q ci : Nat}
theorem c_cl_app (h : u < U.length) : c_cl (U ++ V) u = c_cl U u := by
  unfold c_cl
  rw [List.getD_eq_getElem?_getD, List.getD_eq_getElem?_getD, List.getElem?_append_left h]
theorem c_ln_app (h : u < U.length) : c_ln (U ++ V) u = c_ln U u := by
  unfold c_ln
  rw [List.getD_eq_getElem?_getD, List.getD_eq_getElem?_getD, List.getElem?_append_left h]
theorem c_clA (h : c_cl U u = ci) (hn : ¬ ci = 999) : c_cl (U ++ V) u = ci := (c_cl_app (c_lt h hn)).trans h
theorem c_clN {c : Nat × Nat} (hn : U.length = n) : c_cl (U ++ [c]) n = c.1 := by
  subst hn
  unfold c_cl
  rw [List.getD_eq_getElem?_getD, List.getElem?_append_right (Nat.le_refl _)]
  simp
theorem c_lnN {c : Nat × Nat} (hn : U.length = n) : c_ln (U ++ [c]) n = c.2 := by
  subst hn
  unfold c_ln
  rw [List.getD_eq_getElem?_getD, List.getElem?_append_right (Nat.le_refl _)]
  simp
theorem c_uA (hn : U.length = n) (hf : fresh S n) (hu : u < n) : c_u lt (U ++ V) (va_up oa n q) S u = c_u lt U oa S u := by
  have h1 : va_up oa n q u = oa u := up_ne (Nat.ne_of_lt hu)
  have h2 : (fun k => va_up oa n q (S.2.2 u k)) = fun k => oa (S.2.2 u k) := funext fun k => up_ne (hf.1 u k)
  unfold c_u
  rw [c_cl_app (by omega), c_ln_app (by omega), h1, h2]
theorem cw_push {c : Nat × Nat} {x : Nat × fl × fo} (hn : U.length = n) (hf : fresh S n) (hx : c_u lt (U ++ [c]) (va_up oa n q) S n = x) : cw lt U oa S ++ [x] = cw lt (U ++ [c]) (va_up oa n q) S := by
  unfold cw
  rw [List.length_append, List.length_singleton, List.range_succ, List.map_append, List.map_singleton, hn, hx]
  congr 1
  refine List.map_congr_left fun u hu => ?_
  exact (c_uA hn hf (List.mem_range.mp hu)).symm
theorem lt_all {ly : fl} (h : ly.all (fun x => Nat.ble x.1 1 || Nat.beq x.1 5) = true) (t : Nat) : fo_kd ly t ≤ 1 ∨ fo_kd ly t = 5 := by
  unfold fo_kd
  rw [List.getD_eq_getElem?_getD]
  cases hx : ly[t]? with
  | none => simp
  | some x =>
    have h1 := List.all_eq_true.mp h x (List.mem_of_getElem? hx)
    simp only [Option.getD_some]
    rcases (Bool.or_eq_true _ _).mp h1 with h2 | h2
    · exact Or.inl (Nat.le_of_ble_eq_true h2)
    · exact Or.inr (Nat.eq_of_beq_eq_true h2)
end CNL
section CNR
variable {G : List Cond × List vw_C} {D : va_G} {z : Nat → ClassId} {A : Nat → Prop} {X : cx} {nL pc : Nat} {lo : List (Option Value)} {st : List Value} {L : fw} {nc ns : Nat} {own : String} {cc : ByteArray} {ret : Option FieldType}
variable {lt : Nat → fl} {U : ut} {oa : Nat → Nat} {S : cs} {ci n : Nat} {C0 : String} {T : u_T} {N idx : Nat}
theorem a_new2 (C : fcx G D z A X own cc nL ret) (ly0 : fl) (ad0 : Nat → Nat → Nat) (g0 : Nat → Int32) (ty : Nat → FieldType) (hty : ∀ k, k < N → parseFieldDescriptor (T k).2.2.1 = some (ty k)) (hd : decode cc pc = .ok (.new idx, 3)) (h0 : Nat.blt ci 900 = true) (hc : G.2[ci]? = some (C0, T, N)) (hcl : Cond.classLink own idx C0 ∈ G.1) (hins : Cond.instantiable C0 N ∈ G.1) (hini : Cond.initialized C0 ∈ G.1) (hfs : ∀ q j, j < N → defaultValue (ty j) = fo_v ly0 (q, ad0 q, g0, z_r, z_l) j) (hk0 : ∀ t, ¬ (2 ≤ fo_kd ly0 t ∧ fo_kd ly0 t ≤ 4)) (hcells : nc + 1 ≤ X.2.2.2.1.cells) (hslots : ns + N ≤ X.2.2.2.1.slots)
    (kk : ∀ q : Nat, aw G D z A X nL (pc + 3) lo (.ref q :: st) (L ++ [(ci, ly0, (q, ad0 q, g0, z_r, z_l))]) (nc + 1) (ns + N)) : aw G D z A X nL pc lo st L nc ns := by
  intro H locs ls hH hD hS hl
  have hKn := C.kn.1 ci _ hc
  refine W.newcK C.x C.b C.ow (C.tb.use hcl rfl) (C.tb.use hins rfl) (C.tb.use hini rfl) rfl hd hcells hslots hKn.2.1 rfl fun H1 kC hkC e1 z1 o1 => ?_
  have hu : ∀ t, fo_ok ci ly0 t → t = 0 := by
    intro t ht
    cases t with
    | zero => rfl
    | succ t => exact absurd ht (hk0 t)
  obtain ⟨hH', hD'⟩ := fw_push (u := (ci, ly0, (H.size, ad0 H.size, g0, z_r, z_l))) hH hD o1 (fun t ht => by
      cases hu t ht
      exact ⟨fo_at.i h0 ⟨_, hc, (u_born ty (C.tb.lays C.gk hc X.2.2.2.2.2.2.1) (fun _ hw => hw) hKn hkC e1 hty).to (fun j hj => hfs _ j hj)⟩, Nat.le_refl _, C.hA _ hS.1⟩) (fun t t' ht ht' _ => (hu t ht).trans (hu t' ht').symm)
  exact kk H.size H1 locs ls hH' hD' ⟨Nat.le_trans hS.1 (by omega), fun x h1 h2 => (o1 x (Nat.lt_of_lt_of_le h1 hS.1)).trans (hS.2.1 x h1 h2), hS.2.2⟩ hl
theorem c_new (C : fcx G D z A X own cc nL ret) (ty : Nat → FieldType) (hty : ∀ k, k < N → parseFieldDescriptor (T k).2.2.1 = some (ty k)) (hd : decode cc pc = .ok (.new idx, 3)) (h0 : Nat.blt ci 900 = true) (hc : G.2[ci]? = some (C0, T, N)) (hcl : Cond.classLink own idx C0 ∈ G.1) (hins : Cond.instantiable C0 N ∈ G.1) (hini : Cond.initialized C0 ∈ G.1) (hdf : ∀ j, j < N → (fo_kd (lt ci) j ≤ 1 ∧ defaultValue (ty j) = .int 0) ∨ (fo_kd (lt ci) j = 5 ∧ defaultValue (ty j) = .null)) (hk0 : (lt ci).all (fun x => Nat.ble x.1 1 || Nat.beq x.1 5) = true) (hn : U.length = n) (hf : fresh S n) (hcells : nc + 1 ≤ X.2.2.2.1.cells) (hslots : ns + N ≤ X.2.2.2.1.slots)
    (kk : ∀ q : Nat, aw G D z A X nL (pc + 3) lo (.ref q :: st) (cw lt (U ++ [(ci, 0)]) (va_up oa n q) S) (nc + 1) (ns + N)) : aw G D z A X nL pc lo st (cw lt U oa S) nc ns := by
  refine a_new2 C (lx (lt ci) (S.2.2 n)) (fun q k => va_up oa n q (S.2.2 n k)) (S.1 n) ty hty hd h0 hc hcl hins hini (fun q j hj => ?_) (fun t => ?_) hcells hslots (fun q => ?_)
  · unfold fo_v
    rw [lx_kd]
    rcases hdf j hj with ⟨h1, h2⟩ | ⟨h1, h2⟩
    · rw [if_neg (show ¬ (fo_kd (lt ci) j = 5 ∧ S.2.2 n j = NU) by omega), if_pos h1, h2]
      show Value.int 0 = Value.int (S.1 n j)
      rw [hf.2.1]
    · have e6 : (if fo_kd (lt ci) j = 5 ∧ S.2.2 n j = NU then 6 else fo_kd (lt ci) j) = 6 := if_pos ⟨h1, hf.2.2.2 j⟩
      rw [e6, h2]
      rfl
  · rw [lx_kd]
    rcases lt_all hk0 t with h1 | h1
    · rw [if_neg (show ¬ (fo_kd (lt ci) t = 5 ∧ S.2.2 n t = NU) by omega)]; omega
    · split <;> omega
  · rw [cw_push (c := (ci, 0)) (q := q) hn hf (x := (ci, lx (lt ci) (S.2.2 n), (q, fun k => va_up oa n q (S.2.2 n k), S.1 n, z_r, z_l))) (by
      rw [c_u, c_clN hn, if_pos h0, up_at])]
    exact kk q
theorem c_newa (C : fcx G D z A X own cc nL ret) {atype : ArrayType} {ty : FieldType} (kd : Nat) {N : Nat} {m : Int32} (hd : decode cc pc = .ok (.newarray atype, 2)) (harr : Cond.arrayClass ty ∈ G.1) (hty : newarray.typeOf atype = ty) (hz : X.2.2.2.2.1.vm.findClass ("[" ++ ty.toString) = some (z kd)) (hcell : ∀ cA, arrV cA N (fun _ => defaultValue ty) = vp_cell cA (fo_x [(kd, N)] (0, fun _ => 0, fun _ => 0, fun _ _ => 0, fun _ _ => 0) 0))
    (hm : ¬ m < 0) (hN : m.toNatClampNeg = N) (hb : N * componentBytes ty ≤ 536870912) (hk : kd < 50) (hn : U.length = n) (hf : fresh S n) (hc : nc + 1 ≤ X.2.2.2.1.cells) (hs : ns + N ≤ X.2.2.2.1.slots)
    (kk : ∀ q : Nat, aw G D z A X nL (pc + 2) lo (.ref q :: st) (cw lt (U ++ [(900 + kd, N)]) (va_up oa n q) S) (nc + 1) (ns + N)) : aw G D z A X nL pc lo (.int m :: st) (cw lt U oa S) nc ns := by
  refine a_newa C kd hd harr hty hz hcell hm hN hb hc hs (fun q => ?_)
  rw [cw_push (c := (900 + kd, N)) (q := q) hn hf (x := fz kd N q) (by
    have e1 : va_up z_r 0 (S.1 n) = fun _ _ => 0 := by
      funext a b
      unfold va_up
      split
      · exact hf.2.1 b
      · rfl
    have e2 : va_up z_l 0 (S.2.1 n) = fun _ _ => 0 := by
      funext a b
      unfold va_up
      split
      · exact hf.2.2.1 b
      · rfl
    rw [c_u, c_clN hn, c_lnN hn, if_neg (by intro x; have := Nat.le_of_ble_eq_true x; simp only at this; omega), if_neg (by intro x; have := Nat.le_of_ble_eq_true x; simp only at this; omega), up_at, e1, e2]
    show (900, [(900 + kd - 900, N)], _) = _
    rw [show 900 + kd - 900 = kd by omega])]
  exact kk q
theorem c_anew (C : fcx G D z A X own cc nL ret) (t0 : Nat) {E : String} {N : Nat} {m : Int32} (hd : decode cc pc = .ok (.anewarray idx, 3)) (hcl : Cond.classLink own idx E ∈ G.1) (hov : Cond.arrayOver (.object E) ∈ G.1) (h9 : Nat.ble 950 ci = true) (hz : (zx z)[t0]? = some (z ci, .object E)) (hm : ¬ m < 0) (hN : m.toNatClampNeg = N) (hb : N * 4 ≤ 536870912) (hn : U.length = n) (hf : fresh S n) (hc : nc + 1 ≤ X.2.2.2.1.cells) (hs : ns + N ≤ X.2.2.2.1.slots)
    (kk : ∀ q : Nat, aw G D z A X nL (pc + 3) lo (.ref q :: st) (cw lt (U ++ [(ci, N)]) (va_up oa n q) S) (nc + 1) (ns + N)) : aw G D z A X nL pc lo (.int m :: st) (cw lt U oa S) nc ns := by
  intro H locs ls hH hD hS hl
  subst hN
  have ht : ([(z 2, .int), (z 3, .boolean), (z 4, .long)] ++ zx z : List (ClassId × FieldType))[3 + t0]? = some (z ci, .object E) := by
    rw [List.getElem?_append_right (by show 3 ≤ 3 + t0; omega)]
    show (zx z)[3 + t0 - 3]? = _
    rw [show 3 + t0 - 3 = t0 by omega]
    exact hz
  have hRA := (C.kn.2 (3 + t0) _ ht).2
  refine W.anew C.x C.b C.ow (C.tb.use hcl rfl) (C.tb.use hov rfl) rfl hd rfl hm hb hc hs fun cA kA comp f1 f2 f3 f4 => ?_
  have hcA : cA = z ci := by
    obtain ⟨kA', comp', k1, k2, k3, k4⟩ := hRA
    exact Option.some.inj (f1.symm.trans k4)
  subst hcA
  generalize hH1 : H.push ({ cls := z ci, slots := Array.replicate m.toNatClampNeg .null, vm := .none } : Cell) = H1
  have z1 : H1.size = H.size + 1 := by rw [← hH1, Array.size_push]
  have e1 : H1[H.size]? = some (arrV (z ci) m.toNatClampNeg (fun _ => .null)) := by rw [← hH1, Array.getElem?_push_size, ← arrV_new]
  have o1 : ∀ q : Nat, q < H.size → H1[q]? = H[q]? := fun q hq => by rw [← hH1, Array.getElem?_push, if_neg (Nat.ne_of_lt hq)]
  have hb9 : ¬ Nat.blt ci 900 = true := by
    have := Nat.le_of_ble_eq_true h9
    intro x
    have := Nat.le_of_ble_eq_true x
    omega
  have hx : c_u lt (U ++ [(ci, m.toNatClampNeg)]) (va_up oa n H.size) S n = (ci, [(5, m.toNatClampNeg)], (H.size, fun k => va_up oa n H.size (S.2.2 n k), fun j => if S.2.2 n j = NU then 0 else 1, z_r, z_l)) := by
    rw [c_u, c_clN hn, c_lnN hn, if_neg hb9, if_pos h9, up_at]
  have hu : ∀ t, fo_ok ci [(5, m.toNatClampNeg)] t → t = 0 := by
    intro t ht
    match t, ht with
    | 0, _ => rfl
    | 1, ht =>
      have h8 : fo_kd [(5, m.toNatClampNeg)] 0 ≤ 4 := ht.2
      exact absurd h8 (by show ¬ 5 ≤ 4; omega)
    | t + 2, ht =>
      have h8 : 2 ≤ fo_kd [(5, m.toNatClampNeg)] (t + 1) := ht.1
      exact absurd h8 (by show ¬ 2 ≤ 0; omega)
  have hP := fw_push (u := (ci, [(5, m.toNatClampNeg)], (H.size, fun k => va_up oa n H.size (S.2.2 n k), fun j => if S.2.2 n j = NU then 0 else 1, z_r, z_l))) hH hD o1 (fun t ht => by
      cases hu t ht
      refine ⟨fo_at.r h9 ?_, Nat.le_refl _, C.hA _ hS.1⟩
      show H1[H.size]? = some (vp_cell (z ci) (m.toNatClampNeg, .inr (.inr (.inr (.inr (fun j => if (if S.2.2 n j = NU then (0 : Int32) else 1) = 0 then none else some (va_up oa n H.size (S.2.2 n j))))))))
      rw [e1]
      congr 1
      rw [vp_cell_q]
      congr 1
      funext j
      rw [hf.2.2.2 j]
      rfl) (fun t t' ht ht' _ => (hu t ht).trans (hu t' ht').symm)
  rw [cw_push hn hf hx] at hP
  exact kk H.size H1 locs ls hP.1 hP.2 ⟨Nat.le_trans hS.1 (by omega), fun x h1 h2 => (o1 x (Nat.lt_of_lt_of_le h1 hS.1)).trans (hS.2.1 x h1 h2), hS.2.2⟩ hl
end CNR
section INVI
variable {G : List Cond × List vw_C} {D : va_G} {z : Nat → ClassId} {A : Nat → Prop} {X : cx} {nL pc : Nat} {lo : List (Option Value)} {st : List Value} {L : fw} {nc ns : Nat} {own : String} {cc : ByteArray} {ret : Option FieldType}
variable {y : MethodName} {cc' : ByteArray} {nL' idx : Nat} {rest : List Value}
theorem inv_I (C : fcx G D z A X own cc nL ret) {As : List Value} {b : Nat} (hd : decode cc pc = .ok (.invokespecial idx, 3)) (hl : Cond.methodLink own idx y ∈ G.1) (hy1 : y.name = "<init>") (hin : Cond.instanceMethod y ∈ G.1) (hco : Cond.code y cc' nL' none ∈ G.1) (hy : y.cls ≠ "java/lang/invoke/MethodHandle" ∧ y.cls ≠ "java/lang/invoke/VarHandle") (hlen : (parseMethodDescriptor y.desc).map (fun d => d.parameters.length) = some As.length)
    (hst : st = As.reverse ++ .ref b :: rest) :
    ∀ (H : Heap) (locs : List Loc) (ls : Array Slot), fw_H D G.2 z L H → ls.size = nL → inv_ok X nc ns H locs (F0 X.2.2.2.2.2.1 pc ls st) rest (.ref b :: As) y := by
  intro H locs ls hH hls T hT XX
  have hpl : X.2.2.1.platform.magicAccessors = ({} : Platform).magicAccessors := by rw [XX.admits.platform]
  obtain ⟨mk, methM, cM, kP, vm₁, hnamed, hmethM, hcodeM, -, hlocalsM, -, hkP, -, hW₁, hstep₁⟩ := Steps.initColdArgs (e := X.2.2.1) XX.here C.x XX.warmed hpl C.ow hy1 hy (C.tb.use (a := X.2.2.2.2.2.2.1) hl rfl) (C.tb.use hin rfl) (C.tb.use hco rfl) (f := F0 X.2.2.2.2.2.1 pc ls st) rfl (argsL := As) (a := b) (rest := rest) (fun sig hs => by
    rw [hs] at hlen
    exact (Option.some.inj hlen).symm) hst (by rw [C.b]; exact hd)
  have X₁ := XX.noted hW₁
  exact ⟨vm₁, mk, X₁, X₁.named hnamed, fun target h => hstep₁ _ fun acts => by rw [doInvoke_state]; exact h⟩
theorem inv_IN {host : String} (C : fcx G D z A X own cc nL ret) {As : List Value} {b : Nat} (hd : decode cc pc = .ok (.invokespecial idx, 3)) (hl : Cond.methodLinkNest own idx y host ∈ G.1) (hy1 : y.name = "<init>") (hin : Cond.instanceMethod y ∈ G.1) (hco : Cond.code y cc' nL' none ∈ G.1) (hy : y.cls ≠ "java/lang/invoke/MethodHandle" ∧ y.cls ≠ "java/lang/invoke/VarHandle") (hlen : (parseMethodDescriptor y.desc).map (fun d => d.parameters.length) = some As.length)
    (hst : st = As.reverse ++ .ref b :: rest) :
    ∀ (H : Heap) (locs : List Loc) (ls : Array Slot), fw_H D G.2 z L H → ls.size = nL → inv_ok X nc ns H locs (F0 X.2.2.2.2.2.1 pc ls st) rest (.ref b :: As) y := by
  intro H locs ls hH hls T hT XX
  have hpl : X.2.2.1.platform.magicAccessors = ({} : Platform).magicAccessors := by rw [XX.admits.platform]
  obtain ⟨mk, methM, cM, kP, vm₁, hnamed, hmethM, hcodeM, -, hlocalsM, -, hkP, -, hW₁, hstep₁⟩ := Steps.initColdArgsNest (e := X.2.2.1) XX.here C.x XX.warmed hpl C.ow hy1 hy (C.tb.use (a := X.2.2.2.2.2.2.1) hl rfl) (C.tb.use hin rfl) (C.tb.use hco rfl) (f := F0 X.2.2.2.2.2.1 pc ls st) rfl (argsL := As) (a := b) (rest := rest) (fun sig hs => by
    rw [hs] at hlen
    exact (Option.some.inj hlen).symm) hst (by rw [C.b]; exact hd)
  have X₁ := XX.noted hW₁
  exact ⟨vm₁, mk, X₁, X₁.named hnamed, fun target h => hstep₁ _ fun acts => by rw [doInvoke_state]; exact h⟩
end INVI
