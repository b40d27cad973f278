/-! calls and ends over worlds of units -/
def pC_T (lt : Nat → fl) (U : ut) (oa : Nat → Nat) (T : Nat → cs → Prop) : Outcome → fw → Prop := fun oc L' => ∃ (c a : Nat) (S : cs), T c S ∧ oc = .threw a ∧ L' = cw lt U oa S ++ [(c, [], (a, fun _ => 0, fun _ => 0, z_r, z_l))]
def pC_i (lt : Nat → fl) (U : ut) (oa : Nat → Nat) (K : Int32 → cs → Prop) (T : Nat → cs → Prop) : Outcome → fw → Prop := fun oc L' => (∃ (v : Int32) (S : cs), K v S ∧ oc = .returned (some (.int v)) ∧ L' = cw lt U oa S) ∨ pC_T lt U oa T oc L'
def pC_o (lt : Nat → fl) (U : ut) (oa : Nat → Nat) (K : Nat → cs → Prop) (T : Nat → cs → Prop) : Outcome → fw → Prop := fun oc L' => (∃ (v : Nat) (S : cs), K v S ∧ oc = .returned (some (.ref (oa v))) ∧ L' = cw lt U oa S) ∨ pC_T lt U oa T oc L'
def pC_v (lt : Nat → fl) (U : ut) (oa : Nat → Nat) (K : cs → Prop) (T : Nat → cs → Prop) : Outcome → fw → Prop := fun oc L' => (∃ S : cs, K S ∧ oc = .returned none ∧ L' = cw lt U oa S) ∨ pC_T lt U oa T oc L'
def pS_v (K : Prop) : Outcome → fw → Prop := fun oc L' => K ∧ oc = .returned none ∧ L' = []
theorem pC_no {lt : Nat → fl} {U : ut} {oa : Nat → Nat} {oc : Outcome} {L' : fw} : ¬ pC_T lt U oa (fun _ _ => False) oc L' := by
  rintro ⟨_, _, _, h, _⟩
  exact h
theorem rg_map (L : fw) : (List.range L.length).map (fun i => L[i]?) = L.map some := by
  apply List.ext_getElem?
  intro j
  rw [List.getElem?_map, List.getElem?_map]
  by_cases hl : j < L.length
  · rw [List.getElem?_range hl]
    show some (L[j]?) = Option.map some (L[j]?)
    rw [List.getElem?_eq_getElem hl]
    rfl
  · rw [List.getElem?_eq_none (by simp; omega), List.getElem?_eq_none (by omega)]
    rfl
section CCALL
variable {G : List Cond × List vw_C} {D : va_G} {z : Nat → ClassId} {A : Nat → Prop} {X : cx} {nL pc : Nat} {lo : List (Option Value)} {st : List Value} {L : fw} {nc ns : Nat} {own : String} {cc : ByteArray} {ret : Option FieldType}
variable {y : MethodName} {cc' : ByteArray} {nL' : Nat} {ret' : Option FieldType} {fr lc mc ms idx : Nat} {Post : Outcome → fw → Prop} {rest av : List Value} {ig : Instr}
theorem a_callP {K : Int32 → Prop} (C : fcx G D z A X own cc nL ret) (hd : decode cc pc = .ok (ig, 3)) (hct : ct G D z X.2.1 y cc' nL' ret' fr lc av [] mc ms (pS_i K)) (hco : Cond.code y cc' nL' ret' ∈ G.1) (hni : Cond.initialized y.cls ∈ G.1) (hrest : (rest.map fun v => v.category).sum ≤ 8) (hfr : fr + 1 ≤ X.2.2.2.1.frames) (hlc : 8 + (nL' + 11) + lc ≤ X.2.2.2.1.locals) (hmc : nc + (mc + 1) ≤ X.2.2.2.1.cells) (hms : ns + (ms + 6) ≤ X.2.2.2.1.slots)
    (hinv : ∀ (H : Heap) (locs : List Loc) (ls : Array Slot), fw_H D G.2 z L H → ls.size = nL → inv_ok X nc ns H locs (F0 X.2.2.2.2.2.1 pc ls st) rest av y)
    (k : ∀ v : Int32, K v → aw G D z A X nL (pc + 3) lo (.int v :: rest) L (nc + mc) (ns + ms)) : aw G D z A X nL pc lo st L nc ns :=
  a_call (Lr := L) C [] (List.range L.length) hd hct hco hni hrest hfr hlc hmc hms rfl (rg_map L) List.nodup_nil List.nodup_range (fun _ _ => by simp) hinv (fun o L' h => by
    obtain ⟨v, hk, rfl, rfl⟩ := h
    exact ⟨_, rfl, by rw [List.append_nil]; exact k v hk⟩)
theorem a_callPV {K : Prop} (C : fcx G D z A X own cc nL ret) (hd : decode cc pc = .ok (ig, 3)) (hct : ct G D z X.2.1 y cc' nL' ret' fr lc av [] mc ms (pS_v K)) (hco : Cond.code y cc' nL' ret' ∈ G.1) (hni : Cond.initialized y.cls ∈ G.1) (hrest : (rest.map fun v => v.category).sum ≤ 8) (hfr : fr + 1 ≤ X.2.2.2.1.frames) (hlc : 8 + (nL' + 11) + lc ≤ X.2.2.2.1.locals) (hmc : nc + (mc + 1) ≤ X.2.2.2.1.cells) (hms : ns + (ms + 6) ≤ X.2.2.2.1.slots)
    (hinv : ∀ (H : Heap) (locs : List Loc) (ls : Array Slot), fw_H D G.2 z L H → ls.size = nL → inv_ok X nc ns H locs (F0 X.2.2.2.2.2.1 pc ls st) rest av y)
    (k : K → aw G D z A X nL (pc + 3) lo rest L (nc + mc) (ns + ms)) : aw G D z A X nL pc lo st L nc ns :=
  a_call (Lr := L) C [] (List.range L.length) hd hct hco hni hrest hfr hlc hmc hms rfl (rg_map L) List.nodup_nil List.nodup_range (fun _ _ => by simp) hinv (fun o L' h => by
    obtain ⟨hk, rfl, rfl⟩ := h
    exact ⟨_, rfl, by rw [List.append_nil]; exact k hk⟩)
theorem c_call (C : fcx G D z A X own cc nL ret) (hd : decode cc pc = .ok (ig, 3)) (hct : ct G D z X.2.1 y cc' nL' ret' fr lc av L mc ms Post) (hco : Cond.code y cc' nL' ret' ∈ G.1) (hni : Cond.initialized y.cls ∈ G.1) (hrest : (rest.map fun v => v.category).sum ≤ 8) (hfr : fr + 1 ≤ X.2.2.2.1.frames) (hlc : 8 + (nL' + 11) + lc ≤ X.2.2.2.1.locals) (hmc : nc + (mc + 1) ≤ X.2.2.2.1.cells) (hms : ns + (ms + 6) ≤ X.2.2.2.1.slots)
    (hinv : ∀ (H : Heap) (locs : List Loc) (ls : Array Slot), fw_H D G.2 z L H → ls.size = nL → inv_ok X nc ns H locs (F0 X.2.2.2.2.2.1 pc ls st) rest av y)
    (k : ∀ (o : Outcome) (L' : fw), Post o L' → ∃ v, o = .returned v ∧ aw G D z A X nL (pc + 3) lo (v.toList ++ rest) L' (nc + mc) (ns + ms)) : aw G D z A X nL pc lo st L nc ns :=
  a_call (Lr := []) C (List.range L.length) [] hd hct hco hni hrest hfr hlc hmc hms (rg_map L) rfl List.nodup_range List.nodup_nil (fun _ h => by cases h) hinv (fun o L' h => by
    obtain ⟨v, e, kk⟩ := k o L' h
    exact ⟨v, e, kk⟩)
def i_max (x y : Int32) : Int32 := if x < y then y else x
def i_min (x y : Int32) : Int32 := if y < x then y else x
def i_abs (x : Int32) : Int32 := if 0 ≤ x then x else 0 - x
theorem a_mx (C : fcx G D z A X own cc nL ret) {x y : Int32} (hd : decode cc pc = .ok (.invokestatic idx, 3)) (hl : Cond.methodLink own idx Lib.Math.max.name ∈ G.1) (hst : Cond.static Lib.Math.max.name ∈ G.1) (hni : Cond.initialized "java/lang/Math" ∈ G.1) (hco : Cond.code Lib.Math.max.name Lib.Math.max.code 2 (some .int) ∈ G.1) (hrest : (rest.map fun v => v.category).sum ≤ 8) (hf : 1 ≤ X.2.2.2.1.frames) (hlc : 21 ≤ X.2.2.2.1.locals) (hc : nc ≤ X.2.2.2.1.cells) (hs : ns ≤ X.2.2.2.1.slots)
    (k : aw G D z A X nL (pc + 3) lo (.int (i_max x y) :: rest) L nc ns) : aw G D z A X nL pc lo (.int y :: .int x :: rest) L nc ns :=
  fun H locs ls hH hD hS hlv => va_mmax C.x C.b (hlv.1.trans C.ml.symm).symm C.ow (C.tb.use hl rfl) (C.tb.use hst rfl) (C.tb.use hni rfl) (C.tb.use hco rfl) hf (by omega) hc hs hd (k H locs ls hH hD hS hlv)
theorem a_mn (C : fcx G D z A X own cc nL ret) {x y : Int32} (hd : decode cc pc = .ok (.invokestatic idx, 3)) (hl : Cond.methodLink own idx Lib.Math.min.name ∈ G.1) (hst : Cond.static Lib.Math.min.name ∈ G.1) (hni : Cond.initialized "java/lang/Math" ∈ G.1) (hco : Cond.code Lib.Math.min.name Lib.Math.min.code 2 (some .int) ∈ G.1) (hrest : (rest.map fun v => v.category).sum ≤ 8) (hf : 1 ≤ X.2.2.2.1.frames) (hlc : 21 ≤ X.2.2.2.1.locals) (hc : nc ≤ X.2.2.2.1.cells) (hs : ns ≤ X.2.2.2.1.slots)
    (k : aw G D z A X nL (pc + 3) lo (.int (i_min x y) :: rest) L nc ns) : aw G D z A X nL pc lo (.int y :: .int x :: rest) L nc ns :=
  fun H locs ls hH hD hS hlv => va_mmin C.x C.b (hlv.1.trans C.ml.symm).symm C.ow (C.tb.use hl rfl) (C.tb.use hst rfl) (C.tb.use hni rfl) (C.tb.use hco rfl) hf (by omega) hc hs hd (k H locs ls hH hD hS hlv)
theorem a_ab (C : fcx G D z A X own cc nL ret) {x : Int32} (hd : decode cc pc = .ok (.invokestatic idx, 3)) (hl : Cond.methodLink own idx Lib.Math.abs.name ∈ G.1) (hst : Cond.static Lib.Math.abs.name ∈ G.1) (hni : Cond.initialized "java/lang/Math" ∈ G.1) (hco : Cond.code Lib.Math.abs.name Lib.Math.abs.code 1 (some .int) ∈ G.1) (hrest : (rest.map fun v => v.category).sum ≤ 8) (hf : 1 ≤ X.2.2.2.1.frames) (hlc : 21 ≤ X.2.2.2.1.locals) (hc : nc ≤ X.2.2.2.1.cells) (hs : ns ≤ X.2.2.2.1.slots)
    (k : aw G D z A X nL (pc + 3) lo (.int (i_abs x) :: rest) L nc ns) : aw G D z A X nL pc lo (.int x :: rest) L nc ns :=
  fun H locs ls hH hD hS hlv => va_mabs C.x C.b (hlv.1.trans C.ml.symm).symm C.ow (C.tb.use hl rfl) (C.tb.use hst rfl) (C.tb.use hni rfl) (C.tb.use hco rfl) hf (by omega) hc hs hd (k H locs ls hH hD hS hlv)
theorem a_alenL {ci o : Nat} {ly : fl} {ad : Nat → Nat} {g : Nat → Int32} {r : Nat → Nat → Int32} {h : Nat → Nat → Int64} (C : fcx G D z A X own cc nL ret) (i k : Nat) {n : Nat} (hd : decode cc pc = .ok (.arraylength, 1)) (hi : L[i]? = some (ci, ly, (o, ad, g, r, h))) (hkd : fo_kd ly k = 4) (hn : fo_ln ly k = n)
    (kk : aw G D z A X nL (pc + 1) lo (.int (nI n) :: st) L nc ns) : aw G D z A X nL pc lo (.ref (ad k) :: st) L nc ns := by
  intro H locs ls hH hD hS hl
  have hcell := hH i _ (k + 1) hi ⟨by simp only; omega, by simp only; omega⟩
  have hcell : H[ad k]? = some (vp_cell (z 4) (n, .inr (.inl (h k)))) := by
    have h9 : H[ad k]? = some (vp_cell (z (fo_kd ly k)) (fo_x ly (o, ad, g, r, h) k)) := hcell
    rw [h9, fo_x, hkd, hn]; rfl
  exact W.alen (n := nI n) C.x C.b hcell ((C.kn.2 2 _ rfl).1 n (fun q => .long (h k q))) (by show ((arrV _ _ _).slots.size).toInt32 = _; rw [arrV_size]; rfl) rfl rfl hd (kk H locs ls hH hD hS hl)
theorem c_alenL {lt : Nat → fl} {U : ut} {oa : Nat → Nat} {S : cs} (C : fcx G D z A X own cc nL ret) (u : Nat) (hd : decode cc pc = .ok (.arraylength, 1)) (hu : c_cl U u = 904)
    (kk : aw G D z A X nL (pc + 1) lo (.int (nI (c_ln U u)) :: st) (cw lt U oa S) nc ns) : aw G D z A X nL pc lo (.ref (oa u) :: st) (cw lt U oa S) nc ns := a_alenL C u 0 hd (cw_row (kd := 4) hu (by decide)) rfl rfl kk
end CCALL
