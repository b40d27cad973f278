/-! THE LAW: the reference's object stands in front of the class's units; the script lies outside of all worlds -/
def mu (o : Nat) (ad : Nat → Nat) (M : ms) : Nat × fl × fo := (0, ly_M, (o, ad, M.1, M.2.1, M.2.2))
def lW (U : ut) (oa : Nat → Nat) (S : cs) (o : Nat) (ad : Nat → Nat) (M : ms) : fw := mu o ad M :: cw lt_C U oa S
def pS (n : Nat) : List Nat := (List.range n).map (fun i => i + 1)
theorem pS_map (a : Nat × fl × fo) (L : fw) : (pS L.length).map (fun i => (a :: L)[i]?) = L.map some := by
  unfold pS
  rw [List.map_map]
  have e : ((fun i => (a :: L)[i]?) ∘ fun i => i + 1) = fun i => L[i]? := rfl
  rw [e]
  exact rg_map L
theorem pS_nd (n : Nat) : (pS n).Nodup := List.pairwise_map.mpr (List.Pairwise.imp (fun h e => h (Nat.succ.inj e)) (List.nodup_range (n := n)))
theorem pS_0 {n i : Nat} (h : i ∈ [0]) : i ∉ pS n := by
  intro hp
  obtain ⟨k, -, e⟩ := List.mem_map.mp hp
  rw [List.mem_singleton.mp h] at e
  cases e
theorem pS_1 {n i : Nat} (h : i ∈ pS n) : i ∉ [0] := fun h0 => pS_0 h0 h
theorem lW_C (U : ut) (oa : Nat → Nat) (S : cs) (o : Nat) (ad : Nat → Nat) (M : ms) : (pS U.length).map (fun i => (lW U oa S o ad M)[i]?) = (cw lt_C U oa S).map some := by
  have h := pS_map (mu o ad M) (cw lt_C U oa S)
  rw [cw_len] at h
  exact h
theorem lW_back (U : ut) (oa : Nat → Nat) (S : cs) (o : Nat) (ad : Nat → Nat) (M : ms) : (U.length :: List.range U.length).map (fun i => (cw lt_C U oa S ++ [mu o ad M])[i]?) = (lW U oa S o ad M).map some := by
  rw [List.map_cons]
  show _ = some (mu o ad M) :: (cw lt_C U oa S).map some
  congr 1
  · rw [List.getElem?_append_right (by rw [cw_len]; exact Nat.le_refl _), cw_len, Nat.sub_self]
    rfl
  · have h := rg_map (cw lt_C U oa S)
    rw [cw_len] at h
    rw [← h]
    refine List.map_congr_left fun i hi => ?_
    rw [List.getElem?_append_left (by rw [cw_len]; exact List.mem_range.mp hi)]
theorem lW_bnd (n : Nat) : (n :: List.range n).Nodup := List.nodup_cons.mpr ⟨fun h => Nat.lt_irrefl _ (List.mem_range.mp h), List.nodup_range⟩
section LAWB
variable {D : va_G} {z : Nat → ClassId} {A : Nat → Prop} {X : cx} {nL pc : Nat} {lo : List (Option Value)} {st : List Value} {nc ns : Nat} {own : String} {cc : ByteArray} {ret0 : Option FieldType}
variable {y : MethodName} {cc' : ByteArray} {nL' : Nat} {ret' : Option FieldType} {hh : List (Nat × Nat × Nat × Nat)} {fr lc idx : Nat} {rest av : List Value} {ig : Instr}
variable {U : ut} {oa : Nat → Nat} {S : cs} {o : Nat} {ad : Nat → Nat} {M : ms} {L L' : fw}
theorem aw_pick (pl : List Nat) (h : pl.map (fun i => L[i]?) = L'.map some) (hn : pl.Nodup) (k : aw gG D z A X nL pc lo st L' nc ns) : aw gG D z A X nL pc lo st L nc ns :=
  fun H locs ls hH hD hS hl => k H locs ls (hH.pick h) (hD.pick h hn (fun _ x => x)) hS hl
theorem l_callW {K : Int32 → cs → Prop} (C : fcx gG D z A X own cc nL ret0) (hd : decode cc pc = .ok (ig, 3)) (hct : ctW gG D z X.2.1 y cc' nL' ret' hh fr lc av (cw lt_C U oa S) 1 6 (pC_i lt_C U oa K (fun _ _ => False))) (hco : Cond.codeWith y cc' nL' ret' hh ∈ gG.1) (hni : Cond.initialized y.cls ∈ gG.1) (hrest : (rest.map fun v => v.category).sum ≤ 8) (hfr : fr + 1 ≤ X.2.2.2.1.frames) (hlc : 8 + (nL' + 11) + lc ≤ X.2.2.2.1.locals) (hmc : nc + 2 ≤ X.2.2.2.1.cells) (hms : ns + 12 ≤ X.2.2.2.1.slots)
    (hinv : ∀ (H : Heap) (locs : List Loc) (ls : Array Slot), fw_H D gG.2 z (lW U oa S o ad M) H → ls.size = nL → inv_ok X nc ns H locs (F0 X.2.2.2.2.2.1 pc ls st) rest av y)
    (k : ∀ (v : Int32) (S' : cs), K v S' → aw gG D z A X nL (pc + 3) lo (.int v :: rest) (lW U oa S' o ad M) (nc + 1) (ns + 6)) : aw gG D z A X nL pc lo st (lW U oa S o ad M) nc ns :=
  a_callTW (Lr := [mu o ad M]) C (pS U.length) [0] hd hct hco hni hrest hfr hlc hmc hms (lW_C U oa S o ad M) rfl (pS_nd _) (List.pairwise_singleton _ _) (fun i h => pS_0 h) hinv (fun o' L' h => by
    rcases h with ⟨v, S', hk, rfl, rfl⟩ | h
    · exact Or.inl ⟨_, rfl, k v S' hk⟩
    · exact (pC_no h).elim)
theorem l_callC {K : Int32 → cs → Prop} (C : fcx gG D z A X own cc nL ret0) (hd : decode cc pc = .ok (ig, 3)) (hct : ct gG D z X.2.1 y cc' nL' ret' fr lc av (cw lt_C U oa S) 0 0 (pC_i lt_C U oa K (fun _ _ => False))) (hco : Cond.code y cc' nL' ret' ∈ gG.1) (hni : Cond.initialized y.cls ∈ gG.1) (hrest : (rest.map fun v => v.category).sum ≤ 8) (hfr : fr + 1 ≤ X.2.2.2.1.frames) (hlc : 8 + (nL' + 11) + lc ≤ X.2.2.2.1.locals) (hmc : nc + 1 ≤ X.2.2.2.1.cells) (hms : ns + 6 ≤ X.2.2.2.1.slots)
    (hinv : ∀ (H : Heap) (locs : List Loc) (ls : Array Slot), fw_H D gG.2 z (lW U oa S o ad M) H → ls.size = nL → inv_ok X nc ns H locs (F0 X.2.2.2.2.2.1 pc ls st) rest av y)
    (k : ∀ (v : Int32) (S' : cs), K v S' → aw gG D z A X nL (pc + 3) lo (.int v :: rest) (lW U oa S' o ad M) nc ns) : aw gG D z A X nL pc lo st (lW U oa S o ad M) nc ns :=
  a_call (Lr := [mu o ad M]) C (pS U.length) [0] hd hct hco hni hrest hfr hlc hmc hms (lW_C U oa S o ad M) rfl (pS_nd _) (List.pairwise_singleton _ _) (fun i h => pS_0 h) hinv (fun o' L' h => by
    rcases h with ⟨v, S', hk, rfl, rfl⟩ | h
    · exact ⟨_, rfl, k v S' hk⟩
    · exact (pC_no h).elim)
theorem l_callMi {K : Int32 → ms → Prop} (C : fcx gG D z A X own cc nL ret0) (hd : decode cc pc = .ok (ig, 3)) (hct : ct gG D z X.2.1 y cc' nL' ret' fr lc av [mu o ad M] 0 0 (pM_i K o ad)) (hco : Cond.code y cc' nL' ret' ∈ gG.1) (hni : Cond.initialized y.cls ∈ gG.1) (hrest : (rest.map fun v => v.category).sum ≤ 8) (hfr : fr + 1 ≤ X.2.2.2.1.frames) (hlc : 8 + (nL' + 11) + lc ≤ X.2.2.2.1.locals) (hmc : nc + 1 ≤ X.2.2.2.1.cells) (hms : ns + 6 ≤ X.2.2.2.1.slots)
    (hinv : ∀ (H : Heap) (locs : List Loc) (ls : Array Slot), fw_H D gG.2 z (lW U oa S o ad M) H → ls.size = nL → inv_ok X nc ns H locs (F0 X.2.2.2.2.2.1 pc ls st) rest av y)
    (k : ∀ (v : Int32) (M' : ms), K v M' → aw gG D z A X nL (pc + 3) lo (.int v :: rest) (lW U oa S o ad M') nc ns) : aw gG D z A X nL pc lo st (lW U oa S o ad M) nc ns :=
  a_call (Lr := cw lt_C U oa S) C [0] (pS U.length) hd hct hco hni hrest hfr hlc hmc hms rfl (lW_C U oa S o ad M) (List.pairwise_singleton _ _) (pS_nd _) (fun i h => pS_1 h) hinv (fun o' L' h => by
    obtain ⟨v, M', hk, rfl, rfl⟩ := h
    exact ⟨_, rfl, aw_pick _ (lW_back U oa S o ad M') (lW_bnd _) (k v M' hk)⟩)
theorem l_callMv {K : ms → Prop} (C : fcx gG D z A X own cc nL ret0) (hd : decode cc pc = .ok (ig, 3)) (hct : ct gG D z X.2.1 y cc' nL' ret' fr lc av [mu o ad M] 0 0 (pM_v K o ad)) (hco : Cond.code y cc' nL' ret' ∈ gG.1) (hni : Cond.initialized y.cls ∈ gG.1) (hrest : (rest.map fun v => v.category).sum ≤ 8) (hfr : fr + 1 ≤ X.2.2.2.1.frames) (hlc : 8 + (nL' + 11) + lc ≤ X.2.2.2.1.locals) (hmc : nc + 1 ≤ X.2.2.2.1.cells) (hms : ns + 6 ≤ X.2.2.2.1.slots)
    (hinv : ∀ (H : Heap) (locs : List Loc) (ls : Array Slot), fw_H D gG.2 z (lW U oa S o ad M) H → ls.size = nL → inv_ok X nc ns H locs (F0 X.2.2.2.2.2.1 pc ls st) rest av y)
    (k : ∀ (M' : ms), K M' → aw gG D z A X nL (pc + 3) lo rest (lW U oa S o ad M') nc ns) : aw gG D z A X nL pc lo st (lW U oa S o ad M) nc ns :=
  a_call (Lr := cw lt_C U oa S) C [0] (pS U.length) hd hct hco hni hrest hfr hlc hmc hms rfl (lW_C U oa S o ad M) (List.pairwise_singleton _ _) (pS_nd _) (fun i h => pS_1 h) hinv (fun o' L' h => by
    obtain ⟨M', hk, rfl, rfl⟩ := h
    exact ⟨_, rfl, aw_pick _ (lW_back U oa S o ad M') (lW_bnd _) (k M' hk)⟩)
theorem l_sld (C : fcx gG D z A X own cc nL ret0) {b n : Nat} {xs : Nat → Int32} (hX : va_X b n xs X.2.2.2.2.1 X.2.2.2.2.1.heap) (hbl : b < X.2.2.2.2.1.heap.size) (hbA : ¬ A b) {i : Int32} (hd : decode cc pc = .ok (.iaload, 1)) (hin : vp_in i n)
    (k : aw gG D z A X nL (pc + 1) lo (.int (xs i.toNatClampNeg) :: st) L nc ns) : aw gG D z A X nL pc lo (.int i :: .ref b :: st) L nc ns :=
  fun H locs ls hH hD hS hl => va_sld C.x C.b hX hbl hbA hS hin hd (k H locs ls hH hD hS hl)
theorem l_slen (C : fcx gG D z A X own cc nL ret0) {b n : Nat} {xs : Nat → Int32} (hX : va_X b n xs X.2.2.2.2.1 X.2.2.2.2.1.heap) (hbl : b < X.2.2.2.2.1.heap.size) (hbA : ¬ A b) (hd : decode cc pc = .ok (.arraylength, 1))
    (k : aw gG D z A X nL (pc + 1) lo (.int (Int32.ofNat n) :: st) L nc ns) : aw gG D z A X nL pc lo (.ref b :: st) L nc ns :=
  fun H locs ls hH hD hS hl => va_slen C.x C.b hX hbl hbA hS hd (k H locs ls hH hD hS hl)
theorem l_lald (C : fcx gG D z A X own cc nL ret0) (u : Nat) {j : Int32} (hd : decode cc pc = .ok (.laload, 1)) (hu : c_cl U u = 904) (hj : vp_in j (c_ln U u))
    (kk : aw gG D z A X nL (pc + 1) lo (.long (S.2.1 u j.toNatClampNeg) :: st) (lW U oa S o ad M) nc ns) : aw gG D z A X nL pc lo (.int j :: .ref (oa u) :: st) (lW U oa S o ad M) nc ns :=
  a_lald C (u + 1) 0 hd (show (lW U oa S o ad M)[u + 1]? = _ from cw_row (kd := 4) hu (by decide)) rfl rfl hj (by rw [up_at]; exact kk)
theorem l_tabOut (C : fcx gG D z A X own cc nL ret0) {dflt tlo thi : Int} {offs : Array Int} {len : Nat} {x : Int32} {tgt : Nat} (hd : decode cc pc = .ok (.tableswitch dflt tlo thi offs, len)) (h : x.toInt < tlo ∨ thi < x.toInt) (ht : (pc : Int) + dflt = (tgt : Int)) (k : aw gG D z A X nL tgt lo st L nc ns) : aw gG D z A X nL pc lo (.int x :: st) L nc ns :=
  fun H locs ls hH hD hS hl => lv_tableOut C.x C.b hd h ht (k H locs ls hH hD hS hl)
theorem l_tabIn (C : fcx gG D z A X own cc nL ret0) {dflt tlo thi : Int} {offs : Array Int} {len : Nat} {x : Int32} {off : Int} {tgt : Nat} (hd : decode cc pc = .ok (.tableswitch dflt tlo thi offs, len)) (h1 : ¬ x.toInt < tlo) (h2 : ¬ thi < x.toInt) (ho : offs[(x.toInt - tlo).toNat]? = some off) (ht : (pc : Int) + off = (tgt : Int)) (k : aw gG D z A X nL tgt lo st L nc ns) : aw gG D z A X nL pc lo (.int x :: st) L nc ns :=
  fun H locs ls hH hD hS hl => lv_tableIn C.x C.b hd h1 h2 ho ht (k H locs ls hH hD hS hl)
end LAWB
