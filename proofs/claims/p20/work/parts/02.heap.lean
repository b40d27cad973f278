theorem nw_str {own tx : String} {k : Nat} {s U : State} {a : Array Value} (hW : s.WarmedH U.vm) (h : (Cond.stringRef own k tx).before #[] s = true) : (Cond.stringRef own k tx).before a U = true := by
  have h1 := Cond.stringRef_warmed hW h
  simp only [Cond.before, Cond.holds, Cond.value, State.names, State.poolOf?, State.resolvedAt?] at h1 ⊢
  exact h1
theorem gw_warm {w : Cond} (hg : gw w = true) {s U : State} (hW : s.WarmedH U.vm) {a : Array Value} (h : w.before #[] s = true) : w.before a U = true := by
  by_cases hb : goodWord w = true
  · exact word_at hW (good_of_word hb) h
  · have hn : nw w = true := by
      unfold gw at hg
      cases h1 : goodWord w
      · rw [h1] at hg; exact hg
      · exact absurd h1 hb
    cases w <;> first | exact absurd (show false = true from hn) Bool.false_ne_true | exact va_Nw.use rfl (va_Nw.warmF hW h) | exact va_Nw.use rfl (va_Nw.warmM hW h) | exact va_Nw.use rfl (va_Nw.warmC hW h) | exact va_tabs (u := s.setVm U.vm) rfl rfl (by rw [Cond.declares_setVm hW.alike]; exact h) | exact nw_str hW h | skip
    · rename_i c
      cases c <;> first | exact absurd (show false = true from hn) Bool.false_ne_true | exact Cond.notCastable_moved (T := U) hW.alike h
    · rename_i c
      cases c <;> first | exact absurd (show false = true from hn) Bool.false_ne_true | exact va_AO.use (va_AO.moved hW.alike h)
theorem tb_ok.use {Ts : List Cond} {U : State} (h : tb_ok Ts U) {w : Cond} {a : Array Value} (hw : w ∈ Ts) (hg : gw w = true) : w.before a U = true := gw_warm hg (State.WarmedH.refl U) (h w hw hg)
theorem tb_ok.warm {Ts : List Cond} {s U : State} (h : tb_ok Ts s) (hW : s.WarmedH U.vm) : tb_ok Ts U := fun w hw hg => gw_warm hg hW (h w hw hg)
theorem good_lay (C : String) (T : u_T) (k : Nat) : gw (u_lay C T k) = true := by
  unfold u_lay
  split <;> rfl
theorem tb_ok.lays {G : List Cond × List vw_C} {U : State} (h : tb_ok G.1 U) (hg : gok G) {ci : Nat} {q : vw_C} (hc : G.2[ci]? = some q) (a : Array Value) : ∀ w ∈ u_ws q.1 q.2.1 q.2.2, w.before a U = true := fun w hw => by
  obtain ⟨k, -, rfl⟩ := List.mem_map.mp hw
  exact h.use ((hg ci q hc).1 _ hw) (good_lay _ _ _)
section AWH
variable {G : List Cond × List vw_C} {D : va_G} {z : Nat → ClassId} {A : Nat → Prop} {X : cx} {nL pc : Nat} {lo : List (Option Value)} {st : List Value} {L : fw} {nc ns : Nat} {own : String} {cc : ByteArray} {ret : Option FieldType}
variable {ci o : Nat} {ly : fl} {ad : Nat → Nat} {g : Nat → Int32} {r : Nat → Nat → Int32} {h : Nat → Nat → Int64} {C0 : String} {T : u_T} {N idx : Nat}
theorem a_getI (C : fcx G D z A X own cc nL ret) (i k : Nat) (hd : decode cc pc = .ok (.getfield idx, 3)) (h0 : Nat.blt ci 900 = true) (hi : L[i]? = some (ci, ly, (o, ad, g, r, h))) (hc : G.2[ci]? = some (C0, T, N)) (hk : k < N) (hf : Cond.fieldLink own idx (T k).1 (T k).2.1 (T k).2.2.1 ∈ G.1) (hkd : fo_kd ly k ≤ 1)
    (kk : aw G D z A X nL (pc + 3) lo (.int (g k) :: st) L nc ns) : aw G D z A X nL pc lo (.ref o :: st) L nc ns := by
  intro H locs ls hH hD hS hl
  obtain ⟨q, h1, cell, q1, q2, q3, q4⟩ := (hH i _ 0 hi (Or.inl h0)).o h0
  have hr : q = (C0, T, N) := Option.some.inj (h1.symm.trans hc)
  subst hr
  obtain ⟨hSl, hfc, kC, hkC, hkind⟩ := C.kn.1 ci _ hc
  obtain ⟨cf, kf, fi, f, hi2, hsl⟩ := hSl k hk
  refine W.getf C.x C.b C.ow (C.tb.use hf rfl) hi2 (u_facts hfc hkC (u_lays (C.tb.lays C.gk hc X.2.2.2.2.2.2.1) (fun _ hw => hw) hk) hi2).1 q1 (by rw [q3]; exact fun h => by cases h) (v := .int (g k)) ?_ rfl rfl hd (kk H locs ls hH hD hS hl)
  rw [hsl, q4 k hk]
  simp [fo_v, hkd]
theorem a_getR (C : fcx G D z A X own cc nL ret) (i k : Nat) (hd : decode cc pc = .ok (.getfield idx, 3)) (h0 : Nat.blt ci 900 = true) (hi : L[i]? = some (ci, ly, (o, ad, g, r, h))) (hc : G.2[ci]? = some (C0, T, N)) (hk : k < N) (hf : Cond.fieldLink own idx (T k).1 (T k).2.1 (T k).2.2.1 ∈ G.1) (hkd : 2 ≤ fo_kd ly k ∧ fo_kd ly k ≤ 5)
    (kk : aw G D z A X nL (pc + 3) lo (.ref (ad k) :: st) L nc ns) : aw G D z A X nL pc lo (.ref o :: st) L nc ns := by
  intro H locs ls hH hD hS hl
  obtain ⟨q, h1, cell, q1, q2, q3, q4⟩ := (hH i _ 0 hi (Or.inl h0)).o h0
  have hr : q = (C0, T, N) := Option.some.inj (h1.symm.trans hc)
  subst hr
  obtain ⟨hSl, hfc, kC, hkC, hkind⟩ := C.kn.1 ci _ hc
  obtain ⟨cf, kf, fi, f, hi2, hsl⟩ := hSl k hk
  refine W.getf C.x C.b C.ow (C.tb.use hf rfl) hi2 (u_facts hfc hkC (u_lays (C.tb.lays C.gk hc X.2.2.2.2.2.2.1) (fun _ hw => hw) hk) hi2).1 q1 (by rw [q3]; exact fun h => by cases h) (v := .ref (ad k)) ?_ rfl rfl hd (kk H locs ls hH hD hS hl)
  rw [hsl, q4 k hk]
  have h2 : ¬ fo_kd ly k ≤ 1 := by omega
  have h3 : ¬ fo_kd ly k = 6 := by omega
  simp [fo_v, h2, h3]
theorem a_putI (C : fcx G D z A X own cc nL ret) (i k : Nat) {v : Int32} {ty : FieldType} (hd : decode cc pc = .ok (.putfield idx, 3)) (h0 : Nat.blt ci 900 = true) (hi : L[i]? = some (ci, ly, (o, ad, g, r, h))) (hc : G.2[ci]? = some (C0, T, N)) (hk : k < N) (hf : Cond.fieldLink own idx (T k).1 (T k).2.1 (T k).2.2.1 ∈ G.1) (hkd : fo_kd ly k ≤ 1) (hfin : (T k).2.2.2 = false) (hty : parseFieldDescriptor (T k).2.2.1 = some ty) (hn : narrow ty (.int v) = .int v) (hfit : fits ty (.int v) = true)
    (kk : aw G D z A X nL (pc + 3) lo st (L.set i (ci, ly, (o, ad, upd g k v, r, h))) nc ns) : aw G D z A X nL pc lo (.int v :: .ref o :: st) L nc ns := by
  intro H locs ls hH hD hS hl
  obtain ⟨q, h1, cell, q1, q2, q3, q4⟩ := (hH i _ 0 hi (Or.inl h0)).o h0
  have hr : q = (C0, T, N) := Option.some.inj (h1.symm.trans hc)
  subst hr
  have hts := C.tb.lays C.gk hc X.2.2.2.2.2.2.1
  obtain ⟨-, hnm, ty0, hty0⟩ := C.gk ci _ hc
  have hap := va_apart (own := own) (D := D) hts (fun _ hw => hw) ty0 hty0 hnm C.kn hc
  obtain ⟨hSl, hfc, kC, hkC, hkind⟩ := C.kn.1 ci _ hc
  obtain ⟨cf, kf, fi, f, hi2, hsl⟩ := hSl k hk
  have hlay := hts _ (u_in_lay hk)
  unfold u_lay at hlay
  rw [if_neg (by rw [hfin]; decide)] at hlay
  have hst := (u_facts hfc hkC (u_lays hts (fun _ hw => hw) hk) hi2).1
  have h6 := u_store hfc hkC hkind hlay hi2 hty hn hfit
  refine W.putK C.x C.b (f := f) ⟨C.ow, C.tb.use hf rfl, ⟨_, _, _, hi2⟩, hst⟩ (by rw [q2]; exact h6) q1 q3 (by rw [hsl]; exact k2_hasslot (q4 k hk)) rfl rfl hd fun H' e1 e2 e3 => ?_
  rw [hsl] at e1 ⊢
  have hn2 : fo_at D G.2 z ci ly (o, ad, upd g k v, r, h) H' 0 := by
    refine fo_at.i h0 ⟨_, hc, t_OB.to (V := updV (fo_v ly (o, ad, g, r, h)) k (.int v)) ⟨_, e1, q2, q3, t_set q4 hap hk _⟩ (fun j _ => ?_)⟩
    by_cases e : j = k
    · subst e; simp [updV, fo_v, hkd, upd]
    · simp [updV, fo_v, upd, e]
  have hr2 : ∀ u, u ≠ 0 → fo_at D G.2 z ci ly (o, ad, g, r, h) H' u → fo_at D G.2 z ci ly (o, ad, upd g k v, r, h) H' u := by
    intro u hu h9
    cases u with
    | zero => exact absurd rfl hu
    | succ u => exact h9
  obtain ⟨hH', hD'⟩ := fw_set (t := 0) hH hD hi (Or.inl h0) (fun u => by cases u <;> rfl) hn2 hr2 e3
  exact kk H' _ ls hH' hD' (hS.put e2 e3 (hD.2 i _ 0 hi (Or.inl h0))) hl
theorem a_iald (C : fcx G D z A X own cc nL ret) (i k : Nat) {n : Nat} {j : Int32} (hd : decode cc pc = .ok (.iaload, 1)) (hi : L[i]? = some (ci, ly, (o, ad, g, r, h))) (hkd : fo_kd ly k = 2) (hn : fo_ln ly k = n) (hj : vp_in j n)
    (kk : aw G D z A X nL (pc + 1) lo (.int (r k j.toNatClampNeg) :: st) L nc ns) : aw G D z A X nL pc lo (.int j :: .ref (ad k) :: st) L nc ns := by
  intro H locs ls hH hD hS hl
  have hcell := hH i _ (k + 1) hi ⟨by simp only; omega, by simp only; omega⟩
  have hcell : H[ad k]? = some (vp_cell (z 2) (n, .inl (r k))) := by
    have h9 : H[ad k]? = some (vp_cell (z (fo_kd ly k)) (fo_x ly (o, ad, g, r, h) k)) := hcell
    rw [h9, fo_x, hkd, hn]; rfl
  have hlt : j.toNatClampNeg < n := Nat.not_le.mp fun q => hj (Or.inr q)
  exact W.iald (v := .int (r k j.toNatClampNeg)) C.x C.b hcell ((C.kn.2 0 _ rfl).1 n (fun q => .int (r k q))) (fun q => by cases q) (by show ¬ (j < 0 ∨ (arrV _ _ _).slots.size ≤ _); rw [arrV_size]; exact hj) (by show (arrV _ _ _).slots[_]? = _; rw [arrV_read _ _ hlt]) rfl rfl hd (kk H locs ls hH hD hS hl)
theorem a_zald (C : fcx G D z A X own cc nL ret) (i k : Nat) {n : Nat} {j : Int32} (hd : decode cc pc = .ok (.baload, 1)) (hi : L[i]? = some (ci, ly, (o, ad, g, r, h))) (hkd : fo_kd ly k = 3) (hn : fo_ln ly k = n) (hj : vp_in j n)
    (kk : aw G D z A X nL (pc + 1) lo (.int (r k j.toNatClampNeg) :: st) L nc ns) : aw G D z A X nL pc lo (.int j :: .ref (ad k) :: st) L nc ns := by
  intro H locs ls hH hD hS hl
  have hcell := hH i _ (k + 1) hi ⟨by simp only; omega, by simp only; omega⟩
  have hcell : H[ad k]? = some (vp_cell (z 3) (n, .inl (r k))) := by
    have h9 : H[ad k]? = some (vp_cell (z (fo_kd ly k)) (fo_x ly (o, ad, g, r, h) k)) := hcell
    rw [h9, fo_x, hkd, hn]; rfl
  have hlt : j.toNatClampNeg < n := Nat.not_le.mp fun q => hj (Or.inr q)
  exact W.zald (v := .int (r k j.toNatClampNeg)) C.x C.b hcell ((C.kn.2 1 _ rfl).1 n (fun q => .int (r k q))) (fun q => by cases q) (by show ¬ (j < 0 ∨ (arrV _ _ _).slots.size ≤ _); rw [arrV_size]; exact hj) (by show (arrV _ _ _).slots[_]? = _; rw [arrV_read _ _ hlt]) rfl rfl hd (kk H locs ls hH hD hS hl)
theorem a_lald (C : fcx G D z A X own cc nL ret) (i k : Nat) {n : Nat} {j : Int32} (hd : decode cc pc = .ok (.laload, 1)) (hi : L[i]? = some (ci, ly, (o, ad, g, r, h))) (hkd : fo_kd ly k = 4) (hn : fo_ln ly k = n) (hj : vp_in j n)
    (kk : aw G D z A X nL (pc + 1) lo (.long (h k j.toNatClampNeg) :: st) L nc ns) : aw G D z A X nL pc lo (.int j :: .ref (ad k) :: st) L nc ns := by
  intro H locs ls hH hD hS hl
  have hcell := hH i _ (k + 1) hi ⟨by simp only; omega, by simp only; omega⟩
  have hcell : H[ad k]? = some (vp_cell (z 4) (n, .inr (.inl (h k)))) := by
    have h9 : H[ad k]? = some (vp_cell (z (fo_kd ly k)) (fo_x ly (o, ad, g, r, h) k)) := hcell
    rw [h9, fo_x, hkd, hn]; rfl
  have hlt : j.toNatClampNeg < n := Nat.not_le.mp fun q => hj (Or.inr q)
  exact W.lald (v := .long (h k j.toNatClampNeg)) C.x C.b hcell ((C.kn.2 2 _ rfl).1 n (fun q => .long (h k q))) (fun q => by cases q) (by show ¬ (j < 0 ∨ (arrV _ _ _).slots.size ≤ _); rw [arrV_size]; exact hj) (by show (arrV _ _ _).slots[_]? = _; rw [arrV_read _ _ hlt]) rfl rfl hd (kk H locs ls hH hD hS hl)
theorem a_alen (C : fcx G D z A X own cc nL ret) (i k : Nat) {n : Nat} (hd : decode cc pc = .ok (.arraylength, 1)) (hi : L[i]? = some (ci, ly, (o, ad, g, r, h))) (hkd : fo_kd ly k = 2) (hn : fo_ln ly k = n)
    (kk : aw G D z A X nL (pc + 1) lo (.int (nI n) :: st) L nc ns) : aw G D z A X nL pc lo (.ref (ad k) :: st) L nc ns := by
  intro H locs ls hH hD hS hl
  have hcell := hH i _ (k + 1) hi ⟨by simp only; omega, by simp only; omega⟩
  have hcell : H[ad k]? = some (vp_cell (z 2) (n, .inl (r k))) := by
    have h9 : H[ad k]? = some (vp_cell (z (fo_kd ly k)) (fo_x ly (o, ad, g, r, h) k)) := hcell
    rw [h9, fo_x, hkd, hn]; rfl
  exact W.alen (n := nI n) C.x C.b hcell ((C.kn.2 0 _ rfl).1 n (fun q => .int (r k q))) (by rw [vp_cell_i, arrV_size] <;> rfl) rfl rfl hd (kk H locs ls hH hD hS hl)
theorem a_iast (C : fcx G D z A X own cc nL ret) (i k : Nat) {n : Nat} {j x : Int32} (hd : decode cc pc = .ok (.iastore, 1)) (hi : L[i]? = some (ci, ly, (o, ad, g, r, h))) (hkd : fo_kd ly k = 2) (hn : fo_ln ly k = n) (hj : vp_in j n)
    (kk : aw G D z A X nL (pc + 1) lo st (L.set i (ci, ly, (o, ad, g, va_up r k (upd (r k) j.toNatClampNeg x), h))) nc ns) : aw G D z A X nL pc lo (.int x :: .int j :: .ref (ad k) :: st) L nc ns := by
  intro H locs ls hH hD hS hl
  have hok : fo_ok ci ly (k + 1) := ⟨by omega, by omega⟩
  have hcell : H[ad k]? = some (vp_cell (z 2) (n, .inl (r k))) := by
    have h9 : H[ad k]? = some (vp_cell (z (fo_kd ly k)) (fo_x ly (o, ad, g, r, h) k)) := hH i _ (k + 1) hi hok
    rw [h9, fo_x, hkd, hn]; rfl
  refine W.iast C.x C.b hcell ((C.kn.2 0 _ rfl).1 n (fun q => .int (r k q))) (fun q => by cases q) (by show ¬ (j < 0 ∨ (arrV _ _ _).slots.size ≤ _); rw [arrV_size]; exact hj) rfl rfl hd fun H1 e zz oq => ?_
  have hn2 : fo_at D G.2 z ci ly (o, ad, g, va_up r k (upd (r k) j.toNatClampNeg x), h) H1 (k + 1) := by
    show H1[ad k]? = some (vp_cell (z (fo_kd ly k)) (fo_x ly (o, ad, g, va_up r k (upd (r k) j.toNatClampNeg x), h) k))
    rw [e, fo_x, hkd, hn]
    rw [if_neg (by decide), vp_cell_i, vp_cell_i, arrV_store]
    congr 2
    funext q
    by_cases hq : q = j.toNatClampNeg
    · subst hq; simp [updV, upd, va_up]
    · simp [updV, upd, hq, va_up]
  have hr2 : ∀ u, u ≠ k + 1 → fo_at D G.2 z ci ly (o, ad, g, r, h) H1 u → fo_at D G.2 z ci ly (o, ad, g, va_up r k (upd (r k) j.toNatClampNeg x), h) H1 u := by
    intro u hu h9
    cases u with
    | zero => exact h9
    | succ u =>
      have hne : u ≠ k := fun e => hu (by rw [e])
      show H1[ad u]? = some (vp_cell (z (fo_kd ly u)) (fo_x ly (o, ad, g, va_up r k (upd (r k) j.toNatClampNeg x), h) u))
      rw [fo_x]
      dsimp only
      rw [va_up_ne _ _ hne]
      exact h9
  obtain ⟨hH', hD'⟩ := fw_set hH hD hi hok (fun u => by cases u <;> rfl) hn2 hr2 oq
  exact kk H1 _ ls hH' hD' (hS.put zz oq (hD.2 i _ (k + 1) hi hok)) hl
theorem a_zast (C : fcx G D z A X own cc nL ret) (i k : Nat) {n : Nat} {j x : Int32} (hd : decode cc pc = .ok (.bastore, 1)) (hi : L[i]? = some (ci, ly, (o, ad, g, r, h))) (hkd : fo_kd ly k = 3) (hn : fo_ln ly k = n) (hj : vp_in j n)
    (kk : aw G D z A X nL (pc + 1) lo st (L.set i (ci, ly, (o, ad, g, va_up r k (upd (r k) j.toNatClampNeg (vp_nar .boolean x)), h))) nc ns) : aw G D z A X nL pc lo (.int x :: .int j :: .ref (ad k) :: st) L nc ns := by
  intro H locs ls hH hD hS hl
  have hok : fo_ok ci ly (k + 1) := ⟨by omega, by omega⟩
  have hcell : H[ad k]? = some (vp_cell (z 3) (n, .inl (r k))) := by
    have h9 : H[ad k]? = some (vp_cell (z (fo_kd ly k)) (fo_x ly (o, ad, g, r, h) k)) := hH i _ (k + 1) hi hok
    rw [h9, fo_x, hkd, hn]; rfl
  refine W.zast C.x C.b hcell ((C.kn.2 1 _ rfl).1 n (fun q => .int (r k q))) (fun q => by cases q) (by show ¬ (j < 0 ∨ (arrV _ _ _).slots.size ≤ _); rw [arrV_size]; exact hj) rfl rfl hd fun H1 e zz oq => ?_
  have hn2 : fo_at D G.2 z ci ly (o, ad, g, va_up r k (upd (r k) j.toNatClampNeg (vp_nar .boolean x)), h) H1 (k + 1) := by
    show H1[ad k]? = some (vp_cell (z (fo_kd ly k)) (fo_x ly (o, ad, g, va_up r k (upd (r k) j.toNatClampNeg (vp_nar .boolean x)), h) k))
    rw [e, fo_x, hkd, hn]
    rw [if_neg (by decide), vp_cell_i, vp_cell_i, arrV_store]
    congr 2
    funext q
    by_cases hq : q = j.toNatClampNeg
    · subst hq; simp [updV, upd, va_up, vp_nar, narrow]
    · simp [updV, upd, hq, va_up]
  have hr2 : ∀ u, u ≠ k + 1 → fo_at D G.2 z ci ly (o, ad, g, r, h) H1 u → fo_at D G.2 z ci ly (o, ad, g, va_up r k (upd (r k) j.toNatClampNeg (vp_nar .boolean x)), h) H1 u := by
    intro u hu h9
    cases u with
    | zero => exact h9
    | succ u =>
      have hne : u ≠ k := fun e => hu (by rw [e])
      show H1[ad u]? = some (vp_cell (z (fo_kd ly u)) (fo_x ly (o, ad, g, va_up r k (upd (r k) j.toNatClampNeg (vp_nar .boolean x)), h) u))
      rw [fo_x]
      dsimp only
      rw [va_up_ne _ _ hne]
      exact h9
  obtain ⟨hH', hD'⟩ := fw_set hH hD hi hok (fun u => by cases u <;> rfl) hn2 hr2 oq
  exact kk H1 _ ls hH' hD' (hS.put zz oq (hD.2 i _ (k + 1) hi hok)) hl
theorem a_last (C : fcx G D z A X own cc nL ret) (i k : Nat) {n : Nat} {j : Int32} {x : Int64} (hd : decode cc pc = .ok (.lastore, 1)) (hi : L[i]? = some (ci, ly, (o, ad, g, r, h))) (hkd : fo_kd ly k = 4) (hn : fo_ln ly k = n) (hj : vp_in j n)
    (kk : aw G D z A X nL (pc + 1) lo st (L.set i (ci, ly, (o, ad, g, r, va_up h k (vp_updL (h k) j.toNatClampNeg x)))) nc ns) : aw G D z A X nL pc lo (.long x :: .int j :: .ref (ad k) :: st) L nc ns := by
  intro H locs ls hH hD hS hl
  have hok : fo_ok ci ly (k + 1) := ⟨by omega, by omega⟩
  have hcell : H[ad k]? = some (vp_cell (z 4) (n, .inr (.inl (h k)))) := by
    have h9 : H[ad k]? = some (vp_cell (z (fo_kd ly k)) (fo_x ly (o, ad, g, r, h) k)) := hH i _ (k + 1) hi hok
    rw [h9, fo_x, hkd, hn]; rfl
  refine W.last C.x C.b hcell ((C.kn.2 2 _ rfl).1 n (fun q => .long (h k q))) (fun q => by cases q) (by show ¬ (j < 0 ∨ (arrV _ _ _).slots.size ≤ _); rw [arrV_size]; exact hj) rfl rfl hd fun H1 e zz oq => ?_
  have hn2 : fo_at D G.2 z ci ly (o, ad, g, r, va_up h k (vp_updL (h k) j.toNatClampNeg x)) H1 (k + 1) := by
    show H1[ad k]? = some (vp_cell (z (fo_kd ly k)) (fo_x ly (o, ad, g, r, va_up h k (vp_updL (h k) j.toNatClampNeg x)) k))
    rw [e, fo_x, hkd, hn]
    rw [if_pos rfl, vp_cell_l, vp_cell_l, arrV_store]
    congr 2
    funext q
    by_cases hq : q = j.toNatClampNeg
    · subst hq; simp [updV, vp_updL, va_up]
    · simp [updV, vp_updL, hq, va_up]
  have hr2 : ∀ u, u ≠ k + 1 → fo_at D G.2 z ci ly (o, ad, g, r, h) H1 u → fo_at D G.2 z ci ly (o, ad, g, r, va_up h k (vp_updL (h k) j.toNatClampNeg x)) H1 u := by
    intro u hu h9
    cases u with
    | zero => exact h9
    | succ u =>
      have hne : u ≠ k := fun e => hu (by rw [e])
      show H1[ad u]? = some (vp_cell (z (fo_kd ly u)) (fo_x ly (o, ad, g, r, va_up h k (vp_updL (h k) j.toNatClampNeg x)) u))
      rw [fo_x]
      dsimp only
      rw [va_up_ne _ _ hne]
      exact h9
  obtain ⟨hH', hD'⟩ := fw_set hH hD hi hok (fun u => by cases u <;> rfl) hn2 hr2 oq
  exact kk H1 _ ls hH' hD' (hS.put zz oq (hD.2 i _ (k + 1) hi hok)) hl
end AWH
