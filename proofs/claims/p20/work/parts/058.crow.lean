/-! ROWS OF A CLASS WITH SEVERAL OBJECTS: nest mates' members, fields that hold objects, rows of objects, static rows, switches -/
theorem fw_set2 {D : va_G} {cl : List vw_C} {z : Nat → ClassId} {A : Nat → Prop} {L : fw} {H H1 : Heap} {i ci t : Nat} {ly ly' : fl} {R R' : fo} (hH : fw_H D cl z L H) (hD : fw_D A L) (hi : L[i]? = some (ci, ly, R)) (hok : ∀ u, fo_ok ci ly' u → fo_ok ci ly u ∧ fo_ad R' u = fo_ad R u) (ht : fo_ok ci ly t)
    (hnew : fo_at D cl z ci ly' R' H1 t) (hrest : ∀ u, u ≠ t → fo_ok ci ly' u → fo_at D cl z ci ly R H1 u → fo_at D cl z ci ly' R' H1 u) (oq : ∀ q : Nat, q ≠ fo_ad R t → H1[q]? = H[q]?) : fw_H D cl z (L.set i (ci, ly', R')) H1 ∧ fw_D A (L.set i (ci, ly', R')) := by
  have back : ∀ (j : Nat) (q : Nat × fl × fo) (u : Nat), (L.set i (ci, ly', R'))[j]? = some q → fo_ok q.1 q.2.1 u → ∃ q0 : Nat × fl × fo, L[j]? = some q0 ∧ fo_ok q0.1 q0.2.1 u ∧ fo_ad q.2.2 u = fo_ad q0.2.2 u := by
    intro j q u hq hu
    rcases fw_seti hq with ⟨rfl, rfl, -⟩ | ⟨-, h⟩
    · exact ⟨_, hi, (hok u hu).1, (hok u hu).2⟩
    · exact ⟨_, h, hu, rfl⟩
  refine ⟨fun j q u hq hu => ?_, fun j k p q u v hp hq hu hv e => ?_, fun j q u hq hu => ?_⟩
  · rcases fw_seti hq with ⟨rfl, rfl, -⟩ | ⟨hne, h⟩
    · by_cases e : u = t
      · subst e; exact hnew
      · exact hrest u e hu ((hH j _ u hi (hok u hu).1).kept (oq _ (fun x => e (hD.1 j j _ _ u t hi hi (hok u hu).1 ht x).2)))
    · exact (hH j _ u h hu).kept (oq _ (fun x => hne (hD.1 j i _ _ u t h hi hu ht x).1))
  · obtain ⟨p0, hp0, o1, a1⟩ := back j p u hp hu
    obtain ⟨q0, hq0, o2, a2⟩ := back k q v hq hv
    exact hD.1 j k p0 q0 u v hp0 hq0 o1 o2 (by rw [← a1, ← a2]; exact e)
  · obtain ⟨q0, hq0, o2, a2⟩ := back j q u hq hu
    rw [a2]
    exact hD.2 j q0 u hq0 o2
theorem fl_kd {ly ly' : fl} {k : Nat} {x : Nat × Nat} (hly : ly.set k x = ly') (hlk : k < ly.length) (j : Nat) : fo_kd ly' j = if j = k then x.1 else fo_kd ly j := by
  subst hly
  unfold fo_kd
  rw [List.getD_eq_getElem?_getD, List.getD_eq_getElem?_getD, List.getElem?_set]
  by_cases e : k = j
  · subst e; simp [hlk]
  · rw [if_neg e, if_neg (fun x => e x.symm)]
theorem fl_ln {ly ly' : fl} {k : Nat} {x : Nat × Nat} (hly : ly.set k x = ly') (hlk : k < ly.length) (j : Nat) : fo_ln ly' j = if j = k then x.2 else fo_ln ly j := by
  subst hly
  unfold fo_ln
  rw [List.getD_eq_getElem?_getD, List.getD_eq_getElem?_getD, List.getElem?_set]
  by_cases e : k = j
  · subst e; simp [hlk]
  · rw [if_neg e, if_neg (fun x => e x.symm)]
section NEST
variable {G : List Cond × List vw_C} {D : va_G} {z : Nat → ClassId} {A : Nat → Prop} {X : cx} {nL pc : Nat} {lo : List (Option Value)} {st : List Value} {L : fw} {nc ns : Nat} {own : String} {cc : ByteArray} {ret : Option FieldType}
variable {ci o : Nat} {ly : fl} {ad : Nat → Nat} {g : Nat → Int32} {r : Nat → Nat → Int32} {h : Nat → Nat → Int64} {C0 : String} {T : u_T} {N idx : Nat}
theorem a_getIN (C : fcx G D z A X own cc nL ret) {host : String} (i k : Nat) (hd : decode cc pc = .ok (.getfield idx, 3)) (h0 : Nat.blt ci 900 = true) (hi : L[i]? = some (ci, ly, (o, ad, g, r, h))) (hc : G.2[ci]? = some (C0, T, N)) (hk : k < N) (hf : Cond.fieldLinkNest own idx (T k).1 (T k).2.1 (T k).2.2.1 host ∈ G.1) (hkd : fo_kd ly k ≤ 1)
    (kk : aw G D z A X nL (pc + 3) lo (.int (g k) :: st) L nc ns) : aw G D z A X nL pc lo (.ref o :: st) L nc ns := by
  intro H locs ls hH hD hS hl
  obtain ⟨q, h1, cell, q1, q2, q3, q4⟩ := (hH i _ 0 hi (Or.inl h0)).o h0
  have hr : q = (C0, T, N) := Option.some.inj (h1.symm.trans hc)
  subst hr
  obtain ⟨hSl, hfc, kC, hkC, hkind⟩ := C.kn.1 ci _ hc
  obtain ⟨cf, kf, fi, f, hi2, hsl⟩ := hSl k hk
  refine va_Wgetf C.x C.b C.ow (C.tb.use hf rfl) hi2 (u_facts hfc hkC (u_lays (C.tb.lays C.gk hc X.2.2.2.2.2.2.1) (fun _ hw => hw) hk) hi2).1 q1 (by rw [q3]; exact fun h => by cases h) (v := .int (g k)) ?_ rfl rfl hd (kk H locs ls hH hD hS hl)
  rw [hsl, q4 k hk]
  simp [fo_v, hkd]
theorem a_getRN (C : fcx G D z A X own cc nL ret) {host : String} (i k : Nat) (hd : decode cc pc = .ok (.getfield idx, 3)) (h0 : Nat.blt ci 900 = true) (hi : L[i]? = some (ci, ly, (o, ad, g, r, h))) (hc : G.2[ci]? = some (C0, T, N)) (hk : k < N) (hf : Cond.fieldLinkNest own idx (T k).1 (T k).2.1 (T k).2.2.1 host ∈ G.1) (hkd : 2 ≤ fo_kd ly k ∧ fo_kd ly k ≤ 5)
    (kk : aw G D z A X nL (pc + 3) lo (.ref (ad k) :: st) L nc ns) : aw G D z A X nL pc lo (.ref o :: st) L nc ns := by
  intro H locs ls hH hD hS hl
  obtain ⟨q, h1, cell, q1, q2, q3, q4⟩ := (hH i _ 0 hi (Or.inl h0)).o h0
  have hr : q = (C0, T, N) := Option.some.inj (h1.symm.trans hc)
  subst hr
  obtain ⟨hSl, hfc, kC, hkC, hkind⟩ := C.kn.1 ci _ hc
  obtain ⟨cf, kf, fi, f, hi2, hsl⟩ := hSl k hk
  refine va_Wgetf C.x C.b C.ow (C.tb.use hf rfl) hi2 (u_facts hfc hkC (u_lays (C.tb.lays C.gk hc X.2.2.2.2.2.2.1) (fun _ hw => hw) hk) hi2).1 q1 (by rw [q3]; exact fun h => by cases h) (v := .ref (ad k)) ?_ rfl rfl hd (kk H locs ls hH hD hS hl)
  rw [hsl, q4 k hk]
  have h2 : ¬ fo_kd ly k ≤ 1 := by omega
  have h3 : ¬ fo_kd ly k = 6 := by omega
  simp [fo_v, h2, h3]
theorem a_putIN (C : fcx G D z A X own cc nL ret) {host : String} (i k : Nat) {v : Int32} {ty : FieldType} (hd : decode cc pc = .ok (.putfield idx, 3)) (h0 : Nat.blt ci 900 = true) (hi : L[i]? = some (ci, ly, (o, ad, g, r, h))) (hc : G.2[ci]? = some (C0, T, N)) (hk : k < N) (hf : Cond.fieldLinkNest own idx (T k).1 (T k).2.1 (T k).2.2.1 host ∈ G.1) (hkd : fo_kd ly k ≤ 1) (hfin : (T k).2.2.2 = false) (hty : parseFieldDescriptor (T k).2.2.1 = some ty) (hn : narrow ty (.int v) = .int v) (hfit : fits ty (.int v) = true)
    (kk : aw G D z A X nL (pc + 3) lo st (L.set i (ci, ly, (o, ad, upd g k v, r, h))) nc ns) : aw G D z A X nL pc lo (.int v :: .ref o :: st) L nc ns := by
  intro H locs ls hH hD hS hl
  obtain ⟨q, h1, cell, q1, q2, q3, q4⟩ := (hH i _ 0 hi (Or.inl h0)).o h0
  have hr : q = (C0, T, N) := Option.some.inj (h1.symm.trans hc)
  subst hr
  have hts := C.tb.lays C.gk hc X.2.2.2.2.2.2.1
  obtain ⟨-, hnm, ty0, hty0⟩ := C.gk ci _ hc
  have hap := va_apart (own := own) (D := D) hts (fun _ hw => hw) ty0 hty0 hnm C.kn hc
  obtain ⟨hSl, hfc, kC, hkC, hkind⟩ := C.kn.1 ci _ hc
  obtain ⟨cf, kf, fi, f, hi2, hsl⟩ := hSl k hk
  have hlay := hts _ (u_in_lay hk)
  unfold u_lay at hlay
  rw [if_neg (by rw [hfin]; decide)] at hlay
  have hst := (u_facts hfc hkC (u_lays hts (fun _ hw => hw) hk) hi2).1
  have h6 := u_store hfc hkC hkind hlay hi2 hty hn hfit
  refine va_WputK C.x C.b (f := f) C.ow (C.tb.use hf rfl) hi2 hst (by rw [q2]; exact h6) q1 q3 (by rw [hsl]; exact k2_hasslot (q4 k hk)) rfl rfl hd fun H' e1 e2 e3 => ?_
  rw [hsl] at e1 ⊢
  have hn2 : fo_at D G.2 z ci ly (o, ad, upd g k v, r, h) H' 0 := by
    refine fo_at.i h0 ⟨_, hc, t_OB.to (V := updV (fo_v ly (o, ad, g, r, h)) k (.int v)) ⟨_, e1, q2, q3, t_set q4 hap hk _⟩ (fun j _ => ?_)⟩
    by_cases e : j = k
    · subst e; simp [updV, fo_v, hkd, upd]
    · simp [updV, fo_v, upd, e]
  have hr2 : ∀ u, u ≠ 0 → fo_at D G.2 z ci ly (o, ad, g, r, h) H' u → fo_at D G.2 z ci ly (o, ad, upd g k v, r, h) H' u := by
    intro u hu h9
    cases u with
    | zero => exact absurd rfl hu
    | succ u => exact h9
  obtain ⟨hH', hD'⟩ := fw_set (t := 0) hH hD hi (Or.inl h0) (fun u => by cases u <;> rfl) hn2 hr2 e3
  exact kk H' _ ls hH' hD' (hS.put e2 e3 (hD.2 i _ 0 hi (Or.inl h0))) hl
theorem put_O {H H' : Heap} {cell : Cell} {q : Nat} {k : Nat} {ly' : fl} (hc : G.2[ci]? = some (C0, T, N)) (hkd : 5 ≤ fo_kd ly k) (hly : ly.set k (5, 0) = ly') (hlk : k < ly.length) {i : Nat} (h0 : Nat.blt ci 900 = true) (hH : fw_H D G.2 z L H) (hD : fw_D A L) (hi : L[i]? = some (ci, ly, (o, ad, g, r, h))) (hnew : t_OB o (D.1 ci) N (D.2 ci) H' (updV (fo_v ly (o, ad, g, r, h)) k (.ref q))) (e3 : ∀ x, x ≠ o → H'[x]? = H[x]?) : fw_H D G.2 z (L.set i (ci, ly', (o, va_up ad k q, g, r, h))) H' ∧ fw_D A (L.set i (ci, ly', (o, va_up ad k q, g, r, h))) := by
  have kdk := fl_kd hly hlk
  have lnk := fl_ln hly hlk
  refine fw_set2 (t := 0) hH hD hi (fun u hu => ?_) (Or.inl h0) (fo_at.i h0 ⟨_, hc, hnew.to (fun j _ => ?_)⟩) (fun u hne hu h9 => ?_) e3
  · cases u with
    | zero => exact ⟨hu, rfl⟩
    | succ u =>
      have h8 : 2 ≤ fo_kd ly' u ∧ fo_kd ly' u ≤ 4 := hu
      have hne : u ≠ k := by
        intro e
        rw [kdk, if_pos e] at h8
        omega
      rw [kdk, if_neg hne] at h8
      exact ⟨h8, by show va_up ad k q u = ad u; simp [va_up, hne]⟩
  · unfold fo_v
    rw [kdk]
    by_cases e : j = k
    · subst e; simp [updV, va_up]
    · simp [updV, va_up, e]
  · cases u with
    | zero => exact absurd rfl hne
    | succ u =>
      have h8 : 2 ≤ fo_kd ly' u ∧ fo_kd ly' u ≤ 4 := hu
      have hn2 : u ≠ k := by
        intro e
        rw [kdk, if_pos e] at h8
        omega
      have h7 : H'[ad u]? = some (vp_cell (z (fo_kd ly u)) (fo_x ly (o, ad, g, r, h) u)) := h9
      show H'[va_up ad k q u]? = some (vp_cell (z (fo_kd ly' u)) (fo_x ly' _ u))
      rw [show va_up ad k q u = ad u by simp [va_up, hn2], h7]
      unfold fo_x
      rw [kdk, lnk, if_neg hn2, if_neg hn2]
theorem a_putO (C : fcx G D z A X own cc nL ret) (i k : Nat) {q : Nat} {ly' : fl} {ty : FieldType} (hd : decode cc pc = .ok (.putfield idx, 3)) (h0 : Nat.blt ci 900 = true) (hi : L[i]? = some (ci, ly, (o, ad, g, r, h))) (hc : G.2[ci]? = some (C0, T, N)) (hk : k < N) (hf : Cond.fieldLink own idx (T k).1 (T k).2.1 (T k).2.2.1 ∈ G.1) (hfin : (T k).2.2.2 = false) (hty : parseFieldDescriptor (T k).2.2.1 = some ty) (hn : narrow ty (.ref q) = .ref q) (hfit : fits ty (.ref q) = true) (hkd : 5 ≤ fo_kd ly k) (hly : ly.set k (5, 0) = ly') (hlk : k < ly.length)
    (kk : aw G D z A X nL (pc + 3) lo st (L.set i (ci, ly', (o, va_up ad k q, g, r, h))) nc ns) : aw G D z A X nL pc lo (.ref q :: .ref o :: st) L nc ns := by
  intro H locs ls hH hD hS hl
  obtain ⟨q0, h1, cell, q1, q2, q3, q4⟩ := (hH i _ 0 hi (Or.inl h0)).o h0
  have hr : q0 = (C0, T, N) := Option.some.inj (h1.symm.trans hc)
  subst hr
  have hts := C.tb.lays C.gk hc X.2.2.2.2.2.2.1
  obtain ⟨-, hnm, ty0, hty0⟩ := C.gk ci _ hc
  have hap := va_apart (own := own) (D := D) hts (fun _ hw => hw) ty0 hty0 hnm C.kn hc
  obtain ⟨hSl, hfc, kC, hkC, hkind⟩ := C.kn.1 ci _ hc
  obtain ⟨cf, kf, fi, f, hi2, hsl⟩ := hSl k hk
  have hlay := hts _ (u_in_lay hk)
  unfold u_lay at hlay
  rw [if_neg (by rw [hfin]; decide)] at hlay
  have hst := (u_facts hfc hkC (u_lays hts (fun _ hw => hw) hk) hi2).1
  have h6 := u_store hfc hkC hkind hlay hi2 hty hn hfit
  refine W.putK C.x C.b (f := f) ⟨C.ow, C.tb.use hf rfl, ⟨_, _, _, hi2⟩, hst⟩ (by rw [q2]; exact h6) q1 q3 (by rw [hsl]; exact k2_hasslot (q4 k hk)) rfl rfl hd fun H' e1 e2 e3 => ?_
  rw [hsl] at e1 ⊢
  obtain ⟨hH', hD'⟩ := put_O (cell := cell) hc hkd hly hlk h0 hH hD hi ⟨_, e1, q2, q3, t_set q4 hap hk _⟩ e3
  exact kk H' _ ls hH' hD' (hS.put e2 e3 (hD.2 i _ 0 hi (Or.inl h0))) hl
theorem a_putOF (C : fcx G D z A X own cc nL ret) (i k : Nat) {q : Nat} {ly' : fl} {ty : FieldType} (hin : X.2.2.2.2.2.2.2.2.1.name = "<init>") (hd : decode cc pc = .ok (.putfield idx, 3)) (h0 : Nat.blt ci 900 = true) (hi : L[i]? = some (ci, ly, (o, ad, g, r, h))) (hc : G.2[ci]? = some (C0, T, N)) (hk : k < N) (hf : Cond.fieldLink own idx (T k).1 (T k).2.1 (T k).2.2.1 ∈ G.1) (hfin : (T k).2.2.2 = true) (hown : (T k).1 = own) (hty : parseFieldDescriptor (T k).2.2.1 = some ty) (hn : narrow ty (.ref q) = .ref q) (hfit : fits ty (.ref q) = true) (hkd : 5 ≤ fo_kd ly k) (hly : ly.set k (5, 0) = ly') (hlk : k < ly.length)
    (kk : aw G D z A X nL (pc + 3) lo st (L.set i (ci, ly', (o, va_up ad k q, g, r, h))) nc ns) : aw G D z A X nL pc lo (.ref q :: .ref o :: st) L nc ns := by
  intro H locs ls hH hD hS hl
  obtain ⟨q0, h1, cell, q1, q2, q3, q4⟩ := (hH i _ 0 hi (Or.inl h0)).o h0
  have hr : q0 = (C0, T, N) := Option.some.inj (h1.symm.trans hc)
  subst hr
  have hts := C.tb.lays C.gk hc X.2.2.2.2.2.2.1
  obtain ⟨-, hnm, ty0, hty0⟩ := C.gk ci _ hc
  have hap := va_apart (own := own) (D := D) hts (fun _ hw => hw) ty0 hty0 hnm C.kn hc
  obtain ⟨hSl, hfc, kC, hkC, hkind⟩ := C.kn.1 ci _ hc
  obtain ⟨cf, kf, fi, f, hi2, hsl⟩ := hSl k hk
  have hlay := hts _ (u_in_lay hk)
  unfold u_lay at hlay
  rw [if_pos hfin] at hlay
  have hst := (u_facts hfc hkC (u_lays hts (fun _ hw => hw) hk) hi2).1
  have hcf : X.2.2.2.2.2.1.cls = cf := by
    obtain ⟨_, _, c', _, _, _, -, -, hf', -, -, -, hown2, -⟩ := Cond.laysFinal_spec hlay
    have e1 : c' = cf := by have := hi2.symm.trans hf'; simp at this; exact this.1.symm
    rw [hown] at hown2
    rw [← e1]; exact Option.some.inj (C.ow.symm.trans hown2)
  have h6 := u_fits hfc hkC hkind (Or.inr hlay) hi2 hty hn hfit
  refine W.putFinK C.x C.b C.ow (C.tb.use hf rfl) hi2 hst hcf hin (by rw [q2]; exact h6) q1 q3 (by rw [hsl]; exact k2_hasslot (q4 k hk)) rfl rfl hd fun H' e1 e2 e3 => ?_
  rw [hsl] at e1 ⊢
  obtain ⟨hH', hD'⟩ := put_O (cell := cell) hc hkd hly hlk h0 hH hD hi ⟨_, e1, q2, q3, t_set q4 hap hk _⟩ e3
  exact kk H' _ ls hH' hD' (hS.put e2 e3 (hD.2 i _ 0 hi (Or.inl h0))) hl
theorem a_aald (C : fcx G D z A X own cc nL ret) (i t0 : Nat) {n : Nat} {j : Int32} {E : String} (hd : decode cc pc = .ok (.aaload, 1)) (h9 : Nat.ble 950 ci = true) (hi : L[i]? = some (ci, ly, (o, ad, g, r, h))) (hn : fo_ln ly 0 = n) (hz : (zx z)[t0]? = some (z ci, .object E)) (hj : vp_in j n) (hg : ¬ g j.toNatClampNeg = 0)
    (kk : aw G D z A X nL (pc + 1) lo (.ref (ad j.toNatClampNeg) :: st) L nc ns) : aw G D z A X nL pc lo (.int j :: .ref o :: st) L nc ns := by
  intro H locs ls hH hD hS hl
  have hcell := (hH i _ 0 hi (Or.inr h9)).q h9
  have hlt : j.toNatClampNeg < n := Nat.not_le.mp fun q => hj (Or.inr q)
  rw [hn] at hcell
  have ht : ([(z 2, .int), (z 3, .boolean), (z 4, .long)] ++ zx z : List (ClassId × FieldType))[3 + t0]? = some (z ci, .object E) := by
    rw [List.getElem?_append_right (by show 3 ≤ 3 + t0; omega)]
    show (zx z)[3 + t0 - 3]? = _
    rw [show 3 + t0 - 3 = t0 by omega]
    exact hz
  exact W.aald (v := .ref (ad j.toNatClampNeg)) (ty := .object E) C.x C.b hcell ((C.kn.2 (3 + t0) _ ht).1 n (fun q => va_rf (if g q = 0 then none else some (ad q)))) rfl (fun q => by cases q) (by show ¬ (j < 0 ∨ (arrV _ _ _).slots.size ≤ _); rw [arrV_size]; exact hj) (by show (arrV _ _ _).slots[_]? = _; rw [arrV_read _ _ hlt]; simp [hg]; rfl) rfl rfl hd (kk H locs ls hH hD hS hl)
theorem a_gets (C : fcx G D z A X own cc nL ret) {Cn n d : String} {v : Value} (hd : decode cc pc = .ok (.getstatic idx, 3)) (hZ : va_Z Cn n d v A X.2.2.2.2.1 X.2.2.2.2.1.heap) (hf : Cond.fieldLink own idx Cn n d ∈ G.1) (kk : aw G D z A X nL (pc + 3) lo (v :: st) L nc ns) : aw G D z A X nL pc lo st L nc ns := by
  intro H locs ls hH hD hS hl
  exact va_gets C.x C.b hZ hS C.ow (C.tb.use hf rfl) (fun _ h => h) hd (kk H locs ls hH hD hS hl)
theorem a_getsN (C : fcx G D z A X own cc nL ret) {Cn n d host : String} {v : Value} (hd : decode cc pc = .ok (.getstatic idx, 3)) (hZ : va_Z Cn n d v A X.2.2.2.2.1 X.2.2.2.2.1.heap) (hf : Cond.fieldLinkNest own idx Cn n d host ∈ G.1) (kk : aw G D z A X nL (pc + 3) lo (v :: st) L nc ns) : aw G D z A X nL pc lo st L nc ns := by
  intro H locs ls hH hD hS hl
  exact va_getsN C.x C.b hZ hS C.ow (C.tb.use hf rfl) (fun _ h => h) hd (kk H locs ls hH hD hS hl)
theorem a_tld (C : fcx G D z A X own cc nL ret) {t n : Nat} {f : Nat → Int32} {j : Int32} (hd : decode cc pc = .ok (.iaload, 1)) (hT : va_T .int t n (fun q => .int (f q)) A X.2.2.2.2.1 X.2.2.2.2.1.heap) (hj : vp_in j n)
    (kk : aw G D z A X nL (pc + 1) lo (.int (f j.toNatClampNeg) :: st) L nc ns) : aw G D z A X nL pc lo (.int j :: .ref t :: st) L nc ns := by
  intro H locs ls hH hD hS hl
  obtain ⟨cell, h1, h2, h3, h4, h5, h6, h7⟩ := hT
  have hlt : j.toNatClampNeg < n := Nat.not_le.mp fun q => hj (Or.inr q)
  exact W.iald (v := .int (f j.toNatClampNeg)) C.x C.b (by rw [hS.2.1 t (Array.getElem?_eq_some_iff.mp h1).1 h7]; exact h1) h2 h3 (fun q => by
    rcases q with q | q
    · exact hj (Or.inl q)
    · omega) (h6 _ hlt) rfl rfl hd (kk H locs ls hH hD hS hl)
theorem a_look (C : fcx G D z A X own cc nL ret) {dflt : Int} {ps : Array (Int × Int)} {len : Nat} {x : Int32} {off : Int} {tgt : Nat} (hd : decode cc pc = .ok (.lookupswitch dflt ps, len)) (hp : (ps.toList.zip (ps.toList.drop 1)).all (fun (a, next) => a.1 < next.1) = true) (ho : Op.lookupswitch.offset ps.toList dflt x.toInt = off) (ht : (pc : Int) + off = (tgt : Int)) (k : aw G D z A X nL tgt lo st L nc ns) : aw G D z A X nL pc lo (.int x :: st) L nc ns :=
  fun H locs ls hH hD hS hl => lv_lookup C.x C.b hd hp ho ht (k H locs ls hH hD hS hl)
theorem a_new (C : fcx G D z A X own cc nL ret) {q0 : Nat} (ly0 : fl) (ty : Nat → FieldType) (hty : ∀ k, k < N → parseFieldDescriptor (T k).2.2.1 = some (ty k)) (hd : decode cc pc = .ok (.new idx, 3)) (h0 : Nat.blt ci 900 = true) (hc : G.2[ci]? = some (C0, T, N)) (hcl : Cond.classLink own idx C0 ∈ G.1) (hins : Cond.instantiable C0 N ∈ G.1) (hini : Cond.initialized C0 ∈ G.1) (hfs : ∀ j, j < N → ∀ q, defaultValue (ty j) = fo_v ly0 (q, fun _ => 0, fun _ => 0, fun _ _ => 0, fun _ _ => 0) j) (hk0 : ∀ t, ¬ (2 ≤ fo_kd ly0 t ∧ fo_kd ly0 t ≤ 4)) (hcells : nc + 1 ≤ X.2.2.2.1.cells) (hslots : ns + N ≤ X.2.2.2.1.slots)
    (kk : ∀ q : Nat, aw G D z A X nL (pc + 3) lo (.ref q :: st) (L ++ [(ci, ly0, (q, fun _ => 0, fun _ => 0, fun _ _ => 0, fun _ _ => 0))]) (nc + 1) (ns + N)) : aw G D z A X nL pc lo st L nc ns := by
  intro H locs ls hH hD hS hl
  have hKn := C.kn.1 ci _ hc
  refine W.newcK C.x C.b C.ow (C.tb.use hcl rfl) (C.tb.use hins rfl) (C.tb.use hini rfl) rfl hd hcells hslots hKn.2.1 rfl fun H1 kC hkC e1 z1 o1 => ?_
  have hu : ∀ t, fo_ok ci ly0 t → t = 0 := by
    intro t ht
    cases t with
    | zero => rfl
    | succ t => exact absurd ht (hk0 t)
  obtain ⟨hH', hD'⟩ := fw_push (u := (ci, ly0, (H.size, fun _ => 0, fun _ => 0, fun _ _ => 0, fun _ _ => 0))) hH hD o1 (fun t ht => by
      cases hu t ht
      exact ⟨fo_at.i h0 ⟨_, hc, (u_born ty (C.tb.lays C.gk hc X.2.2.2.2.2.2.1) (fun _ hw => hw) hKn hkC e1 hty).to (fun j hj => hfs j hj _)⟩, Nat.le_refl _, C.hA _ hS.1⟩) (fun t t' ht ht' _ => (hu t ht).trans (hu t' ht').symm)
  exact kk H.size H1 locs ls hH' hD' ⟨Nat.le_trans hS.1 (by omega), fun x h1 h2 => (o1 x (Nat.lt_of_lt_of_le h1 hS.1)).trans (hS.2.1 x h1 h2), hS.2.2⟩ hl
theorem a_aret {L0 : fw} {mc ms : Nat} {Post : Outcome → fw → Prop} (C : fcx G D z A X own cc nL ret) (hQ : X.2.2.2.2.2.2.2.2.2.2 = eQ G D z X.2.2.2.2.2.2.2.1 X.2.2.2.2.1 L0 mc ms Post) (hA : A = owA G L0 X.2.2.2.2.1.heap.size) {q : Nat} {En : String} (hd : decode cc pc = .ok (.areturn, 1)) (hr : ret = some (.object En)) (hp : Post (.returned (some (.ref q))) L) : aw G D z A X nL pc lo [.ref q] L mc ms := by
  intro H locs ls hH hD hS hl
  rw [hQ]
  subst hA
  exact eQ_of hH hD hS hp (W.aret C.x C.b (C.r.trans hr) (Or.inl ⟨_, rfl⟩) (Or.inr ⟨_, rfl⟩) (fun t ht _ => ⟨rfl, ht⟩) hS.2.2 hd C.lk)
end NEST
section CALLN
variable {G : List Cond × List vw_C} {D : va_G} {z : Nat → ClassId} {A : Nat → Prop} {X : cx} {nL pc : Nat} {lo : List (Option Value)} {st : List Value} {L Lc Lr : fw} {nc ns : Nat} {own : String} {cc : ByteArray} {ret : Option FieldType}
variable {y : MethodName} {cc' : ByteArray} {nL' : Nat} {ret' : Option FieldType} {fr lc mc ms idx : Nat} {Post : Outcome → fw → Prop} {rest av : List Value} {ig : Instr}
theorem inv_VN (C : fcx G D z A X own cc nL ret) {As : List Value} {b ci : Nat} {ly : fl} {R : fo} {Cn : String} {T0 : u_T} {N : Nat} {host : String} (i0 : Nat) (hd : decode cc pc = .ok (.invokevirtual idx, 3)) (hl : Cond.methodLinkNest own idx y host ∈ G.1) (hin : Cond.instanceMethod y ∈ G.1) (hse : Cond.selects Cn y y ∈ G.1) (hco : Cond.code y cc' nL' ret' ∈ G.1) (hy : y.cls ≠ "java/lang/invoke/MethodHandle" ∧ y.cls ≠ "java/lang/invoke/VarHandle") (hlen : (parseMethodDescriptor y.desc).map (fun d => d.parameters.length) = some As.length)
    (hst : st = As.reverse ++ .ref b :: rest) (h0 : Nat.blt ci 900 = true) (hi : L[i0]? = some (ci, ly, R)) (hb : R.1 = b) (hcl : G.2[ci]? = some (Cn, T0, N)) :
    ∀ (H : Heap) (locs : List Loc) (ls : Array Slot), fw_H D G.2 z L H → ls.size = nL → inv_ok X nc ns H locs (F0 X.2.2.2.2.2.1 pc ls st) rest (.ref b :: As) y := by
  intro H locs ls hH hls T hT XX
  subst hb
  obtain ⟨q, h1, cell, q1, q2, q3, q4⟩ := (hH i0 _ 0 hi (Or.inl h0)).o h0
  obtain ⟨mk, methM, hnamed, hmethM, hstM, habM⟩ := Cond.instanceMethod_spec (C.tb.use (a := X.2.2.2.2.2.2.1) hin rfl)
  obtain ⟨methM', cM, hmethM', -, -, -, -, -, -, hsigM⟩ := Cond.code_spec hnamed (C.tb.use (a := X.2.2.2.2.2.2.1) hco rfl)
  cases hmethM.symm.trans hmethM'
  obtain ⟨c2, r2, m2, g1, g2, g3, g4, kP, hkP, hkPi⟩ := Cond.selects_spec (C.tb.use (a := X.2.2.2.2.2.2.1) hse rfl)
  have hcls : X.2.2.2.2.1.vm.findClass Cn = some cell.cls := by rw [q2]; exact (C.kn.1 ci _ hcl).2.1
  cases hcls.symm.trans g1
  cases (State.methodFound?_of_named hnamed hy).symm.trans g2
  cases hnamed.symm.trans g3
  have hselP : selectMethod X.2.2.1.platform X.2.2.2.2.1.vm cell.cls mk = .method mk := by rw [Launch.admits_selectMethod XX.admits]; exact g4
  obtain ⟨vm₁, X₁, hstep₁⟩ := XX.invokevirtualNest C.x C.ow (C.tb.use (a := X.2.2.2.2.2.2.1) hl rfl) hnamed hmethM hstM hkP hkPi hy (a := R.1) (cell := cell) (by rw [hT]; exact q1)
    (fun zz h => by rw [q3] at h; cases h) hselP hmethM habM hkP hkPi (g := F0 X.2.2.2.2.2.1 pc ls st) rfl (argsL := As) (rest := rest) (by
      rw [hsigM] at hlen; exact (Option.some.inj hlen).symm) hst (by rw [C.b]; exact hd)
  exact ⟨vm₁, mk, X₁, X₁.named hnamed, fun target h => hstep₁ _ fun acts => by rw [doInvoke_state]; exact h⟩
theorem inv_SN {host : String} (C : fcx G D z A X own cc nL ret) (hd : decode cc pc = .ok (.invokestatic idx, 3)) (hl : Cond.methodLinkNest own idx y host ∈ G.1) (hsta : Cond.static y ∈ G.1) (hni : Cond.initialized y.cls ∈ G.1) (hco : Cond.code y cc' nL' ret' ∈ G.1) (hy : y.cls ≠ "java/lang/invoke/MethodHandle" ∧ y.cls ≠ "java/lang/invoke/VarHandle") (hlen : (parseMethodDescriptor y.desc).map (fun d => d.parameters.length) = some av.length)
    (hst : st = av.reverse ++ rest) :
    ∀ (H : Heap) (locs : List Loc) (ls : Array Slot), fw_H D G.2 z L H → ls.size = nL → inv_ok X nc ns H locs (F0 X.2.2.2.2.2.1 pc ls st) rest av y := by
  intro H locs ls hH hls T hT XX
  obtain ⟨mk, hnamed⟩ := Cond.code_named (C.tb.use (a := X.2.2.2.2.2.2.1) hco rfl)
  obtain ⟨methM, cM, hmethM, -, -, -, -, -, -, hsigM⟩ := Cond.code_spec hnamed (C.tb.use (a := X.2.2.2.2.2.2.1) hco rfl)
  have hstatic : methM.isStatic = true := Cond.static_spec hnamed hmethM (C.tb.use (a := X.2.2.2.2.2.2.1) hsta rfl)
  obtain ⟨kP, hkP, -⟩ := className_of_methodNamed hnamed
  have hinitP : kP.init = .initialized := Cond.initialized_spec (findClass_of_methodNamed hnamed) hkP (C.tb.use (a := X.2.2.2.2.2.2.1) hni rfl)
  obtain ⟨vm₁, X₁, hstep₁⟩ := XX.invokestaticNest C.x C.ow (C.tb.use (a := X.2.2.2.2.2.2.1) hl rfl) hnamed hmethM hstatic hkP hinitP hy (g := F0 X.2.2.2.2.2.1 pc ls st) rfl (argsL := av) (rest := rest) (by
      rw [hsigM] at hlen; exact (Option.some.inj hlen).symm) hst (by rw [C.b]; exact hd)
  exact ⟨vm₁, mk, X₁, X₁.named hnamed, fun target h => hstep₁ _ fun acts => by rw [doInvoke_state]; exact h⟩
end CALLN
