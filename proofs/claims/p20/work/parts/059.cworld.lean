/-! THE STATE OF A CLASS WITH SEVERAL OBJECTS: units (objects and rows), each with its class' number (below 900), or 900 and its kind (a row of numbers), or 950 on (a row of objects), and its length. The state: numbers by units and places, long numbers, and which unit a place holds. -/
abbrev cs : Type := (Nat → Nat → Int32) × (Nat → Nat → Int64) × (Nat → Nat → Nat)
abbrev ut : Type := List (Nat × Nat)
def c_cl (U : ut) (u : Nat) : Nat := (U.getD u (999, 0)).1
def c_ln (U : ut) (u : Nat) : Nat := (U.getD u (999, 0)).2
def z_r : Nat → Nat → Int32 := fun _ _ => 0
def z_l : Nat → Nat → Int64 := fun _ _ => 0
/-- no unit: null -/
def NU : Nat := 1000000
/-- a layout with null where nothing is held -/
def lx (ly : fl) (f : Nat → Nat) : fl := ly.mapIdx (fun k x => if x.1 = 5 ∧ f k = NU then (6, x.2) else x)
theorem lx_kd (ly : fl) (f : Nat → Nat) (k : Nat) : fo_kd (lx ly f) k = if fo_kd ly k = 5 ∧ f k = NU then 6 else fo_kd ly k := by
  unfold fo_kd lx
  rw [List.getD_eq_getElem?_getD, List.getD_eq_getElem?_getD, List.getElem?_mapIdx]
  cases ly[k]? with
  | none => simp
  | some x =>
    simp only [Option.map_some, Option.getD_some]
    split <;> rfl
theorem lx_len (ly : fl) (f : Nat → Nat) : (lx ly f).length = ly.length := by simp [lx]
theorem lx_set {ly : fl} {f : Nat → Nat} {k w : Nat} (hk : ly[k]? = some (5, 0)) (hw : ¬ w = NU) : (lx ly f).set k (5, 0) = lx ly (va_up f k w) := by
  apply List.ext_getElem?
  intro j
  rw [List.getElem?_set]
  unfold lx
  rw [List.getElem?_mapIdx, List.getElem?_mapIdx]
  have hkl : k < ly.length := (List.getElem?_eq_some_iff.mp hk).1
  by_cases e : k = j
  · subst e
    rw [if_pos rfl, hk]
    simp [hkl, va_up, hw]
  · rw [if_neg e]
    have e2 : ¬ j = k := fun x => e x.symm
    simp [va_up, e2]
def c_u (lt : Nat → fl) (U : ut) (oa : Nat → Nat) (S : cs) (u : Nat) : Nat × fl × fo :=
  if Nat.blt (c_cl U u) 900 = true then (c_cl U u, lx (lt (c_cl U u)) (S.2.2 u), (oa u, fun k => oa (S.2.2 u k), S.1 u, z_r, z_l))
  else if Nat.ble 950 (c_cl U u) = true then (c_cl U u, [(5, c_ln U u)], (oa u, fun k => oa (S.2.2 u k), fun j => if S.2.2 u j = NU then 0 else 1, z_r, z_l))
  else (900, [(c_cl U u - 900, c_ln U u)], (0, fun _ => oa u, fun _ => 0, va_up z_r 0 (S.1 u), va_up z_l 0 (S.2.1 u)))
def cw (lt : Nat → fl) (U : ut) (oa : Nat → Nat) (S : cs) : fw := (List.range U.length).map (c_u lt U oa S)
def c_pi (S : cs) (u k : Nat) (v : Int32) : cs := (va_up S.1 u (upd (S.1 u) k v), S.2.1, S.2.2)
def c_pl (S : cs) (u k : Nat) (v : Int64) : cs := (S.1, va_up S.2.1 u (vp_updL (S.2.1 u) k v), S.2.2)
def c_pr (S : cs) (u k w : Nat) : cs := (S.1, S.2.1, va_up S.2.2 u (va_up (S.2.2 u) k w))
def c_pf (S : cs) (u : Nat) (f : Nat → Int32) : cs := (va_up S.1 u f, S.2.1, S.2.2)
def c_pF (S : cs) (u : Nat) (f : Nat → Int64) : cs := (S.1, va_up S.2.1 u f, S.2.2)
section CWL
variable {lt : Nat → fl} {U : ut} {oa : Nat → Nat} {S S' : cs} {u ci k : Nat}
theorem c_lt (h : c_cl U u = ci) (hn : ¬ ci = 999) : u < U.length := by
  refine Nat.not_le.mp fun hl => hn ?_
  rw [← h, c_cl, List.getD_eq_getElem?_getD, List.getElem?_eq_none hl]
  rfl
theorem cw_get (h : u < U.length) : (cw lt U oa S)[u]? = some (c_u lt U oa S u) := by
  unfold cw
  rw [List.getElem?_map, List.getElem?_range h]
  rfl
theorem cw_len : (cw lt U oa S).length = U.length := by simp [cw]
theorem blt_ne (h0 : Nat.blt ci 900 = true) : ¬ ci = 999 := by
  intro e
  subst e
  exact absurd h0 (by decide)
theorem cw_obj (h : c_cl U u = ci) (h0 : Nat.blt ci 900 = true) : (cw lt U oa S)[u]? = some (ci, lx (lt ci) (S.2.2 u), (oa u, fun k => oa (S.2.2 u k), S.1 u, z_r, z_l)) := by
  rw [cw_get (c_lt h (blt_ne h0)), c_u, if_pos (by rw [h]; exact h0), h]
theorem cw_row {kd : Nat} (h : c_cl U u = 900 + kd) (hk : kd < 50) : (cw lt U oa S)[u]? = some (900, [(kd, c_ln U u)], (0, fun _ => oa u, fun _ => 0, va_up z_r 0 (S.1 u), va_up z_l 0 (S.2.1 u))) := by
  rw [cw_get (c_lt h (by omega)), c_u, if_neg (by rw [h]; intro x; have := Nat.le_of_ble_eq_true x; omega), if_neg (by rw [h]; intro x; have := Nat.le_of_ble_eq_true x; omega), h, show 900 + kd - 900 = kd by omega]
theorem cw_rro (h : c_cl U u = ci) (h9 : Nat.ble 950 ci = true) (hn : ¬ ci = 999) : (cw lt U oa S)[u]? = some (ci, [(5, c_ln U u)], (oa u, fun k => oa (S.2.2 u k), fun j => if S.2.2 u j = NU then 0 else 1, z_r, z_l)) := by
  have hb : ¬ Nat.blt ci 900 = true := by
    have := Nat.le_of_ble_eq_true h9
    intro x
    have := Nat.le_of_ble_eq_true x
    omega
  rw [cw_get (c_lt h hn), c_u, if_neg (by rw [h]; exact hb), if_pos (by rw [h]; exact h9), h]
theorem cw_set {x : Nat × fl × fo} (hx : c_u lt U oa S' u = x) (hne : ∀ v, v ≠ u → c_u lt U oa S' v = c_u lt U oa S v) : (cw lt U oa S).set u x = cw lt U oa S' := by
  apply List.ext_getElem?
  intro j
  rw [List.getElem?_set]
  by_cases e : u = j
  · subst e
    rw [if_pos rfl, cw_len]
    by_cases hl : u < U.length
    · rw [if_pos hl, cw_get hl, hx]
    · rw [if_neg hl, List.getElem?_eq_none (by rw [cw_len]; omega)]
  · rw [if_neg e]
    by_cases hl : j < U.length
    · rw [cw_get hl, cw_get hl, hne j (fun x => e x.symm)]
    · rw [List.getElem?_eq_none (by rw [cw_len]; omega), List.getElem?_eq_none (by rw [cw_len]; omega)]
theorem up_up {α : Type} {f : Nat → α} {k : Nat} {a b : α} : va_up (va_up f k a) k b = va_up f k b := by
  funext j
  unfold va_up
  split <;> rfl
theorem up_at {α : Type} {f : Nat → α} {k : Nat} {a : α} : va_up f k a k = a := by simp [va_up]
theorem up_ne {α : Type} {f : Nat → α} {k j : Nat} {a : α} (h : j ≠ k) : va_up f k a j = f j := by simp [va_up, h]
theorem c_uI {v : Nat} {f : Nat → Int32} (h : v ≠ u) : c_u lt U oa (c_pf S u f) v = c_u lt U oa S v := by
  unfold c_u c_pf
  simp only [up_ne h]
theorem c_uL {v : Nat} {f : Nat → Int64} (h : v ≠ u) : c_u lt U oa (c_pF S u f) v = c_u lt U oa S v := by
  unfold c_u c_pF
  simp only [up_ne h]
theorem c_uR {v k w : Nat} (h : v ≠ u) : c_u lt U oa (c_pr S u k w) v = c_u lt U oa S v := by
  unfold c_u c_pr
  simp only [up_ne h]
theorem cw_sobj {f : Nat → Int32} (h : c_cl U u = ci) (h0 : Nat.blt ci 900 = true) : (cw lt U oa S).set u (ci, lx (lt ci) (S.2.2 u), (oa u, fun k => oa (S.2.2 u k), f, z_r, z_l)) = cw lt U oa (c_pf S u f) := by
  refine cw_set ?_ (fun v hv => c_uI hv)
  rw [c_u, if_pos (by rw [h]; exact h0), h]
  simp only [c_pf, up_at]
theorem cw_srow {kd : Nat} {f : Nat → Int32} (h : c_cl U u = 900 + kd) (hk : kd < 50) : (cw lt U oa S).set u (900, [(kd, c_ln U u)], (0, fun _ => oa u, fun _ => 0, va_up (va_up z_r 0 (S.1 u)) 0 f, va_up z_l 0 (S.2.1 u))) = cw lt U oa (c_pf S u f) := by
  refine cw_set ?_ (fun v hv => c_uI hv)
  rw [c_u, if_neg (by rw [h]; intro x; have := Nat.le_of_ble_eq_true x; omega), if_neg (by rw [h]; intro x; have := Nat.le_of_ble_eq_true x; omega), h, show 900 + kd - 900 = kd by omega]
  simp only [c_pf, up_at, up_up]
theorem cw_slow {kd : Nat} {f : Nat → Int64} (h : c_cl U u = 900 + kd) (hk : kd < 50) : (cw lt U oa S).set u (900, [(kd, c_ln U u)], (0, fun _ => oa u, fun _ => 0, va_up z_r 0 (S.1 u), va_up (va_up z_l 0 (S.2.1 u)) 0 f)) = cw lt U oa (c_pF S u f) := by
  refine cw_set ?_ (fun v hv => c_uL hv)
  rw [c_u, if_neg (by rw [h]; intro x; have := Nat.le_of_ble_eq_true x; omega), if_neg (by rw [h]; intro x; have := Nat.le_of_ble_eq_true x; omega), h, show 900 + kd - 900 = kd by omega]
  simp only [c_pF, up_at, up_up]
theorem cw_sref {k w : Nat} (h : c_cl U u = ci) (h0 : Nat.blt ci 900 = true) : (cw lt U oa S).set u (ci, lx (lt ci) (va_up (S.2.2 u) k w), (oa u, va_up (fun k => oa (S.2.2 u k)) k (oa w), S.1 u, z_r, z_l)) = cw lt U oa (c_pr S u k w) := by
  refine cw_set ?_ (fun v hv => c_uR hv)
  rw [c_u, if_pos (by rw [h]; exact h0), h]
  have e : (fun j => oa ((c_pr S u k w).2.2 u j)) = va_up (fun k => oa (S.2.2 u k)) k (oa w) := by
    funext j
    simp only [c_pr, up_at]
    unfold va_up
    split <;> rfl
  rw [e]
  simp only [c_pr, up_at]
theorem lx_le (h : fo_kd (lt ci) k ≤ 1) (f : Nat → Nat) : fo_kd (lx (lt ci) f) k ≤ 1 := by
  rw [lx_kd, if_neg (by omega)]
  exact h
theorem lx_5 (h : fo_kd (lt ci) k = 5) {f : Nat → Nat} (hn : ¬ f k = NU) : 2 ≤ fo_kd (lx (lt ci) f) k ∧ fo_kd (lx (lt ci) f) k ≤ 5 := by
  rw [lx_kd, if_neg (fun x => hn x.2), h]
  omega
theorem lx_56 (h : fo_kd (lt ci) k = 5) (f : Nat → Nat) : 5 ≤ fo_kd (lx (lt ci) f) k := by
  rw [lx_kd]
  split <;> omega
end CWL
section CWR
variable {G : List Cond × List vw_C} {D : va_G} {z : Nat → ClassId} {A : Nat → Prop} {X : cx} {nL pc : Nat} {lo : List (Option Value)} {st : List Value} {nc ns : Nat} {own : String} {cc : ByteArray} {ret : Option FieldType}
variable {lt : Nat → fl} {U : ut} {oa : Nat → Nat} {S : cs} {ci : Nat} {C0 : String} {T : u_T} {N idx : Nat}
theorem c_getI (C : fcx G D z A X own cc nL ret) (u k : Nat) (hd : decode cc pc = .ok (.getfield idx, 3)) (hu : c_cl U u = ci) (h0 : Nat.blt ci 900 = true) (hc : G.2[ci]? = some (C0, T, N)) (hk : k < N) (hf : Cond.fieldLink own idx (T k).1 (T k).2.1 (T k).2.2.1 ∈ G.1) (hkd : fo_kd (lt ci) k ≤ 1)
    (kk : aw G D z A X nL (pc + 3) lo (.int (S.1 u k) :: st) (cw lt U oa S) nc ns) : aw G D z A X nL pc lo (.ref (oa u) :: st) (cw lt U oa S) nc ns := a_getI C u k hd h0 (cw_obj hu h0) hc hk hf (lx_le hkd _) kk
theorem c_getIN (C : fcx G D z A X own cc nL ret) {host : String} (u k : Nat) (hd : decode cc pc = .ok (.getfield idx, 3)) (hu : c_cl U u = ci) (h0 : Nat.blt ci 900 = true) (hc : G.2[ci]? = some (C0, T, N)) (hk : k < N) (hf : Cond.fieldLinkNest own idx (T k).1 (T k).2.1 (T k).2.2.1 host ∈ G.1) (hkd : fo_kd (lt ci) k ≤ 1)
    (kk : aw G D z A X nL (pc + 3) lo (.int (S.1 u k) :: st) (cw lt U oa S) nc ns) : aw G D z A X nL pc lo (.ref (oa u) :: st) (cw lt U oa S) nc ns := a_getIN C u k hd h0 (cw_obj hu h0) hc hk hf (lx_le hkd _) kk
theorem c_getR (C : fcx G D z A X own cc nL ret) (u k : Nat) (hd : decode cc pc = .ok (.getfield idx, 3)) (hu : c_cl U u = ci) (h0 : Nat.blt ci 900 = true) (hc : G.2[ci]? = some (C0, T, N)) (hk : k < N) (hf : Cond.fieldLink own idx (T k).1 (T k).2.1 (T k).2.2.1 ∈ G.1) (hkd : fo_kd (lt ci) k = 5) (hnu : ¬ S.2.2 u k = NU)
    (kk : aw G D z A X nL (pc + 3) lo (.ref (oa (S.2.2 u k)) :: st) (cw lt U oa S) nc ns) : aw G D z A X nL pc lo (.ref (oa u) :: st) (cw lt U oa S) nc ns := a_getR C u k hd h0 (cw_obj hu h0) hc hk hf (lx_5 hkd hnu) kk
theorem c_getRN (C : fcx G D z A X own cc nL ret) {host : String} (u k : Nat) (hd : decode cc pc = .ok (.getfield idx, 3)) (hu : c_cl U u = ci) (h0 : Nat.blt ci 900 = true) (hc : G.2[ci]? = some (C0, T, N)) (hk : k < N) (hf : Cond.fieldLinkNest own idx (T k).1 (T k).2.1 (T k).2.2.1 host ∈ G.1) (hkd : fo_kd (lt ci) k = 5) (hnu : ¬ S.2.2 u k = NU)
    (kk : aw G D z A X nL (pc + 3) lo (.ref (oa (S.2.2 u k)) :: st) (cw lt U oa S) nc ns) : aw G D z A X nL pc lo (.ref (oa u) :: st) (cw lt U oa S) nc ns := a_getRN C u k hd h0 (cw_obj hu h0) hc hk hf (lx_5 hkd hnu) kk
theorem c_putI (C : fcx G D z A X own cc nL ret) (u k : Nat) {v : Int32} {ty : FieldType} (hd : decode cc pc = .ok (.putfield idx, 3)) (hu : c_cl U u = ci) (h0 : Nat.blt ci 900 = true) (hc : G.2[ci]? = some (C0, T, N)) (hk : k < N) (hf : Cond.fieldLink own idx (T k).1 (T k).2.1 (T k).2.2.1 ∈ G.1) (hkd : fo_kd (lt ci) k ≤ 1) (hfin : (T k).2.2.2 = false) (hty : parseFieldDescriptor (T k).2.2.1 = some ty) (hn : narrow ty (.int v) = .int v) (hfit : fits ty (.int v) = true)
    (kk : aw G D z A X nL (pc + 3) lo st (cw lt U oa (c_pi S u k v)) nc ns) : aw G D z A X nL pc lo (.int v :: .ref (oa u) :: st) (cw lt U oa S) nc ns := a_putI C u k hd h0 (cw_obj hu h0) hc hk hf (lx_le hkd _) hfin hty hn hfit (by rw [cw_sobj hu h0]; exact kk)
theorem c_putIN (C : fcx G D z A X own cc nL ret) {host : String} (u k : Nat) {v : Int32} {ty : FieldType} (hd : decode cc pc = .ok (.putfield idx, 3)) (hu : c_cl U u = ci) (h0 : Nat.blt ci 900 = true) (hc : G.2[ci]? = some (C0, T, N)) (hk : k < N) (hf : Cond.fieldLinkNest own idx (T k).1 (T k).2.1 (T k).2.2.1 host ∈ G.1) (hkd : fo_kd (lt ci) k ≤ 1) (hfin : (T k).2.2.2 = false) (hty : parseFieldDescriptor (T k).2.2.1 = some ty) (hn : narrow ty (.int v) = .int v) (hfit : fits ty (.int v) = true)
    (kk : aw G D z A X nL (pc + 3) lo st (cw lt U oa (c_pi S u k v)) nc ns) : aw G D z A X nL pc lo (.int v :: .ref (oa u) :: st) (cw lt U oa S) nc ns := a_putIN C u k hd h0 (cw_obj hu h0) hc hk hf (lx_le hkd _) hfin hty hn hfit (by rw [cw_sobj hu h0]; exact kk)
theorem c_putR (C : fcx G D z A X own cc nL ret) (u k : Nat) {w : Nat} {ty : FieldType} (hd : decode cc pc = .ok (.putfield idx, 3)) (hu : c_cl U u = ci) (h0 : Nat.blt ci 900 = true) (hc : G.2[ci]? = some (C0, T, N)) (hk : k < N) (hf : Cond.fieldLink own idx (T k).1 (T k).2.1 (T k).2.2.1 ∈ G.1) (hfin : (T k).2.2.2 = false) (hty : parseFieldDescriptor (T k).2.2.1 = some ty) (hn : ∀ q, narrow ty (.ref q) = .ref q) (hfit : ∀ q, fits ty (.ref q) = true) (hkd : fo_kd (lt ci) k = 5) (hlk : (lt ci)[k]? = some (5, 0)) (hnw : ¬ w = NU)
    (kk : aw G D z A X nL (pc + 3) lo st (cw lt U oa (c_pr S u k w)) nc ns) : aw G D z A X nL pc lo (.ref (oa w) :: .ref (oa u) :: st) (cw lt U oa S) nc ns := a_putO C u k hd h0 (cw_obj hu h0) hc hk hf hfin hty (hn _) (hfit _) (lx_56 hkd _) (lx_set hlk hnw) (by rw [lx_len]; exact (List.getElem?_eq_some_iff.mp hlk).1) (by rw [cw_sref hu h0]; exact kk)
theorem c_iald (C : fcx G D z A X own cc nL ret) (u : Nat) {j : Int32} (hd : decode cc pc = .ok (.iaload, 1)) (hu : c_cl U u = 902) (hj : vp_in j (c_ln U u))
    (kk : aw G D z A X nL (pc + 1) lo (.int (S.1 u j.toNatClampNeg) :: st) (cw lt U oa S) nc ns) : aw G D z A X nL pc lo (.int j :: .ref (oa u) :: st) (cw lt U oa S) nc ns := a_iald C u 0 hd (cw_row (kd := 2) hu (by decide)) rfl rfl hj (by rw [up_at]; exact kk)
theorem c_zald (C : fcx G D z A X own cc nL ret) (u : Nat) {j : Int32} (hd : decode cc pc = .ok (.baload, 1)) (hu : c_cl U u = 903) (hj : vp_in j (c_ln U u))
    (kk : aw G D z A X nL (pc + 1) lo (.int (S.1 u j.toNatClampNeg) :: st) (cw lt U oa S) nc ns) : aw G D z A X nL pc lo (.int j :: .ref (oa u) :: st) (cw lt U oa S) nc ns := a_zald C u 0 hd (cw_row (kd := 3) hu (by decide)) rfl rfl hj (by rw [up_at]; exact kk)
theorem c_lald (C : fcx G D z A X own cc nL ret) (u : Nat) {j : Int32} (hd : decode cc pc = .ok (.laload, 1)) (hu : c_cl U u = 904) (hj : vp_in j (c_ln U u))
    (kk : aw G D z A X nL (pc + 1) lo (.long (S.2.1 u j.toNatClampNeg) :: st) (cw lt U oa S) nc ns) : aw G D z A X nL pc lo (.int j :: .ref (oa u) :: st) (cw lt U oa S) nc ns := a_lald C u 0 hd (cw_row (kd := 4) hu (by decide)) rfl rfl hj (by rw [up_at]; exact kk)
theorem c_alen (C : fcx G D z A X own cc nL ret) (u : Nat) (hd : decode cc pc = .ok (.arraylength, 1)) (hu : c_cl U u = 902)
    (kk : aw G D z A X nL (pc + 1) lo (.int (nI (c_ln U u)) :: st) (cw lt U oa S) nc ns) : aw G D z A X nL pc lo (.ref (oa u) :: st) (cw lt U oa S) nc ns := a_alen C u 0 hd (cw_row (kd := 2) hu (by decide)) rfl rfl kk
theorem c_iast (C : fcx G D z A X own cc nL ret) (u : Nat) {j x : Int32} (hd : decode cc pc = .ok (.iastore, 1)) (hu : c_cl U u = 902) (hj : vp_in j (c_ln U u))
    (kk : aw G D z A X nL (pc + 1) lo st (cw lt U oa (c_pi S u j.toNatClampNeg x)) nc ns) : aw G D z A X nL pc lo (.int x :: .int j :: .ref (oa u) :: st) (cw lt U oa S) nc ns := a_iast C u 0 hd (cw_row (kd := 2) hu (by decide)) rfl rfl hj (by rw [up_at, cw_srow (kd := 2) hu (by decide)]; exact kk)
theorem c_zast (C : fcx G D z A X own cc nL ret) (u : Nat) {j x : Int32} (hd : decode cc pc = .ok (.bastore, 1)) (hu : c_cl U u = 903) (hj : vp_in j (c_ln U u))
    (kk : aw G D z A X nL (pc + 1) lo st (cw lt U oa (c_pi S u j.toNatClampNeg (vp_nar .boolean x))) nc ns) : aw G D z A X nL pc lo (.int x :: .int j :: .ref (oa u) :: st) (cw lt U oa S) nc ns := a_zast C u 0 hd (cw_row (kd := 3) hu (by decide)) rfl rfl hj (by rw [up_at, cw_srow (kd := 3) hu (by decide)]; exact kk)
theorem c_last (C : fcx G D z A X own cc nL ret) (u : Nat) {j : Int32} {x : Int64} (hd : decode cc pc = .ok (.lastore, 1)) (hu : c_cl U u = 904) (hj : vp_in j (c_ln U u))
    (kk : aw G D z A X nL (pc + 1) lo st (cw lt U oa (c_pl S u j.toNatClampNeg x)) nc ns) : aw G D z A X nL pc lo (.long x :: .int j :: .ref (oa u) :: st) (cw lt U oa S) nc ns := a_last C u 0 hd (cw_row (kd := 4) hu (by decide)) rfl rfl hj (by rw [up_at, cw_slow (kd := 4) hu (by decide)]; exact kk)
theorem c_aald (C : fcx G D z A X own cc nL ret) (u t0 : Nat) {j : Int32} {E : String} (hd : decode cc pc = .ok (.aaload, 1)) (hu : c_cl U u = ci) (h9 : Nat.ble 950 ci = true) (hn : ¬ ci = 999) (hz : (zx z)[t0]? = some (z ci, .object E)) (hj : vp_in j (c_ln U u)) (hnu : ¬ S.2.2 u j.toNatClampNeg = NU)
    (kk : aw G D z A X nL (pc + 1) lo (.ref (oa (S.2.2 u j.toNatClampNeg)) :: st) (cw lt U oa S) nc ns) : aw G D z A X nL pc lo (.int j :: .ref (oa u) :: st) (cw lt U oa S) nc ns := a_aald C u t0 hd h9 (cw_rro hu h9 hn) rfl hz hj (by rw [if_neg hnu]; decide) kk
end CWR
