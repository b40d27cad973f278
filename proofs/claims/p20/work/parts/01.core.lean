/-! FLAT OBJECTS: an object with rows of numbers that it alone holds; a world is a list of them -/
/-- a flat object: address; addresses of its rows (by slots); its numbers; its rows of ints; its rows of longs -/
abbrev fo : Type := Nat × (Nat → Nat) × (Nat → Int32) × (Nat → Nat → Int32) × (Nat → Nat → Int64)
/-- a layout, by slots: kind (0 int, 1 boolean, 2 int[], 3 boolean[], 4 long[], 5 another object, 6 null) and length -/
abbrev fl : Type := List (Nat × Nat)
def fo_kd (ly : fl) (k : Nat) : Nat := (ly.getD k (0, 0)).1
def fo_ln (ly : fl) (k : Nat) : Nat := (ly.getD k (0, 0)).2
def fo_v (ly : fl) (R : fo) (k : Nat) : Value := if fo_kd ly k ≤ 1 then .int (R.2.2.1 k) else if fo_kd ly k = 6 then .null else .ref (R.2.1 k)
def fo_ad (R : fo) : Nat → Nat
  | 0 => R.1
  | k + 1 => R.2.1 k
def fo_ok (ci : Nat) (ly : fl) : Nat → Prop
  | 0 => Nat.blt ci 900 = true ∨ Nat.ble 950 ci = true
  | k + 1 => 2 ≤ fo_kd ly k ∧ fo_kd ly k ≤ 4
def fo_x (ly : fl) (R : fo) (k : Nat) : vp_A := (fo_ln ly k, if fo_kd ly k = 4 then .inr (.inl (R.2.2.2.2 k)) else .inl (R.2.2.2.1 k))
def fo_at (D : va_G) (cl : List vw_C) (z : Nat → ClassId) (ci : Nat) (ly : fl) (R : fo) (H : Heap) : Nat → Prop
  | 0 => if Nat.blt ci 900 = true then ∃ q : vw_C, cl[ci]? = some q ∧ t_OB R.1 (D.1 ci) q.2.2 (D.2 ci) H (fo_v ly R) else H[R.1]? = some (vp_cell (z ci) (fo_ln ly 0, .inr (.inr (.inr (.inr (fun j => if R.2.2.1 j = 0 then none else some (R.2.1 j)))))))
  | k + 1 => H[R.2.1 k]? = some (vp_cell (z (fo_kd ly k)) (fo_x ly R k))
theorem fo_at.o {D : va_G} {cl : List vw_C} {z : Nat → ClassId} {ci : Nat} {ly : fl} {R : fo} {H : Heap} (h0 : Nat.blt ci 900 = true) (h : fo_at D cl z ci ly R H 0) : ∃ q : vw_C, cl[ci]? = some q ∧ t_OB R.1 (D.1 ci) q.2.2 (D.2 ci) H (fo_v ly R) := by
  unfold fo_at at h
  rwa [if_pos h0] at h
theorem fo_at.i {D : va_G} {cl : List vw_C} {z : Nat → ClassId} {ci : Nat} {ly : fl} {R : fo} {H : Heap} (h0 : Nat.blt ci 900 = true) (h : ∃ q : vw_C, cl[ci]? = some q ∧ t_OB R.1 (D.1 ci) q.2.2 (D.2 ci) H (fo_v ly R)) : fo_at D cl z ci ly R H 0 := by
  unfold fo_at
  rwa [if_pos h0]
theorem fo_at.q {D : va_G} {cl : List vw_C} {z : Nat → ClassId} {ci : Nat} {ly : fl} {R : fo} {H : Heap} (h0 : Nat.ble 950 ci = true) (h : fo_at D cl z ci ly R H 0) : H[R.1]? = some (vp_cell (z ci) (fo_ln ly 0, .inr (.inr (.inr (.inr (fun j => if R.2.2.1 j = 0 then none else some (R.2.1 j))))))) := by
  unfold fo_at at h
  rwa [if_neg (by have := Nat.le_of_ble_eq_true h0; intro x; have := Nat.le_of_ble_eq_true x; omega)] at h
theorem fo_at.r {D : va_G} {cl : List vw_C} {z : Nat → ClassId} {ci : Nat} {ly : fl} {R : fo} {H : Heap} (h0 : Nat.ble 950 ci = true) (h : H[R.1]? = some (vp_cell (z ci) (fo_ln ly 0, .inr (.inr (.inr (.inr (fun j => if R.2.2.1 j = 0 then none else some (R.2.1 j)))))))) : fo_at D cl z ci ly R H 0 := by
  unfold fo_at
  rwa [if_neg (by have := Nat.le_of_ble_eq_true h0; intro x; have := Nat.le_of_ble_eq_true x; omega)]
/-- a world: flat objects with their classes' numbers (900: a row of numbers alone; from 950 on: a row of objects alone, of the kind of that number) and layouts -/
abbrev fw : Type := List (Nat × fl × fo)
def fw_H (D : va_G) (cl : List vw_C) (z : Nat → ClassId) (L : fw) (H : Heap) : Prop := ∀ (i : Nat) (q : Nat × fl × fo) (t : Nat), L[i]? = some q → fo_ok q.1 q.2.1 t → fo_at D cl z q.1 q.2.1 q.2.2 H t
def fw_D (A : Nat → Prop) (L : fw) : Prop := (∀ (i j : Nat) (p q : Nat × fl × fo) (t u : Nat), L[i]? = some p → L[j]? = some q → fo_ok p.1 p.2.1 t → fo_ok q.1 q.2.1 u → fo_ad p.2.2 t = fo_ad q.2.2 u → i = j ∧ t = u) ∧ ∀ (i : Nat) (q : Nat × fl × fo) (t : Nat), L[i]? = some q → fo_ok q.1 q.2.1 t → A (fo_ad q.2.2 t)
theorem fo_at.kept {D : va_G} {cl : List vw_C} {z : Nat → ClassId} {ci : Nat} {ly : fl} {R : fo} {H H1 : Heap} {t : Nat} (h : fo_at D cl z ci ly R H t) (hq : H1[fo_ad R t]? = H[fo_ad R t]?) : fo_at D cl z ci ly R H1 t := by
  cases t with
  | zero =>
    by_cases h0 : Nat.blt ci 900 = true
    · obtain ⟨q, h1, h2⟩ := h.o h0
      exact fo_at.i h0 ⟨q, h1, h2.kept hq⟩
    · unfold fo_at at h ⊢
      rw [if_neg h0] at h ⊢
      exact hq.trans h
  | succ k => exact hq.trans h
theorem fo_at.lt {D : va_G} {cl : List vw_C} {z : Nat → ClassId} {ci : Nat} {ly : fl} {R : fo} {H : Heap} {t : Nat} (h : fo_at D cl z ci ly R H t) : fo_ad R t < H.size := by
  cases t with
  | zero =>
    by_cases h0 : Nat.blt ci 900 = true
    · obtain ⟨q, h1, cell, h2, -⟩ := h.o h0
      exact (Array.getElem?_eq_some_iff.mp h2).1
    · unfold fo_at at h
      rw [if_neg h0] at h
      exact (Array.getElem?_eq_some_iff.mp h).1
  | succ k => exact (Array.getElem?_eq_some_iff.mp h).1
theorem fw_seti {L : fw} {i j : Nat} {p q : Nat × fl × fo} (h : (L.set i p)[j]? = some q) : (j = i ∧ q = p ∧ i < L.length) ∨ (j ≠ i ∧ L[j]? = some q) := by
  rw [List.getElem?_set] at h
  by_cases e : i = j
  · subst e
    rw [if_pos rfl] at h
    by_cases hl : i < L.length
    · rw [if_pos hl] at h
      exact Or.inl ⟨rfl, (Option.some.inj h).symm, hl⟩
    · rw [if_neg hl] at h; cases h
  · rw [if_neg e] at h
    exact Or.inr ⟨fun x => e x.symm, h⟩
theorem fw_set {D : va_G} {cl : List vw_C} {z : Nat → ClassId} {A : Nat → Prop} {L : fw} {H H1 : Heap} {i ci t : Nat} {ly : fl} {R R' : fo} (hH : fw_H D cl z L H) (hD : fw_D A L) (hi : L[i]? = some (ci, ly, R)) (ht : fo_ok ci ly t) (had : ∀ u, fo_ad R' u = fo_ad R u)
    (hnew : fo_at D cl z ci ly R' H1 t) (hrest : ∀ u, u ≠ t → fo_at D cl z ci ly R H1 u → fo_at D cl z ci ly R' H1 u) (oq : ∀ q : Nat, q ≠ fo_ad R t → H1[q]? = H[q]?) : fw_H D cl z (L.set i (ci, ly, R')) H1 ∧ fw_D A (L.set i (ci, ly, R')) := by
  have back : ∀ (j : Nat) (q : Nat × fl × fo), (L.set i (ci, ly, R'))[j]? = some q → ∃ q0 : Nat × fl × fo, L[j]? = some q0 ∧ q.1 = q0.1 ∧ q.2.1 = q0.2.1 ∧ ∀ u, fo_ad q.2.2 u = fo_ad q0.2.2 u := by
    intro j q hq
    rcases fw_seti hq with ⟨rfl, rfl, -⟩ | ⟨-, h⟩
    · exact ⟨_, hi, rfl, rfl, had⟩
    · exact ⟨_, h, rfl, rfl, fun _ => rfl⟩
  refine ⟨fun j q u hq hu => ?_, fun j k p q u v hp hq hu hv e => ?_, fun j q u hq hu => ?_⟩
  · rcases fw_seti hq with ⟨rfl, rfl, -⟩ | ⟨hne, h⟩
    · by_cases e : u = t
      · subst e; exact hnew
      · exact hrest u e ((hH j _ u hi hu).kept (oq _ (fun x => e (hD.1 j j _ _ u t hi hi hu ht x).2)))
    · exact (hH j _ u h hu).kept (oq _ (fun x => hne (hD.1 j i _ _ u t h hi hu ht x).1))
  · obtain ⟨p0, hp0, e1, f1, a1⟩ := back j p hp
    obtain ⟨q0, hq0, e2, f2, a2⟩ := back k q hq
    rw [e1, f1] at hu
    rw [e2, f2] at hv
    exact hD.1 j k p0 q0 u v hp0 hq0 hu hv (by rw [← a1, ← a2]; exact e)
  · obtain ⟨q0, hq0, e2, f2, a2⟩ := back j q hq
    rw [e2, f2] at hu
    rw [a2]
    exact hD.2 j q0 u hq0 hu
/-- the locals, by places -/
def lo_l : Nat → List (Option Value) → List (Nat × Value)
  | _, [] => []
  | i, none :: r => lo_l (i + 1) r
  | i, some v :: r => (i, v) :: lo_l (i + 1) r
theorem lo_mem {lo : List (Option Value)} : ∀ {b : Nat} {q : Nat × Value}, q ∈ lo_l b lo ↔ ∃ i, q.1 = b + i ∧ lo[i]? = some (some q.2) := by
  induction lo with
  | nil => intro b q; simp [lo_l]
  | cons a r ih =>
    intro b q
    cases a with
    | none =>
      rw [show lo_l b (none :: r) = lo_l (b + 1) r from rfl, ih]
      constructor
      · rintro ⟨i, h1, h2⟩
        exact ⟨i + 1, by omega, by simpa using h2⟩
      · rintro ⟨i, h1, h2⟩
        cases i with
        | zero => simp at h2
        | succ i => exact ⟨i, by omega, by simpa using h2⟩
    | some v =>
      rw [show lo_l b (some v :: r) = (b, v) :: lo_l (b + 1) r from rfl, List.mem_cons, ih]
      constructor
      · rintro (rfl | ⟨i, h1, h2⟩)
        · exact ⟨0, by omega, by simp⟩
        · exact ⟨i + 1, by omega, by simpa using h2⟩
      · rintro ⟨i, h1, h2⟩
        cases i with
        | zero =>
          left
          obtain ⟨q1, q2⟩ := q
          simp at h1 h2
          subst h1; subst h2; rfl
        | succ i => exact Or.inr ⟨i, by omega, by simpa using h2⟩
def lo_has (ls : Array Slot) (nL : Nat) (lo : List (Option Value)) : Prop := lv_has ls nL (lo_l 0 lo)
theorem lo_at {ls : Array Slot} {nL i : Nat} {lo : List (Option Value)} {v : Value} (h : lo_has ls nL lo) (hi : lo[i]? = some (some v)) : ls[i]? = some (.val v) := h.2.2 (i, v) (lo_mem.mpr ⟨i, by simp, hi⟩)
/-- fewer locals -/
def lo_sub : List (Option Value) → List (Option Value) → Prop
  | [], _ => True
  | _ :: _, [] => False
  | a :: r, b :: t => (a = none ∨ a = b) ∧ lo_sub r t
theorem lo_sub_at {l1 : List (Option Value)} : ∀ {l2 : List (Option Value)} {i : Nat} {v : Value}, lo_sub l1 l2 → l1[i]? = some (some v) → l2[i]? = some (some v) := by
  induction l1 with
  | nil => intro l2 i v _ h; simp at h
  | cons a r ih =>
    intro l2 i v h hi
    cases l2 with
    | nil => exact absurd h id
    | cons b t =>
      obtain ⟨h1, h2⟩ := h
      cases i with
      | zero =>
        have e : a = some v := by simpa using hi
        rcases h1 with h1 | h1
        · rw [h1] at e; cases e
        · simp [← h1, e]
      | succ i => simpa using ih h2 (by simpa using hi)
theorem lo_fewer {ls : Array Slot} {nL : Nat} {l1 l2 : List (Option Value)} (h : lo_has ls nL l2) (hs : lo_sub l1 l2) : lo_has ls nL l1 := by
  refine ⟨h.1, h.2.1, fun q hq => ?_⟩
  obtain ⟨i, e, hi⟩ := lo_mem.mp hq
  refine h.2.2 q (lo_mem.mpr ⟨i, e, lo_sub_at hs hi⟩)
def lo_dr (lo : List (Option Value)) : Nat → List (Option Value)
  | 0 => lo
  | j + 1 => match lo[j]? with
    | some (some w) => if w.category = 2 then lo.set j none else lo
    | _ => lo
def lo_st1 (lo : List (Option Value)) (i : Nat) (v : Value) : List (Option Value) := (lo_dr lo i).set i (some v)
def lo_st2 (lo : List (Option Value)) (i : Nat) (v : Value) : List (Option Value) := ((lo_dr lo i).set (i + 1) none).set i (some v)
theorem lo_dr_at {lo : List (Option Value)} {i j : Nat} {w : Value} (h : (lo_dr lo i)[j]? = some (some w)) : lo[j]? = some (some w) ∧ (j + 1 = i → ¬ w.category = 2) := by
  cases i with
  | zero => exact ⟨h, fun e => by omega⟩
  | succ k =>
    unfold lo_dr at h
    dsimp only at h
    split at h
    · rename_i w' hw
      split at h
      · rename_i hc
        rw [List.getElem?_set] at h
        by_cases e : k = j
        · subst e
          rw [if_pos rfl] at h
          split at h <;> simp at h
        · rw [if_neg e] at h
          exact ⟨h, fun e2 => by omega⟩
      · rename_i hc
        refine ⟨h, fun e => ?_⟩
        have e2 : j = k := by omega
        subst e2
        rw [hw] at h
        have e3 : w' = w := by simpa using h
        rw [← e3]; exact hc
    · rename_i hno
      refine ⟨h, fun e => ?_⟩
      have e2 : j = k := by omega
      subst e2
      exact absurd h (hno w)
theorem lo_st1_has {ls : Array Slot} {nL i : Nat} {lo : List (Option Value)} {v : Value} (h : lv_has ls nL ((i, v) :: (lo_l 0 lo).filter (fun q => !(q.1 == i) && !(q.1 + 1 == i && q.2.category == 2)))) : lo_has ls nL (lo_st1 lo i v) := by
  refine ⟨h.1, h.2.1, fun q hq => ?_⟩
  obtain ⟨j, e, hj⟩ := lo_mem.mp hq
  obtain ⟨q1, q2⟩ := q
  have e : q1 = j := by simpa using e
  subst e
  refine h.2.2 _ ?_
  unfold lo_st1 at hj
  rw [List.getElem?_set] at hj
  by_cases e : i = q1
  · subst e
    rw [if_pos rfl] at hj
    split at hj
    · have e3 : v = q2 := by simpa using hj
      rw [e3]; exact List.mem_cons_self
    · cases hj
  · rw [if_neg e] at hj
    obtain ⟨h1, h2⟩ := lo_dr_at hj
    refine List.mem_cons_of_mem _ (List.mem_filter.mpr ⟨lo_mem.mpr ⟨q1, by simp, h1⟩, ?_⟩)
    have e1 : (q1 == i) = false := by simpa using fun x : q1 = i => e x.symm
    simp only [e1]
    by_cases e4 : q1 + 1 = i
    · have := h2 e4
      simp [this]
    · simp [e4]
theorem lo_st2_has {ls : Array Slot} {nL i : Nat} {lo : List (Option Value)} {v : Value} (h : lv_has ls nL ((i, v) :: (lo_l 0 lo).filter (fun q => !(q.1 == i) && (!(q.1 == i + 1) && !(q.1 + 1 == i && q.2.category == 2))))) : lo_has ls nL (lo_st2 lo i v) := by
  refine ⟨h.1, h.2.1, fun q hq => ?_⟩
  obtain ⟨j, e, hj⟩ := lo_mem.mp hq
  obtain ⟨q1, q2⟩ := q
  have e : q1 = j := by simpa using e
  subst e
  refine h.2.2 _ ?_
  unfold lo_st2 at hj
  rw [List.getElem?_set] at hj
  by_cases e : i = q1
  · subst e
    rw [if_pos rfl] at hj
    split at hj
    · have e3 : v = q2 := by simpa using hj
      rw [e3]; exact List.mem_cons_self
    · cases hj
  · rw [if_neg e, List.getElem?_set] at hj
    by_cases e5 : i + 1 = q1
    · rw [if_pos e5] at hj
      split at hj <;> simp at hj
    · rw [if_neg e5] at hj
      obtain ⟨h1, h2⟩ := lo_dr_at hj
      refine List.mem_cons_of_mem _ (List.mem_filter.mpr ⟨lo_mem.mpr ⟨q1, by simp, h1⟩, ?_⟩)
      have e1 : (q1 == i) = false := by simpa using fun x : q1 = i => e x.symm
      have e6 : (q1 == i + 1) = false := by simpa using fun x : q1 = i + 1 => e5 x.symm
      simp only [e1, e6]
      by_cases e4 : q1 + 1 = i
      · have := h2 e4
        simp [this]
      · simp [e4]
/-! THE JUDGEMENT: the machine at pc, with these locals, this stack, this world, comes to its end -/
abbrev cx : Type := Program × Launch × Env × Room × State × MethodId × Array Value × List Frame × Method × Code × (State → Prop)
/-- words of nest mates' private members, of classes that can be cast, of strings: kept too -/
def nw : Cond → Bool
  | .fieldLinkNest _ _ _ _ _ _ => true
  | .methodLinkNest _ _ _ _ => true
  | .castable _ _ => true
  | .declares _ => true
  | .stringRef _ _ _ => true
  | .arrayOver (.object _) => true
  | .not (.castable _ _) => true
  | _ => false
def gw (w : Cond) : Bool := goodWord w || nw w
/-- the tables' words that warm tables keep -/
def tb_ok (Ts : List Cond) (U : State) : Prop := ∀ w ∈ Ts, gw w = true → w.before #[] U = true
/-- what the tables know of classes and rows -/
def kn_ok (D : va_G) (cl : List vw_C) (z : Nat → ClassId) (U : State) : Prop := va_K D cl ([(z 2, .int), (z 3, .boolean), (z 4, .long)] ++ zx z) U
def aw (G : List Cond × List vw_C) (D : va_G) (z : Nat → ClassId) (A : Nat → Prop) (X : cx) (nL pc : Nat) (lo : List (Option Value)) (st : List Value) (L : fw) (nc ns : Nat) : Prop :=
  ∀ (H : Heap) (locs : List Loc) (ls : Array Slot), fw_H D G.2 z L H → fw_D A L → va_S A X.2.2.2.2.1.heap H locs → lo_has ls nL lo →
    W X.1 X.2.1 X.2.2.1 X.2.2.2.1 X.2.2.2.2.1 X.2.2.2.2.2.1 X.2.2.2.2.2.2.1 X.2.2.2.2.2.2.2.1 X.2.2.2.2.2.2.2.2.1 X.2.2.2.2.2.2.2.2.2.1 H locs nc ns X.2.2.2.2.2.2.2.2.2.2 (F0 X.2.2.2.2.2.1 pc ls st)
/-- the tables of classes and layouts fit the words -/
def gok (G : List Cond × List vw_C) : Prop := ∀ (ci : Nat) (q : vw_C), G.2[ci]? = some q → (∀ w ∈ u_ws q.1 q.2.1 q.2.2, w ∈ G.1) ∧ (∀ a, a < q.2.2 → ∀ b, b < q.2.2 → a ≠ b → (q.2.1 a).2.1 ≠ (q.2.1 b).2.1) ∧ ∃ ty : Nat → FieldType, ∀ k, k < q.2.2 → parseFieldDescriptor (q.2.1 k).2.2.1 = some (ty k)
/-- what holds throughout a method's body -/
def fcx (G : List Cond × List vw_C) (D : va_G) (z : Nat → ClassId) (A : Nat → Prop) (X : cx) (own : String) (cc : ByteArray) (nL : Nat) (ret : Option FieldType) : Prop :=
  X.1.tables.exec = Jvm.exec ∧ X.2.2.2.2.2.2.2.2.2.1.code = cc ∧ X.2.2.2.2.2.2.2.2.2.1.maxLocals = nL ∧ X.2.2.2.2.2.2.2.2.1.sig.returnType = ret ∧ X.2.2.2.2.2.2.2.2.1.locks = false ∧ X.2.2.2.2.1.vm.findClass own = some X.2.2.2.2.2.1.cls ∧ tb_ok G.1 X.2.2.2.2.1 ∧ kn_ok D G.2 z X.2.2.2.2.1 ∧ (∀ q, X.2.2.2.2.1.heap.size ≤ q → A q) ∧ gok G ∧ sx A X.2.2.2.2.1 X.2.2.2.2.1.heap
section AWR
variable {G : List Cond × List vw_C} {D : va_G} {z : Nat → ClassId} {A : Nat → Prop} {X : cx} {nL pc : Nat} {lo : List (Option Value)} {st : List Value} {L : fw} {nc ns : Nat} {own : String} {cc : ByteArray} {ret : Option FieldType}
theorem fcx.x (C : fcx G D z A X own cc nL ret) : X.1.tables.exec = Jvm.exec := C.1
theorem fcx.b (C : fcx G D z A X own cc nL ret) : X.2.2.2.2.2.2.2.2.2.1.code = cc := C.2.1
theorem fcx.ml (C : fcx G D z A X own cc nL ret) : X.2.2.2.2.2.2.2.2.2.1.maxLocals = nL := C.2.2.1
theorem fcx.r (C : fcx G D z A X own cc nL ret) : X.2.2.2.2.2.2.2.2.1.sig.returnType = ret := C.2.2.2.1
theorem fcx.lk (C : fcx G D z A X own cc nL ret) : X.2.2.2.2.2.2.2.2.1.locks = false := C.2.2.2.2.1
theorem fcx.ow (C : fcx G D z A X own cc nL ret) : X.2.2.2.2.1.vm.findClass own = some X.2.2.2.2.2.1.cls := C.2.2.2.2.2.1
theorem fcx.tb (C : fcx G D z A X own cc nL ret) : tb_ok G.1 X.2.2.2.2.1 := C.2.2.2.2.2.2.1
theorem fcx.kn (C : fcx G D z A X own cc nL ret) : kn_ok D G.2 z X.2.2.2.2.1 := C.2.2.2.2.2.2.2.1
theorem fcx.hA (C : fcx G D z A X own cc nL ret) : ∀ q, X.2.2.2.2.1.heap.size ≤ q → A q := C.2.2.2.2.2.2.2.2.1
theorem fcx.gk (C : fcx G D z A X own cc nL ret) : gok G := C.2.2.2.2.2.2.2.2.2.1
theorem fcx.sx (C : fcx G D z A X own cc nL ret) : sx A X.2.2.2.2.1 X.2.2.2.2.1.heap := C.2.2.2.2.2.2.2.2.2.2
theorem aw_lo {lo' : List (Option Value)} (h : lo_sub lo' lo) (k : aw G D z A X nL pc lo' st L nc ns) : aw G D z A X nL pc lo st L nc ns :=
  fun H locs ls hH hD hS hl => k H locs ls hH hD hS (lo_fewer hl h)
theorem aw_eq {lo' : List (Option Value)} {st' : List Value} {L' : fw} (h1 : lo = lo') (h2 : st = st') (h3 : L = L') (k : aw G D z A X nL pc lo' st' L' nc ns) : aw G D z A X nL pc lo st L nc ns := by
  subst h1; subst h2; subst h3; exact k
theorem aw_widen {nc' ns' : Nat} (h1 : nc ≤ nc') (h2 : ns ≤ ns') (k : aw G D z A X nL pc lo st L nc' ns') : aw G D z A X nL pc lo st L nc ns :=
  fun H locs ls hH hD hS hl => W.widen h1 h2 (k H locs ls hH hD hS hl)
theorem a_iconst (C : fcx G D z A X own cc nL ret) {n : Int} {v : Int32} (hd : decode cc pc = .ok (.iconst n, 1)) (hv : Int32.ofInt n = v) (k : aw G D z A X nL (pc + 1) lo (.int v :: st) L nc ns) : aw G D z A X nL pc lo (st) L nc ns :=
  fun H locs ls hH hD hS hl => lv_iconst C.x C.b hd hv (k H locs ls hH hD hS hl)
theorem a_bipush (C : fcx G D z A X own cc nL ret) {n : Int} {v : Int32} (hd : decode cc pc = .ok (.bipush n, 2)) (hv : (Int8.ofInt n).toInt32 = v) (k : aw G D z A X nL (pc + 2) lo (.int v :: st) L nc ns) : aw G D z A X nL pc lo (st) L nc ns :=
  fun H locs ls hH hD hS hl => lv_bipush C.x C.b hd hv (k H locs ls hH hD hS hl)
theorem a_sipush (C : fcx G D z A X own cc nL ret) {n : Int} {v : Int32} (hd : decode cc pc = .ok (.sipush n, 3)) (hv : (Int16.ofInt n).toInt32 = v) (k : aw G D z A X nL (pc + 3) lo (.int v :: st) L nc ns) : aw G D z A X nL pc lo (st) L nc ns :=
  fun H locs ls hH hD hS hl => lv_sipush C.x C.b hd hv (k H locs ls hH hD hS hl)
theorem a_lconst (C : fcx G D z A X own cc nL ret) {n : Fin 2} {v : Int64} (hd : decode cc pc = .ok (.lconst n, 1)) (hv : Int64.ofNat (n : Nat) = v) (k : aw G D z A X nL (pc + 1) lo (.long v :: st) L nc ns) : aw G D z A X nL pc lo (st) L nc ns :=
  fun H locs ls hH hD hS hl => lv_lconst C.x C.b hd hv (k H locs ls hH hD hS hl)
theorem a_iload_n (C : fcx G D z A X own cc nL ret) {j : Fin 4} {i : Nat} {x : Int32} (hd : decode cc pc = .ok (.iload_n j, 1)) (hi : (j : Nat) = i) (h : lo[i]? = some (some (.int x))) (k : aw G D z A X nL (pc + 1) lo (.int x :: st) L nc ns) : aw G D z A X nL pc lo (st) L nc ns :=
  fun H locs ls hH hD hS hl => lv_iload_n C.x C.b hd hi (lo_at hl h) (k H locs ls hH hD hS hl)
theorem a_iload (C : fcx G D z A X own cc nL ret) {i : Nat} {x : Int32} (hd : decode cc pc = .ok (.iload i, 2)) (h : lo[i]? = some (some (.int x))) (k : aw G D z A X nL (pc + 2) lo (.int x :: st) L nc ns) : aw G D z A X nL pc lo (st) L nc ns :=
  fun H locs ls hH hD hS hl => lv_iload C.x C.b hd (lo_at hl h) (k H locs ls hH hD hS hl)
theorem a_istore_n (C : fcx G D z A X own cc nL ret) {j : Fin 4} {i : Nat} {x : Int32} {lo' : List (Option Value)} (hd : decode cc pc = .ok (.istore_n j, 1)) (hi : (j : Nat) = i) (hn : i < nL) (h : lo_st1 lo i (.int x) = lo') (k : aw G D z A X nL (pc + 1) lo' st L nc ns) : aw G D z A X nL pc lo (.int x :: st) L nc ns :=
  fun H locs ls hH hD hS hl => lv_istore_n C.x C.b hd hi hl hn rfl (fun ls' hl' => k H locs ls' hH hD hS (h ▸ lo_st1_has hl'))
theorem a_istore (C : fcx G D z A X own cc nL ret) {i : Nat} {x : Int32} {lo' : List (Option Value)} (hd : decode cc pc = .ok (.istore i, 2)) (hn : i < nL) (h : lo_st1 lo i (.int x) = lo') (k : aw G D z A X nL (pc + 2) lo' st L nc ns) : aw G D z A X nL pc lo (.int x :: st) L nc ns :=
  fun H locs ls hH hD hS hl => lv_istore C.x C.b hd hl hn rfl (fun ls' hl' => k H locs ls' hH hD hS (h ▸ lo_st1_has hl'))
theorem a_lload_n (C : fcx G D z A X own cc nL ret) {j : Fin 4} {i : Nat} {x : Int64} (hd : decode cc pc = .ok (.lload_n j, 1)) (hi : (j : Nat) = i) (h : lo[i]? = some (some (.long x))) (k : aw G D z A X nL (pc + 1) lo (.long x :: st) L nc ns) : aw G D z A X nL pc lo (st) L nc ns :=
  fun H locs ls hH hD hS hl => lv_lload_n C.x C.b hd hi (lo_at hl h) (k H locs ls hH hD hS hl)
theorem a_lload (C : fcx G D z A X own cc nL ret) {i : Nat} {x : Int64} (hd : decode cc pc = .ok (.lload i, 2)) (h : lo[i]? = some (some (.long x))) (k : aw G D z A X nL (pc + 2) lo (.long x :: st) L nc ns) : aw G D z A X nL pc lo (st) L nc ns :=
  fun H locs ls hH hD hS hl => lv_lload C.x C.b hd (lo_at hl h) (k H locs ls hH hD hS hl)
theorem a_lstore_n (C : fcx G D z A X own cc nL ret) {j : Fin 4} {i : Nat} {x : Int64} {lo' : List (Option Value)} (hd : decode cc pc = .ok (.lstore_n j, 1)) (hi : (j : Nat) = i) (hn : i + 1 < nL) (h : lo_st2 lo i (.long x) = lo') (k : aw G D z A X nL (pc + 1) lo' st L nc ns) : aw G D z A X nL pc lo (.long x :: st) L nc ns :=
  fun H locs ls hH hD hS hl => lv_lstore_n C.x C.b hd hi hl hn rfl (fun ls' hl' => k H locs ls' hH hD hS (h ▸ lo_st2_has hl'))
theorem a_lstore (C : fcx G D z A X own cc nL ret) {i : Nat} {x : Int64} {lo' : List (Option Value)} (hd : decode cc pc = .ok (.lstore i, 2)) (hn : i + 1 < nL) (h : lo_st2 lo i (.long x) = lo') (k : aw G D z A X nL (pc + 2) lo' st L nc ns) : aw G D z A X nL pc lo (.long x :: st) L nc ns :=
  fun H locs ls hH hD hS hl => lv_lstore C.x C.b hd hl hn rfl (fun ls' hl' => k H locs ls' hH hD hS (h ▸ lo_st2_has hl'))
theorem a_aload_n (C : fcx G D z A X own cc nL ret) {j : Fin 4} {i : Nat} {x : Nat} (hd : decode cc pc = .ok (.aload_n j, 1)) (hi : (j : Nat) = i) (h : lo[i]? = some (some (.ref x))) (k : aw G D z A X nL (pc + 1) lo (.ref x :: st) L nc ns) : aw G D z A X nL pc lo (st) L nc ns :=
  fun H locs ls hH hD hS hl => lv_aload_n C.x C.b hd hi (lo_at hl h) (k H locs ls hH hD hS hl)
theorem a_aload (C : fcx G D z A X own cc nL ret) {i : Nat} {x : Nat} (hd : decode cc pc = .ok (.aload i, 2)) (h : lo[i]? = some (some (.ref x))) (k : aw G D z A X nL (pc + 2) lo (.ref x :: st) L nc ns) : aw G D z A X nL pc lo (st) L nc ns :=
  fun H locs ls hH hD hS hl => lv_aload C.x C.b hd (lo_at hl h) (k H locs ls hH hD hS hl)
theorem a_astore_n (C : fcx G D z A X own cc nL ret) {j : Fin 4} {i : Nat} {x : Nat} {lo' : List (Option Value)} (hd : decode cc pc = .ok (.astore_n j, 1)) (hi : (j : Nat) = i) (hn : i < nL) (h : lo_st1 lo i (.ref x) = lo') (k : aw G D z A X nL (pc + 1) lo' st L nc ns) : aw G D z A X nL pc lo (.ref x :: st) L nc ns :=
  fun H locs ls hH hD hS hl => lv_astore_n C.x C.b hd hi hl hn rfl (fun ls' hl' => k H locs ls' hH hD hS (h ▸ lo_st1_has hl'))
theorem a_astore (C : fcx G D z A X own cc nL ret) {i : Nat} {x : Nat} {lo' : List (Option Value)} (hd : decode cc pc = .ok (.astore i, 2)) (hn : i < nL) (h : lo_st1 lo i (.ref x) = lo') (k : aw G D z A X nL (pc + 2) lo' st L nc ns) : aw G D z A X nL pc lo (.ref x :: st) L nc ns :=
  fun H locs ls hH hD hS hl => lv_astore C.x C.b hd hl hn rfl (fun ls' hl' => k H locs ls' hH hD hS (h ▸ lo_st1_has hl'))
theorem a_iadd (C : fcx G D z A X own cc nL ret) {x y : Int32} (hd : decode cc pc = .ok (.iadd, 1)) (k : aw G D z A X nL (pc + 1) lo (.int (x + y) :: st) L nc ns) : aw G D z A X nL pc lo (.int y :: .int x :: st) L nc ns :=
  fun H locs ls hH hD hS hl => lv_iadd C.x C.b hd (k H locs ls hH hD hS hl)
theorem a_isub (C : fcx G D z A X own cc nL ret) {x y : Int32} (hd : decode cc pc = .ok (.isub, 1)) (k : aw G D z A X nL (pc + 1) lo (.int (x - y) :: st) L nc ns) : aw G D z A X nL pc lo (.int y :: .int x :: st) L nc ns :=
  fun H locs ls hH hD hS hl => lv_isub C.x C.b hd (k H locs ls hH hD hS hl)
theorem a_imul (C : fcx G D z A X own cc nL ret) {x y : Int32} (hd : decode cc pc = .ok (.imul, 1)) (k : aw G D z A X nL (pc + 1) lo (.int (x * y) :: st) L nc ns) : aw G D z A X nL pc lo (.int y :: .int x :: st) L nc ns :=
  fun H locs ls hH hD hS hl => lv_imul C.x C.b hd (k H locs ls hH hD hS hl)
theorem a_iand (C : fcx G D z A X own cc nL ret) {x y : Int32} (hd : decode cc pc = .ok (.iand, 1)) (k : aw G D z A X nL (pc + 1) lo (.int (x &&& y) :: st) L nc ns) : aw G D z A X nL pc lo (.int y :: .int x :: st) L nc ns :=
  fun H locs ls hH hD hS hl => lv_iand C.x C.b hd (k H locs ls hH hD hS hl)
theorem a_ior (C : fcx G D z A X own cc nL ret) {x y : Int32} (hd : decode cc pc = .ok (.ior, 1)) (k : aw G D z A X nL (pc + 1) lo (.int (x ||| y) :: st) L nc ns) : aw G D z A X nL pc lo (.int y :: .int x :: st) L nc ns :=
  fun H locs ls hH hD hS hl => lv_ior C.x C.b hd (k H locs ls hH hD hS hl)
theorem a_ixor (C : fcx G D z A X own cc nL ret) {x y : Int32} (hd : decode cc pc = .ok (.ixor, 1)) (k : aw G D z A X nL (pc + 1) lo (.int (x ^^^ y) :: st) L nc ns) : aw G D z A X nL pc lo (.int y :: .int x :: st) L nc ns :=
  fun H locs ls hH hD hS hl => lv_ixor C.x C.b hd (k H locs ls hH hD hS hl)
theorem a_ladd (C : fcx G D z A X own cc nL ret) {x y : Int64} (hd : decode cc pc = .ok (.ladd, 1)) (k : aw G D z A X nL (pc + 1) lo (.long (x + y) :: st) L nc ns) : aw G D z A X nL pc lo (.long y :: .long x :: st) L nc ns :=
  fun H locs ls hH hD hS hl => lv_ladd C.x C.b hd (k H locs ls hH hD hS hl)
theorem a_lsub (C : fcx G D z A X own cc nL ret) {x y : Int64} (hd : decode cc pc = .ok (.lsub, 1)) (k : aw G D z A X nL (pc + 1) lo (.long (x - y) :: st) L nc ns) : aw G D z A X nL pc lo (.long y :: .long x :: st) L nc ns :=
  fun H locs ls hH hD hS hl => lv_lsub C.x C.b hd (k H locs ls hH hD hS hl)
theorem a_lmul (C : fcx G D z A X own cc nL ret) {x y : Int64} (hd : decode cc pc = .ok (.lmul, 1)) (k : aw G D z A X nL (pc + 1) lo (.long (x * y) :: st) L nc ns) : aw G D z A X nL pc lo (.long y :: .long x :: st) L nc ns :=
  fun H locs ls hH hD hS hl => lv_lmul C.x C.b hd (k H locs ls hH hD hS hl)
theorem a_idiv (C : fcx G D z A X own cc nL ret) {x y : Int32} (hd : decode cc pc = .ok (.idiv, 1)) (hne : ¬ y = 0) (k : aw G D z A X nL (pc + 1) lo (.int (x / y) :: st) L nc ns) : aw G D z A X nL pc lo (.int y :: .int x :: st) L nc ns :=
  fun H locs ls hH hD hS hl => lv_idiv C.x C.b hd hne (k H locs ls hH hD hS hl)
theorem a_irem (C : fcx G D z A X own cc nL ret) {x y : Int32} (hd : decode cc pc = .ok (.irem, 1)) (hne : ¬ y = 0) (k : aw G D z A X nL (pc + 1) lo (.int (x - x / y * y) :: st) L nc ns) : aw G D z A X nL pc lo (.int y :: .int x :: st) L nc ns :=
  fun H locs ls hH hD hS hl => lv_irem C.x C.b hd hne (k H locs ls hH hD hS hl)
theorem a_ineg (C : fcx G D z A X own cc nL ret) {x : Int32} (hd : decode cc pc = .ok (.ineg, 1)) (k : aw G D z A X nL (pc + 1) lo (.int (-x) :: st) L nc ns) : aw G D z A X nL pc lo (.int x :: st) L nc ns :=
  fun H locs ls hH hD hS hl => lv_ineg C.x C.b hd (k H locs ls hH hD hS hl)
theorem a_ishl (C : fcx G D z A X own cc nL ret) {x y : Int32} (hd : decode cc pc = .ok (.ishl, 1)) (k : aw G D z A X nL (pc + 1) lo (.int (x <<< (y &&& 31)) :: st) L nc ns) : aw G D z A X nL pc lo (.int y :: .int x :: st) L nc ns :=
  fun H locs ls hH hD hS hl => lv_ishl C.x C.b hd (k H locs ls hH hD hS hl)
theorem a_ishr (C : fcx G D z A X own cc nL ret) {x y : Int32} (hd : decode cc pc = .ok (.ishr, 1)) (k : aw G D z A X nL (pc + 1) lo (.int (x >>> (y &&& 31)) :: st) L nc ns) : aw G D z A X nL pc lo (.int y :: .int x :: st) L nc ns :=
  fun H locs ls hH hD hS hl => lv_ishr C.x C.b hd (k H locs ls hH hD hS hl)
theorem a_i2l (C : fcx G D z A X own cc nL ret) {x : Int32} (hd : decode cc pc = .ok (.i2l, 1)) (k : aw G D z A X nL (pc + 1) lo (.long x.toInt64 :: st) L nc ns) : aw G D z A X nL pc lo (.int x :: st) L nc ns :=
  fun H locs ls hH hD hS hl => lv_i2l C.x C.b hd rfl (k H locs ls hH hD hS hl)
theorem a_l2i (C : fcx G D z A X own cc nL ret) {x : Int64} (hd : decode cc pc = .ok (.l2i, 1)) (k : aw G D z A X nL (pc + 1) lo (.int x.toInt32 :: st) L nc ns) : aw G D z A X nL pc lo (.long x :: st) L nc ns :=
  fun H locs ls hH hD hS hl => lv_l2i C.x C.b hd rfl (k H locs ls hH hD hS hl)
theorem a_lshr (C : fcx G D z A X own cc nL ret) {x : Int64} {y : Int32} (hd : decode cc pc = .ok (.lshr, 1)) (k : aw G D z A X nL (pc + 1) lo (.long (x >>> (y.toInt64 &&& 63)) :: st) L nc ns) : aw G D z A X nL pc lo (.int y :: .long x :: st) L nc ns :=
  fun H locs ls hH hD hS hl => lv_lshr C.x C.b hd rfl (k H locs ls hH hD hS hl)
theorem a_dup (C : fcx G D z A X own cc nL ret) {v : Value} (hd : decode cc pc = .ok (.dup, 1)) (hv : v.category = 1) (k : aw G D z A X nL (pc + 1) lo (v :: v :: st) L nc ns) : aw G D z A X nL pc lo (v :: st) L nc ns :=
  fun H locs ls hH hD hS hl => lv_dup C.x C.b hd hv (k H locs ls hH hD hS hl)
theorem a_dup2 (C : fcx G D z A X own cc nL ret) {v w : Value} (hd : decode cc pc = .ok (.dup2, 1)) (hv : v.category = 1) (hw : w.category = 1) (k : aw G D z A X nL (pc + 1) lo (v :: w :: v :: w :: st) L nc ns) : aw G D z A X nL pc lo (v :: w :: st) L nc ns :=
  fun H locs ls hH hD hS hl => lv_dup2_11 C.x C.b hd hv hw (k H locs ls hH hD hS hl)
theorem a_dup_x1 (C : fcx G D z A X own cc nL ret) {v w : Value} (hd : decode cc pc = .ok (.dup_x1, 1)) (hv : v.category = 1) (hw : w.category = 1) (k : aw G D z A X nL (pc + 1) lo (v :: w :: v :: st) L nc ns) : aw G D z A X nL pc lo (v :: w :: st) L nc ns :=
  fun H locs ls hH hD hS hl => lv_dup_x1 C.x C.b hd hv hw (k H locs ls hH hD hS hl)
theorem a_pop (C : fcx G D z A X own cc nL ret) {v : Value} (hd : decode cc pc = .ok (.pop, 1)) (hv : v.category = 1) (k : aw G D z A X nL (pc + 1) lo (st) L nc ns) : aw G D z A X nL pc lo (v :: st) L nc ns :=
  fun H locs ls hH hD hS hl => lv_pop C.x C.b hd hv (k H locs ls hH hD hS hl)
theorem a_if_eq (C : fcx G D z A X own cc nL ret) {x : Int32} {off : Int} {tgt : Nat} (hd : decode cc pc = .ok (.ifCond .eq off, 3)) (ht : (pc : Int) + off = (tgt : Int)) (k : (x = 0 → aw G D z A X nL tgt lo st L nc ns) ∧ (¬ (x = 0) → aw G D z A X nL (pc + 3) lo st L nc ns)) : aw G D z A X nL pc lo (.int x :: st) L nc ns :=
  fun H locs ls hH hD hS hl => lv_if_eq C.x C.b hd ht (fun h => k.1 h H locs ls hH hD hS hl) (fun h => k.2 h H locs ls hH hD hS hl)
theorem a_icmp_eq (C : fcx G D z A X own cc nL ret) {x y : Int32} {off : Int} {tgt : Nat} (hd : decode cc pc = .ok (.if_icmp .eq off, 3)) (ht : (pc : Int) + off = (tgt : Int)) (k : (x = y → aw G D z A X nL tgt lo st L nc ns) ∧ (¬ (x = y) → aw G D z A X nL (pc + 3) lo st L nc ns)) : aw G D z A X nL pc lo (.int y :: .int x :: st) L nc ns :=
  fun H locs ls hH hD hS hl => lv_icmp_eq C.x C.b hd ht (fun h => k.1 h H locs ls hH hD hS hl) (fun h => k.2 h H locs ls hH hD hS hl)
theorem a_if_ne (C : fcx G D z A X own cc nL ret) {x : Int32} {off : Int} {tgt : Nat} (hd : decode cc pc = .ok (.ifCond .ne off, 3)) (ht : (pc : Int) + off = (tgt : Int)) (k : (¬ x = 0 → aw G D z A X nL tgt lo st L nc ns) ∧ (x = 0 → aw G D z A X nL (pc + 3) lo st L nc ns)) : aw G D z A X nL pc lo (.int x :: st) L nc ns :=
  fun H locs ls hH hD hS hl => lv_if_ne C.x C.b hd ht (fun h => k.1 h H locs ls hH hD hS hl) (fun h => k.2 h H locs ls hH hD hS hl)
theorem a_icmp_ne (C : fcx G D z A X own cc nL ret) {x y : Int32} {off : Int} {tgt : Nat} (hd : decode cc pc = .ok (.if_icmp .ne off, 3)) (ht : (pc : Int) + off = (tgt : Int)) (k : (¬ x = y → aw G D z A X nL tgt lo st L nc ns) ∧ (x = y → aw G D z A X nL (pc + 3) lo st L nc ns)) : aw G D z A X nL pc lo (.int y :: .int x :: st) L nc ns :=
  fun H locs ls hH hD hS hl => lv_icmp_ne C.x C.b hd ht (fun h => k.1 h H locs ls hH hD hS hl) (fun h => k.2 h H locs ls hH hD hS hl)
theorem a_if_lt (C : fcx G D z A X own cc nL ret) {x : Int32} {off : Int} {tgt : Nat} (hd : decode cc pc = .ok (.ifCond .lt off, 3)) (ht : (pc : Int) + off = (tgt : Int)) (k : (x < 0 → aw G D z A X nL tgt lo st L nc ns) ∧ (¬ (x < 0) → aw G D z A X nL (pc + 3) lo st L nc ns)) : aw G D z A X nL pc lo (.int x :: st) L nc ns :=
  fun H locs ls hH hD hS hl => lv_if_lt C.x C.b hd ht (fun h => k.1 h H locs ls hH hD hS hl) (fun h => k.2 h H locs ls hH hD hS hl)
theorem a_icmp_lt (C : fcx G D z A X own cc nL ret) {x y : Int32} {off : Int} {tgt : Nat} (hd : decode cc pc = .ok (.if_icmp .lt off, 3)) (ht : (pc : Int) + off = (tgt : Int)) (k : (x < y → aw G D z A X nL tgt lo st L nc ns) ∧ (¬ (x < y) → aw G D z A X nL (pc + 3) lo st L nc ns)) : aw G D z A X nL pc lo (.int y :: .int x :: st) L nc ns :=
  fun H locs ls hH hD hS hl => lv_icmp_lt C.x C.b hd ht (fun h => k.1 h H locs ls hH hD hS hl) (fun h => k.2 h H locs ls hH hD hS hl)
theorem a_if_ge (C : fcx G D z A X own cc nL ret) {x : Int32} {off : Int} {tgt : Nat} (hd : decode cc pc = .ok (.ifCond .ge off, 3)) (ht : (pc : Int) + off = (tgt : Int)) (k : (0 ≤ x → aw G D z A X nL tgt lo st L nc ns) ∧ (¬ (0 ≤ x) → aw G D z A X nL (pc + 3) lo st L nc ns)) : aw G D z A X nL pc lo (.int x :: st) L nc ns :=
  fun H locs ls hH hD hS hl => lv_if_ge C.x C.b hd ht (fun h => k.1 h H locs ls hH hD hS hl) (fun h => k.2 h H locs ls hH hD hS hl)
theorem a_icmp_ge (C : fcx G D z A X own cc nL ret) {x y : Int32} {off : Int} {tgt : Nat} (hd : decode cc pc = .ok (.if_icmp .ge off, 3)) (ht : (pc : Int) + off = (tgt : Int)) (k : (y ≤ x → aw G D z A X nL tgt lo st L nc ns) ∧ (¬ (y ≤ x) → aw G D z A X nL (pc + 3) lo st L nc ns)) : aw G D z A X nL pc lo (.int y :: .int x :: st) L nc ns :=
  fun H locs ls hH hD hS hl => lv_icmp_ge C.x C.b hd ht (fun h => k.1 h H locs ls hH hD hS hl) (fun h => k.2 h H locs ls hH hD hS hl)
theorem a_if_gt (C : fcx G D z A X own cc nL ret) {x : Int32} {off : Int} {tgt : Nat} (hd : decode cc pc = .ok (.ifCond .gt off, 3)) (ht : (pc : Int) + off = (tgt : Int)) (k : (0 < x → aw G D z A X nL tgt lo st L nc ns) ∧ (¬ (0 < x) → aw G D z A X nL (pc + 3) lo st L nc ns)) : aw G D z A X nL pc lo (.int x :: st) L nc ns :=
  fun H locs ls hH hD hS hl => lv_if_gt C.x C.b hd ht (fun h => k.1 h H locs ls hH hD hS hl) (fun h => k.2 h H locs ls hH hD hS hl)
theorem a_icmp_gt (C : fcx G D z A X own cc nL ret) {x y : Int32} {off : Int} {tgt : Nat} (hd : decode cc pc = .ok (.if_icmp .gt off, 3)) (ht : (pc : Int) + off = (tgt : Int)) (k : (y < x → aw G D z A X nL tgt lo st L nc ns) ∧ (¬ (y < x) → aw G D z A X nL (pc + 3) lo st L nc ns)) : aw G D z A X nL pc lo (.int y :: .int x :: st) L nc ns :=
  fun H locs ls hH hD hS hl => lv_icmp_gt C.x C.b hd ht (fun h => k.1 h H locs ls hH hD hS hl) (fun h => k.2 h H locs ls hH hD hS hl)
theorem a_if_le (C : fcx G D z A X own cc nL ret) {x : Int32} {off : Int} {tgt : Nat} (hd : decode cc pc = .ok (.ifCond .le off, 3)) (ht : (pc : Int) + off = (tgt : Int)) (k : (x ≤ 0 → aw G D z A X nL tgt lo st L nc ns) ∧ (¬ (x ≤ 0) → aw G D z A X nL (pc + 3) lo st L nc ns)) : aw G D z A X nL pc lo (.int x :: st) L nc ns :=
  fun H locs ls hH hD hS hl => lv_if_le C.x C.b hd ht (fun h => k.1 h H locs ls hH hD hS hl) (fun h => k.2 h H locs ls hH hD hS hl)
theorem a_icmp_le (C : fcx G D z A X own cc nL ret) {x y : Int32} {off : Int} {tgt : Nat} (hd : decode cc pc = .ok (.if_icmp .le off, 3)) (ht : (pc : Int) + off = (tgt : Int)) (k : (x ≤ y → aw G D z A X nL tgt lo st L nc ns) ∧ (¬ (x ≤ y) → aw G D z A X nL (pc + 3) lo st L nc ns)) : aw G D z A X nL pc lo (.int y :: .int x :: st) L nc ns :=
  fun H locs ls hH hD hS hl => lv_icmp_le C.x C.b hd ht (fun h => k.1 h H locs ls hH hD hS hl) (fun h => k.2 h H locs ls hH hD hS hl)
theorem a_goto (C : fcx G D z A X own cc nL ret) {off : Int} {tgt : Nat} (hd : decode cc pc = .ok (.goto off, 3)) (ht : (pc : Int) + off = (tgt : Int)) (k : aw G D z A X nL tgt lo st L nc ns) : aw G D z A X nL pc lo st L nc ns :=
  fun H locs ls hH hD hS hl => lv_goto C.x C.b hd ht (k H locs ls hH hD hS hl)
theorem a_iinc (C : fcx G D z A X own cc nL ret) {i : Nat} {n : Int} {x v : Int32} {lo' : List (Option Value)} (hd : decode cc pc = .ok (.iinc i n, 3)) (hi : lo[i]? = some (some (.int x))) (hv : x + Int32.ofInt n = v) (hn : i < nL) (h : lo_st1 lo i (.int v) = lo') (k : aw G D z A X nL (pc + 3) lo' st L nc ns) : aw G D z A X nL pc lo st L nc ns := by
  intro H locs ls hH hD hS hl
  obtain ⟨q, hq⟩ := List.getElem?_of_mem (lo_mem (b := 0) (q := (i, Value.int x)) |>.mpr ⟨i, by simp, hi⟩)
  exact lv_iinc C.x C.b hd hl hq hv hn rfl (fun ls' hl' => k H locs ls' hH hD hS (h ▸ lo_st1_has hl'))
end AWR
