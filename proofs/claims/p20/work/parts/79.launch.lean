/-! THE LAUNCH: from what the statement gives of the start to the walk of the law -/
theorem gw_any {w : Cond} (hg : gw w = true) {U : State} {a : Array Value} (h : w.before a U = true) : w.before #[] U = true := by
  by_cases hb : goodWord w = true
  · exact word_at (State.WarmedH.refl U) (good_of_word hb) h
  · have hn : nw w = true := by
      unfold gw at hg
      cases h1 : goodWord w
      · rw [h1] at hg; exact hg
      · exact absurd h1 hb
    cases w <;> first | exact absurd (show false = true from hn) Bool.false_ne_true | exact h | exact va_tabs rfl rfl h | skip
    all_goals
      rename_i c
      cases c <;> first | exact absurd (show false = true from hn) Bool.false_ne_true | exact h
theorem sbn_drop {s t : State} {Ls : List Loc} {c n c' n' : Nat} (h : s.sameButNew t Ls c n) (hL : ∀ q ∈ Ls, s.heap.size ≤ q.base) (hc : c ≤ c') (hn : n ≤ n') : s.sameButNew t [] c' n' := by
  obtain ⟨h1, h2, h3, h4, h5, h6⟩ := h
  refine ⟨h1, h2, by omega, h4, Nat.le_trans h5 hn, fun a k hk => ?_⟩
  obtain ⟨k', e1, e2, e3, e4⟩ := h6 a k hk
  refine ⟨k', e1, e2, e3, fun i _ => e4 i (fun hm => ?_)⟩
  have h7 := hL _ hm
  have h8 := (Array.getElem?_eq_some_iff.mp hk).1
  exact absurd h7 (Nat.not_le.mpr h8)
theorem sxT_of {args : Array Value} {s : State} {n d : String} {A : Nat → Prop} (hl : (Cond.laysStatic "java/lang/Throwable" n d).before args s = true) (h : (Cond.isRef (.static "java/lang/Throwable" n d)).before args s = true) (hA : ∀ a : Nat, a < s.heap.size → ¬ A a) : sxT n d A s s.heap := by
  obtain ⟨c, k, i, f, a, cell, hc, hi, hst, ha, hcell, hs, hcls, hlt, hty⟩ := Cond.laysStatic_spec hl
  cases hv : (Term.static "java/lang/Throwable" n d).eval args s none [] s with
  | none => simp [Cond.before, Cond.holds, Cond.value, hv] at h
  | some w =>
    obtain ⟨hst', a', cell', ha', hcell', -, hslot⟩ := Term.static_spec hi hv
    cases ha.symm.trans ha'
    cases hcell.symm.trans hcell'
    refine ⟨c, k, i, f, a, cell, w, hc, hi, hst, ha, hcell, hs, hcls, hlt, hty, hslot, ?_, hA a (Array.getElem?_eq_some_iff.mp hcell).1⟩
    simp only [Cond.before, Cond.holds, Cond.value, hv] at h
    cases w <;> simp_all [Value.isRef]
def t_sl : Term := .static "BlockPicture" "SLANTS" "[I"
def t_qu : Term := .static "BlockPicture$Waves" "QUARTER" "[I"
set_option maxRecDepth 100000 in
theorem in_sl : ∀ j : Fin 64, (flatC (Jvm.Cond.and given_1 narrow_1)).contains (Cond.eq (.elem t_sl (.int (Int32.ofNat j.val))) (.int (rw_at row_sl j.val))) = true := by decide +kernel
set_option maxRecDepth 100000 in
theorem in_qu : ∀ j : Fin 9, (flatC (Jvm.Cond.and given_1 narrow_1)).contains (Cond.eq (.elem t_qu (.int (Int32.ofNat j.val))) (.int (rw_at row_qu j.val))) = true := by decide +kernel
set_option maxRecDepth 100000 in
theorem in_st : ([.arrayOf t_sl .int, .eq (.length t_sl) (.int 64), .arrayOf t_qu .int, .eq (.length t_qu) (.int 9), .isRef (.static "java/lang/Throwable" "UNASSIGNED_STACK" "[Ljava/lang/StackTraceElement;"), .isRef (.static "java/lang/Throwable" "SUPPRESSED_SENTINEL" "Ljava/util/List;")] ++ ex_not : List Cond).all (fun w => (flatC (Jvm.Cond.and given_1 narrow_1)).contains w) = true := by decide +kernel
set_option maxRecDepth 100000 in
theorem in_ly : ([.laysStatic "BlockPicture" "SLANTS" "[I", .laysStatic "BlockPicture$Waves" "QUARTER" "[I", .laysStatic "java/lang/Throwable" "UNASSIGNED_STACK" "[Ljava/lang/StackTraceElement;", .laysStatic "java/lang/Throwable" "SUPPRESSED_SENTINEL" "Ljava/util/List;"] : List Cond).all (fun w => tables_1.contains w) = true := by decide +kernel
theorem inst_all : ∀ (k : Nat) (q : vw_C), g_cl[k]? = some q → ∃ n, Cond.instantiable q.1 n ∈ gG.1 := by
  intro k q hq
  match k, hq with
  | 0, hq => cases hq; exact ⟨_, nn_M⟩
  | 1, hq => cases hq; exact ⟨_, nn_B⟩
  | 2, hq => cases hq; exact ⟨_, nn_Ca⟩
  | 3, hq => cases hq; exact ⟨_, nn_Co⟩
  | 4, hq => cases hq; exact ⟨_, nn_Li⟩
  | 5, hq => cases hq; exact ⟨_, nn_Oc⟩
  | 6, hq => cases hq; exact ⟨_, nn_Pa⟩
  | 7, hq => cases hq; exact ⟨_, nn_Pi⟩
  | 8, hq => cases hq; exact ⟨_, nn_Re⟩
  | 9, hq => cases hq; exact ⟨_, nn_Ro⟩
  | 10, hq => cases hq; exact ⟨_, nn_Sc⟩
  | 11, hq => cases hq; exact ⟨_, nn_Un⟩
  | 12, hq => cases hq; exact ⟨_, nn_Wa⟩
  | 13, hq => cases hq; exact ⟨_, j_E13⟩
  | 14, hq => cases hq; exact ⟨_, j_E14⟩
  | 15, hq => cases hq; exact ⟨_, j_E15⟩
  | n + 16, hq => simp [g_cl] at hq
theorem owA_nil {G : List Cond × List vw_C} {sz a : Nat} (h : a < sz) : ¬ owA G [] sz a := by
  rintro (⟨i, p, t, h1, -⟩ | h2)
  · cases h1
  · exact absurd h (Nat.not_lt.mpr h2)
set_option maxHeartbeats 1000000 in
theorem law_start {p : Program} {e : Env} {s : State} {m : MethodId} {below : List Frame} {meth : Method} {c : Code} (l : Launch) (hfl : l.flags = pinnedFlags ++ [noTraceFlag]) {b L : Nat} {xs : Nat → Int32} (C0 : lw_At p s m meth c b L xs) (hp : p_law L xs) : W p l e room_1 s m #[Value.ref b] below meth c s.heap [] 0 0 (lw_Z below #[Value.ref b] s) (entryFrame m ([Value.ref b] : List Value).toArray 7) := by
  obtain ⟨hx, hb, hr, hml, hown, hts, hX, hbl, hlocks, hgv⟩ := C0
  have hs := flat_of_before _ hgv
  have hst : ∀ w ∈ ([.arrayOf t_sl .int, .eq (.length t_sl) (.int 64), .arrayOf t_qu .int, .eq (.length t_qu) (.int 9), .isRef (.static "java/lang/Throwable" "UNASSIGNED_STACK" "[Ljava/lang/StackTraceElement;"), .isRef (.static "java/lang/Throwable" "SUPPRESSED_SENTINEL" "Ljava/util/List;")] ++ ex_not : List Cond), w.before #[Value.ref b] s = true := fun w hw => hs w (List.contains_iff_mem.mp (List.all_eq_true.mp in_st w hw))
  have hly : ∀ w ∈ ([.laysStatic "BlockPicture" "SLANTS" "[I", .laysStatic "BlockPicture$Waves" "QUARTER" "[I", .laysStatic "java/lang/Throwable" "UNASSIGNED_STACK" "[Ljava/lang/StackTraceElement;", .laysStatic "java/lang/Throwable" "SUPPRESSED_SENTINEL" "Ljava/util/List;"] : List Cond), w.before #[Value.ref b] s = true := fun w hw => hts w (List.mem_append_right _ (List.contains_iff_mem.mp (List.all_eq_true.mp in_ly w hw)))
  have hG : ∀ w ∈ gG.1, w.before #[Value.ref b] s = true := by
    intro w hw
    rcases List.mem_append.mp hw with h | h
    · exact hst w (List.mem_append_right _ h)
    · exact hts w h
  have htb : tb_ok gG.1 s := fun w hw hg => gw_any hg (hG w hw)
  have hA' : ∀ a : Nat, a < s.heap.size → ¬ owA gG [] s.heap.size a := fun a h => owA_nil h
  have hKc : ∀ k : Nat, ∃ (cC : ClassId) (iS : Nat → Nat), ∀ q : vw_C, g_cl[k]? = some q → u_Kn s q.1 q.2.1 q.2.2 cC iS := by
    intro k
    cases hq : g_cl[k]? with
    | none => exact ⟨0, fun _ => 0, fun q h => by cases h⟩
    | some q =>
      obtain ⟨n, hn⟩ := inst_all k q hq
      obtain ⟨cC, iS, h⟩ := u_known (C := q.1) (T := q.2.1) (N := q.2.2) hG (g_ok k q hq).1 (hG _ hn)
      exact ⟨cC, iS, fun q' h' => by cases h'; exact h⟩
  obtain ⟨c2, k2, m2, a2, a3, a4⟩ := Cond.arrayClass_spec (hG _ ac_int)
  obtain ⟨c3, k3, m3, b2, b3, b4⟩ := Cond.arrayClass_spec (hG _ ac_boolean)
  obtain ⟨c4, k4, m4, d2, d3, d4⟩ := Cond.arrayClass_spec (hG _ ac_long)
  obtain ⟨m5, c5, k5, e1, -, e2, e3, e4⟩ := Cond.arrayOver_spec (hG _ ao_950)
  obtain ⟨m6, c6, k6, f1, -, f2, f3, f4⟩ := Cond.arrayOver_spec (hG _ ao_951)
  have hkn : kn_ok ((fun k => Classical.choose (hKc k)), fun k => Classical.choose (Classical.choose_spec (hKc k))) gG.2 (fun k => if k = 2 then c2 else if k = 3 then c3 else if k = 4 then c4 else if k = 950 then c5 else c6) s := by
    refine ⟨fun k q hq => Classical.choose_spec (Classical.choose_spec (hKc k)) q hq, fun k q hq => ?_⟩
    match k, hq with
    | 0, hq => cases hq; exact ⟨fun N z => ⟨(fun k h => by cases h), k2, a3, m2, a4⟩, a2⟩
    | 1, hq => cases hq; exact ⟨fun N z => ⟨(fun k h => by cases h), k3, b3, m3, b4⟩, b2⟩
    | 2, hq => cases hq; exact ⟨fun N z => ⟨(fun k h => by cases h), k4, d3, m4, d4⟩, d2⟩
    | 3, hq => cases hq; exact ⟨fun N z => ⟨(fun k h => by cases h), k5, e2, m5, e3⟩, k5, m5, e2, e3, e1, e4⟩
    | 4, hq => cases hq; exact ⟨fun N z => ⟨(fun k h => by cases h), k6, f2, m6, f3⟩, k6, m6, f2, f3, f1, f4⟩
    | k + 5, hq => simp [zx] at hq
  have hsx : sx (owA gG [] s.heap.size) s s.heap := by
    obtain ⟨t1, g1, g2⟩ := va_Tof (tm := t_sl) (ty := .int) (N := 64) (f := fun j => .int (rw_at row_sl j)) (A := owA gG [] s.heap.size) (by decide) (hst _ (by simp)) (va_eqt (hst _ (by simp [List.mem_append]))) (fun j hj => va_eqt (hs _ (List.contains_iff_mem.mp (in_sl ⟨j, hj⟩)))) hA'
    obtain ⟨t2, g3, g4⟩ := va_Tof (tm := t_qu) (ty := .int) (N := 9) (f := fun j => .int (rw_at row_qu j)) (A := owA gG [] s.heap.size) (by decide) (hst _ (by simp)) (va_eqt (hst _ (by simp [List.mem_append]))) (fun j hj => va_eqt (hs _ (List.contains_iff_mem.mp (in_qu ⟨j, hj⟩)))) hA'
    refine ⟨⟨t1, va_Zof (hly _ (by simp)) (hG _ i_B) g1 hA', g2⟩, ⟨t2, va_Zof (hly _ (by simp)) (hG _ i_Wa) g3 hA', g4⟩, sxT_of (hly _ (by simp)) (hst _ (by simp)) hA', sxT_of (hly _ (by simp)) (hst _ (by simp)) hA'⟩
  have C : fcx gG ((fun k => Classical.choose (hKc k)), fun k => Classical.choose (Classical.choose_spec (hKc k))) (fun k => if k = 2 then c2 else if k = 3 then c3 else if k = 4 then c4 else if k = 950 then c5 else c6) (owA gG [] s.heap.size) (p, l, e, room_1, s, m, #[Value.ref b], below, meth, c, eQ gG ((fun k => Classical.choose (hKc k)), fun k => Classical.choose (Classical.choose_spec (hKc k))) (fun k => if k = 2 then c2 else if k = 3 then c3 else if k = 4 then c4 else if k = 950 then c5 else c6) below s [] 601023 7293028 (fun o _ => o = .returned (some (.int 1)))) R_Lw code 7 ret :=
    ⟨hx, hb, hml, hr, hlocks, hown, htb, hkn, fun q h => Or.inr h, g_ok, hsx⟩
  have hw := s_law_0 C hfl rfl hX hbl (owA_nil hbl) rfl rfl hp s.heap [] _ (fun i q t h => (by cases h)) ⟨fun i j p q t v h => (by cases h), fun i q t h => (by cases h)⟩ va_S.rf (show lo_has ((lg_sl [Value.ref b] ++ List.replicate (7 - (lg_sl [Value.ref b]).length) Slot.unset).toArray) 7 _ from by
      have h9 := lv_entry [Value.ref b] (n := 7) (Nat.le_of_ble_eq_true rfl)
      show lv_has _ _ (lo_l 0 _)
      exact h9)
  intro T hT XX
  rw [lg_entry_eq]
  obtain ⟨t, a1, o, h1, h2, ⟨L', rfl, -, -⟩, -, hW, Ls, hsame, hLs⟩ := hw T hT XX
  refine ⟨t, a1, _, h1, h2, rfl, ⟨_, rfl⟩, hW, sbn_drop hsame (fun q hq => ?_) (Nat.le_of_ble_eq_true rfl) (Nat.le_of_ble_eq_true rfl)⟩
  rcases hLs q hq with ⟨i, p9, t9, h9, -⟩ | h9
  · cases h9
  · exact h9
