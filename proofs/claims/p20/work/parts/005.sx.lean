/-! what is known of the heap outside of all worlds: two rows of the class that never change, and two statics of Throwable -/
def zx (z : Nat → ClassId) : List (ClassId × FieldType) := [(z 950, .object "BlockPicture$OwnCodes"), (z 951, .object "BlockPicture$Codes")]
def row_sl : List Nat := [0, 1, 8, 16, 9, 2, 3, 10, 17, 24, 32, 25, 18, 11, 4, 5, 12, 19, 26, 33, 40, 48, 41, 34, 27, 20, 13, 6, 7, 14, 21, 28, 35, 42, 49, 56, 57, 50, 43, 36, 29, 22, 15, 23, 30, 37, 44, 51, 58, 59, 52, 45, 38, 31, 39, 46, 53, 60, 61, 54, 47, 55, 62, 63]
def row_qu : List Nat := [4096, 4017, 3784, 3406, 2896, 2276, 1567, 799, 0]
def rw_at (l : List Nat) (j : Nat) : Int32 := Int32.ofNat (l.getD j 0)
/-- a static of Throwable that holds an object or null -/
def sxT (n d : String) (A : Nat → Prop) (U : State) (H : Heap) : Prop := ∃ (c : Nat) (k : Class) (i : Nat) (f : Field) (a : Nat) (cell : Cell) (v : Value), U.vm.findClass "java/lang/Throwable" = some c ∧ U.fieldFound? "java/lang/Throwable" n d = some (c, k, i, f) ∧ f.isStatic = true ∧ k.statics = some a ∧ H[a]? = some cell ∧ cell.vm.isStatics = true ∧ cell.cls = c ∧ f.slot < cell.slots.size ∧ k.staticTypes[f.slot]? = some f.type ∧ cell.slots[f.slot]? = some v ∧ v.isRef = true ∧ ¬ A a
theorem sxT.moved {n d : String} {A : Nat → Prop} {u U : State} {H : Heap} (hvm : u.vm.Alike U.vm) (h : sxT n d A u H) : sxT n d A U H := by
  obtain ⟨c, k, i, f, a, cell, v, h1, h2, h3, h4, h5, h6, h7, h8, h9, h10⟩ := h
  obtain ⟨k', hi', he⟩ := State.fieldFound?_setVm hvm h2
  exact ⟨c, k', i, f, a, cell, v, by rw [hvm.findClass]; exact h1, hi', h3, by rw [he]; exact h4, h5, h6, h7, h8, by rw [he]; exact h9, h10⟩
theorem sxT.kept {n d : String} {A : Nat → Prop} {U : State} {H H1 : Heap} (h : sxT n d A U H) (hq : ∀ a : Nat, a < H.size → ¬ A a → H1[a]? = H[a]?) : sxT n d A U H1 := by
  obtain ⟨c, k, i, f, a, cell, v, h1, h2, h3, h4, h5, h6, h7, h8, h9, h10, h11, h12⟩ := h
  exact ⟨c, k, i, f, a, cell, v, h1, h2, h3, h4, by rw [hq a (Array.getElem?_eq_some_iff.mp h5).1 h12]; exact h5, h6, h7, h8, h9, h10, h11, h12⟩
theorem sxT.narrow {n d : String} {A B : Nat → Prop} {U : State} {H : Heap} (h : sxT n d A U H) (hAB : ∀ q, B q → A q) : sxT n d B U H := by
  obtain ⟨c, k, i, f, a, cell, v, h1, h2, h3, h4, h5, h6, h7, h8, h9, h10, h11, h12⟩ := h
  exact ⟨c, k, i, f, a, cell, v, h1, h2, h3, h4, h5, h6, h7, h8, h9, h10, h11, fun z => h12 (hAB a z)⟩
theorem sxT.lays {n d : String} {A : Nat → Prop} {U : State} {a : Array Value} (h : sxT n d A U U.heap) : (Cond.laysStatic "java/lang/Throwable" n d).before a U = true := by
  obtain ⟨c, k, i, f, a, cell, v, h1, h2, h3, h4, h5, h6, h7, h8, h9, h10, h11, h12⟩ := h
  exact Cond.laysStatic_of h1 h2 h3 h4 h5 h6 h7 h8 h9
theorem sxT.ref {n d : String} {A : Nat → Prop} {U : State} {a : Array Value} (h : sxT n d A U U.heap) : (Cond.isRef (.static "java/lang/Throwable" n d)).before a U = true := by
  obtain ⟨c, k, i, f, a, cell, v, h1, h2, h3, h4, h5, h6, h7, h8, h9, h10, h11, h12⟩ := h
  simp [Cond.before, Cond.holds, Cond.value, Term.eval, State.fieldNamed?, h2, h3, h4, h5, h6, h10]
  cases v <;> simp_all [Value.isRef]
def sx (A : Nat → Prop) (U : State) (H : Heap) : Prop :=
  (∃ t : Nat, va_Z "BlockPicture" "SLANTS" "[I" (.ref t) A U H ∧ va_T .int t 64 (fun j => .int (rw_at row_sl j)) A U H) ∧ (∃ t : Nat, va_Z "BlockPicture$Waves" "QUARTER" "[I" (.ref t) A U H ∧ va_T .int t 9 (fun j => .int (rw_at row_qu j)) A U H) ∧ sxT "UNASSIGNED_STACK" "[Ljava/lang/StackTraceElement;" A U H ∧ sxT "SUPPRESSED_SENTINEL" "Ljava/util/List;" A U H
theorem sx.moved {A : Nat → Prop} {u U : State} {H : Heap} (hvm : u.vm.Alike U.vm) (h : sx A u H) : sx A U H := by
  obtain ⟨⟨t, a1, a2⟩, ⟨t', b1, b2⟩, c1, c2⟩ := h
  exact ⟨⟨t, a1.moved hvm, a2.moved hvm⟩, ⟨t', b1.moved hvm, b2.moved hvm⟩, c1.moved hvm, c2.moved hvm⟩
theorem sx.kept {A : Nat → Prop} {U : State} {H H1 : Heap} (h : sx A U H) (hq : ∀ a : Nat, a < H.size → ¬ A a → H1[a]? = H[a]?) : sx A U H1 := by
  obtain ⟨⟨t, a1, a2⟩, ⟨t', b1, b2⟩, c1, c2⟩ := h
  exact ⟨⟨t, a1.kept hq, a2.kept hq⟩, ⟨t', b1.kept hq, b2.kept hq⟩, c1.kept hq, c2.kept hq⟩
theorem sx.narrow {A B : Nat → Prop} {U : State} {H : Heap} (h : sx A U H) (hAB : ∀ q, B q → A q) : sx B U H := by
  obtain ⟨⟨t, a1, a2⟩, ⟨t', b1, b2⟩, c1, c2⟩ := h
  exact ⟨⟨t, a1.narrow hAB, a2.narrow hAB⟩, ⟨t', b1.narrow hAB, b2.narrow hAB⟩, c1.narrow hAB, c2.narrow hAB⟩
