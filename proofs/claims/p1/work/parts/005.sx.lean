/-! what is known of the heap outside of all worlds: two rows of the class that never change, and two statics of Throwable -/
def zx (z : Nat → ClassId) : List (ClassId × FieldType) := [(z 950, .object "BlockPicture$OwnCodes"), (z 951, .object "BlockPicture$Codes")]
def row_sl : List Nat := [0, 1, 8, 16, 9, 2, 3, 10, 17, 24, 32, 25, 18, 11, 4, 5, 12, 19, 26, 33, 40, 48, 41, 34, 27, 20, 13, 6, 7, 14, 21, 28, 35, 42, 49, 56, 57, 50, 43, 36, 29, 22, 15, 23, 30, 37, 44, 51, 58, 59, 52, 45, 38, 31, 39, 46, 53, 60, 61, 54, 47, 55, 62, 63]
def row_qu : List Nat := [4096, 4017, 3784, 3406, 2896, 2276, 1567, 799, 0]
def rw_at (l : List Nat) (j : Nat) : Int32 := Int32.ofNat (l.getD j 0)
def sx (A : Nat → Prop) (U : State) (H : Heap) : Prop :=
  (∃ t : Nat, va_Z "BlockPicture" "SLANTS" "[I" (.ref t) A U H ∧ va_T .int t 64 (fun j => .int (rw_at row_sl j)) A U H) ∧ (∃ t : Nat, va_Z "BlockPicture$Waves" "QUARTER" "[I" (.ref t) A U H ∧ va_T .int t 9 (fun j => .int (rw_at row_qu j)) A U H)
theorem sx.moved {A : Nat → Prop} {u U : State} {H : Heap} (hvm : u.vm.Alike U.vm) (h : sx A u H) : sx A U H := by
  obtain ⟨⟨t, a1, a2⟩, ⟨t', b1, b2⟩⟩ := h
  exact ⟨⟨t, a1.moved hvm, a2.moved hvm⟩, ⟨t', b1.moved hvm, b2.moved hvm⟩⟩
theorem sx.kept {A : Nat → Prop} {U : State} {H H1 : Heap} (h : sx A U H) (hq : ∀ a : Nat, a < H.size → ¬ A a → H1[a]? = H[a]?) : sx A U H1 := by
  obtain ⟨⟨t, a1, a2⟩, ⟨t', b1, b2⟩⟩ := h
  exact ⟨⟨t, a1.kept hq, a2.kept hq⟩, ⟨t', b1.kept hq, b2.kept hq⟩⟩
theorem sx.narrow {A B : Nat → Prop} {U : State} {H : Heap} (h : sx A U H) (hAB : ∀ q, B q → A q) : sx B U H := by
  obtain ⟨⟨t, a1, a2⟩, ⟨t', b1, b2⟩⟩ := h
  exact ⟨⟨t, a1.narrow hAB, a2.narrow hAB⟩, ⟨t', b1.narrow hAB, b2.narrow hAB⟩⟩
