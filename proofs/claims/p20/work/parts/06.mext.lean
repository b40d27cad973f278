def ly_M : fl := [(0, 0), (0, 0), (0, 0), (0, 0), (2, 12288), (2, 128), (2, 32768), (0, 0), (2, 65536), (0, 0), (0, 0), (3, 3), (2, 3), (2, 3), (2, 3), (2, 9), (2, 9), (2, 9), (2, 9), (2, 36864), (2, 12288), (2, 4096), (2, 64), (2, 64), (4, 64), (2, 64), (2, 1028), (2, 1028), (2, 1028), (2, 8320), (2, 8320), (2, 8320), (0, 0), (0, 0), (0, 0), (0, 0), (0, 0), (0, 0), (2, 256), (3, 4), (2, 64), (2, 1024), (3, 4), (1, 0), (2, 3), (2, 3), (2, 192), (3, 3), (0, 0), (0, 0), (2, 3), (2, 3), (2, 3), (2, 3), (0, 0), (0, 0), (0, 0), (0, 0)]
/-! the model's state, as its predicates speak of it -/
abbrev ms : Type := (Nat → Int32) × (Nat → Nat → Int32) × (Nat → Nat → Int64)
def pM_i (K : Int32 → ms → Prop) (o : Nat) (ad : Nat → Nat) : Outcome → fw → Prop := fun oc L' => ∃ (v : Int32) (S : ms), K v S ∧ oc = .returned (some (.int v)) ∧ L' = [(0, ly_M, (o, ad, S.1, S.2.1, S.2.2))]
def pM_v (K : ms → Prop) (o : Nat) (ad : Nat → Nat) : Outcome → fw → Prop := fun oc L' => ∃ S : ms, K S ∧ oc = .returned none ∧ L' = [(0, ly_M, (o, ad, S.1, S.2.1, S.2.2))]
def pM_n (K : ms → Prop) (o : Nat) : Outcome → fw → Prop := fun oc L' => ∃ (ad : Nat → Nat) (S : ms), K S ∧ oc = .returned none ∧ L' = [(0, ly_M, (o, ad, S.1, S.2.1, S.2.2))]
def pS_i (K : Int32 → Prop) : Outcome → fw → Prop := fun oc L' => ∃ v : Int32, K v ∧ oc = .returned (some (.int v)) ∧ L' = []
section AWX
variable {G : List Cond × List vw_C} {D : va_G} {z : Nat → ClassId} {A : Nat → Prop} {X : cx} {nL pc : Nat} {lo : List (Option Value)} {st : List Value} {L : fw} {nc ns : Nat} {own : String} {cc : ByteArray} {ret : Option FieldType}
theorem a_ldc (C : fcx G D z A X own cc nL ret) {idx : Nat} {v : Int32} (hd : decode cc pc = .ok (.ldc idx, 2)) (hw : Cond.constant own idx v ∈ G.1) (k : aw G D z A X nL (pc + 2) lo (.int v :: st) L nc ns) : aw G D z A X nL pc lo st L nc ns :=
  fun H locs ls hH hD hS hl => lv_ldc C.x C.b C.ow (C.tb.use hw rfl) hd (k H locs ls hH hD hS hl)
theorem a_ldcw (C : fcx G D z A X own cc nL ret) {idx : Nat} {v : Int32} (hd : decode cc pc = .ok (.ldc_w idx, 3)) (hw : Cond.constant own idx v ∈ G.1) (k : aw G D z A X nL (pc + 3) lo (.int v :: st) L nc ns) : aw G D z A X nL pc lo st L nc ns :=
  fun H locs ls hH hD hS hl => lv_ldcw C.x C.b C.ow (C.tb.use hw rfl) hd (k H locs ls hH hD hS hl)
theorem a_ldc2 (C : fcx G D z A X own cc nL ret) {idx : Nat} {v : Int64} (hd : decode cc pc = .ok (.ldc2_w idx, 3)) (hw : Cond.constantLong own idx v ∈ G.1) (k : aw G D z A X nL (pc + 3) lo (.long v :: st) L nc ns) : aw G D z A X nL pc lo st L nc ns :=
  fun H locs ls hH hD hS hl => lv_ldc2 C.x C.b C.ow (C.tb.use hw rfl) hd (k H locs ls hH hD hS hl)
theorem a_lcmp (C : fcx G D z A X own cc nL ret) {x y : Int64} (hd : decode cc pc = .ok (.lcmp, 1)) (k : aw G D z A X nL (pc + 1) lo (.int (lg_cmp x y) :: st) L nc ns) : aw G D z A X nL pc lo (.long y :: .long x :: st) L nc ns :=
  fun H locs ls hH hD hS hl => W.lcmp C.x C.b hd (k H locs ls hH hD hS hl)
end AWX
