/-! codes that were told: every word's symbol has a place -/
def cU (c : Int32) : Nat := 81 + 5 * c.toNatClampNeg
def CQu (u : Nat) (F : cF) : Prop := ∀ n : Nat, 1 ≤ n → n ≤ 16 → 0 ≤ (F (u + 3) n).toInt ∧ (F (u + 3) n).toInt + (F (u + 1) n).toInt ≤ 256
def CQi (c : Int32) (F : cF) : Prop := CQu (cU c) F
def cz (l : Int32) (F : cF) : Prop := CQi (F 75 l.toNatClampNeg) F ∧ CQi (F 76 l.toNatClampNeg) F
def LSQ (F : cF) : Prop := ∀ i : Int32, 0 ≤ i.toInt → i.toInt < (F 73 0).toInt → cz (F 74 i.toNatClampNeg) F
def ZQ (F : cF) : Prop := ∀ j : Int32, 0 ≤ j.toInt → j.toInt < (F 73 6).toInt → cz (F 77 j.toNatClampNeg / 64) F
def CV (F : cF) : Prop := ∀ c : Int32, B 0 3 c → ¬ F (cU c) 0 = 0 → CQi c F
def crow : List Nat := [82, 84, 87, 89, 92, 94, 97, 99]
def zrow : List Nat := [75, 76, 82, 84, 87, 89, 92, 94, 97, 99]
theorem nc {L rs : List Nat} (h : rs.all (fun r => !(L.contains r)) = true) {r : Nat} (hr : L.contains r = true) : rs.contains r = false := by
  rw [Bool.eq_false_iff]
  intro h1
  rw [List.contains_iff_exists_mem_beq] at h1
  obtain ⟨x, hx, hb⟩ := h1
  have e : r = x := by simpa using hb
  subst e
  have := List.all_eq_true.mp h r hx
  rw [hr] at this
  exact absurd this (by decide)
theorem zc {rs : List Nat} (h : rs.all (fun r => !(zrow.contains r)) = true) : rs.all (fun r => !(crow.contains r)) = true := by
  rw [List.all_eq_true] at h ⊢
  intro x hx
  have h1 := h x hx
  by_cases hc : crow.contains x = true
  · have : zrow.contains x = true := by
      rw [List.contains_iff_exists_mem_beq] at hc ⊢
      obtain ⟨y, hy, hb⟩ := hc
      exact ⟨y, List.mem_cons_of_mem _ (List.mem_cons_of_mem _ hy), hb⟩
    rw [this] at h1
    exact absurd h1 (by decide)
  · rw [Bool.not_eq_true] at hc
    rw [hc]
    rfl
section CAG
variable {F G : cF} {fs rs : List Nat} {c l : Int32}
theorem CQi_ag (h : CQi c F) (hc : B 0 3 c) (g : agc fs rs F G) (hr : rs.all (fun r => !(crow.contains r)) = true) : CQi c G := by
  have e : G (cU c + 3) = F (cU c + 3) ∧ G (cU c + 1) = F (cU c + 1) := by
    rcases sp_03 hc with rfl | rfl | rfl | rfl
    · exact ⟨g.2 84 rfl (nc hr rfl), g.2 82 rfl (nc hr rfl)⟩
    · exact ⟨g.2 89 rfl (nc hr rfl), g.2 87 rfl (nc hr rfl)⟩
    · exact ⟨g.2 94 rfl (nc hr rfl), g.2 92 rfl (nc hr rfl)⟩
    · exact ⟨g.2 99 rfl (nc hr rfl), g.2 97 rfl (nc hr rfl)⟩
  intro n h1 h2
  rw [e.1, e.2]
  exact h n h1 h2
theorem cz_ag (h : cz l F) (hI : IMc F) (g : agc fs rs F G) (hr : rs.all (fun r => !(zrow.contains r)) = true) : cz l G := by
  have e5 : G 75 = F 75 := g.2 75 rfl (nc hr rfl)
  have e6 : G 76 = F 76 := g.2 76 rfl (nc hr rfl)
  unfold cz
  rw [e5, e6]
  exact ⟨CQi_ag h.1 (hI 75 _) g (zc hr), CQi_ag h.2 (hI 76 _) g (zc hr)⟩
theorem LSQ_ag (h : LSQ F) (hI : IMc F) (g : agc fs rs F G) (hr : rs.all (fun r => !(zrow.contains r)) = true) (h4 : rs.contains 74 = false) (hf : fs.contains 7300 = false) : LSQ G := by
  have e0 : G 73 0 = F 73 0 := g.1 73 0 rfl hf
  have e4 : G 74 = F 74 := g.2 74 rfl h4
  intro i h0 h1
  rw [e0] at h1
  rw [e4]
  exact cz_ag (h i h0 h1) hI g hr
theorem ZQ_ag (h : ZQ F) (hI : IMc F) (g : agc fs rs F G) (hr : rs.all (fun r => !(zrow.contains r)) = true) (h4 : rs.contains 77 = false) (hf : fs.contains 7306 = false) : ZQ G := by
  have e0 : G 73 6 = F 73 6 := g.1 73 6 rfl hf
  have e4 : G 77 = F 77 := g.2 77 rfl h4
  intro i h0 h1
  rw [e0] at h1
  rw [e4]
  exact cz_ag (h i h0 h1) hI g hr
theorem CV_ag (h : CV F) (g : agc fs rs F G) (hr : rs.all (fun r => !(crow.contains r)) = true) (hf : fs.all (fun q => !([8100, 8600, 9100, 9600].contains q)) = true) : CV G := by
  intro c hc ht
  have e : G (cU c) 0 = F (cU c) 0 := by
    rcases sp_03 hc with rfl | rfl | rfl | rfl
    · exact g.1 81 0 rfl (nc hf rfl)
    · exact g.1 86 0 rfl (nc hf rfl)
    · exact g.1 91 0 rfl (nc hf rfl)
    · exact g.1 96 0 rfl (nc hf rfl)
  rw [e] at ht
  exact CQi_ag (h c hc ht) hc g hr
theorem ZQ_up {x1 x2 : Int32} (h : ZQ F) (hc : cz x1 F) (hI : IMc F) (g : agc fs rs F G) (hr : rs.all (fun r => !(zrow.contains r)) = true) (e7 : G 77 = upd (F 77) (F 73 6).toNatClampNeg ((64 * x1) + x2)) (e6 : (G 73 6).toInt = (F 73 6).toInt + 1) (b1 : B 0 2 x1) (b2 : B 0 63 x2) : ZQ G := by
  intro j h0 h1
  rw [e7]
  have h60 := (hI 73 6).1
  have h6 : 0 ≤ (F 73 6).toInt := h60
  unfold upd
  split
  · have e1 : (64 * x1).toInt = 64 * x1.toInt := t_mul (show B 64 64 (64 : Int32) from ⟨by decide, by decide⟩) b1 (by decide) (by decide) (by decide)
    have q1 := b1.1
    have q2 := b1.2
    have q3 := b2.1
    have q4 := b2.2
    have e2 : ((64 * x1) + x2).toInt = 64 * x1.toInt + x2.toInt := by rw [t_add (a := 0) (b := 128) ⟨by omega, by omega⟩ b2 (by decide) (by decide), e1]
    have e3 : ((64 * x1) + x2) / 64 = x1 := by
      apply Int32.toInt.inj
      rw [t_div (a := 0) (b := 191) ⟨by omega, by omega⟩ (show B 64 64 (64 : Int32) from ⟨by decide, by decide⟩) (by decide) (by decide), e2, show (64 : Int32).toInt = 64 from by decide]
      omega
    rw [e3]
    exact cz_ag hc hI g hr
  · next hn =>
    refine cz_ag (h j h0 ?_) hI g hr
    have a1 := cl_i h0
    have a2 := cl_i h6
    omega
theorem LSQ_up {x1 x2 x3 : Int32} (h : LSQ F) (hI : IMc F) (h2 : CQi x2 F) (h3 : CQi x3 F) (b1 : B 0 2 x1) (b2 : B 0 3 x2) (b3 : B 0 3 x3) (g : agc fs rs F G) (hr : rs.all (fun r => !(crow.contains r)) = true) (e4 : G 74 = upd (F 74) (F 73 0).toNatClampNeg x1) (e5 : G 75 = upd (F 75) x1.toNatClampNeg x2) (e6 : G 76 = upd (F 76) x1.toNatClampNeg x3) (e0 : (G 73 0).toInt = (F 73 0).toInt + 1) : LSQ G := by
  have hp : 0 ≤ (F 73 0).toInt := (hI 73 0).1
  have q1 := b1.1
  have q2 := b1.2
  intro i h0 h1
  have key : ∀ l : Int32, B 0 2 l → (¬ l = x1 → cz l F) → cz l G := by
    intro l hl hcz
    unfold cz
    rw [e5, e6]
    unfold upd
    by_cases el : l = x1
    · subst el
      rw [if_pos rfl, if_pos rfl]
      exact ⟨CQi_ag h2 b2 g hr, CQi_ag h3 b3 g hr⟩
    · have hn : ¬ l.toNatClampNeg = x1.toNatClampNeg := by
        intro e
        apply el
        apply Int32.toInt.inj
        have a1 := cl_i (x := l) hl.1
        have a2 := cl_i (x := x1) q1
        omega
      rw [if_neg hn, if_neg hn]
      have := hcz el
      exact ⟨CQi_ag this.1 (hI 75 _) g hr, CQi_ag this.2 (hI 76 _) g hr⟩
  rw [e4]
  unfold upd
  split
  · exact key x1 b1 (fun e => absurd rfl e)
  · next hn =>
    refine key _ (hI 74 _) (fun _ => h i h0 ?_)
    have a1 := cl_i h0
    have a2 := cl_i hp
    omega
end CAG
/-! giving codes out -/
def gQ (u : Nat) (x n : Int32) (F : cF) : Prop := ¬ x = 0 → ∀ m : Nat, 1 ≤ m → (m : Int) < n.toInt → 0 ≤ (F (u + 3) m).toInt ∧ (F (u + 3) m).toInt + (F (u + 1) m).toInt ≤ 256
theorem gQ_up {u : Nat} {F G : cF} {x x' n n' : Int32} (h : gQ u x n F) (hx : ¬ x' = 0 → ¬ x = 0) (hn : n'.toInt = n.toInt + 1) (h1 : 1 ≤ n.toInt) (e1 : G (u + 1) = F (u + 1)) (z : Int32) (e3 : G (u + 3) = upd (F (u + 3)) n.toNatClampNeg z) (hz : ¬ x' = 0 → 0 ≤ z.toInt ∧ z.toInt + (F (u + 1) n.toNatClampNeg).toInt ≤ 256) : gQ u x' n' G := by
  intro hx' m m1 m2
  rw [e1, e3]
  unfold upd
  by_cases e : m = n.toNatClampNeg
  · rw [if_pos e, e]
    exact hz hx'
  · rw [if_neg e]
    refine h (hx hx') m m1 ?_
    have := cl_i (x := n) (by omega)
    omega
theorem gQ_end {u : Nat} {F : cF} {x n : Int32} (h : gQ u x n F) (hn : 17 ≤ n.toInt) (hx : ¬ x = 0) : CQu u F := fun m h1 h2 => h hx m h1 (by omega)
/-! a code is told anew -/
theorem CQu_tr {u : Nat} {F G : cF} (h : CQu u F) (e3 : G (u + 3) = F (u + 3)) (e1 : G (u + 1) = F (u + 1)) : CQu u G := by
  intro n h1 h2
  rw [e3, e1]
  exact h n h1 h2
theorem CV_up {F G : cF} {c0 : Int32} (h : CV F) (h0 : CQu (cU c0) G) (g : ∀ c : Int32, B 0 3 c → ¬ c = c0 → G (cU c) 0 = F (cU c) 0 ∧ G (cU c + 3) = F (cU c + 3) ∧ G (cU c + 1) = F (cU c + 1)) : CV G := by
  intro c hc ht
  by_cases e : c = c0
  · rw [e]
    exact h0
  · obtain ⟨a0, a3, a1⟩ := g c hc e
    rw [a0] at ht
    exact CQu_tr (h c hc ht) a3 a1
section CUP
variable {F G : cF} {fs rs : List Nat}
theorem CV_up0 (h : CV F) (h0 : CQu 81 G) (g : agc fs rs F G) (hr : rs.all (fun r => !([87, 89, 92, 94, 97, 99].contains r)) = true) (hf : fs.all (fun q => !([8600, 9100, 9600].contains q)) = true) : CV G := by
  refine CV_up (c0 := 0) h h0 (fun c hc hn => ?_)
  rcases sp_03 hc with rfl | rfl | rfl | rfl
  · exact absurd rfl hn
  · exact ⟨g.1 86 0 rfl (nc hf rfl), g.2 89 rfl (nc hr rfl), g.2 87 rfl (nc hr rfl)⟩
  · exact ⟨g.1 91 0 rfl (nc hf rfl), g.2 94 rfl (nc hr rfl), g.2 92 rfl (nc hr rfl)⟩
  · exact ⟨g.1 96 0 rfl (nc hf rfl), g.2 99 rfl (nc hr rfl), g.2 97 rfl (nc hr rfl)⟩
theorem CV_up1 (h : CV F) (h0 : CQu 86 G) (g : agc fs rs F G) (hr : rs.all (fun r => !([82, 84, 92, 94, 97, 99].contains r)) = true) (hf : fs.all (fun q => !([8100, 9100, 9600].contains q)) = true) : CV G := by
  refine CV_up (c0 := 1) h h0 (fun c hc hn => ?_)
  rcases sp_03 hc with rfl | rfl | rfl | rfl
  · exact ⟨g.1 81 0 rfl (nc hf rfl), g.2 84 rfl (nc hr rfl), g.2 82 rfl (nc hr rfl)⟩
  · exact absurd rfl hn
  · exact ⟨g.1 91 0 rfl (nc hf rfl), g.2 94 rfl (nc hr rfl), g.2 92 rfl (nc hr rfl)⟩
  · exact ⟨g.1 96 0 rfl (nc hf rfl), g.2 99 rfl (nc hr rfl), g.2 97 rfl (nc hr rfl)⟩
theorem CV_up2 (h : CV F) (h0 : CQu 91 G) (g : agc fs rs F G) (hr : rs.all (fun r => !([82, 84, 87, 89, 97, 99].contains r)) = true) (hf : fs.all (fun q => !([8100, 8600, 9600].contains q)) = true) : CV G := by
  refine CV_up (c0 := 2) h h0 (fun c hc hn => ?_)
  rcases sp_03 hc with rfl | rfl | rfl | rfl
  · exact ⟨g.1 81 0 rfl (nc hf rfl), g.2 84 rfl (nc hr rfl), g.2 82 rfl (nc hr rfl)⟩
  · exact ⟨g.1 86 0 rfl (nc hf rfl), g.2 89 rfl (nc hr rfl), g.2 87 rfl (nc hr rfl)⟩
  · exact absurd rfl hn
  · exact ⟨g.1 96 0 rfl (nc hf rfl), g.2 99 rfl (nc hr rfl), g.2 97 rfl (nc hr rfl)⟩
theorem CV_up3 (h : CV F) (h0 : CQu 96 G) (g : agc fs rs F G) (hr : rs.all (fun r => !([82, 84, 87, 89, 92, 94].contains r)) = true) (hf : fs.all (fun q => !([8100, 8600, 9100].contains q)) = true) : CV G := by
  refine CV_up (c0 := 3) h h0 (fun c hc hn => ?_)
  rcases sp_03 hc with rfl | rfl | rfl | rfl
  · exact ⟨g.1 81 0 rfl (nc hf rfl), g.2 84 rfl (nc hr rfl), g.2 82 rfl (nc hr rfl)⟩
  · exact ⟨g.1 86 0 rfl (nc hf rfl), g.2 89 rfl (nc hr rfl), g.2 87 rfl (nc hr rfl)⟩
  · exact ⟨g.1 91 0 rfl (nc hf rfl), g.2 94 rfl (nc hr rfl), g.2 92 rfl (nc hr rfl)⟩
  · exact absurd rfl hn
theorem CV_none (h : ∀ c : Int32, B 0 3 c → F (cU c) 0 = 0) : CV F := fun c hc ht => absurd (h c hc) ht
end CUP
/-! scans: copies, what is told, what is framed -/
theorem nlt_B {lo hi : Int} {x : Int32} (h : B lo hi x) (h0 : 0 ≤ lo) : ¬ x < 0 := by
  intro e
  have h1 := h.1
  have e1 := Int32.lt_iff_toInt_lt.mp e
  have e0 : (0 : Int32).toInt = 0 := by decide
  omega
theorem cl_N {lo hi : Int} {k N : Nat} {x c : Int32} (h : B lo hi x) (h0 : 0 ≤ lo) (hc : c.toNatClampNeg = k) (hh : hi + k ≤ N) : x.toNatClampNeg + c.toNatClampNeg ≤ N := by
  have h1 := h.1
  have h2 := h.2
  have := cl_i (x := x) (by omega)
  omega
theorem IMc_w {F : cF} {u : Nat} {w : Nat → Int32} (hI : IMc F) (h : ∀ i, B (bC u i).1 (bC u i).2 (w i)) : IMc (va_up F u w) := by
  intro v j
  by_cases e : v = u
  · subst e
    rw [up_at]
    exact h j
  · rw [up_ne e]
    exact hI v j
theorem cpy_B {lo hi : Int} {f g : Nat → Int32} {a b n : Nat} (hf : ∀ k, B lo hi (f k)) (hg : ∀ k, B lo hi (g k)) (i : Nat) : B lo hi (va_cpy f g a b n i) := by
  unfold va_cpy
  split
  · exact hf _
  · exact hg _
theorem tld {a b : Bool} {P : Nat → Nat → Nat} {F : cF} {e : Int32} (he : B 0 3 e) (h : ¬ F (PC a b P 80 e.toNatClampNeg) 0 = 0) : ¬ F (cU e) 0 = 0 := by
  rcases sp_03 he with rfl | rfl | rfl | rfl
  · exact h
  · exact h
  · exact h
  · exact h
def FA (m : Nat) (F : cF) : Prop := (F 59 6).toInt = 1 → qf (F (m + 1)) 0 (F m 2).toInt 1 (F m 5).toInt ∧ qf (F (m + 2)) 0 (F m 2).toInt 1 (F m 6).toInt ∧ ((F m 5).toInt = 1 ∨ (F m 7).toInt ≤ 4) ∧ ((F m 6).toInt = 1 ∨ (F m 8).toInt ≤ 4)
theorem FA_tr {m : Nat} {F G : cF} (h : FA m F) (e : G 59 6 = F 59 6) (e1 : G (m + 1) = F (m + 1)) (e2 : G (m + 2) = F (m + 2)) (f2 : G m 2 = F m 2) (f5 : G m 5 = F m 5) (f6 : G m 6 = F m 6) (f7 : G m 7 = F m 7) (f8 : G m 8 = F m 8) : FA m G := by
  unfold FA
  rw [e, e1, e2, f2, f5, f6, f7, f8]
  exact h
def SR (x : Int32) (F : cF) : Prop := x = 218 → ZQ F ∧ UPs 73 F
def TN (x : Int32) (F : cF) : Prop := ∀ c : Int32, B 0 3 c → c.toInt < x.toInt → F (cU c) 0 = 0
theorem TN_up {F G : cF} {fs rs : List Nat} {x x' c0 : Int32} (h : TN x F) (e : x'.toInt = x.toInt + 1) (e0 : c0.toInt = x.toInt) (hz : G (cU c0) 0 = 0) (g : ∀ c : Int32, B 0 3 c → ¬ c = c0 → G (cU c) 0 = F (cU c) 0) : TN x' G := by
  intro c hc hl
  by_cases q : c = c0
  · rw [q]
    exact hz
  · rw [g c hc q]
    refine h c hc ?_
    have : c.toInt ≠ c0.toInt := fun e => q (Int32.toInt.inj e)
    omega
theorem TN_CV {F : cF} {x : Int32} (h : TN x F) (hx : 4 ≤ x.toInt) : CV F := CV_none (fun c hc => h c hc (by have := hc.2; omega))
