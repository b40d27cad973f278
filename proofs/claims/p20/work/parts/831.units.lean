/-! the greatest factor, and sides, as functions of the state -/
def gmx (g : Nat → Int32) (a : Nat) : Nat → Int32
  | 0 => 1
  | n + 1 => if g (a + n) ≤ gmx g a n then gmx g a n else g (a + n)
theorem gmx_B {g : Nat → Int32} {a n : Nat} (h : ∀ j, j < n → B 1 2 (g (a + j))) : B 1 2 (gmx g a n) := by
  induction n with
  | zero => exact (show B 1 2 (1 : Int32) from ⟨by decide, by decide⟩)
  | succ n ih =>
    unfold gmx
    split
    · exact ih (fun j hj => h j (by omega))
    · exact h n (by omega)
theorem gmx_ge {g : Nat → Int32} {a : Nat} : ∀ {n j : Nat}, j < n → (g (a + j)).toInt ≤ (gmx g a n).toInt := by
  intro n
  induction n with
  | zero => intro j h; omega
  | succ n ih =>
    intro j h
    unfold gmx
    split
    · next hc =>
      by_cases hj : j = n
      · subst hj; exact i_le hc
      · exact ih (by omega)
    · next hc =>
      by_cases hj : j = n
      · subst hj; exact Int.le_refl _
      · exact Int.le_trans (ih (by omega)) (Int.le_of_lt (i_lt (nle_lt hc)))
theorem z0c : (0 : Int32).toNatClampNeg = 0 := by decide
theorem h30 (n : Nat) : ((3 * 0 : Int32) + nI n) = nI n := by
  have : (3 * 0 : Int32) = nI 0 := by decide
  rw [this, nI_add, Nat.zero_add]
theorem hg15 {S : ms} {K : Int32 → ms → Prop} {L : Nat} (hL : S.2.1 14 0 = nI L) (h3 : L ≤ 3) (hK : K (gmx (S.2.1 15) 0 L) S) : p_greatest 0 1 S K := by
  unfold p_greatest
  refine ⟨fun y1 y2 y3 y4 yS => 0 = y1 ∧ 1 = y2 ∧ S = yS ∧ ∃ n : Nat, y4 = nI n ∧ n ≤ L ∧ y3 = gmx (S.2.1 15) 0 n, fun _ _ _ y4 _ => 3 - y4.toNatClampNeg, ⟨rfl, rfl, rfl, 0, rfl, by omega, rfl⟩, ?_⟩
  rintro _ _ _ _ _ ⟨rfl, rfl, rfl, n, rfl, hn, rfl⟩
  unfold b_greatest_5
  rw [z0c, hL]
  refine ⟨nI_in (c := 0) (by decide) (by decide), fun hc => ?_, fun hc => ?_⟩
  · rw [nI_leI (by omega) (by omega)] at hc
    have : n = L := by omega
    subst this
    exact hK
  · rw [nI_leI (by omega) (by omega)] at hc
    refine ⟨fun h => absurd h (by decide), fun _ => ?_⟩
    rw [h30, nI_clamp (by omega)]
    refine ⟨nI_in (by omega) (by decide), ?_⟩
    unfold b_greatest_45 b_greatest_59
    rw [nI_1]
    refine ⟨fun h => ⟨⟨rfl, rfl, rfl, n + 1, rfl, by omega, by rw [gmx, Nat.zero_add, if_pos h]⟩, ?_⟩, fun h => ⟨⟨rfl, rfl, rfl, n + 1, rfl, by omega, by rw [gmx, Nat.zero_add, if_neg h]⟩, ?_⟩⟩
    · show 3 - (nI (n + 1)).toNatClampNeg < 3 - (nI n).toNatClampNeg
      rw [nI_clamp (by omega), nI_clamp (by omega)]; omega
    · show 3 - (nI (n + 1)).toNatClampNeg < 3 - (nI n).toNatClampNeg
      rw [nI_clamp (by omega), nI_clamp (by omega)]; omega
theorem hg16 {S : ms} {K : Int32 → ms → Prop} {L : Nat} (hL : S.2.1 14 0 = nI L) (h3 : L ≤ 3) (hK : K (gmx (S.2.1 16) 0 L) S) : p_greatest 0 0 S K := by
  unfold p_greatest
  refine ⟨fun y1 y2 y3 y4 yS => 0 = y1 ∧ 0 = y2 ∧ S = yS ∧ ∃ n : Nat, y4 = nI n ∧ n ≤ L ∧ y3 = gmx (S.2.1 16) 0 n, fun _ _ _ y4 _ => 3 - y4.toNatClampNeg, ⟨rfl, rfl, rfl, 0, rfl, by omega, rfl⟩, ?_⟩
  rintro _ _ _ _ _ ⟨rfl, rfl, rfl, n, rfl, hn, rfl⟩
  unfold b_greatest_5
  rw [z0c, hL]
  refine ⟨nI_in (c := 0) (by decide) (by decide), fun hc => ?_, fun hc => ?_⟩
  · rw [nI_leI (by omega) (by omega)] at hc
    have : n = L := by omega
    subst this
    exact hK
  · rw [nI_leI (by omega) (by omega)] at hc
    refine ⟨fun _ => ?_, fun h => absurd rfl h⟩
    rw [h30, nI_clamp (by omega)]
    refine ⟨nI_in (by omega) (by decide), ?_⟩
    unfold b_greatest_45 b_greatest_59
    rw [nI_1]
    refine ⟨fun h => ⟨⟨rfl, rfl, rfl, n + 1, rfl, by omega, by rw [gmx, Nat.zero_add, if_pos h]⟩, ?_⟩, fun h => ⟨⟨rfl, rfl, rfl, n + 1, rfl, by omega, by rw [gmx, Nat.zero_add, if_neg h]⟩, ?_⟩⟩
    · show 3 - (nI (n + 1)).toNatClampNeg < 3 - (nI n).toNatClampNeg
      rw [nI_clamp (by omega), nI_clamp (by omega)]; omega
    · show 3 - (nI (n + 1)).toNatClampNeg < 3 - (nI n).toNatClampNeg
      rw [nI_clamp (by omega), nI_clamp (by omega)]; omega
def upw (x y : Int32) : Int32 := ((x + y) - 1) / y
/-- how many units there are, across and down -/
def UWs (r r' : Nat) (k : Nat) (S : ms) (L : Nat) : Int32 := if L = 1 then upw (upw (S.2.1 r' 0 * S.2.1 r 0) (gmx (S.2.1 r) 0 L)) 8 else upw (S.1 k) (8 * gmx (S.2.1 r) 0 L)
theorem upw_B {x y : Int32} {m n : Int} (hx : B 1 m x) (hy : B 1 n y) (h : m + n ≤ 2147483647) : B 1 ((m + n - 1)) (upw x y) ∧ (upw x y).toInt = (x.toInt + y.toInt - 1) / y.toInt := by
  have x1 := hx.1
  have x2 := hx.2
  have y1 := hy.1
  have y2 := hy.2
  have e1 : (x + y).toInt = x.toInt + y.toInt := t_add hx hy (by decide) (by omega)
  have e2 : (x + y - 1).toInt = x.toInt + y.toInt - 1 := by
    rw [t_sub (a := 2) (b := m + n) (c := 1) (d := 1) ⟨by omega, by omega⟩ ⟨by decide, by decide⟩ (by decide) (by omega), e1]
    rfl
  have e3 : (upw x y).toInt = (x.toInt + y.toInt - 1) / y.toInt := by
    unfold upw
    rw [t_div (a := 1) (b := m + n - 1) ⟨by omega, by omega⟩ hy (by decide) (by decide), e2]
  refine ⟨?_, e3⟩
  unfold B
  rw [e3]
  constructor
  · exact Int.le_ediv_of_mul_le (by omega) (by omega)
  · have : (x.toInt + y.toInt - 1) / y.toInt ≤ x.toInt + y.toInt - 1 := Int.ediv_le_self _ (by omega)
    omega
/-! the walk over units: what it costs, and the starts behind it -/
def cl2 (l : Nat) : Nat := if l = 0 then 0 else 2
def kS (I : ms) (l : Nat) (f : Nat → Nat) : Nat → Nat → (Nat → Int32) → (Nat → Int32)
  | 0, _, st => st
  | m + 1, k, st => kS I l f m (k + 1) (upd st l (lvh I l (f k) 0))
def kC (t : Nat → Int) (I : ms) (l : Nat) (f : Nat → Nat) : Nat → Nat → (Nat → Int32) → Int
  | 0, _, _ => 0
  | m + 1, k, st => blkT t (cl2 l) (lvh I l (f k)) (st l) + kC t I l f m (k + 1) (upd st l (lvh I l (f k) 0))
def lS (I : ms) (f : Nat → Nat → Nat) (cnt : Nat → Nat) : Nat → Nat → (Nat → Int32) → (Nat → Int32)
  | 0, _, st => st
  | m + 1, l, st => lS I f cnt m (l + 1) (kS I l (f l) (cnt l) 0 st)
def lC (t : Nat → Int) (I : ms) (f : Nat → Nat → Nat) (cnt : Nat → Nat) : Nat → Nat → (Nat → Int32) → Int
  | 0, _, _ => 0
  | m + 1, l, st => kC t I l (f l) (cnt l) 0 st + lC t I f cnt m (l + 1) (kS I l (f l) (cnt l) 0 st)
def zz : Nat → (Nat → Int32) → (Nat → Int32)
  | 0, g => g
  | n + 1, g => upd (zz n g) n 0
def uC (t : Nat → Int) (I : ms) (f : Nat → Nat → Nat → Nat) (cnt : Nat → Nat) (L : Nat) (rs : Nat → Bool) : Nat → Nat → (Nat → Int32) → Int
  | 0, _, _ => 0
  | m + 1, n, st => lC t I (f n) cnt L 0 (if rs n then zz 3 st else st) + uC t I f cnt L rs m (n + 1) (lS I (f n) cnt L 0 (if rs n then zz 3 st else st))
theorem blkT_nn {t : Nat → Int} (ht : ∀ j, 0 ≤ t j) {c : Nat} {h : Nat → Int32} {s : Int32} : 0 ≤ blkT t c h s := by
  unfold blkT
  have h1 := ht (257 * c + blx (h 0 - s))
  have h2 := acT_nn ht (c + 1) h 63 0
  omega
theorem kC_nn {t : Nat → Int} (ht : ∀ j, 0 ≤ t j) {I : ms} {l : Nat} {f : Nat → Nat} : ∀ m k st, 0 ≤ kC t I l f m k st
  | 0, _, _ => Int.le_refl _
  | m + 1, k, st => by
    unfold kC
    have h1 := blkT_nn ht (c := cl2 l) (h := lvh I l (f k)) (s := st l)
    have h2 := kC_nn ht (I := I) (l := l) (f := f) m (k + 1) (upd st l (lvh I l (f k) 0))
    omega
theorem lC_nn {t : Nat → Int} (ht : ∀ j, 0 ≤ t j) {I : ms} {f : Nat → Nat → Nat} {cnt : Nat → Nat} : ∀ m l st, 0 ≤ lC t I f cnt m l st
  | 0, _, _ => Int.le_refl _
  | m + 1, l, st => by
    unfold lC
    have h1 := kC_nn ht (I := I) (l := l) (f := f l) (cnt l) 0 st
    have h2 := lC_nn ht (I := I) (f := f) (cnt := cnt) m (l + 1) (kS I l (f l) (cnt l) 0 st)
    omega
theorem uC_nn {t : Nat → Int} (ht : ∀ j, 0 ≤ t j) {I : ms} {f : Nat → Nat → Nat → Nat} {cnt : Nat → Nat} {L : Nat} {rs : Nat → Bool} : ∀ m n st, 0 ≤ uC t I f cnt L rs m n st
  | 0, _, _ => Int.le_refl _
  | m + 1, n, st => by
    unfold uC
    have h1 := lC_nn ht (I := I) (f := f n) (cnt := cnt) L 0 (if rs n then zz 3 st else st)
    have h2 := uC_nn ht (I := I) (f := f) (cnt := cnt) (L := L) (rs := rs) m (n + 1) (lS I (f n) cnt L 0 (if rs n then zz 3 st else st))
    omega
/-- the block k of layer l in unit n -/
def fU (uw : Nat) (bw bh G : Nat → Nat) (n l k : Nat) : Nat := ((n / uw) * bh l + k / bw l) * G l + ((n % uw) * bw l + k % bw l)
theorem fU_le {uw uh n l k : Nat} {bw bh G : Nat → Nat} (hw : 1 ≤ bw l) (hh : 1 ≤ bh l) (hG : G l ≤ 8) (huw : 1 ≤ uw) (h1 : uw * bw l ≤ 8) (h2 : uh * bh l ≤ 8) (hn : n < uw * uh) (hk : k < bw l * bh l) : (n / uw) * bh l + k / bw l ≤ 7 ∧ (n % uw) * bw l + k % bw l ≤ 7 ∧ fU uw bw bh G n l k ≤ 63 := by
  have a1 : n / uw < uh := Nat.div_lt_of_lt_mul hn
  have a2 : n % uw < uw := Nat.mod_lt _ (by omega)
  have a3 : k / bw l < bh l := Nat.div_lt_of_lt_mul hk
  have a4 : k % bw l < bw l := Nat.mod_lt _ (by omega)
  have b1 : (n / uw + 1) * bh l ≤ uh * bh l := Nat.mul_le_mul_right _ a1
  have b2 : (n % uw + 1) * bw l ≤ uw * bw l := Nat.mul_le_mul_right _ a2
  rw [Nat.add_mul, Nat.one_mul] at b1 b2
  have c1 : (n / uw) * bh l + k / bw l ≤ 7 := by omega
  have c2 : (n % uw) * bw l + k % bw l ≤ 7 := by omega
  refine ⟨c1, c2, ?_⟩
  unfold fU
  have d1 : ((n / uw) * bh l + k / bw l) * G l ≤ 7 * 8 := Nat.mul_le_mul c1 hG
  omega

/-- a pause between units: what is gathered goes out, and a mark (in the second walk alone) -/
def FI {ι : Type} (x1 : Int32) (Q : ms → Prop) (Y : ms → Int) (X : ι → ms → Int) (N ry : Int) (rx : ι → Int) : Prop :=
  (x1 = 0 → ∀ {c : Prop} {m : Int32} {S : ms} {K : ms → Prop}, c → B 0 255 m → IM S → Q S → Y S + ry ≤ N → (∀ Z : ms, IM Z → Q Z → ag [9, 32, 33] [8, 26] S Z → Y Z ≤ Y S + ry → (∀ i, X i Z ≤ X i S + rx i) → K Z) → p_fillUp S (fun S1 => c ∧ p_mark m (S1.1, S1.2.1, S1.2.2) K)) ∧ 0 ≤ ry ∧ ∀ i, 0 ≤ rx i
def bwU (r : Nat) (S : ms) (L l : Nat) : Nat := if L = 1 then 1 else (S.2.1 r l).toNatClampNeg
def rsU (e n : Nat) : Bool := decide (0 < e ∧ 0 < n ∧ n % e = 0)
/-- the whole walk's cost -/
def uTot (t : Nat → Int) (S : ms) (L e : Nat) : Int := uC t S (fU (UWs 15 12 1 S L).toNatClampNeg (bwU 15 S L) (bwU 16 S L) (fun l => (S.2.1 17 l).toNatClampNeg)) (fun l => bwU 15 S L l * bwU 16 S L l) L (rsU e) ((UWs 15 12 1 S L).toNatClampNeg * (UWs 16 13 2 S L).toNatClampNeg) 0 (zz 3 (S.2.1 53))
def uNum (S : ms) (L : Nat) : Nat := (UWs 15 12 1 S L).toNatClampNeg * (UWs 16 13 2 S L).toNatClampNeg
theorem zz_B {g : Nat → Int32} (h : ∀ j, j < 3 → B (-2049) 2049 (g j)) : ∀ n, n ≤ 3 → ∀ j, j < 3 → B (-2049) 2049 (zz n g j)
  | 0, _ => h
  | n + 1, hn => fun j hj => by
    unfold zz upd
    split
    · exact ⟨by decide, by decide⟩
    · exact zz_B h n (by omega) j hj
theorem zz_0 {g : Nat → Int32} {n j : Nat} (h : j < n) : zz n g j = 0 := by
  induction n with
  | zero => omega
  | succ n ih =>
    unfold zz upd
    split
    · rfl
    · exact ih (by omega)
theorem zz_hi {g : Nat → Int32} {n j : Nat} (h : n ≤ j) : zz n g j = g j := by
  induction n with
  | zero => rfl
  | succ n ih =>
    unfold zz upd
    split
    · omega
    · exact ih (by omega)
section UNITS
variable {x1 : Int32} {Q : ms → Prop} {ι : Type} {Y : ms → Int} {X : ι → ms → Int} {v : Nat → Int} {w : ι → Nat → Int} {vb : Nat → Int} {wb : ι → Nat → Int} {N ry : Int} {rx : ι → Int}
/-- the loop over units, from its head on -/
theorem h_units122 (H : TI x1 Q Y X v w vb wb N) (HF : FI x1 Q Y X N ry rx) {e L uw uh : Nat} {x3 : Int32} {S T : ms} {K : ms → Prop} {YB : Int} {XB : ι → Int} (he : e ≤ 65535) (hlv : qf (S.2.1 19) 0 12288 (-2049) 2049) (h14 : S.2.1 14 0 = nI L) (hL3 : L ≤ 3)
    (hx3 : (x3 = 0 ∧ ¬ L = 1) ∨ (x3 = 1 ∧ L = 1))
    (hb : ∀ l, l < L → 1 ≤ bwU 15 S L l ∧ 1 ≤ bwU 16 S L l ∧ uw * bwU 15 S L l ≤ 8 ∧ uh * bwU 16 S L l ≤ 8 ∧ B 1 2 (S.2.1 15 l) ∧ B 1 2 (S.2.1 16 l) ∧ B 1 8 (S.2.1 17 l))
    (huw : 1 ≤ uw ∧ uw ≤ 8) (huh : 1 ≤ uh ∧ uh ≤ 8) (hT : IM T) (qT : Q T) (gT : ag [9, 32, 33] [8, 26, 53] S T) (hst : ∀ j, j < 3 → B (-2049) 2049 (T.2.1 53 j))
    (hhi : ∀ j, 3 ≤ j → T.2.1 53 j = S.2.1 53 j)
    (yT : Y T + ry * (uw * uh : Nat) + uC (fun j => v j + vb (bitj j)) S (fU uw (bwU 15 S L) (bwU 16 S L) (fun l => (S.2.1 17 l).toNatClampNeg)) (fun l => bwU 15 S L l * bwU 16 S L l) L (rsU e) (uw * uh) 0 (T.2.1 53) ≤ YB) (hYB : YB ≤ N)
    (xT : ∀ i, X i T + rx i * (uw * uh : Nat) + uC (fun j => w i j + wb i (bitj j)) S (fU uw (bwU 15 S L) (bwU 16 S L) (fun l => (S.2.1 17 l).toNatClampNeg)) (fun l => bwU 15 S L l * bwU 16 S L l) L (rsU e) (uw * uh) 0 (T.2.1 53) ≤ XB i)
    (hK : ∀ Z : ms, IM Z → Q Z → ag [9, 32, 33] [8, 26, 53] S Z → (∀ j, 3 ≤ j → Z.2.1 53 j = S.2.1 53 j) → Y Z ≤ YB → (∀ i, X i Z ≤ XB i) → K Z) : e_units_122 x1 (nI e) x3 (nI uw) (nI uh) 0 T K := by
  have z31 : ∀ {n : Nat}, n < 1000000 → n < 2 ^ 31 := fun h => by omega
  have hvn : ∀ j, 0 ≤ (fun j => v j + vb (bitj j)) j := fun j => by have := H.nn j; have := H.nb (bitj j); simp only; omega
  have hu64 : uw * uh ≤ 64 := Nat.mul_le_mul huw.2 huh.2
  have n0 : (0 : Int32) = nI 0 := rfl
  have n8 : (8 : Int32) = nI 8 := rfl
  have ry0 := HF.2.1
  have rx0 := HF.2.2
  refine ⟨fun y1 y2 y3 y6 y7 y8 yS => x1 = y1 ∧ nI e = y2 ∧ x3 = y3 ∧ nI uw = y6 ∧ nI uh = y7 ∧ IM yS ∧ Q yS ∧ ag [9, 32, 33] [8, 26, 53] S yS ∧ (∀ j, j < 3 → B (-2049) 2049 (yS.2.1 53 j)) ∧ (∀ j, 3 ≤ j → yS.2.1 53 j = S.2.1 53 j) ∧ ∃ n : Nat, y8 = nI n ∧ n ≤ uw * uh ∧ Y yS + ry * (uw * uh - n : Nat) + uC (fun j => v j + vb (bitj j)) S (fU uw (bwU 15 S L) (bwU 16 S L) (fun l => (S.2.1 17 l).toNatClampNeg)) (fun l => bwU 15 S L l * bwU 16 S L l) L (rsU e) (uw * uh - n) n (yS.2.1 53) ≤ YB ∧ ∀ i, X i yS + rx i * (uw * uh - n : Nat) + uC (fun j => w i j + wb i (bitj j)) S (fU uw (bwU 15 S L) (bwU 16 S L) (fun l => (S.2.1 17 l).toNatClampNeg)) (fun l => bwU 15 S L l * bwU 16 S L l) L (rsU e) (uw * uh - n) n (yS.2.1 53) ≤ XB i, fun _ _ _ _ _ y8 _ => uw * uh - y8.toNatClampNeg, ⟨rfl, rfl, rfl, rfl, rfl, hT, qT, gT, hst, hhi, 0, rfl, by omega, yT, xT⟩, ?_⟩
  rintro _ _ _ _ _ _ U ⟨rfl, rfl, rfl, rfl, rfl, hU, qU, gU, sU, iU, n, rfl, hn, yU, xU⟩
  unfold b_units_122
  rw [nI_mul, nI_leI (z31 (by omega)) (z31 (by omega))]
  refine ⟨fun hc => ?_, fun hc => ?_⟩
  · have hn2 : uw * uh - n = 0 := by omega
    rw [hn2] at yU
    have q1 : ∀ t : Nat → Int, uC t S (fU uw (bwU 15 S L) (bwU 16 S L) (fun l => (S.2.1 17 l).toNatClampNeg)) (fun l => bwU 15 S L l * bwU 16 S L l) L (rsU e) 0 n (U.2.1 53) = 0 := fun _ => rfl
    rw [q1] at yU
    have q2 : ry * ((0 : Nat) : Int) = 0 := Int.mul_zero _
    exact hK U hU qU gU iU (by omega) (fun i => by have a := xU i; rw [hn2, q1] at a; have q3 : rx i * ((0 : Nat) : Int) = 0 := Int.mul_zero _; omega)
  · obtain ⟨m, hm⟩ : ∃ m, uw * uh - n = m + 1 := ⟨uw * uh - n - 1, by omega⟩
    have em : uw * uh - (n + 1) = m := by omega
    have r1 : ry * ((m + 1 : Nat) : Int) = ry * (m : Nat) + ry := by rw [Int.natCast_add, Int.mul_add]; simp
    have r2 : ∀ i, rx i * ((m + 1 : Nat) : Int) = rx i * (m : Nat) + rx i := fun i => by rw [Int.natCast_add, Int.mul_add]; simp
    have p1 : 0 ≤ ry * (m : Int) := Int.mul_nonneg ry0 (by omega)
    rw [hm, r1] at yU
    have xU := fun i => (by have a := xU i; rw [hm, r2 i] at a; exact a : _)
    -- behind the pause
    have rest : ∀ V : ms, IM V → Q V → ag [9, 32, 33] [8, 26, 53] S V → (∀ j, j < 3 → B (-2049) 2049 (V.2.1 53 j)) → (∀ j, 3 ≤ j → V.2.1 53 j = S.2.1 53 j) →
        Y V + ry * (m : Nat) + lC (fun j => v j + vb (bitj j)) S (fU uw (bwU 15 S L) (bwU 16 S L) (fun l => (S.2.1 17 l).toNatClampNeg) n) (fun l => bwU 15 S L l * bwU 16 S L l) L 0 (V.2.1 53) + uC (fun j => v j + vb (bitj j)) S (fU uw (bwU 15 S L) (bwU 16 S L) (fun l => (S.2.1 17 l).toNatClampNeg)) (fun l => bwU 15 S L l * bwU 16 S L l) L (rsU e) m (n + 1) (lS S (fU uw (bwU 15 S L) (bwU 16 S L) (fun l => (S.2.1 17 l).toNatClampNeg) n) (fun l => bwU 15 S L l * bwU 16 S L l) L 0 (V.2.1 53)) ≤ YB →
        (∀ i, X i V + rx i * (m : Nat) + lC (fun j => w i j + wb i (bitj j)) S (fU uw (bwU 15 S L) (bwU 16 S L) (fun l => (S.2.1 17 l).toNatClampNeg) n) (fun l => bwU 15 S L l * bwU 16 S L l) L 0 (V.2.1 53) + uC (fun j => w i j + wb i (bitj j)) S (fU uw (bwU 15 S L) (bwU 16 S L) (fun l => (S.2.1 17 l).toNatClampNeg)) (fun l => bwU 15 S L l * bwU 16 S L l) L (rsU e) m (n + 1) (lS S (fU uw (bwU 15 S L) (bwU 16 S L) (fun l => (S.2.1 17 l).toNatClampNeg) n) (fun l => bwU 15 S L l * bwU 16 S L l) L 0 (V.2.1 53)) ≤ XB i) →
        b_units_196 x1 (nI e) x3 (nI uw) (nI uh) (nI n) V (fun zx1 zx2 zx3 zx6 zx7 zx8 zS => (x1 = zx1 ∧ nI e = zx2 ∧ x3 = zx3 ∧ nI uw = zx6 ∧ nI uh = zx7 ∧ IM zS ∧ Q zS ∧ ag [9, 32, 33] [8, 26, 53] S zS ∧ (∀ j, j < 3 → B (-2049) 2049 (zS.2.1 53 j)) ∧ (∀ j, 3 ≤ j → zS.2.1 53 j = S.2.1 53 j) ∧ ∃ n : Nat, zx8 = nI n ∧ n ≤ uw * uh ∧ Y zS + ry * (uw * uh - n : Nat) + uC (fun j => v j + vb (bitj j)) S (fU uw (bwU 15 S L) (bwU 16 S L) (fun l => (S.2.1 17 l).toNatClampNeg)) (fun l => bwU 15 S L l * bwU 16 S L l) L (rsU e) (uw * uh - n) n (zS.2.1 53) ≤ YB ∧ ∀ i, X i zS + rx i * (uw * uh - n : Nat) + uC (fun j => w i j + wb i (bitj j)) S (fU uw (bwU 15 S L) (bwU 16 S L) (fun l => (S.2.1 17 l).toNatClampNeg)) (fun l => bwU 15 S L l * bwU 16 S L l) L (rsU e) (uw * uh - n) n (zS.2.1 53) ≤ XB i) ∧ uw * uh - zx8.toNatClampNeg < uw * uh - (nI n).toNatClampNeg) K := by
      intro V hV qV gV sV iV yV xV
      have un := uC_nn (t := fun j => v j + vb (bitj j)) hvn (I := S) (f := fU uw (bwU 15 S L) (bwU 16 S L) (fun l => (S.2.1 17 l).toNatClampNeg)) (cnt := fun l => bwU 15 S L l * bwU 16 S L l) (L := L) (rs := rsU e)
      unfold b_units_196
      have ed : nI n / nI uw = nI (n / uw) := nI_div (by omega) (z31 (by omega)) (z31 (by omega))
      have er : nI n - nI (n / uw) * nI uw = nI (n % uw) := by
        rw [nI_mul, nI_sub (Nat.div_mul_le_self n uw)]
        congr 1
        have := Nat.div_add_mod n uw
        have hcm := Nat.mul_comm uw (n / uw)
        omega
      rw [ed, er]
      refine ⟨nI_ne0 (by omega) (z31 (by omega)), nI_ne0 (by omega) (z31 (by omega)), ?_⟩
      -- the layers
      refine ⟨fun y1 y2 y3 y6 y7 y8 y9 y10 y11 yS => x1 = y1 ∧ nI e = y2 ∧ x3 = y3 ∧ nI uw = y6 ∧ nI uh = y7 ∧ nI n = y8 ∧ nI (n % uw) = y9 ∧ nI (n / uw) = y10 ∧ IM yS ∧ Q yS ∧ ag [9, 32, 33] [8, 26, 53] S yS ∧ (∀ j, j < 3 → B (-2049) 2049 (yS.2.1 53 j)) ∧ (∀ j, 3 ≤ j → yS.2.1 53 j = S.2.1 53 j) ∧ ∃ l : Nat, y11 = nI l ∧ l ≤ L ∧ Y yS + ry * (m : Nat) + lC (fun j => v j + vb (bitj j)) S (fU uw (bwU 15 S L) (bwU 16 S L) (fun l => (S.2.1 17 l).toNatClampNeg) n) (fun l => bwU 15 S L l * bwU 16 S L l) (L - l) l (yS.2.1 53) + uC (fun j => v j + vb (bitj j)) S (fU uw (bwU 15 S L) (bwU 16 S L) (fun l => (S.2.1 17 l).toNatClampNeg)) (fun l => bwU 15 S L l * bwU 16 S L l) L (rsU e) m (n + 1) (lS S (fU uw (bwU 15 S L) (bwU 16 S L) (fun l => (S.2.1 17 l).toNatClampNeg) n) (fun l => bwU 15 S L l * bwU 16 S L l) (L - l) l (yS.2.1 53)) ≤ YB ∧ ∀ i, X i yS + rx i * (m : Nat) + lC (fun j => w i j + wb i (bitj j)) S (fU uw (bwU 15 S L) (bwU 16 S L) (fun l => (S.2.1 17 l).toNatClampNeg) n) (fun l => bwU 15 S L l * bwU 16 S L l) (L - l) l (yS.2.1 53) + uC (fun j => w i j + wb i (bitj j)) S (fU uw (bwU 15 S L) (bwU 16 S L) (fun l => (S.2.1 17 l).toNatClampNeg)) (fun l => bwU 15 S L l * bwU 16 S L l) L (rsU e) m (n + 1) (lS S (fU uw (bwU 15 S L) (bwU 16 S L) (fun l => (S.2.1 17 l).toNatClampNeg) n) (fun l => bwU 15 S L l * bwU 16 S L l) (L - l) l (yS.2.1 53)) ≤ XB i, fun _ _ _ _ _ _ _ _ y11 _ => 3 - y11.toNatClampNeg, ⟨rfl, rfl, rfl, rfl, rfl, rfl, rfl, rfl, hV, qV, gV, sV, iV, 0, rfl, by omega, yV, xV⟩, ?_⟩
      rintro _ _ _ _ _ _ _ _ _ A ⟨rfl, rfl, rfl, rfl, rfl, rfl, rfl, rfl, hA, qA, gA, sA, iA, l, rfl, hl, yA, xA⟩
      have e14 : A.2.1 14 0 = nI L := (congrFun (gA.2 14 rfl) 0).trans h14
      unfold b_units_213
      rw [z0c, e14, nI_leI (z31 (by omega)) (z31 (by omega))]
      refine ⟨nI_in (c := 0) (by decide) (by decide), fun hcl => ?_, fun hcl => ?_⟩
      · have hlL : L - l = 0 := by omega
        rw [hlL] at yA
        have q1 : ∀ t : Nat → Int, lC t S (fU uw (bwU 15 S L) (bwU 16 S L) (fun l => (S.2.1 17 l).toNatClampNeg) n) (fun l => bwU 15 S L l * bwU 16 S L l) 0 l (A.2.1 53) = 0 := fun _ => rfl
        have q2 : lS S (fU uw (bwU 15 S L) (bwU 16 S L) (fun l => (S.2.1 17 l).toNatClampNeg) n) (fun l => bwU 15 S L l * bwU 16 S L l) 0 l (A.2.1 53) = A.2.1 53 := rfl
        rw [q1, q2] at yA
        rw [nI_1]
        refine ⟨⟨rfl, rfl, rfl, rfl, rfl, hA, qA, gA, sA, iA, n + 1, rfl, by omega, by rw [em]; omega, fun i => by have a := xA i; rw [hlL, q1, q2] at a; rw [em]; omega⟩, ?_⟩
        rw [nI_clamp (z31 (by omega)), nI_clamp (z31 (by omega))]
        omega
      · obtain ⟨d, hd⟩ : ∃ d, L - l = d + 1 := ⟨L - l - 1, by omega⟩
        have ed1 : L - (l + 1) = d := by omega
        rw [hd] at yA
        have q1 : ∀ t : Nat → Int, lC t S (fU uw (bwU 15 S L) (bwU 16 S L) (fun l => (S.2.1 17 l).toNatClampNeg) n) (fun l => bwU 15 S L l * bwU 16 S L l) (d + 1) l (A.2.1 53) = kC t S l (fU uw (bwU 15 S L) (bwU 16 S L) (fun l => (S.2.1 17 l).toNatClampNeg) n l) (bwU 15 S L l * bwU 16 S L l) 0 (A.2.1 53) + lC t S (fU uw (bwU 15 S L) (bwU 16 S L) (fun l => (S.2.1 17 l).toNatClampNeg) n) (fun l => bwU 15 S L l * bwU 16 S L l) d (l + 1) (kS S l (fU uw (bwU 15 S L) (bwU 16 S L) (fun l => (S.2.1 17 l).toNatClampNeg) n l) (bwU 15 S L l * bwU 16 S L l) 0 (A.2.1 53)) := fun _ => rfl
        have q2 : lS S (fU uw (bwU 15 S L) (bwU 16 S L) (fun l => (S.2.1 17 l).toNatClampNeg) n) (fun l => bwU 15 S L l * bwU 16 S L l) (d + 1) l (A.2.1 53) = lS S (fU uw (bwU 15 S L) (bwU 16 S L) (fun l => (S.2.1 17 l).toNatClampNeg) n) (fun l => bwU 15 S L l * bwU 16 S L l) d (l + 1) (kS S l (fU uw (bwU 15 S L) (bwU 16 S L) (fun l => (S.2.1 17 l).toNatClampNeg) n l) (bwU 15 S L l * bwU 16 S L l) 0 (A.2.1 53)) := rfl
        rw [q1, q2] at yA
        have xA := fun i => (by have a := xA i; rw [hd, q1, q2] at a; exact a : _)
        obtain ⟨w1, w2, w3, w4, w5, w6, w7⟩ := hb l (by omega)
        have lcl : (nI l).toNatClampNeg = l := nI_clamp (z31 (by omega))
        have lin9 : vp_in (nI l) 9 := nI_in (by omega) (by decide)
        have hw8 : bwU 15 S L l ≤ 8 := by
          have : 1 * bwU 15 S L l ≤ uw * bwU 15 S L l := Nat.mul_le_mul_right _ huw.1
          omega
        have hh8 : bwU 16 S L l ≤ 8 := by
          have : 1 * bwU 16 S L l ≤ uh * bwU 16 S L l := Nat.mul_le_mul_right _ huh.1
          omega
        have hwh : bwU 15 S L l * bwU 16 S L l ≤ 64 := Nat.mul_le_mul hw8 hh8
        have G8 : (S.2.1 17 l).toNatClampNeg ≤ 8 := by
          have := cl_i (x := S.2.1 17 l) (by have := w7.1; omega)
          have := w7.2
          omega
        have eG : S.2.1 17 l = nI (S.2.1 17 l).toNatClampNeg := by
          apply Int32.toInt.inj
          rw [nI_toInt (z31 (by omega)), cl_i (by have := w7.1; omega)]
        -- the blocks of a layer
        have blocks : b_units_256 x1 (nI e) x3 (nI uw) (nI uh) (nI n) (nI (n % uw)) (nI (n / uw)) (nI l) (nI (bwU 15 S L l)) (nI (bwU 16 S L l)) A (fun zx1 zx2 zx3 zx6 zx7 zx8 zS => (x1 = zx1 ∧ nI e = zx2 ∧ x3 = zx3 ∧ nI uw = zx6 ∧ nI uh = zx7 ∧ IM zS ∧ Q zS ∧ ag [9, 32, 33] [8, 26, 53] S zS ∧ (∀ j, j < 3 → B (-2049) 2049 (zS.2.1 53 j)) ∧ (∀ j, 3 ≤ j → zS.2.1 53 j = S.2.1 53 j) ∧ ∃ n : Nat, zx8 = nI n ∧ n ≤ uw * uh ∧ Y zS + ry * (uw * uh - n : Nat) + uC (fun j => v j + vb (bitj j)) S (fU uw (bwU 15 S L) (bwU 16 S L) (fun l => (S.2.1 17 l).toNatClampNeg)) (fun l => bwU 15 S L l * bwU 16 S L l) L (rsU e) (uw * uh - n) n (zS.2.1 53) ≤ YB ∧ ∀ i, X i zS + rx i * (uw * uh - n : Nat) + uC (fun j => w i j + wb i (bitj j)) S (fU uw (bwU 15 S L) (bwU 16 S L) (fun l => (S.2.1 17 l).toNatClampNeg)) (fun l => bwU 15 S L l * bwU 16 S L l) L (rsU e) (uw * uh - n) n (zS.2.1 53) ≤ XB i) ∧ uw * uh - zx8.toNatClampNeg < uw * uh - (nI n).toNatClampNeg) (fun zx1 zx2 zx3 zx6 zx7 zx8 zx9 zx10 zx11 zS => (x1 = zx1 ∧ nI e = zx2 ∧ x3 = zx3 ∧ nI uw = zx6 ∧ nI uh = zx7 ∧ nI n = zx8 ∧ nI (n % uw) = zx9 ∧ nI (n / uw) = zx10 ∧ IM zS ∧ Q zS ∧ ag [9, 32, 33] [8, 26, 53] S zS ∧ (∀ j, j < 3 → B (-2049) 2049 (zS.2.1 53 j)) ∧ (∀ j, 3 ≤ j → zS.2.1 53 j = S.2.1 53 j) ∧ ∃ l : Nat, zx11 = nI l ∧ l ≤ L ∧ Y zS + ry * (m : Nat) + lC (fun j => v j + vb (bitj j)) S (fU uw (bwU 15 S L) (bwU 16 S L) (fun l => (S.2.1 17 l).toNatClampNeg) n) (fun l => bwU 15 S L l * bwU 16 S L l) (L - l) l (zS.2.1 53) + uC (fun j => v j + vb (bitj j)) S (fU uw (bwU 15 S L) (bwU 16 S L) (fun l => (S.2.1 17 l).toNatClampNeg)) (fun l => bwU 15 S L l * bwU 16 S L l) L (rsU e) m (n + 1) (lS S (fU uw (bwU 15 S L) (bwU 16 S L) (fun l => (S.2.1 17 l).toNatClampNeg) n) (fun l => bwU 15 S L l * bwU 16 S L l) (L - l) l (zS.2.1 53)) ≤ YB ∧ ∀ i, X i zS + rx i * (m : Nat) + lC (fun j => w i j + wb i (bitj j)) S (fU uw (bwU 15 S L) (bwU 16 S L) (fun l => (S.2.1 17 l).toNatClampNeg) n) (fun l => bwU 15 S L l * bwU 16 S L l) (L - l) l (zS.2.1 53) + uC (fun j => w i j + wb i (bitj j)) S (fU uw (bwU 15 S L) (bwU 16 S L) (fun l => (S.2.1 17 l).toNatClampNeg)) (fun l => bwU 15 S L l * bwU 16 S L l) L (rsU e) m (n + 1) (lS S (fU uw (bwU 15 S L) (bwU 16 S L) (fun l => (S.2.1 17 l).toNatClampNeg) n) (fun l => bwU 15 S L l * bwU 16 S L l) (L - l) l (zS.2.1 53)) ≤ XB i) ∧ 3 - zx11.toNatClampNeg < 3 - (nI l).toNatClampNeg) K := by
          unfold b_units_256
          refine ⟨fun y1 y2 y3 y6 y7 y8 y9 y10 y11 y12 y13 y14 yS => x1 = y1 ∧ nI e = y2 ∧ x3 = y3 ∧ nI uw = y6 ∧ nI uh = y7 ∧ nI n = y8 ∧ nI (n % uw) = y9 ∧ nI (n / uw) = y10 ∧ nI l = y11 ∧ nI (bwU 15 S L l) = y12 ∧ nI (bwU 16 S L l) = y13 ∧ IM yS ∧ Q yS ∧ ag [9, 32, 33] [8, 26, 53] S yS ∧ (∀ j, j < 3 → B (-2049) 2049 (yS.2.1 53 j)) ∧ (∀ j, 3 ≤ j → yS.2.1 53 j = S.2.1 53 j) ∧ ∃ k : Nat, y14 = nI k ∧ k ≤ bwU 15 S L l * bwU 16 S L l ∧ Y yS + ry * (m : Nat) + (kC (fun j => v j + vb (bitj j)) S l (fU uw (bwU 15 S L) (bwU 16 S L) (fun l => (S.2.1 17 l).toNatClampNeg) n l) (bwU 15 S L l * bwU 16 S L l - k) k (yS.2.1 53) + lC (fun j => v j + vb (bitj j)) S (fU uw (bwU 15 S L) (bwU 16 S L) (fun l => (S.2.1 17 l).toNatClampNeg) n) (fun l => bwU 15 S L l * bwU 16 S L l) d (l + 1) (kS S l (fU uw (bwU 15 S L) (bwU 16 S L) (fun l => (S.2.1 17 l).toNatClampNeg) n l) (bwU 15 S L l * bwU 16 S L l - k) k (yS.2.1 53))) + uC (fun j => v j + vb (bitj j)) S (fU uw (bwU 15 S L) (bwU 16 S L) (fun l => (S.2.1 17 l).toNatClampNeg)) (fun l => bwU 15 S L l * bwU 16 S L l) L (rsU e) m (n + 1) (lS S (fU uw (bwU 15 S L) (bwU 16 S L) (fun l => (S.2.1 17 l).toNatClampNeg) n) (fun l => bwU 15 S L l * bwU 16 S L l) d (l + 1) (kS S l (fU uw (bwU 15 S L) (bwU 16 S L) (fun l => (S.2.1 17 l).toNatClampNeg) n l) (bwU 15 S L l * bwU 16 S L l - k) k (yS.2.1 53))) ≤ YB ∧ ∀ i, X i yS + rx i * (m : Nat) + (kC (fun j => w i j + wb i (bitj j)) S l (fU uw (bwU 15 S L) (bwU 16 S L) (fun l => (S.2.1 17 l).toNatClampNeg) n l) (bwU 15 S L l * bwU 16 S L l - k) k (yS.2.1 53) + lC (fun j => w i j + wb i (bitj j)) S (fU uw (bwU 15 S L) (bwU 16 S L) (fun l => (S.2.1 17 l).toNatClampNeg) n) (fun l => bwU 15 S L l * bwU 16 S L l) d (l + 1) (kS S l (fU uw (bwU 15 S L) (bwU 16 S L) (fun l => (S.2.1 17 l).toNatClampNeg) n l) (bwU 15 S L l * bwU 16 S L l - k) k (yS.2.1 53))) + uC (fun j => w i j + wb i (bitj j)) S (fU uw (bwU 15 S L) (bwU 16 S L) (fun l => (S.2.1 17 l).toNatClampNeg)) (fun l => bwU 15 S L l * bwU 16 S L l) L (rsU e) m (n + 1) (lS S (fU uw (bwU 15 S L) (bwU 16 S L) (fun l => (S.2.1 17 l).toNatClampNeg) n) (fun l => bwU 15 S L l * bwU 16 S L l) d (l + 1) (kS S l (fU uw (bwU 15 S L) (bwU 16 S L) (fun l => (S.2.1 17 l).toNatClampNeg) n l) (bwU 15 S L l * bwU 16 S L l - k) k (yS.2.1 53))) ≤ XB i, fun _ _ _ _ _ _ _ _ _ _ _ y14 _ => 64 - y14.toNatClampNeg, ⟨rfl, rfl, rfl, rfl, rfl, rfl, rfl, rfl, rfl, rfl, rfl, hA, qA, gA, sA, iA, 0, rfl, by omega, yA, xA⟩, ?_⟩
          rintro _ _ _ _ _ _ _ _ _ _ _ _ C ⟨rfl, rfl, rfl, rfl, rfl, rfl, rfl, rfl, rfl, rfl, rfl, hC, qC, gC, sC, iC, k, rfl, hk, yC, xC⟩
          unfold b_units_261
          rw [nI_mul, nI_leI (z31 (by omega)) (z31 (by omega))]
          refine ⟨fun hck => ?_, fun hck => ?_⟩
          · have hk0 : bwU 15 S L l * bwU 16 S L l - k = 0 := by omega
            rw [hk0] at yC
            have q1 : ∀ t : Nat → Int, kC t S l (fU uw (bwU 15 S L) (bwU 16 S L) (fun l => (S.2.1 17 l).toNatClampNeg) n l) 0 k (C.2.1 53) = 0 := fun _ => rfl
            have q2 : kS S l (fU uw (bwU 15 S L) (bwU 16 S L) (fun l => (S.2.1 17 l).toNatClampNeg) n l) 0 k (C.2.1 53) = C.2.1 53 := rfl
            rw [q1, q2] at yC
            rw [nI_1]
            refine ⟨⟨rfl, rfl, rfl, rfl, rfl, rfl, rfl, rfl, hC, qC, gC, sC, iC, l + 1, rfl, by omega, by rw [ed1]; omega, fun i => by have a := xC i; rw [hk0, q1, q2] at a; rw [ed1]; omega⟩, ?_⟩
            rw [nI_clamp (z31 (by omega)), nI_clamp (z31 (by omega))]
            omega
          · obtain ⟨q, hq⟩ : ∃ q, bwU 15 S L l * bwU 16 S L l - k = q + 1 := ⟨bwU 15 S L l * bwU 16 S L l - k - 1, by omega⟩
            have eq1 : bwU 15 S L l * bwU 16 S L l - (k + 1) = q := by omega
            rw [hq] at yC
            have q1 : ∀ t : Nat → Int, kC t S l (fU uw (bwU 15 S L) (bwU 16 S L) (fun l => (S.2.1 17 l).toNatClampNeg) n l) (q + 1) k (C.2.1 53) = blkT t (cl2 l) (lvh S l (fU uw (bwU 15 S L) (bwU 16 S L) (fun l => (S.2.1 17 l).toNatClampNeg) n l k)) (C.2.1 53 l) + kC t S l (fU uw (bwU 15 S L) (bwU 16 S L) (fun l => (S.2.1 17 l).toNatClampNeg) n l) q (k + 1) (upd (C.2.1 53) l (lvh S l (fU uw (bwU 15 S L) (bwU 16 S L) (fun l => (S.2.1 17 l).toNatClampNeg) n l k) 0)) := fun _ => rfl
            have q2 : kS S l (fU uw (bwU 15 S L) (bwU 16 S L) (fun l => (S.2.1 17 l).toNatClampNeg) n l) (q + 1) k (C.2.1 53) = kS S l (fU uw (bwU 15 S L) (bwU 16 S L) (fun l => (S.2.1 17 l).toNatClampNeg) n l) q (k + 1) (upd (C.2.1 53) l (lvh S l (fU uw (bwU 15 S L) (bwU 16 S L) (fun l => (S.2.1 17 l).toNatClampNeg) n l k) 0)) := rfl
            rw [q1, q2] at yC
            have xC := fun i => (by have a := xC i; rw [hq, q1, q2] at a; exact a : _)
            have hf := fU_le (uw := uw) (uh := uh) (n := n) (l := l) (k := k) (bw := bwU 15 S L) (bh := bwU 16 S L) (G := fun l => (S.2.1 17 l).toNatClampNeg) w1 w2 G8 huw.1 w3 w4 (by omega) (by omega)
            have hf63 := hf.2.2
            have kd : nI k / nI (bwU 15 S L l) = nI (k / bwU 15 S L l) := nI_div (by omega) (z31 (by omega)) (z31 (by omega))
            have kr : nI k - nI (k / bwU 15 S L l) * nI (bwU 15 S L l) = nI (k % bwU 15 S L l) := by
              rw [nI_mul, nI_sub (Nat.div_mul_le_self k _)]
              congr 1
              have := Nat.div_add_mod k (bwU 15 S L l)
              have hcm := Nat.mul_comm (bwU 15 S L l) (k / bwU 15 S L l)
              omega
            have e17 : C.2.1 17 l = nI (S.2.1 17 l).toNatClampNeg := (congrFun (gC.2 17 rfl) l).trans eG
            have ef : (((nI (n / uw) * nI (bwU 16 S L l)) + nI (k / bwU 15 S L l)) * nI (S.2.1 17 l).toNatClampNeg) + ((nI (n % uw) * nI (bwU 15 S L l)) + nI (k % bwU 15 S L l)) = nI (fU uw (bwU 15 S L) (bwU 16 S L) (fun l => (S.2.1 17 l).toNatClampNeg) n l k) := by
              rw [nI_mul, nI_add, nI_mul, nI_mul, nI_add, nI_add]
              rfl
            rw [kd, kr, lcl, e17, ef, nI_1]
            refine ⟨nI_ne0 (by omega) (z31 (by omega)), nI_ne0 (by omega) (z31 (by omega)), lin9, ?_⟩
            show p_tell x1 (nI l) (nI (fU uw (bwU 15 S L) (bwU 16 S L) (fun l => (S.2.1 17 l).toNatClampNeg) n l k)) C _
            have e19 : ∀ b, lvh C l b = lvh S l b := fun b => by
              unfold lvh
              rw [gC.2 19 rfl]
            have n1 := kC_nn (t := fun j => v j + vb (bitj j)) hvn (I := S) (l := l) (f := fU uw (bwU 15 S L) (bwU 16 S L) (fun l => (S.2.1 17 l).toNatClampNeg) n l) q (k + 1) (upd (C.2.1 53) l (lvh S l (fU uw (bwU 15 S L) (bwU 16 S L) (fun l => (S.2.1 17 l).toNatClampNeg) n l k) 0))
            have n2 := lC_nn (t := fun j => v j + vb (bitj j)) hvn (I := S) (f := fU uw (bwU 15 S L) (bwU 16 S L) (fun l => (S.2.1 17 l).toNatClampNeg) n) (cnt := fun l => bwU 15 S L l * bwU 16 S L l) d (l + 1) (kS S l (fU uw (bwU 15 S L) (bwU 16 S L) (fun l => (S.2.1 17 l).toNatClampNeg) n l) q (k + 1) (upd (C.2.1 53) l (lvh S l (fU uw (bwU 15 S L) (bwU 16 S L) (fun l => (S.2.1 17 l).toNatClampNeg) n l k) 0)))
            have n3 := un m (n + 1) (lS S (fU uw (bwU 15 S L) (bwU 16 S L) (fun l => (S.2.1 17 l).toNatClampNeg) n) (fun l => bwU 15 S L l * bwU 16 S L l) d (l + 1) (kS S l (fU uw (bwU 15 S L) (bwU 16 S L) (fun l => (S.2.1 17 l).toNatClampNeg) n l) q (k + 1) (upd (C.2.1 53) l (lvh S l (fU uw (bwU 15 S L) (bwU 16 S L) (fun l => (S.2.1 17 l).toNatClampNeg) n l k) 0))))
            refine h_tell H (by omega) hf63 hC qC (qf_eq (gC.2 19 rfl) hlv) (sC l (by omega)) ?_ (fun Z hZ qZ gZ e53 yZ xZ => ?_)
            · rw [e19]
              show Y C + blkT _ (cl2 l) _ _ ≤ N
              omega
            · rw [e19] at e53 yZ
              have yZ : Y Z ≤ Y C + blkT (fun j => v j + vb (bitj j)) (cl2 l) (lvh S l (fU uw (bwU 15 S L) (bwU 16 S L) (fun l => (S.2.1 17 l).toNatClampNeg) n l k)) (C.2.1 53 l) := yZ
              have xZ : ∀ i, X i Z ≤ X i C + blkT (fun j => w i j + wb i (bitj j)) (cl2 l) (lvh S l (fU uw (bwU 15 S L) (bwU 16 S L) (fun l => (S.2.1 17 l).toNatClampNeg) n l k)) (C.2.1 53 l) := fun i => by have a := xZ i; rw [e19] at a; exact a
              refine ⟨⟨rfl, rfl, rfl, rfl, rfl, rfl, rfl, rfl, rfl, rfl, rfl, hZ, qZ, ag_tr gC gZ (by decide) (by decide), fun j hj => ?_, fun j hj => ?_, k + 1, rfl, by omega, ?_, ?_⟩, ?_⟩
              · show B _ _ (Z.2.1 53 j)
                rw [e53]
                unfold upd
                split
                · exact hlv _ (by omega) (by omega)
                · exact sC j hj
              · show Z.2.1 53 j = _
                rw [e53]
                unfold upd
                rw [if_neg (by omega)]
                exact iC j hj
              · show Y Z + _ + (kC _ _ _ _ _ _ (Z.2.1 53) + lC _ _ _ _ _ _ (kS _ _ _ _ _ (Z.2.1 53))) + uC _ _ _ _ _ _ _ _ (lS _ _ _ _ _ (kS _ _ _ _ _ (Z.2.1 53))) ≤ _
                rw [e53, eq1]
                omega
              · intro i
                have a1 := xZ i
                have a2 := xC i
                show X i Z + _ + (kC _ _ _ _ _ _ (Z.2.1 53) + lC _ _ _ _ _ _ (kS _ _ _ _ _ (Z.2.1 53))) + uC _ _ _ _ _ _ _ _ (lS _ _ _ _ _ (kS _ _ _ _ _ (Z.2.1 53))) ≤ _
                rw [e53, eq1]
                omega
              · show 64 - (nI (k + 1)).toNatClampNeg < 64 - (nI k).toNatClampNeg
                rw [nI_clamp (z31 (by omega)), nI_clamp (z31 (by omega))]
                omega
        rcases hx3 with ⟨h3, h1⟩ | ⟨h3, h1⟩
        · subst h3
          have e15 : A.2.1 15 l = nI (bwU 15 S L l) := by
            rw [congrFun (gA.2 15 rfl) l]
            unfold bwU
            rw [if_neg h1]
            apply Int32.toInt.inj
            have q1 := w5.1
            have q2 := w5.2
            have q3 := cl_i (x := S.2.1 15 l) (by omega)
            rw [nI_toInt (z31 (by omega)), q3]
          have e16 : A.2.1 16 l = nI (bwU 16 S L l) := by
            rw [congrFun (gA.2 16 rfl) l]
            unfold bwU
            rw [if_neg h1]
            apply Int32.toInt.inj
            have q1 := w6.1
            have q2 := w6.2
            have q3 := cl_i (x := S.2.1 16 l) (by omega)
            rw [nI_toInt (z31 (by omega)), q3]
          refine ⟨fun _ => ⟨lin9, ?_⟩, fun h => absurd rfl h⟩
          rw [lcl, e15]
          unfold b_units_239
          refine ⟨fun _ => ⟨lin9, ?_⟩, fun h => absurd rfl h⟩
          rw [lcl, e16]
          exact blocks
        · subst h3
          have e15 : (1 : Int32) = nI (bwU 15 S L l) := by unfold bwU; rw [if_pos h1]; rfl
          have e16 : (1 : Int32) = nI (bwU 16 S L l) := by unfold bwU; rw [if_pos h1]; rfl
          refine ⟨fun h => absurd h (by decide), fun _ => ?_⟩
          unfold b_units_239
          refine ⟨fun h => absurd h (by decide), fun _ => ?_⟩
          rw [← e15, ← e16] at blocks
          exact blocks
    -- is there a pause?
    have hno : rsU e n = false → b_units_196 x1 (nI e) x3 (nI uw) (nI uh) (nI n) U _ K := fun hr => rest U hU qU gU sU iU (by
        have q1 : ∀ t : Nat → Int, uC t S (fU uw (bwU 15 S L) (bwU 16 S L) (fun l => (S.2.1 17 l).toNatClampNeg)) (fun l => bwU 15 S L l * bwU 16 S L l) L (rsU e) (m + 1) n (U.2.1 53) = lC t S (fU uw (bwU 15 S L) (bwU 16 S L) (fun l => (S.2.1 17 l).toNatClampNeg) n) (fun l => bwU 15 S L l * bwU 16 S L l) L 0 (U.2.1 53) + uC t S (fU uw (bwU 15 S L) (bwU 16 S L) (fun l => (S.2.1 17 l).toNatClampNeg)) (fun l => bwU 15 S L l * bwU 16 S L l) L (rsU e) m (n + 1) (lS S (fU uw (bwU 15 S L) (bwU 16 S L) (fun l => (S.2.1 17 l).toNatClampNeg) n) (fun l => bwU 15 S L l * bwU 16 S L l) L 0 (U.2.1 53)) := fun t => by
          rw [uC, hr]
          rfl
        rw [q1] at yU
        omega) (fun i => by
        have q1 : ∀ t : Nat → Int, uC t S (fU uw (bwU 15 S L) (bwU 16 S L) (fun l => (S.2.1 17 l).toNatClampNeg)) (fun l => bwU 15 S L l * bwU 16 S L l) L (rsU e) (m + 1) n (U.2.1 53) = lC t S (fU uw (bwU 15 S L) (bwU 16 S L) (fun l => (S.2.1 17 l).toNatClampNeg) n) (fun l => bwU 15 S L l * bwU 16 S L l) L 0 (U.2.1 53) + uC t S (fU uw (bwU 15 S L) (bwU 16 S L) (fun l => (S.2.1 17 l).toNatClampNeg)) (fun l => bwU 15 S L l * bwU 16 S L l) L (rsU e) m (n + 1) (lS S (fU uw (bwU 15 S L) (bwU 16 S L) (fun l => (S.2.1 17 l).toNatClampNeg) n) (fun l => bwU 15 S L l * bwU 16 S L l) L 0 (U.2.1 53)) := fun t => by
          rw [uC, hr]
          rfl
        have a := xU i
        have a0 := rx0 i
        rw [q1] at a
        omega)
    refine ⟨fun h1 => hno ?_, fun h1 => ⟨fun h2 => hno ?_, fun h2 => ?_⟩⟩
    · rw [n0, nI_leI (z31 (by omega)) (by decide)] at h1
      unfold rsU
      rw [decide_eq_false_iff_not]
      omega
    · rw [n0, nI_leI (z31 (by omega)) (by decide)] at h2
      unfold rsU
      rw [decide_eq_false_iff_not]
      omega
    · rw [n0, nI_leI (z31 (by omega)) (by decide)] at h1 h2
      have ed : nI n / nI e = nI (n / e) := nI_div (by omega) (z31 (by omega)) (z31 (by omega))
      have er : nI n - nI (n / e) * nI e = nI (n % e) := by
        rw [nI_mul, nI_sub (Nat.div_mul_le_self n e)]
        congr 1
        have := Nat.div_add_mod n e
        have hcm := Nat.mul_comm e (n / e)
        omega
      have e64 : n / e ≤ 64 := Nat.le_trans (Nat.div_le_self n e) (by omega)
      have me64 : n % e ≤ 64 := Nat.le_trans (Nat.mod_le n e) (by omega)
      have ene : ¬ nI e = 0 := nI_ne0 (by omega) (z31 (by omega))
      rw [ed, er]
      refine ⟨ene, fun h3 => hno ?_, fun h3 => ?_⟩
      · rw [n0, nI_eq (z31 (by omega)) (by decide)] at h3
        unfold rsU
        rw [decide_eq_false_iff_not]
        omega
      · rw [n0, nI_eq (z31 (by omega)) (by decide)] at h3
        have hr : rsU e n = true := by
          unfold rsU
          rw [decide_eq_true_iff]
          exact ⟨by omega, by omega, h3⟩
        have q1 : ∀ t : Nat → Int, uC t S (fU uw (bwU 15 S L) (bwU 16 S L) (fun l => (S.2.1 17 l).toNatClampNeg)) (fun l => bwU 15 S L l * bwU 16 S L l) L (rsU e) (m + 1) n (U.2.1 53) = lC t S (fU uw (bwU 15 S L) (bwU 16 S L) (fun l => (S.2.1 17 l).toNatClampNeg) n) (fun l => bwU 15 S L l * bwU 16 S L l) L 0 (zz 3 (U.2.1 53)) + uC t S (fU uw (bwU 15 S L) (bwU 16 S L) (fun l => (S.2.1 17 l).toNatClampNeg)) (fun l => bwU 15 S L l * bwU 16 S L l) L (rsU e) m (n + 1) (lS S (fU uw (bwU 15 S L) (bwU 16 S L) (fun l => (S.2.1 17 l).toNatClampNeg) n) (fun l => bwU 15 S L l * bwU 16 S L l) L 0 (zz 3 (U.2.1 53))) := fun t => by
          rw [uC, hr]
          rfl
        rw [q1] at yU
        have xU := fun i => (by have a := xU i; rw [q1] at a; exact a : _)
        have n1 := lC_nn (t := fun j => v j + vb (bitj j)) hvn (I := S) (f := fU uw (bwU 15 S L) (bwU 16 S L) (fun l => (S.2.1 17 l).toNatClampNeg) n) (cnt := fun l => bwU 15 S L l * bwU 16 S L l) L 0 (zz 3 (U.2.1 53))
        have n3 := uC_nn (t := fun j => v j + vb (bitj j)) hvn (I := S) (f := fU uw (bwU 15 S L) (bwU 16 S L) (fun l => (S.2.1 17 l).toNatClampNeg)) (cnt := fun l => bwU 15 S L l * bwU 16 S L l) (L := L) (rs := rsU e) m (n + 1) (lS S (fU uw (bwU 15 S L) (bwU 16 S L) (fun l => (S.2.1 17 l).toNatClampNeg) n) (fun l => bwU 15 S L l * bwU 16 S L l) L 0 (zz 3 (U.2.1 53)))
        -- the starts are set back
        have back : ∀ V : ms, IM V → Q V → ag [9, 32, 33] [8, 26] U V → Y V ≤ Y U + ry → (∀ i, X i V ≤ X i U + rx i) → b_units_173 x1 (nI e) x3 (nI uw) (nI uh) (nI n) V (fun zx1 zx2 zx3 zx6 zx7 zx8 zS => (x1 = zx1 ∧ nI e = zx2 ∧ x3 = zx3 ∧ nI uw = zx6 ∧ nI uh = zx7 ∧ IM zS ∧ Q zS ∧ ag [9, 32, 33] [8, 26, 53] S zS ∧ (∀ j, j < 3 → B (-2049) 2049 (zS.2.1 53 j)) ∧ (∀ j, 3 ≤ j → zS.2.1 53 j = S.2.1 53 j) ∧ ∃ n : Nat, zx8 = nI n ∧ n ≤ uw * uh ∧ Y zS + ry * (uw * uh - n : Nat) + uC (fun j => v j + vb (bitj j)) S (fU uw (bwU 15 S L) (bwU 16 S L) (fun l => (S.2.1 17 l).toNatClampNeg)) (fun l => bwU 15 S L l * bwU 16 S L l) L (rsU e) (uw * uh - n) n (zS.2.1 53) ≤ YB ∧ ∀ i, X i zS + rx i * (uw * uh - n : Nat) + uC (fun j => w i j + wb i (bitj j)) S (fU uw (bwU 15 S L) (bwU 16 S L) (fun l => (S.2.1 17 l).toNatClampNeg)) (fun l => bwU 15 S L l * bwU 16 S L l) L (rsU e) (uw * uh - n) n (zS.2.1 53) ≤ XB i) ∧ uw * uh - zx8.toNatClampNeg < uw * uh - (nI n).toNatClampNeg) K := by
          intro V hV qV gV yV xV
          unfold b_units_173
          have gSV : ag [9, 32, 33] [8, 26, 53] S V := ag_tr gU gV (by decide) (by decide)
          have e53V : V.2.1 53 = U.2.1 53 := gV.2 53 rfl
          refine ⟨fun y1 y2 y3 y6 y7 y8 y9 yS => x1 = y1 ∧ nI e = y2 ∧ x3 = y3 ∧ nI uw = y6 ∧ nI uh = y7 ∧ nI n = y8 ∧ IM yS ∧ Q yS ∧ ag [9, 32, 33] [8, 26, 53] S yS ∧ Y yS = Y V ∧ (∀ i, X i yS = X i V) ∧ ∃ a : Nat, y9 = nI a ∧ a ≤ 3 ∧ yS.2.1 53 = zz a (U.2.1 53), fun _ _ _ _ _ _ y9 _ => 3 - y9.toNatClampNeg, ⟨rfl, rfl, rfl, rfl, rfl, rfl, hV, qV, gSV, rfl, fun _ => rfl, 0, rfl, by omega, e53V⟩, ?_⟩
          rintro _ _ _ _ _ _ _ C ⟨rfl, rfl, rfl, rfl, rfl, rfl, hC, qC, gC, yC, xC, a, rfl, ha, eC⟩
          unfold b_units_176
          have n3' : (3 : Int32) = nI 3 := rfl
          rw [n3', nI_leI (by decide) (z31 (by omega))]
          refine ⟨fun h => ?_, fun h => ⟨nI_in (by omega) (by decide), ?_⟩⟩
          · have : a = 3 := by omega
            subst this
            refine rest C hC qC gC (fun j hj => ?_) (fun j hj => ?_) ?_ ?_
            · rw [eC]; exact zz_B sU 3 (by omega) j hj
            · rw [eC, zz_hi hj]; exact iU j hj
            · rw [eC]; omega
            · intro i
              have a1 := xU i
              have a2 := xV i
              have a3 := xC i
              rw [eC]; omega
          · have lc := H.loc (S := C) (g := upd (C.2.1 53) (nI a).toNatClampNeg 0)
            rw [nI_1]
            refine ⟨⟨rfl, rfl, rfl, rfl, rfl, rfl, IM_r (r := 53) (i := (nI a).toNatClampNeg) (v := 0) hC (B_any _) (by decide) (by decide), lc.1 qC, ag_r gC (by decide), lc.2.1.trans yC, fun i => (lc.2.2 i).trans (xC i), a + 1, rfl, by omega, ?_⟩, ?_⟩
            · show va_up C.2.1 53 _ 53 = _
              rw [up_at, eC, nI_clamp (z31 (by omega))]
              rfl
            · show 3 - (nI (a + 1)).toNatClampNeg < 3 - (nI a).toNatClampNeg
              rw [nI_clamp (z31 (by omega)), nI_clamp (z31 (by omega))]
              omega
        refine ⟨fun hx => back U hU qU ag_refl (by omega) (fun i => by have := rx0 i; omega), fun hx => ?_⟩
        refine HF.1 hx ene ?_ hU qU (by omega) (fun V hV qV gV yV xV => back V hV qV gV yV xV)
        have o1 : (1 : Int32) = nI 1 := rfl
        have o2 : (208 : Int32) = nI 208 := rfl
        have q4 : 1 ≤ n / e := (Nat.one_le_div_iff (by omega)).mpr (by
          have := Nat.div_add_mod n e
          by_cases hlt : n < e
          · rw [Nat.mod_eq_of_lt hlt] at h3; omega
          · omega)
        rw [o1, nI_sub q4, n8, nI_div (by omega) (z31 (by omega)) (by decide), nI_mul, nI_sub (by omega), o2, nI_add]
        refine ⟨?_, ?_⟩
        · rw [nI_toInt (z31 (by omega))]; omega
        · rw [nI_toInt (z31 (by omega))]; omega
end UNITS
