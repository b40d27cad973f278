/-! packing, from the clearing of the counts on -/
theorem ds_s (t : Nat → Int) (g : Nat → Int32) (n : Nat) : dsum t g (n + 1) = dsum t g n + t n * (g n).toInt := rfl
theorem lsum_s (c : Nat) (f Ln : Nat → Int32) (n : Nat) : lsum c f Ln (n + 1) = lsum c f Ln n + owf c f n * (Ln (257 * c + n)).toInt := rfl
theorem osum_s (c : Nat) (f : Nat → Int32) (n : Nat) : osum c f (n + 1) = osum c f n + owf c f n := rfl
theorem ds_z {t : Nat → Int} {g : Nat → Int32} : ∀ n, (∀ j, j < n → (g j).toInt = 0) → dsum t g n = 0
  | 0, _ => rfl
  | n + 1, h => by
    unfold dsum
    rw [ds_z n (fun j hj => h j (by omega)), h n (by omega), Int.mul_zero]
    rfl
theorem ds_neg {t t' : Nat → Int} {g : Nat → Int32} (h : ∀ j, t j = - t' j) : ∀ n, dsum t g n = - dsum t' g n
  | 0 => rfl
  | n + 1 => by
    unfold dsum
    rw [ds_neg h n, h n, Int.neg_mul]
    omega
def ind (j0 : Nat) : Nat → Int := fun j => if j = j0 then 1 else 0
theorem ds_ind0 {g : Nat → Int32} {j0 : Nat} : ∀ n, n ≤ j0 → dsum (ind j0) g n = 0
  | 0, _ => rfl
  | n + 1, h => by
    unfold dsum
    rw [ds_ind0 n (by omega)]
    unfold ind
    rw [if_neg (by omega), Int.zero_mul]
    rfl
theorem ds_ind {g : Nat → Int32} {j0 : Nat} : ∀ n, j0 < n → dsum (ind j0) g n = (g j0).toInt
  | 0, h => by omega
  | n + 1, h => by
    unfold dsum
    by_cases e : n = j0
    · subst e
      rw [ds_ind0 n (Nat.le_refl _)]
      unfold ind
      rw [if_pos rfl, Int.one_mul]
      omega
    · rw [ds_ind n (by omega)]
      unfold ind
      rw [if_neg e, Int.zero_mul]
      omega
/-- a code's part of the whole sum -/
theorem ds_blk {c : Nat} {f Ln : Nat → Int32} (h256 : (f (257 * c + 256)).toInt = 0) : ∀ s, s ≤ 257 → dsum (fun j => (Ln j).toInt) f (257 * c + s) = dsum (fun j => (Ln j).toInt) f (257 * c) + lsum c f Ln s
  | 0, _ => by
    show _ = _ + (0 : Int)
    rw [Nat.add_zero]
    omega
  | s + 1, h => by
    rw [← Nat.add_assoc]
    rw [ds_s, lsum_s, ds_blk h256 s (by omega)]
    unfold owf
    by_cases e : s = 256
    · subst e
      rw [if_pos rfl, h256, Int.mul_zero, Int.zero_mul]
      omega
    · rw [if_neg e, Int.mul_comm]
      omega
theorem ds_blk1 {c : Nat} {f : Nat → Int32} (h256 : (f (257 * c + 256)).toInt = 0) : ∀ s, s ≤ 257 → dsum (fun _ => 1) f (257 * c + s) = dsum (fun _ => 1) f (257 * c) + osum c f s
  | 0, _ => by
    show _ = _ + (0 : Int)
    rw [Nat.add_zero]
    omega
  | s + 1, h => by
    rw [← Nat.add_assoc]
    rw [ds_s, osum_s, ds_blk1 h256 s (by omega)]
    unfold owf
    by_cases e : s = 256
    · subst e
      rw [if_pos rfl, h256]
      omega
    · rw [if_neg e, Int.one_mul]
      omega
theorem ls_c {c : Nat} {f Ln Ln' : Nat → Int32} : ∀ n, (∀ s, s < n → Ln' (257 * c + s) = Ln (257 * c + s)) → lsum c f Ln' n = lsum c f Ln n
  | 0, _ => rfl
  | n + 1, h => by
    unfold lsum
    rw [ls_c n (fun s hs => h s (by omega)), h n (by omega)]
theorem ls_f0 {c : Nat} {f Ln : Nat → Int32} : ∀ n, n ≤ 257 → (∀ s, s < n → (f (257 * c + s)).toInt = 0) → lsum c f Ln n = 0
  | 0, _, _ => rfl
  | n + 1, hn, h => by
    unfold lsum owf
    rw [ls_f0 n (by omega) (fun s hs => h s (by omega))]
    split
    · rw [Int.zero_mul]; rfl
    · rw [h n (by omega), Int.zero_mul]; rfl
theorem os_f0 {c : Nat} {f : Nat → Int32} (h : ∀ j, 0 ≤ (f j).toInt) : ∀ n, 0 ≤ osum c f n
  | 0 => Int.le_refl _
  | n + 1 => by
    have h1 := os_f0 (c := c) h n
    have h2 := h (257 * c + n)
    unfold osum owf
    split <;> omega
theorem GEO_tr {S T : ms} {L : Nat} (h : GEO S L) {fs rs : List Nat} (g : ag fs rs S T) (hr : rs.all (fun r => decide (r < 12 ∨ 17 < r)) = true) : GEO T L := by
  have hne : ∀ r, 12 ≤ r → r ≤ 17 → rs.contains r = false := fun r h1 h2 => by
    rw [Bool.eq_false_iff]
    intro h3
    rw [List.contains_iff_exists_mem_beq] at h3
    obtain ⟨x, hx, hb⟩ := h3
    have : r = x := by simpa using hb
    subst this
    have := List.all_eq_true.mp hr r hx
    simp at this
    omega
  obtain ⟨g1, g2, g3, g4, g5⟩ := h
  unfold GEO
  rw [g.2 12 (hne 12 (by omega) (by omega)), g.2 13 (hne 13 (by omega) (by omega)), g.2 14 (hne 14 (by omega) (by omega)), g.2 15 (hne 15 (by omega) (by omega)), g.2 16 (hne 16 (by omega) (by omega)), g.2 17 (hne 17 (by omega) (by omega))]
  exact ⟨g1, g2, g3, g4, g5⟩
set_option maxHeartbeats 2000000 in
theorem pack_end {L e : Nat} {S U : ms} {f : Nat → Int32} {K : Int32 → ms → Prop} (he : e ≤ 65535) (hG : GEO S L) (hlv : qf (S.2.1 19) 0 12288 (-2049) 2049)
    (hU : IM U) (gU : ag [9, 32, 33] [8, 26, 27, 28, 29, 30, 31, 53] S U) (u53 : ∀ j, 3 ≤ j → U.2.1 53 j = S.2.1 53 j) (uLZ : LZ U) (hlen : uTot (fun j => (U.2.1 27 j).toInt) S L e ≤ 98304)
    (hK : ∀ {v : Int32} {Z : ms}, B 0 65536 v → IM Z → ag [9, 32, 33] [8, 26, 27, 28, 29, 30, 31, 53] S Z → LZ Z → K v Z) :
    p_mark 216 (upd (upd (upd U.1 9 0) 32 0) 33 0, U.2.1, U.2.2) (fun S355 => p_putSections (nI e) (S355.1, S355.2.1, S355.2.2) (fun S360 => p_units 0 (nI e) (S360.1, S360.2.1, S360.2.2) (fun S366 => p_fillUp (S366.1, S366.2.1, S366.2.2) (fun S370 => p_mark 217 (S370.1, S370.2.1, S370.2.2) (fun S377 => K (S377.1 9) (S377.1, S377.2.1, S377.2.2)))))) := by
  have i1 := IM_f (k := 9) (v := 0) hU (show B 0 0 (0 : Int32) from ⟨by decide, by decide⟩) (by decide) (by decide)
  have i2 := IM_f (k := 32) (v := 0) i1 (show B 0 0 (0 : Int32) from ⟨by decide, by decide⟩) (by decide) (by decide)
  have i3 := IM_f (k := 33) (v := 0) i2 (show B 0 0 (0 : Int32) from ⟨by decide, by decide⟩) (by decide) (by decide)
  have g1 : ag [9, 32, 33] [8, 26, 27, 28, 29, 30, 31, 53] S (upd (upd (upd U.1 9 0) 32 0) 33 0, U.2.1, U.2.2) := ag_f (k := 33) (ag_f (k := 32) (ag_f (k := 9) gU (by decide)) (by decide)) (by decide)
  have h00 : (0 : Int32).toInt = 0 := by decide
  have f9 : (upd (upd (upd U.1 9 0) 32 0) 33 0) 9 = (0 : Int32) := rfl
  have f32 : (upd (upd (upd U.1 9 0) 32 0) 33 0) 32 = (0 : Int32) := rfl
  have f33 : (upd (upd (upd U.1 9 0) 32 0) 33 0) 33 = (0 : Int32) := rfl
  refine h_mark (show B 0 255 (216 : Int32) from ⟨by decide, by decide⟩) i3 (by show (upd (upd (upd U.1 9 0) 32 0) 33 0 9).toInt ≤ _; rw [f9, h00]; decide) (fun {V} hV gV r1 => ?_)
  have r1 : (V.1 9).toInt = ((upd (upd (upd U.1 9 0) 32 0) 33 0) 9).toInt + 2 := r1
  rw [f9, h00] at r1
  have v32 : V.1 32 = 0 := (gV.1 32 rfl).trans f32
  have v33 : V.1 33 = 0 := (gV.1 33 rfl).trans f33
  have v27 : V.2.1 27 = U.2.1 27 := gV.2 27 rfl
  have gSV : ag [9, 32, 33] [8, 26, 27, 28, 29, 30, 31, 53] S V := ag_tr g1 gV (by decide) (by decide)
  have hGV := GEO_tr hG gSV (by decide)
  show p_putSections (nI e) V _
  have ee : (nI e).toInt = e := nI_toInt (by omega)
  refine h_putSections ⟨by rw [ee]; omega, by rw [ee]; omega⟩ hV (by omega) (LZ_tr uLZ v27) (by
    rw [z0c, hGV.1]
    rcases hGV.2.1 with h | h <;> (rw [h]; decide)) (fun {X} hX gX r2 => ?_)
  have r2 : (X.1 9).toInt ≤ 1300 := r2
  have x32 : X.1 32 = 0 := (gX.1 32 rfl).trans v32
  have x33 : X.1 33 = 0 := (gX.1 33 rfl).trans v33
  have x27 : X.2.1 27 = U.2.1 27 := (gX.2 27 rfl).trans v27
  have gSX : ag [9, 32, 33] [8, 26, 27, 28, 29, 30, 31, 53] S X := ag_tr gSV gX (by decide) (by decide)
  have hGX := GEO_tr hG gSX (by decide)
  have x53 : ∀ j, 3 ≤ j → X.2.1 53 j = S.2.1 53 j := fun j hj => by
    rw [show X.2.1 53 = U.2.1 53 from (gX.2 53 rfl).trans (gV.2 53 rfl)]
    exact u53 j hj
  show p_units 0 (nI e) X _
  have hnn : ∀ j, 0 ≤ (U.2.1 27 j).toInt := fun j => (br_27 hU j).1
  have hn64 := uNum_le hX hGX
  have ec : ∀ t, uTot t X L e = uTot t S L e := fun t => uTot_c (gSX.1 1 rfl) (gSX.1 2 rfl) (gSX.2 12 rfl) (gSX.2 13 rfl) (gSX.2 15 rfl) (gSX.2 16 rfl) (gSX.2 17 rfl) (gSX.2 19 rfl) x53
  have hlvX : qf (X.2.1 19) 0 12288 (-2049) 2049 := qf_eq (gSX.2 19 rfl) hlv
  have hbits : uTot (fun j => ((bitj j : Nat) : Int)) X L e ≤ (13 + 63 * 12) * 192 := uTot_le hX hGX hlvX (by decide) (by decide) (fun l hl => ⟨fun s hs => by
    show ((bitj (257 * cl2 l + s) : Nat) : Int) ≤ 13
    rw [bitj_s (by omega)]; omega, fun s hs h16 => by
    show ((bitj (257 * (cl2 l + 1) + s) : Nat) : Int) ≤ 12
    rw [bitj_s (by omega)]; omega⟩)
  have hsum : uTot (fun j => (U.2.1 27 j).toInt + ((bitj j : Nat) : Int)) X L e = uTot (fun j => (U.2.1 27 j).toInt) X L e + uTot (fun j => ((bitj j : Nat) : Int)) X L e := uTot_add (fun _ => rfl)
  rw [ec (fun j => (U.2.1 27 j).toInt)] at hsum
  have hq : GBq (U.2.1 27) X := ⟨by
    rw [x32, x33]
    exact ⟨by decide, by decide, by decide⟩, x27⟩
  have hph : PhI X ≤ 5200 := by
    unfold PhI
    rw [x32, h00]
    omega
  have h16 : (16 : Int) * (uNum X L : Nat) ≤ 1024 := by omega
  obtain ⟨q1, q2, q3, q4, q5⟩ := hGX
  refine h_units (TI_tell hnn) FI_tell (L := L) he hX hq hlvX q1 q2 q3 q4 q5 (by
    show PhI X + 16 * (uNum X L : Nat) + uTot (fun j => (U.2.1 27 j).toInt + ((bitj j : Nat) : Int)) X L e ≤ 262100
    omega) (fun Y hY qY gY y53 r3 _ => ?_)
  have r3 : PhI Y ≤ PhI X + 16 * (uNum X L : Nat) + uTot (fun j => (U.2.1 27 j).toInt + ((bitj j : Nat) : Int)) X L e := r3
  have r3' : 4 * (Y.1 9).toInt + (Y.1 32).toInt ≤ 255000 := by
    have : PhI Y = 4 * (Y.1 9).toInt + (Y.1 32).toInt := rfl
    omega
  show p_fillUp Y _
  refine h_fillUp hY qY.1 (by omega) (fun {V2} hV2 gV2 _ w2 w3 _ => ?_)
  have w2 : (V2.1 32).toInt = 0 := w2
  have w3 : 4 * (V2.1 9).toInt + (V2.1 32).toInt ≤ 4 * (Y.1 9).toInt + (Y.1 32).toInt + 8 := w3
  show p_mark 217 V2 _
  refine h_mark (show B 0 255 (217 : Int32) from ⟨by decide, by decide⟩) hV2 (by omega) (fun {Z} hZ gZ _ => ?_)
  have z27 : Z.2.1 27 = U.2.1 27 := (gZ.2 27 rfl).trans ((gV2.2 27 rfl).trans qY.2)
  exact hK (bf_9 hZ) hZ (ag_tr (ag_tr (ag_tr gSX gY (by decide) (by decide)) gV2 (by decide) (by decide)) gZ (by decide) (by decide)) (LZ_tr uLZ z27)
set_option maxHeartbeats 2000000 in
theorem pack_codes {L e : Nat} {S Z : ms} {K : Int32 → ms → Prop} (he : e ≤ 65535) (hG : GEO S L) (h3 : S.1 3 = nI L) (hlv : qf (S.2.1 19) 0 12288 (-2049) 2049) (hLZ : LZ S) (hS : IM S)
    (hZ : IM Z) (gZ : ag [9, 32, 33] [8, 26, 53] S Z) (z53 : ∀ j, 3 ≤ j → Z.2.1 53 j = S.2.1 53 j) (hcount : ∀ t, dsum t (Z.2.1 26) 1028 = uTot t S L e)
    (hK : ∀ {v : Int32} {Z : ms}, B 0 65536 v → IM Z → ag [9, 32, 33] [8, 26, 27, 28, 29, 30, 31, 53] S Z → LZ Z → K v Z) : e_pack_306 (nI e) 0 Z K := by
  have z31 : ∀ {n : Nat}, n < 1000000 → n < 2 ^ 31 := fun h => by omega
  have h26 := fun j => br_26 hZ j
  generalize hfZ : Z.2.1 26 = f at *
  have hnn : ∀ j, 0 ≤ (f j).toInt := fun j => (h26 j).1
  -- what is never counted
  have none : ∀ j0, j0 < 1028 → (∀ l, l < L → WtL (ind j0) 0 0 l) → (f j0).toInt = 0 := by
    intro j0 hj hw
    have a1 := hcount (ind j0)
    rw [ds_ind 1028 hj] at a1
    have a2 := uTot_le (t := ind j0) (e := e) hS hG hlv (a := 0) (d := 0) (by decide) (by decide) hw
    have a3 := hnn j0
    omega
  have w255 : ∀ c b l, 255 ≤ b → b ≤ 256 → WtL (ind (257 * c + b)) 0 0 l := fun c b l h1 h2 => ⟨fun s hs => by
    unfold ind
    rw [if_neg (by omega)]
    exact Int.le_refl _, fun s hs _ => by
    unfold ind
    rw [if_neg (by omega)]
    exact Int.le_refl _⟩
  have f255 : ∀ c, c ≤ 3 → (f (257 * c + 255)).toInt = 0 := fun c hc => none _ (by omega) (fun l _ => w255 c 255 l (by omega) (by omega))
  have f256 : ∀ c, c ≤ 3 → (f (257 * c + 256)).toInt = 0 := fun c hc => none _ (by omega) (fun l _ => w255 c 256 l (by omega) (by omega))
  have fhi : L = 1 → ∀ c s, 2 ≤ c → c ≤ 3 → s ≤ 256 → (f (257 * c + s)).toInt = 0 := fun h1 c s hc1 hc2 hs => none _ (by omega) (fun l hl => by
    have : l = 0 := by omega
    subst this
    exact ⟨fun s' hs' => by
      unfold ind cl2
      rw [if_pos rfl, if_neg (by omega)]
      exact Int.le_refl _, fun s' hs' _ => by
      unfold ind cl2
      rw [if_pos rfl, if_neg (by omega)]
      exact Int.le_refl _⟩)
  have tot : dsum (fun _ => 1) f 1028 ≤ 12288 := by
    rw [hcount]
    exact uTot_le hS hG hlv (a := 1) (d := 1) (by decide) (by decide) (fun l _ => ⟨fun _ _ => Int.le_refl _, fun _ _ _ => Int.le_refl _⟩)
  have L13 := hG.2.1
  -- one code after the other
  refine ⟨fun y3 y4 yS => nI e = y3 ∧ IM yS ∧ ag [9, 32, 33] [8, 26, 27, 28, 29, 30, 31, 53] S yS ∧ yS.2.1 26 = f ∧ LZ yS ∧ (∀ j, 3 ≤ j → yS.2.1 53 j = S.2.1 53 j) ∧ ∃ c : Nat, y4 = nI c ∧ c ≤ (if L = 1 then 2 else 4) ∧ ∀ c', c' < c → lsum c' f (yS.2.1 27) 257 ≤ 8 * osum c' f 257, fun _ y4 _ => 4 - y4.toNatClampNeg, ⟨rfl, hZ, ag_tr ag_refl gZ (by decide) (by decide), hfZ, LZ_tr hLZ (gZ.2 27 rfl), z53, 0, rfl, by omega, fun c' h => by omega⟩, ?_⟩
  rintro _ _ U ⟨rfl, hU, gU, u26, uLZ, u53, c, rfl, hc, uP⟩
  have step : ∀ q : Nat, q = (if L = 1 then 2 else 4) → b_pack_321 (nI e) (nI c) (nI c) (nI q) U (fun zx3 zx4 zS => (nI e = zx3 ∧ IM zS ∧ ag [9, 32, 33] [8, 26, 27, 28, 29, 30, 31, 53] S zS ∧ zS.2.1 26 = f ∧ LZ zS ∧ (∀ j, 3 ≤ j → zS.2.1 53 j = S.2.1 53 j) ∧ ∃ c : Nat, zx4 = nI c ∧ c ≤ (if L = 1 then 2 else 4) ∧ ∀ c', c' < c → lsum c' f (zS.2.1 27) 257 ≤ 8 * osum c' f 257) ∧ 4 - zx4.toNatClampNeg < 4 - (nI c).toNatClampNeg) K := by
    intro q hq
    have q4 : q ≤ 4 := by rw [hq]; split <;> omega
    unfold b_pack_321
    rw [nI_leI (z31 (by omega)) (z31 (by omega))]
    refine ⟨fun hqc => ?_, fun hqc => ?_⟩
    · refine pack_end (f := f) he hG hlv hU gU u53 uLZ ?_ hK
      rw [← hcount (fun j => (U.2.1 27 j).toInt)]
      have l4 : ∀ c', c' ≤ 3 → lsum c' f (U.2.1 27) 257 ≤ 8 * osum c' f 257 := by
        intro c' hc'
        by_cases h : c' < c
        · exact uP c' h
        · have hL1 : L = 1 := by
            by_cases h1 : L = 1
            · exact h1
            · rw [if_neg h1] at hq
              omega
          rw [if_pos hL1] at hq
          rw [ls_f0 257 (by omega) (fun s hs => fhi hL1 c' s (by omega) hc' (by omega))]
          have := os_f0 (c := c') hnn 257
          omega
      have a0 := ds_blk (c := 0) (Ln := U.2.1 27) (f256 0 (by omega)) 257 (by omega)
      have a1 := ds_blk (c := 1) (Ln := U.2.1 27) (f256 1 (by omega)) 257 (by omega)
      have a2 := ds_blk (c := 2) (Ln := U.2.1 27) (f256 2 (by omega)) 257 (by omega)
      have a3 := ds_blk (c := 3) (Ln := U.2.1 27) (f256 3 (by omega)) 257 (by omega)
      have b0 := ds_blk1 (c := 0) (f256 0 (by omega)) 257 (by omega)
      have b1 := ds_blk1 (c := 1) (f256 1 (by omega)) 257 (by omega)
      have b2 := ds_blk1 (c := 2) (f256 2 (by omega)) 257 (by omega)
      have b3 := ds_blk1 (c := 3) (f256 3 (by omega)) 257 (by omega)
      have z1 : dsum (fun j => (U.2.1 27 j).toInt) f (257 * 0) = 0 := rfl
      have z2 : dsum (fun _ => 1) f (257 * 0) = 0 := rfl
      have l0 := l4 0 (by omega)
      have l1 := l4 1 (by omega)
      have l2 := l4 2 (by omega)
      have l3 := l4 3 (by omega)
      simp only [Nat.mul_zero, Nat.zero_add, Nat.reduceMul, Nat.reduceAdd] at a0 a1 a2 a3 b0 b1 b2 b3 z1 z2
      omega
    · have hfU : ∀ j, 0 ≤ (U.2.1 26 j).toInt ∧ (U.2.1 26 j).toInt ≤ 20000 := fun j => br_26 hU j
      refine h_makeCode (by omega) hU hfU (by rw [u26, f255 c (by omega)]; exact Int.le_refl _) (fun V hV gV hq' => ?_)
      rw [u26] at hq'
      obtain ⟨o1, o2, o3⟩ := hq'
      rw [nI_1]
      refine ⟨⟨rfl, hV, ag_tr gU gV (by decide) (by decide), (gV.2 26 rfl).trans u26, fun c' hc' => ?_, fun j hj => ?_, c + 1, rfl, by omega, fun c' hc' => ?_⟩, ?_⟩
      · show (V.2.1 27 (257 * c' + 255)).toInt = 0
        by_cases h : c' = c
        · subst h
          rw [o2 255 (by omega) (by rw [f255 c' hc']; exact Int.le_refl _)]
          decide
        · rw [o1 _ (by omega)]
          exact uLZ c' hc'
      · show V.2.1 53 j = _
        rw [gV.2 53 rfl]
        exact u53 j hj
      · show lsum c' f (V.2.1 27) 257 ≤ _
        by_cases h : c' = c
        · subst h
          exact o3
        · rw [ls_c (Ln := U.2.1 27) 257 (fun s hs => o1 _ (by omega))]
          exact uP c' (by omega)
      · rw [nI_clamp (z31 (by omega)), nI_clamp (z31 (by omega))]
        omega
  have e3 : U.1 3 = nI L := (gU.1 3 rfl).trans h3
  have n1 : (1 : Int32) = nI 1 := rfl
  unfold b_pack_306
  rw [e3, n1, nI_eq (z31 (by omega)) (by decide)]
  refine ⟨fun h => ?_, fun h => ?_⟩
  · exact step 4 (by rw [if_neg h])
  · exact step 2 (by rw [if_pos h])
set_option maxHeartbeats 2000000 in
theorem pack_tail {L e : Nat} {S : ms} {K : Int32 → ms → Prop} (he : e ≤ 65535) (hG : GEO S L) (h3 : S.1 3 = nI L) (hlv : qf (S.2.1 19) 0 12288 (-2049) 2049) (hLZ : LZ S) (hS : IM S)
    (hK : ∀ {v : Int32} {Z : ms}, B 0 65536 v → IM Z → ag [9, 32, 33] [8, 26, 27, 28, 29, 30, 31, 53] S Z → LZ Z → K v Z) : e_pack_275 (nI e) 0 S K := by
  have z31 : ∀ {n : Nat}, n < 1000000 → n < 2 ^ 31 := fun h => by omega
  have n1028 : (1028 : Int32) = nI 1028 := rfl
  have h00 : (0 : Int32).toInt = 0 := by decide
  refine ⟨fun y3 y4 yS => nI e = y3 ∧ IM yS ∧ ag [] [26] S yS ∧ ∃ k : Nat, y4 = nI k ∧ k ≤ 1028 ∧ ∀ j, j < k → (yS.2.1 26 j).toInt = 0, fun _ y4 _ => 1028 - y4.toNatClampNeg, ⟨rfl, hS, ag_refl, 0, rfl, by omega, fun j h => by omega⟩, ?_⟩
  rintro _ _ U ⟨rfl, hU, gU, k, rfl, hk, u0⟩
  unfold b_pack_275
  rw [n1028, nI_leI (by decide) (z31 (by omega))]
  refine ⟨fun h => ?_, fun h => ⟨nI_in (by omega) (by decide), ?_⟩⟩
  · have ek : k = 1028 := by omega
    subst ek
    have hGU := GEO_tr hG gU (by decide)
    have hlvU : qf (U.2.1 19) 0 12288 (-2049) 2049 := qf_eq (gU.2 19 rfl) hlv
    have d0 : ∀ t, dsum t (U.2.1 26) 1028 = 0 := fun t => ds_z 1028 u0
    have t1 : uTot (fun _ => 1 + 0) U L e ≤ (1 + 63 * 1) * 192 := uTot_le hU hGU hlvU (by decide) (by decide) (fun l _ => ⟨fun _ _ => (by decide : (1 + 0 : Int) ≤ 1), fun _ _ _ => (by decide : (1 + 0 : Int) ≤ 1)⟩)
    have ec : ∀ t, uTot t U L e = uTot t S L e := fun t => uTot_c (gU.1 1 rfl) (gU.1 2 rfl) (gU.2 12 rfl) (gU.2 13 rfl) (gU.2 15 rfl) (gU.2 16 rfl) (gU.2 17 rfl) (gU.2 19 rfl) (fun j _ => congrFun (gU.2 53 rfl) j)
    obtain ⟨q1, q2, q3, q4, q5⟩ := hGU
    refine h_units TI_count FI_count (L := L) he hU (fun j => (br_26 hU j).1) hlvU q1 q2 q3 q4 q5 (by
      show dsum (fun _ => 1) (U.2.1 26) 1028 + 0 * (uNum U L : Nat) + uTot (fun _ => 1 + 0) U L e ≤ 20000
      rw [d0, Int.zero_mul]
      omega) (fun Z hZ qZ gZ z53 _ xZ => ?_)
    have gSZ : ag [9, 32, 33] [8, 26, 53] S Z := ag_tr (ag_tr ag_refl gU (by decide) (by decide)) gZ (by decide) (by decide)
    have low : ∀ t, uTot t S L e ≤ dsum t (Z.2.1 26) 1028 := fun t => by
      have a : - dsum t (Z.2.1 26) 1028 ≤ - dsum t (U.2.1 26) 1028 + 0 * (uNum U L : Nat) + uTot (fun j => - t j + 0) U L e := xZ t
      rw [d0, Int.zero_mul, uTot_neg (t2 := t) (fun j => by omega), ec] at a
      omega
    show e_pack_306 (nI e) 0 Z K
    refine pack_codes he hG h3 hlv hLZ hS hZ gSZ (fun j hj => (z53 j hj).trans (congrFun (gU.2 53 rfl) j)) (fun t => ?_) hK
    have a := low t
    have b := low (fun j => - t j)
    rw [uTot_neg (t2 := t) (fun j => rfl), ds_neg (t' := t) (fun j => rfl)] at b
    omega
  · rw [nI_1, nI_clamp (z31 (by omega))]
    refine ⟨⟨rfl, IM_r (r := 26) (i := k) (v := 0) hU (show B 0 20000 (0 : Int32) from ⟨by decide, by decide⟩) (by decide) (by decide), ag_r gU (by decide), k + 1, rfl, by omega, fun j hj => ?_⟩, ?_⟩
    · show ((va_up U.2.1 26 (upd (U.2.1 26) k 0)) 26 j).toInt = 0
      rw [up_at]
      by_cases ej : j = k
      · subst ej; rw [upd_at]; exact h00
      · rw [upd_ne ej]; exact u0 j (by omega)
    · show 1028 - (nI (k + 1)).toNatClampNeg < 1028 - (nI k).toNatClampNeg
      rw [nI_clamp (z31 (by omega)), nI_clamp (z31 (by omega))]
      omega
