theorem h_pack275 {x3 : Int32} {S : ms} {K : Int32 → ms → Prop} (b_x3 : B 0 65535 x3) (hI : IM S) (pre0 : qf (S.2.1 15) 0 (0 + (S.2.1 14 (0 : Int32).toNatClampNeg).toInt) 1 2) (pre1 : qf (S.2.1 16) 0 (0 + (S.2.1 14 (0 : Int32).toNatClampNeg).toInt) 1 2) (pre2 : qf (S.2.1 17) 0 (0 + (S.2.1 14 (0 : Int32).toNatClampNeg).toInt) 1 8) (_pre3 : qf (S.2.1 18) 0 (0 + (S.2.1 14 (0 : Int32).toNatClampNeg).toInt) 1 8) (pre4 : qf (S.2.1 19) 0 12288 (-2049) 2049)
    (pre5 : (S.2.1 14 (0 : Int32).toNatClampNeg).toInt = (S.1 3).toInt) (pre6 : (S.1 3).toInt = 1 ∨ (S.1 3).toInt = 3) (pre7 : 1 ≤ (S.2.1 12 (0 : Int32).toNatClampNeg).toInt ∧ 1 ≤ (S.2.1 13 (0 : Int32).toNatClampNeg).toInt) (pre8 : LZ S)
    (hK : ∀ {v : Int32} {Z : ms}, B 0 65536 v → IM Z → ag [9, 32, 33] [8, 26, 27, 28, 29, 30, 31, 53] S Z → LZ Z → K v Z) : e_pack_275 x3 0 S K := by
  rw [z0c] at pre0 pre1 pre2 pre5 pre7
  have e3 := nI_cl (x := x3) b_x3.1
  have c3 := cl_i (x := x3) b_x3.1
  have b3 := b_x3.2
  have eL := nI_cl (x := S.1 3) (by omega)
  have cL := cl_i (x := S.1 3) (by omega)
  have e14 : S.2.1 14 0 = nI (S.1 3).toNatClampNeg := by
    rw [← eL]
    exact Int32.toInt.inj pre5
  rw [e3]
  refine pack_tail (L := (S.1 3).toNatClampNeg) (by omega) ⟨e14, by omega, fun l hl => ⟨pre0 l (by omega) (by omega), pre1 l (by omega) (by omega), pre2 l (by omega) (by omega)⟩, ⟨pre7.1, (br_12 hI 0).2⟩, ⟨pre7.2, (br_13 hI 0).2⟩⟩ eL pre4 pre8 hI hK
