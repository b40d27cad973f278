set_option maxRecDepth 20000 in
set_option maxHeartbeats 4000000 in
theorem h_put {x1 : Int32} {S : ms} {K : ms → Prop} (b_x1 : B 0 255 x1) (hI : IM S) (pre0 : (S.1 9).toInt ≤ 65535) (hK : ∀ {Z : ms}, IM Z → ag [9] [8] S Z → ((Z.1 9).toInt = ((S.1 9).toInt + 1)) → K Z) : p_put x1 S K := by
  have q1 : (0) ≤ (S.1 9).toInt ∧ (S.1 9).toInt ≤ (65536) := (show B 0 65536 (S.1 9) from bf_9 hI)
  unfold p_put
  refine ⟨vp_om (x := S.1 9) (by omega) (by omega), ?_⟩
  have b2 : B 0 65535 (S.1 9) := ⟨by omega, by omega⟩
  have hI3 := IM_r (r := 8) (i := (S.1 9).toNatClampNeg) (v := x1) hI b_x1 (by decide +kernel) (by decide +kernel)
  have hI4 := IM_f (k := 9) (v := (S.1 9) + 1) hI3 (B_add b2 cqb_1_1_1 (by decide +kernel) (by decide +kernel)) (by decide +kernel) (by decide +kernel)
  have g6 := ag_r (r := 8) (w := upd (S.2.1 8) (S.1 9).toNatClampNeg x1) (ag_refl (fs := [9]) (rs := [8]) (S := S)) (by decide +kernel)
  have g5 := ag_f (k := 9) (v := (S.1 9) + 1) g6 (by decide +kernel)
  have e7 : ((S.1 9) + 1).toInt = ((S.1 9).toInt + 1) := (t_add b2 cqb_1_1_1 (by decide +kernel) (by decide +kernel)).trans (by rw [cqn_1])
  have q8 : (1) ≤ ((S.1 9) + 1).toInt ∧ ((S.1 9) + 1).toInt ≤ (65536) := (show B 1 65536 ((S.1 9) + 1) from B_w (B_add b2 cqb_1_1_1 (by decide +kernel) (by decide +kernel)) (by decide +kernel) (by decide +kernel))
  exact hK hI4 g5 (by show ((S.1 9) + 1).toInt = ((S.1 9).toInt + 1); first | with_reducible assumption | omega)
set_option maxRecDepth 20000 in
set_option maxHeartbeats 4000000 in
theorem h_putTwo {x1 : Int32} {S : ms} {K : ms → Prop} (b_x1 : B 0 65535 x1) (hI : IM S) (pre0 : (S.1 9).toInt ≤ 65534) (hK : ∀ {Z : ms}, IM Z → ag [9] [8] S Z → ((Z.1 9).toInt = ((S.1 9).toInt + 2)) → K Z) : p_putTwo x1 S K := by
  have q1 : (0) ≤ (S.1 9).toInt ∧ (S.1 9).toInt ≤ (65536) := (show B 0 65536 (S.1 9) from bf_9 hI)
  unfold p_putTwo
  refine h_put (B_w (show B 0 255 ((x1 >>> (8 &&& 31 : Int32) : Int32) &&& 255) from B_and (k := 8) (by decide +kernel) (by decide +kernel)) (by decide +kernel) (by decide +kernel)) hI (by show (S.1 9).toInt ≤ 65535; first | with_reducible assumption | omega) (fun {S9_2} hI3 g4 r5 => ?_)
  have r6 : (S9_2.1 9).toInt = ((S.1 9).toInt + 1) := r5
  clear r5
  have q7 : (0) ≤ (S9_2.1 9).toInt ∧ (S9_2.1 9).toInt ≤ (65536) := (show B 0 65536 (S9_2.1 9) from bf_9 hI3)
  refine h_put (B_w (show B 0 255 (x1 &&& 255) from B_and (k := 8) (by decide +kernel) (by decide +kernel)) (by decide +kernel) (by decide +kernel)) hI3 (by show (S9_2.1 9).toInt ≤ 65535; first | with_reducible assumption | omega) (fun {S18_8} hI9 g10 r11 => ?_)
  have r12 : (S18_8.1 9).toInt = ((S9_2.1 9).toInt + 1) := r11
  clear r11
  have q13 : (0) ≤ (S18_8.1 9).toInt ∧ (S18_8.1 9).toInt ≤ (65536) := (show B 0 65536 (S18_8.1 9) from bf_9 hI9)
  have g15 := ag_tr (ag_refl (fs := [9]) (rs := [8]) (S := S)) g4 (by decide +kernel) (by decide +kernel)
  have g14 := ag_tr g15 g10 (by decide +kernel) (by decide +kernel)
  exact hK hI9 g14 (by show (S18_8.1 9).toInt = ((S.1 9).toInt + 2); first | with_reducible assumption | omega)
set_option maxRecDepth 20000 in
set_option maxHeartbeats 4000000 in
theorem h_mark {x1 : Int32} {S : ms} {K : ms → Prop} (b_x1 : B 0 255 x1) (hI : IM S) (pre0 : (S.1 9).toInt ≤ 65534) (hK : ∀ {Z : ms}, IM Z → ag [9] [8] S Z → ((Z.1 9).toInt = ((S.1 9).toInt + 2)) → K Z) : p_mark x1 S K := by
  have q1 : (0) ≤ (S.1 9).toInt ∧ (S.1 9).toInt ≤ (65536) := (show B 0 65536 (S.1 9) from bf_9 hI)
  unfold p_mark
  refine h_put (B_w cqb_255_255_255 (by decide +kernel) (by decide +kernel)) hI (by show (S.1 9).toInt ≤ 65535; first | with_reducible assumption | omega) (fun {S4_2} hI3 g4 r5 => ?_)
  have r6 : (S4_2.1 9).toInt = ((S.1 9).toInt + 1) := r5
  clear r5
  have q7 : (0) ≤ (S4_2.1 9).toInt ∧ (S4_2.1 9).toInt ≤ (65536) := (show B 0 65536 (S4_2.1 9) from bf_9 hI3)
  refine h_put b_x1 hI3 (by show (S4_2.1 9).toInt ≤ 65535; first | with_reducible assumption | omega) (fun {S9_8} hI9 g10 r11 => ?_)
  have r12 : (S9_8.1 9).toInt = ((S4_2.1 9).toInt + 1) := r11
  clear r11
  have q13 : (0) ≤ (S9_8.1 9).toInt ∧ (S9_8.1 9).toInt ≤ (65536) := (show B 0 65536 (S9_8.1 9) from bf_9 hI9)
  have g15 := ag_tr (ag_refl (fs := [9]) (rs := [8]) (S := S)) g4 (by decide +kernel) (by decide +kernel)
  have g14 := ag_tr g15 g10 (by decide +kernel) (by decide +kernel)
  exact hK hI9 g14 (by show (S9_8.1 9).toInt = ((S.1 9).toInt + 2); first | with_reducible assumption | omega)
set_option maxRecDepth 20000 in
set_option maxHeartbeats 4000000 in
theorem h_turn1 {x0 : Int32} {K : Int32 → Prop} (b_x0 : B 0 31 x0) (hK : ∀ {v : Int32}, B (-4096) 4096 v → K v) : p_turn1 x0 K := by
  unfold p_turn1
  have hj1 : ∀ {x1_2 : Int32} {s0_3 : Int32}, B 0 16 x1_2 → B 0 8 s0_3 → b_turn1_29 x1_2 s0_3 K := by
    intro x1_2 s0_3 b4 b5
    unfold b_turn1_29
    refine ⟨fun hc => ?_, fun hc => ?_⟩
    · have b6 : B 1 8 (s0_3) := B_w (B_n0 b5 hc) (by decide +kernel) (by decide +kernel)
      refine ⟨fun hc => ?_, fun hc => ?_⟩
      · have q7 : (1) ≤ (s0_3).toInt ∧ (s0_3).toInt ≤ (8) := (show B 1 8 (s0_3) from B_w b6 (by decide +kernel) (by decide +kernel))
        have i8 : (s0_3).toInt ≠ (1 : Int32).toInt := i_ne hc
        have n9 : (1 : Int32).toInt = 1 := cqn_1
        refine ⟨fun hc => ?_, fun hc => ?_⟩
        · have i10 : (s0_3).toInt ≠ (2 : Int32).toInt := i_ne hc
          have n11 : (2 : Int32).toInt = 2 := cqn_2
          refine ⟨fun hc => ?_, fun hc => ?_⟩
          · have i12 : (s0_3).toInt ≠ (3 : Int32).toInt := i_ne hc
            have n13 : (3 : Int32).toInt = 3 := cqn_3
            refine ⟨fun hc => ?_, fun hc => ?_⟩
            · have i14 : (s0_3).toInt ≠ (4 : Int32).toInt := i_ne hc
              have n15 : (4 : Int32).toInt = 4 := cqn_4
              refine ⟨fun hc => ?_, fun hc => ?_⟩
              · have i16 : (s0_3).toInt ≠ (5 : Int32).toInt := i_ne hc
                have n17 : (5 : Int32).toInt = 5 := cqn_5
                refine ⟨fun hc => ?_, fun hc => ?_⟩
                · have i18 : (s0_3).toInt ≠ (6 : Int32).toInt := i_ne hc
                  have n19 : (6 : Int32).toInt = 6 := cqn_6
                  refine ⟨fun hc => ?_, fun hc => ?_⟩
                  · have i20 : (s0_3).toInt ≠ (7 : Int32).toInt := i_ne hc
                    have n21 : (7 : Int32).toInt = 7 := cqn_7
                    unfold b_turn1_120
                    refine ⟨fun hc => ?_, fun hc => ?_⟩
                    · have hq22 := hc
                      have b23 : B 0 8 (x1_2) := B_w (B_leL b4 cqb_8_8_8 hq22) (by decide +kernel) (by decide +kernel)
                      unfold b_turn1_133
                      exact hK (B_w cqb_0_0_0 (by decide +kernel) (by decide +kernel))
                    · have hq24 := (nle_lt hc)
                      have b25 : B 9 16 (x1_2) := B_w (B_ltR cqb_8_8_8 b4 hq24) (by decide +kernel) (by decide +kernel)
                      unfold b_turn1_133
                      exact hK (B_w cqb_0_0_0 (by decide +kernel) (by decide +kernel))
                  · have b26 : B 7 7 (s0_3) := B_w (B_eq hc cqb_7_7_7) (by decide +kernel) (by decide +kernel)
                    have q27 : (7) ≤ (s0_3).toInt ∧ (s0_3).toInt ≤ (7) := (show B 7 7 (s0_3) from B_w b26 (by decide +kernel) (by decide +kernel))
                    have i28 : (s0_3).toInt = (7 : Int32).toInt := congrArg Int32.toInt hc
                    have n29 : (7 : Int32).toInt = 7 := cqn_7
                    unfold b_turn1_120
                    refine ⟨fun hc => ?_, fun hc => ?_⟩
                    · have hq30 := hc
                      have b31 : B 0 8 (x1_2) := B_w (B_leL b4 cqb_8_8_8 hq30) (by decide +kernel) (by decide +kernel)
                      unfold b_turn1_133
                      exact hK (B_w cqb_799_799_799 (by decide +kernel) (by decide +kernel))
                    · have hq32 := (nle_lt hc)
                      have b33 : B 9 16 (x1_2) := B_w (B_ltR cqb_8_8_8 b4 hq32) (by decide +kernel) (by decide +kernel)
                      unfold b_turn1_133
                      exact hK (B_w cqb_m799_m799_m799 (by decide +kernel) (by decide +kernel))
                · have b34 : B 6 6 (s0_3) := B_w (B_eq hc cqb_6_6_6) (by decide +kernel) (by decide +kernel)
                  have q35 : (6) ≤ (s0_3).toInt ∧ (s0_3).toInt ≤ (6) := (show B 6 6 (s0_3) from B_w b34 (by decide +kernel) (by decide +kernel))
                  have i36 : (s0_3).toInt = (6 : Int32).toInt := congrArg Int32.toInt hc
                  have n37 : (6 : Int32).toInt = 6 := cqn_6
                  unfold b_turn1_120
                  refine ⟨fun hc => ?_, fun hc => ?_⟩
                  · have hq38 := hc
                    have b39 : B 0 8 (x1_2) := B_w (B_leL b4 cqb_8_8_8 hq38) (by decide +kernel) (by decide +kernel)
                    unfold b_turn1_133
                    exact hK (B_w cqb_1567_1567_1567 (by decide +kernel) (by decide +kernel))
                  · have hq40 := (nle_lt hc)
                    have b41 : B 9 16 (x1_2) := B_w (B_ltR cqb_8_8_8 b4 hq40) (by decide +kernel) (by decide +kernel)
                    unfold b_turn1_133
                    exact hK (B_w cqb_m1567_m1567_m1567 (by decide +kernel) (by decide +kernel))
              · have b42 : B 5 5 (s0_3) := B_w (B_eq hc cqb_5_5_5) (by decide +kernel) (by decide +kernel)
                have q43 : (5) ≤ (s0_3).toInt ∧ (s0_3).toInt ≤ (5) := (show B 5 5 (s0_3) from B_w b42 (by decide +kernel) (by decide +kernel))
                have i44 : (s0_3).toInt = (5 : Int32).toInt := congrArg Int32.toInt hc
                have n45 : (5 : Int32).toInt = 5 := cqn_5
                unfold b_turn1_120
                refine ⟨fun hc => ?_, fun hc => ?_⟩
                · have hq46 := hc
                  have b47 : B 0 8 (x1_2) := B_w (B_leL b4 cqb_8_8_8 hq46) (by decide +kernel) (by decide +kernel)
                  unfold b_turn1_133
                  exact hK (B_w cqb_2276_2276_2276 (by decide +kernel) (by decide +kernel))
                · have hq48 := (nle_lt hc)
                  have b49 : B 9 16 (x1_2) := B_w (B_ltR cqb_8_8_8 b4 hq48) (by decide +kernel) (by decide +kernel)
                  unfold b_turn1_133
                  exact hK (B_w cqb_m2276_m2276_m2276 (by decide +kernel) (by decide +kernel))
            · have b50 : B 4 4 (s0_3) := B_w (B_eq hc cqb_4_4_4) (by decide +kernel) (by decide +kernel)
              have q51 : (4) ≤ (s0_3).toInt ∧ (s0_3).toInt ≤ (4) := (show B 4 4 (s0_3) from B_w b50 (by decide +kernel) (by decide +kernel))
              have i52 : (s0_3).toInt = (4 : Int32).toInt := congrArg Int32.toInt hc
              have n53 : (4 : Int32).toInt = 4 := cqn_4
              unfold b_turn1_120
              refine ⟨fun hc => ?_, fun hc => ?_⟩
              · have hq54 := hc
                have b55 : B 0 8 (x1_2) := B_w (B_leL b4 cqb_8_8_8 hq54) (by decide +kernel) (by decide +kernel)
                unfold b_turn1_133
                exact hK (B_w cqb_2896_2896_2896 (by decide +kernel) (by decide +kernel))
              · have hq56 := (nle_lt hc)
                have b57 : B 9 16 (x1_2) := B_w (B_ltR cqb_8_8_8 b4 hq56) (by decide +kernel) (by decide +kernel)
                unfold b_turn1_133
                exact hK (B_w cqb_m2896_m2896_m2896 (by decide +kernel) (by decide +kernel))
          · have b58 : B 3 3 (s0_3) := B_w (B_eq hc cqb_3_3_3) (by decide +kernel) (by decide +kernel)
            have q59 : (3) ≤ (s0_3).toInt ∧ (s0_3).toInt ≤ (3) := (show B 3 3 (s0_3) from B_w b58 (by decide +kernel) (by decide +kernel))
            have i60 : (s0_3).toInt = (3 : Int32).toInt := congrArg Int32.toInt hc
            have n61 : (3 : Int32).toInt = 3 := cqn_3
            unfold b_turn1_120
            refine ⟨fun hc => ?_, fun hc => ?_⟩
            · have hq62 := hc
              have b63 : B 0 8 (x1_2) := B_w (B_leL b4 cqb_8_8_8 hq62) (by decide +kernel) (by decide +kernel)
              unfold b_turn1_133
              exact hK (B_w cqb_3406_3406_3406 (by decide +kernel) (by decide +kernel))
            · have hq64 := (nle_lt hc)
              have b65 : B 9 16 (x1_2) := B_w (B_ltR cqb_8_8_8 b4 hq64) (by decide +kernel) (by decide +kernel)
              unfold b_turn1_133
              exact hK (B_w cqb_m3406_m3406_m3406 (by decide +kernel) (by decide +kernel))
        · have b66 : B 2 2 (s0_3) := B_w (B_eq hc cqb_2_2_2) (by decide +kernel) (by decide +kernel)
          have q67 : (2) ≤ (s0_3).toInt ∧ (s0_3).toInt ≤ (2) := (show B 2 2 (s0_3) from B_w b66 (by decide +kernel) (by decide +kernel))
          have i68 : (s0_3).toInt = (2 : Int32).toInt := congrArg Int32.toInt hc
          have n69 : (2 : Int32).toInt = 2 := cqn_2
          unfold b_turn1_120
          refine ⟨fun hc => ?_, fun hc => ?_⟩
          · have hq70 := hc
            have b71 : B 0 8 (x1_2) := B_w (B_leL b4 cqb_8_8_8 hq70) (by decide +kernel) (by decide +kernel)
            unfold b_turn1_133
            exact hK (B_w cqb_3784_3784_3784 (by decide +kernel) (by decide +kernel))
          · have hq72 := (nle_lt hc)
            have b73 : B 9 16 (x1_2) := B_w (B_ltR cqb_8_8_8 b4 hq72) (by decide +kernel) (by decide +kernel)
            unfold b_turn1_133
            exact hK (B_w cqb_m3784_m3784_m3784 (by decide +kernel) (by decide +kernel))
      · have b74 : B 1 1 (s0_3) := B_w (B_eq hc cqb_1_1_1) (by decide +kernel) (by decide +kernel)
        have q75 : (1) ≤ (s0_3).toInt ∧ (s0_3).toInt ≤ (1) := (show B 1 1 (s0_3) from B_w b74 (by decide +kernel) (by decide +kernel))
        have i76 : (s0_3).toInt = (1 : Int32).toInt := congrArg Int32.toInt hc
        have n77 : (1 : Int32).toInt = 1 := cqn_1
        unfold b_turn1_120
        refine ⟨fun hc => ?_, fun hc => ?_⟩
        · have hq78 := hc
          have b79 : B 0 8 (x1_2) := B_w (B_leL b4 cqb_8_8_8 hq78) (by decide +kernel) (by decide +kernel)
          unfold b_turn1_133
          exact hK (B_w cqb_4017_4017_4017 (by decide +kernel) (by decide +kernel))
        · have hq80 := (nle_lt hc)
          have b81 : B 9 16 (x1_2) := B_w (B_ltR cqb_8_8_8 b4 hq80) (by decide +kernel) (by decide +kernel)
          unfold b_turn1_133
          exact hK (B_w cqb_m4017_m4017_m4017 (by decide +kernel) (by decide +kernel))
    · have b82 : B 0 0 (s0_3) := B_w (B_eq hc cqb_0_0_0) (by decide +kernel) (by decide +kernel)
      have q83 : (0) ≤ (s0_3).toInt ∧ (s0_3).toInt ≤ (0) := (show B 0 0 (s0_3) from B_w b82 (by decide +kernel) (by decide +kernel))
      have i84 : (s0_3).toInt = (0 : Int32).toInt := congrArg Int32.toInt hc
      have n85 : (0 : Int32).toInt = 0 := cqn_0
      unfold b_turn1_120
      refine ⟨fun hc => ?_, fun hc => ?_⟩
      · have hq86 := hc
        have b87 : B 0 8 (x1_2) := B_w (B_leL b4 cqb_8_8_8 hq86) (by decide +kernel) (by decide +kernel)
        unfold b_turn1_133
        exact hK (B_w cqb_4096_4096_4096 (by decide +kernel) (by decide +kernel))
      · have hq88 := (nle_lt hc)
        have b89 : B 9 16 (x1_2) := B_w (B_ltR cqb_8_8_8 b4 hq88) (by decide +kernel) (by decide +kernel)
        unfold b_turn1_133
        exact hK (B_w cqb_m4096_m4096_m4096 (by decide +kernel) (by decide +kernel))
  have hj90 : ∀ {s0_91 : Int32}, B 0 16 s0_91 → b_turn1_14 s0_91 K := by
    intro s0_91 b92
    unfold b_turn1_14
    refine ⟨fun hc => ?_, fun hc => ?_⟩
    · have hq93 := hc
      have b94 : B 0 8 (s0_91) := B_w (B_leL b92 cqb_8_8_8 hq93) (by decide +kernel) (by decide +kernel)
      exact hj1 (B_w b94 (by decide +kernel) (by decide +kernel)) b94
    · have hq95 := (nle_lt hc)
      have b96 : B 9 16 (s0_91) := B_w (B_ltR cqb_8_8_8 b92 hq95) (by decide +kernel) (by decide +kernel)
      exact hj1 (B_w b96 (by decide +kernel) (by decide +kernel)) (B_w (B_sub cqb_16_16_16 b96 (by decide +kernel) (by decide +kernel)) (by decide +kernel) (by decide +kernel))
  refine ⟨fun hc => ?_, fun hc => ?_⟩
  · have hq97 := hc
    have b98 : B 0 16 (x0) := B_w (B_leL b_x0 cqb_16_16_16 hq97) (by decide +kernel) (by decide +kernel)
    exact hj90 b98
  · have hq99 := (nle_lt hc)
    have b100 : B 17 31 (x0) := B_w (B_ltR cqb_16_16_16 b_x0 hq99) (by decide +kernel) (by decide +kernel)
    exact hj90 (B_w (B_sub cqb_32_32_32 b100 (by decide +kernel) (by decide +kernel)) (by decide +kernel) (by decide +kernel))
set_option maxRecDepth 20000 in
set_option maxHeartbeats 4000000 in
theorem h_thrown {S : ms} {K : Int32 → ms → Prop} (hI : IM S) (hK : ∀ {v : Int32}, B 0 3 v → K v S) : p_thrown S K := by
  unfold p_thrown
  exact hK (B_w (show B 0 3 (S.1 0) from bf_0 hI) (by decide +kernel) (by decide +kernel))
set_option maxRecDepth 20000 in
set_option maxHeartbeats 4000000 in
theorem h_canvas {x1 : Int32} {x2 : Int32} {x3 : Int32} {S : ms} {K : ms → Prop} (hI : IM S) (pre0 : ((S.1 3).toInt = 1) ∨ ((S.1 3).toInt = 3)) (hK : ∀ {Z : ms}, IM Z → ag [0, 1, 2, 3] [4] S Z → (((Z.1 3).toInt = 1) ∨ ((Z.1 3).toInt = 3)) → ((((Z.1 0).toInt = 0) ∧ (((1 ≤ x1.toInt) ∧ (x1.toInt ≤ 64)) ∧ (((1 ≤ x2.toInt) ∧ (x2.toInt ≤ 64)) ∧ ((x3.toInt = 1) ∨ (x3.toInt = 3))))) ∨ (((Z.1 0).toInt = 1) ∧ (((x1.toInt < 1) ∨ (64 < x1.toInt)) ∨ (((x2.toInt < 1) ∨ (64 < x2.toInt)) ∨ ((x3.toInt < 1) ∨ ((x3.toInt = 2) ∨ (3 < x3.toInt))))))) → K Z) : p_canvas x1 x2 x3 S K := by
  have q1 : (1) ≤ (S.1 3).toInt ∧ (S.1 3).toInt ≤ (3) := (show B 1 3 (S.1 3) from bf_3 hI)
  unfold p_canvas
  refine ⟨fun hc => ?_, fun hc => ?_⟩
  · have hq2 := hc
    have b3 : B (-2147483648) 0 (x1) := B_w (B_ltL (B_any _) cqb_1_1_1 hq2) (by decide +kernel) (by decide +kernel)
    unfold b_canvas_33
    unfold b_canvas_38
    refine ⟨fun hc => ?_, fun hc => ?_⟩
    · exact (B_dead_le cqb_1_1_1 cqb_0_0_0 hc (by decide +kernel)).elim
    · have hq4 := (nle_lt hc)
      have hI5 := IM_f (k := 0) (v := 1) hI cqb_1_1_1 (by decide +kernel) (by decide +kernel)
      have g6 := ag_f (k := 0) (v := 1) (ag_refl (fs := [0, 1, 2, 3]) (rs := [4]) (S := S)) (by decide +kernel)
      have q7 : (-2147483648) ≤ (x1).toInt ∧ (x1).toInt ≤ (0) := (show B (-2147483648) 0 (x1) from B_w b3 (by decide +kernel) (by decide +kernel))
      exact hK hI5 g6 (by show ((S.1 3).toInt = 1) ∨ ((S.1 3).toInt = 3); first | with_reducible assumption | omega) (by show ((1 = 0) ∧ (((1 ≤ x1.toInt) ∧ (x1.toInt ≤ 64)) ∧ (((1 ≤ x2.toInt) ∧ (x2.toInt ≤ 64)) ∧ ((x3.toInt = 1) ∨ (x3.toInt = 3))))) ∨ ((1 = 1) ∧ (((x1.toInt < 1) ∨ (64 < x1.toInt)) ∨ (((x2.toInt < 1) ∨ (64 < x2.toInt)) ∨ ((x3.toInt < 1) ∨ ((x3.toInt = 2) ∨ (3 < x3.toInt)))))); first | with_reducible assumption | omega)
  · have hq8 := (nlt_le hc)
    have b9 : B 1 2147483647 (x1) := B_w (B_leR cqb_1_1_1 (B_any _) hq8) (by decide +kernel) (by decide +kernel)
    refine ⟨fun hc => ?_, fun hc => ?_⟩
    · have hq10 := hc
      have b11 : B 65 2147483647 (x1) := B_w (B_ltR cqb_64_64_64 b9 hq10) (by decide +kernel) (by decide +kernel)
      unfold b_canvas_33
      unfold b_canvas_38
      refine ⟨fun hc => ?_, fun hc => ?_⟩
      · exact (B_dead_le cqb_1_1_1 cqb_0_0_0 hc (by decide +kernel)).elim
      · have hq12 := (nle_lt hc)
        have hI13 := IM_f (k := 0) (v := 1) hI cqb_1_1_1 (by decide +kernel) (by decide +kernel)
        have g14 := ag_f (k := 0) (v := 1) (ag_refl (fs := [0, 1, 2, 3]) (rs := [4]) (S := S)) (by decide +kernel)
        have q15 : (65) ≤ (x1).toInt ∧ (x1).toInt ≤ (2147483647) := (show B 65 2147483647 (x1) from B_w b11 (by decide +kernel) (by decide +kernel))
        exact hK hI13 g14 (by show ((S.1 3).toInt = 1) ∨ ((S.1 3).toInt = 3); first | with_reducible assumption | omega) (by show ((1 = 0) ∧ (((1 ≤ x1.toInt) ∧ (x1.toInt ≤ 64)) ∧ (((1 ≤ x2.toInt) ∧ (x2.toInt ≤ 64)) ∧ ((x3.toInt = 1) ∨ (x3.toInt = 3))))) ∨ ((1 = 1) ∧ (((x1.toInt < 1) ∨ (64 < x1.toInt)) ∨ (((x2.toInt < 1) ∨ (64 < x2.toInt)) ∨ ((x3.toInt < 1) ∨ ((x3.toInt = 2) ∨ (3 < x3.toInt)))))); first | with_reducible assumption | omega)
    · have hq16 := (nlt_le hc)
      have b17 : B 1 64 (x1) := B_w (B_leL b9 cqb_64_64_64 hq16) (by decide +kernel) (by decide +kernel)
      refine ⟨fun hc => ?_, fun hc => ?_⟩
      · have hq18 := hc
        have b19 : B (-2147483648) 0 (x2) := B_w (B_ltL (B_any _) cqb_1_1_1 hq18) (by decide +kernel) (by decide +kernel)
        unfold b_canvas_33
        unfold b_canvas_38
        refine ⟨fun hc => ?_, fun hc => ?_⟩
        · exact (B_dead_le cqb_1_1_1 cqb_0_0_0 hc (by decide +kernel)).elim
        · have hq20 := (nle_lt hc)
          have hI21 := IM_f (k := 0) (v := 1) hI cqb_1_1_1 (by decide +kernel) (by decide +kernel)
          have g22 := ag_f (k := 0) (v := 1) (ag_refl (fs := [0, 1, 2, 3]) (rs := [4]) (S := S)) (by decide +kernel)
          have q23 : (1) ≤ (x1).toInt ∧ (x1).toInt ≤ (64) := (show B 1 64 (x1) from B_w b17 (by decide +kernel) (by decide +kernel))
          have q24 : (-2147483648) ≤ (x2).toInt ∧ (x2).toInt ≤ (0) := (show B (-2147483648) 0 (x2) from B_w b19 (by decide +kernel) (by decide +kernel))
          exact hK hI21 g22 (by show ((S.1 3).toInt = 1) ∨ ((S.1 3).toInt = 3); first | with_reducible assumption | omega) (by show ((1 = 0) ∧ (((1 ≤ x1.toInt) ∧ (x1.toInt ≤ 64)) ∧ (((1 ≤ x2.toInt) ∧ (x2.toInt ≤ 64)) ∧ ((x3.toInt = 1) ∨ (x3.toInt = 3))))) ∨ ((1 = 1) ∧ (((x1.toInt < 1) ∨ (64 < x1.toInt)) ∨ (((x2.toInt < 1) ∨ (64 < x2.toInt)) ∨ ((x3.toInt < 1) ∨ ((x3.toInt = 2) ∨ (3 < x3.toInt)))))); first | with_reducible assumption | omega)
      · have hq25 := (nlt_le hc)
        have b26 : B 1 2147483647 (x2) := B_w (B_leR cqb_1_1_1 (B_any _) hq25) (by decide +kernel) (by decide +kernel)
        refine ⟨fun hc => ?_, fun hc => ?_⟩
        · have hq27 := hc
          have b28 : B 65 2147483647 (x2) := B_w (B_ltR cqb_64_64_64 b26 hq27) (by decide +kernel) (by decide +kernel)
          unfold b_canvas_33
          unfold b_canvas_38
          refine ⟨fun hc => ?_, fun hc => ?_⟩
          · exact (B_dead_le cqb_1_1_1 cqb_0_0_0 hc (by decide +kernel)).elim
          · have hq29 := (nle_lt hc)
            have hI30 := IM_f (k := 0) (v := 1) hI cqb_1_1_1 (by decide +kernel) (by decide +kernel)
            have g31 := ag_f (k := 0) (v := 1) (ag_refl (fs := [0, 1, 2, 3]) (rs := [4]) (S := S)) (by decide +kernel)
            have q32 : (1) ≤ (x1).toInt ∧ (x1).toInt ≤ (64) := (show B 1 64 (x1) from B_w b17 (by decide +kernel) (by decide +kernel))
            have q33 : (65) ≤ (x2).toInt ∧ (x2).toInt ≤ (2147483647) := (show B 65 2147483647 (x2) from B_w b28 (by decide +kernel) (by decide +kernel))
            exact hK hI30 g31 (by show ((S.1 3).toInt = 1) ∨ ((S.1 3).toInt = 3); first | with_reducible assumption | omega) (by show ((1 = 0) ∧ (((1 ≤ x1.toInt) ∧ (x1.toInt ≤ 64)) ∧ (((1 ≤ x2.toInt) ∧ (x2.toInt ≤ 64)) ∧ ((x3.toInt = 1) ∨ (x3.toInt = 3))))) ∨ ((1 = 1) ∧ (((x1.toInt < 1) ∨ (64 < x1.toInt)) ∨ (((x2.toInt < 1) ∨ (64 < x2.toInt)) ∨ ((x3.toInt < 1) ∨ ((x3.toInt = 2) ∨ (3 < x3.toInt)))))); first | with_reducible assumption | omega)
        · have hq34 := (nlt_le hc)
          have b35 : B 1 64 (x2) := B_w (B_leL b26 cqb_64_64_64 hq34) (by decide +kernel) (by decide +kernel)
          refine ⟨fun hc => ?_, fun hc => ?_⟩
          · have b36 : B 1 1 (x3) := B_w (B_eq hc cqb_1_1_1) (by decide +kernel) (by decide +kernel)
            have q37 : (1) ≤ (x3).toInt ∧ (x3).toInt ≤ (1) := (show B 1 1 (x3) from B_w b36 (by decide +kernel) (by decide +kernel))
            have i38 : (x3).toInt = (1 : Int32).toInt := congrArg Int32.toInt hc
            have n39 : (1 : Int32).toInt = 1 := cqn_1
            unfold b_canvas_37
            unfold b_canvas_38
            refine ⟨fun hc => ?_, fun hc => ?_⟩
            · have hq40 := hc
              have hI46 := IM_f (k := 0) (v := 0) hI cqb_0_0_0 (by decide +kernel) (by decide +kernel)
              have hI47 := IM_f (k := 1) (v := x1) hI46 b17 (by decide +kernel) (by decide +kernel)
              have hI48 := IM_f (k := 2) (v := x2) hI47 b35 (by decide +kernel) (by decide +kernel)
              have hI49 := IM_f (k := 3) (v := x3) hI48 b36 (by decide +kernel) (by decide +kernel)
              refine ⟨fun yx4 yS => B 0 12288 yx4 ∧ IM yS ∧ ag [] [4] (upd (upd (upd (upd S.1 0 0) 1 x1) 2 x2) 3 x3, S.2.1, S.2.2) yS, fun yx4 yS => (12288 - yx4.toInt).toNat, ⟨(B_w cqb_0_0_0 (by decide +kernel) (by decide +kernel)), hI49, (ag_refl (fs := []) (rs := [4]) (S := (upd (upd (upd (upd S.1 0 0) 1 x1) 2 x2) 3 x3, S.2.1, S.2.2)))⟩, fun x4_41 T42 hIv => ?_⟩
              obtain ⟨b43, hI44, g45⟩ := hIv
              suffices hs : ∀ (R67 : Int32 → ms → Prop), (∀ zx4 zS, (B 0 12288 zx4 ∧ IM zS ∧ ag [] [4] (upd (upd (upd (upd S.1 0 0) 1 x1) 2 x2) 3 x3, S.2.1, S.2.2) zS) → (12288 - zx4.toInt).toNat < (12288 - x4_41.toInt).toNat → R67 zx4 zS) → b_canvas_67 x4_41 T42 R67 K from hs _ (fun _ _ h1 h2 => ⟨h1, h2⟩)
              intro R67 hR670
              have hR67 := fun {zx4} {zS} => hR670 zx4 zS
              unfold b_canvas_67
              refine ⟨fun hc => ?_, fun hc => ?_⟩
              · have hq50 := hc
                have b51 : B 12288 12288 (x4_41) := B_w (B_leR cqb_12288_12288_12288 b43 hq50) (by decide +kernel) (by decide +kernel)
                have g56 := ag_f (k := 0) (v := 0) (ag_refl (fs := [0, 1, 2, 3]) (rs := [4]) (S := S)) (by decide +kernel)
                have g55 := ag_f (k := 1) (v := x1) g56 (by decide +kernel)
                have g54 := ag_f (k := 2) (v := x2) g55 (by decide +kernel)
                have g53 := ag_f (k := 3) (v := x3) g54 (by decide +kernel)
                have g52 := ag_tr g53 g45 (by decide +kernel) (by decide +kernel)
                have e57 : (T42.1 3).toInt = (x3).toInt := (congrArg Int32.toInt (g45.1 3 rfl)).trans rfl
                have e58 : (T42.1 0).toInt = 0 := (congrArg Int32.toInt (g45.1 0 rfl)).trans rfl
                have q59 : (1) ≤ (x1).toInt ∧ (x1).toInt ≤ (64) := (show B 1 64 (x1) from B_w b17 (by decide +kernel) (by decide +kernel))
                have q60 : (1) ≤ (x2).toInt ∧ (x2).toInt ≤ (64) := (show B 1 64 (x2) from B_w b35 (by decide +kernel) (by decide +kernel))
                exact hK hI44 g52 (by show ((T42.1 3).toInt = 1) ∨ ((T42.1 3).toInt = 3); first | with_reducible assumption | omega) (by show (((T42.1 0).toInt = 0) ∧ (((1 ≤ x1.toInt) ∧ (x1.toInt ≤ 64)) ∧ (((1 ≤ x2.toInt) ∧ (x2.toInt ≤ 64)) ∧ ((x3.toInt = 1) ∨ (x3.toInt = 3))))) ∨ (((T42.1 0).toInt = 1) ∧ (((x1.toInt < 1) ∨ (64 < x1.toInt)) ∨ (((x2.toInt < 1) ∨ (64 < x2.toInt)) ∨ ((x3.toInt < 1) ∨ ((x3.toInt = 2) ∨ (3 < x3.toInt)))))); first | with_reducible assumption | omega)
              · have hq61 := (nle_lt hc)
                have b62 : B 0 12287 (x4_41) := B_w (B_ltL b43 cqb_12288_12288_12288 hq61) (by decide +kernel) (by decide +kernel)
                refine ⟨vp_B b62 (by decide +kernel) (by decide +kernel), ?_⟩
                have hI63 := IM_r (r := 4) (i := x4_41.toNatClampNeg) (v := 0) hI44 cqb_0_0_0 (by decide +kernel) (by decide +kernel)
                have g65 := ag_tr (ag_refl (fs := []) (rs := [4]) (S := (upd (upd (upd (upd S.1 0 0) 1 x1) 2 x2) 3 x3, S.2.1, S.2.2))) g45 (by decide +kernel) (by decide +kernel)
                have g64 := ag_r (r := 4) (w := upd (T42.2.1 4) x4_41.toNatClampNeg 0) g65 (by decide +kernel)
                have q66 : (0) ≤ (x4_41).toInt ∧ (x4_41).toInt ≤ (12287) := (show B 0 12287 (x4_41) from B_w b62 (by decide +kernel) (by decide +kernel))
                have e67 : (x4_41 + 1).toInt = ((x4_41).toInt + 1) := (t_add b62 cqb_1_1_1 (by decide +kernel) (by decide +kernel)).trans (by rw [cqn_1])
                have q68 : (1) ≤ (x4_41 + 1).toInt ∧ (x4_41 + 1).toInt ≤ (12288) := (show B 1 12288 (x4_41 + 1) from B_w (B_add b62 cqb_1_1_1 (by decide +kernel) (by decide +kernel)) (by decide +kernel) (by decide +kernel))
                exact hR67 ⟨(B_w (B_add b62 cqb_1_1_1 (by decide +kernel) (by decide +kernel)) (by decide +kernel) (by decide +kernel)), hI63, g64⟩ (by show (12288 - (x4_41 + 1).toInt).toNat < (12288 - x4_41.toInt).toNat; omega)
            · exact (B_dead_lt cqb_0_0_0 cqb_0_0_0 (nle_lt hc) (by decide +kernel)).elim
          · have i69 : (x3).toInt ≠ (1 : Int32).toInt := i_ne hc
            have n70 : (1 : Int32).toInt = 1 := cqn_1
            refine ⟨fun hc => ?_, fun hc => ?_⟩
            · have b71 : B 3 3 (x3) := B_w (B_eq hc cqb_3_3_3) (by decide +kernel) (by decide +kernel)
              have q72 : (3) ≤ (x3).toInt ∧ (x3).toInt ≤ (3) := (show B 3 3 (x3) from B_w b71 (by decide +kernel) (by decide +kernel))
              have i73 : (x3).toInt = (3 : Int32).toInt := congrArg Int32.toInt hc
              have n74 : (3 : Int32).toInt = 3 := cqn_3
              unfold b_canvas_37
              unfold b_canvas_38
              refine ⟨fun hc => ?_, fun hc => ?_⟩
              · have hq75 := hc
                have hI81 := IM_f (k := 0) (v := 0) hI cqb_0_0_0 (by decide +kernel) (by decide +kernel)
                have hI82 := IM_f (k := 1) (v := x1) hI81 b17 (by decide +kernel) (by decide +kernel)
                have hI83 := IM_f (k := 2) (v := x2) hI82 b35 (by decide +kernel) (by decide +kernel)
                have hI84 := IM_f (k := 3) (v := x3) hI83 b71 (by decide +kernel) (by decide +kernel)
                refine ⟨fun yx4 yS => B 0 12288 yx4 ∧ IM yS ∧ ag [] [4] (upd (upd (upd (upd S.1 0 0) 1 x1) 2 x2) 3 x3, S.2.1, S.2.2) yS, fun yx4 yS => (12288 - yx4.toInt).toNat, ⟨(B_w cqb_0_0_0 (by decide +kernel) (by decide +kernel)), hI84, (ag_refl (fs := []) (rs := [4]) (S := (upd (upd (upd (upd S.1 0 0) 1 x1) 2 x2) 3 x3, S.2.1, S.2.2)))⟩, fun x4_76 T77 hIv => ?_⟩
                obtain ⟨b78, hI79, g80⟩ := hIv
                suffices hs : ∀ (R67 : Int32 → ms → Prop), (∀ zx4 zS, (B 0 12288 zx4 ∧ IM zS ∧ ag [] [4] (upd (upd (upd (upd S.1 0 0) 1 x1) 2 x2) 3 x3, S.2.1, S.2.2) zS) → (12288 - zx4.toInt).toNat < (12288 - x4_76.toInt).toNat → R67 zx4 zS) → b_canvas_67 x4_76 T77 R67 K from hs _ (fun _ _ h1 h2 => ⟨h1, h2⟩)
                intro R67 hR670
                have hR67 := fun {zx4} {zS} => hR670 zx4 zS
                unfold b_canvas_67
                refine ⟨fun hc => ?_, fun hc => ?_⟩
                · have hq85 := hc
                  have b86 : B 12288 12288 (x4_76) := B_w (B_leR cqb_12288_12288_12288 b78 hq85) (by decide +kernel) (by decide +kernel)
                  have g91 := ag_f (k := 0) (v := 0) (ag_refl (fs := [0, 1, 2, 3]) (rs := [4]) (S := S)) (by decide +kernel)
                  have g90 := ag_f (k := 1) (v := x1) g91 (by decide +kernel)
                  have g89 := ag_f (k := 2) (v := x2) g90 (by decide +kernel)
                  have g88 := ag_f (k := 3) (v := x3) g89 (by decide +kernel)
                  have g87 := ag_tr g88 g80 (by decide +kernel) (by decide +kernel)
                  have e92 : (T77.1 3).toInt = (x3).toInt := (congrArg Int32.toInt (g80.1 3 rfl)).trans rfl
                  have e93 : (T77.1 0).toInt = 0 := (congrArg Int32.toInt (g80.1 0 rfl)).trans rfl
                  have q94 : (1) ≤ (x1).toInt ∧ (x1).toInt ≤ (64) := (show B 1 64 (x1) from B_w b17 (by decide +kernel) (by decide +kernel))
                  have q95 : (1) ≤ (x2).toInt ∧ (x2).toInt ≤ (64) := (show B 1 64 (x2) from B_w b35 (by decide +kernel) (by decide +kernel))
                  exact hK hI79 g87 (by show ((T77.1 3).toInt = 1) ∨ ((T77.1 3).toInt = 3); first | with_reducible assumption | omega) (by show (((T77.1 0).toInt = 0) ∧ (((1 ≤ x1.toInt) ∧ (x1.toInt ≤ 64)) ∧ (((1 ≤ x2.toInt) ∧ (x2.toInt ≤ 64)) ∧ ((x3.toInt = 1) ∨ (x3.toInt = 3))))) ∨ (((T77.1 0).toInt = 1) ∧ (((x1.toInt < 1) ∨ (64 < x1.toInt)) ∨ (((x2.toInt < 1) ∨ (64 < x2.toInt)) ∨ ((x3.toInt < 1) ∨ ((x3.toInt = 2) ∨ (3 < x3.toInt)))))); first | with_reducible assumption | omega)
                · have hq96 := (nle_lt hc)
                  have b97 : B 0 12287 (x4_76) := B_w (B_ltL b78 cqb_12288_12288_12288 hq96) (by decide +kernel) (by decide +kernel)
                  refine ⟨vp_B b97 (by decide +kernel) (by decide +kernel), ?_⟩
                  have hI98 := IM_r (r := 4) (i := x4_76.toNatClampNeg) (v := 0) hI79 cqb_0_0_0 (by decide +kernel) (by decide +kernel)
                  have g100 := ag_tr (ag_refl (fs := []) (rs := [4]) (S := (upd (upd (upd (upd S.1 0 0) 1 x1) 2 x2) 3 x3, S.2.1, S.2.2))) g80 (by decide +kernel) (by decide +kernel)
                  have g99 := ag_r (r := 4) (w := upd (T77.2.1 4) x4_76.toNatClampNeg 0) g100 (by decide +kernel)
                  have q101 : (0) ≤ (x4_76).toInt ∧ (x4_76).toInt ≤ (12287) := (show B 0 12287 (x4_76) from B_w b97 (by decide +kernel) (by decide +kernel))
                  have e102 : (x4_76 + 1).toInt = ((x4_76).toInt + 1) := (t_add b97 cqb_1_1_1 (by decide +kernel) (by decide +kernel)).trans (by rw [cqn_1])
                  have q103 : (1) ≤ (x4_76 + 1).toInt ∧ (x4_76 + 1).toInt ≤ (12288) := (show B 1 12288 (x4_76 + 1) from B_w (B_add b97 cqb_1_1_1 (by decide +kernel) (by decide +kernel)) (by decide +kernel) (by decide +kernel))
                  exact hR67 ⟨(B_w (B_add b97 cqb_1_1_1 (by decide +kernel) (by decide +kernel)) (by decide +kernel) (by decide +kernel)), hI98, g99⟩ (by show (12288 - (x4_76 + 1).toInt).toNat < (12288 - x4_76.toInt).toNat; omega)
              · exact (B_dead_lt cqb_0_0_0 cqb_0_0_0 (nle_lt hc) (by decide +kernel)).elim
            · have i104 : (x3).toInt ≠ (3 : Int32).toInt := i_ne hc
              have n105 : (3 : Int32).toInt = 3 := cqn_3
              unfold b_canvas_33
              unfold b_canvas_38
              refine ⟨fun hc => ?_, fun hc => ?_⟩
              · exact (B_dead_le cqb_1_1_1 cqb_0_0_0 hc (by decide +kernel)).elim
              · have hq106 := (nle_lt hc)
                have hI107 := IM_f (k := 0) (v := 1) hI cqb_1_1_1 (by decide +kernel) (by decide +kernel)
                have g108 := ag_f (k := 0) (v := 1) (ag_refl (fs := [0, 1, 2, 3]) (rs := [4]) (S := S)) (by decide +kernel)
                have q109 : (1) ≤ (x1).toInt ∧ (x1).toInt ≤ (64) := (show B 1 64 (x1) from B_w b17 (by decide +kernel) (by decide +kernel))
                have q110 : (1) ≤ (x2).toInt ∧ (x2).toInt ≤ (64) := (show B 1 64 (x2) from B_w b35 (by decide +kernel) (by decide +kernel))
                exact hK hI107 g108 (by show ((S.1 3).toInt = 1) ∨ ((S.1 3).toInt = 3); first | with_reducible assumption | omega) (by show ((1 = 0) ∧ (((1 ≤ x1.toInt) ∧ (x1.toInt ≤ 64)) ∧ (((1 ≤ x2.toInt) ∧ (x2.toInt ≤ 64)) ∧ ((x3.toInt = 1) ∨ (x3.toInt = 3))))) ∨ ((1 = 1) ∧ (((x1.toInt < 1) ∨ (64 < x1.toInt)) ∨ (((x2.toInt < 1) ∨ (64 < x2.toInt)) ∨ ((x3.toInt < 1) ∨ ((x3.toInt = 2) ∨ (3 < x3.toInt)))))); first | with_reducible assumption | omega)
set_option maxRecDepth 20000 in
set_option maxHeartbeats 4000000 in
theorem h_isOut {x1 : Int32} {x2 : Int32} {x3 : Int32} {x4 : Int32} {S : ms} {K : Int32 → ms → Prop} (hI : IM S) (hK : ∀ {v : Int32} {Z : ms}, B 0 1 v → IM Z → ag [0] [] S Z → ((v.toInt = 0) → ((0 ≤ x1.toInt) ∧ ((0 ≤ x2.toInt) ∧ ((1 ≤ x3.toInt) ∧ ((1 ≤ x4.toInt) ∧ (((x1.toInt + x3.toInt) ≤ (S.1 1).toInt) ∧ ((x2.toInt + x4.toInt) ≤ (S.1 2).toInt))))))) → K v Z) : p_isOut x1 x2 x3 x4 S K := by
  unfold p_isOut
  have hj1 : b_isOut_57 S K := by
    unfold b_isOut_57
    unfold b_isOut_62
    refine ⟨fun hc => ?_, fun hc => ?_⟩
    · exact (B_dead_le cqb_1_1_1 cqb_0_0_0 hc (by decide +kernel)).elim
    · have hq2 := (nle_lt hc)
      unfold b_isOut_77
      refine ⟨B_nar cqb_1_1_1 (by decide +kernel) (by decide +kernel), ?_⟩
      have hI3 := IM_f (k := 0) (v := 1) hI cqb_1_1_1 (by decide +kernel) (by decide +kernel)
      have g4 := ag_f (k := 0) (v := 1) (ag_refl (fs := [0]) (rs := []) (S := S)) (by decide +kernel)
      have q5 : (1) ≤ (S.1 1).toInt ∧ (S.1 1).toInt ≤ (64) := (show B 1 64 (S.1 1) from bf_1 hI)
      have q6 : (1) ≤ (S.1 2).toInt ∧ (S.1 2).toInt ≤ (64) := (show B 1 64 (S.1 2) from bf_2 hI)
      exact hK (B_w cqb_1_1_1 (by decide +kernel) (by decide +kernel)) hI3 g4 (by show (1 = 0) → ((0 ≤ x1.toInt) ∧ ((0 ≤ x2.toInt) ∧ ((1 ≤ x3.toInt) ∧ ((1 ≤ x4.toInt) ∧ (((x1.toInt + x3.toInt) ≤ (S.1 1).toInt) ∧ ((x2.toInt + x4.toInt) ≤ (S.1 2).toInt)))))); first | with_reducible assumption | exact (fun _ => by with_reducible assumption) | omega)
  refine ⟨fun hc => ?_, fun hc => ?_⟩
  · have hq7 := hc
    have b8 : B (-2147483648) (-1) (x1) := B_w (B_ltL (B_any _) cqb_0_0_0 hq7) (by decide +kernel) (by decide +kernel)
    exact hj1 
  · have hq9 := (nlt_le hc)
    have b10 : B 0 2147483647 (x1) := B_w (B_leR cqb_0_0_0 (B_any _) hq9) (by decide +kernel) (by decide +kernel)
    refine ⟨fun hc => ?_, fun hc => ?_⟩
    · have hq11 := hc
      have b12 : B (-2147483648) (-1) (x2) := B_w (B_ltL (B_any _) cqb_0_0_0 hq11) (by decide +kernel) (by decide +kernel)
      exact hj1 
    · have hq13 := (nlt_le hc)
      have b14 : B 0 2147483647 (x2) := B_w (B_leR cqb_0_0_0 (B_any _) hq13) (by decide +kernel) (by decide +kernel)
      refine ⟨fun hc => ?_, fun hc => ?_⟩
      · have hq15 := hc
        have b16 : B (-2147483648) 0 (x3) := B_w (B_ltL (B_any _) cqb_1_1_1 hq15) (by decide +kernel) (by decide +kernel)
        exact hj1 
      · have hq17 := (nlt_le hc)
        have b18 : B 1 2147483647 (x3) := B_w (B_leR cqb_1_1_1 (B_any _) hq17) (by decide +kernel) (by decide +kernel)
        refine ⟨fun hc => ?_, fun hc => ?_⟩
        · have hq19 := hc
          have b20 : B (-2147483648) 0 (x4) := B_w (B_ltL (B_any _) cqb_1_1_1 hq19) (by decide +kernel) (by decide +kernel)
          exact hj1 
        · have hq21 := (nlt_le hc)
          have b22 : B 1 2147483647 (x4) := B_w (B_leR cqb_1_1_1 (B_any _) hq21) (by decide +kernel) (by decide +kernel)
          refine ⟨fun hc => ?_, fun hc => ?_⟩
          · have hq23 := hc
            have b24 : B 1 2147483647 (x1) := B_w (B_leR (show B 1 64 (S.1 1) from bf_1 hI) b10 hq23) (by decide +kernel) (by decide +kernel)
            have q25 : (1) ≤ (S.1 1).toInt ∧ (S.1 1).toInt ≤ (64) := (show B 1 64 (S.1 1) from bf_1 hI)
            have q26 : (1) ≤ (x1).toInt ∧ (x1).toInt ≤ (2147483647) := (show B 1 2147483647 (x1) from B_w b24 (by decide +kernel) (by decide +kernel))
            have i27 : (S.1 1).toInt ≤ (x1).toInt := i_le hq23
            exact hj1 
          · have hq28 := (nle_lt hc)
            have b29 : B 0 63 (x1) := B_w (B_ltL b10 (show B 1 64 (S.1 1) from bf_1 hI) hq28) (by decide +kernel) (by decide +kernel)
            have q30 : (0) ≤ (x1).toInt ∧ (x1).toInt ≤ (63) := (show B 0 63 (x1) from B_w b29 (by decide +kernel) (by decide +kernel))
            have q31 : (1) ≤ (S.1 1).toInt ∧ (S.1 1).toInt ≤ (64) := (show B 1 64 (S.1 1) from bf_1 hI)
            have i32 : (x1).toInt < (S.1 1).toInt := i_lt hq28
            refine ⟨fun hc => ?_, fun hc => ?_⟩
            · have hq33 := hc
              have b34 : B 1 2147483647 (x2) := B_w (B_leR (show B 1 64 (S.1 2) from bf_2 hI) b14 hq33) (by decide +kernel) (by decide +kernel)
              have q35 : (1) ≤ (S.1 2).toInt ∧ (S.1 2).toInt ≤ (64) := (show B 1 64 (S.1 2) from bf_2 hI)
              have q36 : (1) ≤ (x2).toInt ∧ (x2).toInt ≤ (2147483647) := (show B 1 2147483647 (x2) from B_w b34 (by decide +kernel) (by decide +kernel))
              have i37 : (S.1 2).toInt ≤ (x2).toInt := i_le hq33
              exact hj1 
            · have hq38 := (nle_lt hc)
              have b39 : B 0 63 (x2) := B_w (B_ltL b14 (show B 1 64 (S.1 2) from bf_2 hI) hq38) (by decide +kernel) (by decide +kernel)
              have q40 : (0) ≤ (x2).toInt ∧ (x2).toInt ≤ (63) := (show B 0 63 (x2) from B_w b39 (by decide +kernel) (by decide +kernel))
              have q41 : (1) ≤ (S.1 2).toInt ∧ (S.1 2).toInt ≤ (64) := (show B 1 64 (S.1 2) from bf_2 hI)
              have i42 : (x2).toInt < (S.1 2).toInt := i_lt hq38
              refine ⟨fun hc => ?_, fun hc => ?_⟩
              · have hq43 := hc
                have e44 : ((S.1 1) - x1).toInt = ((S.1 1).toInt - (x1).toInt) := (t_sub (show B 1 64 (S.1 1) from bf_1 hI) b29 (by decide +kernel) (by decide +kernel)).trans (by rfl)
                have q45 : (-62) ≤ ((S.1 1) - x1).toInt ∧ ((S.1 1) - x1).toInt ≤ (64) := (show B (-62) 64 ((S.1 1) - x1) from B_w (B_sub (show B 1 64 (S.1 1) from bf_1 hI) b29 (by decide +kernel) (by decide +kernel)) (by decide +kernel) (by decide +kernel))
                have q46 : (1) ≤ (x3).toInt ∧ (x3).toInt ≤ (2147483647) := (show B 1 2147483647 (x3) from B_w b18 (by decide +kernel) (by decide +kernel))
                have i47 : ((S.1 1) - x1).toInt < (x3).toInt := i_lt hq43
                exact hj1 
              · have hq48 := (nlt_le hc)
                have b49 : B 1 64 (x3) := B_w (B_leL b18 (B_sub (show B 1 64 (S.1 1) from bf_1 hI) b29 (by decide +kernel) (by decide +kernel)) hq48) (by decide +kernel) (by decide +kernel)
                have b50 : B 1 64 ((S.1 1) - x1) := B_w (B_leR b18 (B_sub (show B 1 64 (S.1 1) from bf_1 hI) b29 (by decide +kernel) (by decide +kernel)) hq48) (by decide +kernel) (by decide +kernel)
                have q51 : (1) ≤ (x3).toInt ∧ (x3).toInt ≤ (64) := (show B 1 64 (x3) from B_w b49 (by decide +kernel) (by decide +kernel))
                have e52 : ((S.1 1) - x1).toInt = ((S.1 1).toInt - (x1).toInt) := (t_sub (show B 1 64 (S.1 1) from bf_1 hI) b29 (by decide +kernel) (by decide +kernel)).trans (by rfl)
                have q53 : (1) ≤ ((S.1 1) - x1).toInt ∧ ((S.1 1) - x1).toInt ≤ (64) := (show B 1 64 ((S.1 1) - x1) from B_w b50 (by decide +kernel) (by decide +kernel))
                have i54 : (x3).toInt ≤ ((S.1 1) - x1).toInt := i_le hq48
                refine ⟨fun hc => ?_, fun hc => ?_⟩
                · have hq55 := hc
                  have b56 : B 1 64 (x4) := B_w (B_leL b22 (B_sub (show B 1 64 (S.1 2) from bf_2 hI) b39 (by decide +kernel) (by decide +kernel)) hq55) (by decide +kernel) (by decide +kernel)
                  have b57 : B 1 64 ((S.1 2) - x2) := B_w (B_leR b22 (B_sub (show B 1 64 (S.1 2) from bf_2 hI) b39 (by decide +kernel) (by decide +kernel)) hq55) (by decide +kernel) (by decide +kernel)
                  have q58 : (1) ≤ (x4).toInt ∧ (x4).toInt ≤ (64) := (show B 1 64 (x4) from B_w b56 (by decide +kernel) (by decide +kernel))
                  have e59 : ((S.1 2) - x2).toInt = ((S.1 2).toInt - (x2).toInt) := (t_sub (show B 1 64 (S.1 2) from bf_2 hI) b39 (by decide +kernel) (by decide +kernel)).trans (by rfl)
                  have q60 : (1) ≤ ((S.1 2) - x2).toInt ∧ ((S.1 2) - x2).toInt ≤ (64) := (show B 1 64 ((S.1 2) - x2) from B_w b57 (by decide +kernel) (by decide +kernel))
                  have i61 : (x4).toInt ≤ ((S.1 2) - x2).toInt := i_le hq55
                  unfold b_isOut_62
                  refine ⟨fun hc => ?_, fun hc => ?_⟩
                  · have hq62 := hc
                    unfold b_isOut_77
                    refine ⟨B_nar cqb_0_0_0 (by decide +kernel) (by decide +kernel), ?_⟩
                    have hI63 := IM_f (k := 0) (v := 0) hI cqb_0_0_0 (by decide +kernel) (by decide +kernel)
                    have g64 := ag_f (k := 0) (v := 0) (ag_refl (fs := [0]) (rs := []) (S := S)) (by decide +kernel)
                    exact hK (B_w cqb_0_0_0 (by decide +kernel) (by decide +kernel)) hI63 g64 (by show (0 = 0) → ((0 ≤ x1.toInt) ∧ ((0 ≤ x2.toInt) ∧ ((1 ≤ x3.toInt) ∧ ((1 ≤ x4.toInt) ∧ (((x1.toInt + x3.toInt) ≤ (S.1 1).toInt) ∧ ((x2.toInt + x4.toInt) ≤ (S.1 2).toInt)))))); first | with_reducible assumption | exact (fun _ => by with_reducible assumption) | omega)
                  · exact (B_dead_lt cqb_0_0_0 cqb_0_0_0 (nle_lt hc) (by decide +kernel)).elim
                · have hq65 := (nle_lt hc)
                  have e66 : ((S.1 2) - x2).toInt = ((S.1 2).toInt - (x2).toInt) := (t_sub (show B 1 64 (S.1 2) from bf_2 hI) b39 (by decide +kernel) (by decide +kernel)).trans (by rfl)
                  have q67 : (-62) ≤ ((S.1 2) - x2).toInt ∧ ((S.1 2) - x2).toInt ≤ (64) := (show B (-62) 64 ((S.1 2) - x2) from B_w (B_sub (show B 1 64 (S.1 2) from bf_2 hI) b39 (by decide +kernel) (by decide +kernel)) (by decide +kernel) (by decide +kernel))
                  have q68 : (1) ≤ (x4).toInt ∧ (x4).toInt ≤ (2147483647) := (show B 1 2147483647 (x4) from B_w b22 (by decide +kernel) (by decide +kernel))
                  have i69 : ((S.1 2) - x2).toInt < (x4).toInt := i_lt hq65
                  exact hj1 
set_option maxRecDepth 20000 in
set_option maxHeartbeats 4000000 in
theorem h_byteOf {x1 : Int32} {x2 : Int32} {S : ms} {K : Int32 → ms → Prop} (b_x2 : B 0 2 x2) (hI : IM S) (hK : ∀ {v : Int32}, B 0 255 v → K v S) : p_byteOf x1 x2 S K := by
  unfold p_byteOf
  refine ⟨fun hc => ?_, fun hc => ?_⟩
  · have q1 : (1) ≤ (S.1 3).toInt ∧ (S.1 3).toInt ≤ (3) := (show B 1 3 (S.1 3) from bf_3 hI)
    have i2 : (S.1 3).toInt ≠ (1 : Int32).toInt := i_ne hc
    have n3 : (1 : Int32).toInt = 1 := cqn_1
    unfold b_byteOf_29
    exact hK (B_w (show B 0 255 ((x1 >>> ((16 - (8 * x2)) &&& 31 : Int32) : Int32) &&& 255) from B_and (k := 8) (by decide +kernel) (by decide +kernel)) (by decide +kernel) (by decide +kernel))
  · have b4 : B 1 1 (S.1 3) := B_w (B_eq hc cqb_1_1_1) (by decide +kernel) (by decide +kernel)
    have q5 : (1) ≤ (S.1 3).toInt ∧ (S.1 3).toInt ≤ (1) := (show B 1 1 (S.1 3) from B_w b4 (by decide +kernel) (by decide +kernel))
    have i6 : (S.1 3).toInt = (1 : Int32).toInt := congrArg Int32.toInt hc
    have n7 : (1 : Int32).toInt = 1 := cqn_1
    unfold b_byteOf_29
    exact hK (B_w (show B 0 255 (x1 &&& 255) from B_and (k := 8) (by decide +kernel) (by decide +kernel)) (by decide +kernel) (by decide +kernel))
set_option maxRecDepth 20000 in
set_option maxHeartbeats 4000000 in
theorem h_slope {x1 : Int32} {x2 : Int32} {x3 : Int32} {x4 : Int32} {x5 : Int32} {x6 : Int32} {S : ms} {K : ms → Prop} (hI : IM S) (hK : ∀ {Z : ms}, IM Z → ag [0] [4] S Z → K Z) : p_slope x1 x2 x3 x4 x5 x6 S K := by
  unfold p_slope
  refine h_isOut hI (fun {v6_1} {S6_2} b3 hI4 g5 r6 => ?_)
  have r7 : (v6_1.toInt = 0) → ((0 ≤ x1.toInt) ∧ ((0 ≤ x2.toInt) ∧ ((1 ≤ x3.toInt) ∧ ((1 ≤ x4.toInt) ∧ (((x1.toInt + x3.toInt) ≤ (S.1 1).toInt) ∧ ((x2.toInt + x4.toInt) ≤ (S.1 2).toInt)))))) := r6
  clear r6
  have q8 : (0) ≤ (v6_1).toInt ∧ (v6_1).toInt ≤ (1) := (show B 0 1 (v6_1) from B_w b3 (by decide +kernel) (by decide +kernel))
  have q9 : (1) ≤ (S.1 1).toInt ∧ (S.1 1).toInt ≤ (64) := (show B 1 64 (S.1 1) from bf_1 hI)
  have q10 : (1) ≤ (S.1 2).toInt ∧ (S.1 2).toInt ≤ (64) := (show B 1 64 (S.1 2) from bf_2 hI)
  refine ⟨fun hc => ?_, fun hc => ?_⟩
  · have b11 : B 0 0 (v6_1) := B_w (B_eq hc cqb_0_0_0) (by decide +kernel) (by decide +kernel)
    have q12 : (0) ≤ (v6_1).toInt ∧ (v6_1).toInt ≤ (0) := (show B 0 0 (v6_1) from B_w b11 (by decide +kernel) (by decide +kernel))
    have i13 : (v6_1).toInt = (0 : Int32).toInt := congrArg Int32.toInt hc
    have n14 : (0 : Int32).toInt = 0 := cqn_0
    have b15 : B 0 63 (x1) := ⟨by omega, by omega⟩
    have b16 : B 0 63 (x2) := ⟨by omega, by omega⟩
    have b17 : B 1 64 (x3) := ⟨by omega, by omega⟩
    have b18 : B 1 64 (x4) := ⟨by omega, by omega⟩
    refine ⟨fun yx1 yx2 yx3 yx4 yx5 yx6 yx7 yS => x1 = yx1 ∧ x2 = yx2 ∧ x3 = yx3 ∧ x4 = yx4 ∧ x5 = yx5 ∧ x6 = yx6 ∧ B 0 64 yx7 ∧ IM yS ∧ ag [] [4] S6_2 yS, fun yx1 yx2 yx3 yx4 yx5 yx6 yx7 yS => (64 - yx7.toInt).toNat, ⟨rfl, rfl, rfl, rfl, rfl, rfl, (B_w cqb_0_0_0 (by decide +kernel) (by decide +kernel)), hI4, (ag_refl (fs := []) (rs := [4]) (S := S6_2))⟩, fun x1_19 x2_20 x3_21 x4_22 x5_23 x6_24 x7_25 T26 hIv => ?_⟩
    obtain ⟨rfl, rfl, rfl, rfl, rfl, rfl, b27, hI28, g29⟩ := hIv
    suffices hs : ∀ (R16 : Int32 → Int32 → Int32 → Int32 → Int32 → Int32 → Int32 → ms → Prop), (∀ zx1 zx2 zx3 zx4 zx5 zx6 zx7 zS, (x1 = zx1 ∧ x2 = zx2 ∧ x3 = zx3 ∧ x4 = zx4 ∧ x5 = zx5 ∧ x6 = zx6 ∧ B 0 64 zx7 ∧ IM zS ∧ ag [] [4] S6_2 zS) → (64 - zx7.toInt).toNat < (64 - x7_25.toInt).toNat → R16 zx1 zx2 zx3 zx4 zx5 zx6 zx7 zS) → b_slope_16 x1 x2 x3 x4 x5 x6 x7_25 T26 R16 K from hs _ (fun _ _ _ _ _ _ _ _ h1 h2 => ⟨h1, h2⟩)
    intro R16 hR160
    have hR16 := fun {zx1} {zx2} {zx3} {zx4} {zx5} {zx6} {zx7} {zS} => hR160 zx1 zx2 zx3 zx4 zx5 zx6 zx7 zS
    unfold b_slope_16
    refine ⟨fun hc => ?_, fun hc => ?_⟩
    · have hq30 := hc
      have b31 : B 1 64 (x7_25) := B_w (B_leR b18 b27 hq30) (by decide +kernel) (by decide +kernel)
      have q32 : (1) ≤ (x7_25).toInt ∧ (x7_25).toInt ≤ (64) := (show B 1 64 (x7_25) from B_w b31 (by decide +kernel) (by decide +kernel))
      have i33 : (x4).toInt ≤ (x7_25).toInt := i_le hq30
      have g35 := ag_tr (ag_refl (fs := [0]) (rs := [4]) (S := S)) g5 (by decide +kernel) (by decide +kernel)
      have g34 := ag_tr g35 g29 (by decide +kernel) (by decide +kernel)
      exact hK hI28 g34
    · have hq36 := (nle_lt hc)
      have b37 : B 0 63 (x7_25) := B_w (B_ltL b27 b18 hq36) (by decide +kernel) (by decide +kernel)
      have q38 : (0) ≤ (x7_25).toInt ∧ (x7_25).toInt ≤ (63) := (show B 0 63 (x7_25) from B_w b37 (by decide +kernel) (by decide +kernel))
      have i39 : (x7_25).toInt < (x4).toInt := i_lt hq36
      refine ⟨fun yx1 yx2 yx3 yx4 yx5 yx6 yx7 yx8 yS => x1 = yx1 ∧ x2 = yx2 ∧ x3 = yx3 ∧ x4 = yx4 ∧ x5 = yx5 ∧ x6 = yx6 ∧ x7_25 = yx7 ∧ B 0 64 yx8 ∧ IM yS ∧ ag [] [4] T26 yS, fun yx1 yx2 yx3 yx4 yx5 yx6 yx7 yx8 yS => (64 - yx8.toInt).toNat, ⟨rfl, rfl, rfl, rfl, rfl, rfl, rfl, (B_w cqb_0_0_0 (by decide +kernel) (by decide +kernel)), hI28, (ag_refl (fs := []) (rs := [4]) (S := T26))⟩, fun x1_40 x2_41 x3_42 x4_43 x5_44 x6_45 x7_46 x8_47 T48 hIv => ?_⟩
      obtain ⟨rfl, rfl, rfl, rfl, rfl, rfl, rfl, b49, hI50, g51⟩ := hIv
      suffices hs : ∀ (R26 : Int32 → Int32 → Int32 → Int32 → Int32 → Int32 → Int32 → Int32 → ms → Prop), (∀ zx1 zx2 zx3 zx4 zx5 zx6 zx7 zx8 zS, (x1 = zx1 ∧ x2 = zx2 ∧ x3 = zx3 ∧ x4 = zx4 ∧ x5 = zx5 ∧ x6 = zx6 ∧ x7_25 = zx7 ∧ B 0 64 zx8 ∧ IM zS ∧ ag [] [4] T26 zS) → (64 - zx8.toInt).toNat < (64 - x8_47.toInt).toNat → R26 zx1 zx2 zx3 zx4 zx5 zx6 zx7 zx8 zS) → b_slope_26 x1 x2 x3 x4 x5 x6 x7_25 x8_47 T48 R16 R26 K from hs _ (fun _ _ _ _ _ _ _ _ _ h1 h2 => ⟨h1, h2⟩)
      intro R26 hR260
      have hR26 := fun {zx1} {zx2} {zx3} {zx4} {zx5} {zx6} {zx7} {zx8} {zS} => hR260 zx1 zx2 zx3 zx4 zx5 zx6 zx7 zx8 zS
      unfold b_slope_26
      refine ⟨fun hc => ?_, fun hc => ?_⟩
      · have hq52 := hc
        have b53 : B 1 64 (x8_47) := B_w (B_leR b17 b49 hq52) (by decide +kernel) (by decide +kernel)
        have q54 : (1) ≤ (x8_47).toInt ∧ (x8_47).toInt ≤ (64) := (show B 1 64 (x8_47) from B_w b53 (by decide +kernel) (by decide +kernel))
        have i55 : (x3).toInt ≤ (x8_47).toInt := i_le hq52
        have g57 := ag_tr (ag_refl (fs := []) (rs := [4]) (S := S6_2)) g29 (by decide +kernel) (by decide +kernel)
        have g56 := ag_tr g57 g51 (by decide +kernel) (by decide +kernel)
        have e58 : (x7_25 + 1).toInt = ((x7_25).toInt + 1) := (t_add b37 cqb_1_1_1 (by decide +kernel) (by decide +kernel)).trans (by rw [cqn_1])
        have q59 : (1) ≤ (x7_25 + 1).toInt ∧ (x7_25 + 1).toInt ≤ (64) := (show B 1 64 (x7_25 + 1) from B_w (B_add b37 cqb_1_1_1 (by decide +kernel) (by decide +kernel)) (by decide +kernel) (by decide +kernel))
        exact hR16 ⟨rfl, rfl, rfl, rfl, rfl, rfl, (B_w (B_add b37 cqb_1_1_1 (by decide +kernel) (by decide +kernel)) (by decide +kernel) (by decide +kernel)), hI50, g56⟩ (by show (64 - (x7_25 + 1).toInt).toNat < (64 - x7_25.toInt).toNat; omega)
      · have hq60 := (nle_lt hc)
        have b61 : B 0 63 (x8_47) := B_w (B_ltL b49 b17 hq60) (by decide +kernel) (by decide +kernel)
        have q62 : (0) ≤ (x8_47).toInt ∧ (x8_47).toInt ≤ (63) := (show B 0 63 (x8_47) from B_w b61 (by decide +kernel) (by decide +kernel))
        have i63 : (x8_47).toInt < (x3).toInt := i_lt hq60
        refine ⟨fun yx1 yx2 yx3 yx4 yx5 yx6 yx7 yx8 yx9 yS => x1 = yx1 ∧ x2 = yx2 ∧ x3 = yx3 ∧ x4 = yx4 ∧ x5 = yx5 ∧ x6 = yx6 ∧ x7_25 = yx7 ∧ x8_47 = yx8 ∧ B 0 3 yx9 ∧ IM yS ∧ ag [] [4] T48 yS, fun yx1 yx2 yx3 yx4 yx5 yx6 yx7 yx8 yx9 yS => (3 - yx9.toInt).toNat, ⟨rfl, rfl, rfl, rfl, rfl, rfl, rfl, rfl, (B_w cqb_0_0_0 (by decide +kernel) (by decide +kernel)), hI50, (ag_refl (fs := []) (rs := [4]) (S := T48))⟩, fun x1_64 x2_65 x3_66 x4_67 x5_68 x6_69 x7_70 x8_71 x9_72 T73 hIv => ?_⟩
        obtain ⟨rfl, rfl, rfl, rfl, rfl, rfl, rfl, rfl, b74, hI75, g76⟩ := hIv
        suffices hs : ∀ (R35 : Int32 → Int32 → Int32 → Int32 → Int32 → Int32 → Int32 → Int32 → Int32 → ms → Prop), (∀ zx1 zx2 zx3 zx4 zx5 zx6 zx7 zx8 zx9 zS, (x1 = zx1 ∧ x2 = zx2 ∧ x3 = zx3 ∧ x4 = zx4 ∧ x5 = zx5 ∧ x6 = zx6 ∧ x7_25 = zx7 ∧ x8_47 = zx8 ∧ B 0 3 zx9 ∧ IM zS ∧ ag [] [4] T48 zS) → (3 - zx9.toInt).toNat < (3 - x9_72.toInt).toNat → R35 zx1 zx2 zx3 zx4 zx5 zx6 zx7 zx8 zx9 zS) → b_slope_35 x1 x2 x3 x4 x5 x6 x7_25 x8_47 x9_72 T73 R16 R26 R35 K from hs _ (fun _ _ _ _ _ _ _ _ _ _ h1 h2 => ⟨h1, h2⟩)
        intro R35 hR350
        have hR35 := fun {zx1} {zx2} {zx3} {zx4} {zx5} {zx6} {zx7} {zx8} {zx9} {zS} => hR350 zx1 zx2 zx3 zx4 zx5 zx6 zx7 zx8 zx9 zS
        unfold b_slope_35
        refine ⟨fun hc => ?_, fun hc => ?_⟩
        · have hq77 := hc
          have b78 : B 1 3 (x9_72) := B_w (B_leR (B_eq ((((g76.1 3 rfl).trans (g51.1 3 rfl)).trans (g29.1 3 rfl)).trans (g5.1 3 rfl)) (show B 1 3 (S.1 3) from bf_3 hI)) b74 hq77) (by decide +kernel) (by decide +kernel)
          have q79 : (1) ≤ (S.1 3).toInt ∧ (S.1 3).toInt ≤ (3) := (show B 1 3 (S.1 3) from bf_3 hI)
          have e80 : (T73.1 3).toInt = (S.1 3).toInt := (congrArg Int32.toInt ((((g76.1 3 rfl).trans (g51.1 3 rfl)).trans (g29.1 3 rfl)).trans (g5.1 3 rfl))).trans rfl
          have q81 : (1) ≤ (x9_72).toInt ∧ (x9_72).toInt ≤ (3) := (show B 1 3 (x9_72) from B_w b78 (by decide +kernel) (by decide +kernel))
          have i82 : (T73.1 3).toInt ≤ (x9_72).toInt := i_le hq77
          have g84 := ag_tr (ag_refl (fs := []) (rs := [4]) (S := T26)) g51 (by decide +kernel) (by decide +kernel)
          have g83 := ag_tr g84 g76 (by decide +kernel) (by decide +kernel)
          have e85 : (x8_47 + 1).toInt = ((x8_47).toInt + 1) := (t_add b61 cqb_1_1_1 (by decide +kernel) (by decide +kernel)).trans (by rw [cqn_1])
          have q86 : (1) ≤ (x8_47 + 1).toInt ∧ (x8_47 + 1).toInt ≤ (64) := (show B 1 64 (x8_47 + 1) from B_w (B_add b61 cqb_1_1_1 (by decide +kernel) (by decide +kernel)) (by decide +kernel) (by decide +kernel))
          exact hR26 ⟨rfl, rfl, rfl, rfl, rfl, rfl, rfl, (B_w (B_add b61 cqb_1_1_1 (by decide +kernel) (by decide +kernel)) (by decide +kernel) (by decide +kernel)), hI75, g83⟩ (by show (64 - (x8_47 + 1).toInt).toNat < (64 - x8_47.toInt).toNat; omega)
        · have hq87 := (nle_lt hc)
          have b88 : B 0 2 (x9_72) := B_w (B_ltL b74 (B_eq ((((g76.1 3 rfl).trans (g51.1 3 rfl)).trans (g29.1 3 rfl)).trans (g5.1 3 rfl)) (show B 1 3 (S.1 3) from bf_3 hI)) hq87) (by decide +kernel) (by decide +kernel)
          have q89 : (0) ≤ (x9_72).toInt ∧ (x9_72).toInt ≤ (2) := (show B 0 2 (x9_72) from B_w b88 (by decide +kernel) (by decide +kernel))
          have q90 : (1) ≤ (S.1 3).toInt ∧ (S.1 3).toInt ≤ (3) := (show B 1 3 (S.1 3) from bf_3 hI)
          have e91 : (T73.1 3).toInt = (S.1 3).toInt := (congrArg Int32.toInt ((((g76.1 3 rfl).trans (g51.1 3 rfl)).trans (g29.1 3 rfl)).trans (g5.1 3 rfl))).trans rfl
          have i92 : (x9_72).toInt < (T73.1 3).toInt := i_lt hq87
          refine h_byteOf b88 hI75 (fun {v49_93} b95 => ?_)
          try unfold p_cell
          refine h_byteOf b88 hI75 (fun {v78_96} b98 => ?_)
          refine ⟨B_nz b17 (by decide +kernel), ?_⟩
          have e99 : (x2 + x7_25).toInt = ((x2).toInt + (x7_25).toInt) := (t_add b16 b37 (by decide +kernel) (by decide +kernel)).trans (by rfl)
          have q100 : (0) ≤ (x2 + x7_25).toInt ∧ (x2 + x7_25).toInt ≤ (126) := (show B 0 126 (x2 + x7_25) from B_w (B_add b16 b37 (by decide +kernel) (by decide +kernel)) (by decide +kernel) (by decide +kernel))
          have e101 : (64 * (x2 + x7_25)).toInt = (64 * ((x2).toInt + (x7_25).toInt)) := (t_mul cqb_64_64_64 (B_add b16 b37 (by decide +kernel) (by decide +kernel)) (by decide +kernel) (by decide +kernel) (by decide +kernel)).trans (by rw [cqn_64, e99])
          have q102 : (0) ≤ (64 * (x2 + x7_25)).toInt ∧ (64 * (x2 + x7_25)).toInt ≤ (8064) := (show B 0 8064 (64 * (x2 + x7_25)) from B_w (B_mul cqb_64_64_64 (B_add b16 b37 (by decide +kernel) (by decide +kernel)) (by decide +kernel) (by decide +kernel) (by decide +kernel)) (by decide +kernel) (by decide +kernel))
          have e103 : (x1 + x8_47).toInt = ((x1).toInt + (x8_47).toInt) := (t_add b15 b61 (by decide +kernel) (by decide +kernel)).trans (by rfl)
          have q104 : (0) ≤ (x1 + x8_47).toInt ∧ (x1 + x8_47).toInt ≤ (126) := (show B 0 126 (x1 + x8_47) from B_w (B_add b15 b61 (by decide +kernel) (by decide +kernel)) (by decide +kernel) (by decide +kernel))
          have e105 : ((64 * (x2 + x7_25)) + (x1 + x8_47)).toInt = ((64 * ((x2).toInt + (x7_25).toInt)) + ((x1).toInt + (x8_47).toInt)) := (t_add (B_mul cqb_64_64_64 (B_add b16 b37 (by decide +kernel) (by decide +kernel)) (by decide +kernel) (by decide +kernel) (by decide +kernel)) (B_add b15 b61 (by decide +kernel) (by decide +kernel)) (by decide +kernel) (by decide +kernel)).trans (by rw [e101, e103])
          have q106 : (0) ≤ ((64 * (x2 + x7_25)) + (x1 + x8_47)).toInt ∧ ((64 * (x2 + x7_25)) + (x1 + x8_47)).toInt ≤ (8190) := (show B 0 8190 ((64 * (x2 + x7_25)) + (x1 + x8_47)) from B_w (B_add (B_mul cqb_64_64_64 (B_add b16 b37 (by decide +kernel) (by decide +kernel)) (by decide +kernel) (by decide +kernel) (by decide +kernel)) (B_add b15 b61 (by decide +kernel) (by decide +kernel)) (by decide +kernel) (by decide +kernel)) (by decide +kernel) (by decide +kernel))
          have e107 : (3 * ((64 * (x2 + x7_25)) + (x1 + x8_47))).toInt = (3 * ((64 * ((x2).toInt + (x7_25).toInt)) + ((x1).toInt + (x8_47).toInt))) := (t_mul cqb_3_3_3 (B_add (B_mul cqb_64_64_64 (B_add b16 b37 (by decide +kernel) (by decide +kernel)) (by decide +kernel) (by decide +kernel) (by decide +kernel)) (B_add b15 b61 (by decide +kernel) (by decide +kernel)) (by decide +kernel) (by decide +kernel)) (by decide +kernel) (by decide +kernel) (by decide +kernel)).trans (by rw [cqn_3, e105])
          have q108 : (0) ≤ (3 * ((64 * (x2 + x7_25)) + (x1 + x8_47))).toInt ∧ (3 * ((64 * (x2 + x7_25)) + (x1 + x8_47))).toInt ≤ (24570) := (show B 0 24570 (3 * ((64 * (x2 + x7_25)) + (x1 + x8_47))) from B_w (B_mul cqb_3_3_3 (B_add (B_mul cqb_64_64_64 (B_add b16 b37 (by decide +kernel) (by decide +kernel)) (by decide +kernel) (by decide +kernel) (by decide +kernel)) (B_add b15 b61 (by decide +kernel) (by decide +kernel)) (by decide +kernel) (by decide +kernel)) (by decide +kernel) (by decide +kernel) (by decide +kernel)) (by decide +kernel) (by decide +kernel))
          have e109 : ((3 * ((64 * (x2 + x7_25)) + (x1 + x8_47))) + x9_72).toInt = ((3 * ((64 * ((x2).toInt + (x7_25).toInt)) + ((x1).toInt + (x8_47).toInt))) + (x9_72).toInt) := (t_add (B_mul cqb_3_3_3 (B_add (B_mul cqb_64_64_64 (B_add b16 b37 (by decide +kernel) (by decide +kernel)) (by decide +kernel) (by decide +kernel) (by decide +kernel)) (B_add b15 b61 (by decide +kernel) (by decide +kernel)) (by decide +kernel) (by decide +kernel)) (by decide +kernel) (by decide +kernel) (by decide +kernel)) b88 (by decide +kernel) (by decide +kernel)).trans (by rw [e107])
          have q110 : (0) ≤ ((3 * ((64 * (x2 + x7_25)) + (x1 + x8_47))) + x9_72).toInt ∧ ((3 * ((64 * (x2 + x7_25)) + (x1 + x8_47))) + x9_72).toInt ≤ (24572) := (show B 0 24572 ((3 * ((64 * (x2 + x7_25)) + (x1 + x8_47))) + x9_72) from B_w (B_add (B_mul cqb_3_3_3 (B_add (B_mul cqb_64_64_64 (B_add b16 b37 (by decide +kernel) (by decide +kernel)) (by decide +kernel) (by decide +kernel) (by decide +kernel)) (B_add b15 b61 (by decide +kernel) (by decide +kernel)) (by decide +kernel) (by decide +kernel)) (by decide +kernel) (by decide +kernel) (by decide +kernel)) b88 (by decide +kernel) (by decide +kernel)) (by decide +kernel) (by decide +kernel))
          refine ⟨vp_om (x := (3 * ((64 * (x2 + x7_25)) + (x1 + x8_47))) + x9_72) (by omega) (by omega), ?_⟩
          have b111 : B 0 12287 ((3 * ((64 * (x2 + x7_25)) + (x1 + x8_47))) + x9_72) := ⟨by omega, by omega⟩
          have hI112 := IM_r (r := 4) (i := ((3 * ((64 * (x2 + x7_25)) + (x1 + x8_47))) + x9_72).toNatClampNeg) (v := v49_93 + (((v78_96 - v49_93) * x8_47) / x3)) hI75 (sl_B b95 b98 (by omega) (by omega) (by omega)) (by decide +kernel) (by decide +kernel)
          have g114 := ag_tr (ag_refl (fs := []) (rs := [4]) (S := T48)) g76 (by decide +kernel) (by decide +kernel)
          have g113 := ag_r (r := 4) (w := upd (T73.2.1 4) ((3 * ((64 * (x2 + x7_25)) + (x1 + x8_47))) + x9_72).toNatClampNeg (v49_93 + (((v78_96 - v49_93) * x8_47) / x3))) g114 (by decide +kernel)
          have e115 : (x9_72 + 1).toInt = ((x9_72).toInt + 1) := (t_add b88 cqb_1_1_1 (by decide +kernel) (by decide +kernel)).trans (by rw [cqn_1])
          have q116 : (1) ≤ (x9_72 + 1).toInt ∧ (x9_72 + 1).toInt ≤ (3) := (show B 1 3 (x9_72 + 1) from B_w (B_add b88 cqb_1_1_1 (by decide +kernel) (by decide +kernel)) (by decide +kernel) (by decide +kernel))
          exact hR35 ⟨rfl, rfl, rfl, rfl, rfl, rfl, rfl, rfl, (B_w (B_add b88 cqb_1_1_1 (by decide +kernel) (by decide +kernel)) (by decide +kernel) (by decide +kernel)), hI112, g113⟩ (by show (3 - (x9_72 + 1).toInt).toNat < (3 - x9_72.toInt).toNat; omega)
  · have b117 : B 1 1 (v6_1) := B_w (B_n0 b3 hc) (by decide +kernel) (by decide +kernel)
    have q118 : (1) ≤ (v6_1).toInt ∧ (v6_1).toInt ≤ (1) := (show B 1 1 (v6_1) from B_w b117 (by decide +kernel) (by decide +kernel))
    have g119 := ag_tr (ag_refl (fs := [0]) (rs := [4]) (S := S)) g5 (by decide +kernel) (by decide +kernel)
    exact hK hI4 g119
set_option maxRecDepth 20000 in
set_option maxHeartbeats 4000000 in
theorem h_fill {x1 : Int32} {x2 : Int32} {x3 : Int32} {x4 : Int32} {x5 : Int32} {S : ms} {K : ms → Prop} (hI : IM S) (hK : ∀ {Z : ms}, IM Z → ag [0] [4] S Z → K Z) : p_fill x1 x2 x3 x4 x5 S K := by
  unfold p_fill
  refine h_slope hI (fun {S10_1} hI2 g3 => ?_)
  have g4 := ag_tr (ag_refl (fs := [0]) (rs := [4]) (S := S)) g3 (by decide +kernel) (by decide +kernel)
  exact hK hI2 g4
set_option maxRecDepth 20000 in
set_option maxHeartbeats 4000000 in
theorem h_at {x1 : Int32} {x2 : Int32} {x3 : Int32} {S : ms} {K : Int32 → ms → Prop} (hI : IM S) (hK : ∀ {v : Int32} {Z : ms}, B 0 255 v → IM Z → ag [0] [] S Z → K v Z) : p_at x1 x2 x3 S K := by
  unfold p_at
  have hj1 : b_at_37 x1 x2 x3 S K := by
    unfold b_at_37
    unfold b_at_42
    refine ⟨fun hc => ?_, fun hc => ?_⟩
    · exact (B_dead_le cqb_1_1_1 cqb_0_0_0 hc (by decide +kernel)).elim
    · have hq2 := (nle_lt hc)
      unfold b_at_67
      have hI3 := IM_f (k := 0) (v := 1) hI cqb_1_1_1 (by decide +kernel) (by decide +kernel)
      have g4 := ag_f (k := 0) (v := 1) (ag_refl (fs := [0]) (rs := []) (S := S)) (by decide +kernel)
      exact hK (B_w cqb_0_0_0 (by decide +kernel) (by decide +kernel)) hI3 g4
  refine ⟨fun hc => ?_, fun hc => ?_⟩
  · have hq5 := hc
    have b6 : B (-2147483648) (-1) (x1) := B_w (B_ltL (B_any _) cqb_0_0_0 hq5) (by decide +kernel) (by decide +kernel)
    exact hj1 
  · have hq7 := (nlt_le hc)
    have b8 : B 0 2147483647 (x1) := B_w (B_leR cqb_0_0_0 (B_any _) hq7) (by decide +kernel) (by decide +kernel)
    refine ⟨fun hc => ?_, fun hc => ?_⟩
    · have hq9 := hc
      have b10 : B 1 2147483647 (x1) := B_w (B_leR (show B 1 64 (S.1 1) from bf_1 hI) b8 hq9) (by decide +kernel) (by decide +kernel)
      have q11 : (1) ≤ (S.1 1).toInt ∧ (S.1 1).toInt ≤ (64) := (show B 1 64 (S.1 1) from bf_1 hI)
      have q12 : (1) ≤ (x1).toInt ∧ (x1).toInt ≤ (2147483647) := (show B 1 2147483647 (x1) from B_w b10 (by decide +kernel) (by decide +kernel))
      have i13 : (S.1 1).toInt ≤ (x1).toInt := i_le hq9
      exact hj1 
    · have hq14 := (nle_lt hc)
      have b15 : B 0 63 (x1) := B_w (B_ltL b8 (show B 1 64 (S.1 1) from bf_1 hI) hq14) (by decide +kernel) (by decide +kernel)
      have q16 : (0) ≤ (x1).toInt ∧ (x1).toInt ≤ (63) := (show B 0 63 (x1) from B_w b15 (by decide +kernel) (by decide +kernel))
      have q17 : (1) ≤ (S.1 1).toInt ∧ (S.1 1).toInt ≤ (64) := (show B 1 64 (S.1 1) from bf_1 hI)
      have i18 : (x1).toInt < (S.1 1).toInt := i_lt hq14
      refine ⟨fun hc => ?_, fun hc => ?_⟩
      · have hq19 := hc
        have b20 : B (-2147483648) (-1) (x2) := B_w (B_ltL (B_any _) cqb_0_0_0 hq19) (by decide +kernel) (by decide +kernel)
        exact hj1 
      · have hq21 := (nlt_le hc)
        have b22 : B 0 2147483647 (x2) := B_w (B_leR cqb_0_0_0 (B_any _) hq21) (by decide +kernel) (by decide +kernel)
        refine ⟨fun hc => ?_, fun hc => ?_⟩
        · have hq23 := hc
          have b24 : B 1 2147483647 (x2) := B_w (B_leR (show B 1 64 (S.1 2) from bf_2 hI) b22 hq23) (by decide +kernel) (by decide +kernel)
          have q25 : (1) ≤ (S.1 2).toInt ∧ (S.1 2).toInt ≤ (64) := (show B 1 64 (S.1 2) from bf_2 hI)
          have q26 : (1) ≤ (x2).toInt ∧ (x2).toInt ≤ (2147483647) := (show B 1 2147483647 (x2) from B_w b24 (by decide +kernel) (by decide +kernel))
          have i27 : (S.1 2).toInt ≤ (x2).toInt := i_le hq23
          exact hj1 
        · have hq28 := (nle_lt hc)
          have b29 : B 0 63 (x2) := B_w (B_ltL b22 (show B 1 64 (S.1 2) from bf_2 hI) hq28) (by decide +kernel) (by decide +kernel)
          have q30 : (0) ≤ (x2).toInt ∧ (x2).toInt ≤ (63) := (show B 0 63 (x2) from B_w b29 (by decide +kernel) (by decide +kernel))
          have q31 : (1) ≤ (S.1 2).toInt ∧ (S.1 2).toInt ≤ (64) := (show B 1 64 (S.1 2) from bf_2 hI)
          have i32 : (x2).toInt < (S.1 2).toInt := i_lt hq28
          refine ⟨fun hc => ?_, fun hc => ?_⟩
          · have hq33 := hc
            have b34 : B (-2147483648) (-1) (x3) := B_w (B_ltL (B_any _) cqb_0_0_0 hq33) (by decide +kernel) (by decide +kernel)
            exact hj1 
          · have hq35 := (nlt_le hc)
            have b36 : B 0 2147483647 (x3) := B_w (B_leR cqb_0_0_0 (B_any _) hq35) (by decide +kernel) (by decide +kernel)
            refine ⟨fun hc => ?_, fun hc => ?_⟩
            · have hq37 := hc
              have b38 : B 0 2 (x3) := B_w (B_ltL b36 (show B 1 3 (S.1 3) from bf_3 hI) hq37) (by decide +kernel) (by decide +kernel)
              have q39 : (0) ≤ (x3).toInt ∧ (x3).toInt ≤ (2) := (show B 0 2 (x3) from B_w b38 (by decide +kernel) (by decide +kernel))
              have q40 : (1) ≤ (S.1 3).toInt ∧ (S.1 3).toInt ≤ (3) := (show B 1 3 (S.1 3) from bf_3 hI)
              have i41 : (x3).toInt < (S.1 3).toInt := i_lt hq37
              unfold b_at_42
              refine ⟨fun hc => ?_, fun hc => ?_⟩
              · have hq42 := hc
                try unfold p_cell
                refine ⟨vp_B (B_add (B_mul cqb_3_3_3 (B_add (B_mul cqb_64_64_64 b29 (by decide +kernel) (by decide +kernel) (by decide +kernel)) b15 (by decide +kernel) (by decide +kernel)) (by decide +kernel) (by decide +kernel) (by decide +kernel)) b38 (by decide +kernel) (by decide +kernel)) (by decide +kernel) (by decide +kernel), ?_⟩
                unfold b_at_67
                have hI43 := IM_f (k := 0) (v := 0) hI cqb_0_0_0 (by decide +kernel) (by decide +kernel)
                have g44 := ag_f (k := 0) (v := 0) (ag_refl (fs := [0]) (rs := []) (S := S)) (by decide +kernel)
                exact hK (B_w (show B 0 255 (S.2.1 4 ((3 * ((64 * x2) + x1)) + x3).toNatClampNeg) from br_4 hI _) (by decide +kernel) (by decide +kernel)) hI43 g44
              · exact (B_dead_lt cqb_0_0_0 cqb_0_0_0 (nle_lt hc) (by decide +kernel)).elim
            · have hq45 := (nlt_le hc)
              have b46 : B 1 2147483647 (x3) := B_w (B_leR (show B 1 3 (S.1 3) from bf_3 hI) b36 hq45) (by decide +kernel) (by decide +kernel)
              have q47 : (1) ≤ (S.1 3).toInt ∧ (S.1 3).toInt ≤ (3) := (show B 1 3 (S.1 3) from bf_3 hI)
              have q48 : (1) ≤ (x3).toInt ∧ (x3).toInt ≤ (2147483647) := (show B 1 2147483647 (x3) from B_w b46 (by decide +kernel) (by decide +kernel))
              have i49 : (S.1 3).toInt ≤ (x3).toInt := i_le hq45
              exact hj1 
set_option maxRecDepth 20000 in
set_option maxHeartbeats 4000000 in
theorem h_scale {x1 : Int32} {x2 : Int32} {x3 : Int32} {S : ms} {K : ms → Prop} (hI : IM S) (hK : ∀ {Z : ms}, IM Z → ag [0] [5] S Z → ((((Z.1 0).toInt = 0) ∧ (((0 ≤ x1.toInt) ∧ (x1.toInt ≤ 1)) ∧ ((((-1000) ≤ x2.toInt) ∧ (x2.toInt ≤ 1000)) ∧ (((-1000) ≤ x3.toInt) ∧ (x3.toInt ≤ 1000))))) ∨ (((Z.1 0).toInt = 1) ∧ (((x1.toInt < 0) ∨ (1 < x1.toInt)) ∨ (((x2.toInt < (-1000)) ∨ (1000 < x2.toInt)) ∨ ((x3.toInt < (-1000)) ∨ (1000 < x3.toInt)))))) → K Z) : p_scale x1 x2 x3 S K := by
  unfold p_scale
  refine ⟨fun hc => ?_, fun hc => ?_⟩
  · have b1 : B 0 0 (x1) := B_w (B_eq hc cqb_0_0_0) (by decide +kernel) (by decide +kernel)
    have q2 : (0) ≤ (x1).toInt ∧ (x1).toInt ≤ (0) := (show B 0 0 (x1) from B_w b1 (by decide +kernel) (by decide +kernel))
    have i3 : (x1).toInt = (0 : Int32).toInt := congrArg Int32.toInt hc
    have n4 : (0 : Int32).toInt = 0 := cqn_0
    unfold b_scale_10
    refine ⟨fun hc => ?_, fun hc => ?_⟩
    · have hq5 := hc
      have b6 : B (-2147483648) (-1001) (x2) := B_w (B_ltL (B_any _) cqb_m1000_m1000_m1000 hq5) (by decide +kernel) (by decide +kernel)
      have q7 : (-2147483648) ≤ (x2).toInt ∧ (x2).toInt ≤ (-1001) := (show B (-2147483648) (-1001) (x2) from B_w b6 (by decide +kernel) (by decide +kernel))
      have i8 : (x2).toInt < (-1000 : Int32).toInt := i_lt hq5
      have n9 : (-1000 : Int32).toInt = -1000 := cqn_m1000
      unfold b_scale_38
      unfold b_scale_43
      have hI18 := IM_f (k := 0) (v := 1) hI cqb_1_1_1 (by decide +kernel) (by decide +kernel)
      refine ⟨fun yx1 yx2 yx3 yx4 yS => x1 = yx1 ∧ x2 = yx2 ∧ x3 = yx3 ∧ B 0 64 yx4 ∧ IM yS ∧ ag [] [5] (upd S.1 0 1, S.2.1, S.2.2) yS, fun yx1 yx2 yx3 yx4 yS => (64 - yx4.toInt).toNat, ⟨rfl, rfl, rfl, (B_w cqb_0_0_0 (by decide +kernel) (by decide +kernel)), hI18, (ag_refl (fs := []) (rs := [5]) (S := (upd S.1 0 1, S.2.1, S.2.2)))⟩, fun x1_10 x2_11 x3_12 x4_13 T14 hIv => ?_⟩
      obtain ⟨rfl, rfl, rfl, b15, hI16, g17⟩ := hIv
      suffices hs : ∀ (R49 : Int32 → Int32 → Int32 → Int32 → ms → Prop), (∀ zx1 zx2 zx3 zx4 zS, (x1 = zx1 ∧ x2 = zx2 ∧ x3 = zx3 ∧ B 0 64 zx4 ∧ IM zS ∧ ag [] [5] (upd S.1 0 1, S.2.1, S.2.2) zS) → (64 - zx4.toInt).toNat < (64 - x4_13.toInt).toNat → R49 zx1 zx2 zx3 zx4 zS) → b_scale_49 x1 x2 x3 x4_13 T14 R49 K from hs _ (fun _ _ _ _ _ h1 h2 => ⟨h1, h2⟩)
      intro R49 hR490
      have hR49 := fun {zx1} {zx2} {zx3} {zx4} {zS} => hR490 zx1 zx2 zx3 zx4 zS
      unfold b_scale_49
      refine ⟨fun hc => ?_, fun hc => ?_⟩
      · have hq19 := hc
        have b20 : B 64 64 (x4_13) := B_w (B_leR cqb_64_64_64 b15 hq19) (by decide +kernel) (by decide +kernel)
        unfold b_scale_124
        have g22 := ag_f (k := 0) (v := 1) (ag_refl (fs := [0]) (rs := [5]) (S := S)) (by decide +kernel)
        have g21 := ag_tr g22 g17 (by decide +kernel) (by decide +kernel)
        have e23 : (T14.1 0).toInt = 1 := (congrArg Int32.toInt (g17.1 0 rfl)).trans rfl
        exact hK hI16 g21 (by show (((T14.1 0).toInt = 0) ∧ (((0 ≤ x1.toInt) ∧ (x1.toInt ≤ 1)) ∧ ((((-1000) ≤ x2.toInt) ∧ (x2.toInt ≤ 1000)) ∧ (((-1000) ≤ x3.toInt) ∧ (x3.toInt ≤ 1000))))) ∨ (((T14.1 0).toInt = 1) ∧ (((x1.toInt < 0) ∨ (1 < x1.toInt)) ∨ (((x2.toInt < (-1000)) ∨ (1000 < x2.toInt)) ∨ ((x3.toInt < (-1000)) ∨ (1000 < x3.toInt))))); first | with_reducible assumption | omega)
      · have hq24 := (nle_lt hc)
        have b25 : B 0 63 (x4_13) := B_w (B_ltL b15 cqb_64_64_64 hq24) (by decide +kernel) (by decide +kernel)
        refine ⟨fun hc => ?_, fun hc => ?_⟩
        · have e26 : (T14.1 0).toInt = 1 := (congrArg Int32.toInt (g17.1 0 rfl)).trans rfl
          have i27 : (T14.1 0).toInt ≠ (0 : Int32).toInt := i_ne hc
          have n28 : (0 : Int32).toInt = 0 := cqn_0
          unfold b_scale_124
          have g30 := ag_f (k := 0) (v := 1) (ag_refl (fs := [0]) (rs := [5]) (S := S)) (by decide +kernel)
          have g29 := ag_tr g30 g17 (by decide +kernel) (by decide +kernel)
          exact hK hI16 g29 (by show (((T14.1 0).toInt = 0) ∧ (((0 ≤ x1.toInt) ∧ (x1.toInt ≤ 1)) ∧ ((((-1000) ≤ x2.toInt) ∧ (x2.toInt ≤ 1000)) ∧ (((-1000) ≤ x3.toInt) ∧ (x3.toInt ≤ 1000))))) ∨ (((T14.1 0).toInt = 1) ∧ (((x1.toInt < 0) ∨ (1 < x1.toInt)) ∨ (((x2.toInt < (-1000)) ∨ (1000 < x2.toInt)) ∨ ((x3.toInt < (-1000)) ∨ (1000 < x3.toInt))))); first | with_reducible assumption | omega)
        · exact (B_dis (B_eq (g17.1 0 rfl) cqb_1_1_1) cqb_0_0_0 hc (by decide +kernel)).elim
    · have hq31 := (nlt_le hc)
      have b32 : B (-1000) 2147483647 (x2) := B_w (B_leR cqb_m1000_m1000_m1000 (B_any _) hq31) (by decide +kernel) (by decide +kernel)
      have q33 : (-1000) ≤ (x2).toInt ∧ (x2).toInt ≤ (2147483647) := (show B (-1000) 2147483647 (x2) from B_w b32 (by decide +kernel) (by decide +kernel))
      have i34 : (-1000 : Int32).toInt ≤ (x2).toInt := i_le hq31
      have n35 : (-1000 : Int32).toInt = -1000 := cqn_m1000
      refine ⟨fun hc => ?_, fun hc => ?_⟩
      · have hq36 := hc
        have b37 : B 1001 2147483647 (x2) := B_w (B_ltR cqb_1000_1000_1000 b32 hq36) (by decide +kernel) (by decide +kernel)
        have q38 : (1001) ≤ (x2).toInt ∧ (x2).toInt ≤ (2147483647) := (show B 1001 2147483647 (x2) from B_w b37 (by decide +kernel) (by decide +kernel))
        unfold b_scale_38
        unfold b_scale_43
        have hI47 := IM_f (k := 0) (v := 1) hI cqb_1_1_1 (by decide +kernel) (by decide +kernel)
        refine ⟨fun yx1 yx2 yx3 yx4 yS => x1 = yx1 ∧ x2 = yx2 ∧ x3 = yx3 ∧ B 0 64 yx4 ∧ IM yS ∧ ag [] [5] (upd S.1 0 1, S.2.1, S.2.2) yS, fun yx1 yx2 yx3 yx4 yS => (64 - yx4.toInt).toNat, ⟨rfl, rfl, rfl, (B_w cqb_0_0_0 (by decide +kernel) (by decide +kernel)), hI47, (ag_refl (fs := []) (rs := [5]) (S := (upd S.1 0 1, S.2.1, S.2.2)))⟩, fun x1_39 x2_40 x3_41 x4_42 T43 hIv => ?_⟩
        obtain ⟨rfl, rfl, rfl, b44, hI45, g46⟩ := hIv
        suffices hs : ∀ (R49 : Int32 → Int32 → Int32 → Int32 → ms → Prop), (∀ zx1 zx2 zx3 zx4 zS, (x1 = zx1 ∧ x2 = zx2 ∧ x3 = zx3 ∧ B 0 64 zx4 ∧ IM zS ∧ ag [] [5] (upd S.1 0 1, S.2.1, S.2.2) zS) → (64 - zx4.toInt).toNat < (64 - x4_42.toInt).toNat → R49 zx1 zx2 zx3 zx4 zS) → b_scale_49 x1 x2 x3 x4_42 T43 R49 K from hs _ (fun _ _ _ _ _ h1 h2 => ⟨h1, h2⟩)
        intro R49 hR490
        have hR49 := fun {zx1} {zx2} {zx3} {zx4} {zS} => hR490 zx1 zx2 zx3 zx4 zS
        unfold b_scale_49
        refine ⟨fun hc => ?_, fun hc => ?_⟩
        · have hq48 := hc
          have b49 : B 64 64 (x4_42) := B_w (B_leR cqb_64_64_64 b44 hq48) (by decide +kernel) (by decide +kernel)
          unfold b_scale_124
          have g51 := ag_f (k := 0) (v := 1) (ag_refl (fs := [0]) (rs := [5]) (S := S)) (by decide +kernel)
          have g50 := ag_tr g51 g46 (by decide +kernel) (by decide +kernel)
          have e52 : (T43.1 0).toInt = 1 := (congrArg Int32.toInt (g46.1 0 rfl)).trans rfl
          exact hK hI45 g50 (by show (((T43.1 0).toInt = 0) ∧ (((0 ≤ x1.toInt) ∧ (x1.toInt ≤ 1)) ∧ ((((-1000) ≤ x2.toInt) ∧ (x2.toInt ≤ 1000)) ∧ (((-1000) ≤ x3.toInt) ∧ (x3.toInt ≤ 1000))))) ∨ (((T43.1 0).toInt = 1) ∧ (((x1.toInt < 0) ∨ (1 < x1.toInt)) ∨ (((x2.toInt < (-1000)) ∨ (1000 < x2.toInt)) ∨ ((x3.toInt < (-1000)) ∨ (1000 < x3.toInt))))); first | with_reducible assumption | omega)
        · have hq53 := (nle_lt hc)
          have b54 : B 0 63 (x4_42) := B_w (B_ltL b44 cqb_64_64_64 hq53) (by decide +kernel) (by decide +kernel)
          refine ⟨fun hc => ?_, fun hc => ?_⟩
          · have e55 : (T43.1 0).toInt = 1 := (congrArg Int32.toInt (g46.1 0 rfl)).trans rfl
            have i56 : (T43.1 0).toInt ≠ (0 : Int32).toInt := i_ne hc
            have n57 : (0 : Int32).toInt = 0 := cqn_0
            unfold b_scale_124
            have g59 := ag_f (k := 0) (v := 1) (ag_refl (fs := [0]) (rs := [5]) (S := S)) (by decide +kernel)
            have g58 := ag_tr g59 g46 (by decide +kernel) (by decide +kernel)
            exact hK hI45 g58 (by show (((T43.1 0).toInt = 0) ∧ (((0 ≤ x1.toInt) ∧ (x1.toInt ≤ 1)) ∧ ((((-1000) ≤ x2.toInt) ∧ (x2.toInt ≤ 1000)) ∧ (((-1000) ≤ x3.toInt) ∧ (x3.toInt ≤ 1000))))) ∨ (((T43.1 0).toInt = 1) ∧ (((x1.toInt < 0) ∨ (1 < x1.toInt)) ∨ (((x2.toInt < (-1000)) ∨ (1000 < x2.toInt)) ∨ ((x3.toInt < (-1000)) ∨ (1000 < x3.toInt))))); first | with_reducible assumption | omega)
          · exact (B_dis (B_eq (g46.1 0 rfl) cqb_1_1_1) cqb_0_0_0 hc (by decide +kernel)).elim
      · have hq60 := (nlt_le hc)
        have b61 : B (-1000) 1000 (x2) := B_w (B_leL b32 cqb_1000_1000_1000 hq60) (by decide +kernel) (by decide +kernel)
        have q62 : (-1000) ≤ (x2).toInt ∧ (x2).toInt ≤ (1000) := (show B (-1000) 1000 (x2) from B_w b61 (by decide +kernel) (by decide +kernel))
        refine ⟨fun hc => ?_, fun hc => ?_⟩
        · have hq63 := hc
          have b64 : B (-2147483648) (-1001) (x3) := B_w (B_ltL (B_any _) cqb_m1000_m1000_m1000 hq63) (by decide +kernel) (by decide +kernel)
          have q65 : (-2147483648) ≤ (x3).toInt ∧ (x3).toInt ≤ (-1001) := (show B (-2147483648) (-1001) (x3) from B_w b64 (by decide +kernel) (by decide +kernel))
          have i66 : (x3).toInt < (-1000 : Int32).toInt := i_lt hq63
          have n67 : (-1000 : Int32).toInt = -1000 := cqn_m1000
          unfold b_scale_38
          unfold b_scale_43
          have hI76 := IM_f (k := 0) (v := 1) hI cqb_1_1_1 (by decide +kernel) (by decide +kernel)
          refine ⟨fun yx1 yx2 yx3 yx4 yS => x1 = yx1 ∧ x2 = yx2 ∧ x3 = yx3 ∧ B 0 64 yx4 ∧ IM yS ∧ ag [] [5] (upd S.1 0 1, S.2.1, S.2.2) yS, fun yx1 yx2 yx3 yx4 yS => (64 - yx4.toInt).toNat, ⟨rfl, rfl, rfl, (B_w cqb_0_0_0 (by decide +kernel) (by decide +kernel)), hI76, (ag_refl (fs := []) (rs := [5]) (S := (upd S.1 0 1, S.2.1, S.2.2)))⟩, fun x1_68 x2_69 x3_70 x4_71 T72 hIv => ?_⟩
          obtain ⟨rfl, rfl, rfl, b73, hI74, g75⟩ := hIv
          suffices hs : ∀ (R49 : Int32 → Int32 → Int32 → Int32 → ms → Prop), (∀ zx1 zx2 zx3 zx4 zS, (x1 = zx1 ∧ x2 = zx2 ∧ x3 = zx3 ∧ B 0 64 zx4 ∧ IM zS ∧ ag [] [5] (upd S.1 0 1, S.2.1, S.2.2) zS) → (64 - zx4.toInt).toNat < (64 - x4_71.toInt).toNat → R49 zx1 zx2 zx3 zx4 zS) → b_scale_49 x1 x2 x3 x4_71 T72 R49 K from hs _ (fun _ _ _ _ _ h1 h2 => ⟨h1, h2⟩)
          intro R49 hR490
          have hR49 := fun {zx1} {zx2} {zx3} {zx4} {zS} => hR490 zx1 zx2 zx3 zx4 zS
          unfold b_scale_49
          refine ⟨fun hc => ?_, fun hc => ?_⟩
          · have hq77 := hc
            have b78 : B 64 64 (x4_71) := B_w (B_leR cqb_64_64_64 b73 hq77) (by decide +kernel) (by decide +kernel)
            unfold b_scale_124
            have g80 := ag_f (k := 0) (v := 1) (ag_refl (fs := [0]) (rs := [5]) (S := S)) (by decide +kernel)
            have g79 := ag_tr g80 g75 (by decide +kernel) (by decide +kernel)
            have e81 : (T72.1 0).toInt = 1 := (congrArg Int32.toInt (g75.1 0 rfl)).trans rfl
            exact hK hI74 g79 (by show (((T72.1 0).toInt = 0) ∧ (((0 ≤ x1.toInt) ∧ (x1.toInt ≤ 1)) ∧ ((((-1000) ≤ x2.toInt) ∧ (x2.toInt ≤ 1000)) ∧ (((-1000) ≤ x3.toInt) ∧ (x3.toInt ≤ 1000))))) ∨ (((T72.1 0).toInt = 1) ∧ (((x1.toInt < 0) ∨ (1 < x1.toInt)) ∨ (((x2.toInt < (-1000)) ∨ (1000 < x2.toInt)) ∨ ((x3.toInt < (-1000)) ∨ (1000 < x3.toInt))))); first | with_reducible assumption | omega)
          · have hq82 := (nle_lt hc)
            have b83 : B 0 63 (x4_71) := B_w (B_ltL b73 cqb_64_64_64 hq82) (by decide +kernel) (by decide +kernel)
            refine ⟨fun hc => ?_, fun hc => ?_⟩
            · have e84 : (T72.1 0).toInt = 1 := (congrArg Int32.toInt (g75.1 0 rfl)).trans rfl
              have i85 : (T72.1 0).toInt ≠ (0 : Int32).toInt := i_ne hc
              have n86 : (0 : Int32).toInt = 0 := cqn_0
              unfold b_scale_124
              have g88 := ag_f (k := 0) (v := 1) (ag_refl (fs := [0]) (rs := [5]) (S := S)) (by decide +kernel)
              have g87 := ag_tr g88 g75 (by decide +kernel) (by decide +kernel)
              exact hK hI74 g87 (by show (((T72.1 0).toInt = 0) ∧ (((0 ≤ x1.toInt) ∧ (x1.toInt ≤ 1)) ∧ ((((-1000) ≤ x2.toInt) ∧ (x2.toInt ≤ 1000)) ∧ (((-1000) ≤ x3.toInt) ∧ (x3.toInt ≤ 1000))))) ∨ (((T72.1 0).toInt = 1) ∧ (((x1.toInt < 0) ∨ (1 < x1.toInt)) ∨ (((x2.toInt < (-1000)) ∨ (1000 < x2.toInt)) ∨ ((x3.toInt < (-1000)) ∨ (1000 < x3.toInt))))); first | with_reducible assumption | omega)
            · exact (B_dis (B_eq (g75.1 0 rfl) cqb_1_1_1) cqb_0_0_0 hc (by decide +kernel)).elim
        · have hq89 := (nlt_le hc)
          have b90 : B (-1000) 2147483647 (x3) := B_w (B_leR cqb_m1000_m1000_m1000 (B_any _) hq89) (by decide +kernel) (by decide +kernel)
          have q91 : (-1000) ≤ (x3).toInt ∧ (x3).toInt ≤ (2147483647) := (show B (-1000) 2147483647 (x3) from B_w b90 (by decide +kernel) (by decide +kernel))
          have i92 : (-1000 : Int32).toInt ≤ (x3).toInt := i_le hq89
          have n93 : (-1000 : Int32).toInt = -1000 := cqn_m1000
          refine ⟨fun hc => ?_, fun hc => ?_⟩
          · have hq94 := hc
            have b95 : B (-1000) 1000 (x3) := B_w (B_leL b90 cqb_1000_1000_1000 hq94) (by decide +kernel) (by decide +kernel)
            have q96 : (-1000) ≤ (x3).toInt ∧ (x3).toInt ≤ (1000) := (show B (-1000) 1000 (x3) from B_w b95 (by decide +kernel) (by decide +kernel))
            unfold b_scale_43
            have hI105 := IM_f (k := 0) (v := 0) hI cqb_0_0_0 (by decide +kernel) (by decide +kernel)
            refine ⟨fun yx1 yx2 yx3 yx4 yS => x1 = yx1 ∧ x2 = yx2 ∧ x3 = yx3 ∧ B 0 64 yx4 ∧ IM yS ∧ ag [] [5] (upd S.1 0 0, S.2.1, S.2.2) yS, fun yx1 yx2 yx3 yx4 yS => (64 - yx4.toInt).toNat, ⟨rfl, rfl, rfl, (B_w cqb_0_0_0 (by decide +kernel) (by decide +kernel)), hI105, (ag_refl (fs := []) (rs := [5]) (S := (upd S.1 0 0, S.2.1, S.2.2)))⟩, fun x1_97 x2_98 x3_99 x4_100 T101 hIv => ?_⟩
            obtain ⟨rfl, rfl, rfl, b102, hI103, g104⟩ := hIv
            suffices hs : ∀ (R49 : Int32 → Int32 → Int32 → Int32 → ms → Prop), (∀ zx1 zx2 zx3 zx4 zS, (x1 = zx1 ∧ x2 = zx2 ∧ x3 = zx3 ∧ B 0 64 zx4 ∧ IM zS ∧ ag [] [5] (upd S.1 0 0, S.2.1, S.2.2) zS) → (64 - zx4.toInt).toNat < (64 - x4_100.toInt).toNat → R49 zx1 zx2 zx3 zx4 zS) → b_scale_49 x1 x2 x3 x4_100 T101 R49 K from hs _ (fun _ _ _ _ _ h1 h2 => ⟨h1, h2⟩)
            intro R49 hR490
            have hR49 := fun {zx1} {zx2} {zx3} {zx4} {zS} => hR490 zx1 zx2 zx3 zx4 zS
            unfold b_scale_49
            refine ⟨fun hc => ?_, fun hc => ?_⟩
            · have hq106 := hc
              have b107 : B 64 64 (x4_100) := B_w (B_leR cqb_64_64_64 b102 hq106) (by decide +kernel) (by decide +kernel)
              unfold b_scale_124
              have g109 := ag_f (k := 0) (v := 0) (ag_refl (fs := [0]) (rs := [5]) (S := S)) (by decide +kernel)
              have g108 := ag_tr g109 g104 (by decide +kernel) (by decide +kernel)
              have e110 : (T101.1 0).toInt = 0 := (congrArg Int32.toInt (g104.1 0 rfl)).trans rfl
              exact hK hI103 g108 (by show (((T101.1 0).toInt = 0) ∧ (((0 ≤ x1.toInt) ∧ (x1.toInt ≤ 1)) ∧ ((((-1000) ≤ x2.toInt) ∧ (x2.toInt ≤ 1000)) ∧ (((-1000) ≤ x3.toInt) ∧ (x3.toInt ≤ 1000))))) ∨ (((T101.1 0).toInt = 1) ∧ (((x1.toInt < 0) ∨ (1 < x1.toInt)) ∨ (((x2.toInt < (-1000)) ∨ (1000 < x2.toInt)) ∨ ((x3.toInt < (-1000)) ∨ (1000 < x3.toInt))))); first | with_reducible assumption | omega)
            · have hq111 := (nle_lt hc)
              have b112 : B 0 63 (x4_100) := B_w (B_ltL b102 cqb_64_64_64 hq111) (by decide +kernel) (by decide +kernel)
              refine ⟨fun hc => ?_, fun hc => ?_⟩
              · exact (hc (B_z (B_eq (g104.1 0 rfl) cqb_0_0_0))).elim
              · have e113 : (T101.1 0).toInt = 0 := (congrArg Int32.toInt (g104.1 0 rfl)).trans rfl
                have i114 : (T101.1 0).toInt = (0 : Int32).toInt := congrArg Int32.toInt hc
                have n115 : (0 : Int32).toInt = 0 := cqn_0
                refine ⟨fun hc => ?_, fun hc => ?_⟩
                · have hq116 := hc
                  have b117 : B 1 15000 (x2 + (x3 * ((x4_100 / 8) + (x4_100 - ((x4_100 / 8) * 8))))) := B_w (B_leR cqb_1_1_1 (B_add b61 (show B (-14000) 14000 (x3 * ((x4_100 / 8) + (x4_100 - ((x4_100 / 8) * 8)))) from B_mulS (m := 1000) (n := 14) (B_w b95 (by decide +kernel) (by decide +kernel)) (B_w (B_add (show B 0 7 (x4_100 / 8) from B_div2 b112 cqb_8_8_8 (by decide +kernel) (by decide +kernel) (by decide +kernel) (by decide +kernel)) (B_rem b112 cqb_8_8_8 (by decide +kernel) (by decide +kernel)) (by decide +kernel) (by decide +kernel)) (by decide +kernel) (by decide +kernel)) (by decide +kernel)) (by decide +kernel) (by decide +kernel)) hq116) (by decide +kernel) (by decide +kernel)
                  have q118 : (0) ≤ (x4_100).toInt ∧ (x4_100).toInt ≤ (63) := (show B 0 63 (x4_100) from B_w b112 (by decide +kernel) (by decide +kernel))
                  have e119 : (x4_100 / 8).toInt = ((x4_100).toInt / 8) := (t_div b112 cqb_8_8_8 (by decide +kernel) (by decide +kernel)).trans (by rw [cqn_8])
                  have q120 : (0) ≤ (x4_100 / 8).toInt ∧ (x4_100 / 8).toInt ≤ (7) := (show B 0 7 (x4_100 / 8) from B_div2 b112 cqb_8_8_8 (by decide +kernel) (by decide +kernel) (by decide +kernel) (by decide +kernel))
                  have e121 : (x4_100 - ((x4_100 / 8) * 8)).toInt = ((x4_100).toInt % 8) := (t_rem b112 cqb_8_8_8 (by decide +kernel) (by decide +kernel)).trans (by rw [cqn_8])
                  have q122 : (0) ≤ (x4_100 - ((x4_100 / 8) * 8)).toInt ∧ (x4_100 - ((x4_100 / 8) * 8)).toInt ≤ (7) := (show B 0 7 (x4_100 - ((x4_100 / 8) * 8)) from B_w (B_rem b112 cqb_8_8_8 (by decide +kernel) (by decide +kernel)) (by decide +kernel) (by decide +kernel))
                  have e123 : ((x4_100 / 8) + (x4_100 - ((x4_100 / 8) * 8))).toInt = (((x4_100).toInt / 8) + ((x4_100).toInt % 8)) := (t_add (show B 0 7 (x4_100 / 8) from B_div2 b112 cqb_8_8_8 (by decide +kernel) (by decide +kernel) (by decide +kernel) (by decide +kernel)) (B_rem b112 cqb_8_8_8 (by decide +kernel) (by decide +kernel)) (by decide +kernel) (by decide +kernel)).trans (by rw [e119, e121])
                  have q124 : (0) ≤ ((x4_100 / 8) + (x4_100 - ((x4_100 / 8) * 8))).toInt ∧ ((x4_100 / 8) + (x4_100 - ((x4_100 / 8) * 8))).toInt ≤ (14) := (show B 0 14 ((x4_100 / 8) + (x4_100 - ((x4_100 / 8) * 8))) from B_w (B_add (show B 0 7 (x4_100 / 8) from B_div2 b112 cqb_8_8_8 (by decide +kernel) (by decide +kernel) (by decide +kernel) (by decide +kernel)) (B_rem b112 cqb_8_8_8 (by decide +kernel) (by decide +kernel)) (by decide +kernel) (by decide +kernel)) (by decide +kernel) (by decide +kernel))
                  have e125 : (x3 * ((x4_100 / 8) + (x4_100 - ((x4_100 / 8) * 8)))).toInt = ((x3).toInt * (((x4_100).toInt / 8) + ((x4_100).toInt % 8))) := (t_mulS (m := 1000) (n := 14) (B_w b95 (by decide +kernel) (by decide +kernel)) (B_w (B_add (show B 0 7 (x4_100 / 8) from B_div2 b112 cqb_8_8_8 (by decide +kernel) (by decide +kernel) (by decide +kernel) (by decide +kernel)) (B_rem b112 cqb_8_8_8 (by decide +kernel) (by decide +kernel)) (by decide +kernel) (by decide +kernel)) (by decide +kernel) (by decide +kernel)) (by decide +kernel)).trans (by rw [e123])
                  have q126 : (-14000) ≤ (x3 * ((x4_100 / 8) + (x4_100 - ((x4_100 / 8) * 8)))).toInt ∧ (x3 * ((x4_100 / 8) + (x4_100 - ((x4_100 / 8) * 8)))).toInt ≤ (14000) := (show B (-14000) 14000 (x3 * ((x4_100 / 8) + (x4_100 - ((x4_100 / 8) * 8)))) from B_mulS (m := 1000) (n := 14) (B_w b95 (by decide +kernel) (by decide +kernel)) (B_w (B_add (show B 0 7 (x4_100 / 8) from B_div2 b112 cqb_8_8_8 (by decide +kernel) (by decide +kernel) (by decide +kernel) (by decide +kernel)) (B_rem b112 cqb_8_8_8 (by decide +kernel) (by decide +kernel)) (by decide +kernel) (by decide +kernel)) (by decide +kernel) (by decide +kernel)) (by decide +kernel))
                  have e127 : (x2 + (x3 * ((x4_100 / 8) + (x4_100 - ((x4_100 / 8) * 8))))).toInt = ((x2).toInt + ((x3).toInt * (((x4_100).toInt / 8) + ((x4_100).toInt % 8)))) := (t_add b61 (show B (-14000) 14000 (x3 * ((x4_100 / 8) + (x4_100 - ((x4_100 / 8) * 8)))) from B_mulS (m := 1000) (n := 14) (B_w b95 (by decide +kernel) (by decide +kernel)) (B_w (B_add (show B 0 7 (x4_100 / 8) from B_div2 b112 cqb_8_8_8 (by decide +kernel) (by decide +kernel) (by decide +kernel) (by decide +kernel)) (B_rem b112 cqb_8_8_8 (by decide +kernel) (by decide +kernel)) (by decide +kernel) (by decide +kernel)) (by decide +kernel) (by decide +kernel)) (by decide +kernel)) (by decide +kernel) (by decide +kernel)).trans (by rw [e125])
                  have q128 : (1) ≤ (x2 + (x3 * ((x4_100 / 8) + (x4_100 - ((x4_100 / 8) * 8))))).toInt ∧ (x2 + (x3 * ((x4_100 / 8) + (x4_100 - ((x4_100 / 8) * 8))))).toInt ≤ (15000) := (show B 1 15000 (x2 + (x3 * ((x4_100 / 8) + (x4_100 - ((x4_100 / 8) * 8))))) from B_w b117 (by decide +kernel) (by decide +kernel))
                  have i129 : (1 : Int32).toInt ≤ (x2 + (x3 * ((x4_100 / 8) + (x4_100 - ((x4_100 / 8) * 8))))).toInt := i_le hq116
                  have n130 : (1 : Int32).toInt = 1 := cqn_1
                  refine ⟨fun hc => ?_, fun hc => ?_⟩
                  · have hq131 := hc
                    have b132 : B 1 255 (x2 + (x3 * ((x4_100 / 8) + (x4_100 - ((x4_100 / 8) * 8))))) := B_w (B_leL b117 cqb_255_255_255 hq131) (by decide +kernel) (by decide +kernel)
                    have q133 : (1) ≤ (x2 + (x3 * ((x4_100 / 8) + (x4_100 - ((x4_100 / 8) * 8))))).toInt ∧ (x2 + (x3 * ((x4_100 / 8) + (x4_100 - ((x4_100 / 8) * 8))))).toInt ≤ (255) := (show B 1 255 (x2 + (x3 * ((x4_100 / 8) + (x4_100 - ((x4_100 / 8) * 8))))) from B_w b132 (by decide +kernel) (by decide +kernel))
                    have i134 : (x2 + (x3 * ((x4_100 / 8) + (x4_100 - ((x4_100 / 8) * 8))))).toInt ≤ (255 : Int32).toInt := i_le hq131
                    have n135 : (255 : Int32).toInt = 255 := cqn_255
                    unfold b_scale_117
                    refine ⟨vp_B (B_add (B_mul cqb_64_64_64 b1 (by decide +kernel) (by decide +kernel) (by decide +kernel)) b112 (by decide +kernel) (by decide +kernel)) (by decide +kernel) (by decide +kernel), ?_⟩
                    have hI136 := IM_r (r := 5) (i := ((64 * x1) + x4_100).toNatClampNeg) (v := x2 + (x3 * ((x4_100 / 8) + (x4_100 - ((x4_100 / 8) * 8))))) hI103 b132 (by decide +kernel) (by decide +kernel)
                    have g138 := ag_tr (ag_refl (fs := []) (rs := [5]) (S := (upd S.1 0 0, S.2.1, S.2.2))) g104 (by decide +kernel) (by decide +kernel)
                    have g137 := ag_r (r := 5) (w := upd (T101.2.1 5) ((64 * x1) + x4_100).toNatClampNeg (x2 + (x3 * ((x4_100 / 8) + (x4_100 - ((x4_100 / 8) * 8)))))) g138 (by decide +kernel)
                    have e139 : (x4_100 + 1).toInt = ((x4_100).toInt + 1) := (t_add b112 cqb_1_1_1 (by decide +kernel) (by decide +kernel)).trans (by rw [cqn_1])
                    have q140 : (1) ≤ (x4_100 + 1).toInt ∧ (x4_100 + 1).toInt ≤ (64) := (show B 1 64 (x4_100 + 1) from B_w (B_add b112 cqb_1_1_1 (by decide +kernel) (by decide +kernel)) (by decide +kernel) (by decide +kernel))
                    exact hR49 ⟨rfl, rfl, rfl, (B_w (B_add b112 cqb_1_1_1 (by decide +kernel) (by decide +kernel)) (by decide +kernel) (by decide +kernel)), hI136, g137⟩ (by show (64 - (x4_100 + 1).toInt).toNat < (64 - x4_100.toInt).toNat; omega)
                  · have hq141 := (nle_lt hc)
                    have b142 : B 256 15000 (x2 + (x3 * ((x4_100 / 8) + (x4_100 - ((x4_100 / 8) * 8))))) := B_w (B_ltR cqb_255_255_255 b117 hq141) (by decide +kernel) (by decide +kernel)
                    have q143 : (256) ≤ (x2 + (x3 * ((x4_100 / 8) + (x4_100 - ((x4_100 / 8) * 8))))).toInt ∧ (x2 + (x3 * ((x4_100 / 8) + (x4_100 - ((x4_100 / 8) * 8))))).toInt ≤ (15000) := (show B 256 15000 (x2 + (x3 * ((x4_100 / 8) + (x4_100 - ((x4_100 / 8) * 8))))) from B_w b142 (by decide +kernel) (by decide +kernel))
                    have i144 : (255 : Int32).toInt < (x2 + (x3 * ((x4_100 / 8) + (x4_100 - ((x4_100 / 8) * 8))))).toInt := i_lt hq141
                    have n145 : (255 : Int32).toInt = 255 := cqn_255
                    unfold b_scale_117
                    refine ⟨vp_B (B_add (B_mul cqb_64_64_64 b1 (by decide +kernel) (by decide +kernel) (by decide +kernel)) b112 (by decide +kernel) (by decide +kernel)) (by decide +kernel) (by decide +kernel), ?_⟩
                    have hI146 := IM_r (r := 5) (i := ((64 * x1) + x4_100).toNatClampNeg) (v := 255) hI103 cqb_255_255_255 (by decide +kernel) (by decide +kernel)
                    have g148 := ag_tr (ag_refl (fs := []) (rs := [5]) (S := (upd S.1 0 0, S.2.1, S.2.2))) g104 (by decide +kernel) (by decide +kernel)
                    have g147 := ag_r (r := 5) (w := upd (T101.2.1 5) ((64 * x1) + x4_100).toNatClampNeg 255) g148 (by decide +kernel)
                    have e149 : (x4_100 + 1).toInt = ((x4_100).toInt + 1) := (t_add b112 cqb_1_1_1 (by decide +kernel) (by decide +kernel)).trans (by rw [cqn_1])
                    have q150 : (1) ≤ (x4_100 + 1).toInt ∧ (x4_100 + 1).toInt ≤ (64) := (show B 1 64 (x4_100 + 1) from B_w (B_add b112 cqb_1_1_1 (by decide +kernel) (by decide +kernel)) (by decide +kernel) (by decide +kernel))
                    exact hR49 ⟨rfl, rfl, rfl, (B_w (B_add b112 cqb_1_1_1 (by decide +kernel) (by decide +kernel)) (by decide +kernel) (by decide +kernel)), hI146, g147⟩ (by show (64 - (x4_100 + 1).toInt).toNat < (64 - x4_100.toInt).toNat; omega)
                · have hq151 := (nle_lt hc)
                  have b152 : B (-15000) 0 (x2 + (x3 * ((x4_100 / 8) + (x4_100 - ((x4_100 / 8) * 8))))) := B_w (B_ltL (B_add b61 (show B (-14000) 14000 (x3 * ((x4_100 / 8) + (x4_100 - ((x4_100 / 8) * 8)))) from B_mulS (m := 1000) (n := 14) (B_w b95 (by decide +kernel) (by decide +kernel)) (B_w (B_add (show B 0 7 (x4_100 / 8) from B_div2 b112 cqb_8_8_8 (by decide +kernel) (by decide +kernel) (by decide +kernel) (by decide +kernel)) (B_rem b112 cqb_8_8_8 (by decide +kernel) (by decide +kernel)) (by decide +kernel) (by decide +kernel)) (by decide +kernel) (by decide +kernel)) (by decide +kernel)) (by decide +kernel) (by decide +kernel)) cqb_1_1_1 hq151) (by decide +kernel) (by decide +kernel)
                  have q153 : (0) ≤ (x4_100).toInt ∧ (x4_100).toInt ≤ (63) := (show B 0 63 (x4_100) from B_w b112 (by decide +kernel) (by decide +kernel))
                  have e154 : (x4_100 / 8).toInt = ((x4_100).toInt / 8) := (t_div b112 cqb_8_8_8 (by decide +kernel) (by decide +kernel)).trans (by rw [cqn_8])
                  have q155 : (0) ≤ (x4_100 / 8).toInt ∧ (x4_100 / 8).toInt ≤ (7) := (show B 0 7 (x4_100 / 8) from B_div2 b112 cqb_8_8_8 (by decide +kernel) (by decide +kernel) (by decide +kernel) (by decide +kernel))
                  have e156 : (x4_100 - ((x4_100 / 8) * 8)).toInt = ((x4_100).toInt % 8) := (t_rem b112 cqb_8_8_8 (by decide +kernel) (by decide +kernel)).trans (by rw [cqn_8])
                  have q157 : (0) ≤ (x4_100 - ((x4_100 / 8) * 8)).toInt ∧ (x4_100 - ((x4_100 / 8) * 8)).toInt ≤ (7) := (show B 0 7 (x4_100 - ((x4_100 / 8) * 8)) from B_w (B_rem b112 cqb_8_8_8 (by decide +kernel) (by decide +kernel)) (by decide +kernel) (by decide +kernel))
                  have e158 : ((x4_100 / 8) + (x4_100 - ((x4_100 / 8) * 8))).toInt = (((x4_100).toInt / 8) + ((x4_100).toInt % 8)) := (t_add (show B 0 7 (x4_100 / 8) from B_div2 b112 cqb_8_8_8 (by decide +kernel) (by decide +kernel) (by decide +kernel) (by decide +kernel)) (B_rem b112 cqb_8_8_8 (by decide +kernel) (by decide +kernel)) (by decide +kernel) (by decide +kernel)).trans (by rw [e154, e156])
                  have q159 : (0) ≤ ((x4_100 / 8) + (x4_100 - ((x4_100 / 8) * 8))).toInt ∧ ((x4_100 / 8) + (x4_100 - ((x4_100 / 8) * 8))).toInt ≤ (14) := (show B 0 14 ((x4_100 / 8) + (x4_100 - ((x4_100 / 8) * 8))) from B_w (B_add (show B 0 7 (x4_100 / 8) from B_div2 b112 cqb_8_8_8 (by decide +kernel) (by decide +kernel) (by decide +kernel) (by decide +kernel)) (B_rem b112 cqb_8_8_8 (by decide +kernel) (by decide +kernel)) (by decide +kernel) (by decide +kernel)) (by decide +kernel) (by decide +kernel))
                  have e160 : (x3 * ((x4_100 / 8) + (x4_100 - ((x4_100 / 8) * 8)))).toInt = ((x3).toInt * (((x4_100).toInt / 8) + ((x4_100).toInt % 8))) := (t_mulS (m := 1000) (n := 14) (B_w b95 (by decide +kernel) (by decide +kernel)) (B_w (B_add (show B 0 7 (x4_100 / 8) from B_div2 b112 cqb_8_8_8 (by decide +kernel) (by decide +kernel) (by decide +kernel) (by decide +kernel)) (B_rem b112 cqb_8_8_8 (by decide +kernel) (by decide +kernel)) (by decide +kernel) (by decide +kernel)) (by decide +kernel) (by decide +kernel)) (by decide +kernel)).trans (by rw [e158])
                  have q161 : (-14000) ≤ (x3 * ((x4_100 / 8) + (x4_100 - ((x4_100 / 8) * 8)))).toInt ∧ (x3 * ((x4_100 / 8) + (x4_100 - ((x4_100 / 8) * 8)))).toInt ≤ (14000) := (show B (-14000) 14000 (x3 * ((x4_100 / 8) + (x4_100 - ((x4_100 / 8) * 8)))) from B_mulS (m := 1000) (n := 14) (B_w b95 (by decide +kernel) (by decide +kernel)) (B_w (B_add (show B 0 7 (x4_100 / 8) from B_div2 b112 cqb_8_8_8 (by decide +kernel) (by decide +kernel) (by decide +kernel) (by decide +kernel)) (B_rem b112 cqb_8_8_8 (by decide +kernel) (by decide +kernel)) (by decide +kernel) (by decide +kernel)) (by decide +kernel) (by decide +kernel)) (by decide +kernel))
                  have e162 : (x2 + (x3 * ((x4_100 / 8) + (x4_100 - ((x4_100 / 8) * 8))))).toInt = ((x2).toInt + ((x3).toInt * (((x4_100).toInt / 8) + ((x4_100).toInt % 8)))) := (t_add b61 (show B (-14000) 14000 (x3 * ((x4_100 / 8) + (x4_100 - ((x4_100 / 8) * 8)))) from B_mulS (m := 1000) (n := 14) (B_w b95 (by decide +kernel) (by decide +kernel)) (B_w (B_add (show B 0 7 (x4_100 / 8) from B_div2 b112 cqb_8_8_8 (by decide +kernel) (by decide +kernel) (by decide +kernel) (by decide +kernel)) (B_rem b112 cqb_8_8_8 (by decide +kernel) (by decide +kernel)) (by decide +kernel) (by decide +kernel)) (by decide +kernel) (by decide +kernel)) (by decide +kernel)) (by decide +kernel) (by decide +kernel)).trans (by rw [e160])
                  have q163 : (-15000) ≤ (x2 + (x3 * ((x4_100 / 8) + (x4_100 - ((x4_100 / 8) * 8))))).toInt ∧ (x2 + (x3 * ((x4_100 / 8) + (x4_100 - ((x4_100 / 8) * 8))))).toInt ≤ (0) := (show B (-15000) 0 (x2 + (x3 * ((x4_100 / 8) + (x4_100 - ((x4_100 / 8) * 8))))) from B_w b152 (by decide +kernel) (by decide +kernel))
                  have i164 : (x2 + (x3 * ((x4_100 / 8) + (x4_100 - ((x4_100 / 8) * 8))))).toInt < (1 : Int32).toInt := i_lt hq151
                  have n165 : (1 : Int32).toInt = 1 := cqn_1
                  unfold b_scale_117
                  refine ⟨vp_B (B_add (B_mul cqb_64_64_64 b1 (by decide +kernel) (by decide +kernel) (by decide +kernel)) b112 (by decide +kernel) (by decide +kernel)) (by decide +kernel) (by decide +kernel), ?_⟩
                  have hI166 := IM_r (r := 5) (i := ((64 * x1) + x4_100).toNatClampNeg) (v := 1) hI103 cqb_1_1_1 (by decide +kernel) (by decide +kernel)
                  have g168 := ag_tr (ag_refl (fs := []) (rs := [5]) (S := (upd S.1 0 0, S.2.1, S.2.2))) g104 (by decide +kernel) (by decide +kernel)
                  have g167 := ag_r (r := 5) (w := upd (T101.2.1 5) ((64 * x1) + x4_100).toNatClampNeg 1) g168 (by decide +kernel)
                  have e169 : (x4_100 + 1).toInt = ((x4_100).toInt + 1) := (t_add b112 cqb_1_1_1 (by decide +kernel) (by decide +kernel)).trans (by rw [cqn_1])
                  have q170 : (1) ≤ (x4_100 + 1).toInt ∧ (x4_100 + 1).toInt ≤ (64) := (show B 1 64 (x4_100 + 1) from B_w (B_add b112 cqb_1_1_1 (by decide +kernel) (by decide +kernel)) (by decide +kernel) (by decide +kernel))
                  exact hR49 ⟨rfl, rfl, rfl, (B_w (B_add b112 cqb_1_1_1 (by decide +kernel) (by decide +kernel)) (by decide +kernel) (by decide +kernel)), hI166, g167⟩ (by show (64 - (x4_100 + 1).toInt).toNat < (64 - x4_100.toInt).toNat; omega)
          · have hq171 := (nle_lt hc)
            have b172 : B 1001 2147483647 (x3) := B_w (B_ltR cqb_1000_1000_1000 b90 hq171) (by decide +kernel) (by decide +kernel)
            have q173 : (1001) ≤ (x3).toInt ∧ (x3).toInt ≤ (2147483647) := (show B 1001 2147483647 (x3) from B_w b172 (by decide +kernel) (by decide +kernel))
            unfold b_scale_38
            unfold b_scale_43
            have hI182 := IM_f (k := 0) (v := 1) hI cqb_1_1_1 (by decide +kernel) (by decide +kernel)
            refine ⟨fun yx1 yx2 yx3 yx4 yS => x1 = yx1 ∧ x2 = yx2 ∧ x3 = yx3 ∧ B 0 64 yx4 ∧ IM yS ∧ ag [] [5] (upd S.1 0 1, S.2.1, S.2.2) yS, fun yx1 yx2 yx3 yx4 yS => (64 - yx4.toInt).toNat, ⟨rfl, rfl, rfl, (B_w cqb_0_0_0 (by decide +kernel) (by decide +kernel)), hI182, (ag_refl (fs := []) (rs := [5]) (S := (upd S.1 0 1, S.2.1, S.2.2)))⟩, fun x1_174 x2_175 x3_176 x4_177 T178 hIv => ?_⟩
            obtain ⟨rfl, rfl, rfl, b179, hI180, g181⟩ := hIv
            suffices hs : ∀ (R49 : Int32 → Int32 → Int32 → Int32 → ms → Prop), (∀ zx1 zx2 zx3 zx4 zS, (x1 = zx1 ∧ x2 = zx2 ∧ x3 = zx3 ∧ B 0 64 zx4 ∧ IM zS ∧ ag [] [5] (upd S.1 0 1, S.2.1, S.2.2) zS) → (64 - zx4.toInt).toNat < (64 - x4_177.toInt).toNat → R49 zx1 zx2 zx3 zx4 zS) → b_scale_49 x1 x2 x3 x4_177 T178 R49 K from hs _ (fun _ _ _ _ _ h1 h2 => ⟨h1, h2⟩)
            intro R49 hR490
            have hR49 := fun {zx1} {zx2} {zx3} {zx4} {zS} => hR490 zx1 zx2 zx3 zx4 zS
            unfold b_scale_49
            refine ⟨fun hc => ?_, fun hc => ?_⟩
            · have hq183 := hc
              have b184 : B 64 64 (x4_177) := B_w (B_leR cqb_64_64_64 b179 hq183) (by decide +kernel) (by decide +kernel)
              unfold b_scale_124
              have g186 := ag_f (k := 0) (v := 1) (ag_refl (fs := [0]) (rs := [5]) (S := S)) (by decide +kernel)
              have g185 := ag_tr g186 g181 (by decide +kernel) (by decide +kernel)
              have e187 : (T178.1 0).toInt = 1 := (congrArg Int32.toInt (g181.1 0 rfl)).trans rfl
              exact hK hI180 g185 (by show (((T178.1 0).toInt = 0) ∧ (((0 ≤ x1.toInt) ∧ (x1.toInt ≤ 1)) ∧ ((((-1000) ≤ x2.toInt) ∧ (x2.toInt ≤ 1000)) ∧ (((-1000) ≤ x3.toInt) ∧ (x3.toInt ≤ 1000))))) ∨ (((T178.1 0).toInt = 1) ∧ (((x1.toInt < 0) ∨ (1 < x1.toInt)) ∨ (((x2.toInt < (-1000)) ∨ (1000 < x2.toInt)) ∨ ((x3.toInt < (-1000)) ∨ (1000 < x3.toInt))))); first | with_reducible assumption | omega)
            · have hq188 := (nle_lt hc)
              have b189 : B 0 63 (x4_177) := B_w (B_ltL b179 cqb_64_64_64 hq188) (by decide +kernel) (by decide +kernel)
              refine ⟨fun hc => ?_, fun hc => ?_⟩
              · have e190 : (T178.1 0).toInt = 1 := (congrArg Int32.toInt (g181.1 0 rfl)).trans rfl
                have i191 : (T178.1 0).toInt ≠ (0 : Int32).toInt := i_ne hc
                have n192 : (0 : Int32).toInt = 0 := cqn_0
                unfold b_scale_124
                have g194 := ag_f (k := 0) (v := 1) (ag_refl (fs := [0]) (rs := [5]) (S := S)) (by decide +kernel)
                have g193 := ag_tr g194 g181 (by decide +kernel) (by decide +kernel)
                exact hK hI180 g193 (by show (((T178.1 0).toInt = 0) ∧ (((0 ≤ x1.toInt) ∧ (x1.toInt ≤ 1)) ∧ ((((-1000) ≤ x2.toInt) ∧ (x2.toInt ≤ 1000)) ∧ (((-1000) ≤ x3.toInt) ∧ (x3.toInt ≤ 1000))))) ∨ (((T178.1 0).toInt = 1) ∧ (((x1.toInt < 0) ∨ (1 < x1.toInt)) ∨ (((x2.toInt < (-1000)) ∨ (1000 < x2.toInt)) ∨ ((x3.toInt < (-1000)) ∨ (1000 < x3.toInt))))); first | with_reducible assumption | omega)
              · exact (B_dis (B_eq (g181.1 0 rfl) cqb_1_1_1) cqb_0_0_0 hc (by decide +kernel)).elim
  · have i195 : (x1).toInt ≠ (0 : Int32).toInt := i_ne hc
    have n196 : (0 : Int32).toInt = 0 := cqn_0
    refine ⟨fun hc => ?_, fun hc => ?_⟩
    · have i197 : (x1).toInt ≠ (1 : Int32).toInt := i_ne hc
      have n198 : (1 : Int32).toInt = 1 := cqn_1
      unfold b_scale_38
      unfold b_scale_43
      have hI207 := IM_f (k := 0) (v := 1) hI cqb_1_1_1 (by decide +kernel) (by decide +kernel)
      refine ⟨fun yx1 yx2 yx3 yx4 yS => x1 = yx1 ∧ x2 = yx2 ∧ x3 = yx3 ∧ B 0 64 yx4 ∧ IM yS ∧ ag [] [5] (upd S.1 0 1, S.2.1, S.2.2) yS, fun yx1 yx2 yx3 yx4 yS => (64 - yx4.toInt).toNat, ⟨rfl, rfl, rfl, (B_w cqb_0_0_0 (by decide +kernel) (by decide +kernel)), hI207, (ag_refl (fs := []) (rs := [5]) (S := (upd S.1 0 1, S.2.1, S.2.2)))⟩, fun x1_199 x2_200 x3_201 x4_202 T203 hIv => ?_⟩
      obtain ⟨rfl, rfl, rfl, b204, hI205, g206⟩ := hIv
      suffices hs : ∀ (R49 : Int32 → Int32 → Int32 → Int32 → ms → Prop), (∀ zx1 zx2 zx3 zx4 zS, (x1 = zx1 ∧ x2 = zx2 ∧ x3 = zx3 ∧ B 0 64 zx4 ∧ IM zS ∧ ag [] [5] (upd S.1 0 1, S.2.1, S.2.2) zS) → (64 - zx4.toInt).toNat < (64 - x4_202.toInt).toNat → R49 zx1 zx2 zx3 zx4 zS) → b_scale_49 x1 x2 x3 x4_202 T203 R49 K from hs _ (fun _ _ _ _ _ h1 h2 => ⟨h1, h2⟩)
      intro R49 hR490
      have hR49 := fun {zx1} {zx2} {zx3} {zx4} {zS} => hR490 zx1 zx2 zx3 zx4 zS
      unfold b_scale_49
      refine ⟨fun hc => ?_, fun hc => ?_⟩
      · have hq208 := hc
        have b209 : B 64 64 (x4_202) := B_w (B_leR cqb_64_64_64 b204 hq208) (by decide +kernel) (by decide +kernel)
        unfold b_scale_124
        have g211 := ag_f (k := 0) (v := 1) (ag_refl (fs := [0]) (rs := [5]) (S := S)) (by decide +kernel)
        have g210 := ag_tr g211 g206 (by decide +kernel) (by decide +kernel)
        have e212 : (T203.1 0).toInt = 1 := (congrArg Int32.toInt (g206.1 0 rfl)).trans rfl
        exact hK hI205 g210 (by show (((T203.1 0).toInt = 0) ∧ (((0 ≤ x1.toInt) ∧ (x1.toInt ≤ 1)) ∧ ((((-1000) ≤ x2.toInt) ∧ (x2.toInt ≤ 1000)) ∧ (((-1000) ≤ x3.toInt) ∧ (x3.toInt ≤ 1000))))) ∨ (((T203.1 0).toInt = 1) ∧ (((x1.toInt < 0) ∨ (1 < x1.toInt)) ∨ (((x2.toInt < (-1000)) ∨ (1000 < x2.toInt)) ∨ ((x3.toInt < (-1000)) ∨ (1000 < x3.toInt))))); first | with_reducible assumption | omega)
      · have hq213 := (nle_lt hc)
        have b214 : B 0 63 (x4_202) := B_w (B_ltL b204 cqb_64_64_64 hq213) (by decide +kernel) (by decide +kernel)
        refine ⟨fun hc => ?_, fun hc => ?_⟩
        · have e215 : (T203.1 0).toInt = 1 := (congrArg Int32.toInt (g206.1 0 rfl)).trans rfl
          have i216 : (T203.1 0).toInt ≠ (0 : Int32).toInt := i_ne hc
          have n217 : (0 : Int32).toInt = 0 := cqn_0
          unfold b_scale_124
          have g219 := ag_f (k := 0) (v := 1) (ag_refl (fs := [0]) (rs := [5]) (S := S)) (by decide +kernel)
          have g218 := ag_tr g219 g206 (by decide +kernel) (by decide +kernel)
          exact hK hI205 g218 (by show (((T203.1 0).toInt = 0) ∧ (((0 ≤ x1.toInt) ∧ (x1.toInt ≤ 1)) ∧ ((((-1000) ≤ x2.toInt) ∧ (x2.toInt ≤ 1000)) ∧ (((-1000) ≤ x3.toInt) ∧ (x3.toInt ≤ 1000))))) ∨ (((T203.1 0).toInt = 1) ∧ (((x1.toInt < 0) ∨ (1 < x1.toInt)) ∨ (((x2.toInt < (-1000)) ∨ (1000 < x2.toInt)) ∨ ((x3.toInt < (-1000)) ∨ (1000 < x3.toInt))))); first | with_reducible assumption | omega)
        · exact (B_dis (B_eq (g206.1 0 rfl) cqb_1_1_1) cqb_0_0_0 hc (by decide +kernel)).elim
    · have b220 : B 1 1 (x1) := B_w (B_eq hc cqb_1_1_1) (by decide +kernel) (by decide +kernel)
      have q221 : (1) ≤ (x1).toInt ∧ (x1).toInt ≤ (1) := (show B 1 1 (x1) from B_w b220 (by decide +kernel) (by decide +kernel))
      have i222 : (x1).toInt = (1 : Int32).toInt := congrArg Int32.toInt hc
      have n223 : (1 : Int32).toInt = 1 := cqn_1
      unfold b_scale_10
      refine ⟨fun hc => ?_, fun hc => ?_⟩
      · have hq224 := hc
        have b225 : B (-2147483648) (-1001) (x2) := B_w (B_ltL (B_any _) cqb_m1000_m1000_m1000 hq224) (by decide +kernel) (by decide +kernel)
        have q226 : (-2147483648) ≤ (x2).toInt ∧ (x2).toInt ≤ (-1001) := (show B (-2147483648) (-1001) (x2) from B_w b225 (by decide +kernel) (by decide +kernel))
        have i227 : (x2).toInt < (-1000 : Int32).toInt := i_lt hq224
        have n228 : (-1000 : Int32).toInt = -1000 := cqn_m1000
        unfold b_scale_38
        unfold b_scale_43
        have hI237 := IM_f (k := 0) (v := 1) hI cqb_1_1_1 (by decide +kernel) (by decide +kernel)
        refine ⟨fun yx1 yx2 yx3 yx4 yS => x1 = yx1 ∧ x2 = yx2 ∧ x3 = yx3 ∧ B 0 64 yx4 ∧ IM yS ∧ ag [] [5] (upd S.1 0 1, S.2.1, S.2.2) yS, fun yx1 yx2 yx3 yx4 yS => (64 - yx4.toInt).toNat, ⟨rfl, rfl, rfl, (B_w cqb_0_0_0 (by decide +kernel) (by decide +kernel)), hI237, (ag_refl (fs := []) (rs := [5]) (S := (upd S.1 0 1, S.2.1, S.2.2)))⟩, fun x1_229 x2_230 x3_231 x4_232 T233 hIv => ?_⟩
        obtain ⟨rfl, rfl, rfl, b234, hI235, g236⟩ := hIv
        suffices hs : ∀ (R49 : Int32 → Int32 → Int32 → Int32 → ms → Prop), (∀ zx1 zx2 zx3 zx4 zS, (x1 = zx1 ∧ x2 = zx2 ∧ x3 = zx3 ∧ B 0 64 zx4 ∧ IM zS ∧ ag [] [5] (upd S.1 0 1, S.2.1, S.2.2) zS) → (64 - zx4.toInt).toNat < (64 - x4_232.toInt).toNat → R49 zx1 zx2 zx3 zx4 zS) → b_scale_49 x1 x2 x3 x4_232 T233 R49 K from hs _ (fun _ _ _ _ _ h1 h2 => ⟨h1, h2⟩)
        intro R49 hR490
        have hR49 := fun {zx1} {zx2} {zx3} {zx4} {zS} => hR490 zx1 zx2 zx3 zx4 zS
        unfold b_scale_49
        refine ⟨fun hc => ?_, fun hc => ?_⟩
        · have hq238 := hc
          have b239 : B 64 64 (x4_232) := B_w (B_leR cqb_64_64_64 b234 hq238) (by decide +kernel) (by decide +kernel)
          unfold b_scale_124
          have g241 := ag_f (k := 0) (v := 1) (ag_refl (fs := [0]) (rs := [5]) (S := S)) (by decide +kernel)
          have g240 := ag_tr g241 g236 (by decide +kernel) (by decide +kernel)
          have e242 : (T233.1 0).toInt = 1 := (congrArg Int32.toInt (g236.1 0 rfl)).trans rfl
          exact hK hI235 g240 (by show (((T233.1 0).toInt = 0) ∧ (((0 ≤ x1.toInt) ∧ (x1.toInt ≤ 1)) ∧ ((((-1000) ≤ x2.toInt) ∧ (x2.toInt ≤ 1000)) ∧ (((-1000) ≤ x3.toInt) ∧ (x3.toInt ≤ 1000))))) ∨ (((T233.1 0).toInt = 1) ∧ (((x1.toInt < 0) ∨ (1 < x1.toInt)) ∨ (((x2.toInt < (-1000)) ∨ (1000 < x2.toInt)) ∨ ((x3.toInt < (-1000)) ∨ (1000 < x3.toInt))))); first | with_reducible assumption | omega)
        · have hq243 := (nle_lt hc)
          have b244 : B 0 63 (x4_232) := B_w (B_ltL b234 cqb_64_64_64 hq243) (by decide +kernel) (by decide +kernel)
          refine ⟨fun hc => ?_, fun hc => ?_⟩
          · have e245 : (T233.1 0).toInt = 1 := (congrArg Int32.toInt (g236.1 0 rfl)).trans rfl
            have i246 : (T233.1 0).toInt ≠ (0 : Int32).toInt := i_ne hc
            have n247 : (0 : Int32).toInt = 0 := cqn_0
            unfold b_scale_124
            have g249 := ag_f (k := 0) (v := 1) (ag_refl (fs := [0]) (rs := [5]) (S := S)) (by decide +kernel)
            have g248 := ag_tr g249 g236 (by decide +kernel) (by decide +kernel)
            exact hK hI235 g248 (by show (((T233.1 0).toInt = 0) ∧ (((0 ≤ x1.toInt) ∧ (x1.toInt ≤ 1)) ∧ ((((-1000) ≤ x2.toInt) ∧ (x2.toInt ≤ 1000)) ∧ (((-1000) ≤ x3.toInt) ∧ (x3.toInt ≤ 1000))))) ∨ (((T233.1 0).toInt = 1) ∧ (((x1.toInt < 0) ∨ (1 < x1.toInt)) ∨ (((x2.toInt < (-1000)) ∨ (1000 < x2.toInt)) ∨ ((x3.toInt < (-1000)) ∨ (1000 < x3.toInt))))); first | with_reducible assumption | omega)
          · exact (B_dis (B_eq (g236.1 0 rfl) cqb_1_1_1) cqb_0_0_0 hc (by decide +kernel)).elim
      · have hq250 := (nlt_le hc)
        have b251 : B (-1000) 2147483647 (x2) := B_w (B_leR cqb_m1000_m1000_m1000 (B_any _) hq250) (by decide +kernel) (by decide +kernel)
        have q252 : (-1000) ≤ (x2).toInt ∧ (x2).toInt ≤ (2147483647) := (show B (-1000) 2147483647 (x2) from B_w b251 (by decide +kernel) (by decide +kernel))
        have i253 : (-1000 : Int32).toInt ≤ (x2).toInt := i_le hq250
        have n254 : (-1000 : Int32).toInt = -1000 := cqn_m1000
        refine ⟨fun hc => ?_, fun hc => ?_⟩
        · have hq255 := hc
          have b256 : B 1001 2147483647 (x2) := B_w (B_ltR cqb_1000_1000_1000 b251 hq255) (by decide +kernel) (by decide +kernel)
          have q257 : (1001) ≤ (x2).toInt ∧ (x2).toInt ≤ (2147483647) := (show B 1001 2147483647 (x2) from B_w b256 (by decide +kernel) (by decide +kernel))
          unfold b_scale_38
          unfold b_scale_43
          have hI266 := IM_f (k := 0) (v := 1) hI cqb_1_1_1 (by decide +kernel) (by decide +kernel)
          refine ⟨fun yx1 yx2 yx3 yx4 yS => x1 = yx1 ∧ x2 = yx2 ∧ x3 = yx3 ∧ B 0 64 yx4 ∧ IM yS ∧ ag [] [5] (upd S.1 0 1, S.2.1, S.2.2) yS, fun yx1 yx2 yx3 yx4 yS => (64 - yx4.toInt).toNat, ⟨rfl, rfl, rfl, (B_w cqb_0_0_0 (by decide +kernel) (by decide +kernel)), hI266, (ag_refl (fs := []) (rs := [5]) (S := (upd S.1 0 1, S.2.1, S.2.2)))⟩, fun x1_258 x2_259 x3_260 x4_261 T262 hIv => ?_⟩
          obtain ⟨rfl, rfl, rfl, b263, hI264, g265⟩ := hIv
          suffices hs : ∀ (R49 : Int32 → Int32 → Int32 → Int32 → ms → Prop), (∀ zx1 zx2 zx3 zx4 zS, (x1 = zx1 ∧ x2 = zx2 ∧ x3 = zx3 ∧ B 0 64 zx4 ∧ IM zS ∧ ag [] [5] (upd S.1 0 1, S.2.1, S.2.2) zS) → (64 - zx4.toInt).toNat < (64 - x4_261.toInt).toNat → R49 zx1 zx2 zx3 zx4 zS) → b_scale_49 x1 x2 x3 x4_261 T262 R49 K from hs _ (fun _ _ _ _ _ h1 h2 => ⟨h1, h2⟩)
          intro R49 hR490
          have hR49 := fun {zx1} {zx2} {zx3} {zx4} {zS} => hR490 zx1 zx2 zx3 zx4 zS
          unfold b_scale_49
          refine ⟨fun hc => ?_, fun hc => ?_⟩
          · have hq267 := hc
            have b268 : B 64 64 (x4_261) := B_w (B_leR cqb_64_64_64 b263 hq267) (by decide +kernel) (by decide +kernel)
            unfold b_scale_124
            have g270 := ag_f (k := 0) (v := 1) (ag_refl (fs := [0]) (rs := [5]) (S := S)) (by decide +kernel)
            have g269 := ag_tr g270 g265 (by decide +kernel) (by decide +kernel)
            have e271 : (T262.1 0).toInt = 1 := (congrArg Int32.toInt (g265.1 0 rfl)).trans rfl
            exact hK hI264 g269 (by show (((T262.1 0).toInt = 0) ∧ (((0 ≤ x1.toInt) ∧ (x1.toInt ≤ 1)) ∧ ((((-1000) ≤ x2.toInt) ∧ (x2.toInt ≤ 1000)) ∧ (((-1000) ≤ x3.toInt) ∧ (x3.toInt ≤ 1000))))) ∨ (((T262.1 0).toInt = 1) ∧ (((x1.toInt < 0) ∨ (1 < x1.toInt)) ∨ (((x2.toInt < (-1000)) ∨ (1000 < x2.toInt)) ∨ ((x3.toInt < (-1000)) ∨ (1000 < x3.toInt))))); first | with_reducible assumption | omega)
          · have hq272 := (nle_lt hc)
            have b273 : B 0 63 (x4_261) := B_w (B_ltL b263 cqb_64_64_64 hq272) (by decide +kernel) (by decide +kernel)
            refine ⟨fun hc => ?_, fun hc => ?_⟩
            · have e274 : (T262.1 0).toInt = 1 := (congrArg Int32.toInt (g265.1 0 rfl)).trans rfl
              have i275 : (T262.1 0).toInt ≠ (0 : Int32).toInt := i_ne hc
              have n276 : (0 : Int32).toInt = 0 := cqn_0
              unfold b_scale_124
              have g278 := ag_f (k := 0) (v := 1) (ag_refl (fs := [0]) (rs := [5]) (S := S)) (by decide +kernel)
              have g277 := ag_tr g278 g265 (by decide +kernel) (by decide +kernel)
              exact hK hI264 g277 (by show (((T262.1 0).toInt = 0) ∧ (((0 ≤ x1.toInt) ∧ (x1.toInt ≤ 1)) ∧ ((((-1000) ≤ x2.toInt) ∧ (x2.toInt ≤ 1000)) ∧ (((-1000) ≤ x3.toInt) ∧ (x3.toInt ≤ 1000))))) ∨ (((T262.1 0).toInt = 1) ∧ (((x1.toInt < 0) ∨ (1 < x1.toInt)) ∨ (((x2.toInt < (-1000)) ∨ (1000 < x2.toInt)) ∨ ((x3.toInt < (-1000)) ∨ (1000 < x3.toInt))))); first | with_reducible assumption | omega)
            · exact (B_dis (B_eq (g265.1 0 rfl) cqb_1_1_1) cqb_0_0_0 hc (by decide +kernel)).elim
        · have hq279 := (nlt_le hc)
          have b280 : B (-1000) 1000 (x2) := B_w (B_leL b251 cqb_1000_1000_1000 hq279) (by decide +kernel) (by decide +kernel)
          have q281 : (-1000) ≤ (x2).toInt ∧ (x2).toInt ≤ (1000) := (show B (-1000) 1000 (x2) from B_w b280 (by decide +kernel) (by decide +kernel))
          refine ⟨fun hc => ?_, fun hc => ?_⟩
          · have hq282 := hc
            have b283 : B (-2147483648) (-1001) (x3) := B_w (B_ltL (B_any _) cqb_m1000_m1000_m1000 hq282) (by decide +kernel) (by decide +kernel)
            have q284 : (-2147483648) ≤ (x3).toInt ∧ (x3).toInt ≤ (-1001) := (show B (-2147483648) (-1001) (x3) from B_w b283 (by decide +kernel) (by decide +kernel))
            have i285 : (x3).toInt < (-1000 : Int32).toInt := i_lt hq282
            have n286 : (-1000 : Int32).toInt = -1000 := cqn_m1000
            unfold b_scale_38
            unfold b_scale_43
            have hI295 := IM_f (k := 0) (v := 1) hI cqb_1_1_1 (by decide +kernel) (by decide +kernel)
            refine ⟨fun yx1 yx2 yx3 yx4 yS => x1 = yx1 ∧ x2 = yx2 ∧ x3 = yx3 ∧ B 0 64 yx4 ∧ IM yS ∧ ag [] [5] (upd S.1 0 1, S.2.1, S.2.2) yS, fun yx1 yx2 yx3 yx4 yS => (64 - yx4.toInt).toNat, ⟨rfl, rfl, rfl, (B_w cqb_0_0_0 (by decide +kernel) (by decide +kernel)), hI295, (ag_refl (fs := []) (rs := [5]) (S := (upd S.1 0 1, S.2.1, S.2.2)))⟩, fun x1_287 x2_288 x3_289 x4_290 T291 hIv => ?_⟩
            obtain ⟨rfl, rfl, rfl, b292, hI293, g294⟩ := hIv
            suffices hs : ∀ (R49 : Int32 → Int32 → Int32 → Int32 → ms → Prop), (∀ zx1 zx2 zx3 zx4 zS, (x1 = zx1 ∧ x2 = zx2 ∧ x3 = zx3 ∧ B 0 64 zx4 ∧ IM zS ∧ ag [] [5] (upd S.1 0 1, S.2.1, S.2.2) zS) → (64 - zx4.toInt).toNat < (64 - x4_290.toInt).toNat → R49 zx1 zx2 zx3 zx4 zS) → b_scale_49 x1 x2 x3 x4_290 T291 R49 K from hs _ (fun _ _ _ _ _ h1 h2 => ⟨h1, h2⟩)
            intro R49 hR490
            have hR49 := fun {zx1} {zx2} {zx3} {zx4} {zS} => hR490 zx1 zx2 zx3 zx4 zS
            unfold b_scale_49
            refine ⟨fun hc => ?_, fun hc => ?_⟩
            · have hq296 := hc
              have b297 : B 64 64 (x4_290) := B_w (B_leR cqb_64_64_64 b292 hq296) (by decide +kernel) (by decide +kernel)
              unfold b_scale_124
              have g299 := ag_f (k := 0) (v := 1) (ag_refl (fs := [0]) (rs := [5]) (S := S)) (by decide +kernel)
              have g298 := ag_tr g299 g294 (by decide +kernel) (by decide +kernel)
              have e300 : (T291.1 0).toInt = 1 := (congrArg Int32.toInt (g294.1 0 rfl)).trans rfl
              exact hK hI293 g298 (by show (((T291.1 0).toInt = 0) ∧ (((0 ≤ x1.toInt) ∧ (x1.toInt ≤ 1)) ∧ ((((-1000) ≤ x2.toInt) ∧ (x2.toInt ≤ 1000)) ∧ (((-1000) ≤ x3.toInt) ∧ (x3.toInt ≤ 1000))))) ∨ (((T291.1 0).toInt = 1) ∧ (((x1.toInt < 0) ∨ (1 < x1.toInt)) ∨ (((x2.toInt < (-1000)) ∨ (1000 < x2.toInt)) ∨ ((x3.toInt < (-1000)) ∨ (1000 < x3.toInt))))); first | with_reducible assumption | omega)
            · have hq301 := (nle_lt hc)
              have b302 : B 0 63 (x4_290) := B_w (B_ltL b292 cqb_64_64_64 hq301) (by decide +kernel) (by decide +kernel)
              refine ⟨fun hc => ?_, fun hc => ?_⟩
              · have e303 : (T291.1 0).toInt = 1 := (congrArg Int32.toInt (g294.1 0 rfl)).trans rfl
                have i304 : (T291.1 0).toInt ≠ (0 : Int32).toInt := i_ne hc
                have n305 : (0 : Int32).toInt = 0 := cqn_0
                unfold b_scale_124
                have g307 := ag_f (k := 0) (v := 1) (ag_refl (fs := [0]) (rs := [5]) (S := S)) (by decide +kernel)
                have g306 := ag_tr g307 g294 (by decide +kernel) (by decide +kernel)
                exact hK hI293 g306 (by show (((T291.1 0).toInt = 0) ∧ (((0 ≤ x1.toInt) ∧ (x1.toInt ≤ 1)) ∧ ((((-1000) ≤ x2.toInt) ∧ (x2.toInt ≤ 1000)) ∧ (((-1000) ≤ x3.toInt) ∧ (x3.toInt ≤ 1000))))) ∨ (((T291.1 0).toInt = 1) ∧ (((x1.toInt < 0) ∨ (1 < x1.toInt)) ∨ (((x2.toInt < (-1000)) ∨ (1000 < x2.toInt)) ∨ ((x3.toInt < (-1000)) ∨ (1000 < x3.toInt))))); first | with_reducible assumption | omega)
              · exact (B_dis (B_eq (g294.1 0 rfl) cqb_1_1_1) cqb_0_0_0 hc (by decide +kernel)).elim
          · have hq308 := (nlt_le hc)
            have b309 : B (-1000) 2147483647 (x3) := B_w (B_leR cqb_m1000_m1000_m1000 (B_any _) hq308) (by decide +kernel) (by decide +kernel)
            have q310 : (-1000) ≤ (x3).toInt ∧ (x3).toInt ≤ (2147483647) := (show B (-1000) 2147483647 (x3) from B_w b309 (by decide +kernel) (by decide +kernel))
            have i311 : (-1000 : Int32).toInt ≤ (x3).toInt := i_le hq308
            have n312 : (-1000 : Int32).toInt = -1000 := cqn_m1000
            refine ⟨fun hc => ?_, fun hc => ?_⟩
            · have hq313 := hc
              have b314 : B (-1000) 1000 (x3) := B_w (B_leL b309 cqb_1000_1000_1000 hq313) (by decide +kernel) (by decide +kernel)
              have q315 : (-1000) ≤ (x3).toInt ∧ (x3).toInt ≤ (1000) := (show B (-1000) 1000 (x3) from B_w b314 (by decide +kernel) (by decide +kernel))
              unfold b_scale_43
              have hI324 := IM_f (k := 0) (v := 0) hI cqb_0_0_0 (by decide +kernel) (by decide +kernel)
              refine ⟨fun yx1 yx2 yx3 yx4 yS => x1 = yx1 ∧ x2 = yx2 ∧ x3 = yx3 ∧ B 0 64 yx4 ∧ IM yS ∧ ag [] [5] (upd S.1 0 0, S.2.1, S.2.2) yS, fun yx1 yx2 yx3 yx4 yS => (64 - yx4.toInt).toNat, ⟨rfl, rfl, rfl, (B_w cqb_0_0_0 (by decide +kernel) (by decide +kernel)), hI324, (ag_refl (fs := []) (rs := [5]) (S := (upd S.1 0 0, S.2.1, S.2.2)))⟩, fun x1_316 x2_317 x3_318 x4_319 T320 hIv => ?_⟩
              obtain ⟨rfl, rfl, rfl, b321, hI322, g323⟩ := hIv
              suffices hs : ∀ (R49 : Int32 → Int32 → Int32 → Int32 → ms → Prop), (∀ zx1 zx2 zx3 zx4 zS, (x1 = zx1 ∧ x2 = zx2 ∧ x3 = zx3 ∧ B 0 64 zx4 ∧ IM zS ∧ ag [] [5] (upd S.1 0 0, S.2.1, S.2.2) zS) → (64 - zx4.toInt).toNat < (64 - x4_319.toInt).toNat → R49 zx1 zx2 zx3 zx4 zS) → b_scale_49 x1 x2 x3 x4_319 T320 R49 K from hs _ (fun _ _ _ _ _ h1 h2 => ⟨h1, h2⟩)
              intro R49 hR490
              have hR49 := fun {zx1} {zx2} {zx3} {zx4} {zS} => hR490 zx1 zx2 zx3 zx4 zS
              unfold b_scale_49
              refine ⟨fun hc => ?_, fun hc => ?_⟩
              · have hq325 := hc
                have b326 : B 64 64 (x4_319) := B_w (B_leR cqb_64_64_64 b321 hq325) (by decide +kernel) (by decide +kernel)
                unfold b_scale_124
                have g328 := ag_f (k := 0) (v := 0) (ag_refl (fs := [0]) (rs := [5]) (S := S)) (by decide +kernel)
                have g327 := ag_tr g328 g323 (by decide +kernel) (by decide +kernel)
                have e329 : (T320.1 0).toInt = 0 := (congrArg Int32.toInt (g323.1 0 rfl)).trans rfl
                exact hK hI322 g327 (by show (((T320.1 0).toInt = 0) ∧ (((0 ≤ x1.toInt) ∧ (x1.toInt ≤ 1)) ∧ ((((-1000) ≤ x2.toInt) ∧ (x2.toInt ≤ 1000)) ∧ (((-1000) ≤ x3.toInt) ∧ (x3.toInt ≤ 1000))))) ∨ (((T320.1 0).toInt = 1) ∧ (((x1.toInt < 0) ∨ (1 < x1.toInt)) ∨ (((x2.toInt < (-1000)) ∨ (1000 < x2.toInt)) ∨ ((x3.toInt < (-1000)) ∨ (1000 < x3.toInt))))); first | with_reducible assumption | omega)
              · have hq330 := (nle_lt hc)
                have b331 : B 0 63 (x4_319) := B_w (B_ltL b321 cqb_64_64_64 hq330) (by decide +kernel) (by decide +kernel)
                refine ⟨fun hc => ?_, fun hc => ?_⟩
                · exact (hc (B_z (B_eq (g323.1 0 rfl) cqb_0_0_0))).elim
                · have e332 : (T320.1 0).toInt = 0 := (congrArg Int32.toInt (g323.1 0 rfl)).trans rfl
                  have i333 : (T320.1 0).toInt = (0 : Int32).toInt := congrArg Int32.toInt hc
                  have n334 : (0 : Int32).toInt = 0 := cqn_0
                  refine ⟨fun hc => ?_, fun hc => ?_⟩
                  · have hq335 := hc
                    have b336 : B 1 15000 (x2 + (x3 * ((x4_319 / 8) + (x4_319 - ((x4_319 / 8) * 8))))) := B_w (B_leR cqb_1_1_1 (B_add b280 (show B (-14000) 14000 (x3 * ((x4_319 / 8) + (x4_319 - ((x4_319 / 8) * 8)))) from B_mulS (m := 1000) (n := 14) (B_w b314 (by decide +kernel) (by decide +kernel)) (B_w (B_add (show B 0 7 (x4_319 / 8) from B_div2 b331 cqb_8_8_8 (by decide +kernel) (by decide +kernel) (by decide +kernel) (by decide +kernel)) (B_rem b331 cqb_8_8_8 (by decide +kernel) (by decide +kernel)) (by decide +kernel) (by decide +kernel)) (by decide +kernel) (by decide +kernel)) (by decide +kernel)) (by decide +kernel) (by decide +kernel)) hq335) (by decide +kernel) (by decide +kernel)
                    have q337 : (0) ≤ (x4_319).toInt ∧ (x4_319).toInt ≤ (63) := (show B 0 63 (x4_319) from B_w b331 (by decide +kernel) (by decide +kernel))
                    have e338 : (x4_319 / 8).toInt = ((x4_319).toInt / 8) := (t_div b331 cqb_8_8_8 (by decide +kernel) (by decide +kernel)).trans (by rw [cqn_8])
                    have q339 : (0) ≤ (x4_319 / 8).toInt ∧ (x4_319 / 8).toInt ≤ (7) := (show B 0 7 (x4_319 / 8) from B_div2 b331 cqb_8_8_8 (by decide +kernel) (by decide +kernel) (by decide +kernel) (by decide +kernel))
                    have e340 : (x4_319 - ((x4_319 / 8) * 8)).toInt = ((x4_319).toInt % 8) := (t_rem b331 cqb_8_8_8 (by decide +kernel) (by decide +kernel)).trans (by rw [cqn_8])
                    have q341 : (0) ≤ (x4_319 - ((x4_319 / 8) * 8)).toInt ∧ (x4_319 - ((x4_319 / 8) * 8)).toInt ≤ (7) := (show B 0 7 (x4_319 - ((x4_319 / 8) * 8)) from B_w (B_rem b331 cqb_8_8_8 (by decide +kernel) (by decide +kernel)) (by decide +kernel) (by decide +kernel))
                    have e342 : ((x4_319 / 8) + (x4_319 - ((x4_319 / 8) * 8))).toInt = (((x4_319).toInt / 8) + ((x4_319).toInt % 8)) := (t_add (show B 0 7 (x4_319 / 8) from B_div2 b331 cqb_8_8_8 (by decide +kernel) (by decide +kernel) (by decide +kernel) (by decide +kernel)) (B_rem b331 cqb_8_8_8 (by decide +kernel) (by decide +kernel)) (by decide +kernel) (by decide +kernel)).trans (by rw [e338, e340])
                    have q343 : (0) ≤ ((x4_319 / 8) + (x4_319 - ((x4_319 / 8) * 8))).toInt ∧ ((x4_319 / 8) + (x4_319 - ((x4_319 / 8) * 8))).toInt ≤ (14) := (show B 0 14 ((x4_319 / 8) + (x4_319 - ((x4_319 / 8) * 8))) from B_w (B_add (show B 0 7 (x4_319 / 8) from B_div2 b331 cqb_8_8_8 (by decide +kernel) (by decide +kernel) (by decide +kernel) (by decide +kernel)) (B_rem b331 cqb_8_8_8 (by decide +kernel) (by decide +kernel)) (by decide +kernel) (by decide +kernel)) (by decide +kernel) (by decide +kernel))
                    have e344 : (x3 * ((x4_319 / 8) + (x4_319 - ((x4_319 / 8) * 8)))).toInt = ((x3).toInt * (((x4_319).toInt / 8) + ((x4_319).toInt % 8))) := (t_mulS (m := 1000) (n := 14) (B_w b314 (by decide +kernel) (by decide +kernel)) (B_w (B_add (show B 0 7 (x4_319 / 8) from B_div2 b331 cqb_8_8_8 (by decide +kernel) (by decide +kernel) (by decide +kernel) (by decide +kernel)) (B_rem b331 cqb_8_8_8 (by decide +kernel) (by decide +kernel)) (by decide +kernel) (by decide +kernel)) (by decide +kernel) (by decide +kernel)) (by decide +kernel)).trans (by rw [e342])
                    have q345 : (-14000) ≤ (x3 * ((x4_319 / 8) + (x4_319 - ((x4_319 / 8) * 8)))).toInt ∧ (x3 * ((x4_319 / 8) + (x4_319 - ((x4_319 / 8) * 8)))).toInt ≤ (14000) := (show B (-14000) 14000 (x3 * ((x4_319 / 8) + (x4_319 - ((x4_319 / 8) * 8)))) from B_mulS (m := 1000) (n := 14) (B_w b314 (by decide +kernel) (by decide +kernel)) (B_w (B_add (show B 0 7 (x4_319 / 8) from B_div2 b331 cqb_8_8_8 (by decide +kernel) (by decide +kernel) (by decide +kernel) (by decide +kernel)) (B_rem b331 cqb_8_8_8 (by decide +kernel) (by decide +kernel)) (by decide +kernel) (by decide +kernel)) (by decide +kernel) (by decide +kernel)) (by decide +kernel))
                    have e346 : (x2 + (x3 * ((x4_319 / 8) + (x4_319 - ((x4_319 / 8) * 8))))).toInt = ((x2).toInt + ((x3).toInt * (((x4_319).toInt / 8) + ((x4_319).toInt % 8)))) := (t_add b280 (show B (-14000) 14000 (x3 * ((x4_319 / 8) + (x4_319 - ((x4_319 / 8) * 8)))) from B_mulS (m := 1000) (n := 14) (B_w b314 (by decide +kernel) (by decide +kernel)) (B_w (B_add (show B 0 7 (x4_319 / 8) from B_div2 b331 cqb_8_8_8 (by decide +kernel) (by decide +kernel) (by decide +kernel) (by decide +kernel)) (B_rem b331 cqb_8_8_8 (by decide +kernel) (by decide +kernel)) (by decide +kernel) (by decide +kernel)) (by decide +kernel) (by decide +kernel)) (by decide +kernel)) (by decide +kernel) (by decide +kernel)).trans (by rw [e344])
                    have q347 : (1) ≤ (x2 + (x3 * ((x4_319 / 8) + (x4_319 - ((x4_319 / 8) * 8))))).toInt ∧ (x2 + (x3 * ((x4_319 / 8) + (x4_319 - ((x4_319 / 8) * 8))))).toInt ≤ (15000) := (show B 1 15000 (x2 + (x3 * ((x4_319 / 8) + (x4_319 - ((x4_319 / 8) * 8))))) from B_w b336 (by decide +kernel) (by decide +kernel))
                    have i348 : (1 : Int32).toInt ≤ (x2 + (x3 * ((x4_319 / 8) + (x4_319 - ((x4_319 / 8) * 8))))).toInt := i_le hq335
                    have n349 : (1 : Int32).toInt = 1 := cqn_1
                    refine ⟨fun hc => ?_, fun hc => ?_⟩
                    · have hq350 := hc
                      have b351 : B 1 255 (x2 + (x3 * ((x4_319 / 8) + (x4_319 - ((x4_319 / 8) * 8))))) := B_w (B_leL b336 cqb_255_255_255 hq350) (by decide +kernel) (by decide +kernel)
                      have q352 : (1) ≤ (x2 + (x3 * ((x4_319 / 8) + (x4_319 - ((x4_319 / 8) * 8))))).toInt ∧ (x2 + (x3 * ((x4_319 / 8) + (x4_319 - ((x4_319 / 8) * 8))))).toInt ≤ (255) := (show B 1 255 (x2 + (x3 * ((x4_319 / 8) + (x4_319 - ((x4_319 / 8) * 8))))) from B_w b351 (by decide +kernel) (by decide +kernel))
                      have i353 : (x2 + (x3 * ((x4_319 / 8) + (x4_319 - ((x4_319 / 8) * 8))))).toInt ≤ (255 : Int32).toInt := i_le hq350
                      have n354 : (255 : Int32).toInt = 255 := cqn_255
                      unfold b_scale_117
                      refine ⟨vp_B (B_add (B_mul cqb_64_64_64 b220 (by decide +kernel) (by decide +kernel) (by decide +kernel)) b331 (by decide +kernel) (by decide +kernel)) (by decide +kernel) (by decide +kernel), ?_⟩
                      have hI355 := IM_r (r := 5) (i := ((64 * x1) + x4_319).toNatClampNeg) (v := x2 + (x3 * ((x4_319 / 8) + (x4_319 - ((x4_319 / 8) * 8))))) hI322 b351 (by decide +kernel) (by decide +kernel)
                      have g357 := ag_tr (ag_refl (fs := []) (rs := [5]) (S := (upd S.1 0 0, S.2.1, S.2.2))) g323 (by decide +kernel) (by decide +kernel)
                      have g356 := ag_r (r := 5) (w := upd (T320.2.1 5) ((64 * x1) + x4_319).toNatClampNeg (x2 + (x3 * ((x4_319 / 8) + (x4_319 - ((x4_319 / 8) * 8)))))) g357 (by decide +kernel)
                      have e358 : (x4_319 + 1).toInt = ((x4_319).toInt + 1) := (t_add b331 cqb_1_1_1 (by decide +kernel) (by decide +kernel)).trans (by rw [cqn_1])
                      have q359 : (1) ≤ (x4_319 + 1).toInt ∧ (x4_319 + 1).toInt ≤ (64) := (show B 1 64 (x4_319 + 1) from B_w (B_add b331 cqb_1_1_1 (by decide +kernel) (by decide +kernel)) (by decide +kernel) (by decide +kernel))
                      exact hR49 ⟨rfl, rfl, rfl, (B_w (B_add b331 cqb_1_1_1 (by decide +kernel) (by decide +kernel)) (by decide +kernel) (by decide +kernel)), hI355, g356⟩ (by show (64 - (x4_319 + 1).toInt).toNat < (64 - x4_319.toInt).toNat; omega)
                    · have hq360 := (nle_lt hc)
                      have b361 : B 256 15000 (x2 + (x3 * ((x4_319 / 8) + (x4_319 - ((x4_319 / 8) * 8))))) := B_w (B_ltR cqb_255_255_255 b336 hq360) (by decide +kernel) (by decide +kernel)
                      have q362 : (256) ≤ (x2 + (x3 * ((x4_319 / 8) + (x4_319 - ((x4_319 / 8) * 8))))).toInt ∧ (x2 + (x3 * ((x4_319 / 8) + (x4_319 - ((x4_319 / 8) * 8))))).toInt ≤ (15000) := (show B 256 15000 (x2 + (x3 * ((x4_319 / 8) + (x4_319 - ((x4_319 / 8) * 8))))) from B_w b361 (by decide +kernel) (by decide +kernel))
                      have i363 : (255 : Int32).toInt < (x2 + (x3 * ((x4_319 / 8) + (x4_319 - ((x4_319 / 8) * 8))))).toInt := i_lt hq360
                      have n364 : (255 : Int32).toInt = 255 := cqn_255
                      unfold b_scale_117
                      refine ⟨vp_B (B_add (B_mul cqb_64_64_64 b220 (by decide +kernel) (by decide +kernel) (by decide +kernel)) b331 (by decide +kernel) (by decide +kernel)) (by decide +kernel) (by decide +kernel), ?_⟩
                      have hI365 := IM_r (r := 5) (i := ((64 * x1) + x4_319).toNatClampNeg) (v := 255) hI322 cqb_255_255_255 (by decide +kernel) (by decide +kernel)
                      have g367 := ag_tr (ag_refl (fs := []) (rs := [5]) (S := (upd S.1 0 0, S.2.1, S.2.2))) g323 (by decide +kernel) (by decide +kernel)
                      have g366 := ag_r (r := 5) (w := upd (T320.2.1 5) ((64 * x1) + x4_319).toNatClampNeg 255) g367 (by decide +kernel)
                      have e368 : (x4_319 + 1).toInt = ((x4_319).toInt + 1) := (t_add b331 cqb_1_1_1 (by decide +kernel) (by decide +kernel)).trans (by rw [cqn_1])
                      have q369 : (1) ≤ (x4_319 + 1).toInt ∧ (x4_319 + 1).toInt ≤ (64) := (show B 1 64 (x4_319 + 1) from B_w (B_add b331 cqb_1_1_1 (by decide +kernel) (by decide +kernel)) (by decide +kernel) (by decide +kernel))
                      exact hR49 ⟨rfl, rfl, rfl, (B_w (B_add b331 cqb_1_1_1 (by decide +kernel) (by decide +kernel)) (by decide +kernel) (by decide +kernel)), hI365, g366⟩ (by show (64 - (x4_319 + 1).toInt).toNat < (64 - x4_319.toInt).toNat; omega)
                  · have hq370 := (nle_lt hc)
                    have b371 : B (-15000) 0 (x2 + (x3 * ((x4_319 / 8) + (x4_319 - ((x4_319 / 8) * 8))))) := B_w (B_ltL (B_add b280 (show B (-14000) 14000 (x3 * ((x4_319 / 8) + (x4_319 - ((x4_319 / 8) * 8)))) from B_mulS (m := 1000) (n := 14) (B_w b314 (by decide +kernel) (by decide +kernel)) (B_w (B_add (show B 0 7 (x4_319 / 8) from B_div2 b331 cqb_8_8_8 (by decide +kernel) (by decide +kernel) (by decide +kernel) (by decide +kernel)) (B_rem b331 cqb_8_8_8 (by decide +kernel) (by decide +kernel)) (by decide +kernel) (by decide +kernel)) (by decide +kernel) (by decide +kernel)) (by decide +kernel)) (by decide +kernel) (by decide +kernel)) cqb_1_1_1 hq370) (by decide +kernel) (by decide +kernel)
                    have q372 : (0) ≤ (x4_319).toInt ∧ (x4_319).toInt ≤ (63) := (show B 0 63 (x4_319) from B_w b331 (by decide +kernel) (by decide +kernel))
                    have e373 : (x4_319 / 8).toInt = ((x4_319).toInt / 8) := (t_div b331 cqb_8_8_8 (by decide +kernel) (by decide +kernel)).trans (by rw [cqn_8])
                    have q374 : (0) ≤ (x4_319 / 8).toInt ∧ (x4_319 / 8).toInt ≤ (7) := (show B 0 7 (x4_319 / 8) from B_div2 b331 cqb_8_8_8 (by decide +kernel) (by decide +kernel) (by decide +kernel) (by decide +kernel))
                    have e375 : (x4_319 - ((x4_319 / 8) * 8)).toInt = ((x4_319).toInt % 8) := (t_rem b331 cqb_8_8_8 (by decide +kernel) (by decide +kernel)).trans (by rw [cqn_8])
                    have q376 : (0) ≤ (x4_319 - ((x4_319 / 8) * 8)).toInt ∧ (x4_319 - ((x4_319 / 8) * 8)).toInt ≤ (7) := (show B 0 7 (x4_319 - ((x4_319 / 8) * 8)) from B_w (B_rem b331 cqb_8_8_8 (by decide +kernel) (by decide +kernel)) (by decide +kernel) (by decide +kernel))
                    have e377 : ((x4_319 / 8) + (x4_319 - ((x4_319 / 8) * 8))).toInt = (((x4_319).toInt / 8) + ((x4_319).toInt % 8)) := (t_add (show B 0 7 (x4_319 / 8) from B_div2 b331 cqb_8_8_8 (by decide +kernel) (by decide +kernel) (by decide +kernel) (by decide +kernel)) (B_rem b331 cqb_8_8_8 (by decide +kernel) (by decide +kernel)) (by decide +kernel) (by decide +kernel)).trans (by rw [e373, e375])
                    have q378 : (0) ≤ ((x4_319 / 8) + (x4_319 - ((x4_319 / 8) * 8))).toInt ∧ ((x4_319 / 8) + (x4_319 - ((x4_319 / 8) * 8))).toInt ≤ (14) := (show B 0 14 ((x4_319 / 8) + (x4_319 - ((x4_319 / 8) * 8))) from B_w (B_add (show B 0 7 (x4_319 / 8) from B_div2 b331 cqb_8_8_8 (by decide +kernel) (by decide +kernel) (by decide +kernel) (by decide +kernel)) (B_rem b331 cqb_8_8_8 (by decide +kernel) (by decide +kernel)) (by decide +kernel) (by decide +kernel)) (by decide +kernel) (by decide +kernel))
                    have e379 : (x3 * ((x4_319 / 8) + (x4_319 - ((x4_319 / 8) * 8)))).toInt = ((x3).toInt * (((x4_319).toInt / 8) + ((x4_319).toInt % 8))) := (t_mulS (m := 1000) (n := 14) (B_w b314 (by decide +kernel) (by decide +kernel)) (B_w (B_add (show B 0 7 (x4_319 / 8) from B_div2 b331 cqb_8_8_8 (by decide +kernel) (by decide +kernel) (by decide +kernel) (by decide +kernel)) (B_rem b331 cqb_8_8_8 (by decide +kernel) (by decide +kernel)) (by decide +kernel) (by decide +kernel)) (by decide +kernel) (by decide +kernel)) (by decide +kernel)).trans (by rw [e377])
                    have q380 : (-14000) ≤ (x3 * ((x4_319 / 8) + (x4_319 - ((x4_319 / 8) * 8)))).toInt ∧ (x3 * ((x4_319 / 8) + (x4_319 - ((x4_319 / 8) * 8)))).toInt ≤ (14000) := (show B (-14000) 14000 (x3 * ((x4_319 / 8) + (x4_319 - ((x4_319 / 8) * 8)))) from B_mulS (m := 1000) (n := 14) (B_w b314 (by decide +kernel) (by decide +kernel)) (B_w (B_add (show B 0 7 (x4_319 / 8) from B_div2 b331 cqb_8_8_8 (by decide +kernel) (by decide +kernel) (by decide +kernel) (by decide +kernel)) (B_rem b331 cqb_8_8_8 (by decide +kernel) (by decide +kernel)) (by decide +kernel) (by decide +kernel)) (by decide +kernel) (by decide +kernel)) (by decide +kernel))
                    have e381 : (x2 + (x3 * ((x4_319 / 8) + (x4_319 - ((x4_319 / 8) * 8))))).toInt = ((x2).toInt + ((x3).toInt * (((x4_319).toInt / 8) + ((x4_319).toInt % 8)))) := (t_add b280 (show B (-14000) 14000 (x3 * ((x4_319 / 8) + (x4_319 - ((x4_319 / 8) * 8)))) from B_mulS (m := 1000) (n := 14) (B_w b314 (by decide +kernel) (by decide +kernel)) (B_w (B_add (show B 0 7 (x4_319 / 8) from B_div2 b331 cqb_8_8_8 (by decide +kernel) (by decide +kernel) (by decide +kernel) (by decide +kernel)) (B_rem b331 cqb_8_8_8 (by decide +kernel) (by decide +kernel)) (by decide +kernel) (by decide +kernel)) (by decide +kernel) (by decide +kernel)) (by decide +kernel)) (by decide +kernel) (by decide +kernel)).trans (by rw [e379])
                    have q382 : (-15000) ≤ (x2 + (x3 * ((x4_319 / 8) + (x4_319 - ((x4_319 / 8) * 8))))).toInt ∧ (x2 + (x3 * ((x4_319 / 8) + (x4_319 - ((x4_319 / 8) * 8))))).toInt ≤ (0) := (show B (-15000) 0 (x2 + (x3 * ((x4_319 / 8) + (x4_319 - ((x4_319 / 8) * 8))))) from B_w b371 (by decide +kernel) (by decide +kernel))
                    have i383 : (x2 + (x3 * ((x4_319 / 8) + (x4_319 - ((x4_319 / 8) * 8))))).toInt < (1 : Int32).toInt := i_lt hq370
                    have n384 : (1 : Int32).toInt = 1 := cqn_1
                    unfold b_scale_117
                    refine ⟨vp_B (B_add (B_mul cqb_64_64_64 b220 (by decide +kernel) (by decide +kernel) (by decide +kernel)) b331 (by decide +kernel) (by decide +kernel)) (by decide +kernel) (by decide +kernel), ?_⟩
                    have hI385 := IM_r (r := 5) (i := ((64 * x1) + x4_319).toNatClampNeg) (v := 1) hI322 cqb_1_1_1 (by decide +kernel) (by decide +kernel)
                    have g387 := ag_tr (ag_refl (fs := []) (rs := [5]) (S := (upd S.1 0 0, S.2.1, S.2.2))) g323 (by decide +kernel) (by decide +kernel)
                    have g386 := ag_r (r := 5) (w := upd (T320.2.1 5) ((64 * x1) + x4_319).toNatClampNeg 1) g387 (by decide +kernel)
                    have e388 : (x4_319 + 1).toInt = ((x4_319).toInt + 1) := (t_add b331 cqb_1_1_1 (by decide +kernel) (by decide +kernel)).trans (by rw [cqn_1])
                    have q389 : (1) ≤ (x4_319 + 1).toInt ∧ (x4_319 + 1).toInt ≤ (64) := (show B 1 64 (x4_319 + 1) from B_w (B_add b331 cqb_1_1_1 (by decide +kernel) (by decide +kernel)) (by decide +kernel) (by decide +kernel))
                    exact hR49 ⟨rfl, rfl, rfl, (B_w (B_add b331 cqb_1_1_1 (by decide +kernel) (by decide +kernel)) (by decide +kernel) (by decide +kernel)), hI385, g386⟩ (by show (64 - (x4_319 + 1).toInt).toNat < (64 - x4_319.toInt).toNat; omega)
            · have hq390 := (nle_lt hc)
              have b391 : B 1001 2147483647 (x3) := B_w (B_ltR cqb_1000_1000_1000 b309 hq390) (by decide +kernel) (by decide +kernel)
              have q392 : (1001) ≤ (x3).toInt ∧ (x3).toInt ≤ (2147483647) := (show B 1001 2147483647 (x3) from B_w b391 (by decide +kernel) (by decide +kernel))
              unfold b_scale_38
              unfold b_scale_43
              have hI401 := IM_f (k := 0) (v := 1) hI cqb_1_1_1 (by decide +kernel) (by decide +kernel)
              refine ⟨fun yx1 yx2 yx3 yx4 yS => x1 = yx1 ∧ x2 = yx2 ∧ x3 = yx3 ∧ B 0 64 yx4 ∧ IM yS ∧ ag [] [5] (upd S.1 0 1, S.2.1, S.2.2) yS, fun yx1 yx2 yx3 yx4 yS => (64 - yx4.toInt).toNat, ⟨rfl, rfl, rfl, (B_w cqb_0_0_0 (by decide +kernel) (by decide +kernel)), hI401, (ag_refl (fs := []) (rs := [5]) (S := (upd S.1 0 1, S.2.1, S.2.2)))⟩, fun x1_393 x2_394 x3_395 x4_396 T397 hIv => ?_⟩
              obtain ⟨rfl, rfl, rfl, b398, hI399, g400⟩ := hIv
              suffices hs : ∀ (R49 : Int32 → Int32 → Int32 → Int32 → ms → Prop), (∀ zx1 zx2 zx3 zx4 zS, (x1 = zx1 ∧ x2 = zx2 ∧ x3 = zx3 ∧ B 0 64 zx4 ∧ IM zS ∧ ag [] [5] (upd S.1 0 1, S.2.1, S.2.2) zS) → (64 - zx4.toInt).toNat < (64 - x4_396.toInt).toNat → R49 zx1 zx2 zx3 zx4 zS) → b_scale_49 x1 x2 x3 x4_396 T397 R49 K from hs _ (fun _ _ _ _ _ h1 h2 => ⟨h1, h2⟩)
              intro R49 hR490
              have hR49 := fun {zx1} {zx2} {zx3} {zx4} {zS} => hR490 zx1 zx2 zx3 zx4 zS
              unfold b_scale_49
              refine ⟨fun hc => ?_, fun hc => ?_⟩
              · have hq402 := hc
                have b403 : B 64 64 (x4_396) := B_w (B_leR cqb_64_64_64 b398 hq402) (by decide +kernel) (by decide +kernel)
                unfold b_scale_124
                have g405 := ag_f (k := 0) (v := 1) (ag_refl (fs := [0]) (rs := [5]) (S := S)) (by decide +kernel)
                have g404 := ag_tr g405 g400 (by decide +kernel) (by decide +kernel)
                have e406 : (T397.1 0).toInt = 1 := (congrArg Int32.toInt (g400.1 0 rfl)).trans rfl
                exact hK hI399 g404 (by show (((T397.1 0).toInt = 0) ∧ (((0 ≤ x1.toInt) ∧ (x1.toInt ≤ 1)) ∧ ((((-1000) ≤ x2.toInt) ∧ (x2.toInt ≤ 1000)) ∧ (((-1000) ≤ x3.toInt) ∧ (x3.toInt ≤ 1000))))) ∨ (((T397.1 0).toInt = 1) ∧ (((x1.toInt < 0) ∨ (1 < x1.toInt)) ∨ (((x2.toInt < (-1000)) ∨ (1000 < x2.toInt)) ∨ ((x3.toInt < (-1000)) ∨ (1000 < x3.toInt))))); first | with_reducible assumption | omega)
              · have hq407 := (nle_lt hc)
                have b408 : B 0 63 (x4_396) := B_w (B_ltL b398 cqb_64_64_64 hq407) (by decide +kernel) (by decide +kernel)
                refine ⟨fun hc => ?_, fun hc => ?_⟩
                · have e409 : (T397.1 0).toInt = 1 := (congrArg Int32.toInt (g400.1 0 rfl)).trans rfl
                  have i410 : (T397.1 0).toInt ≠ (0 : Int32).toInt := i_ne hc
                  have n411 : (0 : Int32).toInt = 0 := cqn_0
                  unfold b_scale_124
                  have g413 := ag_f (k := 0) (v := 1) (ag_refl (fs := [0]) (rs := [5]) (S := S)) (by decide +kernel)
                  have g412 := ag_tr g413 g400 (by decide +kernel) (by decide +kernel)
                  exact hK hI399 g412 (by show (((T397.1 0).toInt = 0) ∧ (((0 ≤ x1.toInt) ∧ (x1.toInt ≤ 1)) ∧ ((((-1000) ≤ x2.toInt) ∧ (x2.toInt ≤ 1000)) ∧ (((-1000) ≤ x3.toInt) ∧ (x3.toInt ≤ 1000))))) ∨ (((T397.1 0).toInt = 1) ∧ (((x1.toInt < 0) ∨ (1 < x1.toInt)) ∨ (((x2.toInt < (-1000)) ∨ (1000 < x2.toInt)) ∨ ((x3.toInt < (-1000)) ∨ (1000 < x3.toInt))))); first | with_reducible assumption | omega)
                · exact (B_dis (B_eq (g400.1 0 rfl) cqb_1_1_1) cqb_0_0_0 hc (by decide +kernel)).elim
set_option maxRecDepth 20000 in
set_option maxHeartbeats 4000000 in
theorem h_entry {x1 : Int32} {x2 : Int32} {x3 : Int32} {x4 : Int32} {S : ms} {K : ms → Prop} (hI : IM S) (hK : ∀ {Z : ms}, IM Z → ag [0] [5] S Z → ((((Z.1 0).toInt = 0) ∧ ((((0 ≤ x2.toInt) ∧ (x2.toInt ≤ 7)) ∧ ((0 ≤ x3.toInt) ∧ (x3.toInt ≤ 7))) ∧ (((0 ≤ x1.toInt) ∧ (x1.toInt ≤ 1)) ∧ ((1 ≤ x4.toInt) ∧ (x4.toInt ≤ 255))))) ∨ ((((Z.1 0).toInt = 1) ∧ (((x2.toInt < 0) ∨ (7 < x2.toInt)) ∨ ((x3.toInt < 0) ∨ (7 < x3.toInt)))) ∨ (((Z.1 0).toInt = 2) ∧ ((((0 ≤ x2.toInt) ∧ (x2.toInt ≤ 7)) ∧ ((0 ≤ x3.toInt) ∧ (x3.toInt ≤ 7))) ∧ (((x1.toInt < 0) ∨ (1 < x1.toInt)) ∨ ((x4.toInt < 1) ∨ (255 < x4.toInt))))))) → K Z) : p_entry x1 x2 x3 x4 S K := by
  unfold p_entry
  refine ⟨fun hc => ?_, fun hc => ?_⟩
  · have hq1 := hc
    have b2 : B (-2147483648) (-1) (x2) := B_w (B_ltL (B_any _) cqb_0_0_0 hq1) (by decide +kernel) (by decide +kernel)
    unfold b_entry_21
    unfold b_entry_53
    refine ⟨fun hc => ?_, fun hc => ?_⟩
    · have i3 : (1 : Int32).toInt ≠ (0 : Int32).toInt := i_ne hc
      have n4 : (1 : Int32).toInt = 1 := cqn_1
      have n5 : (0 : Int32).toInt = 0 := cqn_0
      unfold b_entry_81
      have hI6 := IM_f (k := 0) (v := 1) hI cqb_1_1_1 (by decide +kernel) (by decide +kernel)
      have g7 := ag_f (k := 0) (v := 1) (ag_refl (fs := [0]) (rs := [5]) (S := S)) (by decide +kernel)
      have q8 : (-2147483648) ≤ (x2).toInt ∧ (x2).toInt ≤ (-1) := (show B (-2147483648) (-1) (x2) from B_w b2 (by decide +kernel) (by decide +kernel))
      exact hK hI6 g7 (by show ((1 = 0) ∧ ((((0 ≤ x2.toInt) ∧ (x2.toInt ≤ 7)) ∧ ((0 ≤ x3.toInt) ∧ (x3.toInt ≤ 7))) ∧ (((0 ≤ x1.toInt) ∧ (x1.toInt ≤ 1)) ∧ ((1 ≤ x4.toInt) ∧ (x4.toInt ≤ 255))))) ∨ (((1 = 1) ∧ (((x2.toInt < 0) ∨ (7 < x2.toInt)) ∨ ((x3.toInt < 0) ∨ (7 < x3.toInt)))) ∨ ((1 = 2) ∧ ((((0 ≤ x2.toInt) ∧ (x2.toInt ≤ 7)) ∧ ((0 ≤ x3.toInt) ∧ (x3.toInt ≤ 7))) ∧ (((x1.toInt < 0) ∨ (1 < x1.toInt)) ∨ ((x4.toInt < 1) ∨ (255 < x4.toInt)))))); first | with_reducible assumption | omega)
    · exact (B_dis cqb_1_1_1 cqb_0_0_0 hc (by decide +kernel)).elim
  · have hq9 := (nlt_le hc)
    have b10 : B 0 2147483647 (x2) := B_w (B_leR cqb_0_0_0 (B_any _) hq9) (by decide +kernel) (by decide +kernel)
    refine ⟨fun hc => ?_, fun hc => ?_⟩
    · have hq11 := hc
      have b12 : B 8 2147483647 (x2) := B_w (B_ltR cqb_7_7_7 b10 hq11) (by decide +kernel) (by decide +kernel)
      unfold b_entry_21
      unfold b_entry_53
      refine ⟨fun hc => ?_, fun hc => ?_⟩
      · have i13 : (1 : Int32).toInt ≠ (0 : Int32).toInt := i_ne hc
        have n14 : (1 : Int32).toInt = 1 := cqn_1
        have n15 : (0 : Int32).toInt = 0 := cqn_0
        unfold b_entry_81
        have hI16 := IM_f (k := 0) (v := 1) hI cqb_1_1_1 (by decide +kernel) (by decide +kernel)
        have g17 := ag_f (k := 0) (v := 1) (ag_refl (fs := [0]) (rs := [5]) (S := S)) (by decide +kernel)
        have q18 : (8) ≤ (x2).toInt ∧ (x2).toInt ≤ (2147483647) := (show B 8 2147483647 (x2) from B_w b12 (by decide +kernel) (by decide +kernel))
        exact hK hI16 g17 (by show ((1 = 0) ∧ ((((0 ≤ x2.toInt) ∧ (x2.toInt ≤ 7)) ∧ ((0 ≤ x3.toInt) ∧ (x3.toInt ≤ 7))) ∧ (((0 ≤ x1.toInt) ∧ (x1.toInt ≤ 1)) ∧ ((1 ≤ x4.toInt) ∧ (x4.toInt ≤ 255))))) ∨ (((1 = 1) ∧ (((x2.toInt < 0) ∨ (7 < x2.toInt)) ∨ ((x3.toInt < 0) ∨ (7 < x3.toInt)))) ∨ ((1 = 2) ∧ ((((0 ≤ x2.toInt) ∧ (x2.toInt ≤ 7)) ∧ ((0 ≤ x3.toInt) ∧ (x3.toInt ≤ 7))) ∧ (((x1.toInt < 0) ∨ (1 < x1.toInt)) ∨ ((x4.toInt < 1) ∨ (255 < x4.toInt)))))); first | with_reducible assumption | omega)
      · exact (B_dis cqb_1_1_1 cqb_0_0_0 hc (by decide +kernel)).elim
    · have hq19 := (nlt_le hc)
      have b20 : B 0 7 (x2) := B_w (B_leL b10 cqb_7_7_7 hq19) (by decide +kernel) (by decide +kernel)
      refine ⟨fun hc => ?_, fun hc => ?_⟩
      · have hq21 := hc
        have b22 : B (-2147483648) (-1) (x3) := B_w (B_ltL (B_any _) cqb_0_0_0 hq21) (by decide +kernel) (by decide +kernel)
        unfold b_entry_21
        unfold b_entry_53
        refine ⟨fun hc => ?_, fun hc => ?_⟩
        · have i23 : (1 : Int32).toInt ≠ (0 : Int32).toInt := i_ne hc
          have n24 : (1 : Int32).toInt = 1 := cqn_1
          have n25 : (0 : Int32).toInt = 0 := cqn_0
          unfold b_entry_81
          have hI26 := IM_f (k := 0) (v := 1) hI cqb_1_1_1 (by decide +kernel) (by decide +kernel)
          have g27 := ag_f (k := 0) (v := 1) (ag_refl (fs := [0]) (rs := [5]) (S := S)) (by decide +kernel)
          have q28 : (0) ≤ (x2).toInt ∧ (x2).toInt ≤ (7) := (show B 0 7 (x2) from B_w b20 (by decide +kernel) (by decide +kernel))
          have q29 : (-2147483648) ≤ (x3).toInt ∧ (x3).toInt ≤ (-1) := (show B (-2147483648) (-1) (x3) from B_w b22 (by decide +kernel) (by decide +kernel))
          exact hK hI26 g27 (by show ((1 = 0) ∧ ((((0 ≤ x2.toInt) ∧ (x2.toInt ≤ 7)) ∧ ((0 ≤ x3.toInt) ∧ (x3.toInt ≤ 7))) ∧ (((0 ≤ x1.toInt) ∧ (x1.toInt ≤ 1)) ∧ ((1 ≤ x4.toInt) ∧ (x4.toInt ≤ 255))))) ∨ (((1 = 1) ∧ (((x2.toInt < 0) ∨ (7 < x2.toInt)) ∨ ((x3.toInt < 0) ∨ (7 < x3.toInt)))) ∨ ((1 = 2) ∧ ((((0 ≤ x2.toInt) ∧ (x2.toInt ≤ 7)) ∧ ((0 ≤ x3.toInt) ∧ (x3.toInt ≤ 7))) ∧ (((x1.toInt < 0) ∨ (1 < x1.toInt)) ∨ ((x4.toInt < 1) ∨ (255 < x4.toInt)))))); first | with_reducible assumption | omega)
        · exact (B_dis cqb_1_1_1 cqb_0_0_0 hc (by decide +kernel)).elim
      · have hq30 := (nlt_le hc)
        have b31 : B 0 2147483647 (x3) := B_w (B_leR cqb_0_0_0 (B_any _) hq30) (by decide +kernel) (by decide +kernel)
        refine ⟨fun hc => ?_, fun hc => ?_⟩
        · have hq32 := hc
          have b33 : B 0 7 (x3) := B_w (B_leL b31 cqb_7_7_7 hq32) (by decide +kernel) (by decide +kernel)
          refine ⟨fun hc => ?_, fun hc => ?_⟩
          · have b34 : B 0 0 (x1) := B_w (B_eq hc cqb_0_0_0) (by decide +kernel) (by decide +kernel)
            have q35 : (0) ≤ (x1).toInt ∧ (x1).toInt ≤ (0) := (show B 0 0 (x1) from B_w b34 (by decide +kernel) (by decide +kernel))
            have i36 : (x1).toInt = (0 : Int32).toInt := congrArg Int32.toInt hc
            have n37 : (0 : Int32).toInt = 0 := cqn_0
            unfold b_entry_34
            refine ⟨fun hc => ?_, fun hc => ?_⟩
            · have hq38 := hc
              have b39 : B (-2147483648) 0 (x4) := B_w (B_ltL (B_any _) cqb_1_1_1 hq38) (by decide +kernel) (by decide +kernel)
              unfold b_entry_48
              unfold b_entry_53
              refine ⟨fun hc => ?_, fun hc => ?_⟩
              · have i40 : (2 : Int32).toInt ≠ (0 : Int32).toInt := i_ne hc
                have n41 : (2 : Int32).toInt = 2 := cqn_2
                have n42 : (0 : Int32).toInt = 0 := cqn_0
                unfold b_entry_81
                have hI43 := IM_f (k := 0) (v := 2) hI cqb_2_2_2 (by decide +kernel) (by decide +kernel)
                have g44 := ag_f (k := 0) (v := 2) (ag_refl (fs := [0]) (rs := [5]) (S := S)) (by decide +kernel)
                have q45 : (0) ≤ (x2).toInt ∧ (x2).toInt ≤ (7) := (show B 0 7 (x2) from B_w b20 (by decide +kernel) (by decide +kernel))
                have q46 : (0) ≤ (x3).toInt ∧ (x3).toInt ≤ (7) := (show B 0 7 (x3) from B_w b33 (by decide +kernel) (by decide +kernel))
                have q47 : (-2147483648) ≤ (x4).toInt ∧ (x4).toInt ≤ (0) := (show B (-2147483648) 0 (x4) from B_w b39 (by decide +kernel) (by decide +kernel))
                exact hK hI43 g44 (by show ((2 = 0) ∧ ((((0 ≤ x2.toInt) ∧ (x2.toInt ≤ 7)) ∧ ((0 ≤ x3.toInt) ∧ (x3.toInt ≤ 7))) ∧ (((0 ≤ x1.toInt) ∧ (x1.toInt ≤ 1)) ∧ ((1 ≤ x4.toInt) ∧ (x4.toInt ≤ 255))))) ∨ (((2 = 1) ∧ (((x2.toInt < 0) ∨ (7 < x2.toInt)) ∨ ((x3.toInt < 0) ∨ (7 < x3.toInt)))) ∨ ((2 = 2) ∧ ((((0 ≤ x2.toInt) ∧ (x2.toInt ≤ 7)) ∧ ((0 ≤ x3.toInt) ∧ (x3.toInt ≤ 7))) ∧ (((x1.toInt < 0) ∨ (1 < x1.toInt)) ∨ ((x4.toInt < 1) ∨ (255 < x4.toInt)))))); first | with_reducible assumption | omega)
              · exact (B_dis cqb_2_2_2 cqb_0_0_0 hc (by decide +kernel)).elim
            · have hq48 := (nlt_le hc)
              have b49 : B 1 2147483647 (x4) := B_w (B_leR cqb_1_1_1 (B_any _) hq48) (by decide +kernel) (by decide +kernel)
              refine ⟨fun hc => ?_, fun hc => ?_⟩
              · have hq50 := hc
                have b51 : B 1 255 (x4) := B_w (B_leL b49 cqb_255_255_255 hq50) (by decide +kernel) (by decide +kernel)
                unfold b_entry_53
                refine ⟨fun hc => ?_, fun hc => ?_⟩
                · exact (hc (B_z cqb_0_0_0)).elim
                · have i52 : (0 : Int32).toInt = (0 : Int32).toInt := congrArg Int32.toInt hc
                  have n53 : (0 : Int32).toInt = 0 := cqn_0
                  have n54 : (0 : Int32).toInt = 0 := cqn_0
                  refine ⟨vp_B (B_add (B_add (B_mul cqb_64_64_64 b34 (by decide +kernel) (by decide +kernel) (by decide +kernel)) (B_mul cqb_8_8_8 b20 (by decide +kernel) (by decide +kernel) (by decide +kernel)) (by decide +kernel) (by decide +kernel)) b33 (by decide +kernel) (by decide +kernel)) (by decide +kernel) (by decide +kernel), ?_⟩
                  unfold b_entry_81
                  have hI55 := IM_r (r := 5) (i := (((64 * x1) + (8 * x2)) + x3).toNatClampNeg) (v := x4) hI b51 (by decide +kernel) (by decide +kernel)
                  have hI56 := IM_f (k := 0) (v := 0) hI55 cqb_0_0_0 (by decide +kernel) (by decide +kernel)
                  have g58 := ag_r (r := 5) (w := upd (S.2.1 5) (((64 * x1) + (8 * x2)) + x3).toNatClampNeg x4) (ag_refl (fs := [0]) (rs := [5]) (S := S)) (by decide +kernel)
                  have g57 := ag_f (k := 0) (v := 0) g58 (by decide +kernel)
                  have q59 : (0) ≤ (x2).toInt ∧ (x2).toInt ≤ (7) := (show B 0 7 (x2) from B_w b20 (by decide +kernel) (by decide +kernel))
                  have q60 : (0) ≤ (x3).toInt ∧ (x3).toInt ≤ (7) := (show B 0 7 (x3) from B_w b33 (by decide +kernel) (by decide +kernel))
                  have q61 : (1) ≤ (x4).toInt ∧ (x4).toInt ≤ (255) := (show B 1 255 (x4) from B_w b51 (by decide +kernel) (by decide +kernel))
                  exact hK hI56 g57 (by show ((0 = 0) ∧ ((((0 ≤ x2.toInt) ∧ (x2.toInt ≤ 7)) ∧ ((0 ≤ x3.toInt) ∧ (x3.toInt ≤ 7))) ∧ (((0 ≤ x1.toInt) ∧ (x1.toInt ≤ 1)) ∧ ((1 ≤ x4.toInt) ∧ (x4.toInt ≤ 255))))) ∨ (((0 = 1) ∧ (((x2.toInt < 0) ∨ (7 < x2.toInt)) ∨ ((x3.toInt < 0) ∨ (7 < x3.toInt)))) ∨ ((0 = 2) ∧ ((((0 ≤ x2.toInt) ∧ (x2.toInt ≤ 7)) ∧ ((0 ≤ x3.toInt) ∧ (x3.toInt ≤ 7))) ∧ (((x1.toInt < 0) ∨ (1 < x1.toInt)) ∨ ((x4.toInt < 1) ∨ (255 < x4.toInt)))))); first | with_reducible assumption | omega)
              · have hq62 := (nle_lt hc)
                have b63 : B 256 2147483647 (x4) := B_w (B_ltR cqb_255_255_255 b49 hq62) (by decide +kernel) (by decide +kernel)
                unfold b_entry_48
                unfold b_entry_53
                refine ⟨fun hc => ?_, fun hc => ?_⟩
                · have i64 : (2 : Int32).toInt ≠ (0 : Int32).toInt := i_ne hc
                  have n65 : (2 : Int32).toInt = 2 := cqn_2
                  have n66 : (0 : Int32).toInt = 0 := cqn_0
                  unfold b_entry_81
                  have hI67 := IM_f (k := 0) (v := 2) hI cqb_2_2_2 (by decide +kernel) (by decide +kernel)
                  have g68 := ag_f (k := 0) (v := 2) (ag_refl (fs := [0]) (rs := [5]) (S := S)) (by decide +kernel)
                  have q69 : (0) ≤ (x2).toInt ∧ (x2).toInt ≤ (7) := (show B 0 7 (x2) from B_w b20 (by decide +kernel) (by decide +kernel))
                  have q70 : (0) ≤ (x3).toInt ∧ (x3).toInt ≤ (7) := (show B 0 7 (x3) from B_w b33 (by decide +kernel) (by decide +kernel))
                  have q71 : (256) ≤ (x4).toInt ∧ (x4).toInt ≤ (2147483647) := (show B 256 2147483647 (x4) from B_w b63 (by decide +kernel) (by decide +kernel))
                  exact hK hI67 g68 (by show ((2 = 0) ∧ ((((0 ≤ x2.toInt) ∧ (x2.toInt ≤ 7)) ∧ ((0 ≤ x3.toInt) ∧ (x3.toInt ≤ 7))) ∧ (((0 ≤ x1.toInt) ∧ (x1.toInt ≤ 1)) ∧ ((1 ≤ x4.toInt) ∧ (x4.toInt ≤ 255))))) ∨ (((2 = 1) ∧ (((x2.toInt < 0) ∨ (7 < x2.toInt)) ∨ ((x3.toInt < 0) ∨ (7 < x3.toInt)))) ∨ ((2 = 2) ∧ ((((0 ≤ x2.toInt) ∧ (x2.toInt ≤ 7)) ∧ ((0 ≤ x3.toInt) ∧ (x3.toInt ≤ 7))) ∧ (((x1.toInt < 0) ∨ (1 < x1.toInt)) ∨ ((x4.toInt < 1) ∨ (255 < x4.toInt)))))); first | with_reducible assumption | omega)
                · exact (B_dis cqb_2_2_2 cqb_0_0_0 hc (by decide +kernel)).elim
          · have i72 : (x1).toInt ≠ (0 : Int32).toInt := i_ne hc
            have n73 : (0 : Int32).toInt = 0 := cqn_0
            refine ⟨fun hc => ?_, fun hc => ?_⟩
            · have i74 : (x1).toInt ≠ (1 : Int32).toInt := i_ne hc
              have n75 : (1 : Int32).toInt = 1 := cqn_1
              unfold b_entry_48
              unfold b_entry_53
              refine ⟨fun hc => ?_, fun hc => ?_⟩
              · have i76 : (2 : Int32).toInt ≠ (0 : Int32).toInt := i_ne hc
                have n77 : (2 : Int32).toInt = 2 := cqn_2
                have n78 : (0 : Int32).toInt = 0 := cqn_0
                unfold b_entry_81
                have hI79 := IM_f (k := 0) (v := 2) hI cqb_2_2_2 (by decide +kernel) (by decide +kernel)
                have g80 := ag_f (k := 0) (v := 2) (ag_refl (fs := [0]) (rs := [5]) (S := S)) (by decide +kernel)
                have q81 : (0) ≤ (x2).toInt ∧ (x2).toInt ≤ (7) := (show B 0 7 (x2) from B_w b20 (by decide +kernel) (by decide +kernel))
                have q82 : (0) ≤ (x3).toInt ∧ (x3).toInt ≤ (7) := (show B 0 7 (x3) from B_w b33 (by decide +kernel) (by decide +kernel))
                exact hK hI79 g80 (by show ((2 = 0) ∧ ((((0 ≤ x2.toInt) ∧ (x2.toInt ≤ 7)) ∧ ((0 ≤ x3.toInt) ∧ (x3.toInt ≤ 7))) ∧ (((0 ≤ x1.toInt) ∧ (x1.toInt ≤ 1)) ∧ ((1 ≤ x4.toInt) ∧ (x4.toInt ≤ 255))))) ∨ (((2 = 1) ∧ (((x2.toInt < 0) ∨ (7 < x2.toInt)) ∨ ((x3.toInt < 0) ∨ (7 < x3.toInt)))) ∨ ((2 = 2) ∧ ((((0 ≤ x2.toInt) ∧ (x2.toInt ≤ 7)) ∧ ((0 ≤ x3.toInt) ∧ (x3.toInt ≤ 7))) ∧ (((x1.toInt < 0) ∨ (1 < x1.toInt)) ∨ ((x4.toInt < 1) ∨ (255 < x4.toInt)))))); first | with_reducible assumption | omega)
              · exact (B_dis cqb_2_2_2 cqb_0_0_0 hc (by decide +kernel)).elim
            · have b83 : B 1 1 (x1) := B_w (B_eq hc cqb_1_1_1) (by decide +kernel) (by decide +kernel)
              have q84 : (1) ≤ (x1).toInt ∧ (x1).toInt ≤ (1) := (show B 1 1 (x1) from B_w b83 (by decide +kernel) (by decide +kernel))
              have i85 : (x1).toInt = (1 : Int32).toInt := congrArg Int32.toInt hc
              have n86 : (1 : Int32).toInt = 1 := cqn_1
              unfold b_entry_34
              refine ⟨fun hc => ?_, fun hc => ?_⟩
              · have hq87 := hc
                have b88 : B (-2147483648) 0 (x4) := B_w (B_ltL (B_any _) cqb_1_1_1 hq87) (by decide +kernel) (by decide +kernel)
                unfold b_entry_48
                unfold b_entry_53
                refine ⟨fun hc => ?_, fun hc => ?_⟩
                · have i89 : (2 : Int32).toInt ≠ (0 : Int32).toInt := i_ne hc
                  have n90 : (2 : Int32).toInt = 2 := cqn_2
                  have n91 : (0 : Int32).toInt = 0 := cqn_0
                  unfold b_entry_81
                  have hI92 := IM_f (k := 0) (v := 2) hI cqb_2_2_2 (by decide +kernel) (by decide +kernel)
                  have g93 := ag_f (k := 0) (v := 2) (ag_refl (fs := [0]) (rs := [5]) (S := S)) (by decide +kernel)
                  have q94 : (0) ≤ (x2).toInt ∧ (x2).toInt ≤ (7) := (show B 0 7 (x2) from B_w b20 (by decide +kernel) (by decide +kernel))
                  have q95 : (0) ≤ (x3).toInt ∧ (x3).toInt ≤ (7) := (show B 0 7 (x3) from B_w b33 (by decide +kernel) (by decide +kernel))
                  have q96 : (-2147483648) ≤ (x4).toInt ∧ (x4).toInt ≤ (0) := (show B (-2147483648) 0 (x4) from B_w b88 (by decide +kernel) (by decide +kernel))
                  exact hK hI92 g93 (by show ((2 = 0) ∧ ((((0 ≤ x2.toInt) ∧ (x2.toInt ≤ 7)) ∧ ((0 ≤ x3.toInt) ∧ (x3.toInt ≤ 7))) ∧ (((0 ≤ x1.toInt) ∧ (x1.toInt ≤ 1)) ∧ ((1 ≤ x4.toInt) ∧ (x4.toInt ≤ 255))))) ∨ (((2 = 1) ∧ (((x2.toInt < 0) ∨ (7 < x2.toInt)) ∨ ((x3.toInt < 0) ∨ (7 < x3.toInt)))) ∨ ((2 = 2) ∧ ((((0 ≤ x2.toInt) ∧ (x2.toInt ≤ 7)) ∧ ((0 ≤ x3.toInt) ∧ (x3.toInt ≤ 7))) ∧ (((x1.toInt < 0) ∨ (1 < x1.toInt)) ∨ ((x4.toInt < 1) ∨ (255 < x4.toInt)))))); first | with_reducible assumption | omega)
                · exact (B_dis cqb_2_2_2 cqb_0_0_0 hc (by decide +kernel)).elim
              · have hq97 := (nlt_le hc)
                have b98 : B 1 2147483647 (x4) := B_w (B_leR cqb_1_1_1 (B_any _) hq97) (by decide +kernel) (by decide +kernel)
                refine ⟨fun hc => ?_, fun hc => ?_⟩
                · have hq99 := hc
                  have b100 : B 1 255 (x4) := B_w (B_leL b98 cqb_255_255_255 hq99) (by decide +kernel) (by decide +kernel)
                  unfold b_entry_53
                  refine ⟨fun hc => ?_, fun hc => ?_⟩
                  · exact (hc (B_z cqb_0_0_0)).elim
                  · have i101 : (0 : Int32).toInt = (0 : Int32).toInt := congrArg Int32.toInt hc
                    have n102 : (0 : Int32).toInt = 0 := cqn_0
                    have n103 : (0 : Int32).toInt = 0 := cqn_0
                    refine ⟨vp_B (B_add (B_add (B_mul cqb_64_64_64 b83 (by decide +kernel) (by decide +kernel) (by decide +kernel)) (B_mul cqb_8_8_8 b20 (by decide +kernel) (by decide +kernel) (by decide +kernel)) (by decide +kernel) (by decide +kernel)) b33 (by decide +kernel) (by decide +kernel)) (by decide +kernel) (by decide +kernel), ?_⟩
                    unfold b_entry_81
                    have hI104 := IM_r (r := 5) (i := (((64 * x1) + (8 * x2)) + x3).toNatClampNeg) (v := x4) hI b100 (by decide +kernel) (by decide +kernel)
                    have hI105 := IM_f (k := 0) (v := 0) hI104 cqb_0_0_0 (by decide +kernel) (by decide +kernel)
                    have g107 := ag_r (r := 5) (w := upd (S.2.1 5) (((64 * x1) + (8 * x2)) + x3).toNatClampNeg x4) (ag_refl (fs := [0]) (rs := [5]) (S := S)) (by decide +kernel)
                    have g106 := ag_f (k := 0) (v := 0) g107 (by decide +kernel)
                    have q108 : (0) ≤ (x2).toInt ∧ (x2).toInt ≤ (7) := (show B 0 7 (x2) from B_w b20 (by decide +kernel) (by decide +kernel))
                    have q109 : (0) ≤ (x3).toInt ∧ (x3).toInt ≤ (7) := (show B 0 7 (x3) from B_w b33 (by decide +kernel) (by decide +kernel))
                    have q110 : (1) ≤ (x4).toInt ∧ (x4).toInt ≤ (255) := (show B 1 255 (x4) from B_w b100 (by decide +kernel) (by decide +kernel))
                    exact hK hI105 g106 (by show ((0 = 0) ∧ ((((0 ≤ x2.toInt) ∧ (x2.toInt ≤ 7)) ∧ ((0 ≤ x3.toInt) ∧ (x3.toInt ≤ 7))) ∧ (((0 ≤ x1.toInt) ∧ (x1.toInt ≤ 1)) ∧ ((1 ≤ x4.toInt) ∧ (x4.toInt ≤ 255))))) ∨ (((0 = 1) ∧ (((x2.toInt < 0) ∨ (7 < x2.toInt)) ∨ ((x3.toInt < 0) ∨ (7 < x3.toInt)))) ∨ ((0 = 2) ∧ ((((0 ≤ x2.toInt) ∧ (x2.toInt ≤ 7)) ∧ ((0 ≤ x3.toInt) ∧ (x3.toInt ≤ 7))) ∧ (((x1.toInt < 0) ∨ (1 < x1.toInt)) ∨ ((x4.toInt < 1) ∨ (255 < x4.toInt)))))); first | with_reducible assumption | omega)
                · have hq111 := (nle_lt hc)
                  have b112 : B 256 2147483647 (x4) := B_w (B_ltR cqb_255_255_255 b98 hq111) (by decide +kernel) (by decide +kernel)
                  unfold b_entry_48
                  unfold b_entry_53
                  refine ⟨fun hc => ?_, fun hc => ?_⟩
                  · have i113 : (2 : Int32).toInt ≠ (0 : Int32).toInt := i_ne hc
                    have n114 : (2 : Int32).toInt = 2 := cqn_2
                    have n115 : (0 : Int32).toInt = 0 := cqn_0
                    unfold b_entry_81
                    have hI116 := IM_f (k := 0) (v := 2) hI cqb_2_2_2 (by decide +kernel) (by decide +kernel)
                    have g117 := ag_f (k := 0) (v := 2) (ag_refl (fs := [0]) (rs := [5]) (S := S)) (by decide +kernel)
                    have q118 : (0) ≤ (x2).toInt ∧ (x2).toInt ≤ (7) := (show B 0 7 (x2) from B_w b20 (by decide +kernel) (by decide +kernel))
                    have q119 : (0) ≤ (x3).toInt ∧ (x3).toInt ≤ (7) := (show B 0 7 (x3) from B_w b33 (by decide +kernel) (by decide +kernel))
                    have q120 : (256) ≤ (x4).toInt ∧ (x4).toInt ≤ (2147483647) := (show B 256 2147483647 (x4) from B_w b112 (by decide +kernel) (by decide +kernel))
                    exact hK hI116 g117 (by show ((2 = 0) ∧ ((((0 ≤ x2.toInt) ∧ (x2.toInt ≤ 7)) ∧ ((0 ≤ x3.toInt) ∧ (x3.toInt ≤ 7))) ∧ (((0 ≤ x1.toInt) ∧ (x1.toInt ≤ 1)) ∧ ((1 ≤ x4.toInt) ∧ (x4.toInt ≤ 255))))) ∨ (((2 = 1) ∧ (((x2.toInt < 0) ∨ (7 < x2.toInt)) ∨ ((x3.toInt < 0) ∨ (7 < x3.toInt)))) ∨ ((2 = 2) ∧ ((((0 ≤ x2.toInt) ∧ (x2.toInt ≤ 7)) ∧ ((0 ≤ x3.toInt) ∧ (x3.toInt ≤ 7))) ∧ (((x1.toInt < 0) ∨ (1 < x1.toInt)) ∨ ((x4.toInt < 1) ∨ (255 < x4.toInt)))))); first | with_reducible assumption | omega)
                  · exact (B_dis cqb_2_2_2 cqb_0_0_0 hc (by decide +kernel)).elim
        · have hq121 := (nle_lt hc)
          have b122 : B 8 2147483647 (x3) := B_w (B_ltR cqb_7_7_7 b31 hq121) (by decide +kernel) (by decide +kernel)
          unfold b_entry_21
          unfold b_entry_53
          refine ⟨fun hc => ?_, fun hc => ?_⟩
          · have i123 : (1 : Int32).toInt ≠ (0 : Int32).toInt := i_ne hc
            have n124 : (1 : Int32).toInt = 1 := cqn_1
            have n125 : (0 : Int32).toInt = 0 := cqn_0
            unfold b_entry_81
            have hI126 := IM_f (k := 0) (v := 1) hI cqb_1_1_1 (by decide +kernel) (by decide +kernel)
            have g127 := ag_f (k := 0) (v := 1) (ag_refl (fs := [0]) (rs := [5]) (S := S)) (by decide +kernel)
            have q128 : (0) ≤ (x2).toInt ∧ (x2).toInt ≤ (7) := (show B 0 7 (x2) from B_w b20 (by decide +kernel) (by decide +kernel))
            have q129 : (8) ≤ (x3).toInt ∧ (x3).toInt ≤ (2147483647) := (show B 8 2147483647 (x3) from B_w b122 (by decide +kernel) (by decide +kernel))
            exact hK hI126 g127 (by show ((1 = 0) ∧ ((((0 ≤ x2.toInt) ∧ (x2.toInt ≤ 7)) ∧ ((0 ≤ x3.toInt) ∧ (x3.toInt ≤ 7))) ∧ (((0 ≤ x1.toInt) ∧ (x1.toInt ≤ 1)) ∧ ((1 ≤ x4.toInt) ∧ (x4.toInt ≤ 255))))) ∨ (((1 = 1) ∧ (((x2.toInt < 0) ∨ (7 < x2.toInt)) ∨ ((x3.toInt < 0) ∨ (7 < x3.toInt)))) ∨ ((1 = 2) ∧ ((((0 ≤ x2.toInt) ∧ (x2.toInt ≤ 7)) ∧ ((0 ≤ x3.toInt) ∧ (x3.toInt ≤ 7))) ∧ (((x1.toInt < 0) ∨ (1 < x1.toInt)) ∨ ((x4.toInt < 1) ∨ (255 < x4.toInt)))))); first | with_reducible assumption | omega)
          · exact (B_dis cqb_1_1_1 cqb_0_0_0 hc (by decide +kernel)).elim
set_option maxRecDepth 20000 in
set_option maxHeartbeats 4000000 in
theorem h_out {x1 : Int32} {S : ms} {K : Int32 → ms → Prop} (hI : IM S) (hK : ∀ {v : Int32} {Z : ms}, B 0 255 v → IM Z → ag [0] [] S Z → K v Z) : p_out x1 S K := by
  unfold p_out
  have hj1 : b_out_13 x1 S K := by
    unfold b_out_13
    unfold b_out_18
    refine ⟨fun hc => ?_, fun hc => ?_⟩
    · exact (B_dead_le cqb_1_1_1 cqb_0_0_0 hc (by decide +kernel)).elim
    · have hq2 := (nle_lt hc)
      unfold b_out_38
      have hI3 := IM_f (k := 0) (v := 1) hI cqb_1_1_1 (by decide +kernel) (by decide +kernel)
      have g4 := ag_f (k := 0) (v := 1) (ag_refl (fs := [0]) (rs := []) (S := S)) (by decide +kernel)
      exact hK (B_w cqb_0_0_0 (by decide +kernel) (by decide +kernel)) hI3 g4
  refine ⟨fun hc => ?_, fun hc => ?_⟩
  · have hq5 := hc
    have b6 : B (-2147483648) (-1) (x1) := B_w (B_ltL (B_any _) cqb_0_0_0 hq5) (by decide +kernel) (by decide +kernel)
    exact hj1 
  · have hq7 := (nlt_le hc)
    have b8 : B 0 2147483647 (x1) := B_w (B_leR cqb_0_0_0 (B_any _) hq7) (by decide +kernel) (by decide +kernel)
    refine ⟨fun hc => ?_, fun hc => ?_⟩
    · have hq9 := hc
      have b10 : B 0 65535 (x1) := B_w (B_ltL b8 (show B 0 65536 (S.1 9) from bf_9 hI) hq9) (by decide +kernel) (by decide +kernel)
      have b11 : B 1 65536 (S.1 9) := B_w (B_ltR b8 (show B 0 65536 (S.1 9) from bf_9 hI) hq9) (by decide +kernel) (by decide +kernel)
      have q12 : (0) ≤ (x1).toInt ∧ (x1).toInt ≤ (65535) := (show B 0 65535 (x1) from B_w b10 (by decide +kernel) (by decide +kernel))
      have q13 : (1) ≤ (S.1 9).toInt ∧ (S.1 9).toInt ≤ (65536) := (show B 1 65536 (S.1 9) from B_w b11 (by decide +kernel) (by decide +kernel))
      have i14 : (x1).toInt < (S.1 9).toInt := i_lt hq9
      unfold b_out_18
      refine ⟨fun hc => ?_, fun hc => ?_⟩
      · have hq15 := hc
        refine ⟨vp_B b10 (by decide +kernel) (by decide +kernel), ?_⟩
        unfold b_out_38
        have hI16 := IM_f (k := 0) (v := 0) hI cqb_0_0_0 (by decide +kernel) (by decide +kernel)
        have g17 := ag_f (k := 0) (v := 0) (ag_refl (fs := [0]) (rs := []) (S := S)) (by decide +kernel)
        exact hK (B_w (show B 0 255 (S.2.1 8 x1.toNatClampNeg) from br_8 hI _) (by decide +kernel) (by decide +kernel)) hI16 g17
      · exact (B_dead_lt cqb_0_0_0 cqb_0_0_0 (nle_lt hc) (by decide +kernel)).elim
    · have hq18 := (nlt_le hc)
      have q19 : (0) ≤ (S.1 9).toInt ∧ (S.1 9).toInt ≤ (65536) := (show B 0 65536 (S.1 9) from bf_9 hI)
      have q20 : (0) ≤ (x1).toInt ∧ (x1).toInt ≤ (2147483647) := (show B 0 2147483647 (x1) from B_w b8 (by decide +kernel) (by decide +kernel))
      have i21 : (S.1 9).toInt ≤ (x1).toInt := i_le hq18
      exact hj1 
set_option maxRecDepth 20000 in
set_option maxHeartbeats 4000000 in
theorem h_feed {x1 : Int32} {x2 : Int32} {x3 : Int32} {x4 : Int32} {x5 : Int32} {S : ms} {K : Int32 → ms → Prop} (hI : IM S) (hK : ∀ {v : Int32} {Z : ms}, B 0 32768 v → IM Z → ag [0, 7] [6] S Z → K v Z) : p_feed x1 x2 x3 x4 x5 S K := by
  unfold p_feed
  refine ⟨fun hc => ?_, fun hc => ?_⟩
  · have hq1 := hc
    have b2 : B 20 32768 ((S.1 7) + 20) := B_w (B_leL (B_add (show B 0 32768 (S.1 7) from bf_7 hI) cqb_20_20_20 (by decide +kernel) (by decide +kernel)) cqb_32768_32768_32768 hq1) (by decide +kernel) (by decide +kernel)
    have q3 : (0) ≤ (S.1 7).toInt ∧ (S.1 7).toInt ≤ (32768) := (show B 0 32768 (S.1 7) from bf_7 hI)
    have e4 : ((S.1 7) + 20).toInt = ((S.1 7).toInt + 20) := (t_add (show B 0 32768 (S.1 7) from bf_7 hI) cqb_20_20_20 (by decide +kernel) (by decide +kernel)).trans (by rw [cqn_20])
    have q5 : (20) ≤ ((S.1 7) + 20).toInt ∧ ((S.1 7) + 20).toInt ≤ (32768) := (show B 20 32768 ((S.1 7) + 20) from B_w b2 (by decide +kernel) (by decide +kernel))
    have i6 : ((S.1 7) + 20).toInt ≤ (32768 : Int32).toInt := i_le hq1
    have n7 : (32768 : Int32).toInt = 32768 := cqn_32768
    unfold b_feed_18
    refine ⟨fun hc => ?_, fun hc => ?_⟩
    · have hq8 := hc
      have hI19 := IM_f (k := 0) (v := 0) hI cqb_0_0_0 (by decide +kernel) (by decide +kernel)
      refine ⟨fun yx1 yx2 yx3 yx4 yx5 yx6 yS => x1 = yx1 ∧ x2 = yx2 ∧ x3 = yx3 ∧ x4 = yx4 ∧ x5 = yx5 ∧ B 0 20 yx6 ∧ IM yS ∧ ag [7] [6] (upd S.1 0 0, S.2.1, S.2.2) yS ∧ ((yS.1 7).toInt = ((S.1 7).toInt + yx6.toInt)) ∧ (((S.1 7).toInt + 20) ≤ 32768), fun yx1 yx2 yx3 yx4 yx5 yx6 yS => (20 - yx6.toInt).toNat, ⟨rfl, rfl, rfl, rfl, rfl, (B_w cqb_0_0_0 (by decide +kernel) (by decide +kernel)), hI19, (ag_refl (fs := [7]) (rs := [6]) (S := (upd S.1 0 0, S.2.1, S.2.2))), (by show (S.1 7).toInt = ((S.1 7).toInt + 0); first | with_reducible assumption | omega), (by show ((S.1 7).toInt + 20) ≤ 32768; first | with_reducible assumption | omega)⟩, fun x1_9 x2_10 x3_11 x4_12 x5_13 x6_14 T15 hIv => ?_⟩
      obtain ⟨rfl, rfl, rfl, rfl, rfl, b16, hI17, g18, r20, r21⟩ := hIv
      suffices hs : ∀ (R33 : Int32 → Int32 → Int32 → Int32 → Int32 → Int32 → ms → Prop), (∀ zx1 zx2 zx3 zx4 zx5 zx6 zS, (x1 = zx1 ∧ x2 = zx2 ∧ x3 = zx3 ∧ x4 = zx4 ∧ x5 = zx5 ∧ B 0 20 zx6 ∧ IM zS ∧ ag [7] [6] (upd S.1 0 0, S.2.1, S.2.2) zS ∧ ((zS.1 7).toInt = ((S.1 7).toInt + zx6.toInt)) ∧ (((S.1 7).toInt + 20) ≤ 32768)) → (20 - zx6.toInt).toNat < (20 - x6_14.toInt).toNat → R33 zx1 zx2 zx3 zx4 zx5 zx6 zS) → b_feed_33 x1 x2 x3 x4 x5 x6_14 T15 R33 K from hs _ (fun _ _ _ _ _ _ _ h1 h2 => ⟨h1, h2⟩)
      intro R33 hR330
      have hR33 := fun {zx1} {zx2} {zx3} {zx4} {zx5} {zx6} {zS} => hR330 zx1 zx2 zx3 zx4 zx5 zx6 zS
      have q22 : (0) ≤ (T15.1 7).toInt ∧ (T15.1 7).toInt ≤ (32768) := (show B 0 32768 (T15.1 7) from bf_7 hI17)
      have q23 : (0) ≤ (x6_14).toInt ∧ (x6_14).toInt ≤ (20) := (show B 0 20 (x6_14) from B_w b16 (by decide +kernel) (by decide +kernel))
      unfold b_feed_33
      refine ⟨fun hc => ?_, fun hc => ?_⟩
      · have hq24 := hc
        have b25 : B 20 20 (x6_14) := B_w (B_leR cqb_20_20_20 b16 hq24) (by decide +kernel) (by decide +kernel)
        have q26 : (20) ≤ (x6_14).toInt ∧ (x6_14).toInt ≤ (20) := (show B 20 20 (x6_14) from B_w b25 (by decide +kernel) (by decide +kernel))
        have g28 := ag_f (k := 0) (v := 0) (ag_refl (fs := [0, 7]) (rs := [6]) (S := S)) (by decide +kernel)
        have g27 := ag_tr g28 g18 (by decide +kernel) (by decide +kernel)
        exact hK (B_w (show B 0 32768 (T15.1 7) from bf_7 hI17) (by decide +kernel) (by decide +kernel)) hI17 g27
      · have hq29 := (nle_lt hc)
        have b30 : B 0 19 (x6_14) := B_w (B_ltL b16 cqb_20_20_20 hq29) (by decide +kernel) (by decide +kernel)
        have q31 : (0) ≤ (x6_14).toInt ∧ (x6_14).toInt ≤ (19) := (show B 0 19 (x6_14) from B_w b30 (by decide +kernel) (by decide +kernel))
        have hj32 : ∀ {s0_33 : Int32}, B (-2147483648) 2147483647 s0_33 → b_feed_86 x1 x2 x3 x4 x5 x6_14 s0_33 T15 R33 K := by
          intro s0_33 b34
          unfold b_feed_86
          refine ⟨vp_om (x := T15.1 7) (by omega) (by omega), ?_⟩
          have b35 : B 0 32767 (T15.1 7) := ⟨by omega, by omega⟩
          have hI36 := IM_r (r := 6) (i := (T15.1 7).toNatClampNeg) (v := (s0_33 >>> ((24 - (8 * (x6_14 - ((x6_14 / 4) * 4)))) &&& 31 : Int32) : Int32) &&& 255) hI17 (show B 0 255 ((s0_33 >>> ((24 - (8 * (x6_14 - ((x6_14 / 4) * 4)))) &&& 31 : Int32) : Int32) &&& 255) from B_and (k := 8) (by decide +kernel) (by decide +kernel)) (by decide +kernel) (by decide +kernel)
          have hI37 := IM_f (k := 7) (v := (T15.1 7) + 1) hI36 (B_add b35 cqb_1_1_1 (by decide +kernel) (by decide +kernel)) (by decide +kernel) (by decide +kernel)
          have g40 := ag_tr (ag_refl (fs := [7]) (rs := [6]) (S := (upd S.1 0 0, S.2.1, S.2.2))) g18 (by decide +kernel) (by decide +kernel)
          have g39 := ag_r (r := 6) (w := upd (T15.2.1 6) (T15.1 7).toNatClampNeg ((s0_33 >>> ((24 - (8 * (x6_14 - ((x6_14 / 4) * 4)))) &&& 31 : Int32) : Int32) &&& 255)) g40 (by decide +kernel)
          have g38 := ag_f (k := 7) (v := (T15.1 7) + 1) g39 (by decide +kernel)
          have e41 : ((T15.1 7) + 1).toInt = ((T15.1 7).toInt + 1) := (t_add b35 cqb_1_1_1 (by decide +kernel) (by decide +kernel)).trans (by rw [cqn_1])
          have q42 : (1) ≤ ((T15.1 7) + 1).toInt ∧ ((T15.1 7) + 1).toInt ≤ (32768) := (show B 1 32768 ((T15.1 7) + 1) from B_w (B_add b35 cqb_1_1_1 (by decide +kernel) (by decide +kernel)) (by decide +kernel) (by decide +kernel))
          have e43 : (x6_14 + 1).toInt = ((x6_14).toInt + 1) := (t_add b30 cqb_1_1_1 (by decide +kernel) (by decide +kernel)).trans (by rw [cqn_1])
          have q44 : (1) ≤ (x6_14 + 1).toInt ∧ (x6_14 + 1).toInt ≤ (20) := (show B 1 20 (x6_14 + 1) from B_w (B_add b30 cqb_1_1_1 (by decide +kernel) (by decide +kernel)) (by decide +kernel) (by decide +kernel))
          exact hR33 ⟨rfl, rfl, rfl, rfl, rfl, (B_w (B_add b30 cqb_1_1_1 (by decide +kernel) (by decide +kernel)) (by decide +kernel) (by decide +kernel)), hI37, g38, (by show ((T15.1 7) + 1).toInt = ((S.1 7).toInt + (x6_14 + 1).toInt); first | with_reducible assumption | omega), (by show ((S.1 7).toInt + 20) ≤ 32768; first | with_reducible assumption | omega)⟩ (by show (20 - (x6_14 + 1).toInt).toNat < (20 - x6_14.toInt).toNat; omega)
        refine ⟨fun hc => ?_, fun hc => ?_⟩
        · have hq45 := hc
          have b46 : B 4 19 (x6_14) := B_w (B_leR cqb_4_4_4 b30 hq45) (by decide +kernel) (by decide +kernel)
          have q47 : (4) ≤ (x6_14).toInt ∧ (x6_14).toInt ≤ (19) := (show B 4 19 (x6_14) from B_w b46 (by decide +kernel) (by decide +kernel))
          refine ⟨fun hc => ?_, fun hc => ?_⟩
          · have hq48 := hc
            have b49 : B 8 19 (x6_14) := B_w (B_leR cqb_8_8_8 b46 hq48) (by decide +kernel) (by decide +kernel)
            have q50 : (8) ≤ (x6_14).toInt ∧ (x6_14).toInt ≤ (19) := (show B 8 19 (x6_14) from B_w b49 (by decide +kernel) (by decide +kernel))
            refine ⟨fun hc => ?_, fun hc => ?_⟩
            · have hq51 := hc
              have b52 : B 12 19 (x6_14) := B_w (B_leR cqb_12_12_12 b49 hq51) (by decide +kernel) (by decide +kernel)
              have q53 : (12) ≤ (x6_14).toInt ∧ (x6_14).toInt ≤ (19) := (show B 12 19 (x6_14) from B_w b52 (by decide +kernel) (by decide +kernel))
              refine ⟨fun hc => ?_, fun hc => ?_⟩
              · have hq54 := hc
                have b55 : B 16 19 (x6_14) := B_w (B_leR cqb_16_16_16 b52 hq54) (by decide +kernel) (by decide +kernel)
                have q56 : (16) ≤ (x6_14).toInt ∧ (x6_14).toInt ≤ (19) := (show B 16 19 (x6_14) from B_w b55 (by decide +kernel) (by decide +kernel))
                exact hj32 (B_w (B_any _) (by decide +kernel) (by decide +kernel))
              · have hq57 := (nle_lt hc)
                have b58 : B 12 15 (x6_14) := B_w (B_ltL b52 cqb_16_16_16 hq57) (by decide +kernel) (by decide +kernel)
                have q59 : (12) ≤ (x6_14).toInt ∧ (x6_14).toInt ≤ (15) := (show B 12 15 (x6_14) from B_w b58 (by decide +kernel) (by decide +kernel))
                exact hj32 (B_w (B_any _) (by decide +kernel) (by decide +kernel))
            · have hq60 := (nle_lt hc)
              have b61 : B 8 11 (x6_14) := B_w (B_ltL b49 cqb_12_12_12 hq60) (by decide +kernel) (by decide +kernel)
              have q62 : (8) ≤ (x6_14).toInt ∧ (x6_14).toInt ≤ (11) := (show B 8 11 (x6_14) from B_w b61 (by decide +kernel) (by decide +kernel))
              exact hj32 (B_w (B_any _) (by decide +kernel) (by decide +kernel))
          · have hq63 := (nle_lt hc)
            have b64 : B 4 7 (x6_14) := B_w (B_ltL b46 cqb_8_8_8 hq63) (by decide +kernel) (by decide +kernel)
            have q65 : (4) ≤ (x6_14).toInt ∧ (x6_14).toInt ≤ (7) := (show B 4 7 (x6_14) from B_w b64 (by decide +kernel) (by decide +kernel))
            exact hj32 (B_w (B_any _) (by decide +kernel) (by decide +kernel))
        · have hq66 := (nle_lt hc)
          have b67 : B 0 3 (x6_14) := B_w (B_ltL b30 cqb_4_4_4 hq66) (by decide +kernel) (by decide +kernel)
          have q68 : (0) ≤ (x6_14).toInt ∧ (x6_14).toInt ≤ (3) := (show B 0 3 (x6_14) from B_w b67 (by decide +kernel) (by decide +kernel))
          exact hj32 (B_w (B_any _) (by decide +kernel) (by decide +kernel))
    · exact (B_dead_lt cqb_0_0_0 cqb_0_0_0 (nle_lt hc) (by decide +kernel)).elim
  · have hq69 := (nle_lt hc)
    have b70 : B 32769 32788 ((S.1 7) + 20) := B_w (B_ltR cqb_32768_32768_32768 (B_add (show B 0 32768 (S.1 7) from bf_7 hI) cqb_20_20_20 (by decide +kernel) (by decide +kernel)) hq69) (by decide +kernel) (by decide +kernel)
    have q71 : (0) ≤ (S.1 7).toInt ∧ (S.1 7).toInt ≤ (32768) := (show B 0 32768 (S.1 7) from bf_7 hI)
    have e72 : ((S.1 7) + 20).toInt = ((S.1 7).toInt + 20) := (t_add (show B 0 32768 (S.1 7) from bf_7 hI) cqb_20_20_20 (by decide +kernel) (by decide +kernel)).trans (by rw [cqn_20])
    have q73 : (32769) ≤ ((S.1 7) + 20).toInt ∧ ((S.1 7) + 20).toInt ≤ (32788) := (show B 32769 32788 ((S.1 7) + 20) from B_w b70 (by decide +kernel) (by decide +kernel))
    have i74 : (32768 : Int32).toInt < ((S.1 7) + 20).toInt := i_lt hq69
    have n75 : (32768 : Int32).toInt = 32768 := cqn_32768
    unfold b_feed_18
    refine ⟨fun hc => ?_, fun hc => ?_⟩
    · exact (B_dead_le cqb_1_1_1 cqb_0_0_0 hc (by decide +kernel)).elim
    · have hq76 := (nle_lt hc)
      have hI77 := IM_f (k := 0) (v := 1) hI cqb_1_1_1 (by decide +kernel) (by decide +kernel)
      have g78 := ag_f (k := 0) (v := 1) (ag_refl (fs := [0, 7]) (rs := [6]) (S := S)) (by decide +kernel)
      exact hK (B_w cqb_0_0_0 (by decide +kernel) (by decide +kernel)) hI77 g78
set_option maxRecDepth 20000 in
set_option maxHeartbeats 4000000 in
theorem h_end {x1 : Int32} {S : ms} {K : ms → Prop} (hI : IM S) (hK : ∀ {Z : ms}, IM Z → ag [0, 7] [] S Z → K Z) : p_end x1 S K := by
  unfold p_end
  have hj1 : b_end_13 x1 S K := by
    unfold b_end_13
    unfold b_end_18
    refine ⟨fun hc => ?_, fun hc => ?_⟩
    · exact (B_dead_le cqb_1_1_1 cqb_0_0_0 hc (by decide +kernel)).elim
    · have hq2 := (nle_lt hc)
      unfold b_end_37
      have hI3 := IM_f (k := 0) (v := 1) hI cqb_1_1_1 (by decide +kernel) (by decide +kernel)
      have hI4 := IM_f (k := 7) (v := S.1 7) hI3 (show B 0 32768 (S.1 7) from bf_7 hI) (by decide +kernel) (by decide +kernel)
      have g6 := ag_f (k := 0) (v := 1) (ag_refl (fs := [0, 7]) (rs := []) (S := S)) (by decide +kernel)
      have g5 := ag_f (k := 7) (v := S.1 7) g6 (by decide +kernel)
      exact hK hI4 g5
  refine ⟨fun hc => ?_, fun hc => ?_⟩
  · have hq7 := hc
    have b8 : B (-2147483648) (-1) (x1) := B_w (B_ltL (B_any _) cqb_0_0_0 hq7) (by decide +kernel) (by decide +kernel)
    exact hj1 
  · have hq9 := (nlt_le hc)
    have b10 : B 0 2147483647 (x1) := B_w (B_leR cqb_0_0_0 (B_any _) hq9) (by decide +kernel) (by decide +kernel)
    refine ⟨fun hc => ?_, fun hc => ?_⟩
    · have hq11 := hc
      have b12 : B 0 32768 (x1) := B_w (B_leL b10 (show B 0 32768 (S.1 7) from bf_7 hI) hq11) (by decide +kernel) (by decide +kernel)
      have q13 : (0) ≤ (x1).toInt ∧ (x1).toInt ≤ (32768) := (show B 0 32768 (x1) from B_w b12 (by decide +kernel) (by decide +kernel))
      have q14 : (0) ≤ (S.1 7).toInt ∧ (S.1 7).toInt ≤ (32768) := (show B 0 32768 (S.1 7) from bf_7 hI)
      have i15 : (x1).toInt ≤ (S.1 7).toInt := i_le hq11
      unfold b_end_18
      refine ⟨fun hc => ?_, fun hc => ?_⟩
      · have hq16 := hc
        unfold b_end_37
        have hI17 := IM_f (k := 0) (v := 0) hI cqb_0_0_0 (by decide +kernel) (by decide +kernel)
        have hI18 := IM_f (k := 7) (v := x1) hI17 b12 (by decide +kernel) (by decide +kernel)
        have g20 := ag_f (k := 0) (v := 0) (ag_refl (fs := [0, 7]) (rs := []) (S := S)) (by decide +kernel)
        have g19 := ag_f (k := 7) (v := x1) g20 (by decide +kernel)
        exact hK hI18 g19
      · exact (B_dead_lt cqb_0_0_0 cqb_0_0_0 (nle_lt hc) (by decide +kernel)).elim
    · have hq21 := (nle_lt hc)
      have b22 : B 1 2147483647 (x1) := B_w (B_ltR (show B 0 32768 (S.1 7) from bf_7 hI) b10 hq21) (by decide +kernel) (by decide +kernel)
      have q23 : (0) ≤ (S.1 7).toInt ∧ (S.1 7).toInt ≤ (32768) := (show B 0 32768 (S.1 7) from bf_7 hI)
      have q24 : (1) ≤ (x1).toInt ∧ (x1).toInt ≤ (2147483647) := (show B 1 2147483647 (x1) from B_w b22 (by decide +kernel) (by decide +kernel))
      have i25 : (S.1 7).toInt < (x1).toInt := i_lt hq21
      exact hj1 
set_option maxRecDepth 20000 in
set_option maxHeartbeats 4000000 in
theorem h_change {x1 : Int32} {x2 : Int32} {S : ms} {K : Int32 → ms → Prop} (hI : IM S) (hK : ∀ {v : Int32} {Z : ms}, B 0 255 v → IM Z → ag [0] [6] S Z → K v Z) : p_change x1 x2 S K := by
  unfold p_change
  have hj1 : b_change_13 x1 x2 S K := by
    unfold b_change_13
    unfold b_change_33
    refine ⟨fun hc => ?_, fun hc => ?_⟩
    · exact (B_dead_le cqb_1_1_1 cqb_0_0_0 hc (by decide +kernel)).elim
    · have hq2 := (nle_lt hc)
      have hI3 := IM_f (k := 0) (v := 1) hI cqb_1_1_1 (by decide +kernel) (by decide +kernel)
      have g4 := ag_f (k := 0) (v := 1) (ag_refl (fs := [0]) (rs := [6]) (S := S)) (by decide +kernel)
      exact hK (B_w cqb_0_0_0 (by decide +kernel) (by decide +kernel)) hI3 g4
  refine ⟨fun hc => ?_, fun hc => ?_⟩
  · have hq5 := hc
    have b6 : B (-2147483648) (-1) (x1) := B_w (B_ltL (B_any _) cqb_0_0_0 hq5) (by decide +kernel) (by decide +kernel)
    exact hj1 
  · have hq7 := (nlt_le hc)
    have b8 : B 0 2147483647 (x1) := B_w (B_leR cqb_0_0_0 (B_any _) hq7) (by decide +kernel) (by decide +kernel)
    refine ⟨fun hc => ?_, fun hc => ?_⟩
    · have hq9 := hc
      have b10 : B 0 32767 (x1) := B_w (B_ltL b8 (show B 0 32768 (S.1 7) from bf_7 hI) hq9) (by decide +kernel) (by decide +kernel)
      have b11 : B 1 32768 (S.1 7) := B_w (B_ltR b8 (show B 0 32768 (S.1 7) from bf_7 hI) hq9) (by decide +kernel) (by decide +kernel)
      have q12 : (0) ≤ (x1).toInt ∧ (x1).toInt ≤ (32767) := (show B 0 32767 (x1) from B_w b10 (by decide +kernel) (by decide +kernel))
      have q13 : (1) ≤ (S.1 7).toInt ∧ (S.1 7).toInt ≤ (32768) := (show B 1 32768 (S.1 7) from B_w b11 (by decide +kernel) (by decide +kernel))
      have i14 : (x1).toInt < (S.1 7).toInt := i_lt hq9
      have hj15 : b_change_28 x1 x2 S K := by
        unfold b_change_28
        unfold b_change_33
        refine ⟨fun hc => ?_, fun hc => ?_⟩
        · exact (B_dead_le cqb_2_2_2 cqb_0_0_0 hc (by decide +kernel)).elim
        · have hq16 := (nle_lt hc)
          have hI17 := IM_f (k := 0) (v := 2) hI cqb_2_2_2 (by decide +kernel) (by decide +kernel)
          have g18 := ag_f (k := 0) (v := 2) (ag_refl (fs := [0]) (rs := [6]) (S := S)) (by decide +kernel)
          exact hK (B_w cqb_0_0_0 (by decide +kernel) (by decide +kernel)) hI17 g18
      refine ⟨fun hc => ?_, fun hc => ?_⟩
      · have hq19 := hc
        have b20 : B (-2147483648) (-1) (x2) := B_w (B_ltL (B_any _) cqb_0_0_0 hq19) (by decide +kernel) (by decide +kernel)
        exact hj15 
      · have hq21 := (nlt_le hc)
        have b22 : B 0 2147483647 (x2) := B_w (B_leR cqb_0_0_0 (B_any _) hq21) (by decide +kernel) (by decide +kernel)
        refine ⟨fun hc => ?_, fun hc => ?_⟩
        · have hq23 := hc
          have b24 : B 0 255 (x2) := B_w (B_leL b22 cqb_255_255_255 hq23) (by decide +kernel) (by decide +kernel)
          unfold b_change_33
          refine ⟨fun hc => ?_, fun hc => ?_⟩
          · have hq25 := hc
            refine ⟨vp_B b10 (by decide +kernel) (by decide +kernel), ?_⟩
            refine ⟨vp_B b10 (by decide +kernel) (by decide +kernel), ?_⟩
            refine ⟨vp_B b10 (by decide +kernel) (by decide +kernel), ?_⟩
            have hI26 := IM_r (r := 6) (i := x1.toNatClampNeg) (v := (S.2.1 6 x1.toNatClampNeg) ^^^ x2) hI (B_xor (B_w (show B 0 255 (S.2.1 6 x1.toNatClampNeg) from br_6 hI _) (by decide +kernel) (by decide +kernel)) (B_w b24 (by decide +kernel) (by decide +kernel))) (by decide +kernel) (by decide +kernel)
            have hI27 := IM_f (k := 0) (v := 0) hI26 cqb_0_0_0 (by decide +kernel) (by decide +kernel)
            have g29 := ag_r (r := 6) (w := upd (S.2.1 6) x1.toNatClampNeg ((S.2.1 6 x1.toNatClampNeg) ^^^ x2)) (ag_refl (fs := [0]) (rs := [6]) (S := S)) (by decide +kernel)
            have g28 := ag_f (k := 0) (v := 0) g29 (by decide +kernel)
            exact hK (B_w (B_eq (ru_at (f := S.2.1) (g := S.2.1 6) (r := 6) (i := x1.toNatClampNeg) (v := (S.2.1 6 x1.toNatClampNeg) ^^^ x2)) (B_xor (B_w (show B 0 255 (S.2.1 6 x1.toNatClampNeg) from br_6 hI _) (by decide +kernel) (by decide +kernel)) (B_w b24 (by decide +kernel) (by decide +kernel)))) (by decide +kernel) (by decide +kernel)) hI27 g28
          · exact (B_dead_lt cqb_0_0_0 cqb_0_0_0 (nle_lt hc) (by decide +kernel)).elim
        · have hq30 := (nle_lt hc)
          have b31 : B 256 2147483647 (x2) := B_w (B_ltR cqb_255_255_255 b22 hq30) (by decide +kernel) (by decide +kernel)
          exact hj15 
    · have hq32 := (nlt_le hc)
      have q33 : (0) ≤ (S.1 7).toInt ∧ (S.1 7).toInt ≤ (32768) := (show B 0 32768 (S.1 7) from bf_7 hI)
      have q34 : (0) ≤ (x1).toInt ∧ (x1).toInt ≤ (2147483647) := (show B 0 2147483647 (x1) from B_w b8 (by decide +kernel) (by decide +kernel))
      have i35 : (S.1 7).toInt ≤ (x1).toInt := i_le hq32
      exact hj1 
set_option maxRecDepth 20000 in
set_option maxHeartbeats 4000000 in
theorem h_turn2 {S : ms} {K : Int32 → ms → Prop} (hI : IM S) (hK : ∀ {v : Int32} {Z : ms}, B 0 32768 v → IM Z → ag [0, 7] [6] S Z → K v Z) : p_turn2 S K := by
  unfold p_turn2
  refine ⟨fun hc => ?_, fun hc => ?_⟩
  · have hq1 := hc
    have b2 : B 0 32768 (S.1 9) := B_w (B_leL (show B 0 65536 (S.1 9) from bf_9 hI) cqb_32768_32768_32768 hq1) (by decide +kernel) (by decide +kernel)
    unfold b_turn2_15
    refine ⟨fun hc => ?_, fun hc => ?_⟩
    · have hq3 := hc
      have hI9 := IM_f (k := 0) (v := 0) hI cqb_0_0_0 (by decide +kernel) (by decide +kernel)
      refine ⟨fun yx1 yS => B 0 32768 yx1 ∧ IM yS ∧ ag [] [6] (upd S.1 0 0, S.2.1, S.2.2) yS, fun yx1 yS => (32768 - yx1.toInt).toNat, ⟨(B_w cqb_0_0_0 (by decide +kernel) (by decide +kernel)), hI9, (ag_refl (fs := []) (rs := [6]) (S := (upd S.1 0 0, S.2.1, S.2.2)))⟩, fun x1_4 T5 hIv => ?_⟩
      obtain ⟨b6, hI7, g8⟩ := hIv
      suffices hs : ∀ (R29 : Int32 → ms → Prop), (∀ zx1 zS, (B 0 32768 zx1 ∧ IM zS ∧ ag [] [6] (upd S.1 0 0, S.2.1, S.2.2) zS) → (32768 - zx1.toInt).toNat < (32768 - x1_4.toInt).toNat → R29 zx1 zS) → b_turn2_29 x1_4 T5 R29 K from hs _ (fun _ _ h1 h2 => ⟨h1, h2⟩)
      intro R29 hR290
      have hR29 := fun {zx1} {zS} => hR290 zx1 zS
      unfold b_turn2_29
      refine ⟨fun hc => ?_, fun hc => ?_⟩
      · have hq10 := hc
        have q11 : (0) ≤ (S.1 9).toInt ∧ (S.1 9).toInt ≤ (32768) := (show B 0 32768 (S.1 9) from B_w b2 (by decide +kernel) (by decide +kernel))
        have e12 : (T5.1 9).toInt = (S.1 9).toInt := (congrArg Int32.toInt (g8.1 9 rfl)).trans rfl
        have q13 : (0) ≤ (x1_4).toInt ∧ (x1_4).toInt ≤ (32768) := (show B 0 32768 (x1_4) from B_w b6 (by decide +kernel) (by decide +kernel))
        have i14 : (T5.1 9).toInt ≤ (x1_4).toInt := i_le hq10
        have hI15 := IM_f (k := 7) (v := T5.1 9) hI7 (B_eq (g8.1 9 rfl) b2) (by decide +kernel) (by decide +kernel)
        have g18 := ag_f (k := 0) (v := 0) (ag_refl (fs := [0, 7]) (rs := [6]) (S := S)) (by decide +kernel)
        have g17 := ag_tr g18 g8 (by decide +kernel) (by decide +kernel)
        have g16 := ag_f (k := 7) (v := T5.1 9) g17 (by decide +kernel)
        exact hK (B_w (B_eq (g8.1 9 rfl) b2) (by decide +kernel) (by decide +kernel)) hI15 g16
      · have hq19 := (nle_lt hc)
        have b20 : B 0 32767 (x1_4) := B_w (B_ltL b6 (B_eq (g8.1 9 rfl) b2) hq19) (by decide +kernel) (by decide +kernel)
        have b21 : B 1 32768 (S.1 9) := B_w (B_eq (Eq.symm (g8.1 9 rfl)) (B_ltR b6 (B_eq (g8.1 9 rfl) b2) hq19)) (by decide +kernel) (by decide +kernel)
        have q22 : (0) ≤ (x1_4).toInt ∧ (x1_4).toInt ≤ (32767) := (show B 0 32767 (x1_4) from B_w b20 (by decide +kernel) (by decide +kernel))
        have q23 : (1) ≤ (S.1 9).toInt ∧ (S.1 9).toInt ≤ (32768) := (show B 1 32768 (S.1 9) from B_w b21 (by decide +kernel) (by decide +kernel))
        have e24 : (T5.1 9).toInt = (S.1 9).toInt := (congrArg Int32.toInt (g8.1 9 rfl)).trans rfl
        have i25 : (x1_4).toInt < (T5.1 9).toInt := i_lt hq19
        refine ⟨vp_B b20 (by decide +kernel) (by decide +kernel), ?_⟩
        refine ⟨vp_B b20 (by decide +kernel) (by decide +kernel), ?_⟩
        have hI26 := IM_r (r := 6) (i := x1_4.toNatClampNeg) (v := T5.2.1 8 x1_4.toNatClampNeg) hI7 (B_eq (congrFun (g8.2 8 rfl) x1_4.toNatClampNeg) (show B 0 255 (S.2.1 8 x1_4.toNatClampNeg) from br_8 hI _)) (by decide +kernel) (by decide +kernel)
        have g28 := ag_tr (ag_refl (fs := []) (rs := [6]) (S := (upd S.1 0 0, S.2.1, S.2.2))) g8 (by decide +kernel) (by decide +kernel)
        have g27 := ag_r (r := 6) (w := upd (T5.2.1 6) x1_4.toNatClampNeg (T5.2.1 8 x1_4.toNatClampNeg)) g28 (by decide +kernel)
        have e29 : (x1_4 + 1).toInt = ((x1_4).toInt + 1) := (t_add b20 cqb_1_1_1 (by decide +kernel) (by decide +kernel)).trans (by rw [cqn_1])
        have q30 : (1) ≤ (x1_4 + 1).toInt ∧ (x1_4 + 1).toInt ≤ (32768) := (show B 1 32768 (x1_4 + 1) from B_w (B_add b20 cqb_1_1_1 (by decide +kernel) (by decide +kernel)) (by decide +kernel) (by decide +kernel))
        exact hR29 ⟨(B_w (B_add b20 cqb_1_1_1 (by decide +kernel) (by decide +kernel)) (by decide +kernel) (by decide +kernel)), hI26, g27⟩ (by show (32768 - (x1_4 + 1).toInt).toNat < (32768 - x1_4.toInt).toNat; omega)
    · exact (B_dead_lt cqb_0_0_0 cqb_0_0_0 (nle_lt hc) (by decide +kernel)).elim
  · have hq31 := (nle_lt hc)
    have b32 : B 32769 65536 (S.1 9) := B_w (B_ltR cqb_32768_32768_32768 (show B 0 65536 (S.1 9) from bf_9 hI) hq31) (by decide +kernel) (by decide +kernel)
    unfold b_turn2_15
    refine ⟨fun hc => ?_, fun hc => ?_⟩
    · exact (B_dead_le cqb_1_1_1 cqb_0_0_0 hc (by decide +kernel)).elim
    · have hq33 := (nle_lt hc)
      have hI34 := IM_f (k := 0) (v := 1) hI cqb_1_1_1 (by decide +kernel) (by decide +kernel)
      have g35 := ag_f (k := 0) (v := 1) (ag_refl (fs := [0, 7]) (rs := [6]) (S := S)) (by decide +kernel)
      exact hK (B_w cqb_0_0_0 (by decide +kernel) (by decide +kernel)) hI34 g35
set_option maxRecDepth 20000 in
set_option maxHeartbeats 4000000 in
theorem h_size {S : ms} {K : Int32 → ms → Prop} (hI : IM S) (hK : ∀ {v : Int32} {Z : ms}, B 0 65536 v → IM Z → ag [0] [] S Z → K v Z) : p_size S K := by
  unfold p_size
  have hI1 := IM_f (k := 0) (v := 0) hI cqb_0_0_0 (by decide +kernel) (by decide +kernel)
  have g2 := ag_f (k := 0) (v := 0) (ag_refl (fs := [0]) (rs := []) (S := S)) (by decide +kernel)
  exact hK (B_w (show B 0 65536 (S.1 9) from bf_9 hI) (by decide +kernel) (by decide +kernel)) hI1 g2
set_option maxRecDepth 20000 in
set_option maxHeartbeats 4000000 in
theorem h_place {S : ms} {K : Int32 → ms → Prop} (hI : IM S) (hK : ∀ {v : Int32} {Z : ms}, B (-2147483648) 2147483647 v → IM Z → ag [0] [] S Z → K v Z) : p_place S K := by
  unfold p_place
  have hI1 := IM_f (k := 0) (v := 0) hI cqb_0_0_0 (by decide +kernel) (by decide +kernel)
  have g2 := ag_f (k := 0) (v := 0) (ag_refl (fs := [0]) (rs := []) (S := S)) (by decide +kernel)
  exact hK (B_w (show B (-2147483648) 2147483647 (S.1 10) from bf_10 hI) (by decide +kernel) (by decide +kernel)) hI1 g2
set_option maxRecDepth 20000 in
set_option maxHeartbeats 4000000 in
theorem h_about {x1 : Int32} {S : ms} {K : Int32 → ms → Prop} (hI : IM S) (hK : ∀ {v : Int32} {Z : ms}, B 0 64 v → IM Z → ag [0] [] S Z → K v Z) : p_about x1 S K := by
  unfold p_about
  have hj1 : b_about_10 x1 S K := by
    unfold b_about_10
    unfold b_about_28
    refine ⟨fun hc => ?_, fun hc => ?_⟩
    · exact (B_dead_le cqb_1_1_1 cqb_0_0_0 hc (by decide +kernel)).elim
    · have hq2 := (nle_lt hc)
      unfold b_about_75
      have hI3 := IM_f (k := 0) (v := 1) hI cqb_1_1_1 (by decide +kernel) (by decide +kernel)
      have g4 := ag_f (k := 0) (v := 1) (ag_refl (fs := [0]) (rs := []) (S := S)) (by decide +kernel)
      exact hK (B_w cqb_0_0_0 (by decide +kernel) (by decide +kernel)) hI3 g4
  refine ⟨fun hc => ?_, fun hc => ?_⟩
  · have hq5 := hc
    have b6 : B (-2147483648) (-1) (x1) := B_w (B_ltL (B_any _) cqb_0_0_0 hq5) (by decide +kernel) (by decide +kernel)
    exact hj1 
  · have hq7 := (nlt_le hc)
    have b8 : B 0 2147483647 (x1) := B_w (B_leR cqb_0_0_0 (B_any _) hq7) (by decide +kernel) (by decide +kernel)
    refine ⟨fun hc => ?_, fun hc => ?_⟩
    · have hq9 := hc
      have b10 : B 0 2 (x1) := B_w (B_leL b8 cqb_2_2_2 hq9) (by decide +kernel) (by decide +kernel)
      refine ⟨vp_B cqb_1_1_1 (by decide +kernel) (by decide +kernel), ?_⟩
      refine ⟨fun hc => ?_, fun hc => ?_⟩
      · have b11 : B 0 0 (S.2.1 11 (1 : Int32).toNatClampNeg) := B_w (B_eq hc cqb_0_0_0) (by decide +kernel) (by decide +kernel)
        have q12 : (0) ≤ (S.2.1 11 (1 : Int32).toNatClampNeg).toInt ∧ (S.2.1 11 (1 : Int32).toNatClampNeg).toInt ≤ (0) := (show B 0 0 (S.2.1 11 (1 : Int32).toNatClampNeg) from B_w b11 (by decide +kernel) (by decide +kernel))
        have i13 : (S.2.1 11 (1 : Int32).toNatClampNeg).toInt = (0 : Int32).toInt := congrArg Int32.toInt hc
        have n14 : (0 : Int32).toInt = 0 := cqn_0
        unfold b_about_28
        refine ⟨fun hc => ?_, fun hc => ?_⟩
        · exact (B_dead_le cqb_2_2_2 cqb_0_0_0 hc (by decide +kernel)).elim
        · have hq15 := (nle_lt hc)
          unfold b_about_75
          have hI16 := IM_f (k := 0) (v := 2) hI cqb_2_2_2 (by decide +kernel) (by decide +kernel)
          have g17 := ag_f (k := 0) (v := 2) (ag_refl (fs := [0]) (rs := []) (S := S)) (by decide +kernel)
          exact hK (B_w cqb_0_0_0 (by decide +kernel) (by decide +kernel)) hI16 g17
      · have b18 : B 1 1 (S.2.1 11 (1 : Int32).toNatClampNeg) := B_w (B_n0 (show B 0 1 (S.2.1 11 (1 : Int32).toNatClampNeg) from br_11 hI _) hc) (by decide +kernel) (by decide +kernel)
        unfold b_about_28
        refine ⟨fun hc => ?_, fun hc => ?_⟩
        · have hq19 := hc
          refine ⟨fun hc => ?_, fun hc => ?_⟩
          · have b20 : B 1 2 (x1) := B_w (B_n0 b10 hc) (by decide +kernel) (by decide +kernel)
            refine ⟨fun hc => ?_, fun hc => ?_⟩
            · have q21 : (1) ≤ (x1).toInt ∧ (x1).toInt ≤ (2) := (show B 1 2 (x1) from B_w b20 (by decide +kernel) (by decide +kernel))
              have i22 : (x1).toInt ≠ (1 : Int32).toInt := i_ne hc
              have n23 : (1 : Int32).toInt = 1 := cqn_1
              refine ⟨vp_B cqb_1_1_1 (by decide +kernel) (by decide +kernel), ?_⟩
              unfold b_about_75
              have hI24 := IM_f (k := 0) (v := 0) hI cqb_0_0_0 (by decide +kernel) (by decide +kernel)
              have g25 := ag_f (k := 0) (v := 0) (ag_refl (fs := [0]) (rs := []) (S := S)) (by decide +kernel)
              exact hK (B_w (show B 0 3 (S.2.1 14 (1 : Int32).toNatClampNeg) from br_14 hI _) (by decide +kernel) (by decide +kernel)) hI24 g25
            · have b26 : B 1 1 (x1) := B_w (B_eq hc cqb_1_1_1) (by decide +kernel) (by decide +kernel)
              have q27 : (1) ≤ (x1).toInt ∧ (x1).toInt ≤ (1) := (show B 1 1 (x1) from B_w b26 (by decide +kernel) (by decide +kernel))
              have i28 : (x1).toInt = (1 : Int32).toInt := congrArg Int32.toInt hc
              have n29 : (1 : Int32).toInt = 1 := cqn_1
              refine ⟨vp_B cqb_1_1_1 (by decide +kernel) (by decide +kernel), ?_⟩
              unfold b_about_75
              have hI30 := IM_f (k := 0) (v := 0) hI cqb_0_0_0 (by decide +kernel) (by decide +kernel)
              have g31 := ag_f (k := 0) (v := 0) (ag_refl (fs := [0]) (rs := []) (S := S)) (by decide +kernel)
              exact hK (B_w (show B 0 64 (S.2.1 13 (1 : Int32).toNatClampNeg) from br_13 hI _) (by decide +kernel) (by decide +kernel)) hI30 g31
          · have b32 : B 0 0 (x1) := B_w (B_eq hc cqb_0_0_0) (by decide +kernel) (by decide +kernel)
            have q33 : (0) ≤ (x1).toInt ∧ (x1).toInt ≤ (0) := (show B 0 0 (x1) from B_w b32 (by decide +kernel) (by decide +kernel))
            have i34 : (x1).toInt = (0 : Int32).toInt := congrArg Int32.toInt hc
            have n35 : (0 : Int32).toInt = 0 := cqn_0
            refine ⟨vp_B cqb_1_1_1 (by decide +kernel) (by decide +kernel), ?_⟩
            unfold b_about_75
            have hI36 := IM_f (k := 0) (v := 0) hI cqb_0_0_0 (by decide +kernel) (by decide +kernel)
            have g37 := ag_f (k := 0) (v := 0) (ag_refl (fs := [0]) (rs := []) (S := S)) (by decide +kernel)
            exact hK (B_w (show B 0 64 (S.2.1 12 (1 : Int32).toNatClampNeg) from br_12 hI _) (by decide +kernel) (by decide +kernel)) hI36 g37
        · exact (B_dead_lt cqb_0_0_0 cqb_0_0_0 (nle_lt hc) (by decide +kernel)).elim
    · have hq38 := (nle_lt hc)
      have b39 : B 3 2147483647 (x1) := B_w (B_ltR cqb_2_2_2 b8 hq38) (by decide +kernel) (by decide +kernel)
      exact hj1 
set_option maxRecDepth 20000 in
set_option maxHeartbeats 4000000 in
theorem h_layerSample {x1 : Int32} {x2 : Int32} {x3 : Int32} {S : ms} {K : Int32 → ms → Prop} (b_x1 : B 0 63 x1) (b_x2 : B 0 63 x2) (b_x3 : B 0 2 x3) (hI : IM S) (pre0 : qf (S.2.1 15) 3 (3 + (S.2.1 14 (1 : Int32).toNatClampNeg).toInt) 1 2) (pre1 : qf (S.2.1 16) 3 (3 + (S.2.1 14 (1 : Int32).toNatClampNeg).toInt) 1 2) (pre2 : x3.toInt < (S.2.1 14 (1 : Int32).toNatClampNeg).toInt) (hK : ∀ {v : Int32}, B 0 255 v → K v S) : p_layerSample x1 x2 x3 S K := by
  have q1 : (0) ≤ (S.2.1 14 (1 : Int32).toNatClampNeg).toInt ∧ (S.2.1 14 (1 : Int32).toNatClampNeg).toInt ≤ (3) := (show B 0 3 (S.2.1 14 (1 : Int32).toNatClampNeg) from br_14 hI _)
  have q2 : (0) ≤ (x3).toInt ∧ (x3).toInt ≤ (2) := (show B 0 2 (x3) from B_w b_x3 (by decide +kernel) (by decide +kernel))
  unfold p_layerSample
  refine ⟨vp_B (B_add cqb_3_3_3 b_x3 (by decide +kernel) (by decide +kernel)) (by decide +kernel) (by decide +kernel), ?_⟩
  refine h_greatest_x11_x21 hI (qf_le (b' := 3 + (S.2.1 14 (1 : Int32).toNatClampNeg).toInt) pre0 (by omega) (by decide +kernel) (by decide +kernel)) (fun {v13_3} b5 r6 => ?_)
  rcases sp_12 b5 with rfl | rfl
  · have r7 : qf (S.2.1 15) 3 (3 + (S.2.1 14 (1 : Int32).toNatClampNeg).toInt) 1 1 := r6
    clear r6
    refine ⟨B_nz cqb_1_1_1 (by decide +kernel), ?_⟩
    refine ⟨vp_B (B_add cqb_3_3_3 b_x3 (by decide +kernel) (by decide +kernel)) (by decide +kernel) (by decide +kernel), ?_⟩
    refine h_greatest_x11_x20 hI (qf_le (b' := 3 + (S.2.1 14 (1 : Int32).toNatClampNeg).toInt) pre1 (by omega) (by decide +kernel) (by decide +kernel)) (fun {v32_8} b10 r11 => ?_)
    rcases sp_12 b10 with rfl | rfl
    · have r12 : qf (S.2.1 16) 3 (3 + (S.2.1 14 (1 : Int32).toNatClampNeg).toInt) 1 1 := r11
      clear r11
      refine ⟨B_nz cqb_1_1_1 (by decide +kernel), ?_⟩
      have e13 : (3 + x3).toInt = (3 + (x3).toInt) := (t_add cqb_3_3_3 b_x3 (by decide +kernel) (by decide +kernel)).trans (by rw [cqn_3])
      have q14 : (3) ≤ (3 + x3).toInt ∧ (3 + x3).toInt ≤ (5) := (show B 3 5 (3 + x3) from B_w (B_add cqb_3_3_3 b_x3 (by decide +kernel) (by decide +kernel)) (by decide +kernel) (by decide +kernel))
      have b15 : B 1 1 (S.2.1 16 (3 + x3).toNatClampNeg) := qf_at r12 (x := 3 + x3) (by omega) (by omega)
      have b16 : B 1 1 (S.2.1 15 (3 + x3).toNatClampNeg) := qf_at r7 (x := 3 + x3) (by omega) (by omega)
      refine ⟨vp_B (B_add (B_mul cqb_64_64_64 (B_add (B_mul cqb_64_64_64 b_x3 (by decide +kernel) (by decide +kernel) (by decide +kernel)) (show B 0 63 ((x2 * (S.2.1 16 (3 + x3).toNatClampNeg)) / 1) from B_div2 (B_mul b_x2 b15 (by decide +kernel) (by decide +kernel) (by decide +kernel)) cqb_1_1_1 (by decide +kernel) (by decide +kernel) (by decide +kernel) (by decide +kernel)) (by decide +kernel) (by decide +kernel)) (by decide +kernel) (by decide +kernel) (by decide +kernel)) (show B 0 63 ((x1 * (S.2.1 15 (3 + x3).toNatClampNeg)) / 1) from B_div2 (B_mul b_x1 b16 (by decide +kernel) (by decide +kernel) (by decide +kernel)) cqb_1_1_1 (by decide +kernel) (by decide +kernel) (by decide +kernel) (by decide +kernel)) (by decide +kernel) (by decide +kernel)) (by decide +kernel) (by decide +kernel), ?_⟩
      exact hK (B_w (show B 0 255 (S.2.1 20 ((64 * ((64 * x3) + ((x2 * (S.2.1 16 (3 + x3).toNatClampNeg)) / 1))) + ((x1 * (S.2.1 15 (3 + x3).toNatClampNeg)) / 1)).toNatClampNeg) from br_20 hI _) (by decide +kernel) (by decide +kernel))
    · have r17 : qf (S.2.1 16) 3 (3 + (S.2.1 14 (1 : Int32).toNatClampNeg).toInt) 1 2 := r11
      clear r11
      refine ⟨B_nz cqb_2_2_2 (by decide +kernel), ?_⟩
      have e18 : (3 + x3).toInt = (3 + (x3).toInt) := (t_add cqb_3_3_3 b_x3 (by decide +kernel) (by decide +kernel)).trans (by rw [cqn_3])
      have q19 : (3) ≤ (3 + x3).toInt ∧ (3 + x3).toInt ≤ (5) := (show B 3 5 (3 + x3) from B_w (B_add cqb_3_3_3 b_x3 (by decide +kernel) (by decide +kernel)) (by decide +kernel) (by decide +kernel))
      have b20 : B 1 2 (S.2.1 16 (3 + x3).toNatClampNeg) := qf_at r17 (x := 3 + x3) (by omega) (by omega)
      have b21 : B 1 1 (S.2.1 15 (3 + x3).toNatClampNeg) := qf_at r7 (x := 3 + x3) (by omega) (by omega)
      refine ⟨vp_B (B_add (B_mul cqb_64_64_64 (B_add (B_mul cqb_64_64_64 b_x3 (by decide +kernel) (by decide +kernel) (by decide +kernel)) (show B 0 63 ((x2 * (S.2.1 16 (3 + x3).toNatClampNeg)) / 2) from B_div2 (B_mul b_x2 b20 (by decide +kernel) (by decide +kernel) (by decide +kernel)) cqb_2_2_2 (by decide +kernel) (by decide +kernel) (by decide +kernel) (by decide +kernel)) (by decide +kernel) (by decide +kernel)) (by decide +kernel) (by decide +kernel) (by decide +kernel)) (show B 0 63 ((x1 * (S.2.1 15 (3 + x3).toNatClampNeg)) / 1) from B_div2 (B_mul b_x1 b21 (by decide +kernel) (by decide +kernel) (by decide +kernel)) cqb_1_1_1 (by decide +kernel) (by decide +kernel) (by decide +kernel) (by decide +kernel)) (by decide +kernel) (by decide +kernel)) (by decide +kernel) (by decide +kernel), ?_⟩
      exact hK (B_w (show B 0 255 (S.2.1 20 ((64 * ((64 * x3) + ((x2 * (S.2.1 16 (3 + x3).toNatClampNeg)) / 2))) + ((x1 * (S.2.1 15 (3 + x3).toNatClampNeg)) / 1)).toNatClampNeg) from br_20 hI _) (by decide +kernel) (by decide +kernel))
  · have r22 : qf (S.2.1 15) 3 (3 + (S.2.1 14 (1 : Int32).toNatClampNeg).toInt) 1 2 := r6
    clear r6
    refine ⟨B_nz cqb_2_2_2 (by decide +kernel), ?_⟩
    refine ⟨vp_B (B_add cqb_3_3_3 b_x3 (by decide +kernel) (by decide +kernel)) (by decide +kernel) (by decide +kernel), ?_⟩
    refine h_greatest_x11_x20 hI (qf_le (b' := 3 + (S.2.1 14 (1 : Int32).toNatClampNeg).toInt) pre1 (by omega) (by decide +kernel) (by decide +kernel)) (fun {v32_23} b25 r26 => ?_)
    rcases sp_12 b25 with rfl | rfl
    · have r27 : qf (S.2.1 16) 3 (3 + (S.2.1 14 (1 : Int32).toNatClampNeg).toInt) 1 1 := r26
      clear r26
      refine ⟨B_nz cqb_1_1_1 (by decide +kernel), ?_⟩
      have e28 : (3 + x3).toInt = (3 + (x3).toInt) := (t_add cqb_3_3_3 b_x3 (by decide +kernel) (by decide +kernel)).trans (by rw [cqn_3])
      have q29 : (3) ≤ (3 + x3).toInt ∧ (3 + x3).toInt ≤ (5) := (show B 3 5 (3 + x3) from B_w (B_add cqb_3_3_3 b_x3 (by decide +kernel) (by decide +kernel)) (by decide +kernel) (by decide +kernel))
      have b30 : B 1 1 (S.2.1 16 (3 + x3).toNatClampNeg) := qf_at r27 (x := 3 + x3) (by omega) (by omega)
      have b31 : B 1 2 (S.2.1 15 (3 + x3).toNatClampNeg) := qf_at r22 (x := 3 + x3) (by omega) (by omega)
      refine ⟨vp_B (B_add (B_mul cqb_64_64_64 (B_add (B_mul cqb_64_64_64 b_x3 (by decide +kernel) (by decide +kernel) (by decide +kernel)) (show B 0 63 ((x2 * (S.2.1 16 (3 + x3).toNatClampNeg)) / 1) from B_div2 (B_mul b_x2 b30 (by decide +kernel) (by decide +kernel) (by decide +kernel)) cqb_1_1_1 (by decide +kernel) (by decide +kernel) (by decide +kernel) (by decide +kernel)) (by decide +kernel) (by decide +kernel)) (by decide +kernel) (by decide +kernel) (by decide +kernel)) (show B 0 63 ((x1 * (S.2.1 15 (3 + x3).toNatClampNeg)) / 2) from B_div2 (B_mul b_x1 b31 (by decide +kernel) (by decide +kernel) (by decide +kernel)) cqb_2_2_2 (by decide +kernel) (by decide +kernel) (by decide +kernel) (by decide +kernel)) (by decide +kernel) (by decide +kernel)) (by decide +kernel) (by decide +kernel), ?_⟩
      exact hK (B_w (show B 0 255 (S.2.1 20 ((64 * ((64 * x3) + ((x2 * (S.2.1 16 (3 + x3).toNatClampNeg)) / 1))) + ((x1 * (S.2.1 15 (3 + x3).toNatClampNeg)) / 2)).toNatClampNeg) from br_20 hI _) (by decide +kernel) (by decide +kernel))
    · have r32 : qf (S.2.1 16) 3 (3 + (S.2.1 14 (1 : Int32).toNatClampNeg).toInt) 1 2 := r26
      clear r26
      refine ⟨B_nz cqb_2_2_2 (by decide +kernel), ?_⟩
      have e33 : (3 + x3).toInt = (3 + (x3).toInt) := (t_add cqb_3_3_3 b_x3 (by decide +kernel) (by decide +kernel)).trans (by rw [cqn_3])
      have q34 : (3) ≤ (3 + x3).toInt ∧ (3 + x3).toInt ≤ (5) := (show B 3 5 (3 + x3) from B_w (B_add cqb_3_3_3 b_x3 (by decide +kernel) (by decide +kernel)) (by decide +kernel) (by decide +kernel))
      have b35 : B 1 2 (S.2.1 16 (3 + x3).toNatClampNeg) := qf_at r32 (x := 3 + x3) (by omega) (by omega)
      have b36 : B 1 2 (S.2.1 15 (3 + x3).toNatClampNeg) := qf_at r22 (x := 3 + x3) (by omega) (by omega)
      refine ⟨vp_B (B_add (B_mul cqb_64_64_64 (B_add (B_mul cqb_64_64_64 b_x3 (by decide +kernel) (by decide +kernel) (by decide +kernel)) (show B 0 63 ((x2 * (S.2.1 16 (3 + x3).toNatClampNeg)) / 2) from B_div2 (B_mul b_x2 b35 (by decide +kernel) (by decide +kernel) (by decide +kernel)) cqb_2_2_2 (by decide +kernel) (by decide +kernel) (by decide +kernel) (by decide +kernel)) (by decide +kernel) (by decide +kernel)) (by decide +kernel) (by decide +kernel) (by decide +kernel)) (show B 0 63 ((x1 * (S.2.1 15 (3 + x3).toNatClampNeg)) / 2) from B_div2 (B_mul b_x1 b36 (by decide +kernel) (by decide +kernel) (by decide +kernel)) cqb_2_2_2 (by decide +kernel) (by decide +kernel) (by decide +kernel) (by decide +kernel)) (by decide +kernel) (by decide +kernel)) (by decide +kernel) (by decide +kernel), ?_⟩
      exact hK (B_w (show B 0 255 (S.2.1 20 ((64 * ((64 * x3) + ((x2 * (S.2.1 16 (3 + x3).toNatClampNeg)) / 2))) + ((x1 * (S.2.1 15 (3 + x3).toNatClampNeg)) / 2)).toNatClampNeg) from br_20 hI _) (by decide +kernel) (by decide +kernel))
set_option maxRecDepth 20000 in
set_option maxHeartbeats 4000000 in
theorem h_sampleAt {x1 : Int32} {x2 : Int32} {x3 : Int32} {S : ms} {K : Int32 → ms → Prop} (b_x1 : B 0 63 x1) (b_x2 : B 0 63 x2) (b_x3 : B 0 2 x3) (hI : IM S) (pre0 : qf (S.2.1 15) 3 (3 + (S.2.1 14 (1 : Int32).toNatClampNeg).toInt) 1 2) (pre1 : qf (S.2.1 16) 3 (3 + (S.2.1 14 (1 : Int32).toNatClampNeg).toInt) 1 2) (pre2 : ((S.2.1 14 (1 : Int32).toNatClampNeg).toInt = 1) ∨ ((S.2.1 14 (1 : Int32).toNatClampNeg).toInt = 3)) (hK : ∀ {v : Int32}, B 0 255 v → K v S) : p_sampleAt x1 x2 x3 S K := by
  have q1 : (0) ≤ (S.2.1 14 (1 : Int32).toNatClampNeg).toInt ∧ (S.2.1 14 (1 : Int32).toNatClampNeg).toInt ≤ (3) := (show B 0 3 (S.2.1 14 (1 : Int32).toNatClampNeg) from br_14 hI _)
  unfold p_sampleAt
  refine h_layerSample b_x1 b_x2 (B_w cqb_0_0_0 (by decide +kernel) (by decide +kernel)) hI (qf_le (b' := 3 + (S.2.1 14 (1 : Int32).toNatClampNeg).toInt) pre0 (by omega) (by decide +kernel) (by decide +kernel)) (qf_le (b' := 3 + (S.2.1 14 (1 : Int32).toNatClampNeg).toInt) pre1 (by omega) (by decide +kernel) (by decide +kernel)) (by show 0 < (S.2.1 14 (1 : Int32).toNatClampNeg).toInt; first | with_reducible assumption | omega) (fun {v4_2} b4 => ?_)
  refine ⟨vp_B cqb_1_1_1 (by decide +kernel) (by decide +kernel), ?_⟩
  refine ⟨fun hc => ?_, fun hc => ?_⟩
  · have i5 : (S.2.1 14 (1 : Int32).toNatClampNeg).toInt ≠ (1 : Int32).toInt := i_ne hc
    have n6 : (1 : Int32).toInt = 1 := cqn_1
    refine h_layerSample b_x1 b_x2 (B_w cqb_1_1_1 (by decide +kernel) (by decide +kernel)) hI (qf_le (b' := 3 + (S.2.1 14 (1 : Int32).toNatClampNeg).toInt) pre0 (by omega) (by decide +kernel) (by decide +kernel)) (qf_le (b' := 3 + (S.2.1 14 (1 : Int32).toNatClampNeg).toInt) pre1 (by omega) (by decide +kernel) (by decide +kernel)) (by show 1 < (S.2.1 14 (1 : Int32).toNatClampNeg).toInt; first | with_reducible assumption | omega) (fun {v26_7} b9 => ?_)
    refine h_layerSample b_x1 b_x2 (B_w cqb_2_2_2 (by decide +kernel) (by decide +kernel)) hI (qf_le (b' := 3 + (S.2.1 14 (1 : Int32).toNatClampNeg).toInt) pre0 (by omega) (by decide +kernel) (by decide +kernel)) (qf_le (b' := 3 + (S.2.1 14 (1 : Int32).toNatClampNeg).toInt) pre1 (by omega) (by decide +kernel) (by decide +kernel)) (by show 2 < (S.2.1 14 (1 : Int32).toNatClampNeg).toInt; first | with_reducible assumption | omega) (fun {v39_10} b12 => ?_)
    have hj13 : ∀ {s0_14 : Int32}, B (-227) 482 s0_14 → b_sampleAt_115 s0_14 S K := by
      intro s0_14 b15
      unfold b_sampleAt_115
      refine ⟨fun hc => ?_, fun hc => ?_⟩
      · have hq16 := hc
        have b17 : B 0 482 (s0_14) := B_w (B_leR cqb_0_0_0 b15 hq16) (by decide +kernel) (by decide +kernel)
        refine ⟨fun hc => ?_, fun hc => ?_⟩
        · have hq18 := hc
          have b19 : B 0 255 (s0_14) := B_w (B_leL b17 cqb_255_255_255 hq18) (by decide +kernel) (by decide +kernel)
          unfold b_sampleAt_142
          exact hK b19
        · have hq20 := (nle_lt hc)
          have b21 : B 256 482 (s0_14) := B_w (B_ltR cqb_255_255_255 b17 hq20) (by decide +kernel) (by decide +kernel)
          unfold b_sampleAt_142
          exact hK (B_w cqb_255_255_255 (by decide +kernel) (by decide +kernel))
      · have hq22 := (nle_lt hc)
        have b23 : B (-227) (-1) (s0_14) := B_w (B_ltL b15 cqb_0_0_0 hq22) (by decide +kernel) (by decide +kernel)
        unfold b_sampleAt_142
        exact hK (B_w cqb_0_0_0 (by decide +kernel) (by decide +kernel))
    refine ⟨fun hc => ?_, fun hc => ?_⟩
    · have b24 : B 1 2 (x3) := B_w (B_n0 b_x3 hc) (by decide +kernel) (by decide +kernel)
      refine ⟨fun hc => ?_, fun hc => ?_⟩
      · have q25 : (1) ≤ (x3).toInt ∧ (x3).toInt ≤ (2) := (show B 1 2 (x3) from B_w b24 (by decide +kernel) (by decide +kernel))
        have i26 : (x3).toInt ≠ (1 : Int32).toInt := i_ne hc
        have n27 : (1 : Int32).toInt = 1 := cqn_1
        exact hj13 (B_w (B_add b4 (show B (-227) 227 ((((116130 * (v26_7 - 128)) + 32768) >>> (16 &&& 31 : Int32) : Int32)) from B_w (B_shr (k := 16) (by decide +kernel) (B_add (show B (-14864640) 14864640 (116130 * (v26_7 - 128)) from B_mulS (m := 116130) (n := 128) (B_w cqb_116130_116130_116130 (by decide +kernel) (by decide +kernel)) (B_w (B_sub b9 cqb_128_128_128 (by decide +kernel) (by decide +kernel)) (by decide +kernel) (by decide +kernel)) (by decide +kernel)) cqb_32768_32768_32768 (by decide +kernel) (by decide +kernel))) (by decide +kernel) (by decide +kernel)) (by decide +kernel) (by decide +kernel)) (by decide +kernel) (by decide +kernel))
      · have b28 : B 1 1 (x3) := B_w (B_eq hc cqb_1_1_1) (by decide +kernel) (by decide +kernel)
        have q29 : (1) ≤ (x3).toInt ∧ (x3).toInt ≤ (1) := (show B 1 1 (x3) from B_w b28 (by decide +kernel) (by decide +kernel))
        have i30 : (x3).toInt = (1 : Int32).toInt := congrArg Int32.toInt hc
        have n31 : (1 : Int32).toInt = 1 := cqn_1
        exact hj13 (B_w (B_sub b4 (show B (-135) 135 (((((22554 * (v26_7 - 128)) + (46802 * (v39_10 - 128))) + 32768) >>> (16 &&& 31 : Int32) : Int32)) from B_w (B_shr (k := 16) (by decide +kernel) (B_add (B_add (show B (-2886912) 2886912 (22554 * (v26_7 - 128)) from B_mulS (m := 22554) (n := 128) (B_w cqb_22554_22554_22554 (by decide +kernel) (by decide +kernel)) (B_w (B_sub b9 cqb_128_128_128 (by decide +kernel) (by decide +kernel)) (by decide +kernel) (by decide +kernel)) (by decide +kernel)) (show B (-5990656) 5990656 (46802 * (v39_10 - 128)) from B_mulS (m := 46802) (n := 128) (B_w cqb_46802_46802_46802 (by decide +kernel) (by decide +kernel)) (B_w (B_sub b12 cqb_128_128_128 (by decide +kernel) (by decide +kernel)) (by decide +kernel) (by decide +kernel)) (by decide +kernel)) (by decide +kernel) (by decide +kernel)) cqb_32768_32768_32768 (by decide +kernel) (by decide +kernel))) (by decide +kernel) (by decide +kernel)) (by decide +kernel) (by decide +kernel)) (by decide +kernel) (by decide +kernel))
    · have b32 : B 0 0 (x3) := B_w (B_eq hc cqb_0_0_0) (by decide +kernel) (by decide +kernel)
      have q33 : (0) ≤ (x3).toInt ∧ (x3).toInt ≤ (0) := (show B 0 0 (x3) from B_w b32 (by decide +kernel) (by decide +kernel))
      have i34 : (x3).toInt = (0 : Int32).toInt := congrArg Int32.toInt hc
      have n35 : (0 : Int32).toInt = 0 := cqn_0
      exact hj13 (B_w (B_add b4 (show B (-179) 179 ((((91881 * (v39_10 - 128)) + 32768) >>> (16 &&& 31 : Int32) : Int32)) from B_w (B_shr (k := 16) (by decide +kernel) (B_add (show B (-11760768) 11760768 (91881 * (v39_10 - 128)) from B_mulS (m := 91881) (n := 128) (B_w cqb_91881_91881_91881 (by decide +kernel) (by decide +kernel)) (B_w (B_sub b12 cqb_128_128_128 (by decide +kernel) (by decide +kernel)) (by decide +kernel) (by decide +kernel)) (by decide +kernel)) cqb_32768_32768_32768 (by decide +kernel) (by decide +kernel))) (by decide +kernel) (by decide +kernel)) (by decide +kernel) (by decide +kernel)) (by decide +kernel) (by decide +kernel))
  · have b36 : B 1 1 (S.2.1 14 (1 : Int32).toNatClampNeg) := B_w (B_eq hc cqb_1_1_1) (by decide +kernel) (by decide +kernel)
    have q37 : (1) ≤ (S.2.1 14 (1 : Int32).toNatClampNeg).toInt ∧ (S.2.1 14 (1 : Int32).toNatClampNeg).toInt ≤ (1) := (show B 1 1 (S.2.1 14 (1 : Int32).toNatClampNeg) from B_w b36 (by decide +kernel) (by decide +kernel))
    have i38 : (S.2.1 14 (1 : Int32).toNatClampNeg).toInt = (1 : Int32).toInt := congrArg Int32.toInt hc
    have n39 : (1 : Int32).toInt = 1 := cqn_1
    exact hK b4
set_option maxRecDepth 20000 in
set_option maxHeartbeats 4000000 in
theorem h_sample {x1 : Int32} {x2 : Int32} {x3 : Int32} {S : ms} {K : Int32 → ms → Prop} (hI : IM S) (pre0 : qf (S.2.1 15) 3 (3 + (S.2.1 14 (1 : Int32).toNatClampNeg).toInt) 1 2) (pre1 : qf (S.2.1 16) 3 (3 + (S.2.1 14 (1 : Int32).toNatClampNeg).toInt) 1 2) (pre2 : ((S.2.1 11 (1 : Int32).toNatClampNeg).toInt = 0) ∨ (((S.2.1 14 (1 : Int32).toNatClampNeg).toInt = 1) ∨ ((S.2.1 14 (1 : Int32).toNatClampNeg).toInt = 3))) (hK : ∀ {v : Int32} {Z : ms}, B 0 255 v → IM Z → ag [0] [] S Z → K v Z) : p_sample x1 x2 x3 S K := by
  have q1 : (0) ≤ (S.2.1 14 (1 : Int32).toNatClampNeg).toInt ∧ (S.2.1 14 (1 : Int32).toNatClampNeg).toInt ≤ (3) := (show B 0 3 (S.2.1 14 (1 : Int32).toNatClampNeg) from br_14 hI _)
  have q2 : (0) ≤ (S.2.1 11 (1 : Int32).toNatClampNeg).toInt ∧ (S.2.1 11 (1 : Int32).toNatClampNeg).toInt ≤ (1) := (show B 0 1 (S.2.1 11 (1 : Int32).toNatClampNeg) from br_11 hI _)
  unfold p_sample
  refine ⟨vp_B cqb_1_1_1 (by decide +kernel) (by decide +kernel), ?_⟩
  refine ⟨fun hc => ?_, fun hc => ?_⟩
  · have b3 : B 1 1 (S.2.1 11 (1 : Int32).toNatClampNeg) := B_w (B_n0 (show B 0 1 (S.2.1 11 (1 : Int32).toNatClampNeg) from br_11 hI _) hc) (by decide +kernel) (by decide +kernel)
    have q4 : (1) ≤ (S.2.1 11 (1 : Int32).toNatClampNeg).toInt ∧ (S.2.1 11 (1 : Int32).toNatClampNeg).toInt ≤ (1) := (show B 1 1 (S.2.1 11 (1 : Int32).toNatClampNeg) from B_w b3 (by decide +kernel) (by decide +kernel))
    have hj5 : b_sample_60 x1 x2 x3 S K := by
      unfold b_sample_60
      unfold b_sample_65
      refine ⟨fun hc => ?_, fun hc => ?_⟩
      · exact (B_dead_le cqb_2_2_2 cqb_0_0_0 hc (by decide +kernel)).elim
      · have hq6 := (nle_lt hc)
        unfold b_sample_86
        have hI7 := IM_f (k := 0) (v := 2) hI cqb_2_2_2 (by decide +kernel) (by decide +kernel)
        have g8 := ag_f (k := 0) (v := 2) (ag_refl (fs := [0]) (rs := []) (S := S)) (by decide +kernel)
        exact hK (B_w cqb_0_0_0 (by decide +kernel) (by decide +kernel)) hI7 g8
    refine ⟨fun hc => ?_, fun hc => ?_⟩
    · have hq9 := hc
      have b10 : B (-2147483648) (-1) (x1) := B_w (B_ltL (B_any _) cqb_0_0_0 hq9) (by decide +kernel) (by decide +kernel)
      exact hj5 
    · have hq11 := (nlt_le hc)
      have b12 : B 0 2147483647 (x1) := B_w (B_leR cqb_0_0_0 (B_any _) hq11) (by decide +kernel) (by decide +kernel)
      refine ⟨vp_B cqb_1_1_1 (by decide +kernel) (by decide +kernel), ?_⟩
      refine ⟨fun hc => ?_, fun hc => ?_⟩
      · have hq13 := hc
        have q14 : (0) ≤ (S.2.1 12 (1 : Int32).toNatClampNeg).toInt ∧ (S.2.1 12 (1 : Int32).toNatClampNeg).toInt ≤ (64) := (show B 0 64 (S.2.1 12 (1 : Int32).toNatClampNeg) from br_12 hI _)
        have q15 : (0) ≤ (x1).toInt ∧ (x1).toInt ≤ (2147483647) := (show B 0 2147483647 (x1) from B_w b12 (by decide +kernel) (by decide +kernel))
        have i16 : (S.2.1 12 (1 : Int32).toNatClampNeg).toInt ≤ (x1).toInt := i_le hq13
        exact hj5 
      · have hq17 := (nle_lt hc)
        have b18 : B 0 63 (x1) := B_w (B_ltL b12 (show B 0 64 (S.2.1 12 (1 : Int32).toNatClampNeg) from br_12 hI _) hq17) (by decide +kernel) (by decide +kernel)
        have b19 : B 1 64 (S.2.1 12 (1 : Int32).toNatClampNeg) := B_w (B_ltR b12 (show B 0 64 (S.2.1 12 (1 : Int32).toNatClampNeg) from br_12 hI _) hq17) (by decide +kernel) (by decide +kernel)
        have q20 : (0) ≤ (x1).toInt ∧ (x1).toInt ≤ (63) := (show B 0 63 (x1) from B_w b18 (by decide +kernel) (by decide +kernel))
        have q21 : (1) ≤ (S.2.1 12 (1 : Int32).toNatClampNeg).toInt ∧ (S.2.1 12 (1 : Int32).toNatClampNeg).toInt ≤ (64) := (show B 1 64 (S.2.1 12 (1 : Int32).toNatClampNeg) from B_w b19 (by decide +kernel) (by decide +kernel))
        have i22 : (x1).toInt < (S.2.1 12 (1 : Int32).toNatClampNeg).toInt := i_lt hq17
        refine ⟨fun hc => ?_, fun hc => ?_⟩
        · have hq23 := hc
          have b24 : B (-2147483648) (-1) (x2) := B_w (B_ltL (B_any _) cqb_0_0_0 hq23) (by decide +kernel) (by decide +kernel)
          exact hj5 
        · have hq25 := (nlt_le hc)
          have b26 : B 0 2147483647 (x2) := B_w (B_leR cqb_0_0_0 (B_any _) hq25) (by decide +kernel) (by decide +kernel)
          refine ⟨vp_B cqb_1_1_1 (by decide +kernel) (by decide +kernel), ?_⟩
          refine ⟨fun hc => ?_, fun hc => ?_⟩
          · have hq27 := hc
            have q28 : (0) ≤ (S.2.1 13 (1 : Int32).toNatClampNeg).toInt ∧ (S.2.1 13 (1 : Int32).toNatClampNeg).toInt ≤ (64) := (show B 0 64 (S.2.1 13 (1 : Int32).toNatClampNeg) from br_13 hI _)
            have q29 : (0) ≤ (x2).toInt ∧ (x2).toInt ≤ (2147483647) := (show B 0 2147483647 (x2) from B_w b26 (by decide +kernel) (by decide +kernel))
            have i30 : (S.2.1 13 (1 : Int32).toNatClampNeg).toInt ≤ (x2).toInt := i_le hq27
            exact hj5 
          · have hq31 := (nle_lt hc)
            have b32 : B 0 63 (x2) := B_w (B_ltL b26 (show B 0 64 (S.2.1 13 (1 : Int32).toNatClampNeg) from br_13 hI _) hq31) (by decide +kernel) (by decide +kernel)
            have b33 : B 1 64 (S.2.1 13 (1 : Int32).toNatClampNeg) := B_w (B_ltR b26 (show B 0 64 (S.2.1 13 (1 : Int32).toNatClampNeg) from br_13 hI _) hq31) (by decide +kernel) (by decide +kernel)
            have q34 : (0) ≤ (x2).toInt ∧ (x2).toInt ≤ (63) := (show B 0 63 (x2) from B_w b32 (by decide +kernel) (by decide +kernel))
            have q35 : (1) ≤ (S.2.1 13 (1 : Int32).toNatClampNeg).toInt ∧ (S.2.1 13 (1 : Int32).toNatClampNeg).toInt ≤ (64) := (show B 1 64 (S.2.1 13 (1 : Int32).toNatClampNeg) from B_w b33 (by decide +kernel) (by decide +kernel))
            have i36 : (x2).toInt < (S.2.1 13 (1 : Int32).toNatClampNeg).toInt := i_lt hq31
            refine ⟨fun hc => ?_, fun hc => ?_⟩
            · have hq37 := hc
              have b38 : B (-2147483648) (-1) (x3) := B_w (B_ltL (B_any _) cqb_0_0_0 hq37) (by decide +kernel) (by decide +kernel)
              exact hj5 
            · have hq39 := (nlt_le hc)
              have b40 : B 0 2147483647 (x3) := B_w (B_leR cqb_0_0_0 (B_any _) hq39) (by decide +kernel) (by decide +kernel)
              refine ⟨vp_B cqb_1_1_1 (by decide +kernel) (by decide +kernel), ?_⟩
              refine ⟨fun hc => ?_, fun hc => ?_⟩
              · have hq41 := hc
                have b42 : B 0 2 (x3) := B_w (B_ltL b40 (show B 0 3 (S.2.1 14 (1 : Int32).toNatClampNeg) from br_14 hI _) hq41) (by decide +kernel) (by decide +kernel)
                have b43 : B 1 3 (S.2.1 14 (1 : Int32).toNatClampNeg) := B_w (B_ltR b40 (show B 0 3 (S.2.1 14 (1 : Int32).toNatClampNeg) from br_14 hI _) hq41) (by decide +kernel) (by decide +kernel)
                have q44 : (1) ≤ (S.2.1 14 (1 : Int32).toNatClampNeg).toInt ∧ (S.2.1 14 (1 : Int32).toNatClampNeg).toInt ≤ (3) := (show B 1 3 (S.2.1 14 (1 : Int32).toNatClampNeg) from B_w b43 (by decide +kernel) (by decide +kernel))
                have q45 : (0) ≤ (x3).toInt ∧ (x3).toInt ≤ (2) := (show B 0 2 (x3) from B_w b42 (by decide +kernel) (by decide +kernel))
                have i46 : (x3).toInt < (S.2.1 14 (1 : Int32).toNatClampNeg).toInt := i_lt hq41
                unfold b_sample_65
                refine ⟨fun hc => ?_, fun hc => ?_⟩
                · have hq47 := hc
                  have hI48 := IM_f (k := 0) (v := 0) hI cqb_0_0_0 (by decide +kernel) (by decide +kernel)
                  refine h_sampleAt b18 b32 b42 hI48 (qf_le (b' := 3 + (S.2.1 14 (1 : Int32).toNatClampNeg).toInt) pre0 (by omega) (by decide +kernel) (by decide +kernel)) (qf_le (b' := 3 + (S.2.1 14 (1 : Int32).toNatClampNeg).toInt) pre1 (by omega) (by decide +kernel) (by decide +kernel)) (by show ((S.2.1 14 (1 : Int32).toNatClampNeg).toInt = 1) ∨ ((S.2.1 14 (1 : Int32).toNatClampNeg).toInt = 3); first | with_reducible assumption | omega) (fun {v83_49} b51 => ?_)
                  unfold b_sample_86
                  have g52 := ag_f (k := 0) (v := 0) (ag_refl (fs := [0]) (rs := []) (S := S)) (by decide +kernel)
                  exact hK b51 hI48 g52
                · exact (B_dead_lt cqb_0_0_0 cqb_0_0_0 (nle_lt hc) (by decide +kernel)).elim
              · have hq53 := (nlt_le hc)
                have q54 : (0) ≤ (x3).toInt ∧ (x3).toInt ≤ (2147483647) := (show B 0 2147483647 (x3) from B_w b40 (by decide +kernel) (by decide +kernel))
                have i55 : (S.2.1 14 (1 : Int32).toNatClampNeg).toInt ≤ (x3).toInt := i_le hq53
                exact hj5 
  · have b56 : B 0 0 (S.2.1 11 (1 : Int32).toNatClampNeg) := B_w (B_eq hc cqb_0_0_0) (by decide +kernel) (by decide +kernel)
    have q57 : (0) ≤ (S.2.1 11 (1 : Int32).toNatClampNeg).toInt ∧ (S.2.1 11 (1 : Int32).toNatClampNeg).toInt ≤ (0) := (show B 0 0 (S.2.1 11 (1 : Int32).toNatClampNeg) from B_w b56 (by decide +kernel) (by decide +kernel))
    have i58 : (S.2.1 11 (1 : Int32).toNatClampNeg).toInt = (0 : Int32).toInt := congrArg Int32.toInt hc
    have n59 : (0 : Int32).toInt = 0 := cqn_0
    unfold b_sample_65
    refine ⟨fun hc => ?_, fun hc => ?_⟩
    · exact (B_dead_le cqb_1_1_1 cqb_0_0_0 hc (by decide +kernel)).elim
    · have hq60 := (nle_lt hc)
      unfold b_sample_86
      have hI61 := IM_f (k := 0) (v := 1) hI cqb_1_1_1 (by decide +kernel) (by decide +kernel)
      have g62 := ag_f (k := 0) (v := 1) (ag_refl (fs := [0]) (rs := []) (S := S)) (by decide +kernel)
      exact hK (B_w cqb_0_0_0 (by decide +kernel) (by decide +kernel)) hI61 g62
set_option maxRecDepth 20000 in
set_option maxHeartbeats 4000000 in
theorem h_level {x1 : Int32} {x2 : Int32} {x3 : Int32} {x4 : Int32} {S : ms} {K : Int32 → ms → Prop} (hI : IM S) (hK : ∀ {v : Int32} {Z : ms}, B (-2147483648) 2147483647 v → IM Z → ag [0] [] S Z → K v Z) : p_level x1 x2 x3 x4 S K := by
  unfold p_level
  have hj1 : b_level_18 x1 S K := by
    unfold b_level_18
    refine ⟨fun hc => ?_, fun hc => ?_⟩
    · have hq2 := hc
      have b3 : B (-2147483648) (-1) (x1) := B_w (B_ltL (B_any _) cqb_0_0_0 hq2) (by decide +kernel) (by decide +kernel)
      unfold b_level_28
      unfold b_level_33
      have hI4 := IM_f (k := 0) (v := 1) hI cqb_1_1_1 (by decide +kernel) (by decide +kernel)
      have g5 := ag_f (k := 0) (v := 1) (ag_refl (fs := [0]) (rs := []) (S := S)) (by decide +kernel)
      exact hK (B_w cqb_0_0_0 (by decide +kernel) (by decide +kernel)) hI4 g5
    · have hq6 := (nlt_le hc)
      have b7 : B 0 2147483647 (x1) := B_w (B_leR cqb_0_0_0 (B_any _) hq6) (by decide +kernel) (by decide +kernel)
      refine ⟨fun hc => ?_, fun hc => ?_⟩
      · have hq8 := hc
        have b9 : B 0 1 (x1) := B_w (B_leL b7 cqb_1_1_1 hq8) (by decide +kernel) (by decide +kernel)
        unfold b_level_33
        have hI10 := IM_f (k := 0) (v := 2) hI cqb_2_2_2 (by decide +kernel) (by decide +kernel)
        have g11 := ag_f (k := 0) (v := 2) (ag_refl (fs := [0]) (rs := []) (S := S)) (by decide +kernel)
        exact hK (B_w cqb_0_0_0 (by decide +kernel) (by decide +kernel)) hI10 g11
      · have hq12 := (nle_lt hc)
        have b13 : B 2 2147483647 (x1) := B_w (B_ltR cqb_1_1_1 b7 hq12) (by decide +kernel) (by decide +kernel)
        unfold b_level_28
        unfold b_level_33
        have hI14 := IM_f (k := 0) (v := 1) hI cqb_1_1_1 (by decide +kernel) (by decide +kernel)
        have g15 := ag_f (k := 0) (v := 1) (ag_refl (fs := [0]) (rs := []) (S := S)) (by decide +kernel)
        exact hK (B_w cqb_0_0_0 (by decide +kernel) (by decide +kernel)) hI14 g15
  refine ⟨fun hc => ?_, fun hc => ?_⟩
  · have hq16 := hc
    have b17 : B (-2147483648) (-1) (x1) := B_w (B_ltL (B_any _) cqb_0_0_0 hq16) (by decide +kernel) (by decide +kernel)
    exact hj1 
  · have hq18 := (nlt_le hc)
    have b19 : B 0 2147483647 (x1) := B_w (B_leR cqb_0_0_0 (B_any _) hq18) (by decide +kernel) (by decide +kernel)
    refine ⟨fun hc => ?_, fun hc => ?_⟩
    · have hq20 := hc
      have b21 : B 2 2147483647 (x1) := B_w (B_ltR cqb_1_1_1 b19 hq20) (by decide +kernel) (by decide +kernel)
      exact hj1 
    · have hq22 := (nlt_le hc)
      have b23 : B 0 1 (x1) := B_w (B_leL b19 cqb_1_1_1 hq22) (by decide +kernel) (by decide +kernel)
      refine ⟨vp_B b23 (by decide +kernel) (by decide +kernel), ?_⟩
      refine ⟨fun hc => ?_, fun hc => ?_⟩
      · have b24 : B 1 1 (S.2.1 11 x1.toNatClampNeg) := B_w (B_n0 (show B 0 1 (S.2.1 11 x1.toNatClampNeg) from br_11 hI _) hc) (by decide +kernel) (by decide +kernel)
        have hj25 : b_level_109 x1 x2 x3 x4 S K := by
          unfold b_level_109
          unfold b_level_110
          refine ⟨fun hc => ?_, fun hc => ?_⟩
          · have i26 : (0 : Int32).toInt = (0 : Int32).toInt := congrArg Int32.toInt hc
            have n27 : (0 : Int32).toInt = 0 := cqn_0
            have n28 : (0 : Int32).toInt = 0 := cqn_0
            unfold b_level_123
            refine ⟨fun hc => ?_, fun hc => ?_⟩
            · have i29 : (0 : Int32).toInt = (0 : Int32).toInt := congrArg Int32.toInt hc
              have n30 : (0 : Int32).toInt = 0 := cqn_0
              have n31 : (0 : Int32).toInt = 0 := cqn_0
              unfold b_level_148
              have hI32 := IM_f (k := 0) (v := 3) hI cqb_3_3_3 (by decide +kernel) (by decide +kernel)
              have g33 := ag_f (k := 0) (v := 3) (ag_refl (fs := [0]) (rs := []) (S := S)) (by decide +kernel)
              exact hK (B_w cqb_0_0_0 (by decide +kernel) (by decide +kernel)) hI32 g33
            · exact (hc (B_z cqb_0_0_0)).elim
          · exact (hc (B_z cqb_0_0_0)).elim
        have hj34 : b_level_72 x1 x2 x3 x4 S K := by
          unfold b_level_72
          unfold b_level_73
          refine ⟨fun hc => ?_, fun hc => ?_⟩
          · have i35 : (0 : Int32).toInt = (0 : Int32).toInt := congrArg Int32.toInt hc
            have n36 : (0 : Int32).toInt = 0 := cqn_0
            have n37 : (0 : Int32).toInt = 0 := cqn_0
            exact hj25 
          · exact (hc (B_z cqb_0_0_0)).elim
        refine ⟨fun hc => ?_, fun hc => ?_⟩
        · have hq38 := hc
          have b39 : B (-2147483648) (-1) (x2) := B_w (B_ltL (B_any _) cqb_0_0_0 hq38) (by decide +kernel) (by decide +kernel)
          exact hj34 
        · have hq40 := (nlt_le hc)
          have b41 : B 0 2147483647 (x2) := B_w (B_leR cqb_0_0_0 (B_any _) hq40) (by decide +kernel) (by decide +kernel)
          refine ⟨vp_B b23 (by decide +kernel) (by decide +kernel), ?_⟩
          refine ⟨fun hc => ?_, fun hc => ?_⟩
          · have hq42 := hc
            have q43 : (0) ≤ (S.2.1 14 x1.toNatClampNeg).toInt ∧ (S.2.1 14 x1.toNatClampNeg).toInt ≤ (3) := (show B 0 3 (S.2.1 14 x1.toNatClampNeg) from br_14 hI _)
            have q44 : (0) ≤ (x2).toInt ∧ (x2).toInt ≤ (2147483647) := (show B 0 2147483647 (x2) from B_w b41 (by decide +kernel) (by decide +kernel))
            have i45 : (S.2.1 14 x1.toNatClampNeg).toInt ≤ (x2).toInt := i_le hq42
            exact hj34 
          · have hq46 := (nle_lt hc)
            have b47 : B 0 2 (x2) := B_w (B_ltL b41 (show B 0 3 (S.2.1 14 x1.toNatClampNeg) from br_14 hI _) hq46) (by decide +kernel) (by decide +kernel)
            have b48 : B 1 3 (S.2.1 14 x1.toNatClampNeg) := B_w (B_ltR b41 (show B 0 3 (S.2.1 14 x1.toNatClampNeg) from br_14 hI _) hq46) (by decide +kernel) (by decide +kernel)
            have q49 : (0) ≤ (x2).toInt ∧ (x2).toInt ≤ (2) := (show B 0 2 (x2) from B_w b47 (by decide +kernel) (by decide +kernel))
            have q50 : (1) ≤ (S.2.1 14 x1.toNatClampNeg).toInt ∧ (S.2.1 14 x1.toNatClampNeg).toInt ≤ (3) := (show B 1 3 (S.2.1 14 x1.toNatClampNeg) from B_w b48 (by decide +kernel) (by decide +kernel))
            have i51 : (x2).toInt < (S.2.1 14 x1.toNatClampNeg).toInt := i_lt hq46
            refine ⟨fun hc => ?_, fun hc => ?_⟩
            · have hq52 := hc
              have b53 : B (-2147483648) (-1) (x4) := B_w (B_ltL (B_any _) cqb_0_0_0 hq52) (by decide +kernel) (by decide +kernel)
              exact hj34 
            · have hq54 := (nlt_le hc)
              have b55 : B 0 2147483647 (x4) := B_w (B_leR cqb_0_0_0 (B_any _) hq54) (by decide +kernel) (by decide +kernel)
              refine ⟨fun hc => ?_, fun hc => ?_⟩
              · have hq56 := hc
                have b57 : B 64 2147483647 (x4) := B_w (B_leR cqb_64_64_64 b55 hq56) (by decide +kernel) (by decide +kernel)
                exact hj34 
              · have hq58 := (nle_lt hc)
                have b59 : B 0 63 (x4) := B_w (B_ltL b55 cqb_64_64_64 hq58) (by decide +kernel) (by decide +kernel)
                refine ⟨fun hc => ?_, fun hc => ?_⟩
                · have hq60 := hc
                  have b61 : B (-2147483648) (-1) (x3) := B_w (B_ltL (B_any _) cqb_0_0_0 hq60) (by decide +kernel) (by decide +kernel)
                  exact hj34 
                · have hq62 := (nlt_le hc)
                  have b63 : B 0 2147483647 (x3) := B_w (B_leR cqb_0_0_0 (B_any _) hq62) (by decide +kernel) (by decide +kernel)
                  unfold b_level_73
                  refine ⟨fun hc => ?_, fun hc => ?_⟩
                  · exact (B_dis cqb_1_1_1 cqb_0_0_0 hc (by decide +kernel)).elim
                  · have i64 : (1 : Int32).toInt ≠ (0 : Int32).toInt := i_ne hc
                    have n65 : (1 : Int32).toInt = 1 := cqn_1
                    have n66 : (0 : Int32).toInt = 0 := cqn_0
                    refine ⟨vp_B (B_add (B_mul cqb_3_3_3 b23 (by decide +kernel) (by decide +kernel) (by decide +kernel)) b47 (by decide +kernel) (by decide +kernel)) (by decide +kernel) (by decide +kernel), ?_⟩
                    refine ⟨vp_B (B_add (B_mul cqb_3_3_3 b23 (by decide +kernel) (by decide +kernel) (by decide +kernel)) b47 (by decide +kernel) (by decide +kernel)) (by decide +kernel) (by decide +kernel), ?_⟩
                    refine ⟨fun hc => ?_, fun hc => ?_⟩
                    · have hq67 := hc
                      have q68 : (0) ≤ (S.2.1 17 ((3 * x1) + x2).toNatClampNeg).toInt ∧ (S.2.1 17 ((3 * x1) + x2).toNatClampNeg).toInt ≤ (8) := (show B 0 8 (S.2.1 17 ((3 * x1) + x2).toNatClampNeg) from br_17 hI _)
                      have q69 : (0) ≤ (S.2.1 18 ((3 * x1) + x2).toNatClampNeg).toInt ∧ (S.2.1 18 ((3 * x1) + x2).toNatClampNeg).toInt ≤ (8) := (show B 0 8 (S.2.1 18 ((3 * x1) + x2).toNatClampNeg) from br_18 hI _)
                      have e70 : ((S.2.1 17 ((3 * x1) + x2).toNatClampNeg) * (S.2.1 18 ((3 * x1) + x2).toNatClampNeg)).toInt = ((S.2.1 17 ((3 * x1) + x2).toNatClampNeg).toInt * (S.2.1 18 ((3 * x1) + x2).toNatClampNeg).toInt) := (t_mul (show B 0 8 (S.2.1 17 ((3 * x1) + x2).toNatClampNeg) from br_17 hI _) (show B 0 8 (S.2.1 18 ((3 * x1) + x2).toNatClampNeg) from br_18 hI _) (by decide +kernel) (by decide +kernel) (by decide +kernel)).trans (by rfl)
                      have q71 : (0) ≤ ((S.2.1 17 ((3 * x1) + x2).toNatClampNeg) * (S.2.1 18 ((3 * x1) + x2).toNatClampNeg)).toInt ∧ ((S.2.1 17 ((3 * x1) + x2).toNatClampNeg) * (S.2.1 18 ((3 * x1) + x2).toNatClampNeg)).toInt ≤ (64) := (show B 0 64 ((S.2.1 17 ((3 * x1) + x2).toNatClampNeg) * (S.2.1 18 ((3 * x1) + x2).toNatClampNeg)) from B_w (B_mul (show B 0 8 (S.2.1 17 ((3 * x1) + x2).toNatClampNeg) from br_17 hI _) (show B 0 8 (S.2.1 18 ((3 * x1) + x2).toNatClampNeg) from br_18 hI _) (by decide +kernel) (by decide +kernel) (by decide +kernel)) (by decide +kernel) (by decide +kernel))
                      have q72 : (0) ≤ (x3).toInt ∧ (x3).toInt ≤ (2147483647) := (show B 0 2147483647 (x3) from B_w b63 (by decide +kernel) (by decide +kernel))
                      have i73 : ((S.2.1 17 ((3 * x1) + x2).toNatClampNeg) * (S.2.1 18 ((3 * x1) + x2).toNatClampNeg)).toInt ≤ (x3).toInt := i_le hq67
                      exact hj25 
                    · have hq74 := (nle_lt hc)
                      have b75 : B 0 63 (x3) := B_w (B_ltL b63 (B_mul (show B 0 8 (S.2.1 17 ((3 * x1) + x2).toNatClampNeg) from br_17 hI _) (show B 0 8 (S.2.1 18 ((3 * x1) + x2).toNatClampNeg) from br_18 hI _) (by decide +kernel) (by decide +kernel) (by decide +kernel)) hq74) (by decide +kernel) (by decide +kernel)
                      have b76 : B 1 64 ((S.2.1 17 ((3 * x1) + x2).toNatClampNeg) * (S.2.1 18 ((3 * x1) + x2).toNatClampNeg)) := B_w (B_ltR b63 (B_mul (show B 0 8 (S.2.1 17 ((3 * x1) + x2).toNatClampNeg) from br_17 hI _) (show B 0 8 (S.2.1 18 ((3 * x1) + x2).toNatClampNeg) from br_18 hI _) (by decide +kernel) (by decide +kernel) (by decide +kernel)) hq74) (by decide +kernel) (by decide +kernel)
                      have pr77 : (x3).toInt < ((S.2.1 17 ((3 * x1) + x2).toNatClampNeg) * (S.2.1 18 ((3 * x1) + x2).toNatClampNeg)).toInt := i_lt hq74
                      have q78 : (0) ≤ (x3).toInt ∧ (x3).toInt ≤ (63) := (show B 0 63 (x3) from B_w b75 (by decide +kernel) (by decide +kernel))
                      have q79 : (0) ≤ (S.2.1 17 ((3 * x1) + x2).toNatClampNeg).toInt ∧ (S.2.1 17 ((3 * x1) + x2).toNatClampNeg).toInt ≤ (8) := (show B 0 8 (S.2.1 17 ((3 * x1) + x2).toNatClampNeg) from br_17 hI _)
                      have q80 : (0) ≤ (S.2.1 18 ((3 * x1) + x2).toNatClampNeg).toInt ∧ (S.2.1 18 ((3 * x1) + x2).toNatClampNeg).toInt ≤ (8) := (show B 0 8 (S.2.1 18 ((3 * x1) + x2).toNatClampNeg) from br_18 hI _)
                      have e81 : ((S.2.1 17 ((3 * x1) + x2).toNatClampNeg) * (S.2.1 18 ((3 * x1) + x2).toNatClampNeg)).toInt = ((S.2.1 17 ((3 * x1) + x2).toNatClampNeg).toInt * (S.2.1 18 ((3 * x1) + x2).toNatClampNeg).toInt) := (t_mul (show B 0 8 (S.2.1 17 ((3 * x1) + x2).toNatClampNeg) from br_17 hI _) (show B 0 8 (S.2.1 18 ((3 * x1) + x2).toNatClampNeg) from br_18 hI _) (by decide +kernel) (by decide +kernel) (by decide +kernel)).trans (by rfl)
                      have q82 : (1) ≤ ((S.2.1 17 ((3 * x1) + x2).toNatClampNeg) * (S.2.1 18 ((3 * x1) + x2).toNatClampNeg)).toInt ∧ ((S.2.1 17 ((3 * x1) + x2).toNatClampNeg) * (S.2.1 18 ((3 * x1) + x2).toNatClampNeg)).toInt ≤ (64) := (show B 1 64 ((S.2.1 17 ((3 * x1) + x2).toNatClampNeg) * (S.2.1 18 ((3 * x1) + x2).toNatClampNeg)) from B_w b76 (by decide +kernel) (by decide +kernel))
                      have i83 : (x3).toInt < ((S.2.1 17 ((3 * x1) + x2).toNatClampNeg) * (S.2.1 18 ((3 * x1) + x2).toNatClampNeg)).toInt := i_lt hq74
                      unfold b_level_110
                      refine ⟨fun hc => ?_, fun hc => ?_⟩
                      · exact (B_dis cqb_1_1_1 cqb_0_0_0 hc (by decide +kernel)).elim
                      · have i84 : (1 : Int32).toInt ≠ (0 : Int32).toInt := i_ne hc
                        have n85 : (1 : Int32).toInt = 1 := cqn_1
                        have n86 : (0 : Int32).toInt = 0 := cqn_0
                        unfold b_level_123
                        refine ⟨fun hc => ?_, fun hc => ?_⟩
                        · exact (B_dis cqb_1_1_1 cqb_0_0_0 hc (by decide +kernel)).elim
                        · have i87 : (1 : Int32).toInt ≠ (0 : Int32).toInt := i_ne hc
                          have n88 : (1 : Int32).toInt = 1 := cqn_1
                          have n89 : (0 : Int32).toInt = 0 := cqn_0
                          try unfold p_levelCell
                          refine ⟨vp_B (B_add (B_mul cqb_64_64_64 (B_add (B_mul cqb_64_64_64 (B_add (B_mul cqb_3_3_3 b23 (by decide +kernel) (by decide +kernel) (by decide +kernel)) b47 (by decide +kernel) (by decide +kernel)) (by decide +kernel) (by decide +kernel) (by decide +kernel)) b75 (by decide +kernel) (by decide +kernel)) (by decide +kernel) (by decide +kernel) (by decide +kernel)) b59 (by decide +kernel) (by decide +kernel)) (by decide +kernel) (by decide +kernel), ?_⟩
                          unfold b_level_148
                          have hI90 := IM_f (k := 0) (v := 0) hI cqb_0_0_0 (by decide +kernel) (by decide +kernel)
                          have g91 := ag_f (k := 0) (v := 0) (ag_refl (fs := [0]) (rs := []) (S := S)) (by decide +kernel)
                          exact hK (B_w (show B (-2147483648) 2147483647 (S.2.1 19 ((64 * ((64 * ((3 * x1) + x2)) + x3)) + x4).toNatClampNeg) from br_19 hI _) (by decide +kernel) (by decide +kernel)) hI90 g91
      · have b92 : B 0 0 (S.2.1 11 x1.toNatClampNeg) := B_w (B_eq hc cqb_0_0_0) (by decide +kernel) (by decide +kernel)
        have q93 : (0) ≤ (S.2.1 11 x1.toNatClampNeg).toInt ∧ (S.2.1 11 x1.toNatClampNeg).toInt ≤ (0) := (show B 0 0 (S.2.1 11 x1.toNatClampNeg) from B_w b92 (by decide +kernel) (by decide +kernel))
        have i94 : (S.2.1 11 x1.toNatClampNeg).toInt = (0 : Int32).toInt := congrArg Int32.toInt hc
        have n95 : (0 : Int32).toInt = 0 := cqn_0
        exact hj1 
set_option maxRecDepth 20000 in
set_option maxHeartbeats 4000000 in
theorem h_take {S : ms} {K : ms → Prop} (hI : IM S) (pre0 : qf (S.2.1 15) 3 (3 + (S.2.1 14 (1 : Int32).toNatClampNeg).toInt) 1 2) (pre1 : qf (S.2.1 16) 3 (3 + (S.2.1 14 (1 : Int32).toNatClampNeg).toInt) 1 2) (pre2 : ((S.2.1 11 (1 : Int32).toNatClampNeg).toInt = 0) ∨ (((S.2.1 14 (1 : Int32).toNatClampNeg).toInt = 1) ∨ ((S.2.1 14 (1 : Int32).toNatClampNeg).toInt = 3))) (pre3 : ((S.1 3).toInt = 1) ∨ ((S.1 3).toInt = 3)) (hK : ∀ {Z : ms}, IM Z → ag [0, 1, 2, 3] [4] S Z → (((Z.1 3).toInt = 1) ∨ ((Z.1 3).toInt = 3)) → K Z) : p_take S K := by
  have q1 : (0) ≤ (S.2.1 14 (1 : Int32).toNatClampNeg).toInt ∧ (S.2.1 14 (1 : Int32).toNatClampNeg).toInt ≤ (3) := (show B 0 3 (S.2.1 14 (1 : Int32).toNatClampNeg) from br_14 hI _)
  have q2 : (0) ≤ (S.2.1 11 (1 : Int32).toNatClampNeg).toInt ∧ (S.2.1 11 (1 : Int32).toNatClampNeg).toInt ≤ (1) := (show B 0 1 (S.2.1 11 (1 : Int32).toNatClampNeg) from br_11 hI _)
  have q3 : (1) ≤ (S.1 3).toInt ∧ (S.1 3).toInt ≤ (3) := (show B 1 3 (S.1 3) from bf_3 hI)
  unfold p_take
  refine ⟨vp_B cqb_1_1_1 (by decide +kernel) (by decide +kernel), ?_⟩
  refine ⟨fun hc => ?_, fun hc => ?_⟩
  · have b4 : B 0 0 (S.2.1 11 (1 : Int32).toNatClampNeg) := B_w (B_eq hc cqb_0_0_0) (by decide +kernel) (by decide +kernel)
    have q5 : (0) ≤ (S.2.1 11 (1 : Int32).toNatClampNeg).toInt ∧ (S.2.1 11 (1 : Int32).toNatClampNeg).toInt ≤ (0) := (show B 0 0 (S.2.1 11 (1 : Int32).toNatClampNeg) from B_w b4 (by decide +kernel) (by decide +kernel))
    have i6 : (S.2.1 11 (1 : Int32).toNatClampNeg).toInt = (0 : Int32).toInt := congrArg Int32.toInt hc
    have n7 : (0 : Int32).toInt = 0 := cqn_0
    unfold b_take_15
    refine ⟨fun hc => ?_, fun hc => ?_⟩
    · exact (B_dead_le cqb_1_1_1 cqb_0_0_0 hc (by decide +kernel)).elim
    · have hq8 := (nle_lt hc)
      have hI9 := IM_f (k := 0) (v := 1) hI cqb_1_1_1 (by decide +kernel) (by decide +kernel)
      have g10 := ag_f (k := 0) (v := 1) (ag_refl (fs := [0, 1, 2, 3]) (rs := [4]) (S := S)) (by decide +kernel)
      exact hK hI9 g10 (by show ((S.1 3).toInt = 1) ∨ ((S.1 3).toInt = 3); first | with_reducible assumption | omega)
  · have b11 : B 1 1 (S.2.1 11 (1 : Int32).toNatClampNeg) := B_w (B_n0 (show B 0 1 (S.2.1 11 (1 : Int32).toNatClampNeg) from br_11 hI _) hc) (by decide +kernel) (by decide +kernel)
    have q12 : (1) ≤ (S.2.1 11 (1 : Int32).toNatClampNeg).toInt ∧ (S.2.1 11 (1 : Int32).toNatClampNeg).toInt ≤ (1) := (show B 1 1 (S.2.1 11 (1 : Int32).toNatClampNeg) from B_w b11 (by decide +kernel) (by decide +kernel))
    unfold b_take_15
    refine ⟨fun hc => ?_, fun hc => ?_⟩
    · have hq13 := hc
      refine ⟨vp_B cqb_1_1_1 (by decide +kernel) (by decide +kernel), ?_⟩
      refine ⟨vp_B cqb_1_1_1 (by decide +kernel) (by decide +kernel), ?_⟩
      refine ⟨vp_B cqb_1_1_1 (by decide +kernel) (by decide +kernel), ?_⟩
      have hI14 := IM_f (k := 0) (v := 0) hI cqb_0_0_0 (by decide +kernel) (by decide +kernel)
      refine h_canvas hI14 (by show ((S.1 3).toInt = 1) ∨ ((S.1 3).toInt = 3); first | with_reducible assumption | omega) (fun {S45_15} hI16 g17 r18 r19 => ?_)
      have r20 : ((S45_15.1 3).toInt = 1) ∨ ((S45_15.1 3).toInt = 3) := r18
      clear r18
      have q21 : (1) ≤ (S45_15.1 3).toInt ∧ (S45_15.1 3).toInt ≤ (3) := (show B 1 3 (S45_15.1 3) from bf_3 hI16)
      have r22 : (((S45_15.1 0).toInt = 0) ∧ (((1 ≤ (S.2.1 12 (1 : Int32).toNatClampNeg).toInt) ∧ ((S.2.1 12 (1 : Int32).toNatClampNeg).toInt ≤ 64)) ∧ (((1 ≤ (S.2.1 13 (1 : Int32).toNatClampNeg).toInt) ∧ ((S.2.1 13 (1 : Int32).toNatClampNeg).toInt ≤ 64)) ∧ (((S.2.1 14 (1 : Int32).toNatClampNeg).toInt = 1) ∨ ((S.2.1 14 (1 : Int32).toNatClampNeg).toInt = 3))))) ∨ (((S45_15.1 0).toInt = 1) ∧ ((((S.2.1 12 (1 : Int32).toNatClampNeg).toInt < 1) ∨ (64 < (S.2.1 12 (1 : Int32).toNatClampNeg).toInt)) ∨ ((((S.2.1 13 (1 : Int32).toNatClampNeg).toInt < 1) ∨ (64 < (S.2.1 13 (1 : Int32).toNatClampNeg).toInt)) ∨ (((S.2.1 14 (1 : Int32).toNatClampNeg).toInt < 1) ∨ (((S.2.1 14 (1 : Int32).toNatClampNeg).toInt = 2) ∨ (3 < (S.2.1 14 (1 : Int32).toNatClampNeg).toInt)))))) := r19
      clear r19
      have q23 : (0) ≤ (S45_15.1 0).toInt ∧ (S45_15.1 0).toInt ≤ (3) := (show B 0 3 (S45_15.1 0) from bf_0 hI16)
      have q24 : (0) ≤ (S.2.1 12 (1 : Int32).toNatClampNeg).toInt ∧ (S.2.1 12 (1 : Int32).toNatClampNeg).toInt ≤ (64) := (show B 0 64 (S.2.1 12 (1 : Int32).toNatClampNeg) from br_12 hI _)
      have q25 : (0) ≤ (S.2.1 13 (1 : Int32).toNatClampNeg).toInt ∧ (S.2.1 13 (1 : Int32).toNatClampNeg).toInt ≤ (64) := (show B 0 64 (S.2.1 13 (1 : Int32).toNatClampNeg) from br_13 hI _)
      refine ⟨fun yx1 yS => B 0 64 yx1 ∧ IM yS ∧ ag [] [4] S45_15 yS, fun yx1 yS => (64 - yx1.toInt).toNat, ⟨(B_w cqb_0_0_0 (by decide +kernel) (by decide +kernel)), hI16, (ag_refl (fs := []) (rs := [4]) (S := S45_15))⟩, fun x1_26 T27 hIv => ?_⟩
      obtain ⟨b28, hI29, g30⟩ := hIv
      suffices hs : ∀ (R50 : Int32 → ms → Prop), (∀ zx1 zS, (B 0 64 zx1 ∧ IM zS ∧ ag [] [4] S45_15 zS) → (64 - zx1.toInt).toNat < (64 - x1_26.toInt).toNat → R50 zx1 zS) → b_take_50 x1_26 T27 R50 K from hs _ (fun _ _ h1 h2 => ⟨h1, h2⟩)
      intro R50 hR500
      have hR50 := fun {zx1} {zS} => hR500 zx1 zS
      unfold b_take_50
      refine ⟨fun hc => ?_, fun hc => ?_⟩
      · have hq31 := hc
        have b32 : B 1 64 (x1_26) := B_w (B_leR (B_eq (g30.1 2 rfl) (show B 1 64 (S45_15.1 2) from bf_2 hI16)) b28 hq31) (by decide +kernel) (by decide +kernel)
        have q33 : (1) ≤ (S45_15.1 2).toInt ∧ (S45_15.1 2).toInt ≤ (64) := (show B 1 64 (S45_15.1 2) from bf_2 hI16)
        have e34 : (T27.1 2).toInt = (S45_15.1 2).toInt := (congrArg Int32.toInt (g30.1 2 rfl)).trans rfl
        have q35 : (1) ≤ (x1_26).toInt ∧ (x1_26).toInt ≤ (64) := (show B 1 64 (x1_26) from B_w b32 (by decide +kernel) (by decide +kernel))
        have i36 : (T27.1 2).toInt ≤ (x1_26).toInt := i_le hq31
        have g39 := ag_f (k := 0) (v := 0) (ag_refl (fs := [0, 1, 2, 3]) (rs := [4]) (S := S)) (by decide +kernel)
        have g38 := ag_tr g39 g17 (by decide +kernel) (by decide +kernel)
        have g37 := ag_tr g38 g30 (by decide +kernel) (by decide +kernel)
        have e40 : (T27.1 3).toInt = (S45_15.1 3).toInt := (congrArg Int32.toInt (g30.1 3 rfl)).trans rfl
        exact hK hI29 g37 (by show ((T27.1 3).toInt = 1) ∨ ((T27.1 3).toInt = 3); first | with_reducible assumption | omega)
      · have hq41 := (nle_lt hc)
        have b42 : B 0 63 (x1_26) := B_w (B_ltL b28 (B_eq (g30.1 2 rfl) (show B 1 64 (S45_15.1 2) from bf_2 hI16)) hq41) (by decide +kernel) (by decide +kernel)
        have q43 : (0) ≤ (x1_26).toInt ∧ (x1_26).toInt ≤ (63) := (show B 0 63 (x1_26) from B_w b42 (by decide +kernel) (by decide +kernel))
        have q44 : (1) ≤ (S45_15.1 2).toInt ∧ (S45_15.1 2).toInt ≤ (64) := (show B 1 64 (S45_15.1 2) from bf_2 hI16)
        have e45 : (T27.1 2).toInt = (S45_15.1 2).toInt := (congrArg Int32.toInt (g30.1 2 rfl)).trans rfl
        have i46 : (x1_26).toInt < (T27.1 2).toInt := i_lt hq41
        refine ⟨fun yx1 yx2 yS => x1_26 = yx1 ∧ B 0 64 yx2 ∧ IM yS ∧ ag [] [4] T27 yS, fun yx1 yx2 yS => (64 - yx2.toInt).toNat, ⟨rfl, (B_w cqb_0_0_0 (by decide +kernel) (by decide +kernel)), hI29, (ag_refl (fs := []) (rs := [4]) (S := T27))⟩, fun x1_47 x2_48 T49 hIv => ?_⟩
        obtain ⟨rfl, b50, hI51, g52⟩ := hIv
        suffices hs : ∀ (R60 : Int32 → Int32 → ms → Prop), (∀ zx1 zx2 zS, (x1_26 = zx1 ∧ B 0 64 zx2 ∧ IM zS ∧ ag [] [4] T27 zS) → (64 - zx2.toInt).toNat < (64 - x2_48.toInt).toNat → R60 zx1 zx2 zS) → b_take_60 x1_26 x2_48 T49 R50 R60 K from hs _ (fun _ _ _ h1 h2 => ⟨h1, h2⟩)
        intro R60 hR600
        have hR60 := fun {zx1} {zx2} {zS} => hR600 zx1 zx2 zS
        unfold b_take_60
        refine ⟨fun hc => ?_, fun hc => ?_⟩
        · have hq53 := hc
          have b54 : B 1 64 (x2_48) := B_w (B_leR (B_eq ((g52.1 1 rfl).trans (g30.1 1 rfl)) (show B 1 64 (S45_15.1 1) from bf_1 hI16)) b50 hq53) (by decide +kernel) (by decide +kernel)
          have q55 : (1) ≤ (S45_15.1 1).toInt ∧ (S45_15.1 1).toInt ≤ (64) := (show B 1 64 (S45_15.1 1) from bf_1 hI16)
          have e56 : (T49.1 1).toInt = (S45_15.1 1).toInt := (congrArg Int32.toInt ((g52.1 1 rfl).trans (g30.1 1 rfl))).trans rfl
          have q57 : (1) ≤ (x2_48).toInt ∧ (x2_48).toInt ≤ (64) := (show B 1 64 (x2_48) from B_w b54 (by decide +kernel) (by decide +kernel))
          have i58 : (T49.1 1).toInt ≤ (x2_48).toInt := i_le hq53
          have g60 := ag_tr (ag_refl (fs := []) (rs := [4]) (S := S45_15)) g30 (by decide +kernel) (by decide +kernel)
          have g59 := ag_tr g60 g52 (by decide +kernel) (by decide +kernel)
          have e61 : (x1_26 + 1).toInt = ((x1_26).toInt + 1) := (t_add b42 cqb_1_1_1 (by decide +kernel) (by decide +kernel)).trans (by rw [cqn_1])
          have q62 : (1) ≤ (x1_26 + 1).toInt ∧ (x1_26 + 1).toInt ≤ (64) := (show B 1 64 (x1_26 + 1) from B_w (B_add b42 cqb_1_1_1 (by decide +kernel) (by decide +kernel)) (by decide +kernel) (by decide +kernel))
          exact hR50 ⟨(B_w (B_add b42 cqb_1_1_1 (by decide +kernel) (by decide +kernel)) (by decide +kernel) (by decide +kernel)), hI51, g59⟩ (by show (64 - (x1_26 + 1).toInt).toNat < (64 - x1_26.toInt).toNat; omega)
        · have hq63 := (nle_lt hc)
          have b64 : B 0 63 (x2_48) := B_w (B_ltL b50 (B_eq ((g52.1 1 rfl).trans (g30.1 1 rfl)) (show B 1 64 (S45_15.1 1) from bf_1 hI16)) hq63) (by decide +kernel) (by decide +kernel)
          have q65 : (0) ≤ (x2_48).toInt ∧ (x2_48).toInt ≤ (63) := (show B 0 63 (x2_48) from B_w b64 (by decide +kernel) (by decide +kernel))
          have q66 : (1) ≤ (S45_15.1 1).toInt ∧ (S45_15.1 1).toInt ≤ (64) := (show B 1 64 (S45_15.1 1) from bf_1 hI16)
          have e67 : (T49.1 1).toInt = (S45_15.1 1).toInt := (congrArg Int32.toInt ((g52.1 1 rfl).trans (g30.1 1 rfl))).trans rfl
          have i68 : (x2_48).toInt < (T49.1 1).toInt := i_lt hq63
          refine ⟨fun yx1 yx2 yx3 yS => x1_26 = yx1 ∧ x2_48 = yx2 ∧ B 0 3 yx3 ∧ IM yS ∧ ag [] [4] T49 yS, fun yx1 yx2 yx3 yS => (3 - yx3.toInt).toNat, ⟨rfl, rfl, (B_w cqb_0_0_0 (by decide +kernel) (by decide +kernel)), hI51, (ag_refl (fs := []) (rs := [4]) (S := T49))⟩, fun x1_69 x2_70 x3_71 T72 hIv => ?_⟩
          obtain ⟨rfl, rfl, b73, hI74, g75⟩ := hIv
          suffices hs : ∀ (R70 : Int32 → Int32 → Int32 → ms → Prop), (∀ zx1 zx2 zx3 zS, (x1_26 = zx1 ∧ x2_48 = zx2 ∧ B 0 3 zx3 ∧ IM zS ∧ ag [] [4] T49 zS) → (3 - zx3.toInt).toNat < (3 - x3_71.toInt).toNat → R70 zx1 zx2 zx3 zS) → b_take_70 x1_26 x2_48 x3_71 T72 R50 R60 R70 K from hs _ (fun _ _ _ _ h1 h2 => ⟨h1, h2⟩)
          intro R70 hR700
          have hR70 := fun {zx1} {zx2} {zx3} {zS} => hR700 zx1 zx2 zx3 zS
          unfold b_take_70
          refine ⟨fun hc => ?_, fun hc => ?_⟩
          · have hq76 := hc
            have b77 : B 1 3 (x3_71) := B_w (B_leR (B_eq (((g75.1 3 rfl).trans (g52.1 3 rfl)).trans (g30.1 3 rfl)) (show B 1 3 (S45_15.1 3) from bf_3 hI16)) b73 hq76) (by decide +kernel) (by decide +kernel)
            have e78 : (T72.1 3).toInt = (S45_15.1 3).toInt := (congrArg Int32.toInt (((g75.1 3 rfl).trans (g52.1 3 rfl)).trans (g30.1 3 rfl))).trans rfl
            have q79 : (1) ≤ (x3_71).toInt ∧ (x3_71).toInt ≤ (3) := (show B 1 3 (x3_71) from B_w b77 (by decide +kernel) (by decide +kernel))
            have i80 : (T72.1 3).toInt ≤ (x3_71).toInt := i_le hq76
            have g82 := ag_tr (ag_refl (fs := []) (rs := [4]) (S := T27)) g52 (by decide +kernel) (by decide +kernel)
            have g81 := ag_tr g82 g75 (by decide +kernel) (by decide +kernel)
            have e83 : (x2_48 + 1).toInt = ((x2_48).toInt + 1) := (t_add b64 cqb_1_1_1 (by decide +kernel) (by decide +kernel)).trans (by rw [cqn_1])
            have q84 : (1) ≤ (x2_48 + 1).toInt ∧ (x2_48 + 1).toInt ≤ (64) := (show B 1 64 (x2_48 + 1) from B_w (B_add b64 cqb_1_1_1 (by decide +kernel) (by decide +kernel)) (by decide +kernel) (by decide +kernel))
            exact hR60 ⟨rfl, (B_w (B_add b64 cqb_1_1_1 (by decide +kernel) (by decide +kernel)) (by decide +kernel) (by decide +kernel)), hI74, g81⟩ (by show (64 - (x2_48 + 1).toInt).toNat < (64 - x2_48.toInt).toNat; omega)
          · have hq85 := (nle_lt hc)
            have b86 : B 0 2 (x3_71) := B_w (B_ltL b73 (B_eq (((g75.1 3 rfl).trans (g52.1 3 rfl)).trans (g30.1 3 rfl)) (show B 1 3 (S45_15.1 3) from bf_3 hI16)) hq85) (by decide +kernel) (by decide +kernel)
            have q87 : (0) ≤ (x3_71).toInt ∧ (x3_71).toInt ≤ (2) := (show B 0 2 (x3_71) from B_w b86 (by decide +kernel) (by decide +kernel))
            have e88 : (T72.1 3).toInt = (S45_15.1 3).toInt := (congrArg Int32.toInt (((g75.1 3 rfl).trans (g52.1 3 rfl)).trans (g30.1 3 rfl))).trans rfl
            have i89 : (x3_71).toInt < (T72.1 3).toInt := i_lt hq85
            try unfold p_cell
            have e90 : (T72.2.1 14 (1 : Int32).toNatClampNeg).toInt = (S.2.1 14 (1 : Int32).toNatClampNeg).toInt := (congrArg Int32.toInt ((((congrFun (g75.2 14 rfl) (1 : Int32).toNatClampNeg).trans (congrFun (g52.2 14 rfl) (1 : Int32).toNatClampNeg)).trans (congrFun (g30.2 14 rfl) (1 : Int32).toNatClampNeg)).trans (congrFun (g17.2 14 rfl) (1 : Int32).toNatClampNeg))).trans rfl
            refine h_sampleAt b64 b42 b86 hI74 (qf_eq ((((g75.2 15 rfl).trans (g52.2 15 rfl)).trans (g30.2 15 rfl)).trans (g17.2 15 rfl)) (qf_le (b' := 3 + (T72.2.1 14 (1 : Int32).toNatClampNeg).toInt) pre0 (by omega) (by decide +kernel) (by decide +kernel))) (qf_eq ((((g75.2 16 rfl).trans (g52.2 16 rfl)).trans (g30.2 16 rfl)).trans (g17.2 16 rfl)) (qf_le (b' := 3 + (T72.2.1 14 (1 : Int32).toNatClampNeg).toInt) pre1 (by omega) (by decide +kernel) (by decide +kernel))) (by show ((T72.2.1 14 (1 : Int32).toNatClampNeg).toInt = 1) ∨ ((T72.2.1 14 (1 : Int32).toNatClampNeg).toInt = 3); first | with_reducible assumption | omega) (fun {v92_91} b93 => ?_)
            refine ⟨vp_B (B_add (B_mul cqb_3_3_3 (B_add (B_mul cqb_64_64_64 b42 (by decide +kernel) (by decide +kernel) (by decide +kernel)) b64 (by decide +kernel) (by decide +kernel)) (by decide +kernel) (by decide +kernel) (by decide +kernel)) b86 (by decide +kernel) (by decide +kernel)) (by decide +kernel) (by decide +kernel), ?_⟩
            have hI94 := IM_r (r := 4) (i := ((3 * ((64 * x1_26) + x2_48)) + x3_71).toNatClampNeg) (v := v92_91) hI74 b93 (by decide +kernel) (by decide +kernel)
            have g96 := ag_tr (ag_refl (fs := []) (rs := [4]) (S := T49)) g75 (by decide +kernel) (by decide +kernel)
            have g95 := ag_r (r := 4) (w := upd (T72.2.1 4) ((3 * ((64 * x1_26) + x2_48)) + x3_71).toNatClampNeg v92_91) g96 (by decide +kernel)
            have e97 : (x3_71 + 1).toInt = ((x3_71).toInt + 1) := (t_add b86 cqb_1_1_1 (by decide +kernel) (by decide +kernel)).trans (by rw [cqn_1])
            have q98 : (1) ≤ (x3_71 + 1).toInt ∧ (x3_71 + 1).toInt ≤ (3) := (show B 1 3 (x3_71 + 1) from B_w (B_add b86 cqb_1_1_1 (by decide +kernel) (by decide +kernel)) (by decide +kernel) (by decide +kernel))
            exact hR70 ⟨rfl, rfl, (B_w (B_add b86 cqb_1_1_1 (by decide +kernel) (by decide +kernel)) (by decide +kernel) (by decide +kernel)), hI94, g95⟩ (by show (3 - (x3_71 + 1).toInt).toNat < (3 - x3_71.toInt).toNat; omega)
    · exact (B_dead_lt cqb_0_0_0 cqb_0_0_0 (nle_lt hc) (by decide +kernel)).elim
set_option maxRecDepth 20000 in
set_option maxHeartbeats 4000000 in
theorem h_begin {S : ms} {K : ms → Prop} (hI : IM S) (hK : ∀ {Z : ms}, IM Z → ag [10, 34, 35, 43, 48] [14, 39, 42, 47] S Z → (qf (Z.2.1 42) 0 4 0 0) → ((Z.2.1 14 (1 : Int32).toNatClampNeg).toInt = (S.2.1 14 (1 : Int32).toNatClampNeg).toInt) → ((Z.1 43).toInt = 0) → ((Z.1 34).toInt = 0) → ((Z.1 35).toInt = 0) → ((Z.2.1 14 (2 : Int32).toNatClampNeg).toInt = 0) → K Z) : p_begin S K := by
  unfold p_begin
  refine ⟨vp_B cqb_2_2_2 (by decide +kernel) (by decide +kernel), ?_⟩
  have hI6 := IM_r (r := 14) (i := (2 : Int32).toNatClampNeg) (v := 0) hI cqb_0_0_0 (by decide +kernel) (by decide +kernel)
  have hI7 := IM_f (k := 34) (v := 0) hI6 cqb_0_0_0 (by decide +kernel) (by decide +kernel)
  have hI8 := IM_f (k := 35) (v := 0) hI7 cqb_0_0_0 (by decide +kernel) (by decide +kernel)
  have hI9 := IM_f (k := 10) (v := -1) hI8 cqb_m1_m1_m1 (by decide +kernel) (by decide +kernel)
  have hI10 := IM_f (k := 43) (v := 0) hI9 cqb_0_0_0 (by decide +kernel) (by decide +kernel)
  have hI11 := IM_f (k := 48) (v := 0) hI10 cqb_0_0_0 (by decide +kernel) (by decide +kernel)
  refine ⟨fun yx1 yS => B 0 4 yx1 ∧ IM yS ∧ ag [] [39, 42] (upd (upd (upd (upd (upd S.1 34 0) 35 0) 10 (-1)) 43 0) 48 0, va_up S.2.1 14 (upd (S.2.1 14) (2 : Int32).toNatClampNeg 0), S.2.2) yS ∧ (qf (yS.2.1 42) 0 yx1.toInt 0 0), fun yx1 yS => (4 - yx1.toInt).toNat, ⟨(B_w cqb_0_0_0 (by decide +kernel) (by decide +kernel)), hI11, (ag_refl (fs := []) (rs := [39, 42]) (S := (upd (upd (upd (upd (upd S.1 34 0) 35 0) 10 (-1)) 43 0) 48 0, va_up S.2.1 14 (upd (S.2.1 14) (2 : Int32).toNatClampNeg 0), S.2.2))), (qf_0 (b := 0) (by omega))⟩, fun x1_1 T2 hIv => ?_⟩
  obtain ⟨b3, hI4, g5, r12⟩ := hIv
  suffices hs : ∀ (R34 : Int32 → ms → Prop), (∀ zx1 zS, (B 0 4 zx1 ∧ IM zS ∧ ag [] [39, 42] (upd (upd (upd (upd (upd S.1 34 0) 35 0) 10 (-1)) 43 0) 48 0, va_up S.2.1 14 (upd (S.2.1 14) (2 : Int32).toNatClampNeg 0), S.2.2) zS ∧ (qf (zS.2.1 42) 0 zx1.toInt 0 0)) → (4 - zx1.toInt).toNat < (4 - x1_1.toInt).toNat → R34 zx1 zS) → b_begin_34 x1_1 T2 R34 K from hs _ (fun _ _ h1 h2 => ⟨h1, h2⟩)
  intro R34 hR340
  have hR34 := fun {zx1} {zS} => hR340 zx1 zS
  have q13 : (0) ≤ (x1_1).toInt ∧ (x1_1).toInt ≤ (4) := (show B 0 4 (x1_1) from B_w b3 (by decide +kernel) (by decide +kernel))
  unfold b_begin_34
  refine ⟨fun hc => ?_, fun hc => ?_⟩
  · have hq14 := hc
    have b15 : B 4 4 (x1_1) := B_w (B_leR cqb_4_4_4 b3 hq14) (by decide +kernel) (by decide +kernel)
    have q16 : (4) ≤ (x1_1).toInt ∧ (x1_1).toInt ≤ (4) := (show B 4 4 (x1_1) from B_w b15 (by decide +kernel) (by decide +kernel))
    refine ⟨fun yx1 yS => B 0 3 yx1 ∧ IM yS ∧ ag [] [47] T2 yS, fun yx1 yS => (3 - yx1.toInt).toNat, ⟨(B_w cqb_0_0_0 (by decide +kernel) (by decide +kernel)), hI4, (ag_refl (fs := []) (rs := [47]) (S := T2))⟩, fun x1_17 T18 hIv => ?_⟩
    obtain ⟨b19, hI20, g21⟩ := hIv
    suffices hs : ∀ (R61 : Int32 → ms → Prop), (∀ zx1 zS, (B 0 3 zx1 ∧ IM zS ∧ ag [] [47] T2 zS) → (3 - zx1.toInt).toNat < (3 - x1_17.toInt).toNat → R61 zx1 zS) → b_begin_61 x1_17 T18 R61 K from hs _ (fun _ _ h1 h2 => ⟨h1, h2⟩)
    intro R61 hR610
    have hR61 := fun {zx1} {zS} => hR610 zx1 zS
    unfold b_begin_61
    refine ⟨fun hc => ?_, fun hc => ?_⟩
    · have hq22 := hc
      have b23 : B 3 3 (x1_17) := B_w (B_leR cqb_3_3_3 b19 hq22) (by decide +kernel) (by decide +kernel)
      have g31 := ag_r (r := 14) (w := upd (S.2.1 14) (2 : Int32).toNatClampNeg 0) (ag_refl (fs := [10, 34, 35, 43, 48]) (rs := [14, 39, 42, 47]) (S := S)) (by decide +kernel)
      have g30 := ag_f (k := 34) (v := 0) g31 (by decide +kernel)
      have g29 := ag_f (k := 35) (v := 0) g30 (by decide +kernel)
      have g28 := ag_f (k := 10) (v := -1) g29 (by decide +kernel)
      have g27 := ag_f (k := 43) (v := 0) g28 (by decide +kernel)
      have g26 := ag_f (k := 48) (v := 0) g27 (by decide +kernel)
      have g25 := ag_tr g26 g5 (by decide +kernel) (by decide +kernel)
      have g24 := ag_tr g25 g21 (by decide +kernel) (by decide +kernel)
      have q32 : (0) ≤ (S.2.1 14 (1 : Int32).toNatClampNeg).toInt ∧ (S.2.1 14 (1 : Int32).toNatClampNeg).toInt ≤ (3) := (show B 0 3 (S.2.1 14 (1 : Int32).toNatClampNeg) from br_14 hI _)
      have e33 : (T18.2.1 14 (1 : Int32).toNatClampNeg).toInt = (S.2.1 14 (1 : Int32).toNatClampNeg).toInt := (congrArg Int32.toInt ((congrFun (g21.2 14 rfl) (1 : Int32).toNatClampNeg).trans (congrFun (g5.2 14 rfl) (1 : Int32).toNatClampNeg))).trans rfl
      have e34 : (T18.1 43).toInt = 0 := (congrArg Int32.toInt ((g21.1 43 rfl).trans (g5.1 43 rfl))).trans rfl
      have e35 : (T18.1 34).toInt = 0 := (congrArg Int32.toInt ((g21.1 34 rfl).trans (g5.1 34 rfl))).trans rfl
      have e36 : (T18.1 35).toInt = 0 := (congrArg Int32.toInt ((g21.1 35 rfl).trans (g5.1 35 rfl))).trans rfl
      have e37 : (T18.2.1 14 (2 : Int32).toNatClampNeg).toInt = 0 := (congrArg Int32.toInt ((congrFun (g21.2 14 rfl) (2 : Int32).toNatClampNeg).trans (congrFun (g5.2 14 rfl) (2 : Int32).toNatClampNeg))).trans rfl
      exact hK hI20 g24 (qf_eq (g21.2 42 rfl) (qf_le (b' := 4) r12 (by omega) (by decide +kernel) (by decide +kernel))) (by show (T18.2.1 14 (1 : Int32).toNatClampNeg).toInt = (S.2.1 14 (1 : Int32).toNatClampNeg).toInt; first | with_reducible assumption | omega) (by show (T18.1 43).toInt = 0; first | with_reducible assumption | omega) (by show (T18.1 34).toInt = 0; first | with_reducible assumption | omega) (by show (T18.1 35).toInt = 0; first | with_reducible assumption | omega) (by show (T18.2.1 14 (2 : Int32).toNatClampNeg).toInt = 0; first | with_reducible assumption | omega)
    · have hq38 := (nle_lt hc)
      have b39 : B 0 2 (x1_17) := B_w (B_ltL b19 cqb_3_3_3 hq38) (by decide +kernel) (by decide +kernel)
      refine ⟨vp_B b39 (by decide +kernel) (by decide +kernel), ?_⟩
      have hI40 := IM_r (r := 47) (i := x1_17.toNatClampNeg) (v := vp_nar .boolean 0) hI20 (show B 0 0 (vp_nar .boolean 0) from ⟨by decide +kernel, by decide +kernel⟩) (by decide +kernel) (by decide +kernel)
      have g42 := ag_tr (ag_refl (fs := []) (rs := [47]) (S := T2)) g21 (by decide +kernel) (by decide +kernel)
      have g41 := ag_r (r := 47) (w := upd (T18.2.1 47) x1_17.toNatClampNeg (vp_nar .boolean 0)) g42 (by decide +kernel)
      have q43 : (0) ≤ (x1_17).toInt ∧ (x1_17).toInt ≤ (2) := (show B 0 2 (x1_17) from B_w b39 (by decide +kernel) (by decide +kernel))
      have e44 : (x1_17 + 1).toInt = ((x1_17).toInt + 1) := (t_add b39 cqb_1_1_1 (by decide +kernel) (by decide +kernel)).trans (by rw [cqn_1])
      have q45 : (1) ≤ (x1_17 + 1).toInt ∧ (x1_17 + 1).toInt ≤ (3) := (show B 1 3 (x1_17 + 1) from B_w (B_add b39 cqb_1_1_1 (by decide +kernel) (by decide +kernel)) (by decide +kernel) (by decide +kernel))
      exact hR61 ⟨(B_w (B_add b39 cqb_1_1_1 (by decide +kernel) (by decide +kernel)) (by decide +kernel) (by decide +kernel)), hI40, g41⟩ (by show (3 - (x1_17 + 1).toInt).toNat < (3 - x1_17.toInt).toNat; omega)
  · have hq46 := (nle_lt hc)
    have b47 : B 0 3 (x1_1) := B_w (B_ltL b3 cqb_4_4_4 hq46) (by decide +kernel) (by decide +kernel)
    have q48 : (0) ≤ (x1_1).toInt ∧ (x1_1).toInt ≤ (3) := (show B 0 3 (x1_1) from B_w b47 (by decide +kernel) (by decide +kernel))
    refine ⟨vp_B b47 (by decide +kernel) (by decide +kernel), ?_⟩
    refine ⟨vp_B b47 (by decide +kernel) (by decide +kernel), ?_⟩
    have hI49 := IM_r (r := 39) (i := x1_1.toNatClampNeg) (v := vp_nar .boolean 0) hI4 (show B 0 0 (vp_nar .boolean 0) from ⟨by decide +kernel, by decide +kernel⟩) (by decide +kernel) (by decide +kernel)
    have hI50 := IM_r (r := 42) (i := x1_1.toNatClampNeg) (v := vp_nar .boolean 0) hI49 (show B 0 0 (vp_nar .boolean 0) from ⟨by decide +kernel, by decide +kernel⟩) (by decide +kernel) (by decide +kernel)
    have g53 := ag_tr (ag_refl (fs := []) (rs := [39, 42]) (S := (upd (upd (upd (upd (upd S.1 34 0) 35 0) 10 (-1)) 43 0) 48 0, va_up S.2.1 14 (upd (S.2.1 14) (2 : Int32).toNatClampNeg 0), S.2.2))) g5 (by decide +kernel) (by decide +kernel)
    have g52 := ag_r (r := 39) (w := upd (T2.2.1 39) x1_1.toNatClampNeg (vp_nar .boolean 0)) g53 (by decide +kernel)
    have g51 := ag_r (r := 42) (w := upd (T2.2.1 42) x1_1.toNatClampNeg (vp_nar .boolean 0)) g52 (by decide +kernel)
    have e54 : (x1_1 + 1).toInt = ((x1_1).toInt + 1) := (t_add b47 cqb_1_1_1 (by decide +kernel) (by decide +kernel)).trans (by rw [cqn_1])
    have q55 : (1) ≤ (x1_1 + 1).toInt ∧ (x1_1 + 1).toInt ≤ (4) := (show B 1 4 (x1_1 + 1) from B_w (B_add b47 cqb_1_1_1 (by decide +kernel) (by decide +kernel)) (by decide +kernel) (by decide +kernel))
    have q56 : (0) ≤ (vp_nar .boolean 0).toInt ∧ (vp_nar .boolean 0).toInt ≤ (0) := (show B 0 0 (vp_nar .boolean 0) from ⟨by decide +kernel, by decide +kernel⟩)
    exact hR34 ⟨(B_w (B_add b47 cqb_1_1_1 (by decide +kernel) (by decide +kernel)) (by decide +kernel) (by decide +kernel)), hI50, g51, (qf_ext (x := x1_1) (b' := (x1_1 + 1).toInt) r12 (fun _ => (B_w (show B 0 0 (vp_nar .boolean 0) from ⟨by decide +kernel, by decide +kernel⟩) (by decide +kernel) (by decide +kernel))) (by omega) (by omega) (by omega))⟩ (by show (4 - (x1_1 + 1).toInt).toNat < (4 - x1_1.toInt).toNat; omega)
set_option maxRecDepth 20000 in
set_option maxHeartbeats 4000000 in
theorem h_isDone {S : ms} {K : Int32 → ms → Prop} (hI : IM S) (hK : ∀ {v : Int32}, B 0 1 v → ((v.toInt = 0) ∨ (1 ≤ (S.1 43).toInt)) → K v S) : p_isDone S K := by
  unfold p_isDone
  have q6 : (0) ≤ (S.1 43).toInt ∧ (S.1 43).toInt ≤ (1) := (show B 0 1 (S.1 43) from bf_43 hI)
  refine ⟨fun yx1 yx2 yS => B 0 1 yx1 ∧ B 0 3 yx2 ∧ S = yS ∧ ((yx1.toInt = 0) ∨ (1 ≤ (yS.1 43).toInt)), fun yx1 yx2 yS => (3 - yx2.toInt).toNat, ⟨(B_w (show B 0 1 (S.1 43) from bf_43 hI) (by decide +kernel) (by decide +kernel)), (B_w cqb_0_0_0 (by decide +kernel) (by decide +kernel)), rfl, (by show ((S.1 43).toInt = 0) ∨ (1 ≤ (S.1 43).toInt); first | with_reducible assumption | omega)⟩, fun x1_1 x2_2 T3 hIv => ?_⟩
  obtain ⟨b4, b5, rfl, r7⟩ := hIv
  suffices hs : ∀ (R7 : Int32 → Int32 → ms → Prop), (∀ zx1 zx2 zS, (B 0 1 zx1 ∧ B 0 3 zx2 ∧ S = zS ∧ ((zx1.toInt = 0) ∨ (1 ≤ (zS.1 43).toInt))) → (3 - zx2.toInt).toNat < (3 - x2_2.toInt).toNat → R7 zx1 zx2 zS) → b_isDone_7 x1_1 x2_2 S R7 K from hs _ (fun _ _ _ h1 h2 => ⟨h1, h2⟩)
  intro R7 hR70
  have hR7 := fun {zx1} {zx2} {zS} => hR70 zx1 zx2 zS
  have q8 : (0) ≤ (x1_1).toInt ∧ (x1_1).toInt ≤ (1) := (show B 0 1 (x1_1) from B_w b4 (by decide +kernel) (by decide +kernel))
  have q9 : (0) ≤ (S.1 43).toInt ∧ (S.1 43).toInt ≤ (1) := (show B 0 1 (S.1 43) from bf_43 hI)
  unfold b_isDone_7
  refine ⟨vp_B cqb_2_2_2 (by decide +kernel) (by decide +kernel), ?_⟩
  refine ⟨fun hc => ?_, fun hc => ?_⟩
  · have hq10 := hc
    have q11 : (0) ≤ (S.2.1 14 (2 : Int32).toNatClampNeg).toInt ∧ (S.2.1 14 (2 : Int32).toNatClampNeg).toInt ≤ (3) := (show B 0 3 (S.2.1 14 (2 : Int32).toNatClampNeg) from br_14 hI _)
    have q12 : (0) ≤ (x2_2).toInt ∧ (x2_2).toInt ≤ (3) := (show B 0 3 (x2_2) from B_w b5 (by decide +kernel) (by decide +kernel))
    have i13 : (S.2.1 14 (2 : Int32).toNatClampNeg).toInt ≤ (x2_2).toInt := i_le hq10
    unfold b_isDone_34
    refine ⟨B_nar b4 (by decide +kernel) (by decide +kernel), ?_⟩
    exact hK b4 (by show (x1_1.toInt = 0) ∨ (1 ≤ (S.1 43).toInt); first | with_reducible assumption | omega)
  · have hq14 := (nle_lt hc)
    have b15 : B 0 2 (x2_2) := B_w (B_ltL b5 (show B 0 3 (S.2.1 14 (2 : Int32).toNatClampNeg) from br_14 hI _) hq14) (by decide +kernel) (by decide +kernel)
    have b16 : B 1 3 (S.2.1 14 (2 : Int32).toNatClampNeg) := B_w (B_ltR b5 (show B 0 3 (S.2.1 14 (2 : Int32).toNatClampNeg) from br_14 hI _) hq14) (by decide +kernel) (by decide +kernel)
    have q17 : (0) ≤ (x2_2).toInt ∧ (x2_2).toInt ≤ (2) := (show B 0 2 (x2_2) from B_w b15 (by decide +kernel) (by decide +kernel))
    have q18 : (1) ≤ (S.2.1 14 (2 : Int32).toNatClampNeg).toInt ∧ (S.2.1 14 (2 : Int32).toNatClampNeg).toInt ≤ (3) := (show B 1 3 (S.2.1 14 (2 : Int32).toNatClampNeg) from B_w b16 (by decide +kernel) (by decide +kernel))
    have i19 : (x2_2).toInt < (S.2.1 14 (2 : Int32).toNatClampNeg).toInt := i_lt hq14
    refine ⟨fun hc => ?_, fun hc => ?_⟩
    · have b20 : B 0 0 (x1_1) := B_w (B_eq hc cqb_0_0_0) (by decide +kernel) (by decide +kernel)
      have q21 : (0) ≤ (x1_1).toInt ∧ (x1_1).toInt ≤ (0) := (show B 0 0 (x1_1) from B_w b20 (by decide +kernel) (by decide +kernel))
      have i22 : (x1_1).toInt = (0 : Int32).toInt := congrArg Int32.toInt hc
      have n23 : (0 : Int32).toInt = 0 := cqn_0
      unfold b_isDone_34
      refine ⟨B_nar b20 (by decide +kernel) (by decide +kernel), ?_⟩
      exact hK (B_w b20 (by decide +kernel) (by decide +kernel)) (by show (x1_1.toInt = 0) ∨ (1 ≤ (S.1 43).toInt); first | with_reducible assumption | omega)
    · have b24 : B 1 1 (x1_1) := B_w (B_n0 b4 hc) (by decide +kernel) (by decide +kernel)
      have q25 : (1) ≤ (x1_1).toInt ∧ (x1_1).toInt ≤ (1) := (show B 1 1 (x1_1) from B_w b24 (by decide +kernel) (by decide +kernel))
      refine ⟨vp_B b15 (by decide +kernel) (by decide +kernel), ?_⟩
      have q26 : (0) ≤ (S.2.1 47 x2_2.toNatClampNeg).toInt ∧ (S.2.1 47 x2_2.toNatClampNeg).toInt ≤ (1) := (show B 0 1 (S.2.1 47 x2_2.toNatClampNeg) from br_47 hI _)
      have e27 : (x2_2 + 1).toInt = ((x2_2).toInt + 1) := (t_add b15 cqb_1_1_1 (by decide +kernel) (by decide +kernel)).trans (by rw [cqn_1])
      have q28 : (1) ≤ (x2_2 + 1).toInt ∧ (x2_2 + 1).toInt ≤ (3) := (show B 1 3 (x2_2 + 1) from B_w (B_add b15 cqb_1_1_1 (by decide +kernel) (by decide +kernel)) (by decide +kernel) (by decide +kernel))
      exact hR7 ⟨(B_w (show B 0 1 (S.2.1 47 x2_2.toNatClampNeg) from br_47 hI _) (by decide +kernel) (by decide +kernel)), (B_w (B_add b15 cqb_1_1_1 (by decide +kernel) (by decide +kernel)) (by decide +kernel) (by decide +kernel)), rfl, (by show ((S.2.1 47 x2_2.toNatClampNeg).toInt = 0) ∨ (1 ≤ (S.1 43).toInt); first | with_reducible assumption | omega)⟩ (by show (3 - (x2_2 + 1).toInt).toNat < (3 - x2_2.toInt).toNat; omega)
set_option maxRecDepth 20000 in
set_option maxHeartbeats 4000000 in
theorem h_mayCome {x1 : Int32} {S : ms} {K : Int32 → ms → Prop} (b_x1 : B 0 255 x1) (hI : IM S) (hK : ∀ {v : Int32}, B 0 1 v → ((v.toInt = 0) ∨ (((x1.toInt = 192) → ((S.1 43).toInt = 0)) ∧ ((x1.toInt = 217) → (1 ≤ (S.1 43).toInt)))) → K v S) : p_mayCome x1 S K := by
  unfold p_mayCome
  have hj1 : B 192 254 (x1) → ((x1.toInt = 192) → ((S.1 43).toInt = 0)) → ((x1.toInt = 217) → (1 ≤ (S.1 43).toInt)) → b_mayCome_94 S K := by
    intro b2 r3 r4
    have q5 : (192) ≤ (x1).toInt ∧ (x1).toInt ≤ (254) := (show B 192 254 (x1) from B_w b2 (by decide +kernel) (by decide +kernel))
    have q6 : (0) ≤ (S.1 43).toInt ∧ (S.1 43).toInt ≤ (1) := (show B 0 1 (S.1 43) from bf_43 hI)
    unfold b_mayCome_94
    unfold b_mayCome_99
    refine ⟨B_nar cqb_1_1_1 (by decide +kernel) (by decide +kernel), ?_⟩
    exact hK (B_w cqb_1_1_1 (by decide +kernel) (by decide +kernel)) (by show (1 = 0) ∨ (((x1.toInt = 192) → ((S.1 43).toInt = 0)) ∧ ((x1.toInt = 217) → (1 ≤ (S.1 43).toInt))); first | with_reducible assumption | omega)
  have hj7 : b_mayCome_80 x1 S K := by
    unfold b_mayCome_80
    refine ⟨fun hc => ?_, fun hc => ?_⟩
    · have q8 : (0) ≤ (x1).toInt ∧ (x1).toInt ≤ (255) := (show B 0 255 (x1) from B_w b_x1 (by decide +kernel) (by decide +kernel))
      have i9 : (x1).toInt ≠ (217 : Int32).toInt := i_ne hc
      have n10 : (217 : Int32).toInt = 217 := cqn_217
      unfold b_mayCome_98
      unfold b_mayCome_99
      refine ⟨B_nar cqb_0_0_0 (by decide +kernel) (by decide +kernel), ?_⟩
      have q11 : (0) ≤ (S.1 43).toInt ∧ (S.1 43).toInt ≤ (1) := (show B 0 1 (S.1 43) from bf_43 hI)
      exact hK (B_w cqb_0_0_0 (by decide +kernel) (by decide +kernel)) (by show (0 = 0) ∨ (((x1.toInt = 192) → ((S.1 43).toInt = 0)) ∧ ((x1.toInt = 217) → (1 ≤ (S.1 43).toInt))); first | with_reducible assumption | omega)
    · have b12 : B 217 217 (x1) := B_w (B_eq hc cqb_217_217_217) (by decide +kernel) (by decide +kernel)
      have q13 : (217) ≤ (x1).toInt ∧ (x1).toInt ≤ (217) := (show B 217 217 (x1) from B_w b12 (by decide +kernel) (by decide +kernel))
      have i14 : (x1).toInt = (217 : Int32).toInt := congrArg Int32.toInt hc
      have n15 : (217 : Int32).toInt = 217 := cqn_217
      refine h_isDone hI (fun {v88_16} b18 r19 => ?_)
      have r20 : (v88_16.toInt = 0) ∨ (1 ≤ (S.1 43).toInt) := r19
      clear r19
      have q21 : (0) ≤ (v88_16).toInt ∧ (v88_16).toInt ≤ (1) := (show B 0 1 (v88_16) from B_w b18 (by decide +kernel) (by decide +kernel))
      have q22 : (0) ≤ (S.1 43).toInt ∧ (S.1 43).toInt ≤ (1) := (show B 0 1 (S.1 43) from bf_43 hI)
      refine ⟨fun hc => ?_, fun hc => ?_⟩
      · have b23 : B 0 0 (v88_16) := B_w (B_eq hc cqb_0_0_0) (by decide +kernel) (by decide +kernel)
        have q24 : (0) ≤ (v88_16).toInt ∧ (v88_16).toInt ≤ (0) := (show B 0 0 (v88_16) from B_w b23 (by decide +kernel) (by decide +kernel))
        have i25 : (v88_16).toInt = (0 : Int32).toInt := congrArg Int32.toInt hc
        have n26 : (0 : Int32).toInt = 0 := cqn_0
        unfold b_mayCome_98
        unfold b_mayCome_99
        refine ⟨B_nar cqb_0_0_0 (by decide +kernel) (by decide +kernel), ?_⟩
        exact hK (B_w cqb_0_0_0 (by decide +kernel) (by decide +kernel)) (by show (0 = 0) ∨ (((x1.toInt = 192) → ((S.1 43).toInt = 0)) ∧ ((x1.toInt = 217) → (1 ≤ (S.1 43).toInt))); first | with_reducible assumption | omega)
      · have b27 : B 1 1 (v88_16) := B_w (B_n0 b18 hc) (by decide +kernel) (by decide +kernel)
        have q28 : (1) ≤ (v88_16).toInt ∧ (v88_16).toInt ≤ (1) := (show B 1 1 (v88_16) from B_w b27 (by decide +kernel) (by decide +kernel))
        exact hj1 (B_w b12 (by decide +kernel) (by decide +kernel)) (by show (x1.toInt = 192) → ((S.1 43).toInt = 0); first | with_reducible assumption | exact (fun _ => by with_reducible assumption) | omega) (by show (x1.toInt = 217) → (1 ≤ (S.1 43).toInt); first | with_reducible assumption | exact (fun _ => by with_reducible assumption) | omega)
  have hj29 : b_mayCome_66 x1 S K := by
    unfold b_mayCome_66
    refine ⟨fun hc => ?_, fun hc => ?_⟩
    · have q30 : (0) ≤ (x1).toInt ∧ (x1).toInt ≤ (255) := (show B 0 255 (x1) from B_w b_x1 (by decide +kernel) (by decide +kernel))
      have i31 : (x1).toInt ≠ (218 : Int32).toInt := i_ne hc
      have n32 : (218 : Int32).toInt = 218 := cqn_218
      exact hj7 
    · have b33 : B 218 218 (x1) := B_w (B_eq hc cqb_218_218_218) (by decide +kernel) (by decide +kernel)
      have q34 : (218) ≤ (x1).toInt ∧ (x1).toInt ≤ (218) := (show B 218 218 (x1) from B_w b33 (by decide +kernel) (by decide +kernel))
      have i35 : (x1).toInt = (218 : Int32).toInt := congrArg Int32.toInt hc
      have n36 : (218 : Int32).toInt = 218 := cqn_218
      refine ⟨fun hc => ?_, fun hc => ?_⟩
      · have b37 : B 1 1 (S.1 43) := B_w (B_n0 (show B 0 1 (S.1 43) from bf_43 hI) hc) (by decide +kernel) (by decide +kernel)
        have q38 : (1) ≤ (S.1 43).toInt ∧ (S.1 43).toInt ≤ (1) := (show B 1 1 (S.1 43) from B_w b37 (by decide +kernel) (by decide +kernel))
        exact hj1 (B_w b33 (by decide +kernel) (by decide +kernel)) (by show (x1.toInt = 192) → ((S.1 43).toInt = 0); first | with_reducible assumption | exact (fun _ => by with_reducible assumption) | omega) (by show (x1.toInt = 217) → (1 ≤ (S.1 43).toInt); first | with_reducible assumption | exact (fun _ => by with_reducible assumption) | omega)
      · have b39 : B 0 0 (S.1 43) := B_w (B_eq hc cqb_0_0_0) (by decide +kernel) (by decide +kernel)
        have q40 : (0) ≤ (S.1 43).toInt ∧ (S.1 43).toInt ≤ (0) := (show B 0 0 (S.1 43) from B_w b39 (by decide +kernel) (by decide +kernel))
        have i41 : (S.1 43).toInt = (0 : Int32).toInt := congrArg Int32.toInt hc
        have n42 : (0 : Int32).toInt = 0 := cqn_0
        exact hj7 
  have hj43 : B 196 254 (x1) → (((x1.toInt < 192) ∨ (192 < x1.toInt)) ∧ ((x1.toInt < 217) ∨ (217 < x1.toInt))) → b_mayCome_42 x1 S K := by
    intro b44 r45
    have q46 : (196) ≤ (x1).toInt ∧ (x1).toInt ≤ (254) := (show B 196 254 (x1) from B_w b44 (by decide +kernel) (by decide +kernel))
    unfold b_mayCome_42
    unfold b_mayCome_47
    refine ⟨fun hc => ?_, fun hc => ?_⟩
    · have i47 : (1 : Int32).toInt ≠ (0 : Int32).toInt := i_ne hc
      have n48 : (1 : Int32).toInt = 1 := cqn_1
      have n49 : (0 : Int32).toInt = 0 := cqn_0
      have q50 : (0) ≤ (S.1 43).toInt ∧ (S.1 43).toInt ≤ (1) := (show B 0 1 (S.1 43) from bf_43 hI)
      exact hj1 (B_w b44 (by decide +kernel) (by decide +kernel)) (by show (x1.toInt = 192) → ((S.1 43).toInt = 0); first | with_reducible assumption | exact (fun _ => by with_reducible assumption) | omega) (by show (x1.toInt = 217) → (1 ≤ (S.1 43).toInt); first | with_reducible assumption | exact (fun _ => by with_reducible assumption) | omega)
    · exact (B_dis cqb_1_1_1 cqb_0_0_0 hc (by decide +kernel)).elim
  refine ⟨fun hc => ?_, fun hc => ?_⟩
  · have b51 : B 219 219 (x1) := B_w (B_eq hc cqb_219_219_219) (by decide +kernel) (by decide +kernel)
    have q52 : (219) ≤ (x1).toInt ∧ (x1).toInt ≤ (219) := (show B 219 219 (x1) from B_w b51 (by decide +kernel) (by decide +kernel))
    have i53 : (x1).toInt = (219 : Int32).toInt := congrArg Int32.toInt hc
    have n54 : (219 : Int32).toInt = 219 := cqn_219
    exact hj43 (B_w b51 (by decide +kernel) (by decide +kernel)) (by show ((x1.toInt < 192) ∨ (192 < x1.toInt)) ∧ ((x1.toInt < 217) ∨ (217 < x1.toInt)); first | with_reducible assumption | omega)
  · have q55 : (0) ≤ (x1).toInt ∧ (x1).toInt ≤ (255) := (show B 0 255 (x1) from B_w b_x1 (by decide +kernel) (by decide +kernel))
    have i56 : (x1).toInt ≠ (219 : Int32).toInt := i_ne hc
    have n57 : (219 : Int32).toInt = 219 := cqn_219
    refine ⟨fun hc => ?_, fun hc => ?_⟩
    · have b58 : B 196 196 (x1) := B_w (B_eq hc cqb_196_196_196) (by decide +kernel) (by decide +kernel)
      have q59 : (196) ≤ (x1).toInt ∧ (x1).toInt ≤ (196) := (show B 196 196 (x1) from B_w b58 (by decide +kernel) (by decide +kernel))
      have i60 : (x1).toInt = (196 : Int32).toInt := congrArg Int32.toInt hc
      have n61 : (196 : Int32).toInt = 196 := cqn_196
      exact hj43 (B_w b58 (by decide +kernel) (by decide +kernel)) (by show ((x1.toInt < 192) ∨ (192 < x1.toInt)) ∧ ((x1.toInt < 217) ∨ (217 < x1.toInt)); first | with_reducible assumption | omega)
    · have i62 : (x1).toInt ≠ (196 : Int32).toInt := i_ne hc
      have n63 : (196 : Int32).toInt = 196 := cqn_196
      refine ⟨fun hc => ?_, fun hc => ?_⟩
      · have b64 : B 221 221 (x1) := B_w (B_eq hc cqb_221_221_221) (by decide +kernel) (by decide +kernel)
        have q65 : (221) ≤ (x1).toInt ∧ (x1).toInt ≤ (221) := (show B 221 221 (x1) from B_w b64 (by decide +kernel) (by decide +kernel))
        have i66 : (x1).toInt = (221 : Int32).toInt := congrArg Int32.toInt hc
        have n67 : (221 : Int32).toInt = 221 := cqn_221
        exact hj43 (B_w b64 (by decide +kernel) (by decide +kernel)) (by show ((x1.toInt < 192) ∨ (192 < x1.toInt)) ∧ ((x1.toInt < 217) ∨ (217 < x1.toInt)); first | with_reducible assumption | omega)
      · have i68 : (x1).toInt ≠ (221 : Int32).toInt := i_ne hc
        have n69 : (221 : Int32).toInt = 221 := cqn_221
        have hj70 : b_mayCome_35 x1 S K := by
          unfold b_mayCome_35
          refine ⟨fun hc => ?_, fun hc => ?_⟩
          · have i71 : (x1).toInt ≠ (254 : Int32).toInt := i_ne hc
            have n72 : (254 : Int32).toInt = 254 := cqn_254
            unfold b_mayCome_47
            refine ⟨fun hc => ?_, fun hc => ?_⟩
            · exact (hc (B_z cqb_0_0_0)).elim
            · have i73 : (0 : Int32).toInt = (0 : Int32).toInt := congrArg Int32.toInt hc
              have n74 : (0 : Int32).toInt = 0 := cqn_0
              have n75 : (0 : Int32).toInt = 0 := cqn_0
              refine ⟨fun hc => ?_, fun hc => ?_⟩
              · have i76 : (x1).toInt ≠ (192 : Int32).toInt := i_ne hc
                have n77 : (192 : Int32).toInt = 192 := cqn_192
                exact hj29 
              · have b78 : B 192 192 (x1) := B_w (B_eq hc cqb_192_192_192) (by decide +kernel) (by decide +kernel)
                have q79 : (192) ≤ (x1).toInt ∧ (x1).toInt ≤ (192) := (show B 192 192 (x1) from B_w b78 (by decide +kernel) (by decide +kernel))
                have i80 : (x1).toInt = (192 : Int32).toInt := congrArg Int32.toInt hc
                have n81 : (192 : Int32).toInt = 192 := cqn_192
                refine ⟨fun hc => ?_, fun hc => ?_⟩
                · have b82 : B 0 0 (S.1 43) := B_w (B_eq hc cqb_0_0_0) (by decide +kernel) (by decide +kernel)
                  have q83 : (0) ≤ (S.1 43).toInt ∧ (S.1 43).toInt ≤ (0) := (show B 0 0 (S.1 43) from B_w b82 (by decide +kernel) (by decide +kernel))
                  have i84 : (S.1 43).toInt = (0 : Int32).toInt := congrArg Int32.toInt hc
                  have n85 : (0 : Int32).toInt = 0 := cqn_0
                  exact hj1 (B_w b78 (by decide +kernel) (by decide +kernel)) (by show (x1.toInt = 192) → ((S.1 43).toInt = 0); first | with_reducible assumption | exact (fun _ => by with_reducible assumption) | omega) (by show (x1.toInt = 217) → (1 ≤ (S.1 43).toInt); first | with_reducible assumption | exact (fun _ => by with_reducible assumption) | omega)
                · have b86 : B 1 1 (S.1 43) := B_w (B_n0 (show B 0 1 (S.1 43) from bf_43 hI) hc) (by decide +kernel) (by decide +kernel)
                  exact hj29 
          · have b87 : B 254 254 (x1) := B_w (B_eq hc cqb_254_254_254) (by decide +kernel) (by decide +kernel)
            have q88 : (254) ≤ (x1).toInt ∧ (x1).toInt ≤ (254) := (show B 254 254 (x1) from B_w b87 (by decide +kernel) (by decide +kernel))
            have i89 : (x1).toInt = (254 : Int32).toInt := congrArg Int32.toInt hc
            have n90 : (254 : Int32).toInt = 254 := cqn_254
            exact hj43 (B_w b87 (by decide +kernel) (by decide +kernel)) (by show ((x1.toInt < 192) ∨ (192 < x1.toInt)) ∧ ((x1.toInt < 217) ∨ (217 < x1.toInt)); first | with_reducible assumption | omega)
        refine ⟨fun hc => ?_, fun hc => ?_⟩
        · have hq91 := hc
          have b92 : B 0 223 (x1) := B_w (B_ltL b_x1 cqb_224_224_224 hq91) (by decide +kernel) (by decide +kernel)
          have q93 : (0) ≤ (x1).toInt ∧ (x1).toInt ≤ (223) := (show B 0 223 (x1) from B_w b92 (by decide +kernel) (by decide +kernel))
          exact hj70 
        · have hq94 := (nlt_le hc)
          have b95 : B 224 255 (x1) := B_w (B_leR cqb_224_224_224 b_x1 hq94) (by decide +kernel) (by decide +kernel)
          have q96 : (224) ≤ (x1).toInt ∧ (x1).toInt ≤ (255) := (show B 224 255 (x1) from B_w b95 (by decide +kernel) (by decide +kernel))
          refine ⟨fun hc => ?_, fun hc => ?_⟩
          · have hq97 := hc
            have b98 : B 224 239 (x1) := B_w (B_ltL b95 cqb_240_240_240 hq97) (by decide +kernel) (by decide +kernel)
            have q99 : (224) ≤ (x1).toInt ∧ (x1).toInt ≤ (239) := (show B 224 239 (x1) from B_w b98 (by decide +kernel) (by decide +kernel))
            exact hj43 (B_w b98 (by decide +kernel) (by decide +kernel)) (by show ((x1.toInt < 192) ∨ (192 < x1.toInt)) ∧ ((x1.toInt < 217) ∨ (217 < x1.toInt)); first | with_reducible assumption | omega)
          · have hq100 := (nlt_le hc)
            have b101 : B 240 255 (x1) := B_w (B_leR cqb_240_240_240 b95 hq100) (by decide +kernel) (by decide +kernel)
            have q102 : (240) ≤ (x1).toInt ∧ (x1).toInt ≤ (255) := (show B 240 255 (x1) from B_w b101 (by decide +kernel) (by decide +kernel))
            exact hj70 
set_option maxRecDepth 20000 in
set_option maxHeartbeats 4000000 in
theorem h_fail {x1 : Int32} {x2 : Int32} {S : ms} {K : Int32 → ms → Prop} (b_x1 : B 1 8 x1) (b_x2 : B (-2) 32768 x2) (hI : IM S) (hK : ∀ {v : Int32} {Z : ms}, B 0 0 v → IM Z → ag [10, 35] [] S Z → (1 ≤ (Z.1 35).toInt) → K v Z) : p_fail x1 x2 S K := by
  unfold p_fail
  refine ⟨fun hc => ?_, fun hc => ?_⟩
  · have b1 : B 1 8 (S.1 35) := B_w (B_n0 (show B 0 8 (S.1 35) from bf_35 hI) hc) (by decide +kernel) (by decide +kernel)
    unfold b_fail_17
    have q2 : (1) ≤ (S.1 35).toInt ∧ (S.1 35).toInt ≤ (8) := (show B 1 8 (S.1 35) from B_w b1 (by decide +kernel) (by decide +kernel))
    exact hK (B_w cqb_0_0_0 (by decide +kernel) (by decide +kernel)) hI (ag_refl (fs := [10, 35]) (rs := []) (S := S)) (by show 1 ≤ (S.1 35).toInt; first | with_reducible assumption | omega)
  · have b3 : B 0 0 (S.1 35) := B_w (B_eq hc cqb_0_0_0) (by decide +kernel) (by decide +kernel)
    have q4 : (0) ≤ (S.1 35).toInt ∧ (S.1 35).toInt ≤ (0) := (show B 0 0 (S.1 35) from B_w b3 (by decide +kernel) (by decide +kernel))
    have i5 : (S.1 35).toInt = (0 : Int32).toInt := congrArg Int32.toInt hc
    have n6 : (0 : Int32).toInt = 0 := cqn_0
    unfold b_fail_17
    have hI7 := IM_f (k := 35) (v := x1) hI b_x1 (by decide +kernel) (by decide +kernel)
    have hI8 := IM_f (k := 10) (v := x2) hI7 b_x2 (by decide +kernel) (by decide +kernel)
    have g10 := ag_f (k := 35) (v := x1) (ag_refl (fs := [10, 35]) (rs := []) (S := S)) (by decide +kernel)
    have g9 := ag_f (k := 10) (v := x2) g10 (by decide +kernel)
    have q11 : (1) ≤ (x1).toInt ∧ (x1).toInt ≤ (8) := (show B 1 8 (x1) from B_w b_x1 (by decide +kernel) (by decide +kernel))
    exact hK (B_w cqb_0_0_0 (by decide +kernel) (by decide +kernel)) hI8 g9 (by show 1 ≤ x1.toInt; first | with_reducible assumption | omega)
set_option maxRecDepth 20000 in
set_option maxHeartbeats 4000000 in
theorem h_next {S : ms} {K : Int32 → ms → Prop} (hI : IM S) (hK : ∀ {v : Int32} {Z : ms}, B 0 255 v → IM Z → ag [10, 34, 35] [] S Z → ((S.1 34).toInt ≤ (Z.1 34).toInt) → (((Z.1 35).toInt = 0) → (((S.1 35).toInt = 0) ∧ (((S.1 34).toInt + 1) ≤ (Z.1 34).toInt))) → K v Z) : p_next S K := by
  unfold p_next
  refine ⟨fun hc => ?_, fun hc => ?_⟩
  · have hq1 := hc
    have b2 : B 0 32767 (S.1 34) := B_w (B_ltL (show B 0 32768 (S.1 34) from bf_34 hI) (show B 0 32768 (S.1 7) from bf_7 hI) hq1) (by decide +kernel) (by decide +kernel)
    have b3 : B 1 32768 (S.1 7) := B_w (B_ltR (show B 0 32768 (S.1 34) from bf_34 hI) (show B 0 32768 (S.1 7) from bf_7 hI) hq1) (by decide +kernel) (by decide +kernel)
    have q4 : (0) ≤ (S.1 34).toInt ∧ (S.1 34).toInt ≤ (32767) := (show B 0 32767 (S.1 34) from B_w b2 (by decide +kernel) (by decide +kernel))
    have q5 : (1) ≤ (S.1 7).toInt ∧ (S.1 7).toInt ≤ (32768) := (show B 1 32768 (S.1 7) from B_w b3 (by decide +kernel) (by decide +kernel))
    have i6 : (S.1 34).toInt < (S.1 7).toInt := i_lt hq1
    refine ⟨vp_B (B_sub (B_add b2 cqb_1_1_1 (by decide +kernel) (by decide +kernel)) cqb_1_1_1 (by decide +kernel) (by decide +kernel)) (by decide +kernel) (by decide +kernel), ?_⟩
    have hI7 := IM_f (k := 34) (v := (S.1 34) + 1) hI (B_add b2 cqb_1_1_1 (by decide +kernel) (by decide +kernel)) (by decide +kernel) (by decide +kernel)
    have g8 := ag_f (k := 34) (v := (S.1 34) + 1) (ag_refl (fs := [10, 34, 35]) (rs := []) (S := S)) (by decide +kernel)
    have e9 : ((S.1 34) + 1).toInt = ((S.1 34).toInt + 1) := (t_add b2 cqb_1_1_1 (by decide +kernel) (by decide +kernel)).trans (by rw [cqn_1])
    have q10 : (1) ≤ ((S.1 34) + 1).toInt ∧ ((S.1 34) + 1).toInt ≤ (32768) := (show B 1 32768 ((S.1 34) + 1) from B_w (B_add b2 cqb_1_1_1 (by decide +kernel) (by decide +kernel)) (by decide +kernel) (by decide +kernel))
    have q11 : (0) ≤ (S.1 35).toInt ∧ (S.1 35).toInt ≤ (8) := (show B 0 8 (S.1 35) from bf_35 hI)
    exact hK (B_w (show B 0 255 (S.2.1 6 (((S.1 34) + 1) - 1).toNatClampNeg) from br_6 hI _) (by decide +kernel) (by decide +kernel)) hI7 g8 (by show (S.1 34).toInt ≤ ((S.1 34) + 1).toInt; first | with_reducible assumption | omega) (by show ((S.1 35).toInt = 0) → (((S.1 35).toInt = 0) ∧ (((S.1 34).toInt + 1) ≤ ((S.1 34) + 1).toInt)); first | with_reducible assumption | exact (fun _ => by with_reducible assumption) | omega)
  · have hq12 := (nlt_le hc)
    have q13 : (0) ≤ (S.1 7).toInt ∧ (S.1 7).toInt ≤ (32768) := (show B 0 32768 (S.1 7) from bf_7 hI)
    have q14 : (0) ≤ (S.1 34).toInt ∧ (S.1 34).toInt ≤ (32768) := (show B 0 32768 (S.1 34) from bf_34 hI)
    have i15 : (S.1 7).toInt ≤ (S.1 34).toInt := i_le hq12
    refine h_fail (B_w cqb_1_1_1 (by decide +kernel) (by decide +kernel)) (B_w (show B 0 32768 (S.1 7) from bf_7 hI) (by decide +kernel) (by decide +kernel)) hI (fun {v17_16} {S17_17} b18 hI19 g20 r21 => ?_)
    have r22 : 1 ≤ (S17_17.1 35).toInt := r21
    clear r21
    have q23 : (0) ≤ (S17_17.1 35).toInt ∧ (S17_17.1 35).toInt ≤ (8) := (show B 0 8 (S17_17.1 35) from bf_35 hI19)
    have g24 := ag_tr (ag_refl (fs := [10, 34, 35]) (rs := []) (S := S)) g20 (by decide +kernel) (by decide +kernel)
    have e25 : (S17_17.1 34).toInt = (S.1 34).toInt := (congrArg Int32.toInt (g20.1 34 rfl)).trans rfl
    have q26 : (0) ≤ (S.1 35).toInt ∧ (S.1 35).toInt ≤ (8) := (show B 0 8 (S.1 35) from bf_35 hI)
    exact hK (B_w cqb_0_0_0 (by decide +kernel) (by decide +kernel)) hI19 g24 (by show (S.1 34).toInt ≤ (S17_17.1 34).toInt; first | with_reducible assumption | omega) (by show ((S17_17.1 35).toInt = 0) → (((S.1 35).toInt = 0) ∧ (((S.1 34).toInt + 1) ≤ (S17_17.1 34).toInt)); first | with_reducible assumption | exact (fun _ => by with_reducible assumption) | omega)
set_option maxRecDepth 20000 in
set_option maxHeartbeats 4000000 in
theorem h_nextWithin {S : ms} {K : Int32 → ms → Prop} (hI : IM S) (hK : ∀ {v : Int32} {Z : ms}, B 0 255 v → IM Z → ag [10, 34, 35] [] S Z → ((S.1 34).toInt ≤ (Z.1 34).toInt) → (((Z.1 35).toInt = 0) → (((S.1 35).toInt = 0) ∧ (((S.1 34).toInt + 1) ≤ (Z.1 34).toInt))) → K v Z) : p_nextWithin S K := by
  unfold p_nextWithin
  refine ⟨fun hc => ?_, fun hc => ?_⟩
  · have hq1 := hc
    have b2 : B 1 98304 (S.1 36) := B_w (B_ltR (show B 0 32768 (S.1 34) from bf_34 hI) (show B 0 98304 (S.1 36) from bf_36 hI) hq1) (by decide +kernel) (by decide +kernel)
    have q3 : (0) ≤ (S.1 34).toInt ∧ (S.1 34).toInt ≤ (32768) := (show B 0 32768 (S.1 34) from bf_34 hI)
    have q4 : (1) ≤ (S.1 36).toInt ∧ (S.1 36).toInt ≤ (98304) := (show B 1 98304 (S.1 36) from B_w b2 (by decide +kernel) (by decide +kernel))
    have i5 : (S.1 34).toInt < (S.1 36).toInt := i_lt hq1
    refine h_next hI (fun {v24_6} {S24_7} b8 hI9 g10 r11 r12 => ?_)
    have r13 : (S.1 34).toInt ≤ (S24_7.1 34).toInt := r11
    clear r11
    have q14 : (0) ≤ (S24_7.1 34).toInt ∧ (S24_7.1 34).toInt ≤ (32768) := (show B 0 32768 (S24_7.1 34) from bf_34 hI9)
    have r15 : ((S24_7.1 35).toInt = 0) → (((S.1 35).toInt = 0) ∧ (((S.1 34).toInt + 1) ≤ (S24_7.1 34).toInt)) := r12
    clear r12
    have q16 : (0) ≤ (S24_7.1 35).toInt ∧ (S24_7.1 35).toInt ≤ (8) := (show B 0 8 (S24_7.1 35) from bf_35 hI9)
    have q17 : (0) ≤ (S.1 35).toInt ∧ (S.1 35).toInt ≤ (8) := (show B 0 8 (S.1 35) from bf_35 hI)
    have g18 := ag_tr (ag_refl (fs := [10, 34, 35]) (rs := []) (S := S)) g10 (by decide +kernel) (by decide +kernel)
    exact hK b8 hI9 g18 (by show (S.1 34).toInt ≤ (S24_7.1 34).toInt; first | with_reducible assumption | omega) (by show ((S24_7.1 35).toInt = 0) → (((S.1 35).toInt = 0) ∧ (((S.1 34).toInt + 1) ≤ (S24_7.1 34).toInt)); first | with_reducible assumption | exact (fun _ => by with_reducible assumption) | omega)
  · have hq19 := (nlt_le hc)
    have b20 : B 0 32768 (S.1 36) := B_w (B_leL (show B 0 98304 (S.1 36) from bf_36 hI) (show B 0 32768 (S.1 34) from bf_34 hI) hq19) (by decide +kernel) (by decide +kernel)
    have q21 : (0) ≤ (S.1 36).toInt ∧ (S.1 36).toInt ≤ (32768) := (show B 0 32768 (S.1 36) from B_w b20 (by decide +kernel) (by decide +kernel))
    have q22 : (0) ≤ (S.1 34).toInt ∧ (S.1 34).toInt ≤ (32768) := (show B 0 32768 (S.1 34) from bf_34 hI)
    have i23 : (S.1 36).toInt ≤ (S.1 34).toInt := i_le hq19
    refine h_fail (B_w cqb_4_4_4 (by decide +kernel) (by decide +kernel)) (B_w (show B 0 32768 (S.1 37) from bf_37 hI) (by decide +kernel) (by decide +kernel)) hI (fun {v17_24} {S17_25} b26 hI27 g28 r29 => ?_)
    have r30 : 1 ≤ (S17_25.1 35).toInt := r29
    clear r29
    have q31 : (0) ≤ (S17_25.1 35).toInt ∧ (S17_25.1 35).toInt ≤ (8) := (show B 0 8 (S17_25.1 35) from bf_35 hI27)
    have g32 := ag_tr (ag_refl (fs := [10, 34, 35]) (rs := []) (S := S)) g28 (by decide +kernel) (by decide +kernel)
    have e33 : (S17_25.1 34).toInt = (S.1 34).toInt := (congrArg Int32.toInt (g28.1 34 rfl)).trans rfl
    have q34 : (0) ≤ (S.1 35).toInt ∧ (S.1 35).toInt ≤ (8) := (show B 0 8 (S.1 35) from bf_35 hI)
    exact hK (B_w cqb_0_0_0 (by decide +kernel) (by decide +kernel)) hI27 g32 (by show (S.1 34).toInt ≤ (S17_25.1 34).toInt; first | with_reducible assumption | omega) (by show ((S17_25.1 35).toInt = 0) → (((S.1 35).toInt = 0) ∧ (((S.1 34).toInt + 1) ≤ (S17_25.1 34).toInt)); first | with_reducible assumption | exact (fun _ => by with_reducible assumption) | omega)
set_option maxRecDepth 20000 in
set_option maxHeartbeats 4000000 in
theorem h_must {x1 : Int32} {x2 : Int32} {S : ms} {K : ms → Prop} (b_x1 : B 0 1 x1) (b_x2 : B (-2) 32768 x2) (hI : IM S) (hK : ∀ {Z : ms}, IM Z → ag [10, 35] [] S Z → (((Z.1 35).toInt = 0) → ((S.1 35).toInt = 0)) → ((x1.toInt = 0) → (1 ≤ (Z.1 35).toInt)) → K Z) : p_must x1 x2 S K := by
  unfold p_must
  refine ⟨fun hc => ?_, fun hc => ?_⟩
  · have b1 : B 1 8 (S.1 35) := B_w (B_n0 (show B 0 8 (S.1 35) from bf_35 hI) hc) (by decide +kernel) (by decide +kernel)
    unfold b_must_18
    have q2 : (1) ≤ (S.1 35).toInt ∧ (S.1 35).toInt ≤ (8) := (show B 1 8 (S.1 35) from B_w b1 (by decide +kernel) (by decide +kernel))
    have q3 : (0) ≤ (x1).toInt ∧ (x1).toInt ≤ (1) := (show B 0 1 (x1) from B_w b_x1 (by decide +kernel) (by decide +kernel))
    exact hK hI (ag_refl (fs := [10, 35]) (rs := []) (S := S)) (by show ((S.1 35).toInt = 0) → ((S.1 35).toInt = 0); first | with_reducible assumption | exact (fun _ => by with_reducible assumption) | omega) (by show (x1.toInt = 0) → (1 ≤ (S.1 35).toInt); first | with_reducible assumption | exact (fun _ => by with_reducible assumption) | omega)
  · have b4 : B 0 0 (S.1 35) := B_w (B_eq hc cqb_0_0_0) (by decide +kernel) (by decide +kernel)
    have q5 : (0) ≤ (S.1 35).toInt ∧ (S.1 35).toInt ≤ (0) := (show B 0 0 (S.1 35) from B_w b4 (by decide +kernel) (by decide +kernel))
    have i6 : (S.1 35).toInt = (0 : Int32).toInt := congrArg Int32.toInt hc
    have n7 : (0 : Int32).toInt = 0 := cqn_0
    refine ⟨fun hc => ?_, fun hc => ?_⟩
    · have b8 : B 1 1 (x1) := B_w (B_n0 b_x1 hc) (by decide +kernel) (by decide +kernel)
      unfold b_must_18
      have q9 : (1) ≤ (x1).toInt ∧ (x1).toInt ≤ (1) := (show B 1 1 (x1) from B_w b8 (by decide +kernel) (by decide +kernel))
      exact hK hI (ag_refl (fs := [10, 35]) (rs := []) (S := S)) (by show ((S.1 35).toInt = 0) → ((S.1 35).toInt = 0); first | with_reducible assumption | exact (fun _ => by with_reducible assumption) | omega) (by show (x1.toInt = 0) → (1 ≤ (S.1 35).toInt); first | with_reducible assumption | exact (fun _ => by with_reducible assumption) | omega)
    · have b10 : B 0 0 (x1) := B_w (B_eq hc cqb_0_0_0) (by decide +kernel) (by decide +kernel)
      have q11 : (0) ≤ (x1).toInt ∧ (x1).toInt ≤ (0) := (show B 0 0 (x1) from B_w b10 (by decide +kernel) (by decide +kernel))
      have i12 : (x1).toInt = (0 : Int32).toInt := congrArg Int32.toInt hc
      have n13 : (0 : Int32).toInt = 0 := cqn_0
      refine h_fail (B_w cqb_5_5_5 (by decide +kernel) (by decide +kernel)) b_x2 hI (fun {v14_14} {S14_15} b16 hI17 g18 r19 => ?_)
      have r20 : 1 ≤ (S14_15.1 35).toInt := r19
      clear r19
      have q21 : (0) ≤ (S14_15.1 35).toInt ∧ (S14_15.1 35).toInt ≤ (8) := (show B 0 8 (S14_15.1 35) from bf_35 hI17)
      unfold b_must_18
      have g22 := ag_tr (ag_refl (fs := [10, 35]) (rs := []) (S := S)) g18 (by decide +kernel) (by decide +kernel)
      exact hK hI17 g22 (by show ((S14_15.1 35).toInt = 0) → ((S.1 35).toInt = 0); first | with_reducible assumption | exact (fun _ => by with_reducible assumption) | omega) (by show (x1.toInt = 0) → (1 ≤ (S14_15.1 35).toInt); first | with_reducible assumption | exact (fun _ => by with_reducible assumption) | omega)
set_option maxRecDepth 20000 in
set_option maxHeartbeats 4000000 in
theorem h_readTables {S : ms} {K : ms → Prop} (hI : IM S) (hK : ∀ {Z : ms}, IM Z → ag [10, 34, 35] [38, 39] S Z → ((S.1 34).toInt ≤ (Z.1 34).toInt) → (((Z.1 35).toInt = 0) → ((S.1 35).toInt = 0)) → K Z) : p_readTables S K := by
  unfold p_readTables
  have q6 : (0) ≤ (S.1 34).toInt ∧ (S.1 34).toInt ≤ (32768) := (show B 0 32768 (S.1 34) from bf_34 hI)
  have q8 : (0) ≤ (S.1 35).toInt ∧ (S.1 35).toInt ≤ (8) := (show B 0 8 (S.1 35) from bf_35 hI)
  refine ⟨fun yx1 yS => B 0 1 yx1 ∧ IM yS ∧ ag [10, 34, 35] [38, 39] S yS ∧ ((S.1 34).toInt ≤ (yS.1 34).toInt) ∧ (((yS.1 35).toInt = 0) → ((S.1 35).toInt = 0)), fun yx1 yS => (((9 * (32768 - (yS.1 34).toInt)) + 8) - (yS.1 35).toInt).toNat, ⟨(B_w cqb_1_1_1 (by decide +kernel) (by decide +kernel)), hI, (ag_refl (fs := [10, 34, 35]) (rs := [38, 39]) (S := S)), (by show (S.1 34).toInt ≤ (S.1 34).toInt; first | with_reducible assumption | omega), (by show ((S.1 35).toInt = 0) → ((S.1 35).toInt = 0); first | with_reducible assumption | exact (fun _ => by with_reducible assumption) | omega)⟩, fun x1_1 T2 hIv => ?_⟩
  obtain ⟨b3, hI4, g5, r7, r9⟩ := hIv
  suffices hs : ∀ (R2 : Int32 → ms → Prop), (∀ zx1 zS, (B 0 1 zx1 ∧ IM zS ∧ ag [10, 34, 35] [38, 39] S zS ∧ ((S.1 34).toInt ≤ (zS.1 34).toInt) ∧ (((zS.1 35).toInt = 0) → ((S.1 35).toInt = 0))) → (((9 * (32768 - (zS.1 34).toInt)) + 8) - (zS.1 35).toInt).toNat < (((9 * (32768 - (T2.1 34).toInt)) + 8) - (T2.1 35).toInt).toNat → R2 zx1 zS) → b_readTables_2 x1_1 T2 R2 K from hs _ (fun _ _ h1 h2 => ⟨h1, h2⟩)
  intro R2 hR20
  have hR2 := fun {zx1} {zS} => hR20 zx1 zS
  have q10 : (0) ≤ (S.1 34).toInt ∧ (S.1 34).toInt ≤ (32768) := (show B 0 32768 (S.1 34) from bf_34 hI)
  have q11 : (0) ≤ (T2.1 34).toInt ∧ (T2.1 34).toInt ≤ (32768) := (show B 0 32768 (T2.1 34) from bf_34 hI4)
  have q12 : (0) ≤ (T2.1 35).toInt ∧ (T2.1 35).toInt ≤ (8) := (show B 0 8 (T2.1 35) from bf_35 hI4)
  have q13 : (0) ≤ (S.1 35).toInt ∧ (S.1 35).toInt ≤ (8) := (show B 0 8 (S.1 35) from bf_35 hI)
  unfold b_readTables_2
  refine ⟨fun hc => ?_, fun hc => ?_⟩
  · have b14 : B 0 0 (x1_1) := B_w (B_eq hc cqb_0_0_0) (by decide +kernel) (by decide +kernel)
    have q15 : (0) ≤ (x1_1).toInt ∧ (x1_1).toInt ≤ (0) := (show B 0 0 (x1_1) from B_w b14 (by decide +kernel) (by decide +kernel))
    have i16 : (x1_1).toInt = (0 : Int32).toInt := congrArg Int32.toInt hc
    have n17 : (0 : Int32).toInt = 0 := cqn_0
    unfold b_readTables_144
    have g18 := ag_tr (ag_refl (fs := [10, 34, 35]) (rs := [38, 39]) (S := S)) g5 (by decide +kernel) (by decide +kernel)
    exact hK hI4 g18 (by show (S.1 34).toInt ≤ (T2.1 34).toInt; first | with_reducible assumption | omega) (by show ((T2.1 35).toInt = 0) → ((S.1 35).toInt = 0); first | with_reducible assumption | exact (fun _ => by with_reducible assumption) | omega)
  · have b19 : B 1 1 (x1_1) := B_w (B_n0 b3 hc) (by decide +kernel) (by decide +kernel)
    refine ⟨fun hc => ?_, fun hc => ?_⟩
    · have b20 : B 1 8 (T2.1 35) := B_w (B_n0 (show B 0 8 (T2.1 35) from bf_35 hI4) hc) (by decide +kernel) (by decide +kernel)
      have q21 : (1) ≤ (T2.1 35).toInt ∧ (T2.1 35).toInt ≤ (8) := (show B 1 8 (T2.1 35) from B_w b20 (by decide +kernel) (by decide +kernel))
      unfold b_readTables_144
      have g22 := ag_tr (ag_refl (fs := [10, 34, 35]) (rs := [38, 39]) (S := S)) g5 (by decide +kernel) (by decide +kernel)
      exact hK hI4 g22 (by show (S.1 34).toInt ≤ (T2.1 34).toInt; first | with_reducible assumption | omega) (by show ((T2.1 35).toInt = 0) → ((S.1 35).toInt = 0); first | with_reducible assumption | exact (fun _ => by with_reducible assumption) | omega)
    · have b23 : B 0 0 (T2.1 35) := B_w (B_eq hc cqb_0_0_0) (by decide +kernel) (by decide +kernel)
      have q24 : (0) ≤ (T2.1 35).toInt ∧ (T2.1 35).toInt ≤ (0) := (show B 0 0 (T2.1 35) from B_w b23 (by decide +kernel) (by decide +kernel))
      have i25 : (T2.1 35).toInt = (0 : Int32).toInt := congrArg Int32.toInt hc
      have n26 : (0 : Int32).toInt = 0 := cqn_0
      refine h_nextWithin hI4 (fun {v14_27} {S14_28} b29 hI30 g31 r32 r33 => ?_)
      have r34 : (T2.1 34).toInt ≤ (S14_28.1 34).toInt := r32
      clear r32
      have q35 : (0) ≤ (S14_28.1 34).toInt ∧ (S14_28.1 34).toInt ≤ (32768) := (show B 0 32768 (S14_28.1 34) from bf_34 hI30)
      have r36 : ((S14_28.1 35).toInt = 0) → (((T2.1 35).toInt = 0) ∧ (((T2.1 34).toInt + 1) ≤ (S14_28.1 34).toInt)) := r33
      clear r33
      have q37 : (0) ≤ (S14_28.1 35).toInt ∧ (S14_28.1 35).toInt ≤ (8) := (show B 0 8 (S14_28.1 35) from bf_35 hI30)
      have hj38 : ∀ {T39 : ms}, IM T39 → ag [10, 34, 35] [38, 39] S14_28 T39 → ((T2.1 34).toInt ≤ (T39.1 34).toInt) → (((T39.1 35).toInt = 0) → (((T2.1 35).toInt = 0) ∧ (((T2.1 34).toInt + 1) ≤ (T39.1 34).toInt))) → b_readTables_124 T39 R2 K := by
        intro T39 hI40 g41 r42 r43
        have q44 : (0) ≤ (T39.1 34).toInt ∧ (T39.1 34).toInt ≤ (32768) := (show B 0 32768 (T39.1 34) from bf_34 hI40)
        have q45 : (0) ≤ (T39.1 35).toInt ∧ (T39.1 35).toInt ≤ (8) := (show B 0 8 (T39.1 35) from bf_35 hI40)
        unfold b_readTables_124
        refine ⟨fun hc => ?_, fun hc => ?_⟩
        · have hq46 := hc
          have b47 : B 0 32768 (S.1 36) := B_w (B_eq (Eq.symm (((g41.1 36 rfl).trans (g31.1 36 rfl)).trans (g5.1 36 rfl))) (B_leL (B_eq (((g41.1 36 rfl).trans (g31.1 36 rfl)).trans (g5.1 36 rfl)) (show B 0 98304 (S.1 36) from bf_36 hI)) (show B 0 32768 (T39.1 34) from bf_34 hI40) hq46)) (by decide +kernel) (by decide +kernel)
          have q48 : (0) ≤ (S.1 36).toInt ∧ (S.1 36).toInt ≤ (32768) := (show B 0 32768 (S.1 36) from B_w b47 (by decide +kernel) (by decide +kernel))
          have e49 : (T39.1 36).toInt = (S.1 36).toInt := (congrArg Int32.toInt (((g41.1 36 rfl).trans (g31.1 36 rfl)).trans (g5.1 36 rfl))).trans rfl
          have i50 : (T39.1 36).toInt ≤ (T39.1 34).toInt := i_le hq46
          unfold b_readTables_140
          have g53 := ag_tr (ag_refl (fs := [10, 34, 35]) (rs := [38, 39]) (S := S)) g5 (by decide +kernel) (by decide +kernel)
          have g52 := ag_tr g53 g31 (by decide +kernel) (by decide +kernel)
          have g51 := ag_tr g52 g41 (by decide +kernel) (by decide +kernel)
          exact hR2 ⟨(B_w cqb_0_0_0 (by decide +kernel) (by decide +kernel)), hI40, g51, (by show (S.1 34).toInt ≤ (T39.1 34).toInt; first | with_reducible assumption | omega), (by show ((T39.1 35).toInt = 0) → ((S.1 35).toInt = 0); first | with_reducible assumption | exact (fun _ => by with_reducible assumption) | omega)⟩ (by show (((9 * (32768 - (T39.1 34).toInt)) + 8) - (T39.1 35).toInt).toNat < (((9 * (32768 - (T2.1 34).toInt)) + 8) - (T2.1 35).toInt).toNat; omega)
        · have hq54 := (nle_lt hc)
          have b55 : B 1 98304 (S.1 36) := B_w (B_eq (Eq.symm (((g41.1 36 rfl).trans (g31.1 36 rfl)).trans (g5.1 36 rfl))) (B_ltR (show B 0 32768 (T39.1 34) from bf_34 hI40) (B_eq (((g41.1 36 rfl).trans (g31.1 36 rfl)).trans (g5.1 36 rfl)) (show B 0 98304 (S.1 36) from bf_36 hI)) hq54)) (by decide +kernel) (by decide +kernel)
          have q56 : (1) ≤ (S.1 36).toInt ∧ (S.1 36).toInt ≤ (98304) := (show B 1 98304 (S.1 36) from B_w b55 (by decide +kernel) (by decide +kernel))
          have e57 : (T39.1 36).toInt = (S.1 36).toInt := (congrArg Int32.toInt (((g41.1 36 rfl).trans (g31.1 36 rfl)).trans (g5.1 36 rfl))).trans rfl
          have i58 : (T39.1 34).toInt < (T39.1 36).toInt := i_lt hq54
          unfold b_readTables_140
          have g61 := ag_tr (ag_refl (fs := [10, 34, 35]) (rs := [38, 39]) (S := S)) g5 (by decide +kernel) (by decide +kernel)
          have g60 := ag_tr g61 g31 (by decide +kernel) (by decide +kernel)
          have g59 := ag_tr g60 g41 (by decide +kernel) (by decide +kernel)
          exact hR2 ⟨(B_w cqb_1_1_1 (by decide +kernel) (by decide +kernel)), hI40, g59, (by show (S.1 34).toInt ≤ (T39.1 34).toInt; first | with_reducible assumption | omega), (by show ((T39.1 35).toInt = 0) → ((S.1 35).toInt = 0); first | with_reducible assumption | exact (fun _ => by with_reducible assumption) | omega)⟩ (by show (((9 * (32768 - (T39.1 34).toInt)) + 8) - (T39.1 35).toInt).toNat < (((9 * (32768 - (T2.1 34).toInt)) + 8) - (T2.1 35).toInt).toNat; omega)
      have hj62 : ∀ {T63 : ms}, IM T63 → ag [10, 34, 35] [38] S14_28 T63 → ((T2.1 34).toInt ≤ (T63.1 34).toInt) → (((T63.1 35).toInt = 0) → (((T2.1 35).toInt = 0) ∧ (((T2.1 34).toInt + 1) ≤ (T63.1 34).toInt))) → (((T63.1 35).toInt = 0) → (v14_27.toInt ≤ 3)) → b_readTables_110 v14_27 T63 R2 K := by
        intro T63 hI64 g65 r66 r67 r68
        have q69 : (0) ≤ (T63.1 34).toInt ∧ (T63.1 34).toInt ≤ (32768) := (show B 0 32768 (T63.1 34) from bf_34 hI64)
        have q70 : (0) ≤ (T63.1 35).toInt ∧ (T63.1 35).toInt ≤ (8) := (show B 0 8 (T63.1 35) from bf_35 hI64)
        have q71 : (0) ≤ (v14_27).toInt ∧ (v14_27).toInt ≤ (255) := (show B 0 255 (v14_27) from B_w b29 (by decide +kernel) (by decide +kernel))
        unfold b_readTables_110
        refine ⟨fun hc => ?_, fun hc => ?_⟩
        · have b72 : B 1 8 (T63.1 35) := B_w (B_n0 (show B 0 8 (T63.1 35) from bf_35 hI64) hc) (by decide +kernel) (by decide +kernel)
          have q73 : (1) ≤ (T63.1 35).toInt ∧ (T63.1 35).toInt ≤ (8) := (show B 1 8 (T63.1 35) from B_w b72 (by decide +kernel) (by decide +kernel))
          have g74 := ag_tr (ag_refl (fs := [10, 34, 35]) (rs := [38, 39]) (S := S14_28)) g65 (by decide +kernel) (by decide +kernel)
          exact hj38 hI64 g74 (by show (T2.1 34).toInt ≤ (T63.1 34).toInt; first | with_reducible assumption | omega) (by show ((T63.1 35).toInt = 0) → (((T2.1 35).toInt = 0) ∧ (((T2.1 34).toInt + 1) ≤ (T63.1 34).toInt)); first | with_reducible assumption | exact (fun _ => by with_reducible assumption) | omega)
        · have b75 : B 0 0 (T63.1 35) := B_w (B_eq hc cqb_0_0_0) (by decide +kernel) (by decide +kernel)
          have q76 : (0) ≤ (T63.1 35).toInt ∧ (T63.1 35).toInt ≤ (0) := (show B 0 0 (T63.1 35) from B_w b75 (by decide +kernel) (by decide +kernel))
          have i77 : (T63.1 35).toInt = (0 : Int32).toInt := congrArg Int32.toInt hc
          have n78 : (0 : Int32).toInt = 0 := cqn_0
          refine ⟨vp_om (x := v14_27) (by omega) (by omega), ?_⟩
          have b79 : B 0 3 (v14_27) := ⟨by omega, by omega⟩
          have hI80 := IM_r (r := 39) (i := v14_27.toNatClampNeg) (v := vp_nar .boolean 1) hI64 (show B 1 1 (vp_nar .boolean 1) from ⟨by decide +kernel, by decide +kernel⟩) (by decide +kernel) (by decide +kernel)
          have g82 := ag_tr (ag_refl (fs := [10, 34, 35]) (rs := [38, 39]) (S := S14_28)) g65 (by decide +kernel) (by decide +kernel)
          have g81 := ag_r (r := 39) (w := upd (T63.2.1 39) v14_27.toNatClampNeg (vp_nar .boolean 1)) g82 (by decide +kernel)
          exact hj38 hI80 g81 (by show (T2.1 34).toInt ≤ (T63.1 34).toInt; first | with_reducible assumption | omega) (by show ((T63.1 35).toInt = 0) → (((T2.1 35).toInt = 0) ∧ (((T2.1 34).toInt + 1) ≤ (T63.1 34).toInt)); first | with_reducible assumption | exact (fun _ => by with_reducible assumption) | omega)
      have hj83 : ∀ {s1_84 : Int32}, B 0 1 s1_84 → ((T2.1 34).toInt ≤ (S14_28.1 34).toInt) → (((S14_28.1 35).toInt = 0) → (((T2.1 35).toInt = 0) ∧ (((T2.1 34).toInt + 1) ≤ (S14_28.1 34).toInt))) → ((s1_84.toInt = 1) → (v14_27.toInt ≤ 3)) → b_readTables_29 v14_27 s1_84 S14_28 R2 K := by
        intro s1_84 b85 r86 r87 r88
        have q89 : (0) ≤ (s1_84).toInt ∧ (s1_84).toInt ≤ (1) := (show B 0 1 (s1_84) from B_w b85 (by decide +kernel) (by decide +kernel))
        have q90 : (0) ≤ (v14_27).toInt ∧ (v14_27).toInt ≤ (255) := (show B 0 255 (v14_27) from B_w b29 (by decide +kernel) (by decide +kernel))
        unfold b_readTables_29
        refine h_must b85 (B_w (B_sub (show B 0 32768 (S14_28.1 34) from bf_34 hI30) cqb_1_1_1 (by decide +kernel) (by decide +kernel)) (by decide +kernel) (by decide +kernel)) hI30 (fun {S35_91} hI92 g93 r94 r95 => ?_)
        have r96 : ((S35_91.1 35).toInt = 0) → ((S14_28.1 35).toInt = 0) := r94
        clear r94
        have q97 : (0) ≤ (S35_91.1 35).toInt ∧ (S35_91.1 35).toInt ≤ (8) := (show B 0 8 (S35_91.1 35) from bf_35 hI92)
        have r98 : (s1_84.toInt = 0) → (1 ≤ (S35_91.1 35).toInt) := r95
        clear r95
        have e105 : (S35_91.1 34).toInt = (S14_28.1 34).toInt := (congrArg Int32.toInt (g93.1 34 rfl)).trans rfl
        refine ⟨fun yx2 yx3 yS => v14_27 = yx2 ∧ B 0 64 yx3 ∧ IM yS ∧ ag [10, 34, 35] [38] S35_91 yS ∧ ((T2.1 34).toInt ≤ (yS.1 34).toInt) ∧ (((yS.1 35).toInt = 0) → (((T2.1 35).toInt = 0) ∧ (((T2.1 34).toInt + 1) ≤ (yS.1 34).toInt))) ∧ (((yS.1 35).toInt = 0) → (yx2.toInt ≤ 3)), fun yx2 yx3 yS => (64 - yx3.toInt).toNat, ⟨rfl, (B_w cqb_0_0_0 (by decide +kernel) (by decide +kernel)), hI92, (ag_refl (fs := [10, 34, 35]) (rs := [38]) (S := S35_91)), (by show (T2.1 34).toInt ≤ (S35_91.1 34).toInt; first | with_reducible assumption | omega), (by show ((S35_91.1 35).toInt = 0) → (((T2.1 35).toInt = 0) ∧ (((T2.1 34).toInt + 1) ≤ (S35_91.1 34).toInt)); first | with_reducible assumption | exact (fun _ => by with_reducible assumption) | omega), (by show ((S35_91.1 35).toInt = 0) → (v14_27.toInt ≤ 3); first | with_reducible assumption | exact (fun _ => by with_reducible assumption) | omega)⟩, fun x2_99 x3_100 T101 hIv => ?_⟩
        obtain ⟨rfl, b102, hI103, g104, r106, r107, r108⟩ := hIv
        suffices hs : ∀ (R40 : Int32 → Int32 → ms → Prop), (∀ zx2 zx3 zS, (v14_27 = zx2 ∧ B 0 64 zx3 ∧ IM zS ∧ ag [10, 34, 35] [38] S35_91 zS ∧ ((T2.1 34).toInt ≤ (zS.1 34).toInt) ∧ (((zS.1 35).toInt = 0) → (((T2.1 35).toInt = 0) ∧ (((T2.1 34).toInt + 1) ≤ (zS.1 34).toInt))) ∧ (((zS.1 35).toInt = 0) → (zx2.toInt ≤ 3))) → (64 - zx3.toInt).toNat < (64 - x3_100.toInt).toNat → R40 zx2 zx3 zS) → b_readTables_40 v14_27 x3_100 T101 R2 R40 K from hs _ (fun _ _ _ h1 h2 => ⟨h1, h2⟩)
        intro R40 hR400
        have hR40 := fun {zx2} {zx3} {zS} => hR400 zx2 zx3 zS
        have q109 : (0) ≤ (T101.1 34).toInt ∧ (T101.1 34).toInt ≤ (32768) := (show B 0 32768 (T101.1 34) from bf_34 hI103)
        have q110 : (0) ≤ (T101.1 35).toInt ∧ (T101.1 35).toInt ≤ (8) := (show B 0 8 (T101.1 35) from bf_35 hI103)
        unfold b_readTables_40
        refine ⟨fun hc => ?_, fun hc => ?_⟩
        · have hq111 := hc
          have b112 : B 64 64 (x3_100) := B_w (B_leR cqb_64_64_64 b102 hq111) (by decide +kernel) (by decide +kernel)
          have g114 := ag_tr (ag_refl (fs := [10, 34, 35]) (rs := [38]) (S := S14_28)) g93 (by decide +kernel) (by decide +kernel)
          have g113 := ag_tr g114 g104 (by decide +kernel) (by decide +kernel)
          exact hj62 hI103 g113 (by show (T2.1 34).toInt ≤ (T101.1 34).toInt; first | with_reducible assumption | omega) (by show ((T101.1 35).toInt = 0) → (((T2.1 35).toInt = 0) ∧ (((T2.1 34).toInt + 1) ≤ (T101.1 34).toInt)); first | with_reducible assumption | exact (fun _ => by with_reducible assumption) | omega) (by show ((T101.1 35).toInt = 0) → (v14_27.toInt ≤ 3); first | with_reducible assumption | exact (fun _ => by with_reducible assumption) | omega)
        · have hq115 := (nle_lt hc)
          have b116 : B 0 63 (x3_100) := B_w (B_ltL b102 cqb_64_64_64 hq115) (by decide +kernel) (by decide +kernel)
          refine ⟨fun hc => ?_, fun hc => ?_⟩
          · have b117 : B 1 8 (T101.1 35) := B_w (B_n0 (show B 0 8 (T101.1 35) from bf_35 hI103) hc) (by decide +kernel) (by decide +kernel)
            have q118 : (1) ≤ (T101.1 35).toInt ∧ (T101.1 35).toInt ≤ (8) := (show B 1 8 (T101.1 35) from B_w b117 (by decide +kernel) (by decide +kernel))
            have g120 := ag_tr (ag_refl (fs := [10, 34, 35]) (rs := [38]) (S := S14_28)) g93 (by decide +kernel) (by decide +kernel)
            have g119 := ag_tr g120 g104 (by decide +kernel) (by decide +kernel)
            exact hj62 hI103 g119 (by show (T2.1 34).toInt ≤ (T101.1 34).toInt; first | with_reducible assumption | omega) (by show ((T101.1 35).toInt = 0) → (((T2.1 35).toInt = 0) ∧ (((T2.1 34).toInt + 1) ≤ (T101.1 34).toInt)); first | with_reducible assumption | exact (fun _ => by with_reducible assumption) | omega) (by show ((T101.1 35).toInt = 0) → (v14_27.toInt ≤ 3); first | with_reducible assumption | exact (fun _ => by with_reducible assumption) | omega)
          · have b121 : B 0 0 (T101.1 35) := B_w (B_eq hc cqb_0_0_0) (by decide +kernel) (by decide +kernel)
            have q122 : (0) ≤ (T101.1 35).toInt ∧ (T101.1 35).toInt ≤ (0) := (show B 0 0 (T101.1 35) from B_w b121 (by decide +kernel) (by decide +kernel))
            have i123 : (T101.1 35).toInt = (0 : Int32).toInt := congrArg Int32.toInt hc
            have n124 : (0 : Int32).toInt = 0 := cqn_0
            refine h_nextWithin hI103 (fun {v54_125} {S54_126} b127 hI128 g129 r130 r131 => ?_)
            have r132 : (T101.1 34).toInt ≤ (S54_126.1 34).toInt := r130
            clear r130
            have q133 : (0) ≤ (S54_126.1 34).toInt ∧ (S54_126.1 34).toInt ≤ (32768) := (show B 0 32768 (S54_126.1 34) from bf_34 hI128)
            have r134 : ((S54_126.1 35).toInt = 0) → (((T101.1 35).toInt = 0) ∧ (((T101.1 34).toInt + 1) ≤ (S54_126.1 34).toInt)) := r131
            clear r131
            have q135 : (0) ≤ (S54_126.1 35).toInt ∧ (S54_126.1 35).toInt ≤ (8) := (show B 0 8 (S54_126.1 35) from bf_35 hI128)
            have hj136 : ∀ {s1_137 : Int32}, B 0 1 s1_137 → ((T101.1 34).toInt ≤ (S54_126.1 34).toInt) → (((S54_126.1 35).toInt = 0) → ((T101.1 35).toInt = 0)) → b_readTables_70 v14_27 x3_100 v54_125 s1_137 S54_126 R2 R40 K := by
              intro s1_137 b138 r139 r140
              unfold b_readTables_70
              refine h_must b138 (B_w (B_sub (show B 0 32768 (S54_126.1 34) from bf_34 hI128) cqb_1_1_1 (by decide +kernel) (by decide +kernel)) (by decide +kernel) (by decide +kernel)) hI128 (fun {S76_141} hI142 g143 r144 r145 => ?_)
              have r146 : ((S76_141.1 35).toInt = 0) → ((S54_126.1 35).toInt = 0) := r144
              clear r144
              have q147 : (0) ≤ (S76_141.1 35).toInt ∧ (S76_141.1 35).toInt ≤ (8) := (show B 0 8 (S76_141.1 35) from bf_35 hI142)
              have r148 : (s1_137.toInt = 0) → (1 ≤ (S76_141.1 35).toInt) := r145
              clear r145
              have q149 : (0) ≤ (s1_137).toInt ∧ (s1_137).toInt ≤ (1) := (show B 0 1 (s1_137) from B_w b138 (by decide +kernel) (by decide +kernel))
              refine ⟨fun hc => ?_, fun hc => ?_⟩
              · have b150 : B 1 8 (S76_141.1 35) := B_w (B_n0 (show B 0 8 (S76_141.1 35) from bf_35 hI142) hc) (by decide +kernel) (by decide +kernel)
                have q151 : (1) ≤ (S76_141.1 35).toInt ∧ (S76_141.1 35).toInt ≤ (8) := (show B 1 8 (S76_141.1 35) from B_w b150 (by decide +kernel) (by decide +kernel))
                unfold b_readTables_104
                have g154 := ag_tr (ag_refl (fs := [10, 34, 35]) (rs := [38]) (S := S35_91)) g104 (by decide +kernel) (by decide +kernel)
                have g153 := ag_tr g154 g129 (by decide +kernel) (by decide +kernel)
                have g152 := ag_tr g153 g143 (by decide +kernel) (by decide +kernel)
                have e155 : (S76_141.1 34).toInt = (S54_126.1 34).toInt := (congrArg Int32.toInt (g143.1 34 rfl)).trans rfl
                have q156 : (0) ≤ (x3_100).toInt ∧ (x3_100).toInt ≤ (63) := (show B 0 63 (x3_100) from B_w b116 (by decide +kernel) (by decide +kernel))
                have e157 : (x3_100 + 1).toInt = ((x3_100).toInt + 1) := (t_add b116 cqb_1_1_1 (by decide +kernel) (by decide +kernel)).trans (by rw [cqn_1])
                have q158 : (1) ≤ (x3_100 + 1).toInt ∧ (x3_100 + 1).toInt ≤ (64) := (show B 1 64 (x3_100 + 1) from B_w (B_add b116 cqb_1_1_1 (by decide +kernel) (by decide +kernel)) (by decide +kernel) (by decide +kernel))
                exact hR40 ⟨rfl, (B_w (B_add b116 cqb_1_1_1 (by decide +kernel) (by decide +kernel)) (by decide +kernel) (by decide +kernel)), hI142, g152, (by show (T2.1 34).toInt ≤ (S76_141.1 34).toInt; first | with_reducible assumption | omega), (by show ((S76_141.1 35).toInt = 0) → (((T2.1 35).toInt = 0) ∧ (((T2.1 34).toInt + 1) ≤ (S76_141.1 34).toInt)); first | with_reducible assumption | exact (fun _ => by with_reducible assumption) | omega), (by show ((S76_141.1 35).toInt = 0) → (v14_27.toInt ≤ 3); first | with_reducible assumption | exact (fun _ => by with_reducible assumption) | omega)⟩ (by show (64 - (x3_100 + 1).toInt).toNat < (64 - x3_100.toInt).toNat; omega)
              · have b159 : B 0 0 (S76_141.1 35) := B_w (B_eq hc cqb_0_0_0) (by decide +kernel) (by decide +kernel)
                have q160 : (0) ≤ (S76_141.1 35).toInt ∧ (S76_141.1 35).toInt ≤ (0) := (show B 0 0 (S76_141.1 35) from B_w b159 (by decide +kernel) (by decide +kernel))
                have i161 : (S76_141.1 35).toInt = (0 : Int32).toInt := congrArg Int32.toInt hc
                have n162 : (0 : Int32).toInt = 0 := cqn_0
                refine ⟨vp_B b116 (by decide +kernel) (by decide +kernel), ?_⟩
                have e163 : (64 * v14_27).toInt = (64 * (v14_27).toInt) := (t_mul cqb_64_64_64 b29 (by decide +kernel) (by decide +kernel) (by decide +kernel)).trans (by rw [cqn_64])
                have q164 : (0) ≤ (64 * v14_27).toInt ∧ (64 * v14_27).toInt ≤ (16320) := (show B 0 16320 (64 * v14_27) from B_w (B_mul cqb_64_64_64 b29 (by decide +kernel) (by decide +kernel) (by decide +kernel)) (by decide +kernel) (by decide +kernel))
                have q165 : (0) ≤ (S.2.1 22 x3_100.toNatClampNeg).toInt ∧ (S.2.1 22 x3_100.toNatClampNeg).toInt ≤ (63) := (show B 0 63 (S.2.1 22 x3_100.toNatClampNeg) from br_22 hI _)
                have e166 : (S76_141.2.1 22 x3_100.toNatClampNeg).toInt = (S.2.1 22 x3_100.toNatClampNeg).toInt := (congrArg Int32.toInt ((((((congrFun (g143.2 22 rfl) x3_100.toNatClampNeg).trans (congrFun (g129.2 22 rfl) x3_100.toNatClampNeg)).trans (congrFun (g104.2 22 rfl) x3_100.toNatClampNeg)).trans (congrFun (g93.2 22 rfl) x3_100.toNatClampNeg)).trans (congrFun (g31.2 22 rfl) x3_100.toNatClampNeg)).trans (congrFun (g5.2 22 rfl) x3_100.toNatClampNeg))).trans rfl
                have e167 : ((64 * v14_27) + (S76_141.2.1 22 x3_100.toNatClampNeg)).toInt = ((64 * (v14_27).toInt) + (S.2.1 22 x3_100.toNatClampNeg).toInt) := (t_add (B_mul cqb_64_64_64 b29 (by decide +kernel) (by decide +kernel) (by decide +kernel)) (B_eq ((((((congrFun (g143.2 22 rfl) x3_100.toNatClampNeg).trans (congrFun (g129.2 22 rfl) x3_100.toNatClampNeg)).trans (congrFun (g104.2 22 rfl) x3_100.toNatClampNeg)).trans (congrFun (g93.2 22 rfl) x3_100.toNatClampNeg)).trans (congrFun (g31.2 22 rfl) x3_100.toNatClampNeg)).trans (congrFun (g5.2 22 rfl) x3_100.toNatClampNeg)) (show B 0 63 (S.2.1 22 x3_100.toNatClampNeg) from br_22 hI _)) (by decide +kernel) (by decide +kernel)).trans (by rw [e163, e166])
                have q168 : (0) ≤ ((64 * v14_27) + (S76_141.2.1 22 x3_100.toNatClampNeg)).toInt ∧ ((64 * v14_27) + (S76_141.2.1 22 x3_100.toNatClampNeg)).toInt ≤ (16383) := (show B 0 16383 ((64 * v14_27) + (S76_141.2.1 22 x3_100.toNatClampNeg)) from B_w (B_add (B_mul cqb_64_64_64 b29 (by decide +kernel) (by decide +kernel) (by decide +kernel)) (B_eq ((((((congrFun (g143.2 22 rfl) x3_100.toNatClampNeg).trans (congrFun (g129.2 22 rfl) x3_100.toNatClampNeg)).trans (congrFun (g104.2 22 rfl) x3_100.toNatClampNeg)).trans (congrFun (g93.2 22 rfl) x3_100.toNatClampNeg)).trans (congrFun (g31.2 22 rfl) x3_100.toNatClampNeg)).trans (congrFun (g5.2 22 rfl) x3_100.toNatClampNeg)) (show B 0 63 (S.2.1 22 x3_100.toNatClampNeg) from br_22 hI _)) (by decide +kernel) (by decide +kernel)) (by decide +kernel) (by decide +kernel))
                refine ⟨vp_om (x := (64 * v14_27) + (S76_141.2.1 22 x3_100.toNatClampNeg)) (by omega) (by omega), ?_⟩
                have b169 : B 0 255 ((64 * v14_27) + (S76_141.2.1 22 x3_100.toNatClampNeg)) := ⟨by omega, by omega⟩
                unfold b_readTables_104
                have hI170 := IM_r (r := 38) (i := ((64 * v14_27) + (S76_141.2.1 22 x3_100.toNatClampNeg)).toNatClampNeg) (v := v54_125) hI142 b127 (by decide +kernel) (by decide +kernel)
                have g174 := ag_tr (ag_refl (fs := [10, 34, 35]) (rs := [38]) (S := S35_91)) g104 (by decide +kernel) (by decide +kernel)
                have g173 := ag_tr g174 g129 (by decide +kernel) (by decide +kernel)
                have g172 := ag_tr g173 g143 (by decide +kernel) (by decide +kernel)
                have g171 := ag_r (r := 38) (w := upd (S76_141.2.1 38) ((64 * v14_27) + (S76_141.2.1 22 x3_100.toNatClampNeg)).toNatClampNeg v54_125) g172 (by decide +kernel)
                have e175 : (S76_141.1 34).toInt = (S54_126.1 34).toInt := (congrArg Int32.toInt (g143.1 34 rfl)).trans rfl
                have q176 : (0) ≤ (x3_100).toInt ∧ (x3_100).toInt ≤ (63) := (show B 0 63 (x3_100) from B_w b116 (by decide +kernel) (by decide +kernel))
                have e177 : (x3_100 + 1).toInt = ((x3_100).toInt + 1) := (t_add b116 cqb_1_1_1 (by decide +kernel) (by decide +kernel)).trans (by rw [cqn_1])
                have q178 : (1) ≤ (x3_100 + 1).toInt ∧ (x3_100 + 1).toInt ≤ (64) := (show B 1 64 (x3_100 + 1) from B_w (B_add b116 cqb_1_1_1 (by decide +kernel) (by decide +kernel)) (by decide +kernel) (by decide +kernel))
                exact hR40 ⟨rfl, (B_w (B_add b116 cqb_1_1_1 (by decide +kernel) (by decide +kernel)) (by decide +kernel) (by decide +kernel)), hI170, g171, (by show (T2.1 34).toInt ≤ (S76_141.1 34).toInt; first | with_reducible assumption | omega), (by show ((S76_141.1 35).toInt = 0) → (((T2.1 35).toInt = 0) ∧ (((T2.1 34).toInt + 1) ≤ (S76_141.1 34).toInt)); first | with_reducible assumption | exact (fun _ => by with_reducible assumption) | omega), (by show ((S76_141.1 35).toInt = 0) → (v14_27.toInt ≤ 3); first | with_reducible assumption | exact (fun _ => by with_reducible assumption) | omega)⟩ (by show (64 - (x3_100 + 1).toInt).toNat < (64 - x3_100.toInt).toNat; omega)
            refine ⟨fun hc => ?_, fun hc => ?_⟩
            · have hq179 := hc
              have b180 : B 0 0 (v54_125) := B_w (B_leL b127 cqb_0_0_0 hq179) (by decide +kernel) (by decide +kernel)
              exact hj136 (B_w cqb_0_0_0 (by decide +kernel) (by decide +kernel)) (by show (T101.1 34).toInt ≤ (S54_126.1 34).toInt; first | with_reducible assumption | omega) (by show ((S54_126.1 35).toInt = 0) → ((T101.1 35).toInt = 0); first | with_reducible assumption | exact (fun _ => by with_reducible assumption) | omega)
            · have hq181 := (nle_lt hc)
              have b182 : B 1 255 (v54_125) := B_w (B_ltR cqb_0_0_0 b127 hq181) (by decide +kernel) (by decide +kernel)
              exact hj136 (B_w cqb_1_1_1 (by decide +kernel) (by decide +kernel)) (by show (T101.1 34).toInt ≤ (S54_126.1 34).toInt; first | with_reducible assumption | omega) (by show ((S54_126.1 35).toInt = 0) → ((T101.1 35).toInt = 0); first | with_reducible assumption | exact (fun _ => by with_reducible assumption) | omega)
      refine ⟨fun hc => ?_, fun hc => ?_⟩
      · have hq183 := hc
        have b184 : B 4 255 (v14_27) := B_w (B_leR cqb_4_4_4 b29 hq183) (by decide +kernel) (by decide +kernel)
        have q185 : (4) ≤ (v14_27).toInt ∧ (v14_27).toInt ≤ (255) := (show B 4 255 (v14_27) from B_w b184 (by decide +kernel) (by decide +kernel))
        exact hj83 (B_w cqb_0_0_0 (by decide +kernel) (by decide +kernel)) (by show (T2.1 34).toInt ≤ (S14_28.1 34).toInt; first | with_reducible assumption | omega) (by show ((S14_28.1 35).toInt = 0) → (((T2.1 35).toInt = 0) ∧ (((T2.1 34).toInt + 1) ≤ (S14_28.1 34).toInt)); first | with_reducible assumption | exact (fun _ => by with_reducible assumption) | omega) (by show (0 = 1) → (v14_27.toInt ≤ 3); first | with_reducible assumption | exact (fun _ => by with_reducible assumption) | omega)
      · have hq186 := (nle_lt hc)
        have b187 : B 0 3 (v14_27) := B_w (B_ltL b29 cqb_4_4_4 hq186) (by decide +kernel) (by decide +kernel)
        have q188 : (0) ≤ (v14_27).toInt ∧ (v14_27).toInt ≤ (3) := (show B 0 3 (v14_27) from B_w b187 (by decide +kernel) (by decide +kernel))
        exact hj83 (B_w cqb_1_1_1 (by decide +kernel) (by decide +kernel)) (by show (T2.1 34).toInt ≤ (S14_28.1 34).toInt; first | with_reducible assumption | omega) (by show ((S14_28.1 35).toInt = 0) → (((T2.1 35).toInt = 0) ∧ (((T2.1 34).toInt + 1) ≤ (S14_28.1 34).toInt)); first | with_reducible assumption | exact (fun _ => by with_reducible assumption) | omega) (by show (1 = 1) → (v14_27.toInt ≤ 3); first | with_reducible assumption | exact (fun _ => by with_reducible assumption) | omega)
