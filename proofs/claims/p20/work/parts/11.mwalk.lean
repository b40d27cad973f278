def b_turn1_133 (s0 : Int32) (K : Int32 → Prop) : Prop :=
  K s0
def b_turn1_120 (x1 : Int32) (s0 : Int32) (K : Int32 → Prop) : Prop :=
  (x1 ≤ 8 → (b_turn1_133 s0 K)) ∧ (¬ (x1 ≤ 8) → (b_turn1_133 (-s0) K))
def b_turn1_29 (x1 : Int32) (s0 : Int32) (K : Int32 → Prop) : Prop :=
  (¬ s0 = 0 → ((¬ s0 = 1 → ((¬ s0 = 2 → ((¬ s0 = 3 → ((¬ s0 = 4 → ((¬ s0 = 5 → ((¬ s0 = 6 → ((¬ s0 = 7 → (b_turn1_120 x1 0 K)) ∧ (s0 = 7 → (b_turn1_120 x1 799 K)))) ∧ (s0 = 6 → (b_turn1_120 x1 1567 K)))) ∧ (s0 = 5 → (b_turn1_120 x1 2276 K)))) ∧ (s0 = 4 → (b_turn1_120 x1 2896 K)))) ∧ (s0 = 3 → (b_turn1_120 x1 3406 K)))) ∧ (s0 = 2 → (b_turn1_120 x1 3784 K)))) ∧ (s0 = 1 → (b_turn1_120 x1 4017 K)))) ∧ (s0 = 0 → (b_turn1_120 x1 4096 K))
def b_turn1_14 (s0 : Int32) (K : Int32 → Prop) : Prop :=
  (s0 ≤ 8 → (b_turn1_29 s0 s0 K)) ∧ (¬ (s0 ≤ 8) → (b_turn1_29 s0 (16 - s0) K))
def p_turn1 (x0 : Int32) (K : Int32 → Prop) : Prop :=
  (x0 ≤ 16 → (b_turn1_14 x0 K)) ∧ (¬ (x0 ≤ 16) → (b_turn1_14 (32 - x0) K))
section M_turn1
variable {D : va_G} {z : Nat → ClassId} {A : Nat → Prop} {X : cx} {L0 : fw} {K : Int32 → Prop}
set_option maxRecDepth 100000 in
set_option maxHeartbeats 1000000 in
theorem s_turn1_133 (C : fcx gG D z A X R_M c_M_turn1 4 (some .int)) (hQ : X.2.2.2.2.2.2.2.2.2.2 = eQ gG D z X.2.2.2.2.2.2.2.1 X.2.2.2.2.1 L0 0 0 (pS_i K)) (hA : A = owA gG L0 X.2.2.2.2.1.heap.size) (hR : X.2.2.2.1 = { frames := 1, cells := 1, slots := 6, locals := 100 }) (s0 : Int32) (hp : b_turn1_133 s0 K) : aw gG D z A X 4 133 [none, none, none, none] [.int s0] ([] : fw) 0 0 := by
  unfold b_turn1_133 at hp
  exact a_iret (ty := .int) C hQ hA d_turn1_133 rfl rfl ⟨_, hp, rfl, rfl⟩
set_option maxRecDepth 100000 in
set_option maxHeartbeats 1000000 in
theorem s_turn1_120 (C : fcx gG D z A X R_M c_M_turn1 4 (some .int)) (hQ : X.2.2.2.2.2.2.2.2.2.2 = eQ gG D z X.2.2.2.2.2.2.2.1 X.2.2.2.2.1 L0 0 0 (pS_i K)) (hA : A = owA gG L0 X.2.2.2.2.1.heap.size) (hR : X.2.2.2.1 = { frames := 1, cells := 1, slots := 6, locals := 100 }) (x1 : Int32) (s0 : Int32) (hp : b_turn1_120 x1 s0 K) : aw gG D z A X 4 120 [none, some (.int x1), none, none] [.int s0] ([] : fw) 0 0 := by
  unfold b_turn1_120 at hp
  refine a_istore_n (lo' := [none, some (.int x1), none, some (.int s0)]) C d_turn1_120 rfl (by decide) rfl ?_
  refine a_iload_n C d_turn1_121 rfl rfl ?_
  refine a_bipush (v := 8) C d_turn1_122 (by decide) ?_
  refine a_icmp_le (tgt := 132) C d_turn1_124 (by decide) ⟨fun hc => ?_, fun hc => ?_⟩
  · have hp := hp.1 hc
    refine a_iload_n C d_turn1_132 rfl rfl ?_
    refine aw_lo (lo' := [none, none, none, none]) ⟨.inr rfl, .inl rfl, .inr rfl, .inl rfl, trivial⟩ ?_
    exact s_turn1_133 C hQ hA hR s0  hp
  · have hp := hp.2 hc
    refine a_iload_n C d_turn1_127 rfl rfl ?_
    refine a_ineg C d_turn1_128 ?_
    refine a_goto (tgt := 133) C d_turn1_129 (by decide) ?_
    refine aw_lo (lo' := [none, none, none, none]) ⟨.inr rfl, .inl rfl, .inr rfl, .inl rfl, trivial⟩ ?_
    exact s_turn1_133 C hQ hA hR (-s0)  hp
set_option maxRecDepth 100000 in
set_option maxHeartbeats 1000000 in
theorem s_turn1_29 (C : fcx gG D z A X R_M c_M_turn1 4 (some .int)) (hQ : X.2.2.2.2.2.2.2.2.2.2 = eQ gG D z X.2.2.2.2.2.2.2.1 X.2.2.2.2.1 L0 0 0 (pS_i K)) (hA : A = owA gG L0 X.2.2.2.2.1.heap.size) (hR : X.2.2.2.1 = { frames := 1, cells := 1, slots := 6, locals := 100 }) (x1 : Int32) (s0 : Int32) (hp : b_turn1_29 x1 s0 K) : aw gG D z A X 4 29 [none, some (.int x1), none, none] [.int s0] ([] : fw) 0 0 := by
  unfold b_turn1_29 at hp
  refine a_istore_n (lo' := [none, some (.int x1), some (.int s0), none]) C d_turn1_29 rfl (by decide) rfl ?_
  refine a_iload_n C d_turn1_30 rfl rfl ?_
  refine a_if_ne (tgt := 40) C d_turn1_31 (by decide) ⟨fun hc => ?_, fun hc => ?_⟩
  · have hp := hp.1 hc
    refine a_iload_n C d_turn1_40 rfl rfl ?_
    refine a_iconst (v := 1) C d_turn1_41 (by decide) ?_
    refine a_icmp_ne (tgt := 51) C d_turn1_42 (by decide) ⟨fun hc => ?_, fun hc => ?_⟩
    · have hp := hp.1 hc
      refine a_iload_n C d_turn1_51 rfl rfl ?_
      refine a_iconst (v := 2) C d_turn1_52 (by decide) ?_
      refine a_icmp_ne (tgt := 62) C d_turn1_53 (by decide) ⟨fun hc => ?_, fun hc => ?_⟩
      · have hp := hp.1 hc
        refine a_iload_n C d_turn1_62 rfl rfl ?_
        refine a_iconst (v := 3) C d_turn1_63 (by decide) ?_
        refine a_icmp_ne (tgt := 73) C d_turn1_64 (by decide) ⟨fun hc => ?_, fun hc => ?_⟩
        · have hp := hp.1 hc
          refine a_iload_n C d_turn1_73 rfl rfl ?_
          refine a_iconst (v := 4) C d_turn1_74 (by decide) ?_
          refine a_icmp_ne (tgt := 84) C d_turn1_75 (by decide) ⟨fun hc => ?_, fun hc => ?_⟩
          · have hp := hp.1 hc
            refine a_iload_n C d_turn1_84 rfl rfl ?_
            refine a_iconst (v := 5) C d_turn1_85 (by decide) ?_
            refine a_icmp_ne (tgt := 95) C d_turn1_86 (by decide) ⟨fun hc => ?_, fun hc => ?_⟩
            · have hp := hp.1 hc
              refine a_iload_n C d_turn1_95 rfl rfl ?_
              refine a_bipush (v := 6) C d_turn1_96 (by decide) ?_
              refine a_icmp_ne (tgt := 107) C d_turn1_98 (by decide) ⟨fun hc => ?_, fun hc => ?_⟩
              · have hp := hp.1 hc
                refine a_iload_n C d_turn1_107 rfl rfl ?_
                refine a_bipush (v := 7) C d_turn1_108 (by decide) ?_
                refine a_icmp_ne (tgt := 119) C d_turn1_110 (by decide) ⟨fun hc => ?_, fun hc => ?_⟩
                · have hp := hp.1 hc
                  refine a_iconst (v := 0) C d_turn1_119 (by decide) ?_
                  refine aw_lo (lo' := [none, some (.int x1), none, none]) ⟨.inr rfl, .inr rfl, .inl rfl, .inr rfl, trivial⟩ ?_
                  exact s_turn1_120 C hQ hA hR x1 0  hp
                · have hp := hp.2 hc
                  refine a_sipush (v := 799) C d_turn1_113 (by decide) ?_
                  refine a_goto (tgt := 120) C d_turn1_116 (by decide) ?_
                  refine aw_lo (lo' := [none, some (.int x1), none, none]) ⟨.inr rfl, .inr rfl, .inl rfl, .inr rfl, trivial⟩ ?_
                  exact s_turn1_120 C hQ hA hR x1 799  hp
              · have hp := hp.2 hc
                refine a_sipush (v := 1567) C d_turn1_101 (by decide) ?_
                refine a_goto (tgt := 120) C d_turn1_104 (by decide) ?_
                refine aw_lo (lo' := [none, some (.int x1), none, none]) ⟨.inr rfl, .inr rfl, .inl rfl, .inr rfl, trivial⟩ ?_
                exact s_turn1_120 C hQ hA hR x1 1567  hp
            · have hp := hp.2 hc
              refine a_sipush (v := 2276) C d_turn1_89 (by decide) ?_
              refine a_goto (tgt := 120) C d_turn1_92 (by decide) ?_
              refine aw_lo (lo' := [none, some (.int x1), none, none]) ⟨.inr rfl, .inr rfl, .inl rfl, .inr rfl, trivial⟩ ?_
              exact s_turn1_120 C hQ hA hR x1 2276  hp
          · have hp := hp.2 hc
            refine a_sipush (v := 2896) C d_turn1_78 (by decide) ?_
            refine a_goto (tgt := 120) C d_turn1_81 (by decide) ?_
            refine aw_lo (lo' := [none, some (.int x1), none, none]) ⟨.inr rfl, .inr rfl, .inl rfl, .inr rfl, trivial⟩ ?_
            exact s_turn1_120 C hQ hA hR x1 2896  hp
        · have hp := hp.2 hc
          refine a_sipush (v := 3406) C d_turn1_67 (by decide) ?_
          refine a_goto (tgt := 120) C d_turn1_70 (by decide) ?_
          refine aw_lo (lo' := [none, some (.int x1), none, none]) ⟨.inr rfl, .inr rfl, .inl rfl, .inr rfl, trivial⟩ ?_
          exact s_turn1_120 C hQ hA hR x1 3406  hp
      · have hp := hp.2 hc
        refine a_sipush (v := 3784) C d_turn1_56 (by decide) ?_
        refine a_goto (tgt := 120) C d_turn1_59 (by decide) ?_
        refine aw_lo (lo' := [none, some (.int x1), none, none]) ⟨.inr rfl, .inr rfl, .inl rfl, .inr rfl, trivial⟩ ?_
        exact s_turn1_120 C hQ hA hR x1 3784  hp
    · have hp := hp.2 hc
      refine a_sipush (v := 4017) C d_turn1_45 (by decide) ?_
      refine a_goto (tgt := 120) C d_turn1_48 (by decide) ?_
      refine aw_lo (lo' := [none, some (.int x1), none, none]) ⟨.inr rfl, .inr rfl, .inl rfl, .inr rfl, trivial⟩ ?_
      exact s_turn1_120 C hQ hA hR x1 4017  hp
  · have hp := hp.2 hc
    refine a_sipush (v := 4096) C d_turn1_34 (by decide) ?_
    refine a_goto (tgt := 120) C d_turn1_37 (by decide) ?_
    refine aw_lo (lo' := [none, some (.int x1), none, none]) ⟨.inr rfl, .inr rfl, .inl rfl, .inr rfl, trivial⟩ ?_
    exact s_turn1_120 C hQ hA hR x1 4096  hp
set_option maxRecDepth 100000 in
set_option maxHeartbeats 1000000 in
theorem s_turn1_14 (C : fcx gG D z A X R_M c_M_turn1 4 (some .int)) (hQ : X.2.2.2.2.2.2.2.2.2.2 = eQ gG D z X.2.2.2.2.2.2.2.1 X.2.2.2.2.1 L0 0 0 (pS_i K)) (hA : A = owA gG L0 X.2.2.2.2.1.heap.size) (hR : X.2.2.2.1 = { frames := 1, cells := 1, slots := 6, locals := 100 }) (s0 : Int32) (hp : b_turn1_14 s0 K) : aw gG D z A X 4 14 [none, none, none, none] [.int s0] ([] : fw) 0 0 := by
  unfold b_turn1_14 at hp
  refine a_istore_n (lo' := [none, some (.int s0), none, none]) C d_turn1_14 rfl (by decide) rfl ?_
  refine a_iload_n C d_turn1_15 rfl rfl ?_
  refine a_bipush (v := 8) C d_turn1_16 (by decide) ?_
  refine a_icmp_le (tgt := 28) C d_turn1_18 (by decide) ⟨fun hc => ?_, fun hc => ?_⟩
  · have hp := hp.1 hc
    refine a_iload_n C d_turn1_28 rfl rfl ?_
    refine aw_lo (lo' := [none, some (.int s0), none, none]) ⟨.inr rfl, .inr rfl, .inr rfl, .inr rfl, trivial⟩ ?_
    exact s_turn1_29 C hQ hA hR s0 s0  hp
  · have hp := hp.2 hc
    refine a_bipush (v := 16) C d_turn1_21 (by decide) ?_
    refine a_iload_n C d_turn1_23 rfl rfl ?_
    refine a_isub C d_turn1_24 ?_
    refine a_goto (tgt := 29) C d_turn1_25 (by decide) ?_
    refine aw_lo (lo' := [none, some (.int s0), none, none]) ⟨.inr rfl, .inr rfl, .inr rfl, .inr rfl, trivial⟩ ?_
    exact s_turn1_29 C hQ hA hR s0 (16 - s0)  hp
set_option maxRecDepth 100000 in
set_option maxHeartbeats 1000000 in
theorem s_turn1_0 (C : fcx gG D z A X R_M c_M_turn1 4 (some .int)) (hQ : X.2.2.2.2.2.2.2.2.2.2 = eQ gG D z X.2.2.2.2.2.2.2.1 X.2.2.2.2.1 L0 0 0 (pS_i K)) (hA : A = owA gG L0 X.2.2.2.2.1.heap.size) (hR : X.2.2.2.1 = { frames := 1, cells := 1, slots := 6, locals := 100 }) (x0 : Int32) (hp : p_turn1 x0 K) : aw gG D z A X 4 0 [some (.int x0), none, none, none] [] ([] : fw) 0 0 := by
  unfold p_turn1 at hp
  refine a_iload_n C d_turn1_0 rfl rfl ?_
  refine a_bipush (v := 16) C d_turn1_1 (by decide) ?_
  refine a_icmp_le (tgt := 13) C d_turn1_3 (by decide) ⟨fun hc => ?_, fun hc => ?_⟩
  · have hp := hp.1 hc
    refine a_iload_n C d_turn1_13 rfl rfl ?_
    refine aw_lo (lo' := [none, none, none, none]) ⟨.inl rfl, .inr rfl, .inr rfl, .inr rfl, trivial⟩ ?_
    exact s_turn1_14 C hQ hA hR x0  hp
  · have hp := hp.2 hc
    refine a_bipush (v := 32) C d_turn1_6 (by decide) ?_
    refine a_iload_n C d_turn1_8 rfl rfl ?_
    refine a_isub C d_turn1_9 ?_
    refine a_goto (tgt := 14) C d_turn1_10 (by decide) ?_
    refine aw_lo (lo' := [none, none, none, none]) ⟨.inl rfl, .inr rfl, .inr rfl, .inr rfl, trivial⟩ ?_
    exact s_turn1_14 C hQ hA hR (32 - x0)  hp
end M_turn1
section M_turn1c
variable {D : va_G} {z : Nat → ClassId}
set_option maxRecDepth 100000 in
theorem ct_turn1 {l : Launch} (x0 : Int32) {K : Int32 → Prop} (hp : p_turn1 x0 K) : ct gG D z l n_M_turn1 c_M_turn1 4 (some .int) 1 100 [.int x0] ([] : fw) 0 0 (pS_i K) := by
  refine ct_of (lo := [some (.int x0), none, none, none]) (by decide) g_ok (Nat.le_of_ble_eq_true rfl) rfl ?_
  intro X A _ C hR hQ hA _
  exact s_turn1_0 C hQ hA hR x0 hp
end M_turn1c
def p_thrown  (S : ms) (K : Int32 → ms → Prop) : Prop :=
  K (S.1 0) S
section M_thrown
variable {D : va_G} {z : Nat → ClassId} {A : Nat → Prop} {X : cx} {L0 : fw} {K : Int32 → ms → Prop} {o : Nat} {ad : Nat → Nat}
set_option maxRecDepth 100000 in
set_option maxHeartbeats 1000000 in
theorem s_thrown_0 (C : fcx gG D z A X R_M c_M_thrown 1 (some .int)) (hQ : X.2.2.2.2.2.2.2.2.2.2 = eQ gG D z X.2.2.2.2.2.2.2.1 X.2.2.2.2.1 L0 0 0 (pM_i K o ad)) (hA : A = owA gG L0 X.2.2.2.2.1.heap.size) (hR : X.2.2.2.1 = { frames := 1, cells := 1, slots := 6, locals := 100 })  (S : ms) (hp : p_thrown  S K) : aw gG D z A X 1 0 [some (.ref o)] [] [(0, ly_M, (o, ad, S.1, S.2.1, S.2.2))] 0 0 := by
  unfold p_thrown at hp
  refine a_aload_n C d_thrown_0 rfl rfl ?_
  refine a_getI C 0 0 d_thrown_1 rfl rfl rfl (Nat.le_of_ble_eq_true rfl) f_M_146 (Nat.le_of_ble_eq_true rfl) ?_
  exact a_iret (ty := .int) C hQ hA d_thrown_4 rfl rfl ⟨_, S, hp, rfl, rfl⟩
end M_thrown
section M_thrownc
variable {D : va_G} {z : Nat → ClassId} {o : Nat} {ad : Nat → Nat}
set_option maxRecDepth 100000 in
theorem ct_thrown {l : Launch}  (S : ms) {K : Int32 → ms → Prop} (hp : p_thrown  S K) : ct gG D z l n_M_thrown c_M_thrown 1 (some .int) 1 100 [.ref o] [(0, ly_M, (o, ad, S.1, S.2.1, S.2.2))] 0 0 (pM_i K o ad) := by
  refine ct_of (lo := [some (.ref o)]) (by decide) g_ok (Nat.le_of_ble_eq_true rfl) rfl ?_
  intro X A _ C hR hQ hA _
  exact s_thrown_0 C hQ hA hR  S hp
end M_thrownc
def p_cell (x0 : Int32) (x1 : Int32) (x2 : Int32) (K : Int32 → Prop) : Prop :=
  K ((3 * ((64 * x1) + x0)) + x2)
section M_cell
variable {D : va_G} {z : Nat → ClassId} {A : Nat → Prop} {X : cx} {L0 : fw} {K : Int32 → Prop}
set_option maxRecDepth 100000 in
set_option maxHeartbeats 1000000 in
theorem s_cell_0 (C : fcx gG D z A X R_M c_M_cell 3 (some .int)) (hQ : X.2.2.2.2.2.2.2.2.2.2 = eQ gG D z X.2.2.2.2.2.2.2.1 X.2.2.2.2.1 L0 0 0 (pS_i K)) (hA : A = owA gG L0 X.2.2.2.2.1.heap.size) (hR : X.2.2.2.1 = { frames := 1, cells := 1, slots := 6, locals := 100 }) (x0 : Int32) (x1 : Int32) (x2 : Int32) (hp : p_cell x0 x1 x2 K) : aw gG D z A X 3 0 [some (.int x0), some (.int x1), some (.int x2)] [] ([] : fw) 0 0 := by
  unfold p_cell at hp
  refine a_iconst (v := 3) C d_cell_0 (by decide) ?_
  refine a_bipush (v := 64) C d_cell_1 (by decide) ?_
  refine a_iload_n C d_cell_3 rfl rfl ?_
  refine a_imul C d_cell_4 ?_
  refine a_iload_n C d_cell_5 rfl rfl ?_
  refine a_iadd C d_cell_6 ?_
  refine a_imul C d_cell_7 ?_
  refine a_iload_n C d_cell_8 rfl rfl ?_
  refine a_iadd C d_cell_9 ?_
  exact a_iret (ty := .int) C hQ hA d_cell_10 rfl rfl ⟨_, hp, rfl, rfl⟩
end M_cell
section M_cellc
variable {D : va_G} {z : Nat → ClassId}
set_option maxRecDepth 100000 in
theorem ct_cell {l : Launch} (x0 : Int32) (x1 : Int32) (x2 : Int32) {K : Int32 → Prop} (hp : p_cell x0 x1 x2 K) : ct gG D z l n_M_cell c_M_cell 3 (some .int) 1 100 [.int x0, .int x1, .int x2] ([] : fw) 0 0 (pS_i K) := by
  refine ct_of (lo := [some (.int x0), some (.int x1), some (.int x2)]) (by decide) g_ok (Nat.le_of_ble_eq_true rfl) rfl ?_
  intro X A _ C hR hQ hA _
  exact s_cell_0 C hQ hA hR x0 x1 x2 hp
end M_cellc
def b_canvas_67 (x4 : Int32) (S : ms) (R67 : Int32 → ms → Prop) (K : ms → Prop) : Prop :=
  (12288 ≤ x4 → (K S)) ∧ (¬ (12288 ≤ x4) → (vp_in x4 12288 ∧ (R67 (x4 + 1) (S.1, va_up S.2.1 4 (upd (S.2.1 4) x4.toNatClampNeg 0), S.2.2))))
def e_canvas_67 (x4 : Int32) (S : ms) (K : ms → Prop) : Prop :=
  ∃ (I : Int32 → ms → Prop) (μ : Int32 → ms → Nat), I x4 S ∧ ∀ yx4 yS, I yx4 yS → b_canvas_67 yx4 yS (fun zx4 zS => I zx4 zS ∧ μ zx4 zS < μ yx4 yS) K
def b_canvas_38 (x1 : Int32) (x2 : Int32) (x3 : Int32) (s1 : Int32) (S : ms) (K : ms → Prop) : Prop :=
  (((upd S.1 0 s1) 0) ≤ 0 → (e_canvas_67 0 (upd (upd (upd (upd S.1 0 s1) 1 x1) 2 x2) 3 x3, S.2.1, S.2.2) K)) ∧ (¬ (((upd S.1 0 s1) 0) ≤ 0) → (K (upd S.1 0 s1, S.2.1, S.2.2)))
def b_canvas_37 (x1 : Int32) (x2 : Int32) (x3 : Int32) (S : ms) (K : ms → Prop) : Prop :=
  b_canvas_38 x1 x2 x3 0 S K
def b_canvas_33 (x1 : Int32) (x2 : Int32) (x3 : Int32) (S : ms) (K : ms → Prop) : Prop :=
  b_canvas_38 x1 x2 x3 1 S K
def p_canvas (x1 : Int32) (x2 : Int32) (x3 : Int32) (S : ms) (K : ms → Prop) : Prop :=
  (x1 < 1 → (b_canvas_33 x1 x2 x3 S K)) ∧ (¬ (x1 < 1) → ((64 < x1 → (b_canvas_33 x1 x2 x3 S K)) ∧ (¬ (64 < x1) → ((x2 < 1 → (b_canvas_33 x1 x2 x3 S K)) ∧ (¬ (x2 < 1) → ((64 < x2 → (b_canvas_33 x1 x2 x3 S K)) ∧ (¬ (64 < x2) → ((x3 = 1 → (b_canvas_37 x1 x2 x3 S K)) ∧ (¬ (x3 = 1) → ((x3 = 3 → (b_canvas_37 x1 x2 x3 S K)) ∧ (¬ (x3 = 3) → (b_canvas_33 x1 x2 x3 S K))))))))))))
section M_canvas
variable {D : va_G} {z : Nat → ClassId} {A : Nat → Prop} {X : cx} {L0 : fw} {K : ms → Prop} {o : Nat} {ad : Nat → Nat}
set_option maxRecDepth 100000 in
set_option maxHeartbeats 1000000 in
theorem s_canvas_67 (C : fcx gG D z A X R_M c_M_canvas 5 (none)) (hQ : X.2.2.2.2.2.2.2.2.2.2 = eQ gG D z X.2.2.2.2.2.2.2.1 X.2.2.2.2.1 L0 0 0 (pM_v K o ad)) (hA : A = owA gG L0 X.2.2.2.2.1.heap.size) (hR : X.2.2.2.1 = { frames := 1, cells := 1, slots := 6, locals := 100 }) (x4 : Int32) (S : ms) (R67 : Int32 → ms → Prop) (hR67 : ∀ yx4 yS, R67 yx4 yS → aw gG D z A X 5 67 [some (.ref o), none, none, none, some (.int yx4)] [] [(0, ly_M, (o, ad, yS.1, yS.2.1, yS.2.2))] 0 0) (hp : b_canvas_67 x4 S R67 K) : aw gG D z A X 5 67 [some (.ref o), none, none, none, some (.int x4)] [] [(0, ly_M, (o, ad, S.1, S.2.1, S.2.2))] 0 0 := by
  unfold b_canvas_67 at hp
  refine a_iload C d_canvas_67 rfl ?_
  refine a_sipush (v := 12288) C d_canvas_69 (by decide) ?_
  refine a_icmp_ge (tgt := 89) C d_canvas_72 (by decide) ⟨fun hc => ?_, fun hc => ?_⟩
  · have hp := hp.1 hc
    exact a_vret C hQ hA d_canvas_89 rfl ⟨S, hp, rfl, rfl⟩
  · have hp := hp.2 hc
    refine a_aload_n C d_canvas_75 rfl rfl ?_
    refine a_getR C 0 4 d_canvas_76 rfl rfl rfl (Nat.le_of_ble_eq_true rfl) f_M_19 ⟨Nat.le_of_ble_eq_true rfl, Nat.le_of_ble_eq_true rfl⟩ ?_
    refine a_iload C d_canvas_79 rfl ?_
    refine a_iconst (v := 0) C d_canvas_81 (by decide) ?_
    refine a_iast C 0 4 d_canvas_82 rfl rfl rfl hp.1 ?_
    have hp := hp.2
    refine aw_eq (lo' := _) (st' := _) (L' := [(0, ly_M, (o, ad, S.1, va_up S.2.1 4 (upd (S.2.1 4) x4.toNatClampNeg 0), S.2.2))]) rfl rfl rfl ?_
    refine a_iinc (v := x4 + 1) (lo' := [some (.ref o), none, none, none, some (.int (x4 + 1))]) C d_canvas_83 rfl rfl (by decide) rfl ?_
    refine a_goto (tgt := 67) C d_canvas_86 (by decide) ?_
    refine aw_lo (lo' := [some (.ref o), none, none, none, some (.int (x4 + 1))]) ⟨.inr rfl, .inr rfl, .inr rfl, .inr rfl, .inr rfl, trivial⟩ ?_
    exact hR67 (x4 + 1) (S.1, va_up S.2.1 4 (upd (S.2.1 4) x4.toNatClampNeg 0), S.2.2) hp
set_option maxRecDepth 100000 in
set_option maxHeartbeats 1000000 in
theorem se_canvas_67 (C : fcx gG D z A X R_M c_M_canvas 5 (none)) (hQ : X.2.2.2.2.2.2.2.2.2.2 = eQ gG D z X.2.2.2.2.2.2.2.1 X.2.2.2.2.1 L0 0 0 (pM_v K o ad)) (hA : A = owA gG L0 X.2.2.2.2.1.heap.size) (hR : X.2.2.2.1 = { frames := 1, cells := 1, slots := 6, locals := 100 }) (x4 : Int32) (S : ms) (hp : e_canvas_67 x4 S K) : aw gG D z A X 5 67 [some (.ref o), none, none, none, some (.int x4)] [] [(0, ly_M, (o, ad, S.1, S.2.1, S.2.2))] 0 0 := by
  obtain ⟨I, μ, h0, hs⟩ := hp
  have key : ∀ (n : Nat) (yx4 : Int32) (yS : ms), μ yx4 yS < n → I yx4 yS → aw gG D z A X 5 67 [some (.ref o), none, none, none, some (.int yx4)] [] [(0, ly_M, (o, ad, yS.1, yS.2.1, yS.2.2))] 0 0 := by
    intro n
    induction n with
    | zero => intro yx4 yS h; omega
    | succ n ih =>
      intro yx4 yS hn hI
      exact s_canvas_67 C hQ hA hR yx4 yS _ (fun zx4 zS hw => ih zx4 zS (by omega) hw.1) (hs yx4 yS hI)
  exact key (μ x4 S + 1) x4 S (Nat.lt_succ_self _) h0
set_option maxRecDepth 100000 in
set_option maxHeartbeats 1000000 in
theorem s_canvas_38 (C : fcx gG D z A X R_M c_M_canvas 5 (none)) (hQ : X.2.2.2.2.2.2.2.2.2.2 = eQ gG D z X.2.2.2.2.2.2.2.1 X.2.2.2.2.1 L0 0 0 (pM_v K o ad)) (hA : A = owA gG L0 X.2.2.2.2.1.heap.size) (hR : X.2.2.2.1 = { frames := 1, cells := 1, slots := 6, locals := 100 }) (x1 : Int32) (x2 : Int32) (x3 : Int32) (s1 : Int32) (S : ms) (hp : b_canvas_38 x1 x2 x3 s1 S K) : aw gG D z A X 5 38 [some (.ref o), some (.int x1), some (.int x2), some (.int x3), none] [.int s1, .ref o] [(0, ly_M, (o, ad, S.1, S.2.1, S.2.2))] 0 0 := by
  unfold b_canvas_38 at hp
  refine a_putI (ty := .int) C 0 0 d_canvas_38 rfl rfl rfl (Nat.le_of_ble_eq_true rfl) f_M_146 (Nat.le_of_ble_eq_true rfl) rfl rfl rfl rfl ?_
  refine aw_eq (lo' := _) (st' := _) (L' := [(0, ly_M, (o, ad, upd S.1 0 s1, S.2.1, S.2.2))]) rfl rfl rfl ?_
  refine a_aload_n C d_canvas_41 rfl rfl ?_
  refine a_getI C 0 0 d_canvas_42 rfl rfl rfl (Nat.le_of_ble_eq_true rfl) f_M_146 (Nat.le_of_ble_eq_true rfl) ?_
  refine a_if_le (tgt := 49) C d_canvas_45 (by decide) ⟨fun hc => ?_, fun hc => ?_⟩
  · have hp := hp.1 hc
    refine a_aload_n C d_canvas_49 rfl rfl ?_
    refine a_iload_n C d_canvas_50 rfl rfl ?_
    refine a_putI (ty := .int) C 0 1 d_canvas_51 rfl rfl rfl (Nat.le_of_ble_eq_true rfl) f_M_7 (Nat.le_of_ble_eq_true rfl) rfl rfl rfl rfl ?_
    refine aw_eq (lo' := _) (st' := _) (L' := [(0, ly_M, (o, ad, upd (upd S.1 0 s1) 1 x1, S.2.1, S.2.2))]) rfl rfl rfl ?_
    refine a_aload_n C d_canvas_54 rfl rfl ?_
    refine a_iload_n C d_canvas_55 rfl rfl ?_
    refine a_putI (ty := .int) C 0 2 d_canvas_56 rfl rfl rfl (Nat.le_of_ble_eq_true rfl) f_M_13 (Nat.le_of_ble_eq_true rfl) rfl rfl rfl rfl ?_
    refine aw_eq (lo' := _) (st' := _) (L' := [(0, ly_M, (o, ad, upd (upd (upd S.1 0 s1) 1 x1) 2 x2, S.2.1, S.2.2))]) rfl rfl rfl ?_
    refine a_aload_n C d_canvas_59 rfl rfl ?_
    refine a_iload_n C d_canvas_60 rfl rfl ?_
    refine a_putI (ty := .int) C 0 3 d_canvas_61 rfl rfl rfl (Nat.le_of_ble_eq_true rfl) f_M_16 (Nat.le_of_ble_eq_true rfl) rfl rfl rfl rfl ?_
    refine aw_eq (lo' := _) (st' := _) (L' := [(0, ly_M, (o, ad, upd (upd (upd (upd S.1 0 s1) 1 x1) 2 x2) 3 x3, S.2.1, S.2.2))]) rfl rfl rfl ?_
    refine a_iconst (v := 0) C d_canvas_64 (by decide) ?_
    refine a_istore (lo' := [some (.ref o), some (.int x1), some (.int x2), some (.int x3), some (.int 0)]) C d_canvas_65 (by decide) rfl ?_
    refine aw_lo (lo' := [some (.ref o), none, none, none, some (.int 0)]) ⟨.inr rfl, .inl rfl, .inl rfl, .inl rfl, .inr rfl, trivial⟩ ?_
    exact se_canvas_67 C hQ hA hR 0 (upd (upd (upd (upd S.1 0 s1) 1 x1) 2 x2) 3 x3, S.2.1, S.2.2)  hp
  · have hp := hp.2 hc
    exact a_vret C hQ hA d_canvas_48 rfl ⟨(upd S.1 0 s1, S.2.1, S.2.2), hp, rfl, rfl⟩
set_option maxRecDepth 100000 in
set_option maxHeartbeats 1000000 in
theorem s_canvas_37 (C : fcx gG D z A X R_M c_M_canvas 5 (none)) (hQ : X.2.2.2.2.2.2.2.2.2.2 = eQ gG D z X.2.2.2.2.2.2.2.1 X.2.2.2.2.1 L0 0 0 (pM_v K o ad)) (hA : A = owA gG L0 X.2.2.2.2.1.heap.size) (hR : X.2.2.2.1 = { frames := 1, cells := 1, slots := 6, locals := 100 }) (x1 : Int32) (x2 : Int32) (x3 : Int32) (S : ms) (hp : b_canvas_37 x1 x2 x3 S K) : aw gG D z A X 5 37 [some (.ref o), some (.int x1), some (.int x2), some (.int x3), none] [.ref o] [(0, ly_M, (o, ad, S.1, S.2.1, S.2.2))] 0 0 := by
  unfold b_canvas_37 at hp
  refine a_iconst (v := 0) C d_canvas_37 (by decide) ?_
  refine aw_lo (lo' := [some (.ref o), some (.int x1), some (.int x2), some (.int x3), none]) ⟨.inr rfl, .inr rfl, .inr rfl, .inr rfl, .inr rfl, trivial⟩ ?_
  exact s_canvas_38 C hQ hA hR x1 x2 x3 0 S  hp
set_option maxRecDepth 100000 in
set_option maxHeartbeats 1000000 in
theorem s_canvas_33 (C : fcx gG D z A X R_M c_M_canvas 5 (none)) (hQ : X.2.2.2.2.2.2.2.2.2.2 = eQ gG D z X.2.2.2.2.2.2.2.1 X.2.2.2.2.1 L0 0 0 (pM_v K o ad)) (hA : A = owA gG L0 X.2.2.2.2.1.heap.size) (hR : X.2.2.2.1 = { frames := 1, cells := 1, slots := 6, locals := 100 }) (x1 : Int32) (x2 : Int32) (x3 : Int32) (S : ms) (hp : b_canvas_33 x1 x2 x3 S K) : aw gG D z A X 5 33 [some (.ref o), some (.int x1), some (.int x2), some (.int x3), none] [.ref o] [(0, ly_M, (o, ad, S.1, S.2.1, S.2.2))] 0 0 := by
  unfold b_canvas_33 at hp
  refine a_iconst (v := 1) C d_canvas_33 (by decide) ?_
  refine a_goto (tgt := 38) C d_canvas_34 (by decide) ?_
  refine aw_lo (lo' := [some (.ref o), some (.int x1), some (.int x2), some (.int x3), none]) ⟨.inr rfl, .inr rfl, .inr rfl, .inr rfl, .inr rfl, trivial⟩ ?_
  exact s_canvas_38 C hQ hA hR x1 x2 x3 1 S  hp
set_option maxRecDepth 100000 in
set_option maxHeartbeats 1000000 in
theorem s_canvas_0 (C : fcx gG D z A X R_M c_M_canvas 5 (none)) (hQ : X.2.2.2.2.2.2.2.2.2.2 = eQ gG D z X.2.2.2.2.2.2.2.1 X.2.2.2.2.1 L0 0 0 (pM_v K o ad)) (hA : A = owA gG L0 X.2.2.2.2.1.heap.size) (hR : X.2.2.2.1 = { frames := 1, cells := 1, slots := 6, locals := 100 }) (x1 : Int32) (x2 : Int32) (x3 : Int32) (S : ms) (hp : p_canvas x1 x2 x3 S K) : aw gG D z A X 5 0 [some (.ref o), some (.int x1), some (.int x2), some (.int x3), none] [] [(0, ly_M, (o, ad, S.1, S.2.1, S.2.2))] 0 0 := by
  unfold p_canvas at hp
  refine a_aload_n C d_canvas_0 rfl rfl ?_
  refine a_iload_n C d_canvas_1 rfl rfl ?_
  refine a_iconst (v := 1) C d_canvas_2 (by decide) ?_
  refine a_icmp_lt (tgt := 33) C d_canvas_3 (by decide) ⟨fun hc => ?_, fun hc => ?_⟩
  · have hp := hp.1 hc
    refine aw_lo (lo' := [some (.ref o), some (.int x1), some (.int x2), some (.int x3), none]) ⟨.inr rfl, .inr rfl, .inr rfl, .inr rfl, .inr rfl, trivial⟩ ?_
    exact s_canvas_33 C hQ hA hR x1 x2 x3 S  hp
  · have hp := hp.2 hc
    refine a_iload_n C d_canvas_6 rfl rfl ?_
    refine a_bipush (v := 64) C d_canvas_7 (by decide) ?_
    refine a_icmp_gt (tgt := 33) C d_canvas_9 (by decide) ⟨fun hc => ?_, fun hc => ?_⟩
    · have hp := hp.1 hc
      refine aw_lo (lo' := [some (.ref o), some (.int x1), some (.int x2), some (.int x3), none]) ⟨.inr rfl, .inr rfl, .inr rfl, .inr rfl, .inr rfl, trivial⟩ ?_
      exact s_canvas_33 C hQ hA hR x1 x2 x3 S  hp
    · have hp := hp.2 hc
      refine a_iload_n C d_canvas_12 rfl rfl ?_
      refine a_iconst (v := 1) C d_canvas_13 (by decide) ?_
      refine a_icmp_lt (tgt := 33) C d_canvas_14 (by decide) ⟨fun hc => ?_, fun hc => ?_⟩
      · have hp := hp.1 hc
        refine aw_lo (lo' := [some (.ref o), some (.int x1), some (.int x2), some (.int x3), none]) ⟨.inr rfl, .inr rfl, .inr rfl, .inr rfl, .inr rfl, trivial⟩ ?_
        exact s_canvas_33 C hQ hA hR x1 x2 x3 S  hp
      · have hp := hp.2 hc
        refine a_iload_n C d_canvas_17 rfl rfl ?_
        refine a_bipush (v := 64) C d_canvas_18 (by decide) ?_
        refine a_icmp_gt (tgt := 33) C d_canvas_20 (by decide) ⟨fun hc => ?_, fun hc => ?_⟩
        · have hp := hp.1 hc
          refine aw_lo (lo' := [some (.ref o), some (.int x1), some (.int x2), some (.int x3), none]) ⟨.inr rfl, .inr rfl, .inr rfl, .inr rfl, .inr rfl, trivial⟩ ?_
          exact s_canvas_33 C hQ hA hR x1 x2 x3 S  hp
        · have hp := hp.2 hc
          refine a_iload_n C d_canvas_23 rfl rfl ?_
          refine a_iconst (v := 1) C d_canvas_24 (by decide) ?_
          refine a_icmp_eq (tgt := 37) C d_canvas_25 (by decide) ⟨fun hc => ?_, fun hc => ?_⟩
          · have hp := hp.1 hc
            refine aw_lo (lo' := [some (.ref o), some (.int x1), some (.int x2), some (.int x3), none]) ⟨.inr rfl, .inr rfl, .inr rfl, .inr rfl, .inr rfl, trivial⟩ ?_
            exact s_canvas_37 C hQ hA hR x1 x2 x3 S  hp
          · have hp := hp.2 hc
            refine a_iload_n C d_canvas_28 rfl rfl ?_
            refine a_iconst (v := 3) C d_canvas_29 (by decide) ?_
            refine a_icmp_eq (tgt := 37) C d_canvas_30 (by decide) ⟨fun hc => ?_, fun hc => ?_⟩
            · have hp := hp.1 hc
              refine aw_lo (lo' := [some (.ref o), some (.int x1), some (.int x2), some (.int x3), none]) ⟨.inr rfl, .inr rfl, .inr rfl, .inr rfl, .inr rfl, trivial⟩ ?_
              exact s_canvas_37 C hQ hA hR x1 x2 x3 S  hp
            · have hp := hp.2 hc
              refine aw_lo (lo' := [some (.ref o), some (.int x1), some (.int x2), some (.int x3), none]) ⟨.inr rfl, .inr rfl, .inr rfl, .inr rfl, .inr rfl, trivial⟩ ?_
              exact s_canvas_33 C hQ hA hR x1 x2 x3 S  hp
end M_canvas
section M_canvasc
variable {D : va_G} {z : Nat → ClassId} {o : Nat} {ad : Nat → Nat}
set_option maxRecDepth 100000 in
theorem ct_canvas {l : Launch} (x1 : Int32) (x2 : Int32) (x3 : Int32) (S : ms) {K : ms → Prop} (hp : p_canvas x1 x2 x3 S K) : ct gG D z l n_M_canvas c_M_canvas 5 (none) 1 100 [.ref o, .int x1, .int x2, .int x3] [(0, ly_M, (o, ad, S.1, S.2.1, S.2.2))] 0 0 (pM_v K o ad) := by
  refine ct_of (lo := [some (.ref o), some (.int x1), some (.int x2), some (.int x3), none]) (by decide) g_ok (Nat.le_of_ble_eq_true rfl) rfl ?_
  intro X A _ C hR hQ hA _
  exact s_canvas_0 C hQ hA hR x1 x2 x3 S hp
end M_canvasc
def b_isOut_77 (s0 : Int32) (S : ms) (K : Int32 → ms → Prop) : Prop :=
  narrow .boolean (.int s0) = .int s0 ∧ K s0 S
def b_isOut_62 (s1 : Int32) (S : ms) (K : Int32 → ms → Prop) : Prop :=
  (((upd S.1 0 s1) 0) ≤ 0 → (b_isOut_77 0 (upd S.1 0 s1, S.2.1, S.2.2) K)) ∧ (¬ (((upd S.1 0 s1) 0) ≤ 0) → (b_isOut_77 1 (upd S.1 0 s1, S.2.1, S.2.2) K))
def b_isOut_57  (S : ms) (K : Int32 → ms → Prop) : Prop :=
  b_isOut_62 1 S K
def p_isOut (x1 : Int32) (x2 : Int32) (x3 : Int32) (x4 : Int32) (S : ms) (K : Int32 → ms → Prop) : Prop :=
  (x1 < 0 → (b_isOut_57 S K)) ∧ (¬ (x1 < 0) → ((x2 < 0 → (b_isOut_57 S K)) ∧ (¬ (x2 < 0) → ((x3 < 1 → (b_isOut_57 S K)) ∧ (¬ (x3 < 1) → ((x4 < 1 → (b_isOut_57 S K)) ∧ (¬ (x4 < 1) → (((S.1 1) ≤ x1 → (b_isOut_57 S K)) ∧ (¬ ((S.1 1) ≤ x1) → (((S.1 2) ≤ x2 → (b_isOut_57 S K)) ∧ (¬ ((S.1 2) ≤ x2) → ((((S.1 1) - x1) < x3 → (b_isOut_57 S K)) ∧ (¬ (((S.1 1) - x1) < x3) → ((x4 ≤ ((S.1 2) - x2) → (b_isOut_62 0 S K)) ∧ (¬ (x4 ≤ ((S.1 2) - x2)) → (b_isOut_57 S K))))))))))))))))
section M_isOut
variable {D : va_G} {z : Nat → ClassId} {A : Nat → Prop} {X : cx} {L0 : fw} {K : Int32 → ms → Prop} {o : Nat} {ad : Nat → Nat}
set_option maxRecDepth 100000 in
set_option maxHeartbeats 1000000 in
theorem s_isOut_77 (C : fcx gG D z A X R_M c_M_isOut 5 (some .boolean)) (hQ : X.2.2.2.2.2.2.2.2.2.2 = eQ gG D z X.2.2.2.2.2.2.2.1 X.2.2.2.2.1 L0 0 0 (pM_i K o ad)) (hA : A = owA gG L0 X.2.2.2.2.1.heap.size) (hR : X.2.2.2.1 = { frames := 1, cells := 1, slots := 6, locals := 100 }) (s0 : Int32) (S : ms) (hp : b_isOut_77 s0 S K) : aw gG D z A X 5 77 [some (.ref o), none, none, none, none] [.int s0] [(0, ly_M, (o, ad, S.1, S.2.1, S.2.2))] 0 0 := by
  unfold b_isOut_77 at hp
  exact a_iret (ty := .boolean) C hQ hA d_isOut_77 rfl hp.1 ⟨_, S, hp.2, rfl, rfl⟩
set_option maxRecDepth 100000 in
set_option maxHeartbeats 1000000 in
theorem s_isOut_62 (C : fcx gG D z A X R_M c_M_isOut 5 (some .boolean)) (hQ : X.2.2.2.2.2.2.2.2.2.2 = eQ gG D z X.2.2.2.2.2.2.2.1 X.2.2.2.2.1 L0 0 0 (pM_i K o ad)) (hA : A = owA gG L0 X.2.2.2.2.1.heap.size) (hR : X.2.2.2.1 = { frames := 1, cells := 1, slots := 6, locals := 100 }) (s1 : Int32) (S : ms) (hp : b_isOut_62 s1 S K) : aw gG D z A X 5 62 [some (.ref o), none, none, none, none] [.int s1, .ref o] [(0, ly_M, (o, ad, S.1, S.2.1, S.2.2))] 0 0 := by
  unfold b_isOut_62 at hp
  refine a_putI (ty := .int) C 0 0 d_isOut_62 rfl rfl rfl (Nat.le_of_ble_eq_true rfl) f_M_146 (Nat.le_of_ble_eq_true rfl) rfl rfl rfl rfl ?_
  refine aw_eq (lo' := _) (st' := _) (L' := [(0, ly_M, (o, ad, upd S.1 0 s1, S.2.1, S.2.2))]) rfl rfl rfl ?_
  refine a_aload_n C d_isOut_65 rfl rfl ?_
  refine a_getI C 0 0 d_isOut_66 rfl rfl rfl (Nat.le_of_ble_eq_true rfl) f_M_146 (Nat.le_of_ble_eq_true rfl) ?_
  refine a_if_le (tgt := 76) C d_isOut_69 (by decide) ⟨fun hc => ?_, fun hc => ?_⟩
  · have hp := hp.1 hc
    refine a_iconst (v := 0) C d_isOut_76 (by decide) ?_
    refine aw_lo (lo' := [some (.ref o), none, none, none, none]) ⟨.inr rfl, .inr rfl, .inr rfl, .inr rfl, .inr rfl, trivial⟩ ?_
    exact s_isOut_77 C hQ hA hR 0 (upd S.1 0 s1, S.2.1, S.2.2)  hp
  · have hp := hp.2 hc
    refine a_iconst (v := 1) C d_isOut_72 (by decide) ?_
    refine a_goto (tgt := 77) C d_isOut_73 (by decide) ?_
    refine aw_lo (lo' := [some (.ref o), none, none, none, none]) ⟨.inr rfl, .inr rfl, .inr rfl, .inr rfl, .inr rfl, trivial⟩ ?_
    exact s_isOut_77 C hQ hA hR 1 (upd S.1 0 s1, S.2.1, S.2.2)  hp
set_option maxRecDepth 100000 in
set_option maxHeartbeats 1000000 in
theorem s_isOut_57 (C : fcx gG D z A X R_M c_M_isOut 5 (some .boolean)) (hQ : X.2.2.2.2.2.2.2.2.2.2 = eQ gG D z X.2.2.2.2.2.2.2.1 X.2.2.2.2.1 L0 0 0 (pM_i K o ad)) (hA : A = owA gG L0 X.2.2.2.2.1.heap.size) (hR : X.2.2.2.1 = { frames := 1, cells := 1, slots := 6, locals := 100 })  (S : ms) (hp : b_isOut_57  S K) : aw gG D z A X 5 57 [some (.ref o), none, none, none, none] [.ref o] [(0, ly_M, (o, ad, S.1, S.2.1, S.2.2))] 0 0 := by
  unfold b_isOut_57 at hp
  refine a_iconst (v := 1) C d_isOut_57 (by decide) ?_
  refine a_goto (tgt := 62) C d_isOut_58 (by decide) ?_
  refine aw_lo (lo' := [some (.ref o), none, none, none, none]) ⟨.inr rfl, .inr rfl, .inr rfl, .inr rfl, .inr rfl, trivial⟩ ?_
  exact s_isOut_62 C hQ hA hR 1 S  hp
set_option maxRecDepth 100000 in
set_option maxHeartbeats 1000000 in
theorem s_isOut_0 (C : fcx gG D z A X R_M c_M_isOut 5 (some .boolean)) (hQ : X.2.2.2.2.2.2.2.2.2.2 = eQ gG D z X.2.2.2.2.2.2.2.1 X.2.2.2.2.1 L0 0 0 (pM_i K o ad)) (hA : A = owA gG L0 X.2.2.2.2.1.heap.size) (hR : X.2.2.2.1 = { frames := 1, cells := 1, slots := 6, locals := 100 }) (x1 : Int32) (x2 : Int32) (x3 : Int32) (x4 : Int32) (S : ms) (hp : p_isOut x1 x2 x3 x4 S K) : aw gG D z A X 5 0 [some (.ref o), some (.int x1), some (.int x2), some (.int x3), some (.int x4)] [] [(0, ly_M, (o, ad, S.1, S.2.1, S.2.2))] 0 0 := by
  unfold p_isOut at hp
  refine a_aload_n C d_isOut_0 rfl rfl ?_
  refine a_iload_n C d_isOut_1 rfl rfl ?_
  refine a_if_lt (tgt := 57) C d_isOut_2 (by decide) ⟨fun hc => ?_, fun hc => ?_⟩
  · have hp := hp.1 hc
    refine aw_lo (lo' := [some (.ref o), none, none, none, none]) ⟨.inr rfl, .inl rfl, .inl rfl, .inl rfl, .inl rfl, trivial⟩ ?_
    exact s_isOut_57 C hQ hA hR S  hp
  · have hp := hp.2 hc
    refine a_iload_n C d_isOut_5 rfl rfl ?_
    refine a_if_lt (tgt := 57) C d_isOut_6 (by decide) ⟨fun hc => ?_, fun hc => ?_⟩
    · have hp := hp.1 hc
      refine aw_lo (lo' := [some (.ref o), none, none, none, none]) ⟨.inr rfl, .inl rfl, .inl rfl, .inl rfl, .inl rfl, trivial⟩ ?_
      exact s_isOut_57 C hQ hA hR S  hp
    · have hp := hp.2 hc
      refine a_iload_n C d_isOut_9 rfl rfl ?_
      refine a_iconst (v := 1) C d_isOut_10 (by decide) ?_
      refine a_icmp_lt (tgt := 57) C d_isOut_11 (by decide) ⟨fun hc => ?_, fun hc => ?_⟩
      · have hp := hp.1 hc
        refine aw_lo (lo' := [some (.ref o), none, none, none, none]) ⟨.inr rfl, .inl rfl, .inl rfl, .inl rfl, .inl rfl, trivial⟩ ?_
        exact s_isOut_57 C hQ hA hR S  hp
      · have hp := hp.2 hc
        refine a_iload C d_isOut_14 rfl ?_
        refine a_iconst (v := 1) C d_isOut_16 (by decide) ?_
        refine a_icmp_lt (tgt := 57) C d_isOut_17 (by decide) ⟨fun hc => ?_, fun hc => ?_⟩
        · have hp := hp.1 hc
          refine aw_lo (lo' := [some (.ref o), none, none, none, none]) ⟨.inr rfl, .inl rfl, .inl rfl, .inl rfl, .inl rfl, trivial⟩ ?_
          exact s_isOut_57 C hQ hA hR S  hp
        · have hp := hp.2 hc
          refine a_iload_n C d_isOut_20 rfl rfl ?_
          refine a_aload_n C d_isOut_21 rfl rfl ?_
          refine a_getI C 0 1 d_isOut_22 rfl rfl rfl (Nat.le_of_ble_eq_true rfl) f_M_7 (Nat.le_of_ble_eq_true rfl) ?_
          refine a_icmp_ge (tgt := 57) C d_isOut_25 (by decide) ⟨fun hc => ?_, fun hc => ?_⟩
          · have hp := hp.1 hc
            refine aw_lo (lo' := [some (.ref o), none, none, none, none]) ⟨.inr rfl, .inl rfl, .inl rfl, .inl rfl, .inl rfl, trivial⟩ ?_
            exact s_isOut_57 C hQ hA hR S  hp
          · have hp := hp.2 hc
            refine a_iload_n C d_isOut_28 rfl rfl ?_
            refine a_aload_n C d_isOut_29 rfl rfl ?_
            refine a_getI C 0 2 d_isOut_30 rfl rfl rfl (Nat.le_of_ble_eq_true rfl) f_M_13 (Nat.le_of_ble_eq_true rfl) ?_
            refine a_icmp_ge (tgt := 57) C d_isOut_33 (by decide) ⟨fun hc => ?_, fun hc => ?_⟩
            · have hp := hp.1 hc
              refine aw_lo (lo' := [some (.ref o), none, none, none, none]) ⟨.inr rfl, .inl rfl, .inl rfl, .inl rfl, .inl rfl, trivial⟩ ?_
              exact s_isOut_57 C hQ hA hR S  hp
            · have hp := hp.2 hc
              refine a_iload_n C d_isOut_36 rfl rfl ?_
              refine a_aload_n C d_isOut_37 rfl rfl ?_
              refine a_getI C 0 1 d_isOut_38 rfl rfl rfl (Nat.le_of_ble_eq_true rfl) f_M_7 (Nat.le_of_ble_eq_true rfl) ?_
              refine a_iload_n C d_isOut_41 rfl rfl ?_
              refine a_isub C d_isOut_42 ?_
              refine a_icmp_gt (tgt := 57) C d_isOut_43 (by decide) ⟨fun hc => ?_, fun hc => ?_⟩
              · have hp := hp.1 hc
                refine aw_lo (lo' := [some (.ref o), none, none, none, none]) ⟨.inr rfl, .inl rfl, .inl rfl, .inl rfl, .inl rfl, trivial⟩ ?_
                exact s_isOut_57 C hQ hA hR S  hp
              · have hp := hp.2 hc
                refine a_iload C d_isOut_46 rfl ?_
                refine a_aload_n C d_isOut_48 rfl rfl ?_
                refine a_getI C 0 2 d_isOut_49 rfl rfl rfl (Nat.le_of_ble_eq_true rfl) f_M_13 (Nat.le_of_ble_eq_true rfl) ?_
                refine a_iload_n C d_isOut_52 rfl rfl ?_
                refine a_isub C d_isOut_53 ?_
                refine a_icmp_le (tgt := 61) C d_isOut_54 (by decide) ⟨fun hc => ?_, fun hc => ?_⟩
                · have hp := hp.1 hc
                  refine a_iconst (v := 0) C d_isOut_61 (by decide) ?_
                  refine aw_lo (lo' := [some (.ref o), none, none, none, none]) ⟨.inr rfl, .inl rfl, .inl rfl, .inl rfl, .inl rfl, trivial⟩ ?_
                  exact s_isOut_62 C hQ hA hR 0 S  hp
                · have hp := hp.2 hc
                  refine aw_lo (lo' := [some (.ref o), none, none, none, none]) ⟨.inr rfl, .inl rfl, .inl rfl, .inl rfl, .inl rfl, trivial⟩ ?_
                  exact s_isOut_57 C hQ hA hR S  hp
end M_isOut
section M_isOutc
variable {D : va_G} {z : Nat → ClassId} {o : Nat} {ad : Nat → Nat}
set_option maxRecDepth 100000 in
theorem ct_isOut {l : Launch} (x1 : Int32) (x2 : Int32) (x3 : Int32) (x4 : Int32) (S : ms) {K : Int32 → ms → Prop} (hp : p_isOut x1 x2 x3 x4 S K) : ct gG D z l n_M_isOut c_M_isOut 5 (some .boolean) 1 100 [.ref o, .int x1, .int x2, .int x3, .int x4] [(0, ly_M, (o, ad, S.1, S.2.1, S.2.2))] 0 0 (pM_i K o ad) := by
  refine ct_of (lo := [some (.ref o), some (.int x1), some (.int x2), some (.int x3), some (.int x4)]) (by decide) g_ok (Nat.le_of_ble_eq_true rfl) rfl ?_
  intro X A _ C hR hQ hA _
  exact s_isOut_0 C hQ hA hR x1 x2 x3 x4 S hp
end M_isOutc
def b_byteOf_29 (s0 : Int32) (S : ms) (K : Int32 → ms → Prop) : Prop :=
  K s0 S
def p_byteOf (x1 : Int32) (x2 : Int32) (S : ms) (K : Int32 → ms → Prop) : Prop :=
  (¬ (S.1 3) = 1 → (b_byteOf_29 ((x1 >>> ((16 - (8 * x2)) &&& 31 : Int32) : Int32) &&& 255) S K)) ∧ ((S.1 3) = 1 → (b_byteOf_29 (x1 &&& 255) S K))
section M_byteOf
variable {D : va_G} {z : Nat → ClassId} {A : Nat → Prop} {X : cx} {L0 : fw} {K : Int32 → ms → Prop} {o : Nat} {ad : Nat → Nat}
set_option maxRecDepth 100000 in
set_option maxHeartbeats 1000000 in
theorem s_byteOf_29 (C : fcx gG D z A X R_M c_M_byteOf 3 (some .int)) (hQ : X.2.2.2.2.2.2.2.2.2.2 = eQ gG D z X.2.2.2.2.2.2.2.1 X.2.2.2.2.1 L0 0 0 (pM_i K o ad)) (hA : A = owA gG L0 X.2.2.2.2.1.heap.size) (hR : X.2.2.2.1 = { frames := 1, cells := 1, slots := 6, locals := 100 }) (s0 : Int32) (S : ms) (hp : b_byteOf_29 s0 S K) : aw gG D z A X 3 29 [some (.ref o), none, none] [.int s0] [(0, ly_M, (o, ad, S.1, S.2.1, S.2.2))] 0 0 := by
  unfold b_byteOf_29 at hp
  exact a_iret (ty := .int) C hQ hA d_byteOf_29 rfl rfl ⟨_, S, hp, rfl, rfl⟩
set_option maxRecDepth 100000 in
set_option maxHeartbeats 1000000 in
theorem s_byteOf_0 (C : fcx gG D z A X R_M c_M_byteOf 3 (some .int)) (hQ : X.2.2.2.2.2.2.2.2.2.2 = eQ gG D z X.2.2.2.2.2.2.2.1 X.2.2.2.2.1 L0 0 0 (pM_i K o ad)) (hA : A = owA gG L0 X.2.2.2.2.1.heap.size) (hR : X.2.2.2.1 = { frames := 1, cells := 1, slots := 6, locals := 100 }) (x1 : Int32) (x2 : Int32) (S : ms) (hp : p_byteOf x1 x2 S K) : aw gG D z A X 3 0 [some (.ref o), some (.int x1), some (.int x2)] [] [(0, ly_M, (o, ad, S.1, S.2.1, S.2.2))] 0 0 := by
  unfold p_byteOf at hp
  refine a_aload_n C d_byteOf_0 rfl rfl ?_
  refine a_getI C 0 3 d_byteOf_1 rfl rfl rfl (Nat.le_of_ble_eq_true rfl) f_M_16 (Nat.le_of_ble_eq_true rfl) ?_
  refine a_iconst (v := 1) C d_byteOf_4 (by decide) ?_
  refine a_icmp_ne (tgt := 16) C d_byteOf_5 (by decide) ⟨fun hc => ?_, fun hc => ?_⟩
  · have hp := hp.1 hc
    refine a_iload_n C d_byteOf_16 rfl rfl ?_
    refine a_bipush (v := 16) C d_byteOf_17 (by decide) ?_
    refine a_bipush (v := 8) C d_byteOf_19 (by decide) ?_
    refine a_iload_n C d_byteOf_21 rfl rfl ?_
    refine a_imul C d_byteOf_22 ?_
    refine a_isub C d_byteOf_23 ?_
    refine a_ishr C d_byteOf_24 ?_
    refine a_sipush (v := 255) C d_byteOf_25 (by decide) ?_
    refine a_iand C d_byteOf_28 ?_
    refine aw_lo (lo' := [some (.ref o), none, none]) ⟨.inr rfl, .inl rfl, .inl rfl, trivial⟩ ?_
    exact s_byteOf_29 C hQ hA hR ((x1 >>> ((16 - (8 * x2)) &&& 31 : Int32) : Int32) &&& 255) S  hp
  · have hp := hp.2 hc
    refine a_iload_n C d_byteOf_8 rfl rfl ?_
    refine a_sipush (v := 255) C d_byteOf_9 (by decide) ?_
    refine a_iand C d_byteOf_12 ?_
    refine a_goto (tgt := 29) C d_byteOf_13 (by decide) ?_
    refine aw_lo (lo' := [some (.ref o), none, none]) ⟨.inr rfl, .inl rfl, .inl rfl, trivial⟩ ?_
    exact s_byteOf_29 C hQ hA hR (x1 &&& 255) S  hp
end M_byteOf
section M_byteOfc
variable {D : va_G} {z : Nat → ClassId} {o : Nat} {ad : Nat → Nat}
set_option maxRecDepth 100000 in
theorem ct_byteOf {l : Launch} (x1 : Int32) (x2 : Int32) (S : ms) {K : Int32 → ms → Prop} (hp : p_byteOf x1 x2 S K) : ct gG D z l n_M_byteOf c_M_byteOf 3 (some .int) 1 100 [.ref o, .int x1, .int x2] [(0, ly_M, (o, ad, S.1, S.2.1, S.2.2))] 0 0 (pM_i K o ad) := by
  refine ct_of (lo := [some (.ref o), some (.int x1), some (.int x2)]) (by decide) g_ok (Nat.le_of_ble_eq_true rfl) rfl ?_
  intro X A _ C hR hQ hA _
  exact s_byteOf_0 C hQ hA hR x1 x2 S hp
end M_byteOfc
def b_slope_35 (x1 : Int32) (x2 : Int32) (x3 : Int32) (x4 : Int32) (x5 : Int32) (x6 : Int32) (x7 : Int32) (x8 : Int32) (x9 : Int32) (S : ms) (R16 : Int32 → Int32 → Int32 → Int32 → Int32 → Int32 → Int32 → ms → Prop) (R26 : Int32 → Int32 → Int32 → Int32 → Int32 → Int32 → Int32 → Int32 → ms → Prop) (R35 : Int32 → Int32 → Int32 → Int32 → Int32 → Int32 → Int32 → Int32 → Int32 → ms → Prop) (K : ms → Prop) : Prop :=
  ((S.1 3) ≤ x9 → (R26 x1 x2 x3 x4 x5 x6 x7 (x8 + 1) S)) ∧ (¬ ((S.1 3) ≤ x9) → (p_byteOf x5 x9 S (fun v49 S49 => p_cell (x1 + x8) (x2 + x7) x9 (fun v68 => p_byteOf x6 x9 (S49.1, S49.2.1, S49.2.2) (fun v78 S78 => ¬ x3 = 0 ∧ (vp_in v68 12288 ∧ (R35 x1 x2 x3 x4 x5 x6 x7 x8 (x9 + 1) (S78.1, va_up S78.2.1 4 (upd (S78.2.1 4) v68.toNatClampNeg (v49 + (((v78 - v49) * x8) / x3))), S78.2.2))))))))
def e_slope_35 (x1 : Int32) (x2 : Int32) (x3 : Int32) (x4 : Int32) (x5 : Int32) (x6 : Int32) (x7 : Int32) (x8 : Int32) (x9 : Int32) (S : ms) (R16 : Int32 → Int32 → Int32 → Int32 → Int32 → Int32 → Int32 → ms → Prop) (R26 : Int32 → Int32 → Int32 → Int32 → Int32 → Int32 → Int32 → Int32 → ms → Prop) (K : ms → Prop) : Prop :=
  ∃ (I : Int32 → Int32 → Int32 → Int32 → Int32 → Int32 → Int32 → Int32 → Int32 → ms → Prop) (μ : Int32 → Int32 → Int32 → Int32 → Int32 → Int32 → Int32 → Int32 → Int32 → ms → Nat), I x1 x2 x3 x4 x5 x6 x7 x8 x9 S ∧ ∀ yx1 yx2 yx3 yx4 yx5 yx6 yx7 yx8 yx9 yS, I yx1 yx2 yx3 yx4 yx5 yx6 yx7 yx8 yx9 yS → b_slope_35 yx1 yx2 yx3 yx4 yx5 yx6 yx7 yx8 yx9 yS R16 R26 (fun zx1 zx2 zx3 zx4 zx5 zx6 zx7 zx8 zx9 zS => I zx1 zx2 zx3 zx4 zx5 zx6 zx7 zx8 zx9 zS ∧ μ zx1 zx2 zx3 zx4 zx5 zx6 zx7 zx8 zx9 zS < μ yx1 yx2 yx3 yx4 yx5 yx6 yx7 yx8 yx9 yS) K
def b_slope_26 (x1 : Int32) (x2 : Int32) (x3 : Int32) (x4 : Int32) (x5 : Int32) (x6 : Int32) (x7 : Int32) (x8 : Int32) (S : ms) (R16 : Int32 → Int32 → Int32 → Int32 → Int32 → Int32 → Int32 → ms → Prop) (R26 : Int32 → Int32 → Int32 → Int32 → Int32 → Int32 → Int32 → Int32 → ms → Prop) (K : ms → Prop) : Prop :=
  (x3 ≤ x8 → (R16 x1 x2 x3 x4 x5 x6 (x7 + 1) S)) ∧ (¬ (x3 ≤ x8) → (e_slope_35 x1 x2 x3 x4 x5 x6 x7 x8 0 S R16 R26 K))
def e_slope_26 (x1 : Int32) (x2 : Int32) (x3 : Int32) (x4 : Int32) (x5 : Int32) (x6 : Int32) (x7 : Int32) (x8 : Int32) (S : ms) (R16 : Int32 → Int32 → Int32 → Int32 → Int32 → Int32 → Int32 → ms → Prop) (K : ms → Prop) : Prop :=
  ∃ (I : Int32 → Int32 → Int32 → Int32 → Int32 → Int32 → Int32 → Int32 → ms → Prop) (μ : Int32 → Int32 → Int32 → Int32 → Int32 → Int32 → Int32 → Int32 → ms → Nat), I x1 x2 x3 x4 x5 x6 x7 x8 S ∧ ∀ yx1 yx2 yx3 yx4 yx5 yx6 yx7 yx8 yS, I yx1 yx2 yx3 yx4 yx5 yx6 yx7 yx8 yS → b_slope_26 yx1 yx2 yx3 yx4 yx5 yx6 yx7 yx8 yS R16 (fun zx1 zx2 zx3 zx4 zx5 zx6 zx7 zx8 zS => I zx1 zx2 zx3 zx4 zx5 zx6 zx7 zx8 zS ∧ μ zx1 zx2 zx3 zx4 zx5 zx6 zx7 zx8 zS < μ yx1 yx2 yx3 yx4 yx5 yx6 yx7 yx8 yS) K
def b_slope_16 (x1 : Int32) (x2 : Int32) (x3 : Int32) (x4 : Int32) (x5 : Int32) (x6 : Int32) (x7 : Int32) (S : ms) (R16 : Int32 → Int32 → Int32 → Int32 → Int32 → Int32 → Int32 → ms → Prop) (K : ms → Prop) : Prop :=
  (x4 ≤ x7 → (K S)) ∧ (¬ (x4 ≤ x7) → (e_slope_26 x1 x2 x3 x4 x5 x6 x7 0 S R16 K))
def e_slope_16 (x1 : Int32) (x2 : Int32) (x3 : Int32) (x4 : Int32) (x5 : Int32) (x6 : Int32) (x7 : Int32) (S : ms) (K : ms → Prop) : Prop :=
  ∃ (I : Int32 → Int32 → Int32 → Int32 → Int32 → Int32 → Int32 → ms → Prop) (μ : Int32 → Int32 → Int32 → Int32 → Int32 → Int32 → Int32 → ms → Nat), I x1 x2 x3 x4 x5 x6 x7 S ∧ ∀ yx1 yx2 yx3 yx4 yx5 yx6 yx7 yS, I yx1 yx2 yx3 yx4 yx5 yx6 yx7 yS → b_slope_16 yx1 yx2 yx3 yx4 yx5 yx6 yx7 yS (fun zx1 zx2 zx3 zx4 zx5 zx6 zx7 zS => I zx1 zx2 zx3 zx4 zx5 zx6 zx7 zS ∧ μ zx1 zx2 zx3 zx4 zx5 zx6 zx7 zS < μ yx1 yx2 yx3 yx4 yx5 yx6 yx7 yS) K
def p_slope (x1 : Int32) (x2 : Int32) (x3 : Int32) (x4 : Int32) (x5 : Int32) (x6 : Int32) (S : ms) (K : ms → Prop) : Prop :=
  p_isOut x1 x2 x3 x4 S (fun v6 S6 => (v6 = 0 → (e_slope_16 x1 x2 x3 x4 x5 x6 0 (S6.1, S6.2.1, S6.2.2) K)) ∧ (¬ (v6 = 0) → (K (S6.1, S6.2.1, S6.2.2))))
section M_slope
variable {D : va_G} {z : Nat → ClassId} {A : Nat → Prop} {X : cx} {L0 : fw} {K : ms → Prop} {o : Nat} {ad : Nat → Nat}
set_option maxRecDepth 100000 in
set_option maxHeartbeats 1000000 in
theorem s_slope_35 (C : fcx gG D z A X R_M c_M_slope 11 (none)) (hQ : X.2.2.2.2.2.2.2.2.2.2 = eQ gG D z X.2.2.2.2.2.2.2.1 X.2.2.2.2.1 L0 0 0 (pM_v K o ad)) (hA : A = owA gG L0 X.2.2.2.2.1.heap.size) (hR : X.2.2.2.1 = { frames := 2, cells := 1, slots := 6, locals := 200 }) (x1 : Int32) (x2 : Int32) (x3 : Int32) (x4 : Int32) (x5 : Int32) (x6 : Int32) (x7 : Int32) (x8 : Int32) (x9 : Int32) (S : ms) (R16 : Int32 → Int32 → Int32 → Int32 → Int32 → Int32 → Int32 → ms → Prop) (hR16 : ∀ yx1 yx2 yx3 yx4 yx5 yx6 yx7 yS, R16 yx1 yx2 yx3 yx4 yx5 yx6 yx7 yS → aw gG D z A X 11 16 [some (.ref o), some (.int yx1), some (.int yx2), some (.int yx3), some (.int yx4), some (.int yx5), some (.int yx6), some (.int yx7), none, none, none] [] [(0, ly_M, (o, ad, yS.1, yS.2.1, yS.2.2))] 0 0) (R26 : Int32 → Int32 → Int32 → Int32 → Int32 → Int32 → Int32 → Int32 → ms → Prop) (hR26 : ∀ yx1 yx2 yx3 yx4 yx5 yx6 yx7 yx8 yS, R26 yx1 yx2 yx3 yx4 yx5 yx6 yx7 yx8 yS → aw gG D z A X 11 26 [some (.ref o), some (.int yx1), some (.int yx2), some (.int yx3), some (.int yx4), some (.int yx5), some (.int yx6), some (.int yx7), some (.int yx8), none, none] [] [(0, ly_M, (o, ad, yS.1, yS.2.1, yS.2.2))] 0 0) (R35 : Int32 → Int32 → Int32 → Int32 → Int32 → Int32 → Int32 → Int32 → Int32 → ms → Prop) (hR35 : ∀ yx1 yx2 yx3 yx4 yx5 yx6 yx7 yx8 yx9 yS, R35 yx1 yx2 yx3 yx4 yx5 yx6 yx7 yx8 yx9 yS → aw gG D z A X 11 35 [some (.ref o), some (.int yx1), some (.int yx2), some (.int yx3), some (.int yx4), some (.int yx5), some (.int yx6), some (.int yx7), some (.int yx8), some (.int yx9), none] [] [(0, ly_M, (o, ad, yS.1, yS.2.1, yS.2.2))] 0 0) (hp : b_slope_35 x1 x2 x3 x4 x5 x6 x7 x8 x9 S R16 R26 R35 K) : aw gG D z A X 11 35 [some (.ref o), some (.int x1), some (.int x2), some (.int x3), some (.int x4), some (.int x5), some (.int x6), some (.int x7), some (.int x8), some (.int x9), none] [] [(0, ly_M, (o, ad, S.1, S.2.1, S.2.2))] 0 0 := by
  unfold b_slope_35 at hp
  refine a_iload C d_slope_35 rfl ?_
  refine a_aload_n C d_slope_37 rfl rfl ?_
  refine a_getI C 0 3 d_slope_38 rfl rfl rfl (Nat.le_of_ble_eq_true rfl) f_M_16 (Nat.le_of_ble_eq_true rfl) ?_
  refine a_icmp_ge (tgt := 97) C d_slope_41 (by decide) ⟨fun hc => ?_, fun hc => ?_⟩
  · have hp := hp.1 hc
    refine a_iinc (v := x8 + 1) (lo' := [some (.ref o), some (.int x1), some (.int x2), some (.int x3), some (.int x4), some (.int x5), some (.int x6), some (.int x7), some (.int (x8 + 1)), some (.int x9), none]) C d_slope_97 rfl rfl (by decide) rfl ?_
    refine a_goto (tgt := 26) C d_slope_100 (by decide) ?_
    refine aw_lo (lo' := [some (.ref o), some (.int x1), some (.int x2), some (.int x3), some (.int x4), some (.int x5), some (.int x6), some (.int x7), some (.int (x8 + 1)), none, none]) ⟨.inr rfl, .inr rfl, .inr rfl, .inr rfl, .inr rfl, .inr rfl, .inr rfl, .inr rfl, .inr rfl, .inl rfl, .inr rfl, trivial⟩ ?_
    exact hR26 x1 x2 x3 x4 x5 x6 x7 (x8 + 1) S hp
  · have hp := hp.2 hc
    refine a_aload_n C d_slope_44 rfl rfl ?_
    refine a_iload C d_slope_45 rfl ?_
    refine a_iload C d_slope_47 rfl ?_
    refine a_call (Lr := []) (rest := []) (av := .ref o :: [.int x5, .int x9]) C [0] [] d_slope_49 (ct_byteOf x5 x9 S hp) cd_M_byteOf i_M (Nat.le_of_ble_eq_true rfl) (by rw [hR]; exact Nat.le_of_ble_eq_true rfl) (by rw [hR]; exact Nat.le_of_ble_eq_true rfl) (by rw [hR]; exact Nat.le_of_ble_eq_true rfl) (by rw [hR]; exact Nat.le_of_ble_eq_true rfl) rfl rfl (by decide) (by decide) (by decide) (inv_V C 0 d_slope_49 l_M_157 im_M_byteOf se_M_byteOf cd_M_byteOf ⟨by decide, by decide⟩ ln_M_byteOf rfl rfl rfl rfl rfl) (fun oc L1 hL => ?_)
    obtain ⟨v49, S49, hp, rfl, rfl⟩ := hL
    refine ⟨_, rfl, ?_⟩
    refine aw_eq (lo' := _) (st' := [.int v49]) (L' := [(0, ly_M, (o, ad, S49.1, S49.2.1, S49.2.2))]) rfl rfl rfl ?_
    refine a_istore (lo' := [some (.ref o), some (.int x1), some (.int x2), some (.int x3), some (.int x4), some (.int x5), some (.int x6), some (.int x7), some (.int x8), some (.int x9), some (.int v49)]) C d_slope_52 (by decide) rfl ?_
    refine a_aload_n C d_slope_54 rfl rfl ?_
    refine a_getR C 0 4 d_slope_55 rfl rfl rfl (Nat.le_of_ble_eq_true rfl) f_M_19 ⟨Nat.le_of_ble_eq_true rfl, Nat.le_of_ble_eq_true rfl⟩ ?_
    refine a_iload_n C d_slope_58 rfl rfl ?_
    refine a_iload C d_slope_59 rfl ?_
    refine a_iadd C d_slope_61 ?_
    refine a_iload_n C d_slope_62 rfl rfl ?_
    refine a_iload C d_slope_63 rfl ?_
    refine a_iadd C d_slope_65 ?_
    refine a_iload C d_slope_66 rfl ?_
    refine a_call (Lr := [(0, ly_M, (o, ad, S49.1, S49.2.1, S49.2.2))]) (rest := [.ref (ad 4)]) (av := [.int (x1 + x8), .int (x2 + x7), .int x9]) C [] [0] d_slope_68 (ct_cell (x1 + x8) (x2 + x7) x9 hp) cd_M_cell i_M (Nat.le_of_ble_eq_true rfl) (by rw [hR]; exact Nat.le_of_ble_eq_true rfl) (by rw [hR]; exact Nat.le_of_ble_eq_true rfl) (by rw [hR]; exact Nat.le_of_ble_eq_true rfl) (by rw [hR]; exact Nat.le_of_ble_eq_true rfl) rfl rfl (by decide) (by decide) (by decide) (inv_S C d_slope_68 l_M_161 st_M_cell i_M cd_M_cell ⟨by decide, by decide⟩ ln_M_cell rfl) (fun oc L1 hL => ?_)
    obtain ⟨v68, hp, rfl, rfl⟩ := hL
    refine ⟨_, rfl, ?_⟩
    refine aw_eq (lo' := _) (st' := [.int v68, .ref (ad 4)]) (L' := [(0, ly_M, (o, ad, S49.1, S49.2.1, S49.2.2))]) rfl rfl rfl ?_
    refine a_iload C d_slope_71 rfl ?_
    refine a_aload_n C d_slope_73 rfl rfl ?_
    refine a_iload C d_slope_74 rfl ?_
    refine a_iload C d_slope_76 rfl ?_
    refine a_call (Lr := []) (rest := [.int v49, .int v68, .ref (ad 4)]) (av := .ref o :: [.int x6, .int x9]) C [0] [] d_slope_78 (ct_byteOf x6 x9 (S49.1, S49.2.1, S49.2.2) hp) cd_M_byteOf i_M (Nat.le_of_ble_eq_true rfl) (by rw [hR]; exact Nat.le_of_ble_eq_true rfl) (by rw [hR]; exact Nat.le_of_ble_eq_true rfl) (by rw [hR]; exact Nat.le_of_ble_eq_true rfl) (by rw [hR]; exact Nat.le_of_ble_eq_true rfl) rfl rfl (by decide) (by decide) (by decide) (inv_V C 0 d_slope_78 l_M_157 im_M_byteOf se_M_byteOf cd_M_byteOf ⟨by decide, by decide⟩ ln_M_byteOf rfl rfl rfl rfl rfl) (fun oc L1 hL => ?_)
    obtain ⟨v78, S78, hp, rfl, rfl⟩ := hL
    refine ⟨_, rfl, ?_⟩
    refine aw_eq (lo' := _) (st' := [.int v78, .int v49, .int v68, .ref (ad 4)]) (L' := [(0, ly_M, (o, ad, S78.1, S78.2.1, S78.2.2))]) rfl rfl rfl ?_
    refine a_iload C d_slope_81 rfl ?_
    refine a_isub C d_slope_83 ?_
    refine a_iload C d_slope_84 rfl ?_
    refine a_imul C d_slope_86 ?_
    refine a_iload_n C d_slope_87 rfl rfl ?_
    refine a_idiv C d_slope_88 hp.1 ?_
    have hp := hp.2
    refine a_iadd C d_slope_89 ?_
    refine a_iast C 0 4 d_slope_90 rfl rfl rfl hp.1 ?_
    have hp := hp.2
    refine aw_eq (lo' := _) (st' := _) (L' := [(0, ly_M, (o, ad, S78.1, va_up S78.2.1 4 (upd (S78.2.1 4) v68.toNatClampNeg (v49 + (((v78 - v49) * x8) / x3))), S78.2.2))]) rfl rfl rfl ?_
    refine a_iinc (v := x9 + 1) (lo' := [some (.ref o), some (.int x1), some (.int x2), some (.int x3), some (.int x4), some (.int x5), some (.int x6), some (.int x7), some (.int x8), some (.int (x9 + 1)), some (.int v49)]) C d_slope_91 rfl rfl (by decide) rfl ?_
    refine a_goto (tgt := 35) C d_slope_94 (by decide) ?_
    refine aw_lo (lo' := [some (.ref o), some (.int x1), some (.int x2), some (.int x3), some (.int x4), some (.int x5), some (.int x6), some (.int x7), some (.int x8), some (.int (x9 + 1)), none]) ⟨.inr rfl, .inr rfl, .inr rfl, .inr rfl, .inr rfl, .inr rfl, .inr rfl, .inr rfl, .inr rfl, .inr rfl, .inl rfl, trivial⟩ ?_
    exact hR35 x1 x2 x3 x4 x5 x6 x7 x8 (x9 + 1) (S78.1, va_up S78.2.1 4 (upd (S78.2.1 4) v68.toNatClampNeg (v49 + (((v78 - v49) * x8) / x3))), S78.2.2) hp
set_option maxRecDepth 100000 in
set_option maxHeartbeats 1000000 in
theorem se_slope_35 (C : fcx gG D z A X R_M c_M_slope 11 (none)) (hQ : X.2.2.2.2.2.2.2.2.2.2 = eQ gG D z X.2.2.2.2.2.2.2.1 X.2.2.2.2.1 L0 0 0 (pM_v K o ad)) (hA : A = owA gG L0 X.2.2.2.2.1.heap.size) (hR : X.2.2.2.1 = { frames := 2, cells := 1, slots := 6, locals := 200 }) (x1 : Int32) (x2 : Int32) (x3 : Int32) (x4 : Int32) (x5 : Int32) (x6 : Int32) (x7 : Int32) (x8 : Int32) (x9 : Int32) (S : ms) (R16 : Int32 → Int32 → Int32 → Int32 → Int32 → Int32 → Int32 → ms → Prop) (hR16 : ∀ yx1 yx2 yx3 yx4 yx5 yx6 yx7 yS, R16 yx1 yx2 yx3 yx4 yx5 yx6 yx7 yS → aw gG D z A X 11 16 [some (.ref o), some (.int yx1), some (.int yx2), some (.int yx3), some (.int yx4), some (.int yx5), some (.int yx6), some (.int yx7), none, none, none] [] [(0, ly_M, (o, ad, yS.1, yS.2.1, yS.2.2))] 0 0) (R26 : Int32 → Int32 → Int32 → Int32 → Int32 → Int32 → Int32 → Int32 → ms → Prop) (hR26 : ∀ yx1 yx2 yx3 yx4 yx5 yx6 yx7 yx8 yS, R26 yx1 yx2 yx3 yx4 yx5 yx6 yx7 yx8 yS → aw gG D z A X 11 26 [some (.ref o), some (.int yx1), some (.int yx2), some (.int yx3), some (.int yx4), some (.int yx5), some (.int yx6), some (.int yx7), some (.int yx8), none, none] [] [(0, ly_M, (o, ad, yS.1, yS.2.1, yS.2.2))] 0 0) (hp : e_slope_35 x1 x2 x3 x4 x5 x6 x7 x8 x9 S R16 R26 K) : aw gG D z A X 11 35 [some (.ref o), some (.int x1), some (.int x2), some (.int x3), some (.int x4), some (.int x5), some (.int x6), some (.int x7), some (.int x8), some (.int x9), none] [] [(0, ly_M, (o, ad, S.1, S.2.1, S.2.2))] 0 0 := by
  obtain ⟨I, μ, h0, hs⟩ := hp
  have key : ∀ (n : Nat) (yx1 : Int32) (yx2 : Int32) (yx3 : Int32) (yx4 : Int32) (yx5 : Int32) (yx6 : Int32) (yx7 : Int32) (yx8 : Int32) (yx9 : Int32) (yS : ms), μ yx1 yx2 yx3 yx4 yx5 yx6 yx7 yx8 yx9 yS < n → I yx1 yx2 yx3 yx4 yx5 yx6 yx7 yx8 yx9 yS → aw gG D z A X 11 35 [some (.ref o), some (.int yx1), some (.int yx2), some (.int yx3), some (.int yx4), some (.int yx5), some (.int yx6), some (.int yx7), some (.int yx8), some (.int yx9), none] [] [(0, ly_M, (o, ad, yS.1, yS.2.1, yS.2.2))] 0 0 := by
    intro n
    induction n with
    | zero => intro yx1 yx2 yx3 yx4 yx5 yx6 yx7 yx8 yx9 yS h; omega
    | succ n ih =>
      intro yx1 yx2 yx3 yx4 yx5 yx6 yx7 yx8 yx9 yS hn hI
      exact s_slope_35 C hQ hA hR yx1 yx2 yx3 yx4 yx5 yx6 yx7 yx8 yx9 yS R16 hR16 R26 hR26 _ (fun zx1 zx2 zx3 zx4 zx5 zx6 zx7 zx8 zx9 zS hw => ih zx1 zx2 zx3 zx4 zx5 zx6 zx7 zx8 zx9 zS (by omega) hw.1) (hs yx1 yx2 yx3 yx4 yx5 yx6 yx7 yx8 yx9 yS hI)
  exact key (μ x1 x2 x3 x4 x5 x6 x7 x8 x9 S + 1) x1 x2 x3 x4 x5 x6 x7 x8 x9 S (Nat.lt_succ_self _) h0
set_option maxRecDepth 100000 in
set_option maxHeartbeats 1000000 in
theorem s_slope_26 (C : fcx gG D z A X R_M c_M_slope 11 (none)) (hQ : X.2.2.2.2.2.2.2.2.2.2 = eQ gG D z X.2.2.2.2.2.2.2.1 X.2.2.2.2.1 L0 0 0 (pM_v K o ad)) (hA : A = owA gG L0 X.2.2.2.2.1.heap.size) (hR : X.2.2.2.1 = { frames := 2, cells := 1, slots := 6, locals := 200 }) (x1 : Int32) (x2 : Int32) (x3 : Int32) (x4 : Int32) (x5 : Int32) (x6 : Int32) (x7 : Int32) (x8 : Int32) (S : ms) (R16 : Int32 → Int32 → Int32 → Int32 → Int32 → Int32 → Int32 → ms → Prop) (hR16 : ∀ yx1 yx2 yx3 yx4 yx5 yx6 yx7 yS, R16 yx1 yx2 yx3 yx4 yx5 yx6 yx7 yS → aw gG D z A X 11 16 [some (.ref o), some (.int yx1), some (.int yx2), some (.int yx3), some (.int yx4), some (.int yx5), some (.int yx6), some (.int yx7), none, none, none] [] [(0, ly_M, (o, ad, yS.1, yS.2.1, yS.2.2))] 0 0) (R26 : Int32 → Int32 → Int32 → Int32 → Int32 → Int32 → Int32 → Int32 → ms → Prop) (hR26 : ∀ yx1 yx2 yx3 yx4 yx5 yx6 yx7 yx8 yS, R26 yx1 yx2 yx3 yx4 yx5 yx6 yx7 yx8 yS → aw gG D z A X 11 26 [some (.ref o), some (.int yx1), some (.int yx2), some (.int yx3), some (.int yx4), some (.int yx5), some (.int yx6), some (.int yx7), some (.int yx8), none, none] [] [(0, ly_M, (o, ad, yS.1, yS.2.1, yS.2.2))] 0 0) (hp : b_slope_26 x1 x2 x3 x4 x5 x6 x7 x8 S R16 R26 K) : aw gG D z A X 11 26 [some (.ref o), some (.int x1), some (.int x2), some (.int x3), some (.int x4), some (.int x5), some (.int x6), some (.int x7), some (.int x8), none, none] [] [(0, ly_M, (o, ad, S.1, S.2.1, S.2.2))] 0 0 := by
  unfold b_slope_26 at hp
  refine a_iload C d_slope_26 rfl ?_
  refine a_iload_n C d_slope_28 rfl rfl ?_
  refine a_icmp_ge (tgt := 103) C d_slope_29 (by decide) ⟨fun hc => ?_, fun hc => ?_⟩
  · have hp := hp.1 hc
    refine a_iinc (v := x7 + 1) (lo' := [some (.ref o), some (.int x1), some (.int x2), some (.int x3), some (.int x4), some (.int x5), some (.int x6), some (.int (x7 + 1)), some (.int x8), none, none]) C d_slope_103 rfl rfl (by decide) rfl ?_
    refine a_goto (tgt := 16) C d_slope_106 (by decide) ?_
    refine aw_lo (lo' := [some (.ref o), some (.int x1), some (.int x2), some (.int x3), some (.int x4), some (.int x5), some (.int x6), some (.int (x7 + 1)), none, none, none]) ⟨.inr rfl, .inr rfl, .inr rfl, .inr rfl, .inr rfl, .inr rfl, .inr rfl, .inr rfl, .inl rfl, .inr rfl, .inr rfl, trivial⟩ ?_
    exact hR16 x1 x2 x3 x4 x5 x6 (x7 + 1) S hp
  · have hp := hp.2 hc
    refine a_iconst (v := 0) C d_slope_32 (by decide) ?_
    refine a_istore (lo' := [some (.ref o), some (.int x1), some (.int x2), some (.int x3), some (.int x4), some (.int x5), some (.int x6), some (.int x7), some (.int x8), some (.int 0), none]) C d_slope_33 (by decide) rfl ?_
    refine aw_lo (lo' := [some (.ref o), some (.int x1), some (.int x2), some (.int x3), some (.int x4), some (.int x5), some (.int x6), some (.int x7), some (.int x8), some (.int 0), none]) ⟨.inr rfl, .inr rfl, .inr rfl, .inr rfl, .inr rfl, .inr rfl, .inr rfl, .inr rfl, .inr rfl, .inr rfl, .inr rfl, trivial⟩ ?_
    exact se_slope_35 C hQ hA hR x1 x2 x3 x4 x5 x6 x7 x8 0 S R16 hR16 R26 hR26 hp
set_option maxRecDepth 100000 in
set_option maxHeartbeats 1000000 in
theorem se_slope_26 (C : fcx gG D z A X R_M c_M_slope 11 (none)) (hQ : X.2.2.2.2.2.2.2.2.2.2 = eQ gG D z X.2.2.2.2.2.2.2.1 X.2.2.2.2.1 L0 0 0 (pM_v K o ad)) (hA : A = owA gG L0 X.2.2.2.2.1.heap.size) (hR : X.2.2.2.1 = { frames := 2, cells := 1, slots := 6, locals := 200 }) (x1 : Int32) (x2 : Int32) (x3 : Int32) (x4 : Int32) (x5 : Int32) (x6 : Int32) (x7 : Int32) (x8 : Int32) (S : ms) (R16 : Int32 → Int32 → Int32 → Int32 → Int32 → Int32 → Int32 → ms → Prop) (hR16 : ∀ yx1 yx2 yx3 yx4 yx5 yx6 yx7 yS, R16 yx1 yx2 yx3 yx4 yx5 yx6 yx7 yS → aw gG D z A X 11 16 [some (.ref o), some (.int yx1), some (.int yx2), some (.int yx3), some (.int yx4), some (.int yx5), some (.int yx6), some (.int yx7), none, none, none] [] [(0, ly_M, (o, ad, yS.1, yS.2.1, yS.2.2))] 0 0) (hp : e_slope_26 x1 x2 x3 x4 x5 x6 x7 x8 S R16 K) : aw gG D z A X 11 26 [some (.ref o), some (.int x1), some (.int x2), some (.int x3), some (.int x4), some (.int x5), some (.int x6), some (.int x7), some (.int x8), none, none] [] [(0, ly_M, (o, ad, S.1, S.2.1, S.2.2))] 0 0 := by
  obtain ⟨I, μ, h0, hs⟩ := hp
  have key : ∀ (n : Nat) (yx1 : Int32) (yx2 : Int32) (yx3 : Int32) (yx4 : Int32) (yx5 : Int32) (yx6 : Int32) (yx7 : Int32) (yx8 : Int32) (yS : ms), μ yx1 yx2 yx3 yx4 yx5 yx6 yx7 yx8 yS < n → I yx1 yx2 yx3 yx4 yx5 yx6 yx7 yx8 yS → aw gG D z A X 11 26 [some (.ref o), some (.int yx1), some (.int yx2), some (.int yx3), some (.int yx4), some (.int yx5), some (.int yx6), some (.int yx7), some (.int yx8), none, none] [] [(0, ly_M, (o, ad, yS.1, yS.2.1, yS.2.2))] 0 0 := by
    intro n
    induction n with
    | zero => intro yx1 yx2 yx3 yx4 yx5 yx6 yx7 yx8 yS h; omega
    | succ n ih =>
      intro yx1 yx2 yx3 yx4 yx5 yx6 yx7 yx8 yS hn hI
      exact s_slope_26 C hQ hA hR yx1 yx2 yx3 yx4 yx5 yx6 yx7 yx8 yS R16 hR16 _ (fun zx1 zx2 zx3 zx4 zx5 zx6 zx7 zx8 zS hw => ih zx1 zx2 zx3 zx4 zx5 zx6 zx7 zx8 zS (by omega) hw.1) (hs yx1 yx2 yx3 yx4 yx5 yx6 yx7 yx8 yS hI)
  exact key (μ x1 x2 x3 x4 x5 x6 x7 x8 S + 1) x1 x2 x3 x4 x5 x6 x7 x8 S (Nat.lt_succ_self _) h0
set_option maxRecDepth 100000 in
set_option maxHeartbeats 1000000 in
theorem s_slope_16 (C : fcx gG D z A X R_M c_M_slope 11 (none)) (hQ : X.2.2.2.2.2.2.2.2.2.2 = eQ gG D z X.2.2.2.2.2.2.2.1 X.2.2.2.2.1 L0 0 0 (pM_v K o ad)) (hA : A = owA gG L0 X.2.2.2.2.1.heap.size) (hR : X.2.2.2.1 = { frames := 2, cells := 1, slots := 6, locals := 200 }) (x1 : Int32) (x2 : Int32) (x3 : Int32) (x4 : Int32) (x5 : Int32) (x6 : Int32) (x7 : Int32) (S : ms) (R16 : Int32 → Int32 → Int32 → Int32 → Int32 → Int32 → Int32 → ms → Prop) (hR16 : ∀ yx1 yx2 yx3 yx4 yx5 yx6 yx7 yS, R16 yx1 yx2 yx3 yx4 yx5 yx6 yx7 yS → aw gG D z A X 11 16 [some (.ref o), some (.int yx1), some (.int yx2), some (.int yx3), some (.int yx4), some (.int yx5), some (.int yx6), some (.int yx7), none, none, none] [] [(0, ly_M, (o, ad, yS.1, yS.2.1, yS.2.2))] 0 0) (hp : b_slope_16 x1 x2 x3 x4 x5 x6 x7 S R16 K) : aw gG D z A X 11 16 [some (.ref o), some (.int x1), some (.int x2), some (.int x3), some (.int x4), some (.int x5), some (.int x6), some (.int x7), none, none, none] [] [(0, ly_M, (o, ad, S.1, S.2.1, S.2.2))] 0 0 := by
  unfold b_slope_16 at hp
  refine a_iload C d_slope_16 rfl ?_
  refine a_iload C d_slope_18 rfl ?_
  refine a_icmp_ge (tgt := 109) C d_slope_20 (by decide) ⟨fun hc => ?_, fun hc => ?_⟩
  · have hp := hp.1 hc
    exact a_vret C hQ hA d_slope_109 rfl ⟨S, hp, rfl, rfl⟩
  · have hp := hp.2 hc
    refine a_iconst (v := 0) C d_slope_23 (by decide) ?_
    refine a_istore (lo' := [some (.ref o), some (.int x1), some (.int x2), some (.int x3), some (.int x4), some (.int x5), some (.int x6), some (.int x7), some (.int 0), none, none]) C d_slope_24 (by decide) rfl ?_
    refine aw_lo (lo' := [some (.ref o), some (.int x1), some (.int x2), some (.int x3), some (.int x4), some (.int x5), some (.int x6), some (.int x7), some (.int 0), none, none]) ⟨.inr rfl, .inr rfl, .inr rfl, .inr rfl, .inr rfl, .inr rfl, .inr rfl, .inr rfl, .inr rfl, .inr rfl, .inr rfl, trivial⟩ ?_
    exact se_slope_26 C hQ hA hR x1 x2 x3 x4 x5 x6 x7 0 S R16 hR16 hp
set_option maxRecDepth 100000 in
set_option maxHeartbeats 1000000 in
theorem se_slope_16 (C : fcx gG D z A X R_M c_M_slope 11 (none)) (hQ : X.2.2.2.2.2.2.2.2.2.2 = eQ gG D z X.2.2.2.2.2.2.2.1 X.2.2.2.2.1 L0 0 0 (pM_v K o ad)) (hA : A = owA gG L0 X.2.2.2.2.1.heap.size) (hR : X.2.2.2.1 = { frames := 2, cells := 1, slots := 6, locals := 200 }) (x1 : Int32) (x2 : Int32) (x3 : Int32) (x4 : Int32) (x5 : Int32) (x6 : Int32) (x7 : Int32) (S : ms) (hp : e_slope_16 x1 x2 x3 x4 x5 x6 x7 S K) : aw gG D z A X 11 16 [some (.ref o), some (.int x1), some (.int x2), some (.int x3), some (.int x4), some (.int x5), some (.int x6), some (.int x7), none, none, none] [] [(0, ly_M, (o, ad, S.1, S.2.1, S.2.2))] 0 0 := by
  obtain ⟨I, μ, h0, hs⟩ := hp
  have key : ∀ (n : Nat) (yx1 : Int32) (yx2 : Int32) (yx3 : Int32) (yx4 : Int32) (yx5 : Int32) (yx6 : Int32) (yx7 : Int32) (yS : ms), μ yx1 yx2 yx3 yx4 yx5 yx6 yx7 yS < n → I yx1 yx2 yx3 yx4 yx5 yx6 yx7 yS → aw gG D z A X 11 16 [some (.ref o), some (.int yx1), some (.int yx2), some (.int yx3), some (.int yx4), some (.int yx5), some (.int yx6), some (.int yx7), none, none, none] [] [(0, ly_M, (o, ad, yS.1, yS.2.1, yS.2.2))] 0 0 := by
    intro n
    induction n with
    | zero => intro yx1 yx2 yx3 yx4 yx5 yx6 yx7 yS h; omega
    | succ n ih =>
      intro yx1 yx2 yx3 yx4 yx5 yx6 yx7 yS hn hI
      exact s_slope_16 C hQ hA hR yx1 yx2 yx3 yx4 yx5 yx6 yx7 yS _ (fun zx1 zx2 zx3 zx4 zx5 zx6 zx7 zS hw => ih zx1 zx2 zx3 zx4 zx5 zx6 zx7 zS (by omega) hw.1) (hs yx1 yx2 yx3 yx4 yx5 yx6 yx7 yS hI)
  exact key (μ x1 x2 x3 x4 x5 x6 x7 S + 1) x1 x2 x3 x4 x5 x6 x7 S (Nat.lt_succ_self _) h0
set_option maxRecDepth 100000 in
set_option maxHeartbeats 1000000 in
theorem s_slope_0 (C : fcx gG D z A X R_M c_M_slope 11 (none)) (hQ : X.2.2.2.2.2.2.2.2.2.2 = eQ gG D z X.2.2.2.2.2.2.2.1 X.2.2.2.2.1 L0 0 0 (pM_v K o ad)) (hA : A = owA gG L0 X.2.2.2.2.1.heap.size) (hR : X.2.2.2.1 = { frames := 2, cells := 1, slots := 6, locals := 200 }) (x1 : Int32) (x2 : Int32) (x3 : Int32) (x4 : Int32) (x5 : Int32) (x6 : Int32) (S : ms) (hp : p_slope x1 x2 x3 x4 x5 x6 S K) : aw gG D z A X 11 0 [some (.ref o), some (.int x1), some (.int x2), some (.int x3), some (.int x4), some (.int x5), some (.int x6), none, none, none, none] [] [(0, ly_M, (o, ad, S.1, S.2.1, S.2.2))] 0 0 := by
  unfold p_slope at hp
  refine a_aload_n C d_slope_0 rfl rfl ?_
  refine a_iload_n C d_slope_1 rfl rfl ?_
  refine a_iload_n C d_slope_2 rfl rfl ?_
  refine a_iload_n C d_slope_3 rfl rfl ?_
  refine a_iload C d_slope_4 rfl ?_
  refine a_call (Lr := []) (rest := []) (av := .ref o :: [.int x1, .int x2, .int x3, .int x4]) C [0] [] d_slope_6 (ct_isOut x1 x2 x3 x4 S hp) cd_M_isOut i_M (Nat.le_of_ble_eq_true rfl) (by rw [hR]; exact Nat.le_of_ble_eq_true rfl) (by rw [hR]; exact Nat.le_of_ble_eq_true rfl) (by rw [hR]; exact Nat.le_of_ble_eq_true rfl) (by rw [hR]; exact Nat.le_of_ble_eq_true rfl) rfl rfl (by decide) (by decide) (by decide) (inv_V C 0 d_slope_6 l_M_153 im_M_isOut se_M_isOut cd_M_isOut ⟨by decide, by decide⟩ ln_M_isOut rfl rfl rfl rfl rfl) (fun oc L1 hL => ?_)
  obtain ⟨v6, S6, hp, rfl, rfl⟩ := hL
  refine ⟨_, rfl, ?_⟩
  refine aw_eq (lo' := _) (st' := [.int v6]) (L' := [(0, ly_M, (o, ad, S6.1, S6.2.1, S6.2.2))]) rfl rfl rfl ?_
  refine a_if_eq (tgt := 13) C d_slope_9 (by decide) ⟨fun hc => ?_, fun hc => ?_⟩
  · have hp := hp.1 hc
    refine a_iconst (v := 0) C d_slope_13 (by decide) ?_
    refine a_istore (lo' := [some (.ref o), some (.int x1), some (.int x2), some (.int x3), some (.int x4), some (.int x5), some (.int x6), some (.int 0), none, none, none]) C d_slope_14 (by decide) rfl ?_
    refine aw_lo (lo' := [some (.ref o), some (.int x1), some (.int x2), some (.int x3), some (.int x4), some (.int x5), some (.int x6), some (.int 0), none, none, none]) ⟨.inr rfl, .inr rfl, .inr rfl, .inr rfl, .inr rfl, .inr rfl, .inr rfl, .inr rfl, .inr rfl, .inr rfl, .inr rfl, trivial⟩ ?_
    exact se_slope_16 C hQ hA hR x1 x2 x3 x4 x5 x6 0 (S6.1, S6.2.1, S6.2.2)  hp
  · have hp := hp.2 hc
    exact a_vret C hQ hA d_slope_12 rfl ⟨(S6.1, S6.2.1, S6.2.2), hp, rfl, rfl⟩
end M_slope
section M_slopec
variable {D : va_G} {z : Nat → ClassId} {o : Nat} {ad : Nat → Nat}
set_option maxRecDepth 100000 in
theorem ct_slope {l : Launch} (x1 : Int32) (x2 : Int32) (x3 : Int32) (x4 : Int32) (x5 : Int32) (x6 : Int32) (S : ms) {K : ms → Prop} (hp : p_slope x1 x2 x3 x4 x5 x6 S K) : ct gG D z l n_M_slope c_M_slope 11 (none) 2 200 [.ref o, .int x1, .int x2, .int x3, .int x4, .int x5, .int x6] [(0, ly_M, (o, ad, S.1, S.2.1, S.2.2))] 0 0 (pM_v K o ad) := by
  refine ct_of (lo := [some (.ref o), some (.int x1), some (.int x2), some (.int x3), some (.int x4), some (.int x5), some (.int x6), none, none, none, none]) (by decide) g_ok (Nat.le_of_ble_eq_true rfl) rfl ?_
  intro X A _ C hR hQ hA _
  exact s_slope_0 C hQ hA hR x1 x2 x3 x4 x5 x6 S hp
end M_slopec
def p_fill (x1 : Int32) (x2 : Int32) (x3 : Int32) (x4 : Int32) (x5 : Int32) (S : ms) (K : ms → Prop) : Prop :=
  p_slope x1 x2 x3 x4 x5 x5 S (fun S10 => K (S10.1, S10.2.1, S10.2.2))
section M_fill
variable {D : va_G} {z : Nat → ClassId} {A : Nat → Prop} {X : cx} {L0 : fw} {K : ms → Prop} {o : Nat} {ad : Nat → Nat}
set_option maxRecDepth 100000 in
set_option maxHeartbeats 1000000 in
theorem s_fill_0 (C : fcx gG D z A X R_M c_M_fill 6 (none)) (hQ : X.2.2.2.2.2.2.2.2.2.2 = eQ gG D z X.2.2.2.2.2.2.2.1 X.2.2.2.2.1 L0 0 0 (pM_v K o ad)) (hA : A = owA gG L0 X.2.2.2.2.1.heap.size) (hR : X.2.2.2.1 = { frames := 3, cells := 1, slots := 6, locals := 300 }) (x1 : Int32) (x2 : Int32) (x3 : Int32) (x4 : Int32) (x5 : Int32) (S : ms) (hp : p_fill x1 x2 x3 x4 x5 S K) : aw gG D z A X 6 0 [some (.ref o), some (.int x1), some (.int x2), some (.int x3), some (.int x4), some (.int x5)] [] [(0, ly_M, (o, ad, S.1, S.2.1, S.2.2))] 0 0 := by
  unfold p_fill at hp
  refine a_aload_n C d_fill_0 rfl rfl ?_
  refine a_iload_n C d_fill_1 rfl rfl ?_
  refine a_iload_n C d_fill_2 rfl rfl ?_
  refine a_iload_n C d_fill_3 rfl rfl ?_
  refine a_iload C d_fill_4 rfl ?_
  refine a_iload C d_fill_6 rfl ?_
  refine a_iload C d_fill_8 rfl ?_
  refine a_call (Lr := []) (rest := []) (av := .ref o :: [.int x1, .int x2, .int x3, .int x4, .int x5, .int x5]) C [0] [] d_fill_10 (ct_slope x1 x2 x3 x4 x5 x5 S hp) cd_M_slope i_M (Nat.le_of_ble_eq_true rfl) (by rw [hR]; exact Nat.le_of_ble_eq_true rfl) (by rw [hR]; exact Nat.le_of_ble_eq_true rfl) (by rw [hR]; exact Nat.le_of_ble_eq_true rfl) (by rw [hR]; exact Nat.le_of_ble_eq_true rfl) rfl rfl (by decide) (by decide) (by decide) (inv_V C 0 d_fill_10 l_M_149 im_M_slope se_M_slope cd_M_slope ⟨by decide, by decide⟩ ln_M_slope rfl rfl rfl rfl rfl) (fun oc L1 hL => ?_)
  obtain ⟨S10, hp, rfl, rfl⟩ := hL
  refine ⟨_, rfl, ?_⟩
  refine aw_eq (lo' := _) (st' := []) (L' := [(0, ly_M, (o, ad, S10.1, S10.2.1, S10.2.2))]) rfl rfl rfl ?_
  exact a_vret C hQ hA d_fill_13 rfl ⟨(S10.1, S10.2.1, S10.2.2), hp, rfl, rfl⟩
end M_fill
section M_fillc
variable {D : va_G} {z : Nat → ClassId} {o : Nat} {ad : Nat → Nat}
set_option maxRecDepth 100000 in
theorem ct_fill {l : Launch} (x1 : Int32) (x2 : Int32) (x3 : Int32) (x4 : Int32) (x5 : Int32) (S : ms) {K : ms → Prop} (hp : p_fill x1 x2 x3 x4 x5 S K) : ct gG D z l n_M_fill c_M_fill 6 (none) 3 300 [.ref o, .int x1, .int x2, .int x3, .int x4, .int x5] [(0, ly_M, (o, ad, S.1, S.2.1, S.2.2))] 0 0 (pM_v K o ad) := by
  refine ct_of (lo := [some (.ref o), some (.int x1), some (.int x2), some (.int x3), some (.int x4), some (.int x5)]) (by decide) g_ok (Nat.le_of_ble_eq_true rfl) rfl ?_
  intro X A _ C hR hQ hA _
  exact s_fill_0 C hQ hA hR x1 x2 x3 x4 x5 S hp
end M_fillc
def b_at_67 (s0 : Int32) (S : ms) (K : Int32 → ms → Prop) : Prop :=
  K s0 S
def b_at_42 (x1 : Int32) (x2 : Int32) (x3 : Int32) (s1 : Int32) (S : ms) (K : Int32 → ms → Prop) : Prop :=
  (((upd S.1 0 s1) 0) ≤ 0 → (p_cell x1 x2 x3 (fun v63 => vp_in v63 12288 ∧ (b_at_67 (S.2.1 4 v63.toNatClampNeg) (upd S.1 0 s1, S.2.1, S.2.2) K)))) ∧ (¬ (((upd S.1 0 s1) 0) ≤ 0) → (b_at_67 0 (upd S.1 0 s1, S.2.1, S.2.2) K))
def b_at_37 (x1 : Int32) (x2 : Int32) (x3 : Int32) (S : ms) (K : Int32 → ms → Prop) : Prop :=
  b_at_42 x1 x2 x3 1 S K
def p_at (x1 : Int32) (x2 : Int32) (x3 : Int32) (S : ms) (K : Int32 → ms → Prop) : Prop :=
  (x1 < 0 → (b_at_37 x1 x2 x3 S K)) ∧ (¬ (x1 < 0) → (((S.1 1) ≤ x1 → (b_at_37 x1 x2 x3 S K)) ∧ (¬ ((S.1 1) ≤ x1) → ((x2 < 0 → (b_at_37 x1 x2 x3 S K)) ∧ (¬ (x2 < 0) → (((S.1 2) ≤ x2 → (b_at_37 x1 x2 x3 S K)) ∧ (¬ ((S.1 2) ≤ x2) → ((x3 < 0 → (b_at_37 x1 x2 x3 S K)) ∧ (¬ (x3 < 0) → ((x3 < (S.1 3) → (b_at_42 x1 x2 x3 0 S K)) ∧ (¬ (x3 < (S.1 3)) → (b_at_37 x1 x2 x3 S K))))))))))))
section M_at
variable {D : va_G} {z : Nat → ClassId} {A : Nat → Prop} {X : cx} {L0 : fw} {K : Int32 → ms → Prop} {o : Nat} {ad : Nat → Nat}
set_option maxRecDepth 100000 in
set_option maxHeartbeats 1000000 in
theorem s_at_67 (C : fcx gG D z A X R_M c_M_at 4 (some .int)) (hQ : X.2.2.2.2.2.2.2.2.2.2 = eQ gG D z X.2.2.2.2.2.2.2.1 X.2.2.2.2.1 L0 0 0 (pM_i K o ad)) (hA : A = owA gG L0 X.2.2.2.2.1.heap.size) (hR : X.2.2.2.1 = { frames := 2, cells := 1, slots := 6, locals := 200 }) (s0 : Int32) (S : ms) (hp : b_at_67 s0 S K) : aw gG D z A X 4 67 [some (.ref o), none, none, none] [.int s0] [(0, ly_M, (o, ad, S.1, S.2.1, S.2.2))] 0 0 := by
  unfold b_at_67 at hp
  exact a_iret (ty := .int) C hQ hA d_at_67 rfl rfl ⟨_, S, hp, rfl, rfl⟩
set_option maxRecDepth 100000 in
set_option maxHeartbeats 1000000 in
theorem s_at_42 (C : fcx gG D z A X R_M c_M_at 4 (some .int)) (hQ : X.2.2.2.2.2.2.2.2.2.2 = eQ gG D z X.2.2.2.2.2.2.2.1 X.2.2.2.2.1 L0 0 0 (pM_i K o ad)) (hA : A = owA gG L0 X.2.2.2.2.1.heap.size) (hR : X.2.2.2.1 = { frames := 2, cells := 1, slots := 6, locals := 200 }) (x1 : Int32) (x2 : Int32) (x3 : Int32) (s1 : Int32) (S : ms) (hp : b_at_42 x1 x2 x3 s1 S K) : aw gG D z A X 4 42 [some (.ref o), some (.int x1), some (.int x2), some (.int x3)] [.int s1, .ref o] [(0, ly_M, (o, ad, S.1, S.2.1, S.2.2))] 0 0 := by
  unfold b_at_42 at hp
  refine a_putI (ty := .int) C 0 0 d_at_42 rfl rfl rfl (Nat.le_of_ble_eq_true rfl) f_M_146 (Nat.le_of_ble_eq_true rfl) rfl rfl rfl rfl ?_
  refine aw_eq (lo' := _) (st' := _) (L' := [(0, ly_M, (o, ad, upd S.1 0 s1, S.2.1, S.2.2))]) rfl rfl rfl ?_
  refine a_aload_n C d_at_45 rfl rfl ?_
  refine a_getI C 0 0 d_at_46 rfl rfl rfl (Nat.le_of_ble_eq_true rfl) f_M_146 (Nat.le_of_ble_eq_true rfl) ?_
  refine a_if_le (tgt := 56) C d_at_49 (by decide) ⟨fun hc => ?_, fun hc => ?_⟩
  · have hp := hp.1 hc
    refine a_aload_n C d_at_56 rfl rfl ?_
    refine a_getR C 0 4 d_at_57 rfl rfl rfl (Nat.le_of_ble_eq_true rfl) f_M_19 ⟨Nat.le_of_ble_eq_true rfl, Nat.le_of_ble_eq_true rfl⟩ ?_
    refine a_iload_n C d_at_60 rfl rfl ?_
    refine a_iload_n C d_at_61 rfl rfl ?_
    refine a_iload_n C d_at_62 rfl rfl ?_
    refine a_call (Lr := [(0, ly_M, (o, ad, upd S.1 0 s1, S.2.1, S.2.2))]) (rest := [.ref (ad 4)]) (av := [.int x1, .int x2, .int x3]) C [] [0] d_at_63 (ct_cell x1 x2 x3 hp) cd_M_cell i_M (Nat.le_of_ble_eq_true rfl) (by rw [hR]; exact Nat.le_of_ble_eq_true rfl) (by rw [hR]; exact Nat.le_of_ble_eq_true rfl) (by rw [hR]; exact Nat.le_of_ble_eq_true rfl) (by rw [hR]; exact Nat.le_of_ble_eq_true rfl) rfl rfl (by decide) (by decide) (by decide) (inv_S C d_at_63 l_M_161 st_M_cell i_M cd_M_cell ⟨by decide, by decide⟩ ln_M_cell rfl) (fun oc L1 hL => ?_)
    obtain ⟨v63, hp, rfl, rfl⟩ := hL
    refine ⟨_, rfl, ?_⟩
    refine aw_eq (lo' := _) (st' := [.int v63, .ref (ad 4)]) (L' := [(0, ly_M, (o, ad, upd S.1 0 s1, S.2.1, S.2.2))]) rfl rfl rfl ?_
    refine a_iald C 0 4 d_at_66 rfl rfl rfl hp.1 ?_
    have hp := hp.2
    refine aw_lo (lo' := [some (.ref o), none, none, none]) ⟨.inr rfl, .inl rfl, .inl rfl, .inl rfl, trivial⟩ ?_
    exact s_at_67 C hQ hA hR (S.2.1 4 v63.toNatClampNeg) (upd S.1 0 s1, S.2.1, S.2.2)  hp
  · have hp := hp.2 hc
    refine a_iconst (v := 0) C d_at_52 (by decide) ?_
    refine a_goto (tgt := 67) C d_at_53 (by decide) ?_
    refine aw_lo (lo' := [some (.ref o), none, none, none]) ⟨.inr rfl, .inl rfl, .inl rfl, .inl rfl, trivial⟩ ?_
    exact s_at_67 C hQ hA hR 0 (upd S.1 0 s1, S.2.1, S.2.2)  hp
set_option maxRecDepth 100000 in
set_option maxHeartbeats 1000000 in
theorem s_at_37 (C : fcx gG D z A X R_M c_M_at 4 (some .int)) (hQ : X.2.2.2.2.2.2.2.2.2.2 = eQ gG D z X.2.2.2.2.2.2.2.1 X.2.2.2.2.1 L0 0 0 (pM_i K o ad)) (hA : A = owA gG L0 X.2.2.2.2.1.heap.size) (hR : X.2.2.2.1 = { frames := 2, cells := 1, slots := 6, locals := 200 }) (x1 : Int32) (x2 : Int32) (x3 : Int32) (S : ms) (hp : b_at_37 x1 x2 x3 S K) : aw gG D z A X 4 37 [some (.ref o), some (.int x1), some (.int x2), some (.int x3)] [.ref o] [(0, ly_M, (o, ad, S.1, S.2.1, S.2.2))] 0 0 := by
  unfold b_at_37 at hp
  refine a_iconst (v := 1) C d_at_37 (by decide) ?_
  refine a_goto (tgt := 42) C d_at_38 (by decide) ?_
  refine aw_lo (lo' := [some (.ref o), some (.int x1), some (.int x2), some (.int x3)]) ⟨.inr rfl, .inr rfl, .inr rfl, .inr rfl, trivial⟩ ?_
  exact s_at_42 C hQ hA hR x1 x2 x3 1 S  hp
set_option maxRecDepth 100000 in
set_option maxHeartbeats 1000000 in
theorem s_at_0 (C : fcx gG D z A X R_M c_M_at 4 (some .int)) (hQ : X.2.2.2.2.2.2.2.2.2.2 = eQ gG D z X.2.2.2.2.2.2.2.1 X.2.2.2.2.1 L0 0 0 (pM_i K o ad)) (hA : A = owA gG L0 X.2.2.2.2.1.heap.size) (hR : X.2.2.2.1 = { frames := 2, cells := 1, slots := 6, locals := 200 }) (x1 : Int32) (x2 : Int32) (x3 : Int32) (S : ms) (hp : p_at x1 x2 x3 S K) : aw gG D z A X 4 0 [some (.ref o), some (.int x1), some (.int x2), some (.int x3)] [] [(0, ly_M, (o, ad, S.1, S.2.1, S.2.2))] 0 0 := by
  unfold p_at at hp
  refine a_aload_n C d_at_0 rfl rfl ?_
  refine a_iload_n C d_at_1 rfl rfl ?_
  refine a_if_lt (tgt := 37) C d_at_2 (by decide) ⟨fun hc => ?_, fun hc => ?_⟩
  · have hp := hp.1 hc
    refine aw_lo (lo' := [some (.ref o), some (.int x1), some (.int x2), some (.int x3)]) ⟨.inr rfl, .inr rfl, .inr rfl, .inr rfl, trivial⟩ ?_
    exact s_at_37 C hQ hA hR x1 x2 x3 S  hp
  · have hp := hp.2 hc
    refine a_iload_n C d_at_5 rfl rfl ?_
    refine a_aload_n C d_at_6 rfl rfl ?_
    refine a_getI C 0 1 d_at_7 rfl rfl rfl (Nat.le_of_ble_eq_true rfl) f_M_7 (Nat.le_of_ble_eq_true rfl) ?_
    refine a_icmp_ge (tgt := 37) C d_at_10 (by decide) ⟨fun hc => ?_, fun hc => ?_⟩
    · have hp := hp.1 hc
      refine aw_lo (lo' := [some (.ref o), some (.int x1), some (.int x2), some (.int x3)]) ⟨.inr rfl, .inr rfl, .inr rfl, .inr rfl, trivial⟩ ?_
      exact s_at_37 C hQ hA hR x1 x2 x3 S  hp
    · have hp := hp.2 hc
      refine a_iload_n C d_at_13 rfl rfl ?_
      refine a_if_lt (tgt := 37) C d_at_14 (by decide) ⟨fun hc => ?_, fun hc => ?_⟩
      · have hp := hp.1 hc
        refine aw_lo (lo' := [some (.ref o), some (.int x1), some (.int x2), some (.int x3)]) ⟨.inr rfl, .inr rfl, .inr rfl, .inr rfl, trivial⟩ ?_
        exact s_at_37 C hQ hA hR x1 x2 x3 S  hp
      · have hp := hp.2 hc
        refine a_iload_n C d_at_17 rfl rfl ?_
        refine a_aload_n C d_at_18 rfl rfl ?_
        refine a_getI C 0 2 d_at_19 rfl rfl rfl (Nat.le_of_ble_eq_true rfl) f_M_13 (Nat.le_of_ble_eq_true rfl) ?_
        refine a_icmp_ge (tgt := 37) C d_at_22 (by decide) ⟨fun hc => ?_, fun hc => ?_⟩
        · have hp := hp.1 hc
          refine aw_lo (lo' := [some (.ref o), some (.int x1), some (.int x2), some (.int x3)]) ⟨.inr rfl, .inr rfl, .inr rfl, .inr rfl, trivial⟩ ?_
          exact s_at_37 C hQ hA hR x1 x2 x3 S  hp
        · have hp := hp.2 hc
          refine a_iload_n C d_at_25 rfl rfl ?_
          refine a_if_lt (tgt := 37) C d_at_26 (by decide) ⟨fun hc => ?_, fun hc => ?_⟩
          · have hp := hp.1 hc
            refine aw_lo (lo' := [some (.ref o), some (.int x1), some (.int x2), some (.int x3)]) ⟨.inr rfl, .inr rfl, .inr rfl, .inr rfl, trivial⟩ ?_
            exact s_at_37 C hQ hA hR x1 x2 x3 S  hp
          · have hp := hp.2 hc
            refine a_iload_n C d_at_29 rfl rfl ?_
            refine a_aload_n C d_at_30 rfl rfl ?_
            refine a_getI C 0 3 d_at_31 rfl rfl rfl (Nat.le_of_ble_eq_true rfl) f_M_16 (Nat.le_of_ble_eq_true rfl) ?_
            refine a_icmp_lt (tgt := 41) C d_at_34 (by decide) ⟨fun hc => ?_, fun hc => ?_⟩
            · have hp := hp.1 hc
              refine a_iconst (v := 0) C d_at_41 (by decide) ?_
              refine aw_lo (lo' := [some (.ref o), some (.int x1), some (.int x2), some (.int x3)]) ⟨.inr rfl, .inr rfl, .inr rfl, .inr rfl, trivial⟩ ?_
              exact s_at_42 C hQ hA hR x1 x2 x3 0 S  hp
            · have hp := hp.2 hc
              refine aw_lo (lo' := [some (.ref o), some (.int x1), some (.int x2), some (.int x3)]) ⟨.inr rfl, .inr rfl, .inr rfl, .inr rfl, trivial⟩ ?_
              exact s_at_37 C hQ hA hR x1 x2 x3 S  hp
end M_at
section M_atc
variable {D : va_G} {z : Nat → ClassId} {o : Nat} {ad : Nat → Nat}
set_option maxRecDepth 100000 in
theorem ct_at {l : Launch} (x1 : Int32) (x2 : Int32) (x3 : Int32) (S : ms) {K : Int32 → ms → Prop} (hp : p_at x1 x2 x3 S K) : ct gG D z l n_M_at c_M_at 4 (some .int) 2 200 [.ref o, .int x1, .int x2, .int x3] [(0, ly_M, (o, ad, S.1, S.2.1, S.2.2))] 0 0 (pM_i K o ad) := by
  refine ct_of (lo := [some (.ref o), some (.int x1), some (.int x2), some (.int x3)]) (by decide) g_ok (Nat.le_of_ble_eq_true rfl) rfl ?_
  intro X A _ C hR hQ hA _
  exact s_at_0 C hQ hA hR x1 x2 x3 S hp
end M_atc
def b_scale_124  (S : ms) (K : ms → Prop) : Prop :=
  K S
def b_scale_117 (x1 : Int32) (x2 : Int32) (x3 : Int32) (x4 : Int32) (s1 : Int32) (s2 : Int32) (S : ms) (R49 : Int32 → Int32 → Int32 → Int32 → ms → Prop) (K : ms → Prop) : Prop :=
  vp_in s1 128 ∧ (R49 x1 x2 x3 (x4 + 1) (S.1, va_up S.2.1 5 (upd (S.2.1 5) s1.toNatClampNeg s2), S.2.2))
def b_scale_49 (x1 : Int32) (x2 : Int32) (x3 : Int32) (x4 : Int32) (S : ms) (R49 : Int32 → Int32 → Int32 → Int32 → ms → Prop) (K : ms → Prop) : Prop :=
  (64 ≤ x4 → (b_scale_124 S K)) ∧ (¬ (64 ≤ x4) → ((¬ (S.1 0) = 0 → (b_scale_124 S K)) ∧ ((S.1 0) = 0 → ((1 ≤ (x2 + (x3 * ((x4 / 8) + (x4 - x4 / 8 * 8)))) → (((x2 + (x3 * ((x4 / 8) + (x4 - x4 / 8 * 8)))) ≤ 255 → (b_scale_117 x1 x2 x3 x4 ((64 * x1) + x4) (x2 + (x3 * ((x4 / 8) + (x4 - x4 / 8 * 8)))) S R49 K)) ∧ (¬ ((x2 + (x3 * ((x4 / 8) + (x4 - x4 / 8 * 8)))) ≤ 255) → (b_scale_117 x1 x2 x3 x4 ((64 * x1) + x4) 255 S R49 K)))) ∧ (¬ (1 ≤ (x2 + (x3 * ((x4 / 8) + (x4 - x4 / 8 * 8))))) → (b_scale_117 x1 x2 x3 x4 ((64 * x1) + x4) 1 S R49 K))))))
def e_scale_49 (x1 : Int32) (x2 : Int32) (x3 : Int32) (x4 : Int32) (S : ms) (K : ms → Prop) : Prop :=
  ∃ (I : Int32 → Int32 → Int32 → Int32 → ms → Prop) (μ : Int32 → Int32 → Int32 → Int32 → ms → Nat), I x1 x2 x3 x4 S ∧ ∀ yx1 yx2 yx3 yx4 yS, I yx1 yx2 yx3 yx4 yS → b_scale_49 yx1 yx2 yx3 yx4 yS (fun zx1 zx2 zx3 zx4 zS => I zx1 zx2 zx3 zx4 zS ∧ μ zx1 zx2 zx3 zx4 zS < μ yx1 yx2 yx3 yx4 yS) K
def b_scale_43 (x1 : Int32) (x2 : Int32) (x3 : Int32) (s1 : Int32) (S : ms) (K : ms → Prop) : Prop :=
  e_scale_49 x1 x2 x3 0 (upd S.1 0 s1, S.2.1, S.2.2) K
def b_scale_38 (x1 : Int32) (x2 : Int32) (x3 : Int32) (S : ms) (K : ms → Prop) : Prop :=
  b_scale_43 x1 x2 x3 1 S K
def b_scale_10 (x1 : Int32) (x2 : Int32) (x3 : Int32) (S : ms) (K : ms → Prop) : Prop :=
  (x2 < (-1000) → (b_scale_38 x1 x2 x3 S K)) ∧ (¬ (x2 < (-1000)) → ((1000 < x2 → (b_scale_38 x1 x2 x3 S K)) ∧ (¬ (1000 < x2) → ((x3 < (-1000) → (b_scale_38 x1 x2 x3 S K)) ∧ (¬ (x3 < (-1000)) → ((x3 ≤ 1000 → (b_scale_43 x1 x2 x3 0 S K)) ∧ (¬ (x3 ≤ 1000) → (b_scale_38 x1 x2 x3 S K))))))))
def p_scale (x1 : Int32) (x2 : Int32) (x3 : Int32) (S : ms) (K : ms → Prop) : Prop :=
  (x1 = 0 → (b_scale_10 x1 x2 x3 S K)) ∧ (¬ (x1 = 0) → ((¬ x1 = 1 → (b_scale_38 x1 x2 x3 S K)) ∧ (x1 = 1 → (b_scale_10 x1 x2 x3 S K))))
section M_scale
variable {D : va_G} {z : Nat → ClassId} {A : Nat → Prop} {X : cx} {L0 : fw} {K : ms → Prop} {o : Nat} {ad : Nat → Nat}
set_option maxRecDepth 100000 in
set_option maxHeartbeats 1000000 in
theorem s_scale_124 (C : fcx gG D z A X R_M c_M_scale 6 (none)) (hQ : X.2.2.2.2.2.2.2.2.2.2 = eQ gG D z X.2.2.2.2.2.2.2.1 X.2.2.2.2.1 L0 0 0 (pM_v K o ad)) (hA : A = owA gG L0 X.2.2.2.2.1.heap.size) (hR : X.2.2.2.1 = { frames := 1, cells := 1, slots := 6, locals := 100 })  (S : ms) (hp : b_scale_124  S K) : aw gG D z A X 6 124 [some (.ref o), none, none, none, none, none] [] [(0, ly_M, (o, ad, S.1, S.2.1, S.2.2))] 0 0 := by
  unfold b_scale_124 at hp
  exact a_vret C hQ hA d_scale_124 rfl ⟨S, hp, rfl, rfl⟩
set_option maxRecDepth 100000 in
set_option maxHeartbeats 1000000 in
theorem s_scale_117 (C : fcx gG D z A X R_M c_M_scale 6 (none)) (hQ : X.2.2.2.2.2.2.2.2.2.2 = eQ gG D z X.2.2.2.2.2.2.2.1 X.2.2.2.2.1 L0 0 0 (pM_v K o ad)) (hA : A = owA gG L0 X.2.2.2.2.1.heap.size) (hR : X.2.2.2.1 = { frames := 1, cells := 1, slots := 6, locals := 100 }) (x1 : Int32) (x2 : Int32) (x3 : Int32) (x4 : Int32) (s1 : Int32) (s2 : Int32) (S : ms) (R49 : Int32 → Int32 → Int32 → Int32 → ms → Prop) (hR49 : ∀ yx1 yx2 yx3 yx4 yS, R49 yx1 yx2 yx3 yx4 yS → aw gG D z A X 6 49 [some (.ref o), some (.int yx1), some (.int yx2), some (.int yx3), some (.int yx4), none] [] [(0, ly_M, (o, ad, yS.1, yS.2.1, yS.2.2))] 0 0) (hp : b_scale_117 x1 x2 x3 x4 s1 s2 S R49 K) : aw gG D z A X 6 117 [some (.ref o), some (.int x1), some (.int x2), some (.int x3), some (.int x4), none] [.int s2, .int s1, .ref (ad 5)] [(0, ly_M, (o, ad, S.1, S.2.1, S.2.2))] 0 0 := by
  unfold b_scale_117 at hp
  refine a_iast C 0 5 d_scale_117 rfl rfl rfl hp.1 ?_
  have hp := hp.2
  refine aw_eq (lo' := _) (st' := _) (L' := [(0, ly_M, (o, ad, S.1, va_up S.2.1 5 (upd (S.2.1 5) s1.toNatClampNeg s2), S.2.2))]) rfl rfl rfl ?_
  refine a_iinc (v := x4 + 1) (lo' := [some (.ref o), some (.int x1), some (.int x2), some (.int x3), some (.int (x4 + 1)), none]) C d_scale_118 rfl rfl (by decide) rfl ?_
  refine a_goto (tgt := 49) C d_scale_121 (by decide) ?_
  refine aw_lo (lo' := [some (.ref o), some (.int x1), some (.int x2), some (.int x3), some (.int (x4 + 1)), none]) ⟨.inr rfl, .inr rfl, .inr rfl, .inr rfl, .inr rfl, .inr rfl, trivial⟩ ?_
  exact hR49 x1 x2 x3 (x4 + 1) (S.1, va_up S.2.1 5 (upd (S.2.1 5) s1.toNatClampNeg s2), S.2.2) hp
set_option maxRecDepth 100000 in
set_option maxHeartbeats 1000000 in
theorem s_scale_49 (C : fcx gG D z A X R_M c_M_scale 6 (none)) (hQ : X.2.2.2.2.2.2.2.2.2.2 = eQ gG D z X.2.2.2.2.2.2.2.1 X.2.2.2.2.1 L0 0 0 (pM_v K o ad)) (hA : A = owA gG L0 X.2.2.2.2.1.heap.size) (hR : X.2.2.2.1 = { frames := 1, cells := 1, slots := 6, locals := 100 }) (x1 : Int32) (x2 : Int32) (x3 : Int32) (x4 : Int32) (S : ms) (R49 : Int32 → Int32 → Int32 → Int32 → ms → Prop) (hR49 : ∀ yx1 yx2 yx3 yx4 yS, R49 yx1 yx2 yx3 yx4 yS → aw gG D z A X 6 49 [some (.ref o), some (.int yx1), some (.int yx2), some (.int yx3), some (.int yx4), none] [] [(0, ly_M, (o, ad, yS.1, yS.2.1, yS.2.2))] 0 0) (hp : b_scale_49 x1 x2 x3 x4 S R49 K) : aw gG D z A X 6 49 [some (.ref o), some (.int x1), some (.int x2), some (.int x3), some (.int x4), none] [] [(0, ly_M, (o, ad, S.1, S.2.1, S.2.2))] 0 0 := by
  unfold b_scale_49 at hp
  refine a_iload C d_scale_49 rfl ?_
  refine a_bipush (v := 64) C d_scale_51 (by decide) ?_
  refine a_icmp_ge (tgt := 124) C d_scale_53 (by decide) ⟨fun hc => ?_, fun hc => ?_⟩
  · have hp := hp.1 hc
    refine aw_lo (lo' := [some (.ref o), none, none, none, none, none]) ⟨.inr rfl, .inl rfl, .inl rfl, .inl rfl, .inl rfl, .inr rfl, trivial⟩ ?_
    exact s_scale_124 C hQ hA hR S  hp
  · have hp := hp.2 hc
    refine a_aload_n C d_scale_56 rfl rfl ?_
    refine a_getI C 0 0 d_scale_57 rfl rfl rfl (Nat.le_of_ble_eq_true rfl) f_M_146 (Nat.le_of_ble_eq_true rfl) ?_
    refine a_if_ne (tgt := 124) C d_scale_60 (by decide) ⟨fun hc => ?_, fun hc => ?_⟩
    · have hp := hp.1 hc
      refine aw_lo (lo' := [some (.ref o), none, none, none, none, none]) ⟨.inr rfl, .inl rfl, .inl rfl, .inl rfl, .inl rfl, .inr rfl, trivial⟩ ?_
      exact s_scale_124 C hQ hA hR S  hp
    · have hp := hp.2 hc
      refine a_iload_n C d_scale_63 rfl rfl ?_
      refine a_iload_n C d_scale_64 rfl rfl ?_
      refine a_iload C d_scale_65 rfl ?_
      refine a_bipush (v := 8) C d_scale_67 (by decide) ?_
      refine a_idiv C d_scale_69 (by decide) ?_
      refine a_iload C d_scale_70 rfl ?_
      refine a_bipush (v := 8) C d_scale_72 (by decide) ?_
      refine a_irem C d_scale_74 (by decide) ?_
      refine a_iadd C d_scale_75 ?_
      refine a_imul C d_scale_76 ?_
      refine a_iadd C d_scale_77 ?_
      refine a_istore (lo' := [some (.ref o), some (.int x1), some (.int x2), some (.int x3), some (.int x4), some (.int (x2 + (x3 * ((x4 / 8) + (x4 - x4 / 8 * 8)))))]) C d_scale_78 (by decide) rfl ?_
      refine a_aload_n C d_scale_80 rfl rfl ?_
      refine a_getR C 0 5 d_scale_81 rfl rfl rfl (Nat.le_of_ble_eq_true rfl) f_M_23 ⟨Nat.le_of_ble_eq_true rfl, Nat.le_of_ble_eq_true rfl⟩ ?_
      refine a_bipush (v := 64) C d_scale_84 (by decide) ?_
      refine a_iload_n C d_scale_86 rfl rfl ?_
      refine a_imul C d_scale_87 ?_
      refine a_iload C d_scale_88 rfl ?_
      refine a_iadd C d_scale_90 ?_
      refine a_iload C d_scale_91 rfl ?_
      refine a_iconst (v := 1) C d_scale_93 (by decide) ?_
      refine a_icmp_ge (tgt := 101) C d_scale_94 (by decide) ⟨fun hc => ?_, fun hc => ?_⟩
      · have hp := hp.1 hc
        refine a_iload C d_scale_101 rfl ?_
        refine a_sipush (v := 255) C d_scale_103 (by decide) ?_
        refine a_icmp_le (tgt := 115) C d_scale_106 (by decide) ⟨fun hc => ?_, fun hc => ?_⟩
        · have hp := hp.1 hc
          refine a_iload C d_scale_115 rfl ?_
          refine aw_lo (lo' := [some (.ref o), some (.int x1), some (.int x2), some (.int x3), some (.int x4), none]) ⟨.inr rfl, .inr rfl, .inr rfl, .inr rfl, .inr rfl, .inl rfl, trivial⟩ ?_
          exact s_scale_117 C hQ hA hR x1 x2 x3 x4 ((64 * x1) + x4) (x2 + (x3 * ((x4 / 8) + (x4 - x4 / 8 * 8)))) S R49 hR49 hp
        · have hp := hp.2 hc
          refine a_sipush (v := 255) C d_scale_109 (by decide) ?_
          refine a_goto (tgt := 117) C d_scale_112 (by decide) ?_
          refine aw_lo (lo' := [some (.ref o), some (.int x1), some (.int x2), some (.int x3), some (.int x4), none]) ⟨.inr rfl, .inr rfl, .inr rfl, .inr rfl, .inr rfl, .inl rfl, trivial⟩ ?_
          exact s_scale_117 C hQ hA hR x1 x2 x3 x4 ((64 * x1) + x4) 255 S R49 hR49 hp
      · have hp := hp.2 hc
        refine a_iconst (v := 1) C d_scale_97 (by decide) ?_
        refine a_goto (tgt := 117) C d_scale_98 (by decide) ?_
        refine aw_lo (lo' := [some (.ref o), some (.int x1), some (.int x2), some (.int x3), some (.int x4), none]) ⟨.inr rfl, .inr rfl, .inr rfl, .inr rfl, .inr rfl, .inl rfl, trivial⟩ ?_
        exact s_scale_117 C hQ hA hR x1 x2 x3 x4 ((64 * x1) + x4) 1 S R49 hR49 hp
set_option maxRecDepth 100000 in
set_option maxHeartbeats 1000000 in
theorem se_scale_49 (C : fcx gG D z A X R_M c_M_scale 6 (none)) (hQ : X.2.2.2.2.2.2.2.2.2.2 = eQ gG D z X.2.2.2.2.2.2.2.1 X.2.2.2.2.1 L0 0 0 (pM_v K o ad)) (hA : A = owA gG L0 X.2.2.2.2.1.heap.size) (hR : X.2.2.2.1 = { frames := 1, cells := 1, slots := 6, locals := 100 }) (x1 : Int32) (x2 : Int32) (x3 : Int32) (x4 : Int32) (S : ms) (hp : e_scale_49 x1 x2 x3 x4 S K) : aw gG D z A X 6 49 [some (.ref o), some (.int x1), some (.int x2), some (.int x3), some (.int x4), none] [] [(0, ly_M, (o, ad, S.1, S.2.1, S.2.2))] 0 0 := by
  obtain ⟨I, μ, h0, hs⟩ := hp
  have key : ∀ (n : Nat) (yx1 : Int32) (yx2 : Int32) (yx3 : Int32) (yx4 : Int32) (yS : ms), μ yx1 yx2 yx3 yx4 yS < n → I yx1 yx2 yx3 yx4 yS → aw gG D z A X 6 49 [some (.ref o), some (.int yx1), some (.int yx2), some (.int yx3), some (.int yx4), none] [] [(0, ly_M, (o, ad, yS.1, yS.2.1, yS.2.2))] 0 0 := by
    intro n
    induction n with
    | zero => intro yx1 yx2 yx3 yx4 yS h; omega
    | succ n ih =>
      intro yx1 yx2 yx3 yx4 yS hn hI
      exact s_scale_49 C hQ hA hR yx1 yx2 yx3 yx4 yS _ (fun zx1 zx2 zx3 zx4 zS hw => ih zx1 zx2 zx3 zx4 zS (by omega) hw.1) (hs yx1 yx2 yx3 yx4 yS hI)
  exact key (μ x1 x2 x3 x4 S + 1) x1 x2 x3 x4 S (Nat.lt_succ_self _) h0
set_option maxRecDepth 100000 in
set_option maxHeartbeats 1000000 in
theorem s_scale_43 (C : fcx gG D z A X R_M c_M_scale 6 (none)) (hQ : X.2.2.2.2.2.2.2.2.2.2 = eQ gG D z X.2.2.2.2.2.2.2.1 X.2.2.2.2.1 L0 0 0 (pM_v K o ad)) (hA : A = owA gG L0 X.2.2.2.2.1.heap.size) (hR : X.2.2.2.1 = { frames := 1, cells := 1, slots := 6, locals := 100 }) (x1 : Int32) (x2 : Int32) (x3 : Int32) (s1 : Int32) (S : ms) (hp : b_scale_43 x1 x2 x3 s1 S K) : aw gG D z A X 6 43 [some (.ref o), some (.int x1), some (.int x2), some (.int x3), none, none] [.int s1, .ref o] [(0, ly_M, (o, ad, S.1, S.2.1, S.2.2))] 0 0 := by
  unfold b_scale_43 at hp
  refine a_putI (ty := .int) C 0 0 d_scale_43 rfl rfl rfl (Nat.le_of_ble_eq_true rfl) f_M_146 (Nat.le_of_ble_eq_true rfl) rfl rfl rfl rfl ?_
  refine aw_eq (lo' := _) (st' := _) (L' := [(0, ly_M, (o, ad, upd S.1 0 s1, S.2.1, S.2.2))]) rfl rfl rfl ?_
  refine a_iconst (v := 0) C d_scale_46 (by decide) ?_
  refine a_istore (lo' := [some (.ref o), some (.int x1), some (.int x2), some (.int x3), some (.int 0), none]) C d_scale_47 (by decide) rfl ?_
  refine aw_lo (lo' := [some (.ref o), some (.int x1), some (.int x2), some (.int x3), some (.int 0), none]) ⟨.inr rfl, .inr rfl, .inr rfl, .inr rfl, .inr rfl, .inr rfl, trivial⟩ ?_
  exact se_scale_49 C hQ hA hR x1 x2 x3 0 (upd S.1 0 s1, S.2.1, S.2.2)  hp
set_option maxRecDepth 100000 in
set_option maxHeartbeats 1000000 in
theorem s_scale_38 (C : fcx gG D z A X R_M c_M_scale 6 (none)) (hQ : X.2.2.2.2.2.2.2.2.2.2 = eQ gG D z X.2.2.2.2.2.2.2.1 X.2.2.2.2.1 L0 0 0 (pM_v K o ad)) (hA : A = owA gG L0 X.2.2.2.2.1.heap.size) (hR : X.2.2.2.1 = { frames := 1, cells := 1, slots := 6, locals := 100 }) (x1 : Int32) (x2 : Int32) (x3 : Int32) (S : ms) (hp : b_scale_38 x1 x2 x3 S K) : aw gG D z A X 6 38 [some (.ref o), some (.int x1), some (.int x2), some (.int x3), none, none] [.ref o] [(0, ly_M, (o, ad, S.1, S.2.1, S.2.2))] 0 0 := by
  unfold b_scale_38 at hp
  refine a_iconst (v := 1) C d_scale_38 (by decide) ?_
  refine a_goto (tgt := 43) C d_scale_39 (by decide) ?_
  refine aw_lo (lo' := [some (.ref o), some (.int x1), some (.int x2), some (.int x3), none, none]) ⟨.inr rfl, .inr rfl, .inr rfl, .inr rfl, .inr rfl, .inr rfl, trivial⟩ ?_
  exact s_scale_43 C hQ hA hR x1 x2 x3 1 S  hp
set_option maxRecDepth 100000 in
set_option maxHeartbeats 1000000 in
theorem s_scale_10 (C : fcx gG D z A X R_M c_M_scale 6 (none)) (hQ : X.2.2.2.2.2.2.2.2.2.2 = eQ gG D z X.2.2.2.2.2.2.2.1 X.2.2.2.2.1 L0 0 0 (pM_v K o ad)) (hA : A = owA gG L0 X.2.2.2.2.1.heap.size) (hR : X.2.2.2.1 = { frames := 1, cells := 1, slots := 6, locals := 100 }) (x1 : Int32) (x2 : Int32) (x3 : Int32) (S : ms) (hp : b_scale_10 x1 x2 x3 S K) : aw gG D z A X 6 10 [some (.ref o), some (.int x1), some (.int x2), some (.int x3), none, none] [.ref o] [(0, ly_M, (o, ad, S.1, S.2.1, S.2.2))] 0 0 := by
  unfold b_scale_10 at hp
  refine a_iload_n C d_scale_10 rfl rfl ?_
  refine a_sipush (v := (-1000)) C d_scale_11 (by decide) ?_
  refine a_icmp_lt (tgt := 38) C d_scale_14 (by decide) ⟨fun hc => ?_, fun hc => ?_⟩
  · have hp := hp.1 hc
    refine aw_lo (lo' := [some (.ref o), some (.int x1), some (.int x2), some (.int x3), none, none]) ⟨.inr rfl, .inr rfl, .inr rfl, .inr rfl, .inr rfl, .inr rfl, trivial⟩ ?_
    exact s_scale_38 C hQ hA hR x1 x2 x3 S  hp
  · have hp := hp.2 hc
    refine a_iload_n C d_scale_17 rfl rfl ?_
    refine a_sipush (v := 1000) C d_scale_18 (by decide) ?_
    refine a_icmp_gt (tgt := 38) C d_scale_21 (by decide) ⟨fun hc => ?_, fun hc => ?_⟩
    · have hp := hp.1 hc
      refine aw_lo (lo' := [some (.ref o), some (.int x1), some (.int x2), some (.int x3), none, none]) ⟨.inr rfl, .inr rfl, .inr rfl, .inr rfl, .inr rfl, .inr rfl, trivial⟩ ?_
      exact s_scale_38 C hQ hA hR x1 x2 x3 S  hp
    · have hp := hp.2 hc
      refine a_iload_n C d_scale_24 rfl rfl ?_
      refine a_sipush (v := (-1000)) C d_scale_25 (by decide) ?_
      refine a_icmp_lt (tgt := 38) C d_scale_28 (by decide) ⟨fun hc => ?_, fun hc => ?_⟩
      · have hp := hp.1 hc
        refine aw_lo (lo' := [some (.ref o), some (.int x1), some (.int x2), some (.int x3), none, none]) ⟨.inr rfl, .inr rfl, .inr rfl, .inr rfl, .inr rfl, .inr rfl, trivial⟩ ?_
        exact s_scale_38 C hQ hA hR x1 x2 x3 S  hp
      · have hp := hp.2 hc
        refine a_iload_n C d_scale_31 rfl rfl ?_
        refine a_sipush (v := 1000) C d_scale_32 (by decide) ?_
        refine a_icmp_le (tgt := 42) C d_scale_35 (by decide) ⟨fun hc => ?_, fun hc => ?_⟩
        · have hp := hp.1 hc
          refine a_iconst (v := 0) C d_scale_42 (by decide) ?_
          refine aw_lo (lo' := [some (.ref o), some (.int x1), some (.int x2), some (.int x3), none, none]) ⟨.inr rfl, .inr rfl, .inr rfl, .inr rfl, .inr rfl, .inr rfl, trivial⟩ ?_
          exact s_scale_43 C hQ hA hR x1 x2 x3 0 S  hp
        · have hp := hp.2 hc
          refine aw_lo (lo' := [some (.ref o), some (.int x1), some (.int x2), some (.int x3), none, none]) ⟨.inr rfl, .inr rfl, .inr rfl, .inr rfl, .inr rfl, .inr rfl, trivial⟩ ?_
          exact s_scale_38 C hQ hA hR x1 x2 x3 S  hp
set_option maxRecDepth 100000 in
set_option maxHeartbeats 1000000 in
theorem s_scale_0 (C : fcx gG D z A X R_M c_M_scale 6 (none)) (hQ : X.2.2.2.2.2.2.2.2.2.2 = eQ gG D z X.2.2.2.2.2.2.2.1 X.2.2.2.2.1 L0 0 0 (pM_v K o ad)) (hA : A = owA gG L0 X.2.2.2.2.1.heap.size) (hR : X.2.2.2.1 = { frames := 1, cells := 1, slots := 6, locals := 100 }) (x1 : Int32) (x2 : Int32) (x3 : Int32) (S : ms) (hp : p_scale x1 x2 x3 S K) : aw gG D z A X 6 0 [some (.ref o), some (.int x1), some (.int x2), some (.int x3), none, none] [] [(0, ly_M, (o, ad, S.1, S.2.1, S.2.2))] 0 0 := by
  unfold p_scale at hp
  refine a_aload_n C d_scale_0 rfl rfl ?_
  refine a_iload_n C d_scale_1 rfl rfl ?_
  refine a_if_eq (tgt := 10) C d_scale_2 (by decide) ⟨fun hc => ?_, fun hc => ?_⟩
  · have hp := hp.1 hc
    refine aw_lo (lo' := [some (.ref o), some (.int x1), some (.int x2), some (.int x3), none, none]) ⟨.inr rfl, .inr rfl, .inr rfl, .inr rfl, .inr rfl, .inr rfl, trivial⟩ ?_
    exact s_scale_10 C hQ hA hR x1 x2 x3 S  hp
  · have hp := hp.2 hc
    refine a_iload_n C d_scale_5 rfl rfl ?_
    refine a_iconst (v := 1) C d_scale_6 (by decide) ?_
    refine a_icmp_ne (tgt := 38) C d_scale_7 (by decide) ⟨fun hc => ?_, fun hc => ?_⟩
    · have hp := hp.1 hc
      refine aw_lo (lo' := [some (.ref o), some (.int x1), some (.int x2), some (.int x3), none, none]) ⟨.inr rfl, .inr rfl, .inr rfl, .inr rfl, .inr rfl, .inr rfl, trivial⟩ ?_
      exact s_scale_38 C hQ hA hR x1 x2 x3 S  hp
    · have hp := hp.2 hc
      refine aw_lo (lo' := [some (.ref o), some (.int x1), some (.int x2), some (.int x3), none, none]) ⟨.inr rfl, .inr rfl, .inr rfl, .inr rfl, .inr rfl, .inr rfl, trivial⟩ ?_
      exact s_scale_10 C hQ hA hR x1 x2 x3 S  hp
end M_scale
section M_scalec
variable {D : va_G} {z : Nat → ClassId} {o : Nat} {ad : Nat → Nat}
set_option maxRecDepth 100000 in
theorem ct_scale {l : Launch} (x1 : Int32) (x2 : Int32) (x3 : Int32) (S : ms) {K : ms → Prop} (hp : p_scale x1 x2 x3 S K) : ct gG D z l n_M_scale c_M_scale 6 (none) 1 100 [.ref o, .int x1, .int x2, .int x3] [(0, ly_M, (o, ad, S.1, S.2.1, S.2.2))] 0 0 (pM_v K o ad) := by
  refine ct_of (lo := [some (.ref o), some (.int x1), some (.int x2), some (.int x3), none, none]) (by decide) g_ok (Nat.le_of_ble_eq_true rfl) rfl ?_
  intro X A _ C hR hQ hA _
  exact s_scale_0 C hQ hA hR x1 x2 x3 S hp
end M_scalec
def b_entry_81  (S : ms) (K : ms → Prop) : Prop :=
  K S
def b_entry_53 (x1 : Int32) (x2 : Int32) (x3 : Int32) (x4 : Int32) (s1 : Int32) (S : ms) (K : ms → Prop) : Prop :=
  (¬ ((upd S.1 0 s1) 0) = 0 → (b_entry_81 (upd S.1 0 s1, S.2.1, S.2.2) K)) ∧ (((upd S.1 0 s1) 0) = 0 → (vp_in (((64 * x1) + (8 * x2)) + x3) 128 ∧ (b_entry_81 (upd S.1 0 s1, va_up S.2.1 5 (upd (S.2.1 5) (((64 * x1) + (8 * x2)) + x3).toNatClampNeg x4), S.2.2) K)))
def b_entry_48 (x1 : Int32) (x2 : Int32) (x3 : Int32) (x4 : Int32) (S : ms) (K : ms → Prop) : Prop :=
  b_entry_53 x1 x2 x3 x4 2 S K
def b_entry_34 (x1 : Int32) (x2 : Int32) (x3 : Int32) (x4 : Int32) (S : ms) (K : ms → Prop) : Prop :=
  (x4 < 1 → (b_entry_48 x1 x2 x3 x4 S K)) ∧ (¬ (x4 < 1) → ((x4 ≤ 255 → (b_entry_53 x1 x2 x3 x4 0 S K)) ∧ (¬ (x4 ≤ 255) → (b_entry_48 x1 x2 x3 x4 S K))))
def b_entry_21 (x1 : Int32) (x2 : Int32) (x3 : Int32) (x4 : Int32) (S : ms) (K : ms → Prop) : Prop :=
  b_entry_53 x1 x2 x3 x4 1 S K
def p_entry (x1 : Int32) (x2 : Int32) (x3 : Int32) (x4 : Int32) (S : ms) (K : ms → Prop) : Prop :=
  (x2 < 0 → (b_entry_21 x1 x2 x3 x4 S K)) ∧ (¬ (x2 < 0) → ((7 < x2 → (b_entry_21 x1 x2 x3 x4 S K)) ∧ (¬ (7 < x2) → ((x3 < 0 → (b_entry_21 x1 x2 x3 x4 S K)) ∧ (¬ (x3 < 0) → ((x3 ≤ 7 → ((x1 = 0 → (b_entry_34 x1 x2 x3 x4 S K)) ∧ (¬ (x1 = 0) → ((¬ x1 = 1 → (b_entry_48 x1 x2 x3 x4 S K)) ∧ (x1 = 1 → (b_entry_34 x1 x2 x3 x4 S K)))))) ∧ (¬ (x3 ≤ 7) → (b_entry_21 x1 x2 x3 x4 S K))))))))
section M_entry
variable {D : va_G} {z : Nat → ClassId} {A : Nat → Prop} {X : cx} {L0 : fw} {K : ms → Prop} {o : Nat} {ad : Nat → Nat}
set_option maxRecDepth 100000 in
set_option maxHeartbeats 1000000 in
theorem s_entry_81 (C : fcx gG D z A X R_M c_M_entry 5 (none)) (hQ : X.2.2.2.2.2.2.2.2.2.2 = eQ gG D z X.2.2.2.2.2.2.2.1 X.2.2.2.2.1 L0 0 0 (pM_v K o ad)) (hA : A = owA gG L0 X.2.2.2.2.1.heap.size) (hR : X.2.2.2.1 = { frames := 1, cells := 1, slots := 6, locals := 100 })  (S : ms) (hp : b_entry_81  S K) : aw gG D z A X 5 81 [some (.ref o), none, none, none, none] [] [(0, ly_M, (o, ad, S.1, S.2.1, S.2.2))] 0 0 := by
  unfold b_entry_81 at hp
  exact a_vret C hQ hA d_entry_81 rfl ⟨S, hp, rfl, rfl⟩
set_option maxRecDepth 100000 in
set_option maxHeartbeats 1000000 in
theorem s_entry_53 (C : fcx gG D z A X R_M c_M_entry 5 (none)) (hQ : X.2.2.2.2.2.2.2.2.2.2 = eQ gG D z X.2.2.2.2.2.2.2.1 X.2.2.2.2.1 L0 0 0 (pM_v K o ad)) (hA : A = owA gG L0 X.2.2.2.2.1.heap.size) (hR : X.2.2.2.1 = { frames := 1, cells := 1, slots := 6, locals := 100 }) (x1 : Int32) (x2 : Int32) (x3 : Int32) (x4 : Int32) (s1 : Int32) (S : ms) (hp : b_entry_53 x1 x2 x3 x4 s1 S K) : aw gG D z A X 5 53 [some (.ref o), some (.int x1), some (.int x2), some (.int x3), some (.int x4)] [.int s1, .ref o] [(0, ly_M, (o, ad, S.1, S.2.1, S.2.2))] 0 0 := by
  unfold b_entry_53 at hp
  refine a_putI (ty := .int) C 0 0 d_entry_53 rfl rfl rfl (Nat.le_of_ble_eq_true rfl) f_M_146 (Nat.le_of_ble_eq_true rfl) rfl rfl rfl rfl ?_
  refine aw_eq (lo' := _) (st' := _) (L' := [(0, ly_M, (o, ad, upd S.1 0 s1, S.2.1, S.2.2))]) rfl rfl rfl ?_
  refine a_aload_n C d_entry_56 rfl rfl ?_
  refine a_getI C 0 0 d_entry_57 rfl rfl rfl (Nat.le_of_ble_eq_true rfl) f_M_146 (Nat.le_of_ble_eq_true rfl) ?_
  refine a_if_ne (tgt := 81) C d_entry_60 (by decide) ⟨fun hc => ?_, fun hc => ?_⟩
  · have hp := hp.1 hc
    refine aw_lo (lo' := [some (.ref o), none, none, none, none]) ⟨.inr rfl, .inl rfl, .inl rfl, .inl rfl, .inl rfl, trivial⟩ ?_
    exact s_entry_81 C hQ hA hR (upd S.1 0 s1, S.2.1, S.2.2)  hp
  · have hp := hp.2 hc
    refine a_aload_n C d_entry_63 rfl rfl ?_
    refine a_getR C 0 5 d_entry_64 rfl rfl rfl (Nat.le_of_ble_eq_true rfl) f_M_23 ⟨Nat.le_of_ble_eq_true rfl, Nat.le_of_ble_eq_true rfl⟩ ?_
    refine a_bipush (v := 64) C d_entry_67 (by decide) ?_
    refine a_iload_n C d_entry_69 rfl rfl ?_
    refine a_imul C d_entry_70 ?_
    refine a_bipush (v := 8) C d_entry_71 (by decide) ?_
    refine a_iload_n C d_entry_73 rfl rfl ?_
    refine a_imul C d_entry_74 ?_
    refine a_iadd C d_entry_75 ?_
    refine a_iload_n C d_entry_76 rfl rfl ?_
    refine a_iadd C d_entry_77 ?_
    refine a_iload C d_entry_78 rfl ?_
    refine a_iast C 0 5 d_entry_80 rfl rfl rfl hp.1 ?_
    have hp := hp.2
    refine aw_eq (lo' := _) (st' := _) (L' := [(0, ly_M, (o, ad, upd S.1 0 s1, va_up S.2.1 5 (upd (S.2.1 5) (((64 * x1) + (8 * x2)) + x3).toNatClampNeg x4), S.2.2))]) rfl rfl rfl ?_
    refine aw_lo (lo' := [some (.ref o), none, none, none, none]) ⟨.inr rfl, .inl rfl, .inl rfl, .inl rfl, .inl rfl, trivial⟩ ?_
    exact s_entry_81 C hQ hA hR (upd S.1 0 s1, va_up S.2.1 5 (upd (S.2.1 5) (((64 * x1) + (8 * x2)) + x3).toNatClampNeg x4), S.2.2)  hp
set_option maxRecDepth 100000 in
set_option maxHeartbeats 1000000 in
theorem s_entry_48 (C : fcx gG D z A X R_M c_M_entry 5 (none)) (hQ : X.2.2.2.2.2.2.2.2.2.2 = eQ gG D z X.2.2.2.2.2.2.2.1 X.2.2.2.2.1 L0 0 0 (pM_v K o ad)) (hA : A = owA gG L0 X.2.2.2.2.1.heap.size) (hR : X.2.2.2.1 = { frames := 1, cells := 1, slots := 6, locals := 100 }) (x1 : Int32) (x2 : Int32) (x3 : Int32) (x4 : Int32) (S : ms) (hp : b_entry_48 x1 x2 x3 x4 S K) : aw gG D z A X 5 48 [some (.ref o), some (.int x1), some (.int x2), some (.int x3), some (.int x4)] [.ref o] [(0, ly_M, (o, ad, S.1, S.2.1, S.2.2))] 0 0 := by
  unfold b_entry_48 at hp
  refine a_iconst (v := 2) C d_entry_48 (by decide) ?_
  refine a_goto (tgt := 53) C d_entry_49 (by decide) ?_
  refine aw_lo (lo' := [some (.ref o), some (.int x1), some (.int x2), some (.int x3), some (.int x4)]) ⟨.inr rfl, .inr rfl, .inr rfl, .inr rfl, .inr rfl, trivial⟩ ?_
  exact s_entry_53 C hQ hA hR x1 x2 x3 x4 2 S  hp
set_option maxRecDepth 100000 in
set_option maxHeartbeats 1000000 in
theorem s_entry_34 (C : fcx gG D z A X R_M c_M_entry 5 (none)) (hQ : X.2.2.2.2.2.2.2.2.2.2 = eQ gG D z X.2.2.2.2.2.2.2.1 X.2.2.2.2.1 L0 0 0 (pM_v K o ad)) (hA : A = owA gG L0 X.2.2.2.2.1.heap.size) (hR : X.2.2.2.1 = { frames := 1, cells := 1, slots := 6, locals := 100 }) (x1 : Int32) (x2 : Int32) (x3 : Int32) (x4 : Int32) (S : ms) (hp : b_entry_34 x1 x2 x3 x4 S K) : aw gG D z A X 5 34 [some (.ref o), some (.int x1), some (.int x2), some (.int x3), some (.int x4)] [.ref o] [(0, ly_M, (o, ad, S.1, S.2.1, S.2.2))] 0 0 := by
  unfold b_entry_34 at hp
  refine a_iload C d_entry_34 rfl ?_
  refine a_iconst (v := 1) C d_entry_36 (by decide) ?_
  refine a_icmp_lt (tgt := 48) C d_entry_37 (by decide) ⟨fun hc => ?_, fun hc => ?_⟩
  · have hp := hp.1 hc
    refine aw_lo (lo' := [some (.ref o), some (.int x1), some (.int x2), some (.int x3), some (.int x4)]) ⟨.inr rfl, .inr rfl, .inr rfl, .inr rfl, .inr rfl, trivial⟩ ?_
    exact s_entry_48 C hQ hA hR x1 x2 x3 x4 S  hp
  · have hp := hp.2 hc
    refine a_iload C d_entry_40 rfl ?_
    refine a_sipush (v := 255) C d_entry_42 (by decide) ?_
    refine a_icmp_le (tgt := 52) C d_entry_45 (by decide) ⟨fun hc => ?_, fun hc => ?_⟩
    · have hp := hp.1 hc
      refine a_iconst (v := 0) C d_entry_52 (by decide) ?_
      refine aw_lo (lo' := [some (.ref o), some (.int x1), some (.int x2), some (.int x3), some (.int x4)]) ⟨.inr rfl, .inr rfl, .inr rfl, .inr rfl, .inr rfl, trivial⟩ ?_
      exact s_entry_53 C hQ hA hR x1 x2 x3 x4 0 S  hp
    · have hp := hp.2 hc
      refine aw_lo (lo' := [some (.ref o), some (.int x1), some (.int x2), some (.int x3), some (.int x4)]) ⟨.inr rfl, .inr rfl, .inr rfl, .inr rfl, .inr rfl, trivial⟩ ?_
      exact s_entry_48 C hQ hA hR x1 x2 x3 x4 S  hp
set_option maxRecDepth 100000 in
set_option maxHeartbeats 1000000 in
theorem s_entry_21 (C : fcx gG D z A X R_M c_M_entry 5 (none)) (hQ : X.2.2.2.2.2.2.2.2.2.2 = eQ gG D z X.2.2.2.2.2.2.2.1 X.2.2.2.2.1 L0 0 0 (pM_v K o ad)) (hA : A = owA gG L0 X.2.2.2.2.1.heap.size) (hR : X.2.2.2.1 = { frames := 1, cells := 1, slots := 6, locals := 100 }) (x1 : Int32) (x2 : Int32) (x3 : Int32) (x4 : Int32) (S : ms) (hp : b_entry_21 x1 x2 x3 x4 S K) : aw gG D z A X 5 21 [some (.ref o), some (.int x1), some (.int x2), some (.int x3), some (.int x4)] [.ref o] [(0, ly_M, (o, ad, S.1, S.2.1, S.2.2))] 0 0 := by
  unfold b_entry_21 at hp
  refine a_iconst (v := 1) C d_entry_21 (by decide) ?_
  refine a_goto (tgt := 53) C d_entry_22 (by decide) ?_
  refine aw_lo (lo' := [some (.ref o), some (.int x1), some (.int x2), some (.int x3), some (.int x4)]) ⟨.inr rfl, .inr rfl, .inr rfl, .inr rfl, .inr rfl, trivial⟩ ?_
  exact s_entry_53 C hQ hA hR x1 x2 x3 x4 1 S  hp
set_option maxRecDepth 100000 in
set_option maxHeartbeats 1000000 in
theorem s_entry_0 (C : fcx gG D z A X R_M c_M_entry 5 (none)) (hQ : X.2.2.2.2.2.2.2.2.2.2 = eQ gG D z X.2.2.2.2.2.2.2.1 X.2.2.2.2.1 L0 0 0 (pM_v K o ad)) (hA : A = owA gG L0 X.2.2.2.2.1.heap.size) (hR : X.2.2.2.1 = { frames := 1, cells := 1, slots := 6, locals := 100 }) (x1 : Int32) (x2 : Int32) (x3 : Int32) (x4 : Int32) (S : ms) (hp : p_entry x1 x2 x3 x4 S K) : aw gG D z A X 5 0 [some (.ref o), some (.int x1), some (.int x2), some (.int x3), some (.int x4)] [] [(0, ly_M, (o, ad, S.1, S.2.1, S.2.2))] 0 0 := by
  unfold p_entry at hp
  refine a_aload_n C d_entry_0 rfl rfl ?_
  refine a_iload_n C d_entry_1 rfl rfl ?_
  refine a_if_lt (tgt := 21) C d_entry_2 (by decide) ⟨fun hc => ?_, fun hc => ?_⟩
  · have hp := hp.1 hc
    refine aw_lo (lo' := [some (.ref o), some (.int x1), some (.int x2), some (.int x3), some (.int x4)]) ⟨.inr rfl, .inr rfl, .inr rfl, .inr rfl, .inr rfl, trivial⟩ ?_
    exact s_entry_21 C hQ hA hR x1 x2 x3 x4 S  hp
  · have hp := hp.2 hc
    refine a_iload_n C d_entry_5 rfl rfl ?_
    refine a_bipush (v := 7) C d_entry_6 (by decide) ?_
    refine a_icmp_gt (tgt := 21) C d_entry_8 (by decide) ⟨fun hc => ?_, fun hc => ?_⟩
    · have hp := hp.1 hc
      refine aw_lo (lo' := [some (.ref o), some (.int x1), some (.int x2), some (.int x3), some (.int x4)]) ⟨.inr rfl, .inr rfl, .inr rfl, .inr rfl, .inr rfl, trivial⟩ ?_
      exact s_entry_21 C hQ hA hR x1 x2 x3 x4 S  hp
    · have hp := hp.2 hc
      refine a_iload_n C d_entry_11 rfl rfl ?_
      refine a_if_lt (tgt := 21) C d_entry_12 (by decide) ⟨fun hc => ?_, fun hc => ?_⟩
      · have hp := hp.1 hc
        refine aw_lo (lo' := [some (.ref o), some (.int x1), some (.int x2), some (.int x3), some (.int x4)]) ⟨.inr rfl, .inr rfl, .inr rfl, .inr rfl, .inr rfl, trivial⟩ ?_
        exact s_entry_21 C hQ hA hR x1 x2 x3 x4 S  hp
      · have hp := hp.2 hc
        refine a_iload_n C d_entry_15 rfl rfl ?_
        refine a_bipush (v := 7) C d_entry_16 (by decide) ?_
        refine a_icmp_le (tgt := 25) C d_entry_18 (by decide) ⟨fun hc => ?_, fun hc => ?_⟩
        · have hp := hp.1 hc
          refine a_iload_n C d_entry_25 rfl rfl ?_
          refine a_if_eq (tgt := 34) C d_entry_26 (by decide) ⟨fun hc => ?_, fun hc => ?_⟩
          · have hp := hp.1 hc
            refine aw_lo (lo' := [some (.ref o), some (.int x1), some (.int x2), some (.int x3), some (.int x4)]) ⟨.inr rfl, .inr rfl, .inr rfl, .inr rfl, .inr rfl, trivial⟩ ?_
            exact s_entry_34 C hQ hA hR x1 x2 x3 x4 S  hp
          · have hp := hp.2 hc
            refine a_iload_n C d_entry_29 rfl rfl ?_
            refine a_iconst (v := 1) C d_entry_30 (by decide) ?_
            refine a_icmp_ne (tgt := 48) C d_entry_31 (by decide) ⟨fun hc => ?_, fun hc => ?_⟩
            · have hp := hp.1 hc
              refine aw_lo (lo' := [some (.ref o), some (.int x1), some (.int x2), some (.int x3), some (.int x4)]) ⟨.inr rfl, .inr rfl, .inr rfl, .inr rfl, .inr rfl, trivial⟩ ?_
              exact s_entry_48 C hQ hA hR x1 x2 x3 x4 S  hp
            · have hp := hp.2 hc
              refine aw_lo (lo' := [some (.ref o), some (.int x1), some (.int x2), some (.int x3), some (.int x4)]) ⟨.inr rfl, .inr rfl, .inr rfl, .inr rfl, .inr rfl, trivial⟩ ?_
              exact s_entry_34 C hQ hA hR x1 x2 x3 x4 S  hp
        · have hp := hp.2 hc
          refine aw_lo (lo' := [some (.ref o), some (.int x1), some (.int x2), some (.int x3), some (.int x4)]) ⟨.inr rfl, .inr rfl, .inr rfl, .inr rfl, .inr rfl, trivial⟩ ?_
          exact s_entry_21 C hQ hA hR x1 x2 x3 x4 S  hp
end M_entry
section M_entryc
variable {D : va_G} {z : Nat → ClassId} {o : Nat} {ad : Nat → Nat}
set_option maxRecDepth 100000 in
theorem ct_entry {l : Launch} (x1 : Int32) (x2 : Int32) (x3 : Int32) (x4 : Int32) (S : ms) {K : ms → Prop} (hp : p_entry x1 x2 x3 x4 S K) : ct gG D z l n_M_entry c_M_entry 5 (none) 1 100 [.ref o, .int x1, .int x2, .int x3, .int x4] [(0, ly_M, (o, ad, S.1, S.2.1, S.2.2))] 0 0 (pM_v K o ad) := by
  refine ct_of (lo := [some (.ref o), some (.int x1), some (.int x2), some (.int x3), some (.int x4)]) (by decide) g_ok (Nat.le_of_ble_eq_true rfl) rfl ?_
  intro X A _ C hR hQ hA _
  exact s_entry_0 C hQ hA hR x1 x2 x3 x4 S hp
end M_entryc
def b_toWeights_120 (x1 : Int32) (x2 : Int32) (x3 : Int64) (x5 : Int32) (S : ms) (R99 : Int32 → ms → Prop) (R107 : Int32 → Int32 → ms → Prop) (R120 : Int32 → Int32 → Int64 → Int32 → ms → Prop) (K : ms → Prop) : Prop :=
  (8 ≤ x5 → (vp_in ((8 * x2) + x1) 64 ∧ (R107 x1 (x2 + 1) (S.1, va_up S.2.1 25 (upd (S.2.1 25) ((8 * x2) + x1).toNatClampNeg ((x3 >>> ((17 : Int32).toInt64 &&& 63 : Int64) : Int64).toInt32)), S.2.2)))) ∧ (¬ (8 ≤ x5) → (vp_in ((8 * x5) + x2) 64 ∧ (vp_in ((8 * x5) + x1) 64 ∧ (R120 x1 x2 (x3 + (((S.2.1 23 ((8 * x5) + x2).toNatClampNeg).toInt64) * (S.2.2 24 ((8 * x5) + x1).toNatClampNeg))) (x5 + 1) S))))
def e_toWeights_120 (x1 : Int32) (x2 : Int32) (x3 : Int64) (x5 : Int32) (S : ms) (R99 : Int32 → ms → Prop) (R107 : Int32 → Int32 → ms → Prop) (K : ms → Prop) : Prop :=
  ∃ (I : Int32 → Int32 → Int64 → Int32 → ms → Prop) (μ : Int32 → Int32 → Int64 → Int32 → ms → Nat), I x1 x2 x3 x5 S ∧ ∀ yx1 yx2 yx3 yx5 yS, I yx1 yx2 yx3 yx5 yS → b_toWeights_120 yx1 yx2 yx3 yx5 yS R99 R107 (fun zx1 zx2 zx3 zx5 zS => I zx1 zx2 zx3 zx5 zS ∧ μ zx1 zx2 zx3 zx5 zS < μ yx1 yx2 yx3 yx5 yS) K
def b_toWeights_107 (x1 : Int32) (x2 : Int32) (S : ms) (R99 : Int32 → ms → Prop) (R107 : Int32 → Int32 → ms → Prop) (K : ms → Prop) : Prop :=
  (8 ≤ x2 → (R99 (x1 + 1) S)) ∧ (¬ (8 ≤ x2) → (e_toWeights_120 x1 x2 65536 0 S R99 R107 K))
def e_toWeights_107 (x1 : Int32) (x2 : Int32) (S : ms) (R99 : Int32 → ms → Prop) (K : ms → Prop) : Prop :=
  ∃ (I : Int32 → Int32 → ms → Prop) (μ : Int32 → Int32 → ms → Nat), I x1 x2 S ∧ ∀ yx1 yx2 yS, I yx1 yx2 yS → b_toWeights_107 yx1 yx2 yS R99 (fun zx1 zx2 zS => I zx1 zx2 zS ∧ μ zx1 zx2 zS < μ yx1 yx2 yS) K
def b_toWeights_99 (x1 : Int32) (S : ms) (R99 : Int32 → ms → Prop) (K : ms → Prop) : Prop :=
  (8 ≤ x1 → (K S)) ∧ (¬ (8 ≤ x1) → (e_toWeights_107 x1 0 S R99 K))
def e_toWeights_99 (x1 : Int32) (S : ms) (K : ms → Prop) : Prop :=
  ∃ (I : Int32 → ms → Prop) (μ : Int32 → ms → Nat), I x1 S ∧ ∀ yx1 yS, I yx1 yS → b_toWeights_99 yx1 yS (fun zx1 zS => I zx1 zS ∧ μ zx1 zS < μ yx1 yS) K
def b_toWeights_23 (x1 : Int32) (x2 : Int32) (x3 : Int64) (x5 : Int32) (S : ms) (R2 : Int32 → ms → Prop) (R10 : Int32 → Int32 → ms → Prop) (R23 : Int32 → Int32 → Int64 → Int32 → ms → Prop) (K : ms → Prop) : Prop :=
  (8 ≤ x5 → (vp_in ((8 * x1) + x2) 64 ∧ (R10 x1 (x2 + 1) (S.1, S.2.1, va_up S.2.2 24 (vp_updL (S.2.2 24) ((8 * x1) + x2).toNatClampNeg (x3 >>> ((9 : Int32).toInt64 &&& 63 : Int64) : Int64)))))) ∧ (¬ (8 ≤ x5) → (vp_in ((8 * x5) + x2) 64 ∧ (vp_in ((8 * x1) + x5) 64 ∧ (R23 x1 x2 (x3 + (((S.2.1 23 ((8 * x5) + x2).toNatClampNeg).toInt64) * (((S.2.1 25 ((8 * x1) + x5).toNatClampNeg) - 128).toInt64))) (x5 + 1) S))))
def e_toWeights_23 (x1 : Int32) (x2 : Int32) (x3 : Int64) (x5 : Int32) (S : ms) (R2 : Int32 → ms → Prop) (R10 : Int32 → Int32 → ms → Prop) (K : ms → Prop) : Prop :=
  ∃ (I : Int32 → Int32 → Int64 → Int32 → ms → Prop) (μ : Int32 → Int32 → Int64 → Int32 → ms → Nat), I x1 x2 x3 x5 S ∧ ∀ yx1 yx2 yx3 yx5 yS, I yx1 yx2 yx3 yx5 yS → b_toWeights_23 yx1 yx2 yx3 yx5 yS R2 R10 (fun zx1 zx2 zx3 zx5 zS => I zx1 zx2 zx3 zx5 zS ∧ μ zx1 zx2 zx3 zx5 zS < μ yx1 yx2 yx3 yx5 yS) K
def b_toWeights_10 (x1 : Int32) (x2 : Int32) (S : ms) (R2 : Int32 → ms → Prop) (R10 : Int32 → Int32 → ms → Prop) (K : ms → Prop) : Prop :=
  (8 ≤ x2 → (R2 (x1 + 1) S)) ∧ (¬ (8 ≤ x2) → (e_toWeights_23 x1 x2 256 0 S R2 R10 K))
def e_toWeights_10 (x1 : Int32) (x2 : Int32) (S : ms) (R2 : Int32 → ms → Prop) (K : ms → Prop) : Prop :=
  ∃ (I : Int32 → Int32 → ms → Prop) (μ : Int32 → Int32 → ms → Nat), I x1 x2 S ∧ ∀ yx1 yx2 yS, I yx1 yx2 yS → b_toWeights_10 yx1 yx2 yS R2 (fun zx1 zx2 zS => I zx1 zx2 zS ∧ μ zx1 zx2 zS < μ yx1 yx2 yS) K
def b_toWeights_2 (x1 : Int32) (S : ms) (R2 : Int32 → ms → Prop) (K : ms → Prop) : Prop :=
  (8 ≤ x1 → (e_toWeights_99 0 S K)) ∧ (¬ (8 ≤ x1) → (e_toWeights_10 x1 0 S R2 K))
def e_toWeights_2 (x1 : Int32) (S : ms) (K : ms → Prop) : Prop :=
  ∃ (I : Int32 → ms → Prop) (μ : Int32 → ms → Nat), I x1 S ∧ ∀ yx1 yS, I yx1 yS → b_toWeights_2 yx1 yS (fun zx1 zS => I zx1 zS ∧ μ zx1 zS < μ yx1 yS) K
def p_toWeights  (S : ms) (K : ms → Prop) : Prop :=
  e_toWeights_2 0 S K
section M_toWeights
variable {D : va_G} {z : Nat → ClassId} {A : Nat → Prop} {X : cx} {L0 : fw} {K : ms → Prop} {o : Nat} {ad : Nat → Nat}
set_option maxRecDepth 100000 in
set_option maxHeartbeats 1000000 in
theorem s_toWeights_120 (C : fcx gG D z A X R_M c_M_toWeights 6 (none)) (hQ : X.2.2.2.2.2.2.2.2.2.2 = eQ gG D z X.2.2.2.2.2.2.2.1 X.2.2.2.2.1 L0 0 0 (pM_v K o ad)) (hA : A = owA gG L0 X.2.2.2.2.1.heap.size) (hR : X.2.2.2.1 = { frames := 1, cells := 1, slots := 6, locals := 100 }) (x1 : Int32) (x2 : Int32) (x3 : Int64) (x5 : Int32) (S : ms) (R99 : Int32 → ms → Prop) (hR99 : ∀ yx1 yS, R99 yx1 yS → aw gG D z A X 6 99 [some (.ref o), some (.int yx1), none, none, none, none] [] [(0, ly_M, (o, ad, yS.1, yS.2.1, yS.2.2))] 0 0) (R107 : Int32 → Int32 → ms → Prop) (hR107 : ∀ yx1 yx2 yS, R107 yx1 yx2 yS → aw gG D z A X 6 107 [some (.ref o), some (.int yx1), some (.int yx2), none, none, none] [] [(0, ly_M, (o, ad, yS.1, yS.2.1, yS.2.2))] 0 0) (R120 : Int32 → Int32 → Int64 → Int32 → ms → Prop) (hR120 : ∀ yx1 yx2 yx3 yx5 yS, R120 yx1 yx2 yx3 yx5 yS → aw gG D z A X 6 120 [some (.ref o), some (.int yx1), some (.int yx2), some (.long yx3), none, some (.int yx5)] [] [(0, ly_M, (o, ad, yS.1, yS.2.1, yS.2.2))] 0 0) (hp : b_toWeights_120 x1 x2 x3 x5 S R99 R107 R120 K) : aw gG D z A X 6 120 [some (.ref o), some (.int x1), some (.int x2), some (.long x3), none, some (.int x5)] [] [(0, ly_M, (o, ad, S.1, S.2.1, S.2.2))] 0 0 := by
  unfold b_toWeights_120 at hp
  refine a_iload C d_toWeights_120 rfl ?_
  refine a_bipush (v := 8) C d_toWeights_122 (by decide) ?_
  refine a_icmp_ge (tgt := 162) C d_toWeights_124 (by decide) ⟨fun hc => ?_, fun hc => ?_⟩
  · have hp := hp.1 hc
    refine a_aload_n C d_toWeights_162 rfl rfl ?_
    refine a_getR C 0 25 d_toWeights_163 rfl rfl rfl (Nat.le_of_ble_eq_true rfl) f_M_82 ⟨Nat.le_of_ble_eq_true rfl, Nat.le_of_ble_eq_true rfl⟩ ?_
    refine a_bipush (v := 8) C d_toWeights_166 (by decide) ?_
    refine a_iload_n C d_toWeights_168 rfl rfl ?_
    refine a_imul C d_toWeights_169 ?_
    refine a_iload_n C d_toWeights_170 rfl rfl ?_
    refine a_iadd C d_toWeights_171 ?_
    refine a_lload_n C d_toWeights_172 rfl rfl ?_
    refine a_bipush (v := 17) C d_toWeights_173 (by decide) ?_
    refine a_lshr C d_toWeights_175 ?_
    refine a_l2i C d_toWeights_176 ?_
    refine a_iast C 0 25 d_toWeights_177 rfl rfl rfl hp.1 ?_
    have hp := hp.2
    refine aw_eq (lo' := _) (st' := _) (L' := [(0, ly_M, (o, ad, S.1, va_up S.2.1 25 (upd (S.2.1 25) ((8 * x2) + x1).toNatClampNeg ((x3 >>> ((17 : Int32).toInt64 &&& 63 : Int64) : Int64).toInt32)), S.2.2))]) rfl rfl rfl ?_
    refine a_iinc (v := x2 + 1) (lo' := [some (.ref o), some (.int x1), some (.int (x2 + 1)), some (.long x3), none, some (.int x5)]) C d_toWeights_178 rfl rfl (by decide) rfl ?_
    refine a_goto (tgt := 107) C d_toWeights_181 (by decide) ?_
    refine aw_lo (lo' := [some (.ref o), some (.int x1), some (.int (x2 + 1)), none, none, none]) ⟨.inr rfl, .inr rfl, .inr rfl, .inl rfl, .inr rfl, .inl rfl, trivial⟩ ?_
    exact hR107 x1 (x2 + 1) (S.1, va_up S.2.1 25 (upd (S.2.1 25) ((8 * x2) + x1).toNatClampNeg ((x3 >>> ((17 : Int32).toInt64 &&& 63 : Int64) : Int64).toInt32)), S.2.2) hp
  · have hp := hp.2 hc
    refine a_lload_n C d_toWeights_127 rfl rfl ?_
    refine a_aload_n C d_toWeights_128 rfl rfl ?_
    refine a_getR C 0 23 d_toWeights_129 rfl rfl rfl (Nat.le_of_ble_eq_true rfl) f_M_75 ⟨Nat.le_of_ble_eq_true rfl, Nat.le_of_ble_eq_true rfl⟩ ?_
    refine a_bipush (v := 8) C d_toWeights_132 (by decide) ?_
    refine a_iload C d_toWeights_134 rfl ?_
    refine a_imul C d_toWeights_136 ?_
    refine a_iload_n C d_toWeights_137 rfl rfl ?_
    refine a_iadd C d_toWeights_138 ?_
    refine a_iald C 0 23 d_toWeights_139 rfl rfl rfl hp.1 ?_
    have hp := hp.2
    refine a_i2l C d_toWeights_140 ?_
    refine a_aload_n C d_toWeights_141 rfl rfl ?_
    refine a_getR C 0 24 d_toWeights_142 rfl rfl rfl (Nat.le_of_ble_eq_true rfl) f_M_78 ⟨Nat.le_of_ble_eq_true rfl, Nat.le_of_ble_eq_true rfl⟩ ?_
    refine a_bipush (v := 8) C d_toWeights_145 (by decide) ?_
    refine a_iload C d_toWeights_147 rfl ?_
    refine a_imul C d_toWeights_149 ?_
    refine a_iload_n C d_toWeights_150 rfl rfl ?_
    refine a_iadd C d_toWeights_151 ?_
    refine a_lald C 0 24 d_toWeights_152 rfl rfl rfl hp.1 ?_
    have hp := hp.2
    refine a_lmul C d_toWeights_153 ?_
    refine a_ladd C d_toWeights_154 ?_
    refine a_lstore_n (lo' := [some (.ref o), some (.int x1), some (.int x2), some (.long (x3 + (((S.2.1 23 ((8 * x5) + x2).toNatClampNeg).toInt64) * (S.2.2 24 ((8 * x5) + x1).toNatClampNeg)))), none, some (.int x5)]) C d_toWeights_155 rfl (by decide) rfl ?_
    refine a_iinc (v := x5 + 1) (lo' := [some (.ref o), some (.int x1), some (.int x2), some (.long (x3 + (((S.2.1 23 ((8 * x5) + x2).toNatClampNeg).toInt64) * (S.2.2 24 ((8 * x5) + x1).toNatClampNeg)))), none, some (.int (x5 + 1))]) C d_toWeights_156 rfl rfl (by decide) rfl ?_
    refine a_goto (tgt := 120) C d_toWeights_159 (by decide) ?_
    refine aw_lo (lo' := [some (.ref o), some (.int x1), some (.int x2), some (.long (x3 + (((S.2.1 23 ((8 * x5) + x2).toNatClampNeg).toInt64) * (S.2.2 24 ((8 * x5) + x1).toNatClampNeg)))), none, some (.int (x5 + 1))]) ⟨.inr rfl, .inr rfl, .inr rfl, .inr rfl, .inr rfl, .inr rfl, trivial⟩ ?_
    exact hR120 x1 x2 (x3 + (((S.2.1 23 ((8 * x5) + x2).toNatClampNeg).toInt64) * (S.2.2 24 ((8 * x5) + x1).toNatClampNeg))) (x5 + 1) S hp
set_option maxRecDepth 100000 in
set_option maxHeartbeats 1000000 in
theorem se_toWeights_120 (C : fcx gG D z A X R_M c_M_toWeights 6 (none)) (hQ : X.2.2.2.2.2.2.2.2.2.2 = eQ gG D z X.2.2.2.2.2.2.2.1 X.2.2.2.2.1 L0 0 0 (pM_v K o ad)) (hA : A = owA gG L0 X.2.2.2.2.1.heap.size) (hR : X.2.2.2.1 = { frames := 1, cells := 1, slots := 6, locals := 100 }) (x1 : Int32) (x2 : Int32) (x3 : Int64) (x5 : Int32) (S : ms) (R99 : Int32 → ms → Prop) (hR99 : ∀ yx1 yS, R99 yx1 yS → aw gG D z A X 6 99 [some (.ref o), some (.int yx1), none, none, none, none] [] [(0, ly_M, (o, ad, yS.1, yS.2.1, yS.2.2))] 0 0) (R107 : Int32 → Int32 → ms → Prop) (hR107 : ∀ yx1 yx2 yS, R107 yx1 yx2 yS → aw gG D z A X 6 107 [some (.ref o), some (.int yx1), some (.int yx2), none, none, none] [] [(0, ly_M, (o, ad, yS.1, yS.2.1, yS.2.2))] 0 0) (hp : e_toWeights_120 x1 x2 x3 x5 S R99 R107 K) : aw gG D z A X 6 120 [some (.ref o), some (.int x1), some (.int x2), some (.long x3), none, some (.int x5)] [] [(0, ly_M, (o, ad, S.1, S.2.1, S.2.2))] 0 0 := by
  obtain ⟨I, μ, h0, hs⟩ := hp
  have key : ∀ (n : Nat) (yx1 : Int32) (yx2 : Int32) (yx3 : Int64) (yx5 : Int32) (yS : ms), μ yx1 yx2 yx3 yx5 yS < n → I yx1 yx2 yx3 yx5 yS → aw gG D z A X 6 120 [some (.ref o), some (.int yx1), some (.int yx2), some (.long yx3), none, some (.int yx5)] [] [(0, ly_M, (o, ad, yS.1, yS.2.1, yS.2.2))] 0 0 := by
    intro n
    induction n with
    | zero => intro yx1 yx2 yx3 yx5 yS h; omega
    | succ n ih =>
      intro yx1 yx2 yx3 yx5 yS hn hI
      exact s_toWeights_120 C hQ hA hR yx1 yx2 yx3 yx5 yS R99 hR99 R107 hR107 _ (fun zx1 zx2 zx3 zx5 zS hw => ih zx1 zx2 zx3 zx5 zS (by omega) hw.1) (hs yx1 yx2 yx3 yx5 yS hI)
  exact key (μ x1 x2 x3 x5 S + 1) x1 x2 x3 x5 S (Nat.lt_succ_self _) h0
set_option maxRecDepth 100000 in
set_option maxHeartbeats 1000000 in
theorem s_toWeights_107 (C : fcx gG D z A X R_M c_M_toWeights 6 (none)) (hQ : X.2.2.2.2.2.2.2.2.2.2 = eQ gG D z X.2.2.2.2.2.2.2.1 X.2.2.2.2.1 L0 0 0 (pM_v K o ad)) (hA : A = owA gG L0 X.2.2.2.2.1.heap.size) (hR : X.2.2.2.1 = { frames := 1, cells := 1, slots := 6, locals := 100 }) (x1 : Int32) (x2 : Int32) (S : ms) (R99 : Int32 → ms → Prop) (hR99 : ∀ yx1 yS, R99 yx1 yS → aw gG D z A X 6 99 [some (.ref o), some (.int yx1), none, none, none, none] [] [(0, ly_M, (o, ad, yS.1, yS.2.1, yS.2.2))] 0 0) (R107 : Int32 → Int32 → ms → Prop) (hR107 : ∀ yx1 yx2 yS, R107 yx1 yx2 yS → aw gG D z A X 6 107 [some (.ref o), some (.int yx1), some (.int yx2), none, none, none] [] [(0, ly_M, (o, ad, yS.1, yS.2.1, yS.2.2))] 0 0) (hp : b_toWeights_107 x1 x2 S R99 R107 K) : aw gG D z A X 6 107 [some (.ref o), some (.int x1), some (.int x2), none, none, none] [] [(0, ly_M, (o, ad, S.1, S.2.1, S.2.2))] 0 0 := by
  unfold b_toWeights_107 at hp
  refine a_iload_n C d_toWeights_107 rfl rfl ?_
  refine a_bipush (v := 8) C d_toWeights_108 (by decide) ?_
  refine a_icmp_ge (tgt := 184) C d_toWeights_110 (by decide) ⟨fun hc => ?_, fun hc => ?_⟩
  · have hp := hp.1 hc
    refine a_iinc (v := x1 + 1) (lo' := [some (.ref o), some (.int (x1 + 1)), some (.int x2), none, none, none]) C d_toWeights_184 rfl rfl (by decide) rfl ?_
    refine a_goto (tgt := 99) C d_toWeights_187 (by decide) ?_
    refine aw_lo (lo' := [some (.ref o), some (.int (x1 + 1)), none, none, none, none]) ⟨.inr rfl, .inr rfl, .inl rfl, .inr rfl, .inr rfl, .inr rfl, trivial⟩ ?_
    exact hR99 (x1 + 1) S hp
  · have hp := hp.2 hc
    refine a_ldc2 (v := 65536) C d_toWeights_113 k_M_167 ?_
    refine a_lstore_n (lo' := [some (.ref o), some (.int x1), some (.int x2), some (.long 65536), none, none]) C d_toWeights_116 rfl (by decide) rfl ?_
    refine a_iconst (v := 0) C d_toWeights_117 (by decide) ?_
    refine a_istore (lo' := [some (.ref o), some (.int x1), some (.int x2), some (.long 65536), none, some (.int 0)]) C d_toWeights_118 (by decide) rfl ?_
    refine aw_lo (lo' := [some (.ref o), some (.int x1), some (.int x2), some (.long 65536), none, some (.int 0)]) ⟨.inr rfl, .inr rfl, .inr rfl, .inr rfl, .inr rfl, .inr rfl, trivial⟩ ?_
    exact se_toWeights_120 C hQ hA hR x1 x2 65536 0 S R99 hR99 R107 hR107 hp
set_option maxRecDepth 100000 in
set_option maxHeartbeats 1000000 in
theorem se_toWeights_107 (C : fcx gG D z A X R_M c_M_toWeights 6 (none)) (hQ : X.2.2.2.2.2.2.2.2.2.2 = eQ gG D z X.2.2.2.2.2.2.2.1 X.2.2.2.2.1 L0 0 0 (pM_v K o ad)) (hA : A = owA gG L0 X.2.2.2.2.1.heap.size) (hR : X.2.2.2.1 = { frames := 1, cells := 1, slots := 6, locals := 100 }) (x1 : Int32) (x2 : Int32) (S : ms) (R99 : Int32 → ms → Prop) (hR99 : ∀ yx1 yS, R99 yx1 yS → aw gG D z A X 6 99 [some (.ref o), some (.int yx1), none, none, none, none] [] [(0, ly_M, (o, ad, yS.1, yS.2.1, yS.2.2))] 0 0) (hp : e_toWeights_107 x1 x2 S R99 K) : aw gG D z A X 6 107 [some (.ref o), some (.int x1), some (.int x2), none, none, none] [] [(0, ly_M, (o, ad, S.1, S.2.1, S.2.2))] 0 0 := by
  obtain ⟨I, μ, h0, hs⟩ := hp
  have key : ∀ (n : Nat) (yx1 : Int32) (yx2 : Int32) (yS : ms), μ yx1 yx2 yS < n → I yx1 yx2 yS → aw gG D z A X 6 107 [some (.ref o), some (.int yx1), some (.int yx2), none, none, none] [] [(0, ly_M, (o, ad, yS.1, yS.2.1, yS.2.2))] 0 0 := by
    intro n
    induction n with
    | zero => intro yx1 yx2 yS h; omega
    | succ n ih =>
      intro yx1 yx2 yS hn hI
      exact s_toWeights_107 C hQ hA hR yx1 yx2 yS R99 hR99 _ (fun zx1 zx2 zS hw => ih zx1 zx2 zS (by omega) hw.1) (hs yx1 yx2 yS hI)
  exact key (μ x1 x2 S + 1) x1 x2 S (Nat.lt_succ_self _) h0
set_option maxRecDepth 100000 in
set_option maxHeartbeats 1000000 in
theorem s_toWeights_99 (C : fcx gG D z A X R_M c_M_toWeights 6 (none)) (hQ : X.2.2.2.2.2.2.2.2.2.2 = eQ gG D z X.2.2.2.2.2.2.2.1 X.2.2.2.2.1 L0 0 0 (pM_v K o ad)) (hA : A = owA gG L0 X.2.2.2.2.1.heap.size) (hR : X.2.2.2.1 = { frames := 1, cells := 1, slots := 6, locals := 100 }) (x1 : Int32) (S : ms) (R99 : Int32 → ms → Prop) (hR99 : ∀ yx1 yS, R99 yx1 yS → aw gG D z A X 6 99 [some (.ref o), some (.int yx1), none, none, none, none] [] [(0, ly_M, (o, ad, yS.1, yS.2.1, yS.2.2))] 0 0) (hp : b_toWeights_99 x1 S R99 K) : aw gG D z A X 6 99 [some (.ref o), some (.int x1), none, none, none, none] [] [(0, ly_M, (o, ad, S.1, S.2.1, S.2.2))] 0 0 := by
  unfold b_toWeights_99 at hp
  refine a_iload_n C d_toWeights_99 rfl rfl ?_
  refine a_bipush (v := 8) C d_toWeights_100 (by decide) ?_
  refine a_icmp_ge (tgt := 190) C d_toWeights_102 (by decide) ⟨fun hc => ?_, fun hc => ?_⟩
  · have hp := hp.1 hc
    exact a_vret C hQ hA d_toWeights_190 rfl ⟨S, hp, rfl, rfl⟩
  · have hp := hp.2 hc
    refine a_iconst (v := 0) C d_toWeights_105 (by decide) ?_
    refine a_istore_n (lo' := [some (.ref o), some (.int x1), some (.int 0), none, none, none]) C d_toWeights_106 rfl (by decide) rfl ?_
    refine aw_lo (lo' := [some (.ref o), some (.int x1), some (.int 0), none, none, none]) ⟨.inr rfl, .inr rfl, .inr rfl, .inr rfl, .inr rfl, .inr rfl, trivial⟩ ?_
    exact se_toWeights_107 C hQ hA hR x1 0 S R99 hR99 hp
set_option maxRecDepth 100000 in
set_option maxHeartbeats 1000000 in
theorem se_toWeights_99 (C : fcx gG D z A X R_M c_M_toWeights 6 (none)) (hQ : X.2.2.2.2.2.2.2.2.2.2 = eQ gG D z X.2.2.2.2.2.2.2.1 X.2.2.2.2.1 L0 0 0 (pM_v K o ad)) (hA : A = owA gG L0 X.2.2.2.2.1.heap.size) (hR : X.2.2.2.1 = { frames := 1, cells := 1, slots := 6, locals := 100 }) (x1 : Int32) (S : ms) (hp : e_toWeights_99 x1 S K) : aw gG D z A X 6 99 [some (.ref o), some (.int x1), none, none, none, none] [] [(0, ly_M, (o, ad, S.1, S.2.1, S.2.2))] 0 0 := by
  obtain ⟨I, μ, h0, hs⟩ := hp
  have key : ∀ (n : Nat) (yx1 : Int32) (yS : ms), μ yx1 yS < n → I yx1 yS → aw gG D z A X 6 99 [some (.ref o), some (.int yx1), none, none, none, none] [] [(0, ly_M, (o, ad, yS.1, yS.2.1, yS.2.2))] 0 0 := by
    intro n
    induction n with
    | zero => intro yx1 yS h; omega
    | succ n ih =>
      intro yx1 yS hn hI
      exact s_toWeights_99 C hQ hA hR yx1 yS _ (fun zx1 zS hw => ih zx1 zS (by omega) hw.1) (hs yx1 yS hI)
  exact key (μ x1 S + 1) x1 S (Nat.lt_succ_self _) h0
set_option maxRecDepth 100000 in
set_option maxHeartbeats 1000000 in
theorem s_toWeights_23 (C : fcx gG D z A X R_M c_M_toWeights 6 (none)) (hQ : X.2.2.2.2.2.2.2.2.2.2 = eQ gG D z X.2.2.2.2.2.2.2.1 X.2.2.2.2.1 L0 0 0 (pM_v K o ad)) (hA : A = owA gG L0 X.2.2.2.2.1.heap.size) (hR : X.2.2.2.1 = { frames := 1, cells := 1, slots := 6, locals := 100 }) (x1 : Int32) (x2 : Int32) (x3 : Int64) (x5 : Int32) (S : ms) (R2 : Int32 → ms → Prop) (hR2 : ∀ yx1 yS, R2 yx1 yS → aw gG D z A X 6 2 [some (.ref o), some (.int yx1), none, none, none, none] [] [(0, ly_M, (o, ad, yS.1, yS.2.1, yS.2.2))] 0 0) (R10 : Int32 → Int32 → ms → Prop) (hR10 : ∀ yx1 yx2 yS, R10 yx1 yx2 yS → aw gG D z A X 6 10 [some (.ref o), some (.int yx1), some (.int yx2), none, none, none] [] [(0, ly_M, (o, ad, yS.1, yS.2.1, yS.2.2))] 0 0) (R23 : Int32 → Int32 → Int64 → Int32 → ms → Prop) (hR23 : ∀ yx1 yx2 yx3 yx5 yS, R23 yx1 yx2 yx3 yx5 yS → aw gG D z A X 6 23 [some (.ref o), some (.int yx1), some (.int yx2), some (.long yx3), none, some (.int yx5)] [] [(0, ly_M, (o, ad, yS.1, yS.2.1, yS.2.2))] 0 0) (hp : b_toWeights_23 x1 x2 x3 x5 S R2 R10 R23 K) : aw gG D z A X 6 23 [some (.ref o), some (.int x1), some (.int x2), some (.long x3), none, some (.int x5)] [] [(0, ly_M, (o, ad, S.1, S.2.1, S.2.2))] 0 0 := by
  unfold b_toWeights_23 at hp
  refine a_iload C d_toWeights_23 rfl ?_
  refine a_bipush (v := 8) C d_toWeights_25 (by decide) ?_
  refine a_icmp_ge (tgt := 70) C d_toWeights_27 (by decide) ⟨fun hc => ?_, fun hc => ?_⟩
  · have hp := hp.1 hc
    refine a_aload_n C d_toWeights_70 rfl rfl ?_
    refine a_getR C 0 24 d_toWeights_71 rfl rfl rfl (Nat.le_of_ble_eq_true rfl) f_M_78 ⟨Nat.le_of_ble_eq_true rfl, Nat.le_of_ble_eq_true rfl⟩ ?_
    refine a_bipush (v := 8) C d_toWeights_74 (by decide) ?_
    refine a_iload_n C d_toWeights_76 rfl rfl ?_
    refine a_imul C d_toWeights_77 ?_
    refine a_iload_n C d_toWeights_78 rfl rfl ?_
    refine a_iadd C d_toWeights_79 ?_
    refine a_lload_n C d_toWeights_80 rfl rfl ?_
    refine a_bipush (v := 9) C d_toWeights_81 (by decide) ?_
    refine a_lshr C d_toWeights_83 ?_
    refine a_last C 0 24 d_toWeights_84 rfl rfl rfl hp.1 ?_
    have hp := hp.2
    refine aw_eq (lo' := _) (st' := _) (L' := [(0, ly_M, (o, ad, S.1, S.2.1, va_up S.2.2 24 (vp_updL (S.2.2 24) ((8 * x1) + x2).toNatClampNeg (x3 >>> ((9 : Int32).toInt64 &&& 63 : Int64) : Int64))))]) rfl rfl rfl ?_
    refine a_iinc (v := x2 + 1) (lo' := [some (.ref o), some (.int x1), some (.int (x2 + 1)), some (.long x3), none, some (.int x5)]) C d_toWeights_85 rfl rfl (by decide) rfl ?_
    refine a_goto (tgt := 10) C d_toWeights_88 (by decide) ?_
    refine aw_lo (lo' := [some (.ref o), some (.int x1), some (.int (x2 + 1)), none, none, none]) ⟨.inr rfl, .inr rfl, .inr rfl, .inl rfl, .inr rfl, .inl rfl, trivial⟩ ?_
    exact hR10 x1 (x2 + 1) (S.1, S.2.1, va_up S.2.2 24 (vp_updL (S.2.2 24) ((8 * x1) + x2).toNatClampNeg (x3 >>> ((9 : Int32).toInt64 &&& 63 : Int64) : Int64))) hp
  · have hp := hp.2 hc
    refine a_lload_n C d_toWeights_30 rfl rfl ?_
    refine a_aload_n C d_toWeights_31 rfl rfl ?_
    refine a_getR C 0 23 d_toWeights_32 rfl rfl rfl (Nat.le_of_ble_eq_true rfl) f_M_75 ⟨Nat.le_of_ble_eq_true rfl, Nat.le_of_ble_eq_true rfl⟩ ?_
    refine a_bipush (v := 8) C d_toWeights_35 (by decide) ?_
    refine a_iload C d_toWeights_37 rfl ?_
    refine a_imul C d_toWeights_39 ?_
    refine a_iload_n C d_toWeights_40 rfl rfl ?_
    refine a_iadd C d_toWeights_41 ?_
    refine a_iald C 0 23 d_toWeights_42 rfl rfl rfl hp.1 ?_
    have hp := hp.2
    refine a_i2l C d_toWeights_43 ?_
    refine a_aload_n C d_toWeights_44 rfl rfl ?_
    refine a_getR C 0 25 d_toWeights_45 rfl rfl rfl (Nat.le_of_ble_eq_true rfl) f_M_82 ⟨Nat.le_of_ble_eq_true rfl, Nat.le_of_ble_eq_true rfl⟩ ?_
    refine a_bipush (v := 8) C d_toWeights_48 (by decide) ?_
    refine a_iload_n C d_toWeights_50 rfl rfl ?_
    refine a_imul C d_toWeights_51 ?_
    refine a_iload C d_toWeights_52 rfl ?_
    refine a_iadd C d_toWeights_54 ?_
    refine a_iald C 0 25 d_toWeights_55 rfl rfl rfl hp.1 ?_
    have hp := hp.2
    refine a_sipush (v := 128) C d_toWeights_56 (by decide) ?_
    refine a_isub C d_toWeights_59 ?_
    refine a_i2l C d_toWeights_60 ?_
    refine a_lmul C d_toWeights_61 ?_
    refine a_ladd C d_toWeights_62 ?_
    refine a_lstore_n (lo' := [some (.ref o), some (.int x1), some (.int x2), some (.long (x3 + (((S.2.1 23 ((8 * x5) + x2).toNatClampNeg).toInt64) * (((S.2.1 25 ((8 * x1) + x5).toNatClampNeg) - 128).toInt64)))), none, some (.int x5)]) C d_toWeights_63 rfl (by decide) rfl ?_
    refine a_iinc (v := x5 + 1) (lo' := [some (.ref o), some (.int x1), some (.int x2), some (.long (x3 + (((S.2.1 23 ((8 * x5) + x2).toNatClampNeg).toInt64) * (((S.2.1 25 ((8 * x1) + x5).toNatClampNeg) - 128).toInt64)))), none, some (.int (x5 + 1))]) C d_toWeights_64 rfl rfl (by decide) rfl ?_
    refine a_goto (tgt := 23) C d_toWeights_67 (by decide) ?_
    refine aw_lo (lo' := [some (.ref o), some (.int x1), some (.int x2), some (.long (x3 + (((S.2.1 23 ((8 * x5) + x2).toNatClampNeg).toInt64) * (((S.2.1 25 ((8 * x1) + x5).toNatClampNeg) - 128).toInt64)))), none, some (.int (x5 + 1))]) ⟨.inr rfl, .inr rfl, .inr rfl, .inr rfl, .inr rfl, .inr rfl, trivial⟩ ?_
    exact hR23 x1 x2 (x3 + (((S.2.1 23 ((8 * x5) + x2).toNatClampNeg).toInt64) * (((S.2.1 25 ((8 * x1) + x5).toNatClampNeg) - 128).toInt64))) (x5 + 1) S hp
set_option maxRecDepth 100000 in
set_option maxHeartbeats 1000000 in
theorem se_toWeights_23 (C : fcx gG D z A X R_M c_M_toWeights 6 (none)) (hQ : X.2.2.2.2.2.2.2.2.2.2 = eQ gG D z X.2.2.2.2.2.2.2.1 X.2.2.2.2.1 L0 0 0 (pM_v K o ad)) (hA : A = owA gG L0 X.2.2.2.2.1.heap.size) (hR : X.2.2.2.1 = { frames := 1, cells := 1, slots := 6, locals := 100 }) (x1 : Int32) (x2 : Int32) (x3 : Int64) (x5 : Int32) (S : ms) (R2 : Int32 → ms → Prop) (hR2 : ∀ yx1 yS, R2 yx1 yS → aw gG D z A X 6 2 [some (.ref o), some (.int yx1), none, none, none, none] [] [(0, ly_M, (o, ad, yS.1, yS.2.1, yS.2.2))] 0 0) (R10 : Int32 → Int32 → ms → Prop) (hR10 : ∀ yx1 yx2 yS, R10 yx1 yx2 yS → aw gG D z A X 6 10 [some (.ref o), some (.int yx1), some (.int yx2), none, none, none] [] [(0, ly_M, (o, ad, yS.1, yS.2.1, yS.2.2))] 0 0) (hp : e_toWeights_23 x1 x2 x3 x5 S R2 R10 K) : aw gG D z A X 6 23 [some (.ref o), some (.int x1), some (.int x2), some (.long x3), none, some (.int x5)] [] [(0, ly_M, (o, ad, S.1, S.2.1, S.2.2))] 0 0 := by
  obtain ⟨I, μ, h0, hs⟩ := hp
  have key : ∀ (n : Nat) (yx1 : Int32) (yx2 : Int32) (yx3 : Int64) (yx5 : Int32) (yS : ms), μ yx1 yx2 yx3 yx5 yS < n → I yx1 yx2 yx3 yx5 yS → aw gG D z A X 6 23 [some (.ref o), some (.int yx1), some (.int yx2), some (.long yx3), none, some (.int yx5)] [] [(0, ly_M, (o, ad, yS.1, yS.2.1, yS.2.2))] 0 0 := by
    intro n
    induction n with
    | zero => intro yx1 yx2 yx3 yx5 yS h; omega
    | succ n ih =>
      intro yx1 yx2 yx3 yx5 yS hn hI
      exact s_toWeights_23 C hQ hA hR yx1 yx2 yx3 yx5 yS R2 hR2 R10 hR10 _ (fun zx1 zx2 zx3 zx5 zS hw => ih zx1 zx2 zx3 zx5 zS (by omega) hw.1) (hs yx1 yx2 yx3 yx5 yS hI)
  exact key (μ x1 x2 x3 x5 S + 1) x1 x2 x3 x5 S (Nat.lt_succ_self _) h0
set_option maxRecDepth 100000 in
set_option maxHeartbeats 1000000 in
theorem s_toWeights_10 (C : fcx gG D z A X R_M c_M_toWeights 6 (none)) (hQ : X.2.2.2.2.2.2.2.2.2.2 = eQ gG D z X.2.2.2.2.2.2.2.1 X.2.2.2.2.1 L0 0 0 (pM_v K o ad)) (hA : A = owA gG L0 X.2.2.2.2.1.heap.size) (hR : X.2.2.2.1 = { frames := 1, cells := 1, slots := 6, locals := 100 }) (x1 : Int32) (x2 : Int32) (S : ms) (R2 : Int32 → ms → Prop) (hR2 : ∀ yx1 yS, R2 yx1 yS → aw gG D z A X 6 2 [some (.ref o), some (.int yx1), none, none, none, none] [] [(0, ly_M, (o, ad, yS.1, yS.2.1, yS.2.2))] 0 0) (R10 : Int32 → Int32 → ms → Prop) (hR10 : ∀ yx1 yx2 yS, R10 yx1 yx2 yS → aw gG D z A X 6 10 [some (.ref o), some (.int yx1), some (.int yx2), none, none, none] [] [(0, ly_M, (o, ad, yS.1, yS.2.1, yS.2.2))] 0 0) (hp : b_toWeights_10 x1 x2 S R2 R10 K) : aw gG D z A X 6 10 [some (.ref o), some (.int x1), some (.int x2), none, none, none] [] [(0, ly_M, (o, ad, S.1, S.2.1, S.2.2))] 0 0 := by
  unfold b_toWeights_10 at hp
  refine a_iload_n C d_toWeights_10 rfl rfl ?_
  refine a_bipush (v := 8) C d_toWeights_11 (by decide) ?_
  refine a_icmp_ge (tgt := 91) C d_toWeights_13 (by decide) ⟨fun hc => ?_, fun hc => ?_⟩
  · have hp := hp.1 hc
    refine a_iinc (v := x1 + 1) (lo' := [some (.ref o), some (.int (x1 + 1)), some (.int x2), none, none, none]) C d_toWeights_91 rfl rfl (by decide) rfl ?_
    refine a_goto (tgt := 2) C d_toWeights_94 (by decide) ?_
    refine aw_lo (lo' := [some (.ref o), some (.int (x1 + 1)), none, none, none, none]) ⟨.inr rfl, .inr rfl, .inl rfl, .inr rfl, .inr rfl, .inr rfl, trivial⟩ ?_
    exact hR2 (x1 + 1) S hp
  · have hp := hp.2 hc
    refine a_ldc2 (v := 256) C d_toWeights_16 k_M_165 ?_
    refine a_lstore_n (lo' := [some (.ref o), some (.int x1), some (.int x2), some (.long 256), none, none]) C d_toWeights_19 rfl (by decide) rfl ?_
    refine a_iconst (v := 0) C d_toWeights_20 (by decide) ?_
    refine a_istore (lo' := [some (.ref o), some (.int x1), some (.int x2), some (.long 256), none, some (.int 0)]) C d_toWeights_21 (by decide) rfl ?_
    refine aw_lo (lo' := [some (.ref o), some (.int x1), some (.int x2), some (.long 256), none, some (.int 0)]) ⟨.inr rfl, .inr rfl, .inr rfl, .inr rfl, .inr rfl, .inr rfl, trivial⟩ ?_
    exact se_toWeights_23 C hQ hA hR x1 x2 256 0 S R2 hR2 R10 hR10 hp
set_option maxRecDepth 100000 in
set_option maxHeartbeats 1000000 in
theorem se_toWeights_10 (C : fcx gG D z A X R_M c_M_toWeights 6 (none)) (hQ : X.2.2.2.2.2.2.2.2.2.2 = eQ gG D z X.2.2.2.2.2.2.2.1 X.2.2.2.2.1 L0 0 0 (pM_v K o ad)) (hA : A = owA gG L0 X.2.2.2.2.1.heap.size) (hR : X.2.2.2.1 = { frames := 1, cells := 1, slots := 6, locals := 100 }) (x1 : Int32) (x2 : Int32) (S : ms) (R2 : Int32 → ms → Prop) (hR2 : ∀ yx1 yS, R2 yx1 yS → aw gG D z A X 6 2 [some (.ref o), some (.int yx1), none, none, none, none] [] [(0, ly_M, (o, ad, yS.1, yS.2.1, yS.2.2))] 0 0) (hp : e_toWeights_10 x1 x2 S R2 K) : aw gG D z A X 6 10 [some (.ref o), some (.int x1), some (.int x2), none, none, none] [] [(0, ly_M, (o, ad, S.1, S.2.1, S.2.2))] 0 0 := by
  obtain ⟨I, μ, h0, hs⟩ := hp
  have key : ∀ (n : Nat) (yx1 : Int32) (yx2 : Int32) (yS : ms), μ yx1 yx2 yS < n → I yx1 yx2 yS → aw gG D z A X 6 10 [some (.ref o), some (.int yx1), some (.int yx2), none, none, none] [] [(0, ly_M, (o, ad, yS.1, yS.2.1, yS.2.2))] 0 0 := by
    intro n
    induction n with
    | zero => intro yx1 yx2 yS h; omega
    | succ n ih =>
      intro yx1 yx2 yS hn hI
      exact s_toWeights_10 C hQ hA hR yx1 yx2 yS R2 hR2 _ (fun zx1 zx2 zS hw => ih zx1 zx2 zS (by omega) hw.1) (hs yx1 yx2 yS hI)
  exact key (μ x1 x2 S + 1) x1 x2 S (Nat.lt_succ_self _) h0
set_option maxRecDepth 100000 in
set_option maxHeartbeats 1000000 in
theorem s_toWeights_2 (C : fcx gG D z A X R_M c_M_toWeights 6 (none)) (hQ : X.2.2.2.2.2.2.2.2.2.2 = eQ gG D z X.2.2.2.2.2.2.2.1 X.2.2.2.2.1 L0 0 0 (pM_v K o ad)) (hA : A = owA gG L0 X.2.2.2.2.1.heap.size) (hR : X.2.2.2.1 = { frames := 1, cells := 1, slots := 6, locals := 100 }) (x1 : Int32) (S : ms) (R2 : Int32 → ms → Prop) (hR2 : ∀ yx1 yS, R2 yx1 yS → aw gG D z A X 6 2 [some (.ref o), some (.int yx1), none, none, none, none] [] [(0, ly_M, (o, ad, yS.1, yS.2.1, yS.2.2))] 0 0) (hp : b_toWeights_2 x1 S R2 K) : aw gG D z A X 6 2 [some (.ref o), some (.int x1), none, none, none, none] [] [(0, ly_M, (o, ad, S.1, S.2.1, S.2.2))] 0 0 := by
  unfold b_toWeights_2 at hp
  refine a_iload_n C d_toWeights_2 rfl rfl ?_
  refine a_bipush (v := 8) C d_toWeights_3 (by decide) ?_
  refine a_icmp_ge (tgt := 97) C d_toWeights_5 (by decide) ⟨fun hc => ?_, fun hc => ?_⟩
  · have hp := hp.1 hc
    refine a_iconst (v := 0) C d_toWeights_97 (by decide) ?_
    refine a_istore_n (lo' := [some (.ref o), some (.int 0), none, none, none, none]) C d_toWeights_98 rfl (by decide) rfl ?_
    refine aw_lo (lo' := [some (.ref o), some (.int 0), none, none, none, none]) ⟨.inr rfl, .inr rfl, .inr rfl, .inr rfl, .inr rfl, .inr rfl, trivial⟩ ?_
    exact se_toWeights_99 C hQ hA hR 0 S  hp
  · have hp := hp.2 hc
    refine a_iconst (v := 0) C d_toWeights_8 (by decide) ?_
    refine a_istore_n (lo' := [some (.ref o), some (.int x1), some (.int 0), none, none, none]) C d_toWeights_9 rfl (by decide) rfl ?_
    refine aw_lo (lo' := [some (.ref o), some (.int x1), some (.int 0), none, none, none]) ⟨.inr rfl, .inr rfl, .inr rfl, .inr rfl, .inr rfl, .inr rfl, trivial⟩ ?_
    exact se_toWeights_10 C hQ hA hR x1 0 S R2 hR2 hp
set_option maxRecDepth 100000 in
set_option maxHeartbeats 1000000 in
theorem se_toWeights_2 (C : fcx gG D z A X R_M c_M_toWeights 6 (none)) (hQ : X.2.2.2.2.2.2.2.2.2.2 = eQ gG D z X.2.2.2.2.2.2.2.1 X.2.2.2.2.1 L0 0 0 (pM_v K o ad)) (hA : A = owA gG L0 X.2.2.2.2.1.heap.size) (hR : X.2.2.2.1 = { frames := 1, cells := 1, slots := 6, locals := 100 }) (x1 : Int32) (S : ms) (hp : e_toWeights_2 x1 S K) : aw gG D z A X 6 2 [some (.ref o), some (.int x1), none, none, none, none] [] [(0, ly_M, (o, ad, S.1, S.2.1, S.2.2))] 0 0 := by
  obtain ⟨I, μ, h0, hs⟩ := hp
  have key : ∀ (n : Nat) (yx1 : Int32) (yS : ms), μ yx1 yS < n → I yx1 yS → aw gG D z A X 6 2 [some (.ref o), some (.int yx1), none, none, none, none] [] [(0, ly_M, (o, ad, yS.1, yS.2.1, yS.2.2))] 0 0 := by
    intro n
    induction n with
    | zero => intro yx1 yS h; omega
    | succ n ih =>
      intro yx1 yS hn hI
      exact s_toWeights_2 C hQ hA hR yx1 yS _ (fun zx1 zS hw => ih zx1 zS (by omega) hw.1) (hs yx1 yS hI)
  exact key (μ x1 S + 1) x1 S (Nat.lt_succ_self _) h0
set_option maxRecDepth 100000 in
set_option maxHeartbeats 1000000 in
theorem s_toWeights_0 (C : fcx gG D z A X R_M c_M_toWeights 6 (none)) (hQ : X.2.2.2.2.2.2.2.2.2.2 = eQ gG D z X.2.2.2.2.2.2.2.1 X.2.2.2.2.1 L0 0 0 (pM_v K o ad)) (hA : A = owA gG L0 X.2.2.2.2.1.heap.size) (hR : X.2.2.2.1 = { frames := 1, cells := 1, slots := 6, locals := 100 })  (S : ms) (hp : p_toWeights  S K) : aw gG D z A X 6 0 [some (.ref o), none, none, none, none, none] [] [(0, ly_M, (o, ad, S.1, S.2.1, S.2.2))] 0 0 := by
  unfold p_toWeights at hp
  refine a_iconst (v := 0) C d_toWeights_0 (by decide) ?_
  refine a_istore_n (lo' := [some (.ref o), some (.int 0), none, none, none, none]) C d_toWeights_1 rfl (by decide) rfl ?_
  refine aw_lo (lo' := [some (.ref o), some (.int 0), none, none, none, none]) ⟨.inr rfl, .inr rfl, .inr rfl, .inr rfl, .inr rfl, .inr rfl, trivial⟩ ?_
  exact se_toWeights_2 C hQ hA hR 0 S  hp
end M_toWeights
section M_toWeightsc
variable {D : va_G} {z : Nat → ClassId} {o : Nat} {ad : Nat → Nat}
set_option maxRecDepth 100000 in
theorem ct_toWeights {l : Launch}  (S : ms) {K : ms → Prop} (hp : p_toWeights  S K) : ct gG D z l n_M_toWeights c_M_toWeights 6 (none) 1 100 [.ref o] [(0, ly_M, (o, ad, S.1, S.2.1, S.2.2))] 0 0 (pM_v K o ad) := by
  refine ct_of (lo := [some (.ref o), none, none, none, none, none]) (by decide) g_ok (Nat.le_of_ble_eq_true rfl) rfl ?_
  intro X A _ C hR hQ hA _
  exact s_toWeights_0 C hQ hA hR  S hp
end M_toWeightsc
def b_toSamples_203 (x1 : Int32) (x2 : Int32) (s1 : Int32) (s2 : Int32) (S : ms) (R95 : Int32 → ms → Prop) (R103 : Int32 → Int32 → ms → Prop) (K : ms → Prop) : Prop :=
  vp_in s1 64 ∧ (R103 x1 (x2 + 1) (S.1, va_up S.2.1 25 (upd (S.2.1 25) s1.toNatClampNeg s2), S.2.2))
def b_toSamples_116 (x1 : Int32) (x2 : Int32) (x3 : Int64) (x5 : Int32) (S : ms) (R95 : Int32 → ms → Prop) (R103 : Int32 → Int32 → ms → Prop) (R116 : Int32 → Int32 → Int64 → Int32 → ms → Prop) (K : ms → Prop) : Prop :=
  (8 ≤ x5 → ((0 ≤ (lg_cmp (128 + (x3 >>> ((17 : Int32).toInt64 &&& 63 : Int64) : Int64)) 0) → (((lg_cmp (128 + (x3 >>> ((17 : Int32).toInt64 &&& 63 : Int64) : Int64)) 255) ≤ 0 → (b_toSamples_203 x1 x2 ((8 * x1) + x2) ((128 + (x3 >>> ((17 : Int32).toInt64 &&& 63 : Int64) : Int64)).toInt32) S R95 R103 K)) ∧ (¬ ((lg_cmp (128 + (x3 >>> ((17 : Int32).toInt64 &&& 63 : Int64) : Int64)) 255) ≤ 0) → (b_toSamples_203 x1 x2 ((8 * x1) + x2) 255 S R95 R103 K)))) ∧ (¬ (0 ≤ (lg_cmp (128 + (x3 >>> ((17 : Int32).toInt64 &&& 63 : Int64) : Int64)) 0)) → (b_toSamples_203 x1 x2 ((8 * x1) + x2) 0 S R95 R103 K)))) ∧ (¬ (8 ≤ x5) → (vp_in ((8 * x1) + x5) 64 ∧ (vp_in ((8 * x5) + x2) 64 ∧ (R116 x1 x2 (x3 + (((S.2.1 23 ((8 * x1) + x5).toNatClampNeg).toInt64) * (S.2.2 24 ((8 * x5) + x2).toNatClampNeg))) (x5 + 1) S))))
def e_toSamples_116 (x1 : Int32) (x2 : Int32) (x3 : Int64) (x5 : Int32) (S : ms) (R95 : Int32 → ms → Prop) (R103 : Int32 → Int32 → ms → Prop) (K : ms → Prop) : Prop :=
  ∃ (I : Int32 → Int32 → Int64 → Int32 → ms → Prop) (μ : Int32 → Int32 → Int64 → Int32 → ms → Nat), I x1 x2 x3 x5 S ∧ ∀ yx1 yx2 yx3 yx5 yS, I yx1 yx2 yx3 yx5 yS → b_toSamples_116 yx1 yx2 yx3 yx5 yS R95 R103 (fun zx1 zx2 zx3 zx5 zS => I zx1 zx2 zx3 zx5 zS ∧ μ zx1 zx2 zx3 zx5 zS < μ yx1 yx2 yx3 yx5 yS) K
def b_toSamples_103 (x1 : Int32) (x2 : Int32) (S : ms) (R95 : Int32 → ms → Prop) (R103 : Int32 → Int32 → ms → Prop) (K : ms → Prop) : Prop :=
  (8 ≤ x2 → (R95 (x1 + 1) S)) ∧ (¬ (8 ≤ x2) → (e_toSamples_116 x1 x2 65536 0 S R95 R103 K))
def e_toSamples_103 (x1 : Int32) (x2 : Int32) (S : ms) (R95 : Int32 → ms → Prop) (K : ms → Prop) : Prop :=
  ∃ (I : Int32 → Int32 → ms → Prop) (μ : Int32 → Int32 → ms → Nat), I x1 x2 S ∧ ∀ yx1 yx2 yS, I yx1 yx2 yS → b_toSamples_103 yx1 yx2 yS R95 (fun zx1 zx2 zS => I zx1 zx2 zS ∧ μ zx1 zx2 zS < μ yx1 yx2 yS) K
def b_toSamples_95 (x1 : Int32) (S : ms) (R95 : Int32 → ms → Prop) (K : ms → Prop) : Prop :=
  (8 ≤ x1 → (K S)) ∧ (¬ (8 ≤ x1) → (e_toSamples_103 x1 0 S R95 K))
def e_toSamples_95 (x1 : Int32) (S : ms) (K : ms → Prop) : Prop :=
  ∃ (I : Int32 → ms → Prop) (μ : Int32 → ms → Nat), I x1 S ∧ ∀ yx1 yS, I yx1 yS → b_toSamples_95 yx1 yS (fun zx1 zS => I zx1 zS ∧ μ zx1 zS < μ yx1 yS) K
def b_toSamples_23 (x1 : Int32) (x2 : Int32) (x3 : Int64) (x5 : Int32) (S : ms) (R2 : Int32 → ms → Prop) (R10 : Int32 → Int32 → ms → Prop) (R23 : Int32 → Int32 → Int64 → Int32 → ms → Prop) (K : ms → Prop) : Prop :=
  (8 ≤ x5 → (vp_in ((8 * x1) + x2) 64 ∧ (R10 x1 (x2 + 1) (S.1, S.2.1, va_up S.2.2 24 (vp_updL (S.2.2 24) ((8 * x1) + x2).toNatClampNeg (x3 >>> ((9 : Int32).toInt64 &&& 63 : Int64) : Int64)))))) ∧ (¬ (8 ≤ x5) → (vp_in ((8 * x2) + x5) 64 ∧ (vp_in ((8 * x1) + x5) 64 ∧ (R23 x1 x2 (x3 + (((S.2.1 23 ((8 * x2) + x5).toNatClampNeg).toInt64) * ((S.2.1 25 ((8 * x1) + x5).toNatClampNeg).toInt64))) (x5 + 1) S))))
def e_toSamples_23 (x1 : Int32) (x2 : Int32) (x3 : Int64) (x5 : Int32) (S : ms) (R2 : Int32 → ms → Prop) (R10 : Int32 → Int32 → ms → Prop) (K : ms → Prop) : Prop :=
  ∃ (I : Int32 → Int32 → Int64 → Int32 → ms → Prop) (μ : Int32 → Int32 → Int64 → Int32 → ms → Nat), I x1 x2 x3 x5 S ∧ ∀ yx1 yx2 yx3 yx5 yS, I yx1 yx2 yx3 yx5 yS → b_toSamples_23 yx1 yx2 yx3 yx5 yS R2 R10 (fun zx1 zx2 zx3 zx5 zS => I zx1 zx2 zx3 zx5 zS ∧ μ zx1 zx2 zx3 zx5 zS < μ yx1 yx2 yx3 yx5 yS) K
def b_toSamples_10 (x1 : Int32) (x2 : Int32) (S : ms) (R2 : Int32 → ms → Prop) (R10 : Int32 → Int32 → ms → Prop) (K : ms → Prop) : Prop :=
  (8 ≤ x2 → (R2 (x1 + 1) S)) ∧ (¬ (8 ≤ x2) → (e_toSamples_23 x1 x2 256 0 S R2 R10 K))
def e_toSamples_10 (x1 : Int32) (x2 : Int32) (S : ms) (R2 : Int32 → ms → Prop) (K : ms → Prop) : Prop :=
  ∃ (I : Int32 → Int32 → ms → Prop) (μ : Int32 → Int32 → ms → Nat), I x1 x2 S ∧ ∀ yx1 yx2 yS, I yx1 yx2 yS → b_toSamples_10 yx1 yx2 yS R2 (fun zx1 zx2 zS => I zx1 zx2 zS ∧ μ zx1 zx2 zS < μ yx1 yx2 yS) K
def b_toSamples_2 (x1 : Int32) (S : ms) (R2 : Int32 → ms → Prop) (K : ms → Prop) : Prop :=
  (8 ≤ x1 → (e_toSamples_95 0 S K)) ∧ (¬ (8 ≤ x1) → (e_toSamples_10 x1 0 S R2 K))
def e_toSamples_2 (x1 : Int32) (S : ms) (K : ms → Prop) : Prop :=
  ∃ (I : Int32 → ms → Prop) (μ : Int32 → ms → Nat), I x1 S ∧ ∀ yx1 yS, I yx1 yS → b_toSamples_2 yx1 yS (fun zx1 zS => I zx1 zS ∧ μ zx1 zS < μ yx1 yS) K
def p_toSamples  (S : ms) (K : ms → Prop) : Prop :=
  e_toSamples_2 0 S K
section M_toSamples
variable {D : va_G} {z : Nat → ClassId} {A : Nat → Prop} {X : cx} {L0 : fw} {K : ms → Prop} {o : Nat} {ad : Nat → Nat}
set_option maxRecDepth 100000 in
set_option maxHeartbeats 1000000 in
theorem s_toSamples_203 (C : fcx gG D z A X R_M c_M_toSamples 6 (none)) (hQ : X.2.2.2.2.2.2.2.2.2.2 = eQ gG D z X.2.2.2.2.2.2.2.1 X.2.2.2.2.1 L0 0 0 (pM_v K o ad)) (hA : A = owA gG L0 X.2.2.2.2.1.heap.size) (hR : X.2.2.2.1 = { frames := 1, cells := 1, slots := 6, locals := 100 }) (x1 : Int32) (x2 : Int32) (s1 : Int32) (s2 : Int32) (S : ms) (R95 : Int32 → ms → Prop) (hR95 : ∀ yx1 yS, R95 yx1 yS → aw gG D z A X 6 95 [some (.ref o), some (.int yx1), none, none, none, none] [] [(0, ly_M, (o, ad, yS.1, yS.2.1, yS.2.2))] 0 0) (R103 : Int32 → Int32 → ms → Prop) (hR103 : ∀ yx1 yx2 yS, R103 yx1 yx2 yS → aw gG D z A X 6 103 [some (.ref o), some (.int yx1), some (.int yx2), none, none, none] [] [(0, ly_M, (o, ad, yS.1, yS.2.1, yS.2.2))] 0 0) (hp : b_toSamples_203 x1 x2 s1 s2 S R95 R103 K) : aw gG D z A X 6 203 [some (.ref o), some (.int x1), some (.int x2), none, none, none] [.int s2, .int s1, .ref (ad 25)] [(0, ly_M, (o, ad, S.1, S.2.1, S.2.2))] 0 0 := by
  unfold b_toSamples_203 at hp
  refine a_iast C 0 25 d_toSamples_203 rfl rfl rfl hp.1 ?_
  have hp := hp.2
  refine aw_eq (lo' := _) (st' := _) (L' := [(0, ly_M, (o, ad, S.1, va_up S.2.1 25 (upd (S.2.1 25) s1.toNatClampNeg s2), S.2.2))]) rfl rfl rfl ?_
  refine a_iinc (v := x2 + 1) (lo' := [some (.ref o), some (.int x1), some (.int (x2 + 1)), none, none, none]) C d_toSamples_204 rfl rfl (by decide) rfl ?_
  refine a_goto (tgt := 103) C d_toSamples_207 (by decide) ?_
  refine aw_lo (lo' := [some (.ref o), some (.int x1), some (.int (x2 + 1)), none, none, none]) ⟨.inr rfl, .inr rfl, .inr rfl, .inr rfl, .inr rfl, .inr rfl, trivial⟩ ?_
  exact hR103 x1 (x2 + 1) (S.1, va_up S.2.1 25 (upd (S.2.1 25) s1.toNatClampNeg s2), S.2.2) hp
set_option maxRecDepth 100000 in
set_option maxHeartbeats 1000000 in
theorem s_toSamples_116 (C : fcx gG D z A X R_M c_M_toSamples 6 (none)) (hQ : X.2.2.2.2.2.2.2.2.2.2 = eQ gG D z X.2.2.2.2.2.2.2.1 X.2.2.2.2.1 L0 0 0 (pM_v K o ad)) (hA : A = owA gG L0 X.2.2.2.2.1.heap.size) (hR : X.2.2.2.1 = { frames := 1, cells := 1, slots := 6, locals := 100 }) (x1 : Int32) (x2 : Int32) (x3 : Int64) (x5 : Int32) (S : ms) (R95 : Int32 → ms → Prop) (hR95 : ∀ yx1 yS, R95 yx1 yS → aw gG D z A X 6 95 [some (.ref o), some (.int yx1), none, none, none, none] [] [(0, ly_M, (o, ad, yS.1, yS.2.1, yS.2.2))] 0 0) (R103 : Int32 → Int32 → ms → Prop) (hR103 : ∀ yx1 yx2 yS, R103 yx1 yx2 yS → aw gG D z A X 6 103 [some (.ref o), some (.int yx1), some (.int yx2), none, none, none] [] [(0, ly_M, (o, ad, yS.1, yS.2.1, yS.2.2))] 0 0) (R116 : Int32 → Int32 → Int64 → Int32 → ms → Prop) (hR116 : ∀ yx1 yx2 yx3 yx5 yS, R116 yx1 yx2 yx3 yx5 yS → aw gG D z A X 6 116 [some (.ref o), some (.int yx1), some (.int yx2), some (.long yx3), none, some (.int yx5)] [] [(0, ly_M, (o, ad, yS.1, yS.2.1, yS.2.2))] 0 0) (hp : b_toSamples_116 x1 x2 x3 x5 S R95 R103 R116 K) : aw gG D z A X 6 116 [some (.ref o), some (.int x1), some (.int x2), some (.long x3), none, some (.int x5)] [] [(0, ly_M, (o, ad, S.1, S.2.1, S.2.2))] 0 0 := by
  unfold b_toSamples_116 at hp
  refine a_iload C d_toSamples_116 rfl ?_
  refine a_bipush (v := 8) C d_toSamples_118 (by decide) ?_
  refine a_icmp_ge (tgt := 158) C d_toSamples_120 (by decide) ⟨fun hc => ?_, fun hc => ?_⟩
  · have hp := hp.1 hc
    refine a_ldc2 (v := 128) C d_toSamples_158 k_M_169 ?_
    refine a_lload_n C d_toSamples_161 rfl rfl ?_
    refine a_bipush (v := 17) C d_toSamples_162 (by decide) ?_
    refine a_lshr C d_toSamples_164 ?_
    refine a_ladd C d_toSamples_165 ?_
    refine a_lstore_n (lo' := [some (.ref o), some (.int x1), some (.int x2), some (.long (128 + (x3 >>> ((17 : Int32).toInt64 &&& 63 : Int64) : Int64))), none, some (.int x5)]) C d_toSamples_166 rfl (by decide) rfl ?_
    refine a_aload_n C d_toSamples_167 rfl rfl ?_
    refine a_getR C 0 25 d_toSamples_168 rfl rfl rfl (Nat.le_of_ble_eq_true rfl) f_M_82 ⟨Nat.le_of_ble_eq_true rfl, Nat.le_of_ble_eq_true rfl⟩ ?_
    refine a_bipush (v := 8) C d_toSamples_171 (by decide) ?_
    refine a_iload_n C d_toSamples_173 rfl rfl ?_
    refine a_imul C d_toSamples_174 ?_
    refine a_iload_n C d_toSamples_175 rfl rfl ?_
    refine a_iadd C d_toSamples_176 ?_
    refine a_lload_n C d_toSamples_177 rfl rfl ?_
    refine a_lconst (v := 0) C d_toSamples_178 (by decide) ?_
    refine a_lcmp C d_toSamples_179 ?_
    refine a_if_ge (tgt := 187) C d_toSamples_180 (by decide) ⟨fun hc => ?_, fun hc => ?_⟩
    · have hp := hp.1 hc
      refine a_lload_n C d_toSamples_187 rfl rfl ?_
      refine a_ldc2 (v := 255) C d_toSamples_188 k_M_171 ?_
      refine a_lcmp C d_toSamples_191 ?_
      refine a_if_le (tgt := 201) C d_toSamples_192 (by decide) ⟨fun hc => ?_, fun hc => ?_⟩
      · have hp := hp.1 hc
        refine a_lload_n C d_toSamples_201 rfl rfl ?_
        refine a_l2i C d_toSamples_202 ?_
        refine aw_lo (lo' := [some (.ref o), some (.int x1), some (.int x2), none, none, none]) ⟨.inr rfl, .inr rfl, .inr rfl, .inl rfl, .inr rfl, .inl rfl, trivial⟩ ?_
        exact s_toSamples_203 C hQ hA hR x1 x2 ((8 * x1) + x2) ((128 + (x3 >>> ((17 : Int32).toInt64 &&& 63 : Int64) : Int64)).toInt32) S R95 hR95 R103 hR103 hp
      · have hp := hp.2 hc
        refine a_sipush (v := 255) C d_toSamples_195 (by decide) ?_
        refine a_goto (tgt := 203) C d_toSamples_198 (by decide) ?_
        refine aw_lo (lo' := [some (.ref o), some (.int x1), some (.int x2), none, none, none]) ⟨.inr rfl, .inr rfl, .inr rfl, .inl rfl, .inr rfl, .inl rfl, trivial⟩ ?_
        exact s_toSamples_203 C hQ hA hR x1 x2 ((8 * x1) + x2) 255 S R95 hR95 R103 hR103 hp
    · have hp := hp.2 hc
      refine a_iconst (v := 0) C d_toSamples_183 (by decide) ?_
      refine a_goto (tgt := 203) C d_toSamples_184 (by decide) ?_
      refine aw_lo (lo' := [some (.ref o), some (.int x1), some (.int x2), none, none, none]) ⟨.inr rfl, .inr rfl, .inr rfl, .inl rfl, .inr rfl, .inl rfl, trivial⟩ ?_
      exact s_toSamples_203 C hQ hA hR x1 x2 ((8 * x1) + x2) 0 S R95 hR95 R103 hR103 hp
  · have hp := hp.2 hc
    refine a_lload_n C d_toSamples_123 rfl rfl ?_
    refine a_aload_n C d_toSamples_124 rfl rfl ?_
    refine a_getR C 0 23 d_toSamples_125 rfl rfl rfl (Nat.le_of_ble_eq_true rfl) f_M_75 ⟨Nat.le_of_ble_eq_true rfl, Nat.le_of_ble_eq_true rfl⟩ ?_
    refine a_bipush (v := 8) C d_toSamples_128 (by decide) ?_
    refine a_iload_n C d_toSamples_130 rfl rfl ?_
    refine a_imul C d_toSamples_131 ?_
    refine a_iload C d_toSamples_132 rfl ?_
    refine a_iadd C d_toSamples_134 ?_
    refine a_iald C 0 23 d_toSamples_135 rfl rfl rfl hp.1 ?_
    have hp := hp.2
    refine a_i2l C d_toSamples_136 ?_
    refine a_aload_n C d_toSamples_137 rfl rfl ?_
    refine a_getR C 0 24 d_toSamples_138 rfl rfl rfl (Nat.le_of_ble_eq_true rfl) f_M_78 ⟨Nat.le_of_ble_eq_true rfl, Nat.le_of_ble_eq_true rfl⟩ ?_
    refine a_bipush (v := 8) C d_toSamples_141 (by decide) ?_
    refine a_iload C d_toSamples_143 rfl ?_
    refine a_imul C d_toSamples_145 ?_
    refine a_iload_n C d_toSamples_146 rfl rfl ?_
    refine a_iadd C d_toSamples_147 ?_
    refine a_lald C 0 24 d_toSamples_148 rfl rfl rfl hp.1 ?_
    have hp := hp.2
    refine a_lmul C d_toSamples_149 ?_
    refine a_ladd C d_toSamples_150 ?_
    refine a_lstore_n (lo' := [some (.ref o), some (.int x1), some (.int x2), some (.long (x3 + (((S.2.1 23 ((8 * x1) + x5).toNatClampNeg).toInt64) * (S.2.2 24 ((8 * x5) + x2).toNatClampNeg)))), none, some (.int x5)]) C d_toSamples_151 rfl (by decide) rfl ?_
    refine a_iinc (v := x5 + 1) (lo' := [some (.ref o), some (.int x1), some (.int x2), some (.long (x3 + (((S.2.1 23 ((8 * x1) + x5).toNatClampNeg).toInt64) * (S.2.2 24 ((8 * x5) + x2).toNatClampNeg)))), none, some (.int (x5 + 1))]) C d_toSamples_152 rfl rfl (by decide) rfl ?_
    refine a_goto (tgt := 116) C d_toSamples_155 (by decide) ?_
    refine aw_lo (lo' := [some (.ref o), some (.int x1), some (.int x2), some (.long (x3 + (((S.2.1 23 ((8 * x1) + x5).toNatClampNeg).toInt64) * (S.2.2 24 ((8 * x5) + x2).toNatClampNeg)))), none, some (.int (x5 + 1))]) ⟨.inr rfl, .inr rfl, .inr rfl, .inr rfl, .inr rfl, .inr rfl, trivial⟩ ?_
    exact hR116 x1 x2 (x3 + (((S.2.1 23 ((8 * x1) + x5).toNatClampNeg).toInt64) * (S.2.2 24 ((8 * x5) + x2).toNatClampNeg))) (x5 + 1) S hp
set_option maxRecDepth 100000 in
set_option maxHeartbeats 1000000 in
theorem se_toSamples_116 (C : fcx gG D z A X R_M c_M_toSamples 6 (none)) (hQ : X.2.2.2.2.2.2.2.2.2.2 = eQ gG D z X.2.2.2.2.2.2.2.1 X.2.2.2.2.1 L0 0 0 (pM_v K o ad)) (hA : A = owA gG L0 X.2.2.2.2.1.heap.size) (hR : X.2.2.2.1 = { frames := 1, cells := 1, slots := 6, locals := 100 }) (x1 : Int32) (x2 : Int32) (x3 : Int64) (x5 : Int32) (S : ms) (R95 : Int32 → ms → Prop) (hR95 : ∀ yx1 yS, R95 yx1 yS → aw gG D z A X 6 95 [some (.ref o), some (.int yx1), none, none, none, none] [] [(0, ly_M, (o, ad, yS.1, yS.2.1, yS.2.2))] 0 0) (R103 : Int32 → Int32 → ms → Prop) (hR103 : ∀ yx1 yx2 yS, R103 yx1 yx2 yS → aw gG D z A X 6 103 [some (.ref o), some (.int yx1), some (.int yx2), none, none, none] [] [(0, ly_M, (o, ad, yS.1, yS.2.1, yS.2.2))] 0 0) (hp : e_toSamples_116 x1 x2 x3 x5 S R95 R103 K) : aw gG D z A X 6 116 [some (.ref o), some (.int x1), some (.int x2), some (.long x3), none, some (.int x5)] [] [(0, ly_M, (o, ad, S.1, S.2.1, S.2.2))] 0 0 := by
  obtain ⟨I, μ, h0, hs⟩ := hp
  have key : ∀ (n : Nat) (yx1 : Int32) (yx2 : Int32) (yx3 : Int64) (yx5 : Int32) (yS : ms), μ yx1 yx2 yx3 yx5 yS < n → I yx1 yx2 yx3 yx5 yS → aw gG D z A X 6 116 [some (.ref o), some (.int yx1), some (.int yx2), some (.long yx3), none, some (.int yx5)] [] [(0, ly_M, (o, ad, yS.1, yS.2.1, yS.2.2))] 0 0 := by
    intro n
    induction n with
    | zero => intro yx1 yx2 yx3 yx5 yS h; omega
    | succ n ih =>
      intro yx1 yx2 yx3 yx5 yS hn hI
      exact s_toSamples_116 C hQ hA hR yx1 yx2 yx3 yx5 yS R95 hR95 R103 hR103 _ (fun zx1 zx2 zx3 zx5 zS hw => ih zx1 zx2 zx3 zx5 zS (by omega) hw.1) (hs yx1 yx2 yx3 yx5 yS hI)
  exact key (μ x1 x2 x3 x5 S + 1) x1 x2 x3 x5 S (Nat.lt_succ_self _) h0
set_option maxRecDepth 100000 in
set_option maxHeartbeats 1000000 in
theorem s_toSamples_103 (C : fcx gG D z A X R_M c_M_toSamples 6 (none)) (hQ : X.2.2.2.2.2.2.2.2.2.2 = eQ gG D z X.2.2.2.2.2.2.2.1 X.2.2.2.2.1 L0 0 0 (pM_v K o ad)) (hA : A = owA gG L0 X.2.2.2.2.1.heap.size) (hR : X.2.2.2.1 = { frames := 1, cells := 1, slots := 6, locals := 100 }) (x1 : Int32) (x2 : Int32) (S : ms) (R95 : Int32 → ms → Prop) (hR95 : ∀ yx1 yS, R95 yx1 yS → aw gG D z A X 6 95 [some (.ref o), some (.int yx1), none, none, none, none] [] [(0, ly_M, (o, ad, yS.1, yS.2.1, yS.2.2))] 0 0) (R103 : Int32 → Int32 → ms → Prop) (hR103 : ∀ yx1 yx2 yS, R103 yx1 yx2 yS → aw gG D z A X 6 103 [some (.ref o), some (.int yx1), some (.int yx2), none, none, none] [] [(0, ly_M, (o, ad, yS.1, yS.2.1, yS.2.2))] 0 0) (hp : b_toSamples_103 x1 x2 S R95 R103 K) : aw gG D z A X 6 103 [some (.ref o), some (.int x1), some (.int x2), none, none, none] [] [(0, ly_M, (o, ad, S.1, S.2.1, S.2.2))] 0 0 := by
  unfold b_toSamples_103 at hp
  refine a_iload_n C d_toSamples_103 rfl rfl ?_
  refine a_bipush (v := 8) C d_toSamples_104 (by decide) ?_
  refine a_icmp_ge (tgt := 210) C d_toSamples_106 (by decide) ⟨fun hc => ?_, fun hc => ?_⟩
  · have hp := hp.1 hc
    refine a_iinc (v := x1 + 1) (lo' := [some (.ref o), some (.int (x1 + 1)), some (.int x2), none, none, none]) C d_toSamples_210 rfl rfl (by decide) rfl ?_
    refine a_goto (tgt := 95) C d_toSamples_213 (by decide) ?_
    refine aw_lo (lo' := [some (.ref o), some (.int (x1 + 1)), none, none, none, none]) ⟨.inr rfl, .inr rfl, .inl rfl, .inr rfl, .inr rfl, .inr rfl, trivial⟩ ?_
    exact hR95 (x1 + 1) S hp
  · have hp := hp.2 hc
    refine a_ldc2 (v := 65536) C d_toSamples_109 k_M_167 ?_
    refine a_lstore_n (lo' := [some (.ref o), some (.int x1), some (.int x2), some (.long 65536), none, none]) C d_toSamples_112 rfl (by decide) rfl ?_
    refine a_iconst (v := 0) C d_toSamples_113 (by decide) ?_
    refine a_istore (lo' := [some (.ref o), some (.int x1), some (.int x2), some (.long 65536), none, some (.int 0)]) C d_toSamples_114 (by decide) rfl ?_
    refine aw_lo (lo' := [some (.ref o), some (.int x1), some (.int x2), some (.long 65536), none, some (.int 0)]) ⟨.inr rfl, .inr rfl, .inr rfl, .inr rfl, .inr rfl, .inr rfl, trivial⟩ ?_
    exact se_toSamples_116 C hQ hA hR x1 x2 65536 0 S R95 hR95 R103 hR103 hp
set_option maxRecDepth 100000 in
set_option maxHeartbeats 1000000 in
theorem se_toSamples_103 (C : fcx gG D z A X R_M c_M_toSamples 6 (none)) (hQ : X.2.2.2.2.2.2.2.2.2.2 = eQ gG D z X.2.2.2.2.2.2.2.1 X.2.2.2.2.1 L0 0 0 (pM_v K o ad)) (hA : A = owA gG L0 X.2.2.2.2.1.heap.size) (hR : X.2.2.2.1 = { frames := 1, cells := 1, slots := 6, locals := 100 }) (x1 : Int32) (x2 : Int32) (S : ms) (R95 : Int32 → ms → Prop) (hR95 : ∀ yx1 yS, R95 yx1 yS → aw gG D z A X 6 95 [some (.ref o), some (.int yx1), none, none, none, none] [] [(0, ly_M, (o, ad, yS.1, yS.2.1, yS.2.2))] 0 0) (hp : e_toSamples_103 x1 x2 S R95 K) : aw gG D z A X 6 103 [some (.ref o), some (.int x1), some (.int x2), none, none, none] [] [(0, ly_M, (o, ad, S.1, S.2.1, S.2.2))] 0 0 := by
  obtain ⟨I, μ, h0, hs⟩ := hp
  have key : ∀ (n : Nat) (yx1 : Int32) (yx2 : Int32) (yS : ms), μ yx1 yx2 yS < n → I yx1 yx2 yS → aw gG D z A X 6 103 [some (.ref o), some (.int yx1), some (.int yx2), none, none, none] [] [(0, ly_M, (o, ad, yS.1, yS.2.1, yS.2.2))] 0 0 := by
    intro n
    induction n with
    | zero => intro yx1 yx2 yS h; omega
    | succ n ih =>
      intro yx1 yx2 yS hn hI
      exact s_toSamples_103 C hQ hA hR yx1 yx2 yS R95 hR95 _ (fun zx1 zx2 zS hw => ih zx1 zx2 zS (by omega) hw.1) (hs yx1 yx2 yS hI)
  exact key (μ x1 x2 S + 1) x1 x2 S (Nat.lt_succ_self _) h0
set_option maxRecDepth 100000 in
set_option maxHeartbeats 1000000 in
theorem s_toSamples_95 (C : fcx gG D z A X R_M c_M_toSamples 6 (none)) (hQ : X.2.2.2.2.2.2.2.2.2.2 = eQ gG D z X.2.2.2.2.2.2.2.1 X.2.2.2.2.1 L0 0 0 (pM_v K o ad)) (hA : A = owA gG L0 X.2.2.2.2.1.heap.size) (hR : X.2.2.2.1 = { frames := 1, cells := 1, slots := 6, locals := 100 }) (x1 : Int32) (S : ms) (R95 : Int32 → ms → Prop) (hR95 : ∀ yx1 yS, R95 yx1 yS → aw gG D z A X 6 95 [some (.ref o), some (.int yx1), none, none, none, none] [] [(0, ly_M, (o, ad, yS.1, yS.2.1, yS.2.2))] 0 0) (hp : b_toSamples_95 x1 S R95 K) : aw gG D z A X 6 95 [some (.ref o), some (.int x1), none, none, none, none] [] [(0, ly_M, (o, ad, S.1, S.2.1, S.2.2))] 0 0 := by
  unfold b_toSamples_95 at hp
  refine a_iload_n C d_toSamples_95 rfl rfl ?_
  refine a_bipush (v := 8) C d_toSamples_96 (by decide) ?_
  refine a_icmp_ge (tgt := 216) C d_toSamples_98 (by decide) ⟨fun hc => ?_, fun hc => ?_⟩
  · have hp := hp.1 hc
    exact a_vret C hQ hA d_toSamples_216 rfl ⟨S, hp, rfl, rfl⟩
  · have hp := hp.2 hc
    refine a_iconst (v := 0) C d_toSamples_101 (by decide) ?_
    refine a_istore_n (lo' := [some (.ref o), some (.int x1), some (.int 0), none, none, none]) C d_toSamples_102 rfl (by decide) rfl ?_
    refine aw_lo (lo' := [some (.ref o), some (.int x1), some (.int 0), none, none, none]) ⟨.inr rfl, .inr rfl, .inr rfl, .inr rfl, .inr rfl, .inr rfl, trivial⟩ ?_
    exact se_toSamples_103 C hQ hA hR x1 0 S R95 hR95 hp
set_option maxRecDepth 100000 in
set_option maxHeartbeats 1000000 in
theorem se_toSamples_95 (C : fcx gG D z A X R_M c_M_toSamples 6 (none)) (hQ : X.2.2.2.2.2.2.2.2.2.2 = eQ gG D z X.2.2.2.2.2.2.2.1 X.2.2.2.2.1 L0 0 0 (pM_v K o ad)) (hA : A = owA gG L0 X.2.2.2.2.1.heap.size) (hR : X.2.2.2.1 = { frames := 1, cells := 1, slots := 6, locals := 100 }) (x1 : Int32) (S : ms) (hp : e_toSamples_95 x1 S K) : aw gG D z A X 6 95 [some (.ref o), some (.int x1), none, none, none, none] [] [(0, ly_M, (o, ad, S.1, S.2.1, S.2.2))] 0 0 := by
  obtain ⟨I, μ, h0, hs⟩ := hp
  have key : ∀ (n : Nat) (yx1 : Int32) (yS : ms), μ yx1 yS < n → I yx1 yS → aw gG D z A X 6 95 [some (.ref o), some (.int yx1), none, none, none, none] [] [(0, ly_M, (o, ad, yS.1, yS.2.1, yS.2.2))] 0 0 := by
    intro n
    induction n with
    | zero => intro yx1 yS h; omega
    | succ n ih =>
      intro yx1 yS hn hI
      exact s_toSamples_95 C hQ hA hR yx1 yS _ (fun zx1 zS hw => ih zx1 zS (by omega) hw.1) (hs yx1 yS hI)
  exact key (μ x1 S + 1) x1 S (Nat.lt_succ_self _) h0
set_option maxRecDepth 100000 in
set_option maxHeartbeats 1000000 in
theorem s_toSamples_23 (C : fcx gG D z A X R_M c_M_toSamples 6 (none)) (hQ : X.2.2.2.2.2.2.2.2.2.2 = eQ gG D z X.2.2.2.2.2.2.2.1 X.2.2.2.2.1 L0 0 0 (pM_v K o ad)) (hA : A = owA gG L0 X.2.2.2.2.1.heap.size) (hR : X.2.2.2.1 = { frames := 1, cells := 1, slots := 6, locals := 100 }) (x1 : Int32) (x2 : Int32) (x3 : Int64) (x5 : Int32) (S : ms) (R2 : Int32 → ms → Prop) (hR2 : ∀ yx1 yS, R2 yx1 yS → aw gG D z A X 6 2 [some (.ref o), some (.int yx1), none, none, none, none] [] [(0, ly_M, (o, ad, yS.1, yS.2.1, yS.2.2))] 0 0) (R10 : Int32 → Int32 → ms → Prop) (hR10 : ∀ yx1 yx2 yS, R10 yx1 yx2 yS → aw gG D z A X 6 10 [some (.ref o), some (.int yx1), some (.int yx2), none, none, none] [] [(0, ly_M, (o, ad, yS.1, yS.2.1, yS.2.2))] 0 0) (R23 : Int32 → Int32 → Int64 → Int32 → ms → Prop) (hR23 : ∀ yx1 yx2 yx3 yx5 yS, R23 yx1 yx2 yx3 yx5 yS → aw gG D z A X 6 23 [some (.ref o), some (.int yx1), some (.int yx2), some (.long yx3), none, some (.int yx5)] [] [(0, ly_M, (o, ad, yS.1, yS.2.1, yS.2.2))] 0 0) (hp : b_toSamples_23 x1 x2 x3 x5 S R2 R10 R23 K) : aw gG D z A X 6 23 [some (.ref o), some (.int x1), some (.int x2), some (.long x3), none, some (.int x5)] [] [(0, ly_M, (o, ad, S.1, S.2.1, S.2.2))] 0 0 := by
  unfold b_toSamples_23 at hp
  refine a_iload C d_toSamples_23 rfl ?_
  refine a_bipush (v := 8) C d_toSamples_25 (by decide) ?_
  refine a_icmp_ge (tgt := 66) C d_toSamples_27 (by decide) ⟨fun hc => ?_, fun hc => ?_⟩
  · have hp := hp.1 hc
    refine a_aload_n C d_toSamples_66 rfl rfl ?_
    refine a_getR C 0 24 d_toSamples_67 rfl rfl rfl (Nat.le_of_ble_eq_true rfl) f_M_78 ⟨Nat.le_of_ble_eq_true rfl, Nat.le_of_ble_eq_true rfl⟩ ?_
    refine a_bipush (v := 8) C d_toSamples_70 (by decide) ?_
    refine a_iload_n C d_toSamples_72 rfl rfl ?_
    refine a_imul C d_toSamples_73 ?_
    refine a_iload_n C d_toSamples_74 rfl rfl ?_
    refine a_iadd C d_toSamples_75 ?_
    refine a_lload_n C d_toSamples_76 rfl rfl ?_
    refine a_bipush (v := 9) C d_toSamples_77 (by decide) ?_
    refine a_lshr C d_toSamples_79 ?_
    refine a_last C 0 24 d_toSamples_80 rfl rfl rfl hp.1 ?_
    have hp := hp.2
    refine aw_eq (lo' := _) (st' := _) (L' := [(0, ly_M, (o, ad, S.1, S.2.1, va_up S.2.2 24 (vp_updL (S.2.2 24) ((8 * x1) + x2).toNatClampNeg (x3 >>> ((9 : Int32).toInt64 &&& 63 : Int64) : Int64))))]) rfl rfl rfl ?_
    refine a_iinc (v := x2 + 1) (lo' := [some (.ref o), some (.int x1), some (.int (x2 + 1)), some (.long x3), none, some (.int x5)]) C d_toSamples_81 rfl rfl (by decide) rfl ?_
    refine a_goto (tgt := 10) C d_toSamples_84 (by decide) ?_
    refine aw_lo (lo' := [some (.ref o), some (.int x1), some (.int (x2 + 1)), none, none, none]) ⟨.inr rfl, .inr rfl, .inr rfl, .inl rfl, .inr rfl, .inl rfl, trivial⟩ ?_
    exact hR10 x1 (x2 + 1) (S.1, S.2.1, va_up S.2.2 24 (vp_updL (S.2.2 24) ((8 * x1) + x2).toNatClampNeg (x3 >>> ((9 : Int32).toInt64 &&& 63 : Int64) : Int64))) hp
  · have hp := hp.2 hc
    refine a_lload_n C d_toSamples_30 rfl rfl ?_
    refine a_aload_n C d_toSamples_31 rfl rfl ?_
    refine a_getR C 0 23 d_toSamples_32 rfl rfl rfl (Nat.le_of_ble_eq_true rfl) f_M_75 ⟨Nat.le_of_ble_eq_true rfl, Nat.le_of_ble_eq_true rfl⟩ ?_
    refine a_bipush (v := 8) C d_toSamples_35 (by decide) ?_
    refine a_iload_n C d_toSamples_37 rfl rfl ?_
    refine a_imul C d_toSamples_38 ?_
    refine a_iload C d_toSamples_39 rfl ?_
    refine a_iadd C d_toSamples_41 ?_
    refine a_iald C 0 23 d_toSamples_42 rfl rfl rfl hp.1 ?_
    have hp := hp.2
    refine a_i2l C d_toSamples_43 ?_
    refine a_aload_n C d_toSamples_44 rfl rfl ?_
    refine a_getR C 0 25 d_toSamples_45 rfl rfl rfl (Nat.le_of_ble_eq_true rfl) f_M_82 ⟨Nat.le_of_ble_eq_true rfl, Nat.le_of_ble_eq_true rfl⟩ ?_
    refine a_bipush (v := 8) C d_toSamples_48 (by decide) ?_
    refine a_iload_n C d_toSamples_50 rfl rfl ?_
    refine a_imul C d_toSamples_51 ?_
    refine a_iload C d_toSamples_52 rfl ?_
    refine a_iadd C d_toSamples_54 ?_
    refine a_iald C 0 25 d_toSamples_55 rfl rfl rfl hp.1 ?_
    have hp := hp.2
    refine a_i2l C d_toSamples_56 ?_
    refine a_lmul C d_toSamples_57 ?_
    refine a_ladd C d_toSamples_58 ?_
    refine a_lstore_n (lo' := [some (.ref o), some (.int x1), some (.int x2), some (.long (x3 + (((S.2.1 23 ((8 * x2) + x5).toNatClampNeg).toInt64) * ((S.2.1 25 ((8 * x1) + x5).toNatClampNeg).toInt64)))), none, some (.int x5)]) C d_toSamples_59 rfl (by decide) rfl ?_
    refine a_iinc (v := x5 + 1) (lo' := [some (.ref o), some (.int x1), some (.int x2), some (.long (x3 + (((S.2.1 23 ((8 * x2) + x5).toNatClampNeg).toInt64) * ((S.2.1 25 ((8 * x1) + x5).toNatClampNeg).toInt64)))), none, some (.int (x5 + 1))]) C d_toSamples_60 rfl rfl (by decide) rfl ?_
    refine a_goto (tgt := 23) C d_toSamples_63 (by decide) ?_
    refine aw_lo (lo' := [some (.ref o), some (.int x1), some (.int x2), some (.long (x3 + (((S.2.1 23 ((8 * x2) + x5).toNatClampNeg).toInt64) * ((S.2.1 25 ((8 * x1) + x5).toNatClampNeg).toInt64)))), none, some (.int (x5 + 1))]) ⟨.inr rfl, .inr rfl, .inr rfl, .inr rfl, .inr rfl, .inr rfl, trivial⟩ ?_
    exact hR23 x1 x2 (x3 + (((S.2.1 23 ((8 * x2) + x5).toNatClampNeg).toInt64) * ((S.2.1 25 ((8 * x1) + x5).toNatClampNeg).toInt64))) (x5 + 1) S hp
set_option maxRecDepth 100000 in
set_option maxHeartbeats 1000000 in
theorem se_toSamples_23 (C : fcx gG D z A X R_M c_M_toSamples 6 (none)) (hQ : X.2.2.2.2.2.2.2.2.2.2 = eQ gG D z X.2.2.2.2.2.2.2.1 X.2.2.2.2.1 L0 0 0 (pM_v K o ad)) (hA : A = owA gG L0 X.2.2.2.2.1.heap.size) (hR : X.2.2.2.1 = { frames := 1, cells := 1, slots := 6, locals := 100 }) (x1 : Int32) (x2 : Int32) (x3 : Int64) (x5 : Int32) (S : ms) (R2 : Int32 → ms → Prop) (hR2 : ∀ yx1 yS, R2 yx1 yS → aw gG D z A X 6 2 [some (.ref o), some (.int yx1), none, none, none, none] [] [(0, ly_M, (o, ad, yS.1, yS.2.1, yS.2.2))] 0 0) (R10 : Int32 → Int32 → ms → Prop) (hR10 : ∀ yx1 yx2 yS, R10 yx1 yx2 yS → aw gG D z A X 6 10 [some (.ref o), some (.int yx1), some (.int yx2), none, none, none] [] [(0, ly_M, (o, ad, yS.1, yS.2.1, yS.2.2))] 0 0) (hp : e_toSamples_23 x1 x2 x3 x5 S R2 R10 K) : aw gG D z A X 6 23 [some (.ref o), some (.int x1), some (.int x2), some (.long x3), none, some (.int x5)] [] [(0, ly_M, (o, ad, S.1, S.2.1, S.2.2))] 0 0 := by
  obtain ⟨I, μ, h0, hs⟩ := hp
  have key : ∀ (n : Nat) (yx1 : Int32) (yx2 : Int32) (yx3 : Int64) (yx5 : Int32) (yS : ms), μ yx1 yx2 yx3 yx5 yS < n → I yx1 yx2 yx3 yx5 yS → aw gG D z A X 6 23 [some (.ref o), some (.int yx1), some (.int yx2), some (.long yx3), none, some (.int yx5)] [] [(0, ly_M, (o, ad, yS.1, yS.2.1, yS.2.2))] 0 0 := by
    intro n
    induction n with
    | zero => intro yx1 yx2 yx3 yx5 yS h; omega
    | succ n ih =>
      intro yx1 yx2 yx3 yx5 yS hn hI
      exact s_toSamples_23 C hQ hA hR yx1 yx2 yx3 yx5 yS R2 hR2 R10 hR10 _ (fun zx1 zx2 zx3 zx5 zS hw => ih zx1 zx2 zx3 zx5 zS (by omega) hw.1) (hs yx1 yx2 yx3 yx5 yS hI)
  exact key (μ x1 x2 x3 x5 S + 1) x1 x2 x3 x5 S (Nat.lt_succ_self _) h0
set_option maxRecDepth 100000 in
set_option maxHeartbeats 1000000 in
theorem s_toSamples_10 (C : fcx gG D z A X R_M c_M_toSamples 6 (none)) (hQ : X.2.2.2.2.2.2.2.2.2.2 = eQ gG D z X.2.2.2.2.2.2.2.1 X.2.2.2.2.1 L0 0 0 (pM_v K o ad)) (hA : A = owA gG L0 X.2.2.2.2.1.heap.size) (hR : X.2.2.2.1 = { frames := 1, cells := 1, slots := 6, locals := 100 }) (x1 : Int32) (x2 : Int32) (S : ms) (R2 : Int32 → ms → Prop) (hR2 : ∀ yx1 yS, R2 yx1 yS → aw gG D z A X 6 2 [some (.ref o), some (.int yx1), none, none, none, none] [] [(0, ly_M, (o, ad, yS.1, yS.2.1, yS.2.2))] 0 0) (R10 : Int32 → Int32 → ms → Prop) (hR10 : ∀ yx1 yx2 yS, R10 yx1 yx2 yS → aw gG D z A X 6 10 [some (.ref o), some (.int yx1), some (.int yx2), none, none, none] [] [(0, ly_M, (o, ad, yS.1, yS.2.1, yS.2.2))] 0 0) (hp : b_toSamples_10 x1 x2 S R2 R10 K) : aw gG D z A X 6 10 [some (.ref o), some (.int x1), some (.int x2), none, none, none] [] [(0, ly_M, (o, ad, S.1, S.2.1, S.2.2))] 0 0 := by
  unfold b_toSamples_10 at hp
  refine a_iload_n C d_toSamples_10 rfl rfl ?_
  refine a_bipush (v := 8) C d_toSamples_11 (by decide) ?_
  refine a_icmp_ge (tgt := 87) C d_toSamples_13 (by decide) ⟨fun hc => ?_, fun hc => ?_⟩
  · have hp := hp.1 hc
    refine a_iinc (v := x1 + 1) (lo' := [some (.ref o), some (.int (x1 + 1)), some (.int x2), none, none, none]) C d_toSamples_87 rfl rfl (by decide) rfl ?_
    refine a_goto (tgt := 2) C d_toSamples_90 (by decide) ?_
    refine aw_lo (lo' := [some (.ref o), some (.int (x1 + 1)), none, none, none, none]) ⟨.inr rfl, .inr rfl, .inl rfl, .inr rfl, .inr rfl, .inr rfl, trivial⟩ ?_
    exact hR2 (x1 + 1) S hp
  · have hp := hp.2 hc
    refine a_ldc2 (v := 256) C d_toSamples_16 k_M_165 ?_
    refine a_lstore_n (lo' := [some (.ref o), some (.int x1), some (.int x2), some (.long 256), none, none]) C d_toSamples_19 rfl (by decide) rfl ?_
    refine a_iconst (v := 0) C d_toSamples_20 (by decide) ?_
    refine a_istore (lo' := [some (.ref o), some (.int x1), some (.int x2), some (.long 256), none, some (.int 0)]) C d_toSamples_21 (by decide) rfl ?_
    refine aw_lo (lo' := [some (.ref o), some (.int x1), some (.int x2), some (.long 256), none, some (.int 0)]) ⟨.inr rfl, .inr rfl, .inr rfl, .inr rfl, .inr rfl, .inr rfl, trivial⟩ ?_
    exact se_toSamples_23 C hQ hA hR x1 x2 256 0 S R2 hR2 R10 hR10 hp
set_option maxRecDepth 100000 in
set_option maxHeartbeats 1000000 in
theorem se_toSamples_10 (C : fcx gG D z A X R_M c_M_toSamples 6 (none)) (hQ : X.2.2.2.2.2.2.2.2.2.2 = eQ gG D z X.2.2.2.2.2.2.2.1 X.2.2.2.2.1 L0 0 0 (pM_v K o ad)) (hA : A = owA gG L0 X.2.2.2.2.1.heap.size) (hR : X.2.2.2.1 = { frames := 1, cells := 1, slots := 6, locals := 100 }) (x1 : Int32) (x2 : Int32) (S : ms) (R2 : Int32 → ms → Prop) (hR2 : ∀ yx1 yS, R2 yx1 yS → aw gG D z A X 6 2 [some (.ref o), some (.int yx1), none, none, none, none] [] [(0, ly_M, (o, ad, yS.1, yS.2.1, yS.2.2))] 0 0) (hp : e_toSamples_10 x1 x2 S R2 K) : aw gG D z A X 6 10 [some (.ref o), some (.int x1), some (.int x2), none, none, none] [] [(0, ly_M, (o, ad, S.1, S.2.1, S.2.2))] 0 0 := by
  obtain ⟨I, μ, h0, hs⟩ := hp
  have key : ∀ (n : Nat) (yx1 : Int32) (yx2 : Int32) (yS : ms), μ yx1 yx2 yS < n → I yx1 yx2 yS → aw gG D z A X 6 10 [some (.ref o), some (.int yx1), some (.int yx2), none, none, none] [] [(0, ly_M, (o, ad, yS.1, yS.2.1, yS.2.2))] 0 0 := by
    intro n
    induction n with
    | zero => intro yx1 yx2 yS h; omega
    | succ n ih =>
      intro yx1 yx2 yS hn hI
      exact s_toSamples_10 C hQ hA hR yx1 yx2 yS R2 hR2 _ (fun zx1 zx2 zS hw => ih zx1 zx2 zS (by omega) hw.1) (hs yx1 yx2 yS hI)
  exact key (μ x1 x2 S + 1) x1 x2 S (Nat.lt_succ_self _) h0
set_option maxRecDepth 100000 in
set_option maxHeartbeats 1000000 in
theorem s_toSamples_2 (C : fcx gG D z A X R_M c_M_toSamples 6 (none)) (hQ : X.2.2.2.2.2.2.2.2.2.2 = eQ gG D z X.2.2.2.2.2.2.2.1 X.2.2.2.2.1 L0 0 0 (pM_v K o ad)) (hA : A = owA gG L0 X.2.2.2.2.1.heap.size) (hR : X.2.2.2.1 = { frames := 1, cells := 1, slots := 6, locals := 100 }) (x1 : Int32) (S : ms) (R2 : Int32 → ms → Prop) (hR2 : ∀ yx1 yS, R2 yx1 yS → aw gG D z A X 6 2 [some (.ref o), some (.int yx1), none, none, none, none] [] [(0, ly_M, (o, ad, yS.1, yS.2.1, yS.2.2))] 0 0) (hp : b_toSamples_2 x1 S R2 K) : aw gG D z A X 6 2 [some (.ref o), some (.int x1), none, none, none, none] [] [(0, ly_M, (o, ad, S.1, S.2.1, S.2.2))] 0 0 := by
  unfold b_toSamples_2 at hp
  refine a_iload_n C d_toSamples_2 rfl rfl ?_
  refine a_bipush (v := 8) C d_toSamples_3 (by decide) ?_
  refine a_icmp_ge (tgt := 93) C d_toSamples_5 (by decide) ⟨fun hc => ?_, fun hc => ?_⟩
  · have hp := hp.1 hc
    refine a_iconst (v := 0) C d_toSamples_93 (by decide) ?_
    refine a_istore_n (lo' := [some (.ref o), some (.int 0), none, none, none, none]) C d_toSamples_94 rfl (by decide) rfl ?_
    refine aw_lo (lo' := [some (.ref o), some (.int 0), none, none, none, none]) ⟨.inr rfl, .inr rfl, .inr rfl, .inr rfl, .inr rfl, .inr rfl, trivial⟩ ?_
    exact se_toSamples_95 C hQ hA hR 0 S  hp
  · have hp := hp.2 hc
    refine a_iconst (v := 0) C d_toSamples_8 (by decide) ?_
    refine a_istore_n (lo' := [some (.ref o), some (.int x1), some (.int 0), none, none, none]) C d_toSamples_9 rfl (by decide) rfl ?_
    refine aw_lo (lo' := [some (.ref o), some (.int x1), some (.int 0), none, none, none]) ⟨.inr rfl, .inr rfl, .inr rfl, .inr rfl, .inr rfl, .inr rfl, trivial⟩ ?_
    exact se_toSamples_10 C hQ hA hR x1 0 S R2 hR2 hp
set_option maxRecDepth 100000 in
set_option maxHeartbeats 1000000 in
theorem se_toSamples_2 (C : fcx gG D z A X R_M c_M_toSamples 6 (none)) (hQ : X.2.2.2.2.2.2.2.2.2.2 = eQ gG D z X.2.2.2.2.2.2.2.1 X.2.2.2.2.1 L0 0 0 (pM_v K o ad)) (hA : A = owA gG L0 X.2.2.2.2.1.heap.size) (hR : X.2.2.2.1 = { frames := 1, cells := 1, slots := 6, locals := 100 }) (x1 : Int32) (S : ms) (hp : e_toSamples_2 x1 S K) : aw gG D z A X 6 2 [some (.ref o), some (.int x1), none, none, none, none] [] [(0, ly_M, (o, ad, S.1, S.2.1, S.2.2))] 0 0 := by
  obtain ⟨I, μ, h0, hs⟩ := hp
  have key : ∀ (n : Nat) (yx1 : Int32) (yS : ms), μ yx1 yS < n → I yx1 yS → aw gG D z A X 6 2 [some (.ref o), some (.int yx1), none, none, none, none] [] [(0, ly_M, (o, ad, yS.1, yS.2.1, yS.2.2))] 0 0 := by
    intro n
    induction n with
    | zero => intro yx1 yS h; omega
    | succ n ih =>
      intro yx1 yS hn hI
      exact s_toSamples_2 C hQ hA hR yx1 yS _ (fun zx1 zS hw => ih zx1 zS (by omega) hw.1) (hs yx1 yS hI)
  exact key (μ x1 S + 1) x1 S (Nat.lt_succ_self _) h0
set_option maxRecDepth 100000 in
set_option maxHeartbeats 1000000 in
theorem s_toSamples_0 (C : fcx gG D z A X R_M c_M_toSamples 6 (none)) (hQ : X.2.2.2.2.2.2.2.2.2.2 = eQ gG D z X.2.2.2.2.2.2.2.1 X.2.2.2.2.1 L0 0 0 (pM_v K o ad)) (hA : A = owA gG L0 X.2.2.2.2.1.heap.size) (hR : X.2.2.2.1 = { frames := 1, cells := 1, slots := 6, locals := 100 })  (S : ms) (hp : p_toSamples  S K) : aw gG D z A X 6 0 [some (.ref o), none, none, none, none, none] [] [(0, ly_M, (o, ad, S.1, S.2.1, S.2.2))] 0 0 := by
  unfold p_toSamples at hp
  refine a_iconst (v := 0) C d_toSamples_0 (by decide) ?_
  refine a_istore_n (lo' := [some (.ref o), some (.int 0), none, none, none, none]) C d_toSamples_1 rfl (by decide) rfl ?_
  refine aw_lo (lo' := [some (.ref o), some (.int 0), none, none, none, none]) ⟨.inr rfl, .inr rfl, .inr rfl, .inr rfl, .inr rfl, .inr rfl, trivial⟩ ?_
  exact se_toSamples_2 C hQ hA hR 0 S  hp
end M_toSamples
section M_toSamplesc
variable {D : va_G} {z : Nat → ClassId} {o : Nat} {ad : Nat → Nat}
set_option maxRecDepth 100000 in
theorem ct_toSamples {l : Launch}  (S : ms) {K : ms → Prop} (hp : p_toSamples  S K) : ct gG D z l n_M_toSamples c_M_toSamples 6 (none) 1 100 [.ref o] [(0, ly_M, (o, ad, S.1, S.2.1, S.2.2))] 0 0 (pM_v K o ad) := by
  refine ct_of (lo := [some (.ref o), none, none, none, none, none]) (by decide) g_ok (Nat.le_of_ble_eq_true rfl) rfl ?_
  intro X A _ C hR hQ hA _
  exact s_toSamples_0 C hQ hA hR  S hp
end M_toSamplesc
def p_upward (x0 : Int32) (x1 : Int32) (K : Int32 → Prop) : Prop :=
  ¬ x1 = 0 ∧ (K (((x0 + x1) - 1) / x1))
section M_upward
variable {D : va_G} {z : Nat → ClassId} {A : Nat → Prop} {X : cx} {L0 : fw} {K : Int32 → Prop}
set_option maxRecDepth 100000 in
set_option maxHeartbeats 1000000 in
theorem s_upward_0 (C : fcx gG D z A X R_M c_M_upward 2 (some .int)) (hQ : X.2.2.2.2.2.2.2.2.2.2 = eQ gG D z X.2.2.2.2.2.2.2.1 X.2.2.2.2.1 L0 0 0 (pS_i K)) (hA : A = owA gG L0 X.2.2.2.2.1.heap.size) (hR : X.2.2.2.1 = { frames := 1, cells := 1, slots := 6, locals := 100 }) (x0 : Int32) (x1 : Int32) (hp : p_upward x0 x1 K) : aw gG D z A X 2 0 [some (.int x0), some (.int x1)] [] ([] : fw) 0 0 := by
  unfold p_upward at hp
  refine a_iload_n C d_upward_0 rfl rfl ?_
  refine a_iload_n C d_upward_1 rfl rfl ?_
  refine a_iadd C d_upward_2 ?_
  refine a_iconst (v := 1) C d_upward_3 (by decide) ?_
  refine a_isub C d_upward_4 ?_
  refine a_iload_n C d_upward_5 rfl rfl ?_
  refine a_idiv C d_upward_6 hp.1 ?_
  have hp := hp.2
  exact a_iret (ty := .int) C hQ hA d_upward_7 rfl rfl ⟨_, hp, rfl, rfl⟩
end M_upward
section M_upwardc
variable {D : va_G} {z : Nat → ClassId}
set_option maxRecDepth 100000 in
theorem ct_upward {l : Launch} (x0 : Int32) (x1 : Int32) {K : Int32 → Prop} (hp : p_upward x0 x1 K) : ct gG D z l n_M_upward c_M_upward 2 (some .int) 1 100 [.int x0, .int x1] ([] : fw) 0 0 (pS_i K) := by
  refine ct_of (lo := [some (.int x0), some (.int x1)]) (by decide) g_ok (Nat.le_of_ble_eq_true rfl) rfl ?_
  intro X A _ C hR hQ hA _
  exact s_upward_0 C hQ hA hR x0 x1 hp
end M_upwardc
def b_greatest_59 (x1 : Int32) (x2 : Int32) (x4 : Int32) (s0 : Int32) (S : ms) (R5 : Int32 → Int32 → Int32 → Int32 → ms → Prop) (K : Int32 → ms → Prop) : Prop :=
  R5 x1 x2 s0 (x4 + 1) S
def b_greatest_45 (x1 : Int32) (x2 : Int32) (x3 : Int32) (x4 : Int32) (s0 : Int32) (S : ms) (R5 : Int32 → Int32 → Int32 → Int32 → ms → Prop) (K : Int32 → ms → Prop) : Prop :=
  (s0 ≤ x3 → (b_greatest_59 x1 x2 x4 x3 S R5 K)) ∧ (¬ (s0 ≤ x3) → (b_greatest_59 x1 x2 x4 s0 S R5 K))
def b_greatest_5 (x1 : Int32) (x2 : Int32) (x3 : Int32) (x4 : Int32) (S : ms) (R5 : Int32 → Int32 → Int32 → Int32 → ms → Prop) (K : Int32 → ms → Prop) : Prop :=
  vp_in x1 3 ∧ (((S.2.1 14 x1.toNatClampNeg) ≤ x4 → (K x3 S)) ∧ (¬ ((S.2.1 14 x1.toNatClampNeg) ≤ x4) → ((x2 = 0 → (vp_in ((3 * x1) + x4) 9 ∧ (b_greatest_45 x1 x2 x3 x4 (S.2.1 16 ((3 * x1) + x4).toNatClampNeg) S R5 K))) ∧ (¬ (x2 = 0) → (vp_in ((3 * x1) + x4) 9 ∧ (b_greatest_45 x1 x2 x3 x4 (S.2.1 15 ((3 * x1) + x4).toNatClampNeg) S R5 K))))))
def e_greatest_5 (x1 : Int32) (x2 : Int32) (x3 : Int32) (x4 : Int32) (S : ms) (K : Int32 → ms → Prop) : Prop :=
  ∃ (I : Int32 → Int32 → Int32 → Int32 → ms → Prop) (μ : Int32 → Int32 → Int32 → Int32 → ms → Nat), I x1 x2 x3 x4 S ∧ ∀ yx1 yx2 yx3 yx4 yS, I yx1 yx2 yx3 yx4 yS → b_greatest_5 yx1 yx2 yx3 yx4 yS (fun zx1 zx2 zx3 zx4 zS => I zx1 zx2 zx3 zx4 zS ∧ μ zx1 zx2 zx3 zx4 zS < μ yx1 yx2 yx3 yx4 yS) K
def p_greatest (x1 : Int32) (x2 : Int32) (S : ms) (K : Int32 → ms → Prop) : Prop :=
  e_greatest_5 x1 x2 1 0 S K
section M_greatest
variable {D : va_G} {z : Nat → ClassId} {A : Nat → Prop} {X : cx} {L0 : fw} {K : Int32 → ms → Prop} {o : Nat} {ad : Nat → Nat}
set_option maxRecDepth 100000 in
set_option maxHeartbeats 1000000 in
theorem s_greatest_59 (C : fcx gG D z A X R_M c_M_greatest 6 (some .int)) (hQ : X.2.2.2.2.2.2.2.2.2.2 = eQ gG D z X.2.2.2.2.2.2.2.1 X.2.2.2.2.1 L0 0 0 (pM_i K o ad)) (hA : A = owA gG L0 X.2.2.2.2.1.heap.size) (hR : X.2.2.2.1 = { frames := 1, cells := 1, slots := 6, locals := 100 }) (x1 : Int32) (x2 : Int32) (x4 : Int32) (s0 : Int32) (S : ms) (R5 : Int32 → Int32 → Int32 → Int32 → ms → Prop) (hR5 : ∀ yx1 yx2 yx3 yx4 yS, R5 yx1 yx2 yx3 yx4 yS → aw gG D z A X 6 5 [some (.ref o), some (.int yx1), some (.int yx2), some (.int yx3), some (.int yx4), none] [] [(0, ly_M, (o, ad, yS.1, yS.2.1, yS.2.2))] 0 0) (hp : b_greatest_59 x1 x2 x4 s0 S R5 K) : aw gG D z A X 6 59 [some (.ref o), some (.int x1), some (.int x2), none, some (.int x4), none] [.int s0] [(0, ly_M, (o, ad, S.1, S.2.1, S.2.2))] 0 0 := by
  unfold b_greatest_59 at hp
  refine a_istore_n (lo' := [some (.ref o), some (.int x1), some (.int x2), some (.int s0), some (.int x4), none]) C d_greatest_59 rfl (by decide) rfl ?_
  refine a_iinc (v := x4 + 1) (lo' := [some (.ref o), some (.int x1), some (.int x2), some (.int s0), some (.int (x4 + 1)), none]) C d_greatest_60 rfl rfl (by decide) rfl ?_
  refine a_goto (tgt := 5) C d_greatest_63 (by decide) ?_
  refine aw_lo (lo' := [some (.ref o), some (.int x1), some (.int x2), some (.int s0), some (.int (x4 + 1)), none]) ⟨.inr rfl, .inr rfl, .inr rfl, .inr rfl, .inr rfl, .inr rfl, trivial⟩ ?_
  exact hR5 x1 x2 s0 (x4 + 1) S hp
set_option maxRecDepth 100000 in
set_option maxHeartbeats 1000000 in
theorem s_greatest_45 (C : fcx gG D z A X R_M c_M_greatest 6 (some .int)) (hQ : X.2.2.2.2.2.2.2.2.2.2 = eQ gG D z X.2.2.2.2.2.2.2.1 X.2.2.2.2.1 L0 0 0 (pM_i K o ad)) (hA : A = owA gG L0 X.2.2.2.2.1.heap.size) (hR : X.2.2.2.1 = { frames := 1, cells := 1, slots := 6, locals := 100 }) (x1 : Int32) (x2 : Int32) (x3 : Int32) (x4 : Int32) (s0 : Int32) (S : ms) (R5 : Int32 → Int32 → Int32 → Int32 → ms → Prop) (hR5 : ∀ yx1 yx2 yx3 yx4 yS, R5 yx1 yx2 yx3 yx4 yS → aw gG D z A X 6 5 [some (.ref o), some (.int yx1), some (.int yx2), some (.int yx3), some (.int yx4), none] [] [(0, ly_M, (o, ad, yS.1, yS.2.1, yS.2.2))] 0 0) (hp : b_greatest_45 x1 x2 x3 x4 s0 S R5 K) : aw gG D z A X 6 45 [some (.ref o), some (.int x1), some (.int x2), some (.int x3), some (.int x4), none] [.int s0] [(0, ly_M, (o, ad, S.1, S.2.1, S.2.2))] 0 0 := by
  unfold b_greatest_45 at hp
  refine a_istore (lo' := [some (.ref o), some (.int x1), some (.int x2), some (.int x3), some (.int x4), some (.int s0)]) C d_greatest_45 (by decide) rfl ?_
  refine a_iload C d_greatest_47 rfl ?_
  refine a_iload_n C d_greatest_49 rfl rfl ?_
  refine a_icmp_le (tgt := 58) C d_greatest_50 (by decide) ⟨fun hc => ?_, fun hc => ?_⟩
  · have hp := hp.1 hc
    refine a_iload_n C d_greatest_58 rfl rfl ?_
    refine aw_lo (lo' := [some (.ref o), some (.int x1), some (.int x2), none, some (.int x4), none]) ⟨.inr rfl, .inr rfl, .inr rfl, .inl rfl, .inr rfl, .inl rfl, trivial⟩ ?_
    exact s_greatest_59 C hQ hA hR x1 x2 x4 x3 S R5 hR5 hp
  · have hp := hp.2 hc
    refine a_iload C d_greatest_53 rfl ?_
    refine a_goto (tgt := 59) C d_greatest_55 (by decide) ?_
    refine aw_lo (lo' := [some (.ref o), some (.int x1), some (.int x2), none, some (.int x4), none]) ⟨.inr rfl, .inr rfl, .inr rfl, .inl rfl, .inr rfl, .inl rfl, trivial⟩ ?_
    exact s_greatest_59 C hQ hA hR x1 x2 x4 s0 S R5 hR5 hp
set_option maxRecDepth 100000 in
set_option maxHeartbeats 1000000 in
theorem s_greatest_5 (C : fcx gG D z A X R_M c_M_greatest 6 (some .int)) (hQ : X.2.2.2.2.2.2.2.2.2.2 = eQ gG D z X.2.2.2.2.2.2.2.1 X.2.2.2.2.1 L0 0 0 (pM_i K o ad)) (hA : A = owA gG L0 X.2.2.2.2.1.heap.size) (hR : X.2.2.2.1 = { frames := 1, cells := 1, slots := 6, locals := 100 }) (x1 : Int32) (x2 : Int32) (x3 : Int32) (x4 : Int32) (S : ms) (R5 : Int32 → Int32 → Int32 → Int32 → ms → Prop) (hR5 : ∀ yx1 yx2 yx3 yx4 yS, R5 yx1 yx2 yx3 yx4 yS → aw gG D z A X 6 5 [some (.ref o), some (.int yx1), some (.int yx2), some (.int yx3), some (.int yx4), none] [] [(0, ly_M, (o, ad, yS.1, yS.2.1, yS.2.2))] 0 0) (hp : b_greatest_5 x1 x2 x3 x4 S R5 K) : aw gG D z A X 6 5 [some (.ref o), some (.int x1), some (.int x2), some (.int x3), some (.int x4), none] [] [(0, ly_M, (o, ad, S.1, S.2.1, S.2.2))] 0 0 := by
  unfold b_greatest_5 at hp
  refine a_iload C d_greatest_5 rfl ?_
  refine a_aload_n C d_greatest_7 rfl rfl ?_
  refine a_getR C 0 14 d_greatest_8 rfl rfl rfl (Nat.le_of_ble_eq_true rfl) f_M_47 ⟨Nat.le_of_ble_eq_true rfl, Nat.le_of_ble_eq_true rfl⟩ ?_
  refine a_iload_n C d_greatest_11 rfl rfl ?_
  refine a_iald C 0 14 d_greatest_12 rfl rfl rfl hp.1 ?_
  have hp := hp.2
  refine a_icmp_ge (tgt := 66) C d_greatest_13 (by decide) ⟨fun hc => ?_, fun hc => ?_⟩
  · have hp := hp.1 hc
    refine a_iload_n C d_greatest_66 rfl rfl ?_
    exact a_iret (ty := .int) C hQ hA d_greatest_67 rfl rfl ⟨_, S, hp, rfl, rfl⟩
  · have hp := hp.2 hc
    refine a_iload_n C d_greatest_16 rfl rfl ?_
    refine a_if_eq (tgt := 34) C d_greatest_17 (by decide) ⟨fun hc => ?_, fun hc => ?_⟩
    · have hp := hp.1 hc
      refine a_aload_n C d_greatest_34 rfl rfl ?_
      refine a_getR C 0 16 d_greatest_35 rfl rfl rfl (Nat.le_of_ble_eq_true rfl) f_M_53 ⟨Nat.le_of_ble_eq_true rfl, Nat.le_of_ble_eq_true rfl⟩ ?_
      refine a_iconst (v := 3) C d_greatest_38 (by decide) ?_
      refine a_iload_n C d_greatest_39 rfl rfl ?_
      refine a_imul C d_greatest_40 ?_
      refine a_iload C d_greatest_41 rfl ?_
      refine a_iadd C d_greatest_43 ?_
      refine a_iald C 0 16 d_greatest_44 rfl rfl rfl hp.1 ?_
      have hp := hp.2
      refine aw_lo (lo' := [some (.ref o), some (.int x1), some (.int x2), some (.int x3), some (.int x4), none]) ⟨.inr rfl, .inr rfl, .inr rfl, .inr rfl, .inr rfl, .inr rfl, trivial⟩ ?_
      exact s_greatest_45 C hQ hA hR x1 x2 x3 x4 (S.2.1 16 ((3 * x1) + x4).toNatClampNeg) S R5 hR5 hp
    · have hp := hp.2 hc
      refine a_aload_n C d_greatest_20 rfl rfl ?_
      refine a_getR C 0 15 d_greatest_21 rfl rfl rfl (Nat.le_of_ble_eq_true rfl) f_M_50 ⟨Nat.le_of_ble_eq_true rfl, Nat.le_of_ble_eq_true rfl⟩ ?_
      refine a_iconst (v := 3) C d_greatest_24 (by decide) ?_
      refine a_iload_n C d_greatest_25 rfl rfl ?_
      refine a_imul C d_greatest_26 ?_
      refine a_iload C d_greatest_27 rfl ?_
      refine a_iadd C d_greatest_29 ?_
      refine a_iald C 0 15 d_greatest_30 rfl rfl rfl hp.1 ?_
      have hp := hp.2
      refine a_goto (tgt := 45) C d_greatest_31 (by decide) ?_
      refine aw_lo (lo' := [some (.ref o), some (.int x1), some (.int x2), some (.int x3), some (.int x4), none]) ⟨.inr rfl, .inr rfl, .inr rfl, .inr rfl, .inr rfl, .inr rfl, trivial⟩ ?_
      exact s_greatest_45 C hQ hA hR x1 x2 x3 x4 (S.2.1 15 ((3 * x1) + x4).toNatClampNeg) S R5 hR5 hp
set_option maxRecDepth 100000 in
set_option maxHeartbeats 1000000 in
theorem se_greatest_5 (C : fcx gG D z A X R_M c_M_greatest 6 (some .int)) (hQ : X.2.2.2.2.2.2.2.2.2.2 = eQ gG D z X.2.2.2.2.2.2.2.1 X.2.2.2.2.1 L0 0 0 (pM_i K o ad)) (hA : A = owA gG L0 X.2.2.2.2.1.heap.size) (hR : X.2.2.2.1 = { frames := 1, cells := 1, slots := 6, locals := 100 }) (x1 : Int32) (x2 : Int32) (x3 : Int32) (x4 : Int32) (S : ms) (hp : e_greatest_5 x1 x2 x3 x4 S K) : aw gG D z A X 6 5 [some (.ref o), some (.int x1), some (.int x2), some (.int x3), some (.int x4), none] [] [(0, ly_M, (o, ad, S.1, S.2.1, S.2.2))] 0 0 := by
  obtain ⟨I, μ, h0, hs⟩ := hp
  have key : ∀ (n : Nat) (yx1 : Int32) (yx2 : Int32) (yx3 : Int32) (yx4 : Int32) (yS : ms), μ yx1 yx2 yx3 yx4 yS < n → I yx1 yx2 yx3 yx4 yS → aw gG D z A X 6 5 [some (.ref o), some (.int yx1), some (.int yx2), some (.int yx3), some (.int yx4), none] [] [(0, ly_M, (o, ad, yS.1, yS.2.1, yS.2.2))] 0 0 := by
    intro n
    induction n with
    | zero => intro yx1 yx2 yx3 yx4 yS h; omega
    | succ n ih =>
      intro yx1 yx2 yx3 yx4 yS hn hI
      exact s_greatest_5 C hQ hA hR yx1 yx2 yx3 yx4 yS _ (fun zx1 zx2 zx3 zx4 zS hw => ih zx1 zx2 zx3 zx4 zS (by omega) hw.1) (hs yx1 yx2 yx3 yx4 yS hI)
  exact key (μ x1 x2 x3 x4 S + 1) x1 x2 x3 x4 S (Nat.lt_succ_self _) h0
set_option maxRecDepth 100000 in
set_option maxHeartbeats 1000000 in
theorem s_greatest_0 (C : fcx gG D z A X R_M c_M_greatest 6 (some .int)) (hQ : X.2.2.2.2.2.2.2.2.2.2 = eQ gG D z X.2.2.2.2.2.2.2.1 X.2.2.2.2.1 L0 0 0 (pM_i K o ad)) (hA : A = owA gG L0 X.2.2.2.2.1.heap.size) (hR : X.2.2.2.1 = { frames := 1, cells := 1, slots := 6, locals := 100 }) (x1 : Int32) (x2 : Int32) (S : ms) (hp : p_greatest x1 x2 S K) : aw gG D z A X 6 0 [some (.ref o), some (.int x1), some (.int x2), none, none, none] [] [(0, ly_M, (o, ad, S.1, S.2.1, S.2.2))] 0 0 := by
  unfold p_greatest at hp
  refine a_iconst (v := 1) C d_greatest_0 (by decide) ?_
  refine a_istore_n (lo' := [some (.ref o), some (.int x1), some (.int x2), some (.int 1), none, none]) C d_greatest_1 rfl (by decide) rfl ?_
  refine a_iconst (v := 0) C d_greatest_2 (by decide) ?_
  refine a_istore (lo' := [some (.ref o), some (.int x1), some (.int x2), some (.int 1), some (.int 0), none]) C d_greatest_3 (by decide) rfl ?_
  refine aw_lo (lo' := [some (.ref o), some (.int x1), some (.int x2), some (.int 1), some (.int 0), none]) ⟨.inr rfl, .inr rfl, .inr rfl, .inr rfl, .inr rfl, .inr rfl, trivial⟩ ?_
  exact se_greatest_5 C hQ hA hR x1 x2 1 0 S  hp
end M_greatest
section M_greatestc
variable {D : va_G} {z : Nat → ClassId} {o : Nat} {ad : Nat → Nat}
set_option maxRecDepth 100000 in
theorem ct_greatest {l : Launch} (x1 : Int32) (x2 : Int32) (S : ms) {K : Int32 → ms → Prop} (hp : p_greatest x1 x2 S K) : ct gG D z l n_M_greatest c_M_greatest 6 (some .int) 1 100 [.ref o, .int x1, .int x2] [(0, ly_M, (o, ad, S.1, S.2.1, S.2.2))] 0 0 (pM_i K o ad) := by
  refine ct_of (lo := [some (.ref o), some (.int x1), some (.int x2), none, none, none]) (by decide) g_ok (Nat.le_of_ble_eq_true rfl) rfl ?_
  intro X A _ C hR hQ hA _
  exact s_greatest_0 C hQ hA hR x1 x2 S hp
end M_greatestc
