/-! pack, and calls without arguments, on the fresh objects -/
set_option maxRecDepth 100000 in
theorem rc_11 : x_b_B_pack_99 0 1 1 0 tB (fun v _ => Nat.beq v 138) (fun _ _ => false) = true := by decide +kernel
set_option maxRecDepth 100000 in
theorem rg_11 : x_b_B_pack_99_x3 0 1 1 tB (fun v _ => Nat.beq v 144) (fun _ _ => false) = true := by decide +kernel
set_option maxRecDepth 100000 in
theorem rc_12 : x_b_B_pack_99 0 1 2 0 tB (fun v _ => Nat.beq v 138) (fun _ _ => false) = true := by decide +kernel
set_option maxRecDepth 100000 in
theorem rg_12 : x_b_B_pack_99_x3 0 1 2 tB (fun v _ => Nat.beq v 144) (fun _ _ => false) = true := by decide +kernel
set_option maxRecDepth 100000 in
theorem rc_21 : x_b_B_pack_99 0 2 1 0 tB (fun v _ => Nat.beq v 138) (fun _ _ => false) = true := by decide +kernel
set_option maxRecDepth 100000 in
theorem rg_21 : x_b_B_pack_99_x3 0 2 1 tB (fun v _ => Nat.beq v 144) (fun _ _ => false) = true := by decide +kernel
set_option maxRecDepth 100000 in
theorem rc_22 : x_b_B_pack_99 0 2 2 0 tB (fun v _ => Nat.beq v 138) (fun _ _ => false) = true := by decide +kernel
set_option maxRecDepth 100000 in
theorem rg_22 : x_b_B_pack_99_x3 0 2 2 tB (fun v _ => Nat.beq v 144) (fun _ _ => false) = true := by decide +kernel
