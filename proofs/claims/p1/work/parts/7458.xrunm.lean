set_option maxRecDepth 100000 in
theorem mc_21 : x_b_pack_36 2 1 0 0 tM (fun v t => and (Nat.beq v 138) (rfi t 0 (fun w => Nat.beq w 0))) = true := by decide +kernel
set_option maxRecDepth 100000 in
theorem mg_21 : x_b_pack_36_x3 2 1 0 tM (fun v t => and (Nat.beq v 144) (rfi t 0 (fun w => Nat.beq w 0))) = true := by decide +kernel
set_option maxRecDepth 100000 in
theorem mc_22 : x_b_pack_36 2 2 0 0 tM (fun v t => and (Nat.beq v 138) (rfi t 0 (fun w => Nat.beq w 0))) = true := by decide +kernel
set_option maxRecDepth 100000 in
theorem mg_22 : x_b_pack_36_x3 2 2 0 tM (fun v t => and (Nat.beq v 144) (rfi t 0 (fun w => Nat.beq w 0))) = true := by decide +kernel
