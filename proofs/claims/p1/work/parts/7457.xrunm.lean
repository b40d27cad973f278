set_option maxRecDepth 100000 in
theorem mc_11 : x_b_pack_36 1 1 0 0 tM (fun v t => and (Nat.beq v 138) (rfi t 0 (fun w => Nat.beq w 0))) = true := by decide +kernel
set_option maxRecDepth 100000 in
theorem mg_11 : x_b_pack_36_x3 1 1 0 tM (fun v t => and (Nat.beq v 144) (rfi t 0 (fun w => Nat.beq w 0))) = true := by decide +kernel
set_option maxRecDepth 100000 in
theorem mc_12 : x_b_pack_36 1 2 0 0 tM (fun v t => and (Nat.beq v 138) (rfi t 0 (fun w => Nat.beq w 0))) = true := by decide +kernel
set_option maxRecDepth 100000 in
theorem mg_12 : x_b_pack_36_x3 1 2 0 tM (fun v t => and (Nat.beq v 144) (rfi t 0 (fun w => Nat.beq w 0))) = true := by decide +kernel
