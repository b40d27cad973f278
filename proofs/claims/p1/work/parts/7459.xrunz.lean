/-! calls without arguments -/
set_option maxRecDepth 100000 in
theorem rc_unpack : x_p_B_unpack 0 tB (fun v _ => Nat.beq v 1) = true := by decide +kernel
set_option maxRecDepth 100000 in
theorem rc_turn : x_p_B_turn 0 tB (fun v _ => Nat.beq v 0) (fun _ _ => false) = true := by decide +kernel
set_option maxRecDepth 100000 in
theorem rc_size : x_p_B_size 0 tB (fun v _ => Nat.beq v 0) = true := by decide +kernel
set_option maxRecDepth 100000 in
theorem rc_place : x_p_B_place 0 tB (fun v _ => Nat.beq v 4294967295) = true := by decide +kernel
set_option maxRecDepth 100000 in
theorem rc_take : x_p_B_take 0 tB (fun _ => false) (fun c _ => Nat.beq c 13) = true := by decide +kernel
set_option maxRecDepth 100000 in
theorem mc_unpack : x_p_unpack tM (fun v _ => Nat.beq v 1) = true := by decide +kernel
set_option maxRecDepth 100000 in
theorem mc_turn : x_p_turn2 tM (fun v t => and (Nat.beq v 0) (rfi t 0 (fun w => Nat.beq w 0))) = true := by decide +kernel
set_option maxRecDepth 100000 in
theorem mc_size : x_p_size tM (fun v _ => Nat.beq v 0) = true := by decide +kernel
set_option maxRecDepth 100000 in
theorem mc_place : x_p_place tM (fun v _ => Nat.beq v 4294967295) = true := by decide +kernel
set_option maxRecDepth 100000 in
theorem mc_take : x_p_take tM (fun t => rfi t 0 (fun w => Nat.beq w 1)) = true := by decide +kernel
set_option maxRecDepth 100000 in
theorem rc_feed : x_p_B_feed_x1_x2_x3_x4_x5 0 tB (fun v _ => Nat.beq v 20) (fun _ _ => false) = true := by decide +kernel
set_option maxRecDepth 100000 in
theorem mc_feed : x_p_feed_x1_x2_x3_x4_x5 tM (fun v t => and (Nat.beq v 20) (rfi t 0 (fun w => Nat.beq w 0))) = true := by decide +kernel
