set_option maxRecDepth 100000 in
theorem run_c0 : xi_B 1 0 z8 (fun t => rdi t 0 8 (fun v => Nat.beq v 4294967295)) = true := by decide +kernel
set_option maxRecDepth 100000 in
theorem run_c11 : xi_B 1 0 z8 (fun t => x_b_B_pack_99 0 1 1 0 t (fun v _ => Nat.beq v 138) (fun _ _ => false)) = true := by decide +kernel
