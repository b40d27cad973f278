def tM1 : Nat := sv (sv (sv (sv 0 1 8) 2 8) 3 1) 10 4294967295
def tM0 : X6 := u6 z6 58 tM1
set_option maxRecDepth 100000 in
theorem run_m0 : x_p_init tM0 (fun t => rfi t 1 (fun v => Nat.beq v 8)) = true := by decide +kernel
set_option maxRecDepth 100000 in
theorem run_m11 : x_p_init tM0 (fun t => x_b_pack_36 1 1 0 0 t (fun v _ => Nat.beq v 138)) = true := by decide +kernel
