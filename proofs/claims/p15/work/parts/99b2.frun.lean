def rf_xs : List Int32 := [11, 72, 0, 0, 0, 11, 73, 0, 0, 0, 11, 1, 0, 0, 0, 11, 2, 0, 0, 0, 11, 2, 0, 0, 0, 11, 0, 0, 0, 0, 11, 0, 0, 0, 0, 11, 0, 0, 0, 0, 11, 223, 0, 0, 0, 13, 0, 8, 0, 0]
set_option maxRecDepth 100000 in
set_option maxHeartbeats 8000000 in
theorem rf_run : sz_run (fun j => rf_xs.getD j 0) 9 0 cs0 rs0 (fun _ => 0) = some () := by decide +kernel
