/-! guest and host by the kernel -/
theorem zEv_host : (List.range 5).all (fun r => zEvR 219 220 [.ref 0, .int (nI r), .ref 148] [.ref 113, .int (nI r)] zH0) = true := by decide +kernel
theorem zEv_guest0 : (List.range 1).all (fun r => zEvR 19 23 [.ref 0, .int (nI (r + 1)), .ref 148] [.ref 113, .int (nI (r + 1))] zH0) = true := by decide +kernel
