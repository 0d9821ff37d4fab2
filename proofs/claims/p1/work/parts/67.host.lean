/-! host by the kernel -/
theorem zEv_host : (List.range 5).all (fun r => zEvR 219 220 [.ref 0, .int (nI r), .ref 148] [.ref 113, .int (nI r)] zH0) = true := by decide +kernel
