set_option maxRecDepth 100000 in
theorem zq_287_906 : (List.range 151).all (fun k => zrow zp_287 code 12 7 false (some .boolean) 15 558 (906 + k)) = true := by decide +kernel
set_option maxRecDepth 100000 in
theorem zq_287_1057 : (List.range 151).all (fun k => zrow zp_287 code 12 7 false (some .boolean) 15 558 (1057 + k)) = true := by decide +kernel
set_option maxRecDepth 100000 in
theorem zq_287_1208 : (List.range 151).all (fun k => zrow zp_287 code 12 7 false (some .boolean) 15 558 (1208 + k)) = true := by decide +kernel
