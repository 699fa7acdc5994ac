set_option maxRecDepth 100000 in
theorem zq_288_453 : (List.range 151).all (fun k => zrow zp_288 code 12 7 false (some .boolean) 15 560 (453 + k)) = true := by decide +kernel
set_option maxRecDepth 100000 in
theorem zq_288_604 : (List.range 151).all (fun k => zrow zp_288 code 12 7 false (some .boolean) 15 560 (604 + k)) = true := by decide +kernel
set_option maxRecDepth 100000 in
theorem zq_288_755 : (List.range 151).all (fun k => zrow zp_288 code 12 7 false (some .boolean) 15 560 (755 + k)) = true := by decide +kernel
