set_option maxRecDepth 100000 in
theorem zq_288_0 : (List.range 151).all (fun k => zrow zp_288 code 12 7 false (some .boolean) 15 560 (0 + k)) = true := by decide +kernel
set_option maxRecDepth 100000 in
theorem zq_288_151 : (List.range 151).all (fun k => zrow zp_288 code 12 7 false (some .boolean) 15 560 (151 + k)) = true := by decide +kernel
set_option maxRecDepth 100000 in
theorem zq_288_302 : (List.range 151).all (fun k => zrow zp_288 code 12 7 false (some .boolean) 15 560 (302 + k)) = true := by decide +kernel
