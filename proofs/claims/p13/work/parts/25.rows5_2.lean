set_option maxRecDepth 100000 in
theorem zq_288_906 : (List.range 151).all (fun k => zrow zp_288 code 12 7 false (some .boolean) 15 560 (906 + k)) = true := by decide +kernel
set_option maxRecDepth 100000 in
theorem zq_288_1057 : (List.range 151).all (fun k => zrow zp_288 code 12 7 false (some .boolean) 15 560 (1057 + k)) = true := by decide +kernel
set_option maxRecDepth 100000 in
theorem zq_288_1208 : (List.range 151).all (fun k => zrow zp_288 code 12 7 false (some .boolean) 15 560 (1208 + k)) = true := by decide +kernel
