set_option maxRecDepth 100000 in
theorem zq_288_1359 : (List.range 151).all (fun k => zrow zp_288 code 12 7 false (some .boolean) 15 560 (1359 + k)) = true := by decide +kernel
set_option maxRecDepth 100000 in
theorem zq_288_1510 : (List.range 151).all (fun k => zrow zp_288 code 12 7 false (some .boolean) 15 560 (1510 + k)) = true := by decide +kernel
set_option maxRecDepth 100000 in
theorem zq_288_1661 : (List.range 120).all (fun k => zrow zp_288 code 12 7 false (some .boolean) 15 560 (1661 + k)) = true := by decide +kernel
