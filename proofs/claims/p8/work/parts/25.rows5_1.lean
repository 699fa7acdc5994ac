set_option maxRecDepth 100000 in
theorem zq_288_453 : zwk zp_288 code 12 7 false (some .boolean) 15 558 151 453 (code.data.toList.drop 453) = true := by decide +kernel
set_option maxRecDepth 100000 in
theorem zq_288_604 : zwk zp_288 code 12 7 false (some .boolean) 15 558 151 604 (code.data.toList.drop 604) = true := by decide +kernel
set_option maxRecDepth 100000 in
theorem zq_288_755 : zwk zp_288 code 12 7 false (some .boolean) 15 558 151 755 (code.data.toList.drop 755) = true := by decide +kernel
