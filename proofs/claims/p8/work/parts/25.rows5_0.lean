set_option maxRecDepth 100000 in
theorem zq_288_0 : zwk zp_288 code 12 7 false (some .boolean) 15 558 151 0 (code.data.toList.drop 0) = true := by decide +kernel
set_option maxRecDepth 100000 in
theorem zq_288_151 : zwk zp_288 code 12 7 false (some .boolean) 15 558 151 151 (code.data.toList.drop 151) = true := by decide +kernel
set_option maxRecDepth 100000 in
theorem zq_288_302 : zwk zp_288 code 12 7 false (some .boolean) 15 558 151 302 (code.data.toList.drop 302) = true := by decide +kernel
