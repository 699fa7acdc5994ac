set_option maxRecDepth 100000 in
theorem zq_288_1359 : zwk zp_288 code 12 7 false (some .boolean) 15 558 151 1359 (code.data.toList.drop 1359) = true := by decide +kernel
set_option maxRecDepth 100000 in
theorem zq_288_1510 : zwk zp_288 code 12 7 false (some .boolean) 15 558 151 1510 (code.data.toList.drop 1510) = true := by decide +kernel
set_option maxRecDepth 100000 in
theorem zq_288_1661 : zwk zp_288 code 12 7 false (some .boolean) 15 558 120 1661 (code.data.toList.drop 1661) = true := by decide +kernel
