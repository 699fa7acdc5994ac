set_option maxRecDepth 100000 in
theorem zq_288_906 : zwk zp_288 code 12 7 false (some .boolean) 15 558 151 906 (code.data.toList.drop 906) = true := by decide +kernel
set_option maxRecDepth 100000 in
theorem zq_288_1057 : zwk zp_288 code 12 7 false (some .boolean) 15 558 151 1057 (code.data.toList.drop 1057) = true := by decide +kernel
set_option maxRecDepth 100000 in
theorem zq_288_1208 : zwk zp_288 code 12 7 false (some .boolean) 15 558 151 1208 (code.data.toList.drop 1208) = true := by decide +kernel
