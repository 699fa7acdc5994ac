set_option maxRecDepth 100000 in
theorem zq_80 : zwk zp_80 prog_9_method_14_code 6 3 false (some (.int)) 2 43 42 0 prog_9_method_14_code.data.toList = true := by decide +kernel
theorem zn_80 : ∀ pc, 42 ≤ pc → pc < 4096 → zp_80 pc = none := fun pc h _ => zno2 h
set_option maxRecDepth 100000 in
theorem zr_80 : zRow 80 := zrow_ok (f := zp_80) (N := 42) (kd := 0) rfl (by decide) (fun _ => rfl) zn_80 zq_80
set_option maxRecDepth 100000 in
theorem zq_81 : zwk zp_81 prog_10_method_1_code 7 1 true none 1 20 65 0 prog_10_method_1_code.data.toList = true := by decide +kernel
theorem zn_81 : ∀ pc, 65 ≤ pc → pc < 4096 → zp_81 pc = none := fun pc h _ => zno2 h
set_option maxRecDepth 100000 in
theorem zr_81 : zRow 81 := zrow_ok (f := zp_81) (N := 65) (kd := 2) rfl (by decide) (fun _ => rfl) zn_81 zq_81
set_option maxRecDepth 100000 in
theorem zq_82 : zwk zp_82 prog_10_method_2_code 7 7 false none 5 124 114 0 prog_10_method_2_code.data.toList = true := by decide +kernel
theorem zn_82 : ∀ pc, 114 ≤ pc → pc < 4096 → zp_82 pc = none := fun pc h _ => zno2 h
set_option maxRecDepth 100000 in
theorem zr_82 : zRow 82 := zrow_ok (f := zp_82) (N := 114) (kd := 0) rfl (by decide) (fun _ => rfl) zn_82 zq_82
set_option maxRecDepth 100000 in
theorem zq_83 : zwk zp_83 prog_10_method_3_code 7 4 false (some (.int)) 0 0 57 0 prog_10_method_3_code.data.toList = true := by decide +kernel
theorem zn_83 : ∀ pc, 57 ≤ pc → pc < 4096 → zp_83 pc = none := fun pc h _ => zno2 h
set_option maxRecDepth 100000 in
theorem zr_83 : zRow 83 := zrow_ok (f := zp_83) (N := 57) (kd := 0) rfl (by decide) (fun _ => rfl) zn_83 zq_83
set_option maxRecDepth 100000 in
theorem zq_84 : zwk zp_84 prog_10_method_4_code 7 3 false (some (.int)) 0 0 43 0 prog_10_method_4_code.data.toList = true := by decide +kernel
theorem zn_84 : ∀ pc, 43 ≤ pc → pc < 4096 → zp_84 pc = none := fun pc h _ => zno2 h
set_option maxRecDepth 100000 in
theorem zr_84 : zRow 84 := zrow_ok (f := zp_84) (N := 43) (kd := 0) rfl (by decide) (fun _ => rfl) zn_84 zq_84
set_option maxRecDepth 100000 in
theorem zq_85 : zwk zp_85 prog_10_method_5_code 7 3 false (some (.boolean)) 1 20 43 0 prog_10_method_5_code.data.toList = true := by decide +kernel
theorem zn_85 : ∀ pc, 43 ≤ pc → pc < 4096 → zp_85 pc = none := fun pc h _ => zno2 h
set_option maxRecDepth 100000 in
theorem zr_85 : zRow 85 := zrow_ok (f := zp_85) (N := 43) (kd := 0) rfl (by decide) (fun _ => rfl) zn_85 zq_85
set_option maxRecDepth 100000 in
theorem zq_86 : zwk zp_86 prog_10_method_6_code 7 8 false none 2 46 169 0 prog_10_method_6_code.data.toList = true := by decide +kernel
theorem zn_86 : ∀ pc, 169 ≤ pc → pc < 4096 → zp_86 pc = none := fun pc h _ => zno2 h
set_option maxRecDepth 100000 in
theorem zr_86 : zRow 86 := zrow_ok (f := zp_86) (N := 169) (kd := 0) rfl (by decide) (fun _ => rfl) zn_86 zq_86
set_option maxRecDepth 100000 in
theorem zq_87 : zwk zp_87 prog_10_method_7_code 7 5 false none 1 20 103 0 prog_10_method_7_code.data.toList = true := by decide +kernel
theorem zn_87 : ∀ pc, 103 ≤ pc → pc < 4096 → zp_87 pc = none := fun pc h _ => zno2 h
set_option maxRecDepth 100000 in
theorem zr_87 : zRow 87 := zrow_ok (f := zp_87) (N := 103) (kd := 0) rfl (by decide) (fun _ => rfl) zn_87 zq_87
set_option maxRecDepth 100000 in
theorem zq_88 : zwk zp_88 prog_10_method_8_code 7 5 false (some (.int)) 1 22 69 0 prog_10_method_8_code.data.toList = true := by decide +kernel
theorem zn_88 : ∀ pc, 69 ≤ pc → pc < 4096 → zp_88 pc = none := fun pc h _ => zno2 h
set_option maxRecDepth 100000 in
theorem zr_88 : zRow 88 := zrow_ok (f := zp_88) (N := 69) (kd := 1) rfl (by decide) (fun _ => rfl) zn_88 zq_88
set_option maxRecDepth 100000 in
theorem zq_89 : zwk zp_89 prog_10_method_9_code 7 7 false none 4 98 97 0 prog_10_method_9_code.data.toList = true := by decide +kernel
theorem zn_89 : ∀ pc, 97 ≤ pc → pc < 4096 → zp_89 pc = none := fun pc h _ => zno2 h
set_option maxRecDepth 100000 in
theorem zr_89 : zRow 89 := zrow_ok (f := zp_89) (N := 97) (kd := 0) rfl (by decide) (fun _ => rfl) zn_89 zq_89
set_option maxRecDepth 100000 in
theorem zq_90 : zwk zp_90 prog_10_method_10_code 7 8 false none 3 71 254 0 prog_10_method_10_code.data.toList = true := by decide +kernel
theorem zn_90 : ∀ pc, 254 ≤ pc → pc < 4096 → zp_90 pc = none := fun pc h _ => zno2 h
set_option maxRecDepth 100000 in
theorem zr_90 : zRow 90 := zrow_ok (f := zp_90) (N := 254) (kd := 0) rfl (by decide) (fun _ => rfl) zn_90 zq_90
set_option maxRecDepth 100000 in
theorem zq_91 : zwk zp_91 prog_10_method_11_code 7 4 false none 1 26 182 0 prog_10_method_11_code.data.toList = true := by decide +kernel
theorem zn_91 : ∀ pc, 182 ≤ pc → pc < 4096 → zp_91 pc = none := fun pc h _ => zno2 h
set_option maxRecDepth 100000 in
theorem zr_91 : zRow 91 := zrow_ok (f := zp_91) (N := 182) (kd := 0) rfl (by decide) (fun _ => rfl) zn_91 zq_91
set_option maxRecDepth 100000 in
theorem zq_92 : zwk zp_92 prog_11_method_1_code 8 1 true none 1 20 12 0 prog_11_method_1_code.data.toList = true := by decide +kernel
theorem zn_92 : ∀ pc, 12 ≤ pc → pc < 4096 → zp_92 pc = none := fun pc h _ => zno2 h
set_option maxRecDepth 100000 in
theorem zr_92 : zRow 92 := zrow_ok (f := zp_92) (N := 12) (kd := 2) rfl (by decide) (fun _ => rfl) zn_92 zq_92
set_option maxRecDepth 100000 in
theorem zq_93 : zwk zp_93 prog_11_method_2_code 8 8 false (some (.int)) 1 22 141 0 prog_11_method_2_code.data.toList = true := by decide +kernel
theorem zn_93 : ∀ pc, 141 ≤ pc → pc < 4096 → zp_93 pc = none := fun pc h _ => zno2 h
set_option maxRecDepth 100000 in
theorem zr_93 : zRow 93 := zrow_ok (f := zp_93) (N := 141) (kd := 0) rfl (by decide) (fun _ => rfl) zn_93 zq_93
set_option maxRecDepth 100000 in
theorem zq_94 : zwk zp_94 prog_11_method_3_code 8 7 false (some (.int)) 1 26 136 0 prog_11_method_3_code.data.toList = true := by decide +kernel
theorem zn_94 : ∀ pc, 136 ≤ pc → pc < 4096 → zp_94 pc = none := fun pc h _ => zno2 h
set_option maxRecDepth 100000 in
theorem zr_94 : zRow 94 := zrow_ok (f := zp_94) (N := 136) (kd := 0) rfl (by decide) (fun _ => rfl) zn_94 zq_94
set_option maxRecDepth 100000 in
theorem zq_95 : zwk zp_95 prog_11_method_4_code 8 7 false (some (.boolean)) 0 0 94 0 prog_11_method_4_code.data.toList = true := by decide +kernel
theorem zn_95 : ∀ pc, 94 ≤ pc → pc < 4096 → zp_95 pc = none := fun pc h _ => zno2 h
set_option maxRecDepth 100000 in
theorem zr_95 : zRow 95 := zrow_ok (f := zp_95) (N := 94) (kd := 0) rfl (by decide) (fun _ => rfl) zn_95 zq_95
set_option maxRecDepth 100000 in
theorem zq_96 : zwk zp_96 prog_11_method_5_code 8 9 false (some (.int)) 2 50 154 0 prog_11_method_5_code.data.toList = true := by decide +kernel
theorem zn_96 : ∀ pc, 154 ≤ pc → pc < 4096 → zp_96 pc = none := fun pc h _ => zno2 h
set_option maxRecDepth 100000 in
theorem zr_96 : zRow 96 := zrow_ok (f := zp_96) (N := 154) (kd := 0) rfl (by decide) (fun _ => rfl) zn_96 zq_96
set_option maxRecDepth 100000 in
theorem zq_97 : zwk zp_97 prog_11_method_6_code 8 9 false (some (.int)) 1 22 111 0 prog_11_method_6_code.data.toList = true := by decide +kernel
theorem zn_97 : ∀ pc, 111 ≤ pc → pc < 4096 → zp_97 pc = none := fun pc h _ => zno2 h
set_option maxRecDepth 100000 in
theorem zr_97 : zRow 97 := zrow_ok (f := zp_97) (N := 111) (kd := 0) rfl (by decide) (fun _ => rfl) zn_97 zq_97
set_option maxRecDepth 100000 in
theorem zq_98 : zwk zp_98 prog_1_method_1_code 9 1 true none 5 114 163 0 prog_1_method_1_code.data.toList = true := by decide +kernel
theorem zn_98 : ∀ pc, 163 ≤ pc → pc < 4096 → zp_98 pc = none := fun pc h _ => zno2 h
set_option maxRecDepth 100000 in
theorem zr_98 : zRow 98 := zrow_ok (f := zp_98) (N := 163) (kd := 2) rfl (by decide) (fun _ => rfl) zn_98 zq_98
set_option maxRecDepth 100000 in
theorem zq_99 : zwk zp_99 prog_1_method_2_code 9 1 false none 4 94 69 0 prog_1_method_2_code.data.toList = true := by decide +kernel
theorem zn_99 : ∀ pc, 69 ≤ pc → pc < 4096 → zp_99 pc = none := fun pc h _ => zno2 h
set_option maxRecDepth 100000 in
theorem zr_99 : zRow 99 := zrow_ok (f := zp_99) (N := 69) (kd := 0) rfl (by decide) (fun _ => rfl) zn_99 zq_99
set_option maxRecDepth 100000 in
theorem zq_100 : zwk zp_100 prog_1_method_3_code 9 6 false (some (.int)) 1 22 47 0 prog_1_method_3_code.data.toList = true := by decide +kernel
theorem zn_100 : ∀ pc, 47 ≤ pc → pc < 4096 → zp_100 pc = none := fun pc h _ => zno2 h
set_option maxRecDepth 100000 in
theorem zr_100 : zRow 100 := zrow_ok (f := zp_100) (N := 47) (kd := 0) rfl (by decide) (fun _ => rfl) zn_100 zq_100
set_option maxRecDepth 100000 in
theorem zq_101 : zwk zp_101 prog_1_method_4_code 9 3 false none 0 0 47 0 prog_1_method_4_code.data.toList = true := by decide +kernel
theorem zn_101 : ∀ pc, 47 ≤ pc → pc < 4096 → zp_101 pc = none := fun pc h _ => zno2 h
set_option maxRecDepth 100000 in
theorem zr_101 : zRow 101 := zrow_ok (f := zp_101) (N := 47) (kd := 0) rfl (by decide) (fun _ => rfl) zn_101 zq_101
set_option maxRecDepth 100000 in
theorem zq_102 : zwk zp_102 prog_1_method_5_code 9 4 false (some (.int)) 6 133 95 0 prog_1_method_5_code.data.toList = true := by decide +kernel
theorem zn_102 : ∀ pc, 95 ≤ pc → pc < 4096 → zp_102 pc = none := fun pc h _ => zno2 h
set_option maxRecDepth 100000 in
theorem zr_102 : zRow 102 := zrow_ok (f := zp_102) (N := 95) (kd := 0) rfl (by decide) (fun _ => rfl) zn_102 zq_102
set_option maxRecDepth 100000 in
theorem zq_103 : zwk zp_103 prog_1_method_6_code 9 2 false (some (.int)) 0 0 29 0 prog_1_method_6_code.data.toList = true := by decide +kernel
theorem zn_103 : ∀ pc, 29 ≤ pc → pc < 4096 → zp_103 pc = none := fun pc h _ => zno2 h
set_option maxRecDepth 100000 in
theorem zr_103 : zRow 103 := zrow_ok (f := zp_103) (N := 29) (kd := 0) rfl (by decide) (fun _ => rfl) zn_103 zq_103
set_option maxRecDepth 100000 in
theorem zq_104 : zwk zp_104 prog_1_method_7_code 9 2 false (some (.int)) 1 22 9 0 prog_1_method_7_code.data.toList = true := by decide +kernel
theorem zn_104 : ∀ pc, 9 ≤ pc → pc < 4096 → zp_104 pc = none := fun pc h _ => zno2 h
set_option maxRecDepth 100000 in
theorem zr_104 : zRow 104 := zrow_ok (f := zp_104) (N := 9) (kd := 0) rfl (by decide) (fun _ => rfl) zn_104 zq_104
set_option maxRecDepth 100000 in
theorem zq_105 : zwk zp_105 prog_1_method_8_code 9 3 false (some (.int)) 1 22 97 0 prog_1_method_8_code.data.toList = true := by decide +kernel
theorem zn_105 : ∀ pc, 97 ≤ pc → pc < 4096 → zp_105 pc = none := fun pc h _ => zno2 h
set_option maxRecDepth 100000 in
theorem zr_105 : zRow 105 := zrow_ok (f := zp_105) (N := 97) (kd := 0) rfl (by decide) (fun _ => rfl) zn_105 zq_105
set_option maxRecDepth 100000 in
theorem zq_106 : zwk zp_106 prog_1_method_9_code 9 3 false (some (.int)) 1 22 33 0 prog_1_method_9_code.data.toList = true := by decide +kernel
theorem zn_106 : ∀ pc, 33 ≤ pc → pc < 4096 → zp_106 pc = none := fun pc h _ => zno2 h
set_option maxRecDepth 100000 in
theorem zr_106 : zRow 106 := zrow_ok (f := zp_106) (N := 33) (kd := 0) rfl (by decide) (fun _ => rfl) zn_106 zq_106
set_option maxRecDepth 100000 in
theorem zq_107 : zwk zp_107 prog_1_method_10_code 9 3 false (some (.boolean)) 2 49 51 0 prog_1_method_10_code.data.toList = true := by decide +kernel
theorem zn_107 : ∀ pc, 51 ≤ pc → pc < 4096 → zp_107 pc = none := fun pc h _ => zno2 h
set_option maxRecDepth 100000 in
theorem zr_107 : zRow 107 := zrow_ok (f := zp_107) (N := 51) (kd := 0) rfl (by decide) (fun _ => rfl) zn_107 zq_107
set_option maxRecDepth 100000 in
theorem zq_108 : zwk zp_108 prog_1_method_11_code 9 2 false (some (.long)) 3 70 35 0 prog_1_method_11_code.data.toList = true := by decide +kernel
theorem zn_108 : ∀ pc, 35 ≤ pc → pc < 4096 → zp_108 pc = none := fun pc h _ => zno2 h
set_option maxRecDepth 100000 in
theorem zr_108 : zRow 108 := zrow_ok (f := zp_108) (N := 35) (kd := 0) rfl (by decide) (fun _ => rfl) zn_108 zq_108
set_option maxRecDepth 100000 in
theorem zq_109 : zwk zp_109 prog_1_method_12_code 9 2 false (some (.int)) 3 65 28 0 prog_1_method_12_code.data.toList = true := by decide +kernel
theorem zn_109 : ∀ pc, 28 ≤ pc → pc < 4096 → zp_109 pc = none := fun pc h _ => zno2 h
set_option maxRecDepth 100000 in
theorem zr_109 : zRow 109 := zrow_ok (f := zp_109) (N := 28) (kd := 0) rfl (by decide) (fun _ => rfl) zn_109 zq_109
set_option maxRecDepth 100000 in
theorem zq_110 : zwk zp_110 prog_1_method_13_code 9 2 false (some (.long)) 0 0 21 0 prog_1_method_13_code.data.toList = true := by decide +kernel
theorem zn_110 : ∀ pc, 21 ≤ pc → pc < 4096 → zp_110 pc = none := fun pc h _ => zno2 h
set_option maxRecDepth 100000 in
theorem zr_110 : zRow 110 := zrow_ok (f := zp_110) (N := 21) (kd := 0) rfl (by decide) (fun _ => rfl) zn_110 zq_110
set_option maxRecDepth 100000 in
theorem zq_111 : zwk zp_111 prog_1_method_14_code 9 2 false (some (.boolean)) 4 94 64 0 prog_1_method_14_code.data.toList = true := by decide +kernel
theorem zn_111 : ∀ pc, 64 ≤ pc → pc < 4096 → zp_111 pc = none := fun pc h _ => zno2 h
set_option maxRecDepth 100000 in
theorem zr_111 : zRow 111 := zrow_ok (f := zp_111) (N := 64) (kd := 0) rfl (by decide) (fun _ => rfl) zn_111 zq_111
set_option maxRecDepth 100000 in
theorem zq_112 : zwk zp_112 prog_1_method_15_code 9 8 false (some (.boolean)) 2 49 82 0 prog_1_method_15_code.data.toList = true := by decide +kernel
theorem zn_112 : ∀ pc, 82 ≤ pc → pc < 4096 → zp_112 pc = none := fun pc h _ => zno2 h
set_option maxRecDepth 100000 in
theorem zr_112 : zRow 112 := zrow_ok (f := zp_112) (N := 82) (kd := 0) rfl (by decide) (fun _ => rfl) zn_112 zq_112
set_option maxRecDepth 100000 in
theorem zq_113 : zwk zp_113 prog_1_method_16_code 9 2 false (some (.int)) 7 170 22 0 prog_1_method_16_code.data.toList = true := by decide +kernel
theorem zn_113 : ∀ pc, 22 ≤ pc → pc < 4096 → zp_113 pc = none := fun pc h _ => zno2 h
set_option maxRecDepth 100000 in
theorem zr_113 : zRow 113 := zrow_ok (f := zp_113) (N := 22) (kd := 0) rfl (by decide) (fun _ => rfl) zn_113 zq_113
set_option maxRecDepth 100000 in
theorem zq_114 : zwk zp_114 prog_1_method_17_code 9 4 false (some (.int)) 7 170 36 0 prog_1_method_17_code.data.toList = true := by decide +kernel
theorem zn_114 : ∀ pc, 36 ≤ pc → pc < 4096 → zp_114 pc = none := fun pc h _ => zno2 h
set_option maxRecDepth 100000 in
theorem zr_114 : zRow 114 := zrow_ok (f := zp_114) (N := 36) (kd := 0) rfl (by decide) (fun _ => rfl) zn_114 zq_114
set_option maxRecDepth 100000 in
theorem zq_115 : zwk zp_115 prog_1_method_18_code 9 6 false (some (.int)) 7 170 73 0 prog_1_method_18_code.data.toList = true := by decide +kernel
theorem zn_115 : ∀ pc, 73 ≤ pc → pc < 4096 → zp_115 pc = none := fun pc h _ => zno2 h
set_option maxRecDepth 100000 in
theorem zr_115 : zRow 115 := zrow_ok (f := zp_115) (N := 73) (kd := 0) rfl (by decide) (fun _ => rfl) zn_115 zq_115
set_option maxRecDepth 100000 in
theorem zq_116 : zwk zp_116 prog_1_method_19_code 9 1 false (some (.int)) 7 170 8 0 prog_1_method_19_code.data.toList = true := by decide +kernel
theorem zn_116 : ∀ pc, 8 ≤ pc → pc < 4096 → zp_116 pc = none := fun pc h _ => zno2 h
set_option maxRecDepth 100000 in
theorem zr_116 : zRow 116 := zrow_ok (f := zp_116) (N := 8) (kd := 0) rfl (by decide) (fun _ => rfl) zn_116 zq_116
set_option maxRecDepth 100000 in
theorem zq_117 : zwk zp_117 prog_1_method_20_code 9 9 false (some (.int)) 7 170 119 0 prog_1_method_20_code.data.toList = true := by decide +kernel
theorem zn_117 : ∀ pc, 119 ≤ pc → pc < 4096 → zp_117 pc = none := fun pc h _ => zno2 h
set_option maxRecDepth 100000 in
theorem zr_117 : zRow 117 := zrow_ok (f := zp_117) (N := 119) (kd := 0) rfl (by decide) (fun _ => rfl) zn_117 zq_117
set_option maxRecDepth 100000 in
theorem zq_118 : zwk zp_118 prog_1_method_21_code 9 6 false (some (.int)) 7 170 64 0 prog_1_method_21_code.data.toList = true := by decide +kernel
theorem zn_118 : ∀ pc, 64 ≤ pc → pc < 4096 → zp_118 pc = none := fun pc h _ => zno2 h
set_option maxRecDepth 100000 in
theorem zr_118 : zRow 118 := zrow_ok (f := zp_118) (N := 64) (kd := 0) rfl (by decide) (fun _ => rfl) zn_118 zq_118
set_option maxRecDepth 100000 in
theorem zq_119 : zwk zp_119 prog_1_method_22_code 9 3 false (some (.boolean)) 7 170 42 0 prog_1_method_22_code.data.toList = true := by decide +kernel
theorem zn_119 : ∀ pc, 42 ≤ pc → pc < 4096 → zp_119 pc = none := fun pc h _ => zno2 h
set_option maxRecDepth 100000 in
theorem zr_119 : zRow 119 := zrow_ok (f := zp_119) (N := 42) (kd := 0) rfl (by decide) (fun _ => rfl) zn_119 zq_119
set_option maxRecDepth 100000 in
theorem zq_120 : zwk zp_120 prog_1_method_23_code 9 7 false (some (.int)) 3 74 73 0 prog_1_method_23_code.data.toList = true := by decide +kernel
theorem zn_120 : ∀ pc, 73 ≤ pc → pc < 4096 → zp_120 pc = none := fun pc h _ => zno2 h
set_option maxRecDepth 100000 in
theorem zr_120 : zRow 120 := zrow_ok (f := zp_120) (N := 73) (kd := 0) rfl (by decide) (fun _ => rfl) zn_120 zq_120
set_option maxRecDepth 100000 in
theorem zq_121 : zwk zp_121 prog_1_method_24_code 9 6 false (some (.int)) 3 77 74 0 prog_1_method_24_code.data.toList = true := by decide +kernel
theorem zn_121 : ∀ pc, 74 ≤ pc → pc < 4096 → zp_121 pc = none := fun pc h _ => zno2 h
set_option maxRecDepth 100000 in
theorem zr_121 : zRow 121 := zrow_ok (f := zp_121) (N := 74) (kd := 0) rfl (by decide) (fun _ => rfl) zn_121 zq_121
set_option maxRecDepth 100000 in
theorem zq_122 : zwk zp_122 prog_1_method_25_code 9 2 false (some (.int)) 8 200 16 0 prog_1_method_25_code.data.toList = true := by decide +kernel
theorem zn_122 : ∀ pc, 16 ≤ pc → pc < 4096 → zp_122 pc = none := fun pc h _ => zno2 h
set_option maxRecDepth 100000 in
theorem zr_122 : zRow 122 := zrow_ok (f := zp_122) (N := 16) (kd := 0) rfl (by decide) (fun _ => rfl) zn_122 zq_122
set_option maxRecDepth 100000 in
theorem zq_123 : zwk zp_123 prog_1_method_26_code 9 4 false (some (.int)) 8 200 44 0 prog_1_method_26_code.data.toList = true := by decide +kernel
theorem zn_123 : ∀ pc, 44 ≤ pc → pc < 4096 → zp_123 pc = none := fun pc h _ => zno2 h
set_option maxRecDepth 100000 in
theorem zr_123 : zRow 123 := zrow_ok (f := zp_123) (N := 44) (kd := 0) rfl (by decide) (fun _ => rfl) zn_123 zq_123
set_option maxRecDepth 100000 in
theorem zq_124 : zwk zp_124 prog_1_method_27_code 9 5 false (some (.int)) 8 200 58 0 prog_1_method_27_code.data.toList = true := by decide +kernel
theorem zn_124 : ∀ pc, 58 ≤ pc → pc < 4096 → zp_124 pc = none := fun pc h _ => zno2 h
set_option maxRecDepth 100000 in
theorem zr_124 : zRow 124 := zrow_ok (f := zp_124) (N := 58) (kd := 0) rfl (by decide) (fun _ => rfl) zn_124 zq_124
set_option maxRecDepth 100000 in
theorem zq_125 : zwk zp_125 prog_1_method_28_code 9 5 false (some (.int)) 8 200 81 0 prog_1_method_28_code.data.toList = true := by decide +kernel
theorem zn_125 : ∀ pc, 81 ≤ pc → pc < 4096 → zp_125 pc = none := fun pc h _ => zno2 h
set_option maxRecDepth 100000 in
theorem zr_125 : zRow 125 := zrow_ok (f := zp_125) (N := 81) (kd := 0) rfl (by decide) (fun _ => rfl) zn_125 zq_125
set_option maxRecDepth 100000 in
theorem zq_126 : zwk zp_126 prog_1_method_29_code 9 5 false (some (.int)) 8 200 61 0 prog_1_method_29_code.data.toList = true := by decide +kernel
theorem zn_126 : ∀ pc, 61 ≤ pc → pc < 4096 → zp_126 pc = none := fun pc h _ => zno2 h
set_option maxRecDepth 100000 in
theorem zr_126 : zRow 126 := zrow_ok (f := zp_126) (N := 61) (kd := 0) rfl (by decide) (fun _ => rfl) zn_126 zq_126
set_option maxRecDepth 100000 in
theorem zq_127 : zwk zp_127 prog_1_method_30_code 9 5 false (some (.int)) 8 200 62 0 prog_1_method_30_code.data.toList = true := by decide +kernel
theorem zn_127 : ∀ pc, 62 ≤ pc → pc < 4096 → zp_127 pc = none := fun pc h _ => zno2 h
set_option maxRecDepth 100000 in
theorem zr_127 : zRow 127 := zrow_ok (f := zp_127) (N := 62) (kd := 0) rfl (by decide) (fun _ => rfl) zn_127 zq_127
set_option maxRecDepth 100000 in
theorem zq_128 : zwk zp_128 prog_1_method_31_code 9 4 false (some (.int)) 8 200 52 0 prog_1_method_31_code.data.toList = true := by decide +kernel
theorem zn_128 : ∀ pc, 52 ≤ pc → pc < 4096 → zp_128 pc = none := fun pc h _ => zno2 h
set_option maxRecDepth 100000 in
theorem zr_128 : zRow 128 := zrow_ok (f := zp_128) (N := 52) (kd := 0) rfl (by decide) (fun _ => rfl) zn_128 zq_128
set_option maxRecDepth 100000 in
theorem zq_129 : zwk zp_129 prog_1_method_32_code 9 4 false (some (.int)) 8 200 54 0 prog_1_method_32_code.data.toList = true := by decide +kernel
theorem zn_129 : ∀ pc, 54 ≤ pc → pc < 4096 → zp_129 pc = none := fun pc h _ => zno2 h
set_option maxRecDepth 100000 in
theorem zr_129 : zRow 129 := zrow_ok (f := zp_129) (N := 54) (kd := 0) rfl (by decide) (fun _ => rfl) zn_129 zq_129
set_option maxRecDepth 100000 in
theorem zq_130 : zwk zp_130 prog_1_method_33_code 9 3 false (some (.long)) 8 200 37 0 prog_1_method_33_code.data.toList = true := by decide +kernel
theorem zn_130 : ∀ pc, 37 ≤ pc → pc < 4096 → zp_130 pc = none := fun pc h _ => zno2 h
set_option maxRecDepth 100000 in
theorem zr_130 : zRow 130 := zrow_ok (f := zp_130) (N := 37) (kd := 0) rfl (by decide) (fun _ => rfl) zn_130 zq_130
set_option maxRecDepth 100000 in
theorem zq_131 : zwk zp_131 prog_1_method_34_code 9 1 false (some (.int)) 5 128 12 0 prog_1_method_34_code.data.toList = true := by decide +kernel
theorem zn_131 : ∀ pc, 12 ≤ pc → pc < 4096 → zp_131 pc = none := fun pc h _ => zno2 h
set_option maxRecDepth 100000 in
theorem zr_131 : zRow 131 := zrow_ok (f := zp_131) (N := 12) (kd := 0) rfl (by decide) (fun _ => rfl) zn_131 zq_131
set_option maxRecDepth 100000 in
theorem zq_132 : zwk zp_132 prog_1_method_35_code 9 2 false (some (.int)) 5 128 32 0 prog_1_method_35_code.data.toList = true := by decide +kernel
theorem zn_132 : ∀ pc, 32 ≤ pc → pc < 4096 → zp_132 pc = none := fun pc h _ => zno2 h
set_option maxRecDepth 100000 in
theorem zr_132 : zRow 132 := zrow_ok (f := zp_132) (N := 32) (kd := 0) rfl (by decide) (fun _ => rfl) zn_132 zq_132
set_option maxRecDepth 100000 in
theorem zq_133 : zwk zp_133 prog_1_method_36_code 9 7 false (some (.int)) 2 43 94 0 prog_1_method_36_code.data.toList = true := by decide +kernel
theorem zn_133 : ∀ pc, 94 ≤ pc → pc < 4096 → zp_133 pc = none := fun pc h _ => zno2 h
set_option maxRecDepth 100000 in
theorem zr_133 : zRow 133 := zrow_ok (f := zp_133) (N := 94) (kd := 0) rfl (by decide) (fun _ => rfl) zn_133 zq_133
set_option maxRecDepth 100000 in
theorem zq_134 : zwk zp_134 prog_1_method_37_code 9 3 false (some (.int)) 8 200 32 0 prog_1_method_37_code.data.toList = true := by decide +kernel
theorem zn_134 : ∀ pc, 32 ≤ pc → pc < 4096 → zp_134 pc = none := fun pc h _ => zno2 h
set_option maxRecDepth 100000 in
theorem zr_134 : zRow 134 := zrow_ok (f := zp_134) (N := 32) (kd := 0) rfl (by decide) (fun _ => rfl) zn_134 zq_134
set_option maxRecDepth 100000 in
theorem zq_135 : zwk zp_135 prog_1_method_38_code 9 3 false (some (.int)) 8 200 32 0 prog_1_method_38_code.data.toList = true := by decide +kernel
theorem zn_135 : ∀ pc, 32 ≤ pc → pc < 4096 → zp_135 pc = none := fun pc h _ => zno2 h
set_option maxRecDepth 100000 in
theorem zr_135 : zRow 135 := zrow_ok (f := zp_135) (N := 32) (kd := 0) rfl (by decide) (fun _ => rfl) zn_135 zq_135
set_option maxRecDepth 100000 in
theorem zq_136 : zwk zp_136 prog_1_method_39_code 9 3 false (some (.int)) 2 52 63 0 prog_1_method_39_code.data.toList = true := by decide +kernel
theorem zn_136 : ∀ pc, 63 ≤ pc → pc < 4096 → zp_136 pc = none := fun pc h _ => zno2 h
set_option maxRecDepth 100000 in
theorem zr_136 : zRow 136 := zrow_ok (f := zp_136) (N := 63) (kd := 0) rfl (by decide) (fun _ => rfl) zn_136 zq_136
set_option maxRecDepth 100000 in
theorem zq_137 : zwk zp_137 prog_1_method_40_code 9 2 false (some (.int)) 3 78 13 0 prog_1_method_40_code.data.toList = true := by decide +kernel
theorem zn_137 : ∀ pc, 13 ≤ pc → pc < 4096 → zp_137 pc = none := fun pc h _ => zno2 h
set_option maxRecDepth 100000 in
theorem zr_137 : zRow 137 := zrow_ok (f := zp_137) (N := 13) (kd := 0) rfl (by decide) (fun _ => rfl) zn_137 zq_137
set_option maxRecDepth 100000 in
theorem zq_138 : zwk zp_138 prog_1_method_41_code 9 13 false (some (.int)) 7 173 185 0 prog_1_method_41_code.data.toList = true := by decide +kernel
theorem zn_138 : ∀ pc, 185 ≤ pc → pc < 4096 → zp_138 pc = none := fun pc h _ => zno2 h
set_option maxRecDepth 100000 in
theorem zr_138 : zRow 138 := zrow_ok (f := zp_138) (N := 185) (kd := 0) rfl (by decide) (fun _ => rfl) zn_138 zq_138
set_option maxRecDepth 100000 in
theorem zq_139 : zwk zp_139 prog_1_method_42_code 9 4 false (some (.int)) 6 150 113 0 prog_1_method_42_code.data.toList = true := by decide +kernel
theorem zn_139 : ∀ pc, 113 ≤ pc → pc < 4096 → zp_139 pc = none := fun pc h _ => zno2 h
set_option maxRecDepth 100000 in
theorem zr_139 : zRow 139 := zrow_ok (f := zp_139) (N := 113) (kd := 0) rfl (by decide) (fun _ => rfl) zn_139 zq_139
set_option maxRecDepth 100000 in
theorem zq_140 : zwk zp_140 prog_1_method_43_code 9 1 false (some (.int)) 2 47 35 0 prog_1_method_43_code.data.toList = true := by decide +kernel
theorem zn_140 : ∀ pc, 35 ≤ pc → pc < 4096 → zp_140 pc = none := fun pc h _ => zno2 h
set_option maxRecDepth 100000 in
theorem zr_140 : zRow 140 := zrow_ok (f := zp_140) (N := 35) (kd := 0) rfl (by decide) (fun _ => rfl) zn_140 zq_140
set_option maxRecDepth 100000 in
theorem zq_141 : zwk zp_141 prog_1_method_44_code 9 1 false (some (.boolean)) 1 26 30 0 prog_1_method_44_code.data.toList = true := by decide +kernel
theorem zn_141 : ∀ pc, 30 ≤ pc → pc < 4096 → zp_141 pc = none := fun pc h _ => zno2 h
set_option maxRecDepth 100000 in
theorem zr_141 : zRow 141 := zrow_ok (f := zp_141) (N := 30) (kd := 0) rfl (by decide) (fun _ => rfl) zn_141 zq_141
set_option maxRecDepth 100000 in
theorem zq_142 : zwk zp_142 prog_1_method_45_code 9 1 false (some (.boolean)) 1 26 41 0 prog_1_method_45_code.data.toList = true := by decide +kernel
theorem zn_142 : ∀ pc, 41 ≤ pc → pc < 4096 → zp_142 pc = none := fun pc h _ => zno2 h
set_option maxRecDepth 100000 in
theorem zr_142 : zRow 142 := zrow_ok (f := zp_142) (N := 41) (kd := 0) rfl (by decide) (fun _ => rfl) zn_142 zq_142
set_option maxRecDepth 100000 in
theorem zq_143 : zwk zp_143 prog_1_method_46_code 9 2 false (some (.int)) 0 0 111 0 prog_1_method_46_code.data.toList = true := by decide +kernel
theorem zn_143 : ∀ pc, 111 ≤ pc → pc < 4096 → zp_143 pc = none := fun pc h _ => zno2 h
set_option maxRecDepth 100000 in
theorem zr_143 : zRow 143 := zrow_ok (f := zp_143) (N := 111) (kd := 0) rfl (by decide) (fun _ => rfl) zn_143 zq_143
set_option maxRecDepth 100000 in
theorem zq_144 : zwk zp_144 prog_1_method_47_code 9 1 false (some (.boolean)) 0 0 16 0 prog_1_method_47_code.data.toList = true := by decide +kernel
theorem zn_144 : ∀ pc, 16 ≤ pc → pc < 4096 → zp_144 pc = none := fun pc h _ => zno2 h
set_option maxRecDepth 100000 in
theorem zr_144 : zRow 144 := zrow_ok (f := zp_144) (N := 16) (kd := 1) rfl (by decide) (fun _ => rfl) zn_144 zq_144
set_option maxRecDepth 100000 in
theorem zq_145 : zwk zp_145 prog_1_method_48_code 9 2 false (some (.boolean)) 0 0 21 0 prog_1_method_48_code.data.toList = true := by decide +kernel
theorem zn_145 : ∀ pc, 21 ≤ pc → pc < 4096 → zp_145 pc = none := fun pc h _ => zno2 h
set_option maxRecDepth 100000 in
theorem zr_145 : zRow 145 := zrow_ok (f := zp_145) (N := 21) (kd := 0) rfl (by decide) (fun _ => rfl) zn_145 zq_145
set_option maxRecDepth 100000 in
theorem zq_146 : zwk zp_146 prog_1_method_49_code 9 2 false (some (.boolean)) 0 0 21 0 prog_1_method_49_code.data.toList = true := by decide +kernel
theorem zn_146 : ∀ pc, 21 ≤ pc → pc < 4096 → zp_146 pc = none := fun pc h _ => zno2 h
set_option maxRecDepth 100000 in
theorem zr_146 : zRow 146 := zrow_ok (f := zp_146) (N := 21) (kd := 0) rfl (by decide) (fun _ => rfl) zn_146 zq_146
set_option maxRecDepth 100000 in
theorem zq_147 : zwk zp_147 prog_1_method_50_code 9 3 false (some (.int)) 2 43 46 0 prog_1_method_50_code.data.toList = true := by decide +kernel
theorem zn_147 : ∀ pc, 46 ≤ pc → pc < 4096 → zp_147 pc = none := fun pc h _ => zno2 h
set_option maxRecDepth 100000 in
theorem zr_147 : zRow 147 := zrow_ok (f := zp_147) (N := 46) (kd := 1) rfl (by decide) (fun _ => rfl) zn_147 zq_147
set_option maxRecDepth 100000 in
theorem zq_148 : zwk zp_148 prog_1_method_51_code 9 1 false (some (.object "SixJoints$Held")) 6 150 38 0 prog_1_method_51_code.data.toList = true := by decide +kernel
theorem zn_148 : ∀ pc, 38 ≤ pc → pc < 4096 → zp_148 pc = none := fun pc h _ => zno2 h
set_option maxRecDepth 100000 in
theorem zr_148 : zRow 148 := zrow_ok (f := zp_148) (N := 38) (kd := 0) rfl (by decide) (fun _ => rfl) zn_148 zq_148
set_option maxRecDepth 100000 in
theorem zq_149 : zwk zp_149 prog_1_method_52_code 9 1 false (some (.int)) 0 0 9 0 prog_1_method_52_code.data.toList = true := by decide +kernel
theorem zn_149 : ∀ pc, 9 ≤ pc → pc < 4096 → zp_149 pc = none := fun pc h _ => zno2 h
set_option maxRecDepth 100000 in
theorem zr_149 : zRow 149 := zrow_ok (f := zp_149) (N := 9) (kd := 1) rfl (by decide) (fun _ => rfl) zn_149 zq_149
set_option maxRecDepth 100000 in
theorem zq_150 : zwk zp_150 prog_1_method_53_code 9 1 false (some (.int)) 0 0 12 0 prog_1_method_53_code.data.toList = true := by decide +kernel
theorem zn_150 : ∀ pc, 12 ≤ pc → pc < 4096 → zp_150 pc = none := fun pc h _ => zno2 h
set_option maxRecDepth 100000 in
theorem zr_150 : zRow 150 := zrow_ok (f := zp_150) (N := 12) (kd := 1) rfl (by decide) (fun _ => rfl) zn_150 zq_150
set_option maxRecDepth 100000 in
theorem zq_151 : zwk zp_151 prog_1_method_54_code 9 1 false (some (.int)) 0 0 18 0 prog_1_method_54_code.data.toList = true := by decide +kernel
theorem zn_151 : ∀ pc, 18 ≤ pc → pc < 4096 → zp_151 pc = none := fun pc h _ => zno2 h
set_option maxRecDepth 100000 in
theorem zr_151 : zRow 151 := zrow_ok (f := zp_151) (N := 18) (kd := 1) rfl (by decide) (fun _ => rfl) zn_151 zq_151
set_option maxRecDepth 100000 in
theorem zq_152 : zwk zp_152 prog_1_method_55_code 9 1 false (some (.int)) 0 0 11 0 prog_1_method_55_code.data.toList = true := by decide +kernel
theorem zn_152 : ∀ pc, 11 ≤ pc → pc < 4096 → zp_152 pc = none := fun pc h _ => zno2 h
set_option maxRecDepth 100000 in
theorem zr_152 : zRow 152 := zrow_ok (f := zp_152) (N := 11) (kd := 1) rfl (by decide) (fun _ => rfl) zn_152 zq_152
set_option maxRecDepth 100000 in
theorem zq_153 : zwk zp_153 prog_13_method_1_code 10 1 true none 6 136 301 0 prog_13_method_1_code.data.toList = true := by decide +kernel
theorem zn_153 : ∀ pc, 301 ≤ pc → pc < 4096 → zp_153 pc = none := fun pc h _ => zno2 h
set_option maxRecDepth 100000 in
theorem zr_153 : zRow 153 := zrow_ok (f := zp_153) (N := 301) (kd := 2) rfl (by decide) (fun _ => rfl) zn_153 zq_153
set_option maxRecDepth 100000 in
theorem zq_154 : zwk zp_154 prog_13_method_1_code 10 1 true none 6 136 301 0 prog_13_method_1_code.data.toList = true := by decide +kernel
theorem zn_154 : ∀ pc, 301 ≤ pc → pc < 4096 → zp_154 pc = none := fun pc h _ => zno2 h
set_option maxRecDepth 100000 in
theorem zr_154 : zRow 154 := zrow_ok (f := zp_154) (N := 301) (kd := 2) rfl (by decide) (fun _ => rfl) zn_154 zq_154
set_option maxRecDepth 100000 in
theorem zq_155 : zwk zp_155 prog_13_method_3_code 10 8 false (some (.int)) 0 0 126 0 prog_13_method_3_code.data.toList = true := by decide +kernel
theorem zn_155 : ∀ pc, 126 ≤ pc → pc < 4096 → zp_155 pc = none := fun pc h _ => zno2 h
set_option maxRecDepth 100000 in
theorem zr_155 : zRow 155 := zrow_ok (f := zp_155) (N := 126) (kd := 0) rfl (by decide) (fun _ => rfl) zn_155 zq_155
set_option maxRecDepth 100000 in
theorem zq_156 : zwk zp_156 prog_13_method_4_code 10 1 false (some (.int)) 0 0 25 0 prog_13_method_4_code.data.toList = true := by decide +kernel
theorem zn_156 : ∀ pc, 25 ≤ pc → pc < 4096 → zp_156 pc = none := fun pc h _ => zno2 h
set_option maxRecDepth 100000 in
theorem zr_156 : zRow 156 := zrow_ok (f := zp_156) (N := 25) (kd := 0) rfl (by decide) (fun _ => rfl) zn_156 zq_156
set_option maxRecDepth 100000 in
theorem zq_157 : zwk zp_157 prog_13_method_5_code 10 1 false (some (.boolean)) 0 0 18 0 prog_13_method_5_code.data.toList = true := by decide +kernel
theorem zn_157 : ∀ pc, 18 ≤ pc → pc < 4096 → zp_157 pc = none := fun pc h _ => zno2 h
set_option maxRecDepth 100000 in
theorem zr_157 : zRow 157 := zrow_ok (f := zp_157) (N := 18) (kd := 1) rfl (by decide) (fun _ => rfl) zn_157 zq_157
set_option maxRecDepth 100000 in
theorem zq_158 : zwk zp_158 prog_13_method_6_code 10 1 false (some (.boolean)) 0 0 18 0 prog_13_method_6_code.data.toList = true := by decide +kernel
theorem zn_158 : ∀ pc, 18 ≤ pc → pc < 4096 → zp_158 pc = none := fun pc h _ => zno2 h
set_option maxRecDepth 100000 in
theorem zr_158 : zRow 158 := zrow_ok (f := zp_158) (N := 18) (kd := 1) rfl (by decide) (fun _ => rfl) zn_158 zq_158
set_option maxRecDepth 100000 in
theorem zq_159 : zwk zp_159 prog_13_method_7_code 10 2 false none 5 108 241 0 prog_13_method_7_code.data.toList = true := by decide +kernel
theorem zn_159 : ∀ pc, 241 ≤ pc → pc < 4096 → zp_159 pc = none := fun pc h _ => zno2 h
set_option maxRecDepth 100000 in
theorem zr_159 : zRow 159 := zrow_ok (f := zp_159) (N := 241) (kd := 0) rfl (by decide) (fun _ => rfl) zn_159 zq_159
