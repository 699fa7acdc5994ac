set_option maxRecDepth 100000 in
theorem zw_over : Cond.arrayOver (.object "SixJoints$Held") ∈ lw_tbl := zinT_2 19 rfl
set_option maxRecDepth 100000 in
theorem zw_st0 : Cond.laysStatic "SixJoints" "LOWEST" "[I" ∈ lw_tbl := zinT_2 144 rfl
set_option maxRecDepth 100000 in
theorem zw_st1 : Cond.laysStatic "SixJoints" "HIGHEST" "[I" ∈ lw_tbl := zinT_2 146 rfl
set_option maxRecDepth 100000 in
theorem zw_st2 : Cond.laysStatic "SixJoints" "COS" "[I" ∈ lw_tbl := zinT_2 176 rfl
set_option maxRecDepth 100000 in
theorem zw_st3 : Cond.laysStatic "SixJoints$Reader" "WORDS" "[I" ∈ lw_tbl := zinT_3 61 rfl
set_option maxRecDepth 100000 in
theorem zw_st4 : Cond.laysStatic "SixJointsModel" "QUARTER" "[I" ∈ lw_tbl := zinT_6 48 rfl
set_option maxRecDepth 100000 in
theorem zw_in0 : Cond.initialized "SixJoints" ∈ lw_tbl := zinT_1 1 rfl
set_option maxRecDepth 100000 in
theorem zw_in3 : Cond.initialized "SixJoints$Reader" ∈ lw_tbl := zinT_1 2 rfl
set_option maxRecDepth 100000 in
theorem zw_in4 : Cond.initialized "SixJointsModel" ∈ lw_tbl := zinT_1 12 rfl
