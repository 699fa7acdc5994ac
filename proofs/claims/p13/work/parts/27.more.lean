set_option maxRecDepth 100000 in
theorem zw_over : Cond.arrayOver (.object "SixJoints$Held") ∈ lw_tbl := List.mem_of_getElem? (i := 370) rfl
set_option maxRecDepth 100000 in
theorem zw_st0 : Cond.laysStatic "SixJoints" "LOWEST" "[I" ∈ lw_tbl := List.mem_of_getElem? (i := 495) rfl
set_option maxRecDepth 100000 in
theorem zw_st1 : Cond.laysStatic "SixJoints" "HIGHEST" "[I" ∈ lw_tbl := List.mem_of_getElem? (i := 497) rfl
set_option maxRecDepth 100000 in
theorem zw_st2 : Cond.laysStatic "SixJoints" "COS" "[I" ∈ lw_tbl := List.mem_of_getElem? (i := 527) rfl
set_option maxRecDepth 100000 in
theorem zw_st3 : Cond.laysStatic "SixJoints$Reader" "WORDS" "[I" ∈ lw_tbl := List.mem_of_getElem? (i := 652) rfl
set_option maxRecDepth 100000 in
theorem zw_st4 : Cond.laysStatic "SixJointsModel" "QUARTER" "[I" ∈ lw_tbl := List.mem_of_getElem? (i := 1359) rfl
set_option maxRecDepth 100000 in
theorem zw_in0 : Cond.initialized "SixJoints" ∈ lw_tbl := List.mem_of_getElem? (i := 112) rfl
set_option maxRecDepth 100000 in
theorem zw_in3 : Cond.initialized "SixJoints$Reader" ∈ lw_tbl := List.mem_of_getElem? (i := 113) rfl
set_option maxRecDepth 100000 in
theorem zw_in4 : Cond.initialized "SixJointsModel" ∈ lw_tbl := List.mem_of_getElem? (i := 123) rfl
