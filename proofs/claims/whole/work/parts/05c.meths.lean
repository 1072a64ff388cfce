set_option maxRecDepth 100000 in
theorem am_YL_ok0 : (List.range' 0 48).all am_ylb = true := by decide +kernel
set_option maxRecDepth 100000 in
theorem am_YL_ok1 : (List.range' 48 48).all am_ylb = true := by decide +kernel
set_option maxRecDepth 100000 in
theorem am_YL_ok2 : (List.range' 96 48).all am_ylb = true := by decide +kernel
set_option maxRecDepth 100000 in
theorem am_YL_ok3 : (List.range' 144 48).all am_ylb = true := by decide +kernel
set_option maxRecDepth 100000 in
theorem am_YL_ok4 : (List.range' 192 48).all am_ylb = true := by decide +kernel
set_option maxRecDepth 100000 in
theorem am_YL_ok5 : (List.range' 240 48).all am_ylb = true := by decide +kernel
set_option maxRecDepth 100000 in
theorem am_YL_ok6 : (List.range' 288 41).all am_ylb = true := by decide +kernel
