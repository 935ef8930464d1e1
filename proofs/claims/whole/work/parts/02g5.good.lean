set_option maxRecDepth 20000 in
theorem wsLg_X6 : GoodIn lw_tbl wsX60 := goodIn_p _ [] (by decide +kernel) (by decide +kernel)
set_option maxRecDepth 20000 in
theorem wsLg_X4 : GoodIn lw_tbl wsX40 := goodIn_p _ [] (by decide +kernel) (by decide +kernel)
set_option maxRecDepth 20000 in
theorem wsLg_X1 : GoodIn lw_tbl wsX10 := goodIn_p _ [] (by decide +kernel) (by decide +kernel)
set_option maxRecDepth 20000 in
theorem wsLg_X0 : GoodIn lw_tbl wsX00 := goodIn_p _ [] (by decide +kernel) (by decide +kernel)
set_option maxRecDepth 20000 in
theorem wsLg_X3 : GoodIn lw_tbl wsX30 := goodIn_p _ [] (by decide +kernel) (by decide +kernel)
set_option maxRecDepth 20000 in
theorem wsLg_X2 : GoodIn lw_tbl wsX20 := goodIn_p _ [] (by decide +kernel) (by decide +kernel)
