set_option maxRecDepth 20000 in
theorem wsLg_1 : GoodIn lw_tbl wsL_law_r1 := goodIn_p _ [65, 68] (by decide +kernel) (by decide +kernel)
set_option maxRecDepth 20000 in
theorem wsLg_2 : GoodIn lw_tbl wsL_law_r2 := goodIn_p _ [73] (by decide +kernel) (by decide +kernel)
set_option maxRecDepth 20000 in
theorem wsLg_3 : GoodIn lw_tbl wsL_law_r3 := goodIn_p _ [127, 144, 196] (by decide +kernel) (by decide +kernel)
set_option maxRecDepth 20000 in
theorem wsLg_4 : GoodIn lw_tbl wsL_law_r4 := goodIn_p _ [224, 617] (by decide +kernel) (by decide +kernel)
set_option maxRecDepth 20000 in
theorem wsLg_5 : GoodIn lw_tbl wsL_law_r5 := goodIn_p _ [267, 270, 274, 278] (by decide +kernel) (by decide +kernel)
set_option maxRecDepth 20000 in
theorem wsLg_6 : GoodIn lw_tbl wsL_law_r6 := goodIn_p _ [281, 285, 672, 675, 679, 289] (by decide +kernel) (by decide +kernel)
