set_option maxRecDepth 20000 in
theorem wsLg_7 : GoodIn lw_tbl wsL_law_r7 := goodIn_p _ [292, 295, 298, 302, 306, 683] (by decide +kernel) (by decide +kernel)
set_option maxRecDepth 20000 in
theorem wsLg_8 : GoodIn lw_tbl wsL_law_r8 := goodIn_p _ [310, 314, 687, 691, 319, 324] (by decide +kernel) (by decide +kernel)
set_option maxRecDepth 20000 in
theorem wsLg_9 : GoodIn lw_tbl wsL_law_r9 := goodIn_p _ [695, 699, 328, 332, 703, 336] (by decide +kernel) (by decide +kernel)
set_option maxRecDepth 20000 in
theorem wsLg_10 : GoodIn lw_tbl wsL_law_r10 := goodIn_p _ [339, 342, 346, 707, 350, 711] (by decide +kernel) (by decide +kernel)
set_option maxRecDepth 20000 in
theorem wsLg_11 : GoodIn lw_tbl wsL_law_r11 := goodIn_p _ [354, 358, 362, 366, 369] (by decide +kernel) (by decide +kernel)
set_option maxRecDepth 20000 in
theorem wsLg_12 : GoodIn lw_tbl wsL_law_r12 := goodIn_p _ [373, 377, 381, 385, 390, 394] (by decide +kernel) (by decide +kernel)
