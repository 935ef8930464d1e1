set_option maxRecDepth 20000 in
theorem wsLg_25 : GoodIn lw_tbl wsL_law_r25 := goodIn_p _ [561, 564, 570, 818, 822] (by decide +kernel) (by decide +kernel)
set_option maxRecDepth 20000 in
theorem wsLg_26 : GoodIn lw_tbl wsL_law_r26 := goodIn_p _ [826, 830, 833, 575, 579, 583] (by decide +kernel) (by decide +kernel)
set_option maxRecDepth 20000 in
theorem wsLg_27 : GoodIn lw_tbl wsL_law_r27 := goodIn_p _ [837, 587, 841, 845, 591] (by decide +kernel) (by decide +kernel)
set_option maxRecDepth 20000 in
theorem wsLg_28 : GoodIn lw_tbl wsL_law_r28 := goodIn_p _ [849, 595, 599, 853, 857, 604] (by decide +kernel) (by decide +kernel)
set_option maxRecDepth 20000 in
theorem wsLg_29 : GoodIn lw_tbl wsL_law_r29 := goodIn_p _ [608, 861, 612, 865] (by decide +kernel) (by decide +kernel)
set_option maxRecDepth 20000 in
theorem wsLg_X5 : GoodIn lw_tbl wsX50 := goodIn_p _ [] (by decide +kernel) (by decide +kernel)
