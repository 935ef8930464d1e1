set_option maxRecDepth 20000 in
theorem wsLg_19 : GoodIn lw_tbl wsL_law_r19 := goodIn_p _ [790, 458, 794, 462] (by decide +kernel) (by decide +kernel)
set_option maxRecDepth 20000 in
theorem wsLg_20 : GoodIn lw_tbl wsL_law_r20 := goodIn_p _ [798, 469, 473, 477, 483] (by decide +kernel) (by decide +kernel)
set_option maxRecDepth 20000 in
theorem wsLg_21 : GoodIn lw_tbl wsL_law_r21 := goodIn_p _ [488, 492, 497, 501, 505, 509] (by decide +kernel) (by decide +kernel)
set_option maxRecDepth 20000 in
theorem wsLg_22 : GoodIn lw_tbl wsL_law_r22 := goodIn_p _ [513, 516, 523, 528] (by decide +kernel) (by decide +kernel)
set_option maxRecDepth 20000 in
theorem wsLg_23 : GoodIn lw_tbl wsL_law_r23 := goodIn_p _ [802, 806, 810, 536, 814] (by decide +kernel) (by decide +kernel)
set_option maxRecDepth 20000 in
theorem wsLg_24 : GoodIn lw_tbl wsL_law_r24 := goodIn_p _ [540, 544, 548, 553, 557] (by decide +kernel) (by decide +kernel)
