set_option maxRecDepth 20000 in
theorem wsLg_13 : GoodIn lw_tbl wsL_law_r13 := goodIn_p _ [408, 398, 402, 405, 412] (by decide +kernel) (by decide +kernel)
set_option maxRecDepth 20000 in
theorem wsLg_14 : GoodIn lw_tbl wsL_law_r14 := goodIn_p _ [416, 420, 424, 428, 432, 715] (by decide +kernel) (by decide +kernel)
set_option maxRecDepth 20000 in
theorem wsLg_15 : GoodIn lw_tbl wsL_law_r15 := goodIn_p _ [719, 723, 726, 730, 734, 738] (by decide +kernel) (by decide +kernel)
set_option maxRecDepth 20000 in
theorem wsLg_16 : GoodIn lw_tbl wsL_law_r16 := goodIn_p _ [742, 746, 750, 754, 758, 436] (by decide +kernel) (by decide +kernel)
set_option maxRecDepth 20000 in
theorem wsLg_17 : GoodIn lw_tbl wsL_law_r17 := goodIn_p _ [440, 444, 449, 454, 762] (by decide +kernel) (by decide +kernel)
set_option maxRecDepth 20000 in
theorem wsLg_18 : GoodIn lw_tbl wsL_law_r18 := goodIn_p _ [766, 770, 774, 778, 782, 786] (by decide +kernel) (by decide +kernel)
