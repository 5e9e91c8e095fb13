set_option maxRecDepth 100000 in
set_option maxHeartbeats 4000000 in
theorem gi_wsL_key_r8 : GoodIn lw_tbl (wsL_key_r8) := goodIn_of _ (by decide +kernel)
set_option maxRecDepth 100000 in
set_option maxHeartbeats 4000000 in
theorem gi_wsL_key_r9 : GoodIn lw_tbl (wsL_key_r9) := goodIn_of _ (by decide +kernel)
set_option maxRecDepth 100000 in
set_option maxHeartbeats 4000000 in
theorem gi_wsL_key_r10 : GoodIn lw_tbl (wsL_key_r10) := goodIn_of _ (by decide +kernel)
set_option maxRecDepth 100000 in
set_option maxHeartbeats 4000000 in
theorem gi_wsL_key_r11 : GoodIn lw_tbl (wsL_key_r11) := goodIn_of _ (by decide +kernel)
set_option maxRecDepth 100000 in
set_option maxHeartbeats 4000000 in
theorem gi_wsL_key_r12 : GoodIn lw_tbl (wsL_key_r12) := goodIn_of _ (by decide +kernel)
set_option maxRecDepth 100000 in
set_option maxHeartbeats 4000000 in
theorem gi_wsL_key_r13 : GoodIn lw_tbl (wsL_key_r13) := goodIn_of _ (by decide +kernel)
set_option maxRecDepth 100000 in
set_option maxHeartbeats 4000000 in
theorem gi_wsL_ticks_r1 : GoodIn lw_tbl (wsL_ticks_r1) := goodIn_of _ (by decide +kernel)
set_option maxRecDepth 100000 in
set_option maxHeartbeats 4000000 in
theorem gi_wsL_ticks_r2 : GoodIn lw_tbl (wsL_ticks_r2) := goodIn_of _ (by decide +kernel)
set_option maxRecDepth 100000 in
set_option maxHeartbeats 4000000 in
theorem gi_wsL_ticks_r3 : GoodIn lw_tbl (wsL_ticks_r3) := goodIn_of _ (by decide +kernel)
set_option maxRecDepth 100000 in
set_option maxHeartbeats 4000000 in
theorem gi_wsL_ticks_r4 : GoodIn lw_tbl (wsL_ticks_r4) := goodIn_of _ (by decide +kernel)
set_option maxRecDepth 100000 in
set_option maxHeartbeats 4000000 in
theorem gi_wsL_ticks_r5 : GoodIn lw_tbl (wsL_ticks_r5) := goodIn_of _ (by decide +kernel)
set_option maxRecDepth 100000 in
set_option maxHeartbeats 4000000 in
theorem gi_wsL_ticks_r6 : GoodIn lw_tbl (wsL_ticks_r6) := goodIn_of _ (by decide +kernel)
