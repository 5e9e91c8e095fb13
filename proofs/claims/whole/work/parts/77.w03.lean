set_option maxRecDepth 100000 in
set_option maxHeartbeats 4000000 in
theorem gi_L_drug_p0 : GoodIn lw_tbl ((vx_atS RX10 45 "java/lang/IndexOutOfBoundsException" ["java/lang/RuntimeException", "java/lang/Exception"]).filter goodWord) := goodIn_of _ (by decide +kernel)
set_option maxRecDepth 100000 in
set_option maxHeartbeats 4000000 in
theorem gi_L_drug_p1 : GoodIn lw_tbl ((vx_atS RX10 52 "java/lang/IllegalArgumentException" ["java/lang/RuntimeException", "java/lang/Exception"]).filter goodWord) := goodIn_of _ (by decide +kernel)
set_option maxRecDepth 100000 in
set_option maxHeartbeats 4000000 in
theorem gi_L_drug_p2 : GoodIn lw_tbl ((vx_atS RX10 273 "java/lang/IllegalStateException" ["java/lang/RuntimeException", "java/lang/Exception"]).filter goodWord) := goodIn_of _ (by decide +kernel)
set_option maxRecDepth 100000 in
set_option maxHeartbeats 4000000 in
theorem gi_wsL_more_r1 : GoodIn lw_tbl (wsL_more_r1) := goodIn_of _ (by decide +kernel)
set_option maxRecDepth 100000 in
set_option maxHeartbeats 4000000 in
theorem gi_wsL_more_r2 : GoodIn lw_tbl (wsL_more_r2) := goodIn_of _ (by decide +kernel)
set_option maxRecDepth 100000 in
set_option maxHeartbeats 4000000 in
theorem gi_wsL_key_r1 : GoodIn lw_tbl (wsL_key_r1) := goodIn_of _ (by decide +kernel)
set_option maxRecDepth 100000 in
set_option maxHeartbeats 4000000 in
theorem gi_wsL_key_r2 : GoodIn lw_tbl (wsL_key_r2) := goodIn_of _ (by decide +kernel)
set_option maxRecDepth 100000 in
set_option maxHeartbeats 4000000 in
theorem gi_wsL_key_r3 : GoodIn lw_tbl (wsL_key_r3) := goodIn_of _ (by decide +kernel)
set_option maxRecDepth 100000 in
set_option maxHeartbeats 4000000 in
theorem gi_wsL_key_r4 : GoodIn lw_tbl (wsL_key_r4) := goodIn_of _ (by decide +kernel)
set_option maxRecDepth 100000 in
set_option maxHeartbeats 4000000 in
theorem gi_wsL_key_r5 : GoodIn lw_tbl (wsL_key_r5) := goodIn_of _ (by decide +kernel)
set_option maxRecDepth 100000 in
set_option maxHeartbeats 4000000 in
theorem gi_wsL_key_r6 : GoodIn lw_tbl (wsL_key_r6) := goodIn_of _ (by decide +kernel)
set_option maxRecDepth 100000 in
set_option maxHeartbeats 4000000 in
theorem gi_wsL_key_r7 : GoodIn lw_tbl (wsL_key_r7) := goodIn_of _ (by decide +kernel)
