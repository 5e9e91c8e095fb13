set_option maxRecDepth 100000 in
set_option maxHeartbeats 4000000 in
theorem gi_X10_init : GoodIn lw_tbl wsX10_init := gi_cons (by decide +kernel) (by decide +kernel) (goodIn_app (goodIn_app (goodIn_app (goodIn_app (goodIn_app (goodIn_app (goodIn_app (goodIn_app (goodIn_app (goodIn_app (goodIn_app (goodIn_app gi_wsX10_init_r1 (goodIn_app gi_wsX10_init_r2 (goodIn_app gi_wsX10_init_r3 (goodIn_app gi_wsX10_init_r4 gi_wsX10_init_r5)))) gi_wsX100) gi_wsX50) gi_wsX20) gi_wsX10) gi_wsX30) gi_wsX70) gi_wsX00) gi_wsX60) gi_wsX40) gi_wsX90) gi_wsX80)
set_option maxRecDepth 100000 in
set_option maxHeartbeats 4000000 in
theorem gi_X11_init : GoodIn lw_tbl wsX11_init := gi_cons (by decide +kernel) (by decide +kernel) (goodIn_app (goodIn_app gi_wsX11_init_r1 (goodIn_app gi_wsX11_init_r2 gi_wsX11_init_r3)) gi_wsX110)
set_option maxRecDepth 100000 in
set_option maxHeartbeats 4000000 in
theorem gi_X10_mains : GoodIn lw_tbl wsX10_mains := gi_cons (by decide +kernel) (by decide +kernel) (goodIn_app gi_X10_mains_p0 gi_wsX100)
set_option maxRecDepth 100000 in
set_option maxHeartbeats 4000000 in
theorem gi_X10_chain : GoodIn lw_tbl wsX10_chain := gi_cons (by decide +kernel) (by decide +kernel) (goodIn_app (goodIn_app gi_X10_chain_p0 gi_wsX100) gi_wsX50)
set_option maxRecDepth 100000 in
set_option maxHeartbeats 4000000 in
theorem gi_L_drug : GoodIn lw_tbl wsL_drug := gi_cons (by decide +kernel) (by decide +kernel) (goodIn_app (goodIn_app (goodIn_app (goodIn_app (goodIn_app (goodIn_app (goodIn_app (goodIn_app (goodIn_app gi_wsL_drug_r1 gi_wsL_drug_r2) gi_wsX100) gi_wsX20) gi_wsX10) gi_wsX70) gi_wsX30) gi_L_drug_p0) gi_L_drug_p1) gi_L_drug_p2)
set_option maxRecDepth 100000 in
set_option maxHeartbeats 4000000 in
theorem gi_L_more : GoodIn lw_tbl wsL_more := gi_cons (by decide +kernel) (by decide +kernel) (goodIn_app (goodIn_app (goodIn_app (goodIn_app (goodIn_app (goodIn_app (goodIn_app (goodIn_app (goodIn_app gi_wsL_more_r1 gi_wsL_more_r2) gi_wsX100) gi_wsX20) gi_wsX10) gi_wsX70) gi_wsX30) gi_L_drug_p1) gi_L_drug_p0) gi_L_drug_p2)
set_option maxRecDepth 100000 in
set_option maxHeartbeats 4000000 in
theorem gi_L_key : GoodIn lw_tbl wsL_key := gi_cons (by decide +kernel) (by decide +kernel) (goodIn_app (goodIn_app (goodIn_app (goodIn_app (goodIn_app (goodIn_app (goodIn_app (goodIn_app (goodIn_app (goodIn_app (goodIn_app (goodIn_app (goodIn_app gi_wsL_key_r1 (goodIn_app gi_wsL_key_r2 (goodIn_app gi_wsL_key_r3 (goodIn_app gi_wsL_key_r4 (goodIn_app gi_wsL_key_r5 (goodIn_app gi_wsL_key_r6 (goodIn_app gi_wsL_key_r7 (goodIn_app gi_wsL_key_r8 (goodIn_app gi_wsL_key_r9 (goodIn_app gi_wsL_key_r10 (goodIn_app gi_wsL_key_r11 (goodIn_app gi_wsL_key_r12 gi_wsL_key_r13)))))))))))) gi_wsX100) gi_wsX10) gi_wsX30) gi_wsX20) gi_wsX90) gi_wsX50) gi_wsX00) gi_wsX70) gi_wsX60) gi_wsX40) gi_wsX80) gi_L_drug_p1)
set_option maxRecDepth 100000 in
set_option maxHeartbeats 4000000 in
theorem gi_L_ticks : GoodIn lw_tbl wsL_ticks := gi_cons (by decide +kernel) (by decide +kernel) (goodIn_app (goodIn_app (goodIn_app (goodIn_app (goodIn_app (goodIn_app (goodIn_app (goodIn_app (goodIn_app (goodIn_app (goodIn_app (goodIn_app (goodIn_app gi_wsL_ticks_r1 (goodIn_app gi_wsL_ticks_r2 (goodIn_app gi_wsL_ticks_r3 (goodIn_app gi_wsL_ticks_r4 (goodIn_app gi_wsL_ticks_r5 (goodIn_app gi_wsL_ticks_r6 (goodIn_app gi_wsL_ticks_r7 (goodIn_app gi_wsL_ticks_r8 gi_wsL_ticks_r9)))))))) gi_wsX100) gi_wsX10) gi_wsX60) gi_wsX00) gi_wsX40) gi_wsX80) gi_wsX70) gi_wsX20) gi_wsX50) gi_wsX30) gi_wsX90) gi_L_drug_p1)
