set_option maxRecDepth 100000 in
set_option maxHeartbeats 4000000 in
theorem gi_L_flow : GoodIn lw_tbl wsL_flow := gi_cons (by decide +kernel) (by decide +kernel) (goodIn_app (goodIn_app (goodIn_app (goodIn_app (goodIn_app gi_L_flow_p0 gi_wsX10) gi_wsX60) gi_wsX100) gi_L_drug_p1) gi_L_drug_p0)
set_option maxRecDepth 100000 in
set_option maxHeartbeats 4000000 in
theorem gi_L_air : GoodIn lw_tbl wsL_air := gi_cons (by decide +kernel) (by decide +kernel) (goodIn_app (goodIn_app (goodIn_app (goodIn_app gi_L_air_p0 gi_wsX10) gi_wsX60) gi_wsX100) gi_L_drug_p0)
set_option maxRecDepth 100000 in
set_option maxHeartbeats 4000000 in
theorem gi_L_door : GoodIn lw_tbl wsL_door := gi_cons (by decide +kernel) (by decide +kernel) (goodIn_app (goodIn_app (goodIn_app (goodIn_app (goodIn_app (goodIn_app (goodIn_app gi_wsL_door_r1 gi_wsL_door_r2) gi_wsX10) gi_wsX60) gi_wsX100) gi_wsX50) gi_wsX00) gi_L_drug_p0)
set_option maxRecDepth 100000 in
set_option maxHeartbeats 4000000 in
theorem gi_L_about : GoodIn lw_tbl wsL_about := gi_cons (by decide +kernel) (by decide +kernel) (goodIn_app (goodIn_app (goodIn_app (goodIn_app gi_L_about_p0 gi_wsX100) gi_wsX50) gi_wsX10) gi_L_drug_p0)
set_option maxRecDepth 100000 in
set_option maxHeartbeats 4000000 in
theorem gi_L_channel : GoodIn lw_tbl wsL_channel := gi_cons (by decide +kernel) (by decide +kernel) (goodIn_app (goodIn_app (goodIn_app (goodIn_app (goodIn_app (goodIn_app (goodIn_app (goodIn_app (goodIn_app (goodIn_app gi_wsL_channel_r1 gi_wsL_channel_r2) gi_wsX10) gi_wsX70) gi_wsX00) gi_wsX40) gi_wsX60) gi_wsX80) gi_wsX20) gi_wsX100) gi_L_drug_p0)
set_option maxRecDepth 100000 in
set_option maxHeartbeats 4000000 in
theorem gi_L_entry : GoodIn lw_tbl wsL_entry := gi_cons (by decide +kernel) (by decide +kernel) (goodIn_app (goodIn_app (goodIn_app (goodIn_app (goodIn_app (goodIn_app (goodIn_app gi_wsL_entry_r1 gi_wsL_entry_r2) gi_wsX100) gi_wsX10) gi_wsX30) gi_wsX20) gi_wsX90) gi_L_drug_p0)
set_option maxRecDepth 100000 in
set_option maxHeartbeats 4000000 in
theorem gi_L_rate : GoodIn lw_tbl wsL_rate := gi_cons (by decide +kernel) (by decide +kernel) (goodIn_app (goodIn_app (goodIn_app (goodIn_app (goodIn_app gi_wsL_rate_r1 gi_wsL_rate_r2) gi_wsX100) gi_wsX20) gi_L_drug_p1) gi_L_drug_p0)
set_option maxRecDepth 100000 in
set_option maxHeartbeats 4000000 in
theorem gi_L_log : GoodIn lw_tbl wsL_log := gi_cons (by decide +kernel) (by decide +kernel) (goodIn_app (goodIn_app (goodIn_app gi_L_log_p0 gi_wsX100) gi_wsX50) gi_L_drug_p0)
