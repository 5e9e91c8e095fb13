set_option maxRecDepth 100000 in
set_option maxHeartbeats 4000000 in
theorem gi_X11_mains : GoodIn lw_tbl wsX11_mains := gi_cons (by decide +kernel) (by decide +kernel) (goodIn_app gi_X11_mains_p0 gi_wsX110)
set_option maxRecDepth 100000 in
set_option maxHeartbeats 4000000 in
theorem gi_X11_about : GoodIn lw_tbl wsX11_about := gi_cons (by decide +kernel) (by decide +kernel) (goodIn_app gi_X11_about_p0 gi_wsX110)
set_option maxRecDepth 100000 in
set_option maxHeartbeats 4000000 in
theorem gi_X11_channel : GoodIn lw_tbl wsX11_channel := gi_cons (by decide +kernel) (by decide +kernel) (goodIn_app gi_X11_channel_p0 gi_wsX110)
set_option maxRecDepth 100000 in
set_option maxHeartbeats 4000000 in
theorem gi_X11_entry : GoodIn lw_tbl wsX11_entry := gi_cons (by decide +kernel) (by decide +kernel) (goodIn_app (goodIn_app gi_wsX11_entry_r1 gi_wsX11_entry_r2) gi_wsX110)
set_option maxRecDepth 100000 in
set_option maxHeartbeats 4000000 in
theorem gi_X11_rate : GoodIn lw_tbl wsX11_rate := gi_cons (by decide +kernel) (by decide +kernel) (goodIn_app (goodIn_app gi_wsX11_rate_r1 gi_wsX11_rate_r2) gi_wsX110)
set_option maxRecDepth 100000 in
set_option maxHeartbeats 4000000 in
theorem gi_X11_log : GoodIn lw_tbl wsX11_log := gi_cons (by decide +kernel) (by decide +kernel) (goodIn_app gi_X11_log_p0 gi_wsX110)
set_option maxRecDepth 100000 in
set_option maxHeartbeats 4000000 in
theorem gi_X11_chain : GoodIn lw_tbl wsX11_chain := gi_cons (by decide +kernel) (by decide +kernel) (goodIn_app gi_X11_chain_p0 gi_wsX110)
