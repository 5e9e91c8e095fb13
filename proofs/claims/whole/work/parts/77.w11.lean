set_option maxRecDepth 100000 in
set_option maxHeartbeats 4000000 in
theorem gi_X11_thrown : GoodIn lw_tbl wsX11_thrown := gi_cons (by decide +kernel) (by decide +kernel) (goodIn_app gi_X11_thrown_p0 gi_wsX110)
set_option maxRecDepth 100000 in
set_option maxHeartbeats 4000000 in
theorem gi_X11_drug : GoodIn lw_tbl wsX11_drug := gi_cons (by decide +kernel) (by decide +kernel) (goodIn_app (goodIn_app gi_wsX11_drug_r1 gi_wsX11_drug_r2) gi_wsX110)
set_option maxRecDepth 100000 in
set_option maxHeartbeats 4000000 in
theorem gi_X11_more : GoodIn lw_tbl wsX11_more := gi_cons (by decide +kernel) (by decide +kernel) (goodIn_app (goodIn_app gi_wsX11_more_r1 gi_wsX11_more_r2) gi_wsX110)
set_option maxRecDepth 100000 in
set_option maxHeartbeats 4000000 in
theorem gi_X11_key : GoodIn lw_tbl wsX11_key := gi_cons (by decide +kernel) (by decide +kernel) (goodIn_app (goodIn_app gi_wsX11_key_r1 (goodIn_app gi_wsX11_key_r2 (goodIn_app gi_wsX11_key_r3 (goodIn_app gi_wsX11_key_r4 (goodIn_app gi_wsX11_key_r5 gi_wsX11_key_r6))))) gi_wsX110)
set_option maxRecDepth 100000 in
set_option maxHeartbeats 4000000 in
theorem gi_X11_ticks : GoodIn lw_tbl wsX11_ticks := gi_cons (by decide +kernel) (by decide +kernel) (goodIn_app (goodIn_app gi_wsX11_ticks_r1 (goodIn_app gi_wsX11_ticks_r2 (goodIn_app gi_wsX11_ticks_r3 (goodIn_app gi_wsX11_ticks_r4 gi_wsX11_ticks_r5)))) gi_wsX110)
set_option maxRecDepth 100000 in
set_option maxHeartbeats 4000000 in
theorem gi_X11_flow : GoodIn lw_tbl wsX11_flow := gi_cons (by decide +kernel) (by decide +kernel) (goodIn_app gi_X11_flow_p0 gi_wsX110)
set_option maxRecDepth 100000 in
set_option maxHeartbeats 4000000 in
theorem gi_X11_air : GoodIn lw_tbl wsX11_air := gi_cons (by decide +kernel) (by decide +kernel) (goodIn_app gi_X11_air_p0 gi_wsX110)
set_option maxRecDepth 100000 in
set_option maxHeartbeats 4000000 in
theorem gi_X11_door : GoodIn lw_tbl wsX11_door := gi_cons (by decide +kernel) (by decide +kernel) (goodIn_app (goodIn_app gi_wsX11_door_r1 gi_wsX11_door_r2) gi_wsX110)
