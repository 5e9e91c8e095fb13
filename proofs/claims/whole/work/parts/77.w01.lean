set_option maxRecDepth 100000 in
set_option maxHeartbeats 4000000 in
theorem gi_wsX10_init_r1 : GoodIn lw_tbl (wsX10_init_r1) := goodIn_of _ (by decide +kernel)
set_option maxRecDepth 100000 in
set_option maxHeartbeats 4000000 in
theorem gi_wsX10_init_r2 : GoodIn lw_tbl (wsX10_init_r2) := goodIn_of _ (by decide +kernel)
set_option maxRecDepth 100000 in
set_option maxHeartbeats 4000000 in
theorem gi_wsX10_init_r3 : GoodIn lw_tbl (wsX10_init_r3) := goodIn_of _ (by decide +kernel)
set_option maxRecDepth 100000 in
set_option maxHeartbeats 4000000 in
theorem gi_wsX10_init_r4 : GoodIn lw_tbl (wsX10_init_r4) := goodIn_of _ (by decide +kernel)
set_option maxRecDepth 100000 in
set_option maxHeartbeats 4000000 in
theorem gi_wsX10_init_r5 : GoodIn lw_tbl (wsX10_init_r5) := goodIn_of _ (by decide +kernel)
set_option maxRecDepth 100000 in
set_option maxHeartbeats 4000000 in
theorem gi_wsX100 : GoodIn lw_tbl (wsX100) := goodIn_of _ (by decide +kernel)
set_option maxRecDepth 100000 in
set_option maxHeartbeats 4000000 in
theorem gi_wsX50 : GoodIn lw_tbl (wsX50) := goodIn_of _ (by decide +kernel)
set_option maxRecDepth 100000 in
set_option maxHeartbeats 4000000 in
theorem gi_wsX20 : GoodIn lw_tbl (wsX20) := goodIn_of _ (by decide +kernel)
set_option maxRecDepth 100000 in
set_option maxHeartbeats 4000000 in
theorem gi_wsX10 : GoodIn lw_tbl (wsX10) := goodIn_of _ (by decide +kernel)
set_option maxRecDepth 100000 in
set_option maxHeartbeats 4000000 in
theorem gi_wsX30 : GoodIn lw_tbl (wsX30) := goodIn_of _ (by decide +kernel)
set_option maxRecDepth 100000 in
set_option maxHeartbeats 4000000 in
theorem gi_wsX70 : GoodIn lw_tbl (wsX70) := goodIn_of _ (by decide +kernel)
set_option maxRecDepth 100000 in
set_option maxHeartbeats 4000000 in
theorem gi_wsX00 : GoodIn lw_tbl (wsX00) := goodIn_of _ (by decide +kernel)
