set_option maxRecDepth 100000 in
set_option maxHeartbeats 4000000 in
theorem gi_wsX60 : GoodIn lw_tbl (wsX60) := goodIn_of _ (by decide +kernel)
set_option maxRecDepth 100000 in
set_option maxHeartbeats 4000000 in
theorem gi_wsX40 : GoodIn lw_tbl (wsX40) := goodIn_of _ (by decide +kernel)
set_option maxRecDepth 100000 in
set_option maxHeartbeats 4000000 in
theorem gi_wsX90 : GoodIn lw_tbl (wsX90) := goodIn_of _ (by decide +kernel)
set_option maxRecDepth 100000 in
set_option maxHeartbeats 4000000 in
theorem gi_wsX80 : GoodIn lw_tbl (wsX80) := goodIn_of _ (by decide +kernel)
set_option maxRecDepth 100000 in
set_option maxHeartbeats 4000000 in
theorem gi_wsX11_init_r1 : GoodIn lw_tbl (wsX11_init_r1) := goodIn_of _ (by decide +kernel)
set_option maxRecDepth 100000 in
set_option maxHeartbeats 4000000 in
theorem gi_wsX11_init_r2 : GoodIn lw_tbl (wsX11_init_r2) := goodIn_of _ (by decide +kernel)
set_option maxRecDepth 100000 in
set_option maxHeartbeats 4000000 in
theorem gi_wsX11_init_r3 : GoodIn lw_tbl (wsX11_init_r3) := goodIn_of _ (by decide +kernel)
set_option maxRecDepth 100000 in
set_option maxHeartbeats 4000000 in
theorem gi_wsX110 : GoodIn lw_tbl (wsX110) := goodIn_of _ (by decide +kernel)
set_option maxRecDepth 100000 in
set_option maxHeartbeats 4000000 in
theorem gi_X10_mains_p0 : GoodIn lw_tbl ([.fieldLink RX10 33 "DosePump" "onMains" "Z"]) := goodIn_of _ (by decide +kernel)
set_option maxRecDepth 100000 in
set_option maxHeartbeats 4000000 in
theorem gi_X10_chain_p0 : GoodIn lw_tbl ([.fieldLink RX10 24 "DosePump" "journal" "LDosePump$Journal;", .fieldLink RX10 259 "DosePump$Journal" "links" "J"]) := goodIn_of _ (by decide +kernel)
set_option maxRecDepth 100000 in
set_option maxHeartbeats 4000000 in
theorem gi_wsL_drug_r1 : GoodIn lw_tbl (wsL_drug_r1) := goodIn_of _ (by decide +kernel)
set_option maxRecDepth 100000 in
set_option maxHeartbeats 4000000 in
theorem gi_wsL_drug_r2 : GoodIn lw_tbl (wsL_drug_r2) := goodIn_of _ (by decide +kernel)
