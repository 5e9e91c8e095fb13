set_option maxRecDepth 100000 in
set_option maxHeartbeats 4000000 in
theorem gi_wsL_rate_r1 : GoodIn lw_tbl (wsL_rate_r1) := goodIn_of _ (by decide +kernel)
set_option maxRecDepth 100000 in
set_option maxHeartbeats 4000000 in
theorem gi_wsL_rate_r2 : GoodIn lw_tbl (wsL_rate_r2) := goodIn_of _ (by decide +kernel)
set_option maxRecDepth 100000 in
set_option maxHeartbeats 4000000 in
theorem gi_L_log_p0 : GoodIn lw_tbl ([.classLink RL 13 "java/lang/IndexOutOfBoundsException", .methodLink RL 54 yX10_log, .instanceMethod yX10_log, .selects RX10 yX10_log yX10_log, .initialized RX10, .code yX10_log cX10_log 3 (some .int), .classLink RX10 41 "java/lang/IndexOutOfBoundsException", .initialized "java/lang/IndexOutOfBoundsException", .fieldLink RX10 24 "DosePump" "journal" "LDosePump$Journal;", .methodLink RX10 251 yX5_keeps, .instanceMethod yX5_keeps, .selects RX5 yX5_keeps yX5_keeps, .initialized RX5, .code yX5_keeps cX5_keeps 2 (some .boolean), .fieldLink RX5 17 "DosePump$Journal" "count" "I", .methodLink RX10 256 yX5_read, .instanceMethod yX5_read, .selects RX5 yX5_read yX5_read, .code yX5_read cX5_read 3 (some .int), .fieldLink RX5 9 "DosePump$Journal" "cells" "[I"]) := goodIn_of _ (by decide +kernel)
set_option maxRecDepth 100000 in
set_option maxHeartbeats 4000000 in
theorem gi_X11_thrown_p0 : GoodIn lw_tbl ([.fieldLink RX11 159 "DosePumpModel" "thrown" "I"]) := goodIn_of _ (by decide +kernel)
set_option maxRecDepth 100000 in
set_option maxHeartbeats 4000000 in
theorem gi_wsX11_drug_r1 : GoodIn lw_tbl (wsX11_drug_r1) := goodIn_of _ (by decide +kernel)
set_option maxRecDepth 100000 in
set_option maxHeartbeats 4000000 in
theorem gi_wsX11_drug_r2 : GoodIn lw_tbl (wsX11_drug_r2) := goodIn_of _ (by decide +kernel)
set_option maxRecDepth 100000 in
set_option maxHeartbeats 4000000 in
theorem gi_wsX11_more_r1 : GoodIn lw_tbl (wsX11_more_r1) := goodIn_of _ (by decide +kernel)
set_option maxRecDepth 100000 in
set_option maxHeartbeats 4000000 in
theorem gi_wsX11_more_r2 : GoodIn lw_tbl (wsX11_more_r2) := goodIn_of _ (by decide +kernel)
set_option maxRecDepth 100000 in
set_option maxHeartbeats 4000000 in
theorem gi_wsX11_key_r1 : GoodIn lw_tbl (wsX11_key_r1) := goodIn_of _ (by decide +kernel)
set_option maxRecDepth 100000 in
set_option maxHeartbeats 4000000 in
theorem gi_wsX11_key_r2 : GoodIn lw_tbl (wsX11_key_r2) := goodIn_of _ (by decide +kernel)
set_option maxRecDepth 100000 in
set_option maxHeartbeats 4000000 in
theorem gi_wsX11_key_r3 : GoodIn lw_tbl (wsX11_key_r3) := goodIn_of _ (by decide +kernel)
set_option maxRecDepth 100000 in
set_option maxHeartbeats 4000000 in
theorem gi_wsX11_key_r4 : GoodIn lw_tbl (wsX11_key_r4) := goodIn_of _ (by decide +kernel)
