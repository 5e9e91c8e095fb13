set_option maxRecDepth 100000 in
set_option maxHeartbeats 4000000 in
theorem gi_X11_about_p0 : GoodIn lw_tbl ([.constantLong RX11 316 (4), .fieldLink RX11 159 "DosePumpModel" "thrown" "I", .fieldLink RX11 167 "DosePumpModel" "time" "I", .fieldLink RX11 144 "DosePumpModel" "charge" "I", .fieldLink RX11 268 "DosePumpModel" "chosen" "I", .fieldLink RX11 92 "DosePumpModel" "alarms" "[I", .fieldLink RX11 265 "DosePumpModel" "silentTo" "I", .fieldLink RX11 164 "DosePumpModel" "entries" "I", .methodLink RX11 174 yX11_isIn, .static yX11_isIn, .initialized RX11, .code yX11_isIn cX11_isIn 6 (some .boolean)]) := goodIn_of _ (by decide +kernel)
set_option maxRecDepth 100000 in
set_option maxHeartbeats 4000000 in
theorem gi_X11_channel_p0 : GoodIn lw_tbl ([.constantLong RX11 206 (2), .constantLong RX11 318 (14), .fieldLink RX11 159 "DosePumpModel" "thrown" "I", .fieldLink RX11 47 "DosePumpModel" "phase" "[I", .fieldLink RX11 92 "DosePumpModel" "alarms" "[I", .fieldLink RX11 53 "DosePumpModel" "program" "[I", .fieldLink RX11 56 "DosePumpModel" "rate" "[I", .fieldLink RX11 59 "DosePumpModel" "left" "[I", .fieldLink RX11 62 "DosePumpModel" "made" "[I", .fieldLink RX11 65 "DosePumpModel" "debt" "[I", .fieldLink RX11 68 "DosePumpModel" "bolusLeft" "[I", .fieldLink RX11 113 "DosePumpModel" "inHour" "[I", .fieldLink RX11 83 "DosePumpModel" "pressure" "[I", .fieldLink RX11 89 "DosePumpModel" "bubble" "[I", .fieldLink RX11 119 "DosePumpModel" "airsNow" "[I", .fieldLink RX11 95 "DosePumpModel" "relay" "[Z", .fieldLink RX11 116 "DosePumpModel" "begunInHour" "[I", .fieldLink RX11 101 "DosePumpModel" "all" "[I", .methodLink RX11 174 yX11_isIn, .static yX11_isIn, .initialized RX11, .code yX11_isIn cX11_isIn 6 (some .boolean)]) := goodIn_of _ (by decide +kernel)
set_option maxRecDepth 100000 in
set_option maxHeartbeats 4000000 in
theorem gi_wsX11_entry_r1 : GoodIn lw_tbl (wsX11_entry_r1) := goodIn_of _ (by decide +kernel)
set_option maxRecDepth 100000 in
set_option maxHeartbeats 4000000 in
theorem gi_wsX11_entry_r2 : GoodIn lw_tbl (wsX11_entry_r2) := goodIn_of _ (by decide +kernel)
set_option maxRecDepth 100000 in
set_option maxHeartbeats 4000000 in
theorem gi_wsX11_rate_r1 : GoodIn lw_tbl (wsX11_rate_r1) := goodIn_of _ (by decide +kernel)
set_option maxRecDepth 100000 in
set_option maxHeartbeats 4000000 in
theorem gi_wsX11_rate_r2 : GoodIn lw_tbl (wsX11_rate_r2) := goodIn_of _ (by decide +kernel)
set_option maxRecDepth 100000 in
set_option maxHeartbeats 4000000 in
theorem gi_X11_log_p0 : GoodIn lw_tbl ([.fieldLink RX11 164 "DosePumpModel" "entries" "I", .constantLong RX11 202 (3), .fieldLink RX11 159 "DosePumpModel" "thrown" "I", .fieldLink RX11 152 "DosePumpModel" "log" "[I", .methodLink RX11 293 yX11_most, .static yX11_most, .initialized RX11, .code yX11_most cX11_most 2 (some .int), .methodLink RX11 174 yX11_isIn, .static yX11_isIn, .code yX11_isIn cX11_isIn 6 (some .boolean)]) := goodIn_of _ (by decide +kernel)
set_option maxRecDepth 100000 in
set_option maxHeartbeats 4000000 in
theorem gi_X11_chain_p0 : GoodIn lw_tbl ([.fieldLink RX11 159 "DosePumpModel" "thrown" "I", .fieldLink RX11 155 "DosePumpModel" "chain" "J"]) := goodIn_of _ (by decide +kernel)
