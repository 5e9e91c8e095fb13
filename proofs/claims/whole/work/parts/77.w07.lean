set_option maxRecDepth 100000 in
set_option maxHeartbeats 4000000 in
theorem gi_wsX11_key_r5 : GoodIn lw_tbl (wsX11_key_r5) := goodIn_of _ (by decide +kernel)
set_option maxRecDepth 100000 in
set_option maxHeartbeats 4000000 in
theorem gi_wsX11_key_r6 : GoodIn lw_tbl (wsX11_key_r6) := goodIn_of _ (by decide +kernel)
set_option maxRecDepth 100000 in
set_option maxHeartbeats 4000000 in
theorem gi_wsX11_ticks_r1 : GoodIn lw_tbl (wsX11_ticks_r1) := goodIn_of _ (by decide +kernel)
set_option maxRecDepth 100000 in
set_option maxHeartbeats 4000000 in
theorem gi_wsX11_ticks_r2 : GoodIn lw_tbl (wsX11_ticks_r2) := goodIn_of _ (by decide +kernel)
set_option maxRecDepth 100000 in
set_option maxHeartbeats 4000000 in
theorem gi_wsX11_ticks_r3 : GoodIn lw_tbl (wsX11_ticks_r3) := goodIn_of _ (by decide +kernel)
set_option maxRecDepth 100000 in
set_option maxHeartbeats 4000000 in
theorem gi_wsX11_ticks_r4 : GoodIn lw_tbl (wsX11_ticks_r4) := goodIn_of _ (by decide +kernel)
set_option maxRecDepth 100000 in
set_option maxHeartbeats 4000000 in
theorem gi_wsX11_ticks_r5 : GoodIn lw_tbl (wsX11_ticks_r5) := goodIn_of _ (by decide +kernel)
set_option maxRecDepth 100000 in
set_option maxHeartbeats 4000000 in
theorem gi_X11_flow_p0 : GoodIn lw_tbl ([.constantLong RX11 206 (2), .constantLong RX11 311 (1000), .fieldLink RX11 159 "DosePumpModel" "thrown" "I", .fieldLink RX11 74 "DosePumpModel" "flow" "[I", .methodLink RX11 174 yX11_isIn, .static yX11_isIn, .initialized RX11, .code yX11_isIn cX11_isIn 6 (some .boolean)]) := goodIn_of _ (by decide +kernel)
set_option maxRecDepth 100000 in
set_option maxHeartbeats 4000000 in
theorem gi_X11_air_p0 : GoodIn lw_tbl ([.fieldLink RX11 77 "DosePumpModel" "air" "[Z", .methodLink RX11 313 yX11_isChannel, .instanceMethod yX11_isChannel, .selects RX11 yX11_isChannel yX11_isChannel, .initialized RX11, .code yX11_isChannel cX11_isChannel 2 (some .boolean), .constantLong RX11 206 (2), .fieldLink RX11 159 "DosePumpModel" "thrown" "I", .methodLink RX11 174 yX11_isIn, .static yX11_isIn, .code yX11_isIn cX11_isIn 6 (some .boolean)]) := goodIn_of _ (by decide +kernel)
set_option maxRecDepth 100000 in
set_option maxHeartbeats 4000000 in
theorem gi_wsX11_door_r1 : GoodIn lw_tbl (wsX11_door_r1) := goodIn_of _ (by decide +kernel)
set_option maxRecDepth 100000 in
set_option maxHeartbeats 4000000 in
theorem gi_wsX11_door_r2 : GoodIn lw_tbl (wsX11_door_r2) := goodIn_of _ (by decide +kernel)
set_option maxRecDepth 100000 in
set_option maxHeartbeats 4000000 in
theorem gi_X11_mains_p0 : GoodIn lw_tbl ([.fieldLink RX11 159 "DosePumpModel" "thrown" "I", .fieldLink RX11 148 "DosePumpModel" "mains" "Z"]) := goodIn_of _ (by decide +kernel)
