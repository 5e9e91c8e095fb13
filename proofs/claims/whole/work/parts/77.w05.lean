set_option maxRecDepth 100000 in
set_option maxHeartbeats 4000000 in
theorem gi_wsL_ticks_r7 : GoodIn lw_tbl (wsL_ticks_r7) := goodIn_of _ (by decide +kernel)
set_option maxRecDepth 100000 in
set_option maxHeartbeats 4000000 in
theorem gi_wsL_ticks_r8 : GoodIn lw_tbl (wsL_ticks_r8) := goodIn_of _ (by decide +kernel)
set_option maxRecDepth 100000 in
set_option maxHeartbeats 4000000 in
theorem gi_wsL_ticks_r9 : GoodIn lw_tbl (wsL_ticks_r9) := goodIn_of _ (by decide +kernel)
set_option maxRecDepth 100000 in
set_option maxHeartbeats 4000000 in
theorem gi_L_flow_p0 : GoodIn lw_tbl ([.classLink RL 13 "java/lang/IndexOutOfBoundsException", .classLink RL 15 "java/lang/IllegalArgumentException", .methodLink RL 30 yX10_flow, .instanceMethod yX10_flow, .selects RX10 yX10_flow yX10_flow, .initialized RX10, .code yX10_flow cX10_flow 5 (some .int), .classLink RX10 48 "java/lang/IllegalArgumentException", .initialized "java/lang/IllegalArgumentException", .fieldLink RX10 125 "DosePump$Channel" "line" "LDosePump$Line;", .fieldLink RX10 131 "DosePump$Line" "flow" "I", .methodLink RX10 121 yX10_channelAt, .instanceMethod yX10_channelAt, .selects RX10 yX10_channelAt yX10_channelAt, .code yX10_channelAt cX10_channelAt 2 (some (.object "DosePump$Channel")), .classLink RX10 41 "java/lang/IndexOutOfBoundsException", .initialized "java/lang/IndexOutOfBoundsException", .fieldLink RX10 17 "DosePump" "channels" "[LDosePump$Channel;"]) := goodIn_of _ (by decide +kernel)
set_option maxRecDepth 100000 in
set_option maxHeartbeats 4000000 in
theorem gi_L_air_p0 : GoodIn lw_tbl ([.classLink RL 13 "java/lang/IndexOutOfBoundsException", .methodLink RL 34 yX10_air, .instanceMethod yX10_air, .selects RX10 yX10_air yX10_air, .initialized RX10, .code yX10_air cX10_air 5 (some .boolean), .fieldLink RX10 125 "DosePump$Channel" "line" "LDosePump$Line;", .fieldLink RX10 135 "DosePump$Line" "air" "Z", .methodLink RX10 121 yX10_channelAt, .instanceMethod yX10_channelAt, .selects RX10 yX10_channelAt yX10_channelAt, .code yX10_channelAt cX10_channelAt 2 (some (.object "DosePump$Channel")), .classLink RX10 41 "java/lang/IndexOutOfBoundsException", .initialized "java/lang/IndexOutOfBoundsException", .fieldLink RX10 17 "DosePump" "channels" "[LDosePump$Channel;"]) := goodIn_of _ (by decide +kernel)
set_option maxRecDepth 100000 in
set_option maxHeartbeats 4000000 in
theorem gi_wsL_door_r1 : GoodIn lw_tbl (wsL_door_r1) := goodIn_of _ (by decide +kernel)
set_option maxRecDepth 100000 in
set_option maxHeartbeats 4000000 in
theorem gi_wsL_door_r2 : GoodIn lw_tbl (wsL_door_r2) := goodIn_of _ (by decide +kernel)
set_option maxRecDepth 100000 in
set_option maxHeartbeats 4000000 in
theorem gi_L_about_p0 : GoodIn lw_tbl ([.classLink RL 13 "java/lang/IndexOutOfBoundsException", .methodLink RL 41 yX10_about, .instanceMethod yX10_about, .selects RX10 yX10_about yX10_about, .initialized RX10, .code yX10_about cX10_about 2 (some .int), .classLink RX10 41 "java/lang/IndexOutOfBoundsException", .initialized "java/lang/IndexOutOfBoundsException", .fieldLink RX10 148 "DosePump" "time" "I", .fieldLink RX10 29 "DosePump" "charge" "I", .fieldLink RX10 95 "DosePump" "chosen" "I", .fieldLink RX10 24 "DosePump" "journal" "LDosePump$Journal;", .fieldLink RX10 155 "DosePump$Journal" "count" "I", .methodLink RX10 151 yX10_isSounding, .instanceMethod yX10_isSounding, .selects RX10 yX10_isSounding yX10_isSounding, .code yX10_isSounding cX10_isSounding 3 (some .boolean), .fieldLink RX10 17 "DosePump" "channels" "[LDosePump$Channel;", .fieldLink RX10 160 "DosePump$Channel" "alarms" "I", .fieldLink RX10 307 "DosePump" "silentUntil" "I"]) := goodIn_of _ (by decide +kernel)
set_option maxRecDepth 100000 in
set_option maxHeartbeats 4000000 in
theorem gi_wsL_channel_r1 : GoodIn lw_tbl (wsL_channel_r1) := goodIn_of _ (by decide +kernel)
set_option maxRecDepth 100000 in
set_option maxHeartbeats 4000000 in
theorem gi_wsL_channel_r2 : GoodIn lw_tbl (wsL_channel_r2) := goodIn_of _ (by decide +kernel)
set_option maxRecDepth 100000 in
set_option maxHeartbeats 4000000 in
theorem gi_wsL_entry_r1 : GoodIn lw_tbl (wsL_entry_r1) := goodIn_of _ (by decide +kernel)
set_option maxRecDepth 100000 in
set_option maxHeartbeats 4000000 in
theorem gi_wsL_entry_r2 : GoodIn lw_tbl (wsL_entry_r2) := goodIn_of _ (by decide +kernel)
