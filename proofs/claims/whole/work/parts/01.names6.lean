theorem dX11_log_21 : decode cX11_log 21 = .ok (.i2l, 1) := by decide +kernel
theorem dX11_log_22 : decode cX11_log 22 = .ok (.invokestatic 174, 3) := by decide +kernel
theorem dX11_log_25 : decode cX11_log 25 = .ok (.ifCond .eq 19, 3) := by decide +kernel
theorem dX11_log_28 : decode cX11_log 28 = .ok (.iload_n 2, 1) := by decide +kernel
theorem dX11_log_29 : decode cX11_log 29 = .ok (.i2l, 1) := by decide +kernel
theorem dX11_log_30 : decode cX11_log 30 = .ok (.lconst 0, 1) := by decide +kernel
theorem dX11_log_31 : decode cX11_log 31 = .ok (.ldc2_w 202, 3) := by decide +kernel
theorem dX11_log_34 : decode cX11_log 34 = .ok (.invokestatic 174, 3) := by decide +kernel
theorem dX11_log_37 : decode cX11_log 37 = .ok (.ifCond .eq 7, 3) := by decide +kernel
theorem dX11_log_40 : decode cX11_log 40 = .ok (.iconst 0, 1) := by decide +kernel
theorem dX11_log_41 : decode cX11_log 41 = .ok (.goto 4, 3) := by decide +kernel
theorem dX11_log_44 : decode cX11_log 44 = .ok (.iconst 1, 1) := by decide +kernel
theorem dX11_log_45 : decode cX11_log 45 = .ok (.putfield 159, 3) := by decide +kernel
theorem dX11_log_48 : decode cX11_log 48 = .ok (.aload_n 0, 1) := by decide +kernel
theorem dX11_log_49 : decode cX11_log 49 = .ok (.getfield 159, 3) := by decide +kernel
theorem dX11_log_52 : decode cX11_log 52 = .ok (.ifCond .le 7, 3) := by decide +kernel
theorem dX11_log_55 : decode cX11_log 55 = .ok (.iconst 0, 1) := by decide +kernel
theorem dX11_log_56 : decode cX11_log 56 = .ok (.goto 16, 3) := by decide +kernel
theorem dX11_log_59 : decode cX11_log 59 = .ok (.aload_n 0, 1) := by decide +kernel
theorem dX11_log_60 : decode cX11_log 60 = .ok (.getfield 152, 3) := by decide +kernel
theorem dX11_log_63 : decode cX11_log 63 = .ok (.iconst 4, 1) := by decide +kernel
theorem dX11_log_64 : decode cX11_log 64 = .ok (.iload_n 1, 1) := by decide +kernel
theorem dX11_log_65 : decode cX11_log 65 = .ok (.bipush 64, 2) := by decide +kernel
theorem dX11_log_67 : decode cX11_log 67 = .ok (.irem, 1) := by decide +kernel
theorem dX11_log_68 : decode cX11_log 68 = .ok (.imul, 1) := by decide +kernel
theorem dX11_log_69 : decode cX11_log 69 = .ok (.iload_n 2, 1) := by decide +kernel
theorem dX11_log_70 : decode cX11_log 70 = .ok (.iadd, 1) := by decide +kernel
theorem dX11_log_71 : decode cX11_log 71 = .ok (.iaload, 1) := by decide +kernel
theorem dX11_log_72 : decode cX11_log 72 = .ok (.ireturn, 1) := by decide +kernel
theorem dX11_chain_0 : decode cX11_chain 0 = .ok (.aload_n 0, 1) := by decide +kernel
theorem dX11_chain_1 : decode cX11_chain 1 = .ok (.iconst 0, 1) := by decide +kernel
theorem dX11_chain_2 : decode cX11_chain 2 = .ok (.putfield 159, 3) := by decide +kernel
theorem dX11_chain_5 : decode cX11_chain 5 = .ok (.aload_n 0, 1) := by decide +kernel
theorem dX11_chain_6 : decode cX11_chain 6 = .ok (.getfield 155, 3) := by decide +kernel
theorem dX11_chain_9 : decode cX11_chain 9 = .ok (.lreturn, 1) := by decide +kernel
theorem dJ9_max_7cf53_0 : decode cJ9_max_7cf53 0 = .ok (.iload_n 0, 1) := by decide +kernel
theorem dJ9_max_7cf53_1 : decode cJ9_max_7cf53 1 = .ok (.iload_n 1, 1) := by decide +kernel
theorem dJ9_max_7cf53_2 : decode cJ9_max_7cf53 2 = .ok (.if_icmp .lt 7, 3) := by decide +kernel
theorem dJ9_max_7cf53_5 : decode cJ9_max_7cf53 5 = .ok (.iload_n 0, 1) := by decide +kernel
theorem dJ9_max_7cf53_6 : decode cJ9_max_7cf53 6 = .ok (.goto 4, 3) := by decide +kernel
theorem dJ9_max_7cf53_9 : decode cJ9_max_7cf53 9 = .ok (.iload_n 1, 1) := by decide +kernel
theorem dJ9_max_7cf53_10 : decode cJ9_max_7cf53 10 = .ok (.ireturn, 1) := by decide +kernel
theorem dJ9_min_7cf53_0 : decode cJ9_min_7cf53 0 = .ok (.iload_n 0, 1) := by decide +kernel
theorem dJ9_min_7cf53_1 : decode cJ9_min_7cf53 1 = .ok (.iload_n 1, 1) := by decide +kernel
theorem dJ9_min_7cf53_2 : decode cJ9_min_7cf53 2 = .ok (.if_icmp .gt 7, 3) := by decide +kernel
theorem dJ9_min_7cf53_5 : decode cJ9_min_7cf53 5 = .ok (.iload_n 0, 1) := by decide +kernel
theorem dJ9_min_7cf53_6 : decode cJ9_min_7cf53 6 = .ok (.goto 4, 3) := by decide +kernel
theorem dJ9_min_7cf53_9 : decode cJ9_min_7cf53 9 = .ok (.iload_n 1, 1) := by decide +kernel
theorem dJ9_min_7cf53_10 : decode cJ9_min_7cf53 10 = .ok (.ireturn, 1) := by decide +kernel
theorem dJ9_min_f86c9_0 : decode cJ9_min_f86c9 0 = .ok (.lload_n 0, 1) := by decide +kernel
theorem dJ9_min_f86c9_1 : decode cJ9_min_f86c9 1 = .ok (.lload_n 2, 1) := by decide +kernel
theorem dJ9_min_f86c9_2 : decode cJ9_min_f86c9 2 = .ok (.lcmp, 1) := by decide +kernel
theorem dJ9_min_f86c9_3 : decode cJ9_min_f86c9 3 = .ok (.ifCond .gt 7, 3) := by decide +kernel
theorem dJ9_min_f86c9_6 : decode cJ9_min_f86c9 6 = .ok (.lload_n 0, 1) := by decide +kernel
theorem dJ9_min_f86c9_7 : decode cJ9_min_f86c9 7 = .ok (.goto 4, 3) := by decide +kernel
theorem dJ9_min_f86c9_10 : decode cJ9_min_f86c9 10 = .ok (.lload_n 2, 1) := by decide +kernel
theorem dJ9_min_f86c9_11 : decode cJ9_min_f86c9 11 = .ok (.lreturn, 1) := by decide +kernel
theorem dL_drug_0 : decode cL_drug 0 = .ok (.aload_n 0, 1) := by decide +kernel
theorem dL_drug_1 : decode cL_drug 1 = .ok (.iload_n 1, 1) := by decide +kernel
theorem dL_drug_2 : decode cL_drug 2 = .ok (.iload_n 2, 1) := by decide +kernel
theorem dL_drug_3 : decode cL_drug 3 = .ok (.iload_n 3, 1) := by decide +kernel
theorem dL_drug_4 : decode cL_drug 4 = .ok (.iload 4, 2) := by decide +kernel
theorem dL_drug_6 : decode cL_drug 6 = .ok (.iload 5, 2) := by decide +kernel
theorem dL_drug_8 : decode cL_drug 8 = .ok (.iload 6, 2) := by decide +kernel
theorem dL_drug_10 : decode cL_drug 10 = .ok (.iload 7, 2) := by decide +kernel
theorem dL_drug_12 : decode cL_drug 12 = .ok (.invokevirtual 7, 3) := by decide +kernel
theorem dL_drug_15 : decode cL_drug 15 = .ok (.goto 15, 3) := by decide +kernel
theorem dL_drug_18 : decode cL_drug 18 = .ok (.astore 8, 2) := by decide +kernel
theorem dL_drug_20 : decode cL_drug 20 = .ok (.iconst 1, 1) := by decide +kernel
theorem dL_drug_21 : decode cL_drug 21 = .ok (.ireturn, 1) := by decide +kernel
theorem dL_drug_22 : decode cL_drug 22 = .ok (.astore 8, 2) := by decide +kernel
theorem dL_drug_24 : decode cL_drug 24 = .ok (.iconst 2, 1) := by decide +kernel
theorem dL_drug_25 : decode cL_drug 25 = .ok (.ireturn, 1) := by decide +kernel
theorem dL_drug_26 : decode cL_drug 26 = .ok (.astore 8, 2) := by decide +kernel
theorem dL_drug_28 : decode cL_drug 28 = .ok (.iconst 3, 1) := by decide +kernel
theorem dL_drug_29 : decode cL_drug 29 = .ok (.ireturn, 1) := by decide +kernel
theorem dL_drug_30 : decode cL_drug 30 = .ok (.iconst 0, 1) := by decide +kernel
theorem dL_drug_31 : decode cL_drug 31 = .ok (.ireturn, 1) := by decide +kernel
theorem dL_more_0 : decode cL_more 0 = .ok (.aload_n 0, 1) := by decide +kernel
theorem dL_more_1 : decode cL_more 1 = .ok (.iload_n 1, 1) := by decide +kernel
theorem dL_more_2 : decode cL_more 2 = .ok (.iload_n 2, 1) := by decide +kernel
theorem dL_more_3 : decode cL_more 3 = .ok (.iload_n 3, 1) := by decide +kernel
theorem dL_more_4 : decode cL_more 4 = .ok (.iload 4, 2) := by decide +kernel
theorem dL_more_6 : decode cL_more 6 = .ok (.iload 5, 2) := by decide +kernel
theorem dL_more_8 : decode cL_more 8 = .ok (.iload 6, 2) := by decide +kernel
theorem dL_more_10 : decode cL_more 10 = .ok (.invokevirtual 19, 3) := by decide +kernel
theorem dL_more_13 : decode cL_more 13 = .ok (.goto 15, 3) := by decide +kernel
theorem dL_more_16 : decode cL_more 16 = .ok (.astore 7, 2) := by decide +kernel
theorem dL_more_18 : decode cL_more 18 = .ok (.iconst 1, 1) := by decide +kernel
theorem dL_more_19 : decode cL_more 19 = .ok (.ireturn, 1) := by decide +kernel
theorem dL_more_20 : decode cL_more 20 = .ok (.astore 7, 2) := by decide +kernel
theorem dL_more_22 : decode cL_more 22 = .ok (.iconst 2, 1) := by decide +kernel
theorem dL_more_23 : decode cL_more 23 = .ok (.ireturn, 1) := by decide +kernel
theorem dL_more_24 : decode cL_more 24 = .ok (.astore 7, 2) := by decide +kernel
theorem dL_more_26 : decode cL_more 26 = .ok (.iconst 3, 1) := by decide +kernel
theorem dL_more_27 : decode cL_more 27 = .ok (.ireturn, 1) := by decide +kernel
theorem dL_more_28 : decode cL_more 28 = .ok (.iconst 0, 1) := by decide +kernel
theorem dL_more_29 : decode cL_more 29 = .ok (.ireturn, 1) := by decide +kernel
theorem dL_key_0 : decode cL_key 0 = .ok (.aload_n 2, 1) := by decide +kernel
theorem dL_key_1 : decode cL_key 1 = .ok (.iconst 0, 1) := by decide +kernel
theorem dL_key_2 : decode cL_key 2 = .ok (.aload_n 0, 1) := by decide +kernel
theorem dL_key_3 : decode cL_key 3 = .ok (.iload_n 1, 1) := by decide +kernel
theorem dL_key_4 : decode cL_key 4 = .ok (.invokevirtual 23, 3) := by decide +kernel
theorem dL_key_7 : decode cL_key 7 = .ok (.i2l, 1) := by decide +kernel
theorem dL_key_8 : decode cL_key 8 = .ok (.lastore, 1) := by decide +kernel
theorem dL_key_9 : decode cL_key 9 = .ok (.goto 6, 3) := by decide +kernel
theorem dL_key_12 : decode cL_key 12 = .ok (.astore_n 3, 1) := by decide +kernel
theorem dL_key_13 : decode cL_key 13 = .ok (.iconst 1, 1) := by decide +kernel
theorem dL_key_14 : decode cL_key 14 = .ok (.ireturn, 1) := by decide +kernel
theorem dL_key_15 : decode cL_key 15 = .ok (.iconst 0, 1) := by decide +kernel
theorem dL_key_16 : decode cL_key 16 = .ok (.ireturn, 1) := by decide +kernel
theorem dL_ticks_0 : decode cL_ticks 0 = .ok (.aload_n 2, 1) := by decide +kernel
theorem dL_ticks_1 : decode cL_ticks 1 = .ok (.iconst 0, 1) := by decide +kernel
theorem dL_ticks_2 : decode cL_ticks 2 = .ok (.aload_n 0, 1) := by decide +kernel
theorem dL_ticks_3 : decode cL_ticks 3 = .ok (.iload_n 1, 1) := by decide +kernel
theorem dL_ticks_4 : decode cL_ticks 4 = .ok (.invokevirtual 27, 3) := by decide +kernel
theorem dL_ticks_7 : decode cL_ticks 7 = .ok (.i2l, 1) := by decide +kernel
theorem dL_ticks_8 : decode cL_ticks 8 = .ok (.lastore, 1) := by decide +kernel
theorem dL_ticks_9 : decode cL_ticks 9 = .ok (.goto 6, 3) := by decide +kernel
theorem dL_ticks_12 : decode cL_ticks 12 = .ok (.astore_n 3, 1) := by decide +kernel
theorem dL_ticks_13 : decode cL_ticks 13 = .ok (.iconst 1, 1) := by decide +kernel
theorem dL_ticks_14 : decode cL_ticks 14 = .ok (.ireturn, 1) := by decide +kernel
theorem dL_ticks_15 : decode cL_ticks 15 = .ok (.iconst 0, 1) := by decide +kernel
theorem dL_ticks_16 : decode cL_ticks 16 = .ok (.ireturn, 1) := by decide +kernel
theorem dL_flow_0 : decode cL_flow 0 = .ok (.aload_n 3, 1) := by decide +kernel
theorem dL_flow_1 : decode cL_flow 1 = .ok (.iconst 0, 1) := by decide +kernel
theorem dL_flow_2 : decode cL_flow 2 = .ok (.aload_n 0, 1) := by decide +kernel
theorem dL_flow_3 : decode cL_flow 3 = .ok (.iload_n 1, 1) := by decide +kernel
theorem dL_flow_4 : decode cL_flow 4 = .ok (.iload_n 2, 1) := by decide +kernel
theorem dL_flow_5 : decode cL_flow 5 = .ok (.invokevirtual 30, 3) := by decide +kernel
theorem dL_flow_8 : decode cL_flow 8 = .ok (.i2l, 1) := by decide +kernel
theorem dL_flow_9 : decode cL_flow 9 = .ok (.lastore, 1) := by decide +kernel
theorem dL_flow_10 : decode cL_flow 10 = .ok (.goto 11, 3) := by decide +kernel
theorem dL_flow_13 : decode cL_flow 13 = .ok (.astore 4, 2) := by decide +kernel
theorem dL_flow_15 : decode cL_flow 15 = .ok (.iconst 1, 1) := by decide +kernel
theorem dL_flow_16 : decode cL_flow 16 = .ok (.ireturn, 1) := by decide +kernel
theorem dL_flow_17 : decode cL_flow 17 = .ok (.astore 4, 2) := by decide +kernel
theorem dL_flow_19 : decode cL_flow 19 = .ok (.iconst 2, 1) := by decide +kernel
theorem dL_flow_20 : decode cL_flow 20 = .ok (.ireturn, 1) := by decide +kernel
theorem dL_flow_21 : decode cL_flow 21 = .ok (.iconst 0, 1) := by decide +kernel
theorem dL_flow_22 : decode cL_flow 22 = .ok (.ireturn, 1) := by decide +kernel
theorem dL_air_0 : decode cL_air 0 = .ok (.aload_n 3, 1) := by decide +kernel
theorem dL_air_1 : decode cL_air 1 = .ok (.iconst 0, 1) := by decide +kernel
theorem dL_air_2 : decode cL_air 2 = .ok (.aload_n 0, 1) := by decide +kernel
theorem dL_air_3 : decode cL_air 3 = .ok (.iload_n 1, 1) := by decide +kernel
theorem dL_air_4 : decode cL_air 4 = .ok (.iload_n 2, 1) := by decide +kernel
theorem dL_air_5 : decode cL_air 5 = .ok (.invokevirtual 34, 3) := by decide +kernel
theorem dL_air_8 : decode cL_air 8 = .ok (.ifCond .eq 7, 3) := by decide +kernel
theorem dL_air_11 : decode cL_air 11 = .ok (.lconst 1, 1) := by decide +kernel
theorem dL_air_12 : decode cL_air 12 = .ok (.goto 4, 3) := by decide +kernel
theorem dL_air_15 : decode cL_air 15 = .ok (.lconst 0, 1) := by decide +kernel
theorem dL_air_16 : decode cL_air 16 = .ok (.lastore, 1) := by decide +kernel
theorem dL_air_17 : decode cL_air 17 = .ok (.goto 7, 3) := by decide +kernel
theorem dL_air_20 : decode cL_air 20 = .ok (.astore 4, 2) := by decide +kernel
theorem dL_air_22 : decode cL_air 22 = .ok (.iconst 1, 1) := by decide +kernel
theorem dL_air_23 : decode cL_air 23 = .ok (.ireturn, 1) := by decide +kernel
theorem dL_air_24 : decode cL_air 24 = .ok (.iconst 0, 1) := by decide +kernel
theorem dL_air_25 : decode cL_air 25 = .ok (.ireturn, 1) := by decide +kernel
theorem dL_door_0 : decode cL_door 0 = .ok (.aload_n 3, 1) := by decide +kernel
theorem dL_door_1 : decode cL_door 1 = .ok (.iconst 0, 1) := by decide +kernel
theorem dL_door_2 : decode cL_door 2 = .ok (.aload_n 0, 1) := by decide +kernel
theorem dL_door_3 : decode cL_door 3 = .ok (.iload_n 1, 1) := by decide +kernel
theorem dL_door_4 : decode cL_door 4 = .ok (.iload_n 2, 1) := by decide +kernel
theorem dL_door_5 : decode cL_door 5 = .ok (.invokevirtual 38, 3) := by decide +kernel
theorem dL_door_8 : decode cL_door 8 = .ok (.ifCond .eq 7, 3) := by decide +kernel
theorem dL_door_11 : decode cL_door 11 = .ok (.lconst 1, 1) := by decide +kernel
theorem dL_door_12 : decode cL_door 12 = .ok (.goto 4, 3) := by decide +kernel
theorem dL_door_15 : decode cL_door 15 = .ok (.lconst 0, 1) := by decide +kernel
theorem dL_door_16 : decode cL_door 16 = .ok (.lastore, 1) := by decide +kernel
theorem dL_door_17 : decode cL_door 17 = .ok (.goto 7, 3) := by decide +kernel
theorem dL_door_20 : decode cL_door 20 = .ok (.astore 4, 2) := by decide +kernel
theorem dL_door_22 : decode cL_door 22 = .ok (.iconst 1, 1) := by decide +kernel
theorem dL_door_23 : decode cL_door 23 = .ok (.ireturn, 1) := by decide +kernel
theorem dL_door_24 : decode cL_door 24 = .ok (.iconst 0, 1) := by decide +kernel
theorem dL_door_25 : decode cL_door 25 = .ok (.ireturn, 1) := by decide +kernel
theorem dL_about_0 : decode cL_about 0 = .ok (.aload_n 2, 1) := by decide +kernel
theorem dL_about_1 : decode cL_about 1 = .ok (.iconst 0, 1) := by decide +kernel
theorem dL_about_2 : decode cL_about 2 = .ok (.aload_n 0, 1) := by decide +kernel
theorem dL_about_3 : decode cL_about 3 = .ok (.iload_n 1, 1) := by decide +kernel
theorem dL_about_4 : decode cL_about 4 = .ok (.invokevirtual 41, 3) := by decide +kernel
theorem dL_about_7 : decode cL_about 7 = .ok (.i2l, 1) := by decide +kernel
theorem dL_about_8 : decode cL_about 8 = .ok (.lastore, 1) := by decide +kernel
theorem dL_about_9 : decode cL_about 9 = .ok (.goto 6, 3) := by decide +kernel
theorem dL_about_12 : decode cL_about 12 = .ok (.astore_n 3, 1) := by decide +kernel
theorem dL_about_13 : decode cL_about 13 = .ok (.iconst 1, 1) := by decide +kernel
theorem dL_about_14 : decode cL_about 14 = .ok (.ireturn, 1) := by decide +kernel
theorem dL_about_15 : decode cL_about 15 = .ok (.iconst 0, 1) := by decide +kernel
theorem dL_about_16 : decode cL_about 16 = .ok (.ireturn, 1) := by decide +kernel
theorem dL_channel_0 : decode cL_channel 0 = .ok (.aload_n 3, 1) := by decide +kernel
theorem dL_channel_1 : decode cL_channel 1 = .ok (.iconst 0, 1) := by decide +kernel
theorem dL_channel_2 : decode cL_channel 2 = .ok (.aload_n 0, 1) := by decide +kernel
theorem dL_channel_3 : decode cL_channel 3 = .ok (.iload_n 1, 1) := by decide +kernel
theorem dL_channel_4 : decode cL_channel 4 = .ok (.iload_n 2, 1) := by decide +kernel
theorem dL_channel_5 : decode cL_channel 5 = .ok (.invokevirtual 44, 3) := by decide +kernel
theorem dL_channel_8 : decode cL_channel 8 = .ok (.i2l, 1) := by decide +kernel
theorem dL_channel_9 : decode cL_channel 9 = .ok (.lastore, 1) := by decide +kernel
theorem dL_channel_10 : decode cL_channel 10 = .ok (.goto 7, 3) := by decide +kernel
theorem dL_channel_13 : decode cL_channel 13 = .ok (.astore 4, 2) := by decide +kernel
theorem dL_channel_15 : decode cL_channel 15 = .ok (.iconst 1, 1) := by decide +kernel
theorem dL_channel_16 : decode cL_channel 16 = .ok (.ireturn, 1) := by decide +kernel
theorem dL_channel_17 : decode cL_channel 17 = .ok (.iconst 0, 1) := by decide +kernel
theorem dL_channel_18 : decode cL_channel 18 = .ok (.ireturn, 1) := by decide +kernel
theorem dL_entry_0 : decode cL_entry 0 = .ok (.aload_n 2, 1) := by decide +kernel
theorem dL_entry_1 : decode cL_entry 1 = .ok (.iconst 0, 1) := by decide +kernel
theorem dL_entry_2 : decode cL_entry 2 = .ok (.aload_n 0, 1) := by decide +kernel
theorem dL_entry_3 : decode cL_entry 3 = .ok (.iload_n 1, 1) := by decide +kernel
theorem dL_entry_4 : decode cL_entry 4 = .ok (.invokevirtual 47, 3) := by decide +kernel
theorem dL_entry_7 : decode cL_entry 7 = .ok (.i2l, 1) := by decide +kernel
theorem dL_entry_8 : decode cL_entry 8 = .ok (.lastore, 1) := by decide +kernel
theorem dL_entry_9 : decode cL_entry 9 = .ok (.goto 6, 3) := by decide +kernel
theorem dL_entry_12 : decode cL_entry 12 = .ok (.astore_n 3, 1) := by decide +kernel
theorem dL_entry_13 : decode cL_entry 13 = .ok (.iconst 1, 1) := by decide +kernel
theorem dL_entry_14 : decode cL_entry 14 = .ok (.ireturn, 1) := by decide +kernel
theorem dL_entry_15 : decode cL_entry 15 = .ok (.iconst 0, 1) := by decide +kernel
theorem dL_entry_16 : decode cL_entry 16 = .ok (.ireturn, 1) := by decide +kernel
theorem dL_rate_0 : decode cL_rate 0 = .ok (.aload 4, 2) := by decide +kernel
theorem dL_rate_2 : decode cL_rate 2 = .ok (.iconst 0, 1) := by decide +kernel
theorem dL_rate_3 : decode cL_rate 3 = .ok (.aload_n 0, 1) := by decide +kernel
theorem dL_rate_4 : decode cL_rate 4 = .ok (.iload_n 1, 1) := by decide +kernel
theorem dL_rate_5 : decode cL_rate 5 = .ok (.iload_n 2, 1) := by decide +kernel
theorem dL_rate_6 : decode cL_rate 6 = .ok (.iload_n 3, 1) := by decide +kernel
theorem dL_rate_7 : decode cL_rate 7 = .ok (.invokevirtual 50, 3) := by decide +kernel
theorem dL_rate_10 : decode cL_rate 10 = .ok (.i2l, 1) := by decide +kernel
theorem dL_rate_11 : decode cL_rate 11 = .ok (.lastore, 1) := by decide +kernel
theorem dL_rate_12 : decode cL_rate 12 = .ok (.goto 11, 3) := by decide +kernel
theorem dL_rate_15 : decode cL_rate 15 = .ok (.astore 5, 2) := by decide +kernel
theorem dL_rate_17 : decode cL_rate 17 = .ok (.iconst 1, 1) := by decide +kernel
theorem dL_rate_18 : decode cL_rate 18 = .ok (.ireturn, 1) := by decide +kernel
theorem dL_rate_19 : decode cL_rate 19 = .ok (.astore 5, 2) := by decide +kernel
theorem dL_rate_21 : decode cL_rate 21 = .ok (.iconst 2, 1) := by decide +kernel
theorem dL_rate_22 : decode cL_rate 22 = .ok (.ireturn, 1) := by decide +kernel
theorem dL_rate_23 : decode cL_rate 23 = .ok (.iconst 0, 1) := by decide +kernel
theorem dL_rate_24 : decode cL_rate 24 = .ok (.ireturn, 1) := by decide +kernel
theorem dL_log_0 : decode cL_log 0 = .ok (.aload_n 3, 1) := by decide +kernel
theorem dL_log_1 : decode cL_log 1 = .ok (.iconst 0, 1) := by decide +kernel
theorem dL_log_2 : decode cL_log 2 = .ok (.aload_n 0, 1) := by decide +kernel
theorem dL_log_3 : decode cL_log 3 = .ok (.iload_n 1, 1) := by decide +kernel
theorem dL_log_4 : decode cL_log 4 = .ok (.iload_n 2, 1) := by decide +kernel
theorem dL_log_5 : decode cL_log 5 = .ok (.invokevirtual 54, 3) := by decide +kernel
theorem dL_log_8 : decode cL_log 8 = .ok (.i2l, 1) := by decide +kernel
theorem dL_log_9 : decode cL_log 9 = .ok (.lastore, 1) := by decide +kernel
theorem dL_log_10 : decode cL_log 10 = .ok (.goto 7, 3) := by decide +kernel
theorem dL_log_13 : decode cL_log 13 = .ok (.astore 4, 2) := by decide +kernel
theorem dL_log_15 : decode cL_log 15 = .ok (.iconst 1, 1) := by decide +kernel
theorem dL_log_16 : decode cL_log 16 = .ok (.ireturn, 1) := by decide +kernel
theorem dL_log_17 : decode cL_log 17 = .ok (.iconst 0, 1) := by decide +kernel
theorem dL_log_18 : decode cL_log 18 = .ok (.ireturn, 1) := by decide +kernel
abbrev vwCl : List vw_C := [(RX0, TX0, 3), (RX1, TX1, 11), (RX2, TX2, 13), (RX3, TX3, 7), (RX4, TX4, 3), (RX5, TX5, 3), (RX6, TX6, 7), (RX7, TX7, 5), (RX8, TX8, 4), (RX9, TX9, 4), (RX10, TX10, 8), (RX11, TX11, 53)]

