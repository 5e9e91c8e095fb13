theorem dX11_init_402 : decode cX11_init 402 = .ok (.aload_n 0, 1) := by decide +kernel
theorem dX11_init_403 : decode cX11_init 403 = .ok (.iconst 1, 1) := by decide +kernel
theorem dX11_init_404 : decode cX11_init 404 = .ok (.putfield 148, 3) := by decide +kernel
theorem dX11_init_407 : decode cX11_init 407 = .ok (.aload_n 0, 1) := by decide +kernel
theorem dX11_init_408 : decode cX11_init 408 = .ok (.sipush 256, 3) := by decide +kernel
theorem dX11_init_411 : decode cX11_init 411 = .ok (.newarray .int, 2) := by decide +kernel
theorem dX11_init_413 : decode cX11_init 413 = .ok (.putfield 152, 3) := by decide +kernel
theorem dX11_init_416 : decode cX11_init 416 = .ok (.aload_n 0, 1) := by decide +kernel
theorem dX11_init_417 : decode cX11_init 417 = .ok (.lconst 1, 1) := by decide +kernel
theorem dX11_init_418 : decode cX11_init 418 = .ok (.putfield 155, 3) := by decide +kernel
theorem dX11_init_421 : decode cX11_init 421 = .ok (.return_, 1) := by decide +kernel
theorem dX11_least_0 : decode cX11_least 0 = .ok (.iload_n 0, 1) := by decide +kernel
theorem dX11_least_1 : decode cX11_least 1 = .ok (.iload_n 1, 1) := by decide +kernel
theorem dX11_least_2 : decode cX11_least 2 = .ok (.if_icmp .ge 7, 3) := by decide +kernel
theorem dX11_least_5 : decode cX11_least 5 = .ok (.iload_n 0, 1) := by decide +kernel
theorem dX11_least_6 : decode cX11_least 6 = .ok (.goto 4, 3) := by decide +kernel
theorem dX11_least_9 : decode cX11_least 9 = .ok (.iload_n 1, 1) := by decide +kernel
theorem dX11_least_10 : decode cX11_least 10 = .ok (.ireturn, 1) := by decide +kernel
theorem dX11_most_0 : decode cX11_most 0 = .ok (.iload_n 0, 1) := by decide +kernel
theorem dX11_most_1 : decode cX11_most 1 = .ok (.iload_n 1, 1) := by decide +kernel
theorem dX11_most_2 : decode cX11_most 2 = .ok (.if_icmp .le 7, 3) := by decide +kernel
theorem dX11_most_5 : decode cX11_most 5 = .ok (.iload_n 0, 1) := by decide +kernel
theorem dX11_most_6 : decode cX11_most 6 = .ok (.goto 4, 3) := by decide +kernel
theorem dX11_most_9 : decode cX11_most 9 = .ok (.iload_n 1, 1) := by decide +kernel
theorem dX11_most_10 : decode cX11_most 10 = .ok (.ireturn, 1) := by decide +kernel
theorem dX11_thrown_0 : decode cX11_thrown 0 = .ok (.aload_n 0, 1) := by decide +kernel
theorem dX11_thrown_1 : decode cX11_thrown 1 = .ok (.getfield 159, 3) := by decide +kernel
theorem dX11_thrown_4 : decode cX11_thrown 4 = .ok (.ireturn, 1) := by decide +kernel
theorem dX11_isIn_0 : decode cX11_isIn 0 = .ok (.lload_n 0, 1) := by decide +kernel
theorem dX11_isIn_1 : decode cX11_isIn 1 = .ok (.lload_n 2, 1) := by decide +kernel
theorem dX11_isIn_2 : decode cX11_isIn 2 = .ok (.lcmp, 1) := by decide +kernel
theorem dX11_isIn_3 : decode cX11_isIn 3 = .ok (.ifCond .lt 14, 3) := by decide +kernel
theorem dX11_isIn_6 : decode cX11_isIn 6 = .ok (.lload_n 0, 1) := by decide +kernel
theorem dX11_isIn_7 : decode cX11_isIn 7 = .ok (.lload 4, 2) := by decide +kernel
theorem dX11_isIn_9 : decode cX11_isIn 9 = .ok (.lcmp, 1) := by decide +kernel
theorem dX11_isIn_10 : decode cX11_isIn 10 = .ok (.ifCond .gt 7, 3) := by decide +kernel
theorem dX11_isIn_13 : decode cX11_isIn 13 = .ok (.iconst 1, 1) := by decide +kernel
theorem dX11_isIn_14 : decode cX11_isIn 14 = .ok (.goto 4, 3) := by decide +kernel
theorem dX11_isIn_17 : decode cX11_isIn 17 = .ok (.iconst 0, 1) := by decide +kernel
theorem dX11_isIn_18 : decode cX11_isIn 18 = .ok (.ireturn, 1) := by decide +kernel
theorem dX11_link_0 : decode cX11_link 0 = .ok (.aload_n 0, 1) := by decide +kernel
theorem dX11_link_1 : decode cX11_link 1 = .ok (.getfield 155, 3) := by decide +kernel
theorem dX11_link_4 : decode cX11_link 4 = .ok (.ldc2_w 162, 3) := by decide +kernel
theorem dX11_link_7 : decode cX11_link 7 = .ok (.lmul, 1) := by decide +kernel
theorem dX11_link_8 : decode cX11_link 8 = .ok (.iload_n 1, 1) := by decide +kernel
theorem dX11_link_9 : decode cX11_link 9 = .ok (.i2l, 1) := by decide +kernel
theorem dX11_link_10 : decode cX11_link 10 = .ok (.ladd, 1) := by decide +kernel
theorem dX11_link_11 : decode cX11_link 11 = .ok (.lstore_n 2, 1) := by decide +kernel
theorem dX11_link_12 : decode cX11_link 12 = .ok (.aload_n 0, 1) := by decide +kernel
theorem dX11_link_13 : decode cX11_link 13 = .ok (.lload_n 2, 1) := by decide +kernel
theorem dX11_link_14 : decode cX11_link 14 = .ok (.bipush 7, 2) := by decide +kernel
theorem dX11_link_16 : decode cX11_link 16 = .ok (.lshl, 1) := by decide +kernel
theorem dX11_link_17 : decode cX11_link 17 = .ok (.lload_n 2, 1) := by decide +kernel
theorem dX11_link_18 : decode cX11_link 18 = .ok (.bipush 57, 2) := by decide +kernel
theorem dX11_link_20 : decode cX11_link 20 = .ok (.lushr, 1) := by decide +kernel
theorem dX11_link_21 : decode cX11_link 21 = .ok (.lor, 1) := by decide +kernel
theorem dX11_link_22 : decode cX11_link 22 = .ok (.putfield 155, 3) := by decide +kernel
theorem dX11_link_25 : decode cX11_link 25 = .ok (.return_, 1) := by decide +kernel
set_option maxRecDepth 20000 in
theorem ggX11_note_X11_link : GoodIn wsX11_note wsX11_link := goodIn_r _ [8, 9, 10, 11, 12, 13, 14, 15, 16, 17, 18, 19, 20, 21, 22, 23, 24, 25, 26, 27, 28, 29, 30, 31, 32, 33, 34, 35, 36, 37, 38, 39, 40, 41, 42, 43, 44, 45, 46, 47, 48, 49, 50, 51, 52, 53, 54, 55, 56, 57, 58, 59, 60, 61, 62, 63] (by decide +kernel) (by decide +kernel)
set_option maxRecDepth 20000 in
theorem gX11_note_X11_link : GoodIn wsX11_note (wsV RX11 170 RX11 yX11_link wsX11_link) := goodIn_app (goodIn_of _ (by decide +kernel)) ggX11_note_X11_link
theorem dX11_note_0 : decode cX11_note 0 = .ok (.iconst 4, 1) := by decide +kernel
theorem dX11_note_1 : decode cX11_note 1 = .ok (.aload_n 0, 1) := by decide +kernel
theorem dX11_note_2 : decode cX11_note 2 = .ok (.getfield 164, 3) := by decide +kernel
theorem dX11_note_5 : decode cX11_note 5 = .ok (.bipush 64, 2) := by decide +kernel
theorem dX11_note_7 : decode cX11_note 7 = .ok (.irem, 1) := by decide +kernel
theorem dX11_note_8 : decode cX11_note 8 = .ok (.imul, 1) := by decide +kernel
theorem dX11_note_9 : decode cX11_note 9 = .ok (.istore 4, 2) := by decide +kernel
theorem dX11_note_11 : decode cX11_note 11 = .ok (.aload_n 0, 1) := by decide +kernel
theorem dX11_note_12 : decode cX11_note 12 = .ok (.getfield 152, 3) := by decide +kernel
theorem dX11_note_15 : decode cX11_note 15 = .ok (.iload 4, 2) := by decide +kernel
theorem dX11_note_17 : decode cX11_note 17 = .ok (.aload_n 0, 1) := by decide +kernel
theorem dX11_note_18 : decode cX11_note 18 = .ok (.getfield 167, 3) := by decide +kernel
theorem dX11_note_21 : decode cX11_note 21 = .ok (.iastore, 1) := by decide +kernel
theorem dX11_note_22 : decode cX11_note 22 = .ok (.aload_n 0, 1) := by decide +kernel
theorem dX11_note_23 : decode cX11_note 23 = .ok (.getfield 152, 3) := by decide +kernel
theorem dX11_note_26 : decode cX11_note 26 = .ok (.iload 4, 2) := by decide +kernel
theorem dX11_note_28 : decode cX11_note 28 = .ok (.iconst 1, 1) := by decide +kernel
theorem dX11_note_29 : decode cX11_note 29 = .ok (.iadd, 1) := by decide +kernel
theorem dX11_note_30 : decode cX11_note 30 = .ok (.iload_n 1, 1) := by decide +kernel
theorem dX11_note_31 : decode cX11_note 31 = .ok (.iastore, 1) := by decide +kernel
theorem dX11_note_32 : decode cX11_note 32 = .ok (.aload_n 0, 1) := by decide +kernel
theorem dX11_note_33 : decode cX11_note 33 = .ok (.getfield 152, 3) := by decide +kernel
theorem dX11_note_36 : decode cX11_note 36 = .ok (.iload 4, 2) := by decide +kernel
theorem dX11_note_38 : decode cX11_note 38 = .ok (.iconst 2, 1) := by decide +kernel
theorem dX11_note_39 : decode cX11_note 39 = .ok (.iadd, 1) := by decide +kernel
theorem dX11_note_40 : decode cX11_note 40 = .ok (.iload_n 2, 1) := by decide +kernel
theorem dX11_note_41 : decode cX11_note 41 = .ok (.iastore, 1) := by decide +kernel
theorem dX11_note_42 : decode cX11_note 42 = .ok (.aload_n 0, 1) := by decide +kernel
theorem dX11_note_43 : decode cX11_note 43 = .ok (.getfield 152, 3) := by decide +kernel
theorem dX11_note_46 : decode cX11_note 46 = .ok (.iload 4, 2) := by decide +kernel
theorem dX11_note_48 : decode cX11_note 48 = .ok (.iconst 3, 1) := by decide +kernel
theorem dX11_note_49 : decode cX11_note 49 = .ok (.iadd, 1) := by decide +kernel
theorem dX11_note_50 : decode cX11_note 50 = .ok (.iload_n 3, 1) := by decide +kernel
theorem dX11_note_51 : decode cX11_note 51 = .ok (.iastore, 1) := by decide +kernel
theorem dX11_note_52 : decode cX11_note 52 = .ok (.aload_n 0, 1) := by decide +kernel
theorem dX11_note_53 : decode cX11_note 53 = .ok (.dup, 1) := by decide +kernel
theorem dX11_note_54 : decode cX11_note 54 = .ok (.getfield 164, 3) := by decide +kernel
theorem dX11_note_57 : decode cX11_note 57 = .ok (.iconst 1, 1) := by decide +kernel
theorem dX11_note_58 : decode cX11_note 58 = .ok (.iadd, 1) := by decide +kernel
theorem dX11_note_59 : decode cX11_note 59 = .ok (.putfield 164, 3) := by decide +kernel
theorem dX11_note_62 : decode cX11_note 62 = .ok (.aload_n 0, 1) := by decide +kernel
theorem dX11_note_63 : decode cX11_note 63 = .ok (.aload_n 0, 1) := by decide +kernel
theorem dX11_note_64 : decode cX11_note 64 = .ok (.getfield 167, 3) := by decide +kernel
theorem dX11_note_67 : decode cX11_note 67 = .ok (.invokevirtual 170, 3) := by decide +kernel
theorem dX11_note_70 : decode cX11_note 70 = .ok (.aload_n 0, 1) := by decide +kernel
theorem dX11_note_71 : decode cX11_note 71 = .ok (.iload_n 1, 1) := by decide +kernel
theorem dX11_note_72 : decode cX11_note 72 = .ok (.invokevirtual 170, 3) := by decide +kernel
theorem dX11_note_75 : decode cX11_note 75 = .ok (.aload_n 0, 1) := by decide +kernel
theorem dX11_note_76 : decode cX11_note 76 = .ok (.iload_n 2, 1) := by decide +kernel
theorem dX11_note_77 : decode cX11_note 77 = .ok (.invokevirtual 170, 3) := by decide +kernel
theorem dX11_note_80 : decode cX11_note 80 = .ok (.aload_n 0, 1) := by decide +kernel
theorem dX11_note_81 : decode cX11_note 81 = .ok (.iload_n 3, 1) := by decide +kernel
theorem dX11_note_82 : decode cX11_note 82 = .ok (.invokevirtual 170, 3) := by decide +kernel
theorem dX11_note_85 : decode cX11_note 85 = .ok (.return_, 1) := by decide +kernel
theorem dX11_isEntry_0 : decode cX11_isEntry 0 = .ok (.aload_n 0, 1) := by decide +kernel
theorem dX11_isEntry_1 : decode cX11_isEntry 1 = .ok (.getfield 47, 3) := by decide +kernel
theorem dX11_isEntry_4 : decode cX11_isEntry 4 = .ok (.iload_n 1, 1) := by decide +kernel
theorem dX11_isEntry_5 : decode cX11_isEntry 5 = .ok (.iaload, 1) := by decide +kernel
theorem dX11_isEntry_6 : decode cX11_isEntry 6 = .ok (.iconst 1, 1) := by decide +kernel
theorem dX11_isEntry_7 : decode cX11_isEntry 7 = .ok (.if_icmp .lt 17, 3) := by decide +kernel
theorem dX11_isEntry_10 : decode cX11_isEntry 10 = .ok (.aload_n 0, 1) := by decide +kernel
theorem dX11_isEntry_11 : decode cX11_isEntry 11 = .ok (.getfield 47, 3) := by decide +kernel
theorem dX11_isEntry_14 : decode cX11_isEntry 14 = .ok (.iload_n 1, 1) := by decide +kernel
theorem dX11_isEntry_15 : decode cX11_isEntry 15 = .ok (.iaload, 1) := by decide +kernel
theorem dX11_isEntry_16 : decode cX11_isEntry 16 = .ok (.iconst 5, 1) := by decide +kernel
theorem dX11_isEntry_17 : decode cX11_isEntry 17 = .ok (.if_icmp .gt 7, 3) := by decide +kernel
theorem dX11_isEntry_20 : decode cX11_isEntry 20 = .ok (.iconst 1, 1) := by decide +kernel
theorem dX11_isEntry_21 : decode cX11_isEntry 21 = .ok (.goto 4, 3) := by decide +kernel
theorem dX11_isEntry_24 : decode cX11_isEntry 24 = .ok (.iconst 0, 1) := by decide +kernel
theorem dX11_isEntry_25 : decode cX11_isEntry 25 = .ok (.ireturn, 1) := by decide +kernel
theorem dX11_isUsed_0 : decode cX11_isUsed 0 = .ok (.iconst 0, 1) := by decide +kernel
theorem dX11_isUsed_1 : decode cX11_isUsed 1 = .ok (.istore_n 2, 1) := by decide +kernel
theorem dX11_isUsed_2 : decode cX11_isUsed 2 = .ok (.iconst 0, 1) := by decide +kernel
theorem dX11_isUsed_3 : decode cX11_isUsed 3 = .ok (.istore_n 3, 1) := by decide +kernel
theorem dX11_isUsed_4 : decode cX11_isUsed 4 = .ok (.iload_n 3, 1) := by decide +kernel
theorem dX11_isUsed_5 : decode cX11_isUsed 5 = .ok (.iconst 3, 1) := by decide +kernel
theorem dX11_isUsed_6 : decode cX11_isUsed 6 = .ok (.if_icmp .ge 57, 3) := by decide +kernel
theorem dX11_isUsed_9 : decode cX11_isUsed 9 = .ok (.iload_n 2, 1) := by decide +kernel
theorem dX11_isUsed_10 : decode cX11_isUsed 10 = .ok (.aload_n 0, 1) := by decide +kernel
theorem dX11_isUsed_11 : decode cX11_isUsed 11 = .ok (.getfield 53, 3) := by decide +kernel
theorem dX11_isUsed_14 : decode cX11_isUsed 14 = .ok (.iload_n 3, 1) := by decide +kernel
theorem dX11_isUsed_15 : decode cX11_isUsed 15 = .ok (.iaload, 1) := by decide +kernel
theorem dX11_isUsed_16 : decode cX11_isUsed 16 = .ok (.iload_n 1, 1) := by decide +kernel
theorem dX11_isUsed_17 : decode cX11_isUsed 17 = .ok (.if_icmp .eq 33, 3) := by decide +kernel
theorem dX11_isUsed_20 : decode cX11_isUsed 20 = .ok (.aload_n 0, 1) := by decide +kernel
theorem dX11_isUsed_21 : decode cX11_isUsed 21 = .ok (.getfield 47, 3) := by decide +kernel
theorem dX11_isUsed_24 : decode cX11_isUsed 24 = .ok (.iload_n 3, 1) := by decide +kernel
theorem dX11_isUsed_25 : decode cX11_isUsed 25 = .ok (.iaload, 1) := by decide +kernel
theorem dX11_isUsed_26 : decode cX11_isUsed 26 = .ok (.iconst 2, 1) := by decide +kernel
theorem dX11_isUsed_27 : decode cX11_isUsed 27 = .ok (.if_icmp .lt 27, 3) := by decide +kernel
theorem dX11_isUsed_30 : decode cX11_isUsed 30 = .ok (.aload_n 0, 1) := by decide +kernel
theorem dX11_isUsed_31 : decode cX11_isUsed 31 = .ok (.getfield 47, 3) := by decide +kernel
theorem dX11_isUsed_34 : decode cX11_isUsed 34 = .ok (.iload_n 3, 1) := by decide +kernel
theorem dX11_isUsed_35 : decode cX11_isUsed 35 = .ok (.iaload, 1) := by decide +kernel
theorem dX11_isUsed_36 : decode cX11_isUsed 36 = .ok (.iconst 5, 1) := by decide +kernel
theorem dX11_isUsed_37 : decode cX11_isUsed 37 = .ok (.if_icmp .gt 17, 3) := by decide +kernel
theorem dX11_isUsed_40 : decode cX11_isUsed 40 = .ok (.aload_n 0, 1) := by decide +kernel
theorem dX11_isUsed_41 : decode cX11_isUsed 41 = .ok (.getfield 122, 3) := by decide +kernel
theorem dX11_isUsed_44 : decode cX11_isUsed 44 = .ok (.iload_n 3, 1) := by decide +kernel
theorem dX11_isUsed_45 : decode cX11_isUsed 45 = .ok (.iaload, 1) := by decide +kernel
theorem dX11_isUsed_46 : decode cX11_isUsed 46 = .ok (.iload_n 1, 1) := by decide +kernel
theorem dX11_isUsed_47 : decode cX11_isUsed 47 = .ok (.if_icmp .ne 7, 3) := by decide +kernel
theorem dX11_isUsed_50 : decode cX11_isUsed 50 = .ok (.iconst 1, 1) := by decide +kernel
theorem dX11_isUsed_51 : decode cX11_isUsed 51 = .ok (.goto 4, 3) := by decide +kernel
theorem dX11_isUsed_54 : decode cX11_isUsed 54 = .ok (.iconst 0, 1) := by decide +kernel
theorem dX11_isUsed_55 : decode cX11_isUsed 55 = .ok (.ior, 1) := by decide +kernel
theorem dX11_isUsed_56 : decode cX11_isUsed 56 = .ok (.istore_n 2, 1) := by decide +kernel
theorem dX11_isUsed_57 : decode cX11_isUsed 57 = .ok (.iinc 3 1, 3) := by decide +kernel
theorem dX11_isUsed_60 : decode cX11_isUsed 60 = .ok (.goto (-56), 3) := by decide +kernel
theorem dX11_isUsed_63 : decode cX11_isUsed 63 = .ok (.iload_n 2, 1) := by decide +kernel
theorem dX11_isUsed_64 : decode cX11_isUsed 64 = .ok (.ireturn, 1) := by decide +kernel
set_option maxRecDepth 20000 in
theorem ggX11_drug_X11_isIn : GoodIn wsX11_drug wsX11_isIn := goodIn_r _ [21] (by decide +kernel) (by decide +kernel)
set_option maxRecDepth 20000 in
theorem gX11_drug_X11_isIn : GoodIn wsX11_drug (va_wsS RX11 174 yX11_isIn wsX11_isIn) := goodIn_app (goodIn_of _ (by decide +kernel)) ggX11_drug_X11_isIn
set_option maxRecDepth 20000 in
theorem ggX11_drug_X11_isUsed : GoodIn wsX11_drug wsX11_isUsed := goodIn_r _ [25, 26, 27, 28, 29, 30, 31, 32, 33, 34, 35, 36, 37, 38, 39, 40, 41, 42, 43, 44, 45, 46, 47, 48, 49, 50, 51, 52, 53, 54, 55, 56, 57, 58, 59, 60, 61, 62, 63, 64, 65, 66, 67, 68, 69, 70, 71, 72, 73, 74, 75, 76, 77, 78, 79, 80, 81] (by decide +kernel) (by decide +kernel)
set_option maxRecDepth 20000 in
theorem gX11_drug_X11_isUsed : GoodIn wsX11_drug (wsV RX11 184 RX11 yX11_isUsed wsX11_isUsed) := goodIn_app (goodIn_of _ (by decide +kernel)) ggX11_drug_X11_isUsed
theorem dX11_drug_0 : decode cX11_drug 0 = .ok (.iload_n 2, 1) := by decide +kernel
theorem dX11_drug_1 : decode cX11_drug 1 = .ok (.i2l, 1) := by decide +kernel
theorem dX11_drug_2 : decode cX11_drug 2 = .ok (.lconst 0, 1) := by decide +kernel
theorem dX11_drug_3 : decode cX11_drug 3 = .ok (.lconst 1, 1) := by decide +kernel
theorem dX11_drug_4 : decode cX11_drug 4 = .ok (.invokestatic 174, 3) := by decide +kernel
theorem dX11_drug_7 : decode cX11_drug 7 = .ok (.ifCond .eq 77, 3) := by decide +kernel
theorem dX11_drug_10 : decode cX11_drug 10 = .ok (.iload_n 3, 1) := by decide +kernel
theorem dX11_drug_11 : decode cX11_drug 11 = .ok (.i2l, 1) := by decide +kernel
theorem dX11_drug_12 : decode cX11_drug 12 = .ok (.lconst 1, 1) := by decide +kernel
theorem dX11_drug_13 : decode cX11_drug 13 = .ok (.ldc2_w 178, 3) := by decide +kernel
theorem dX11_drug_16 : decode cX11_drug 16 = .ok (.invokestatic 174, 3) := by decide +kernel
theorem dX11_drug_19 : decode cX11_drug 19 = .ok (.ifCond .eq 65, 3) := by decide +kernel
theorem dX11_drug_22 : decode cX11_drug 22 = .ok (.iload 4, 2) := by decide +kernel
theorem dX11_drug_24 : decode cX11_drug 24 = .ok (.i2l, 1) := by decide +kernel
theorem dX11_drug_25 : decode cX11_drug 25 = .ok (.lconst 1, 1) := by decide +kernel
theorem dX11_drug_26 : decode cX11_drug 26 = .ok (.ldc2_w 180, 3) := by decide +kernel
theorem dX11_drug_29 : decode cX11_drug 29 = .ok (.invokestatic 174, 3) := by decide +kernel
theorem dX11_drug_32 : decode cX11_drug 32 = .ok (.ifCond .eq 52, 3) := by decide +kernel
theorem dX11_drug_35 : decode cX11_drug 35 = .ok (.iload 5, 2) := by decide +kernel
theorem dX11_drug_37 : decode cX11_drug 37 = .ok (.i2l, 1) := by decide +kernel
theorem dX11_drug_38 : decode cX11_drug 38 = .ok (.iload 4, 2) := by decide +kernel
theorem dX11_drug_40 : decode cX11_drug 40 = .ok (.i2l, 1) := by decide +kernel
theorem dX11_drug_41 : decode cX11_drug 41 = .ok (.ldc2_w 180, 3) := by decide +kernel
theorem dX11_drug_44 : decode cX11_drug 44 = .ok (.invokestatic 174, 3) := by decide +kernel
theorem dX11_drug_47 : decode cX11_drug 47 = .ok (.ifCond .eq 37, 3) := by decide +kernel
theorem dX11_drug_50 : decode cX11_drug 50 = .ok (.iload 6, 2) := by decide +kernel
theorem dX11_drug_52 : decode cX11_drug 52 = .ok (.i2l, 1) := by decide +kernel
theorem dX11_drug_53 : decode cX11_drug 53 = .ok (.iload 5, 2) := by decide +kernel
theorem dX11_drug_55 : decode cX11_drug 55 = .ok (.i2l, 1) := by decide +kernel
theorem dX11_drug_56 : decode cX11_drug 56 = .ok (.ldc2_w 180, 3) := by decide +kernel
theorem dX11_drug_59 : decode cX11_drug 59 = .ok (.invokestatic 174, 3) := by decide +kernel
theorem dX11_drug_62 : decode cX11_drug 62 = .ok (.ifCond .eq 22, 3) := by decide +kernel
theorem dX11_drug_65 : decode cX11_drug 65 = .ok (.iload 7, 2) := by decide +kernel
theorem dX11_drug_67 : decode cX11_drug 67 = .ok (.i2l, 1) := by decide +kernel
theorem dX11_drug_68 : decode cX11_drug 68 = .ok (.iload 6, 2) := by decide +kernel
theorem dX11_drug_70 : decode cX11_drug 70 = .ok (.i2l, 1) := by decide +kernel
theorem dX11_drug_71 : decode cX11_drug 71 = .ok (.ldc2_w 180, 3) := by decide +kernel
theorem dX11_drug_74 : decode cX11_drug 74 = .ok (.invokestatic 174, 3) := by decide +kernel
theorem dX11_drug_77 : decode cX11_drug 77 = .ok (.ifCond .eq 7, 3) := by decide +kernel
theorem dX11_drug_80 : decode cX11_drug 80 = .ok (.iconst 1, 1) := by decide +kernel
theorem dX11_drug_81 : decode cX11_drug 81 = .ok (.goto 4, 3) := by decide +kernel
theorem dX11_drug_84 : decode cX11_drug 84 = .ok (.iconst 0, 1) := by decide +kernel
theorem dX11_drug_85 : decode cX11_drug 85 = .ok (.istore 8, 2) := by decide +kernel
theorem dX11_drug_87 : decode cX11_drug 87 = .ok (.aload_n 0, 1) := by decide +kernel
theorem dX11_drug_88 : decode cX11_drug 88 = .ok (.iload_n 1, 1) := by decide +kernel
theorem dX11_drug_89 : decode cX11_drug 89 = .ok (.i2l, 1) := by decide +kernel
theorem dX11_drug_90 : decode cX11_drug 90 = .ok (.lconst 0, 1) := by decide +kernel
theorem dX11_drug_91 : decode cX11_drug 91 = .ok (.ldc2_w 182, 3) := by decide +kernel
theorem dX11_drug_94 : decode cX11_drug 94 = .ok (.invokestatic 174, 3) := by decide +kernel
theorem dX11_drug_97 : decode cX11_drug 97 = .ok (.ifCond .ne 7, 3) := by decide +kernel
theorem dX11_drug_100 : decode cX11_drug 100 = .ok (.iconst 1, 1) := by decide +kernel
theorem dX11_drug_101 : decode cX11_drug 101 = .ok (.goto 25, 3) := by decide +kernel
theorem dX11_drug_104 : decode cX11_drug 104 = .ok (.iload 8, 2) := by decide +kernel
theorem dX11_drug_106 : decode cX11_drug 106 = .ok (.ifCond .ne 7, 3) := by decide +kernel
theorem dX11_drug_109 : decode cX11_drug 109 = .ok (.iconst 2, 1) := by decide +kernel
theorem dX11_drug_110 : decode cX11_drug 110 = .ok (.goto 16, 3) := by decide +kernel
theorem dX11_drug_113 : decode cX11_drug 113 = .ok (.aload_n 0, 1) := by decide +kernel
theorem dX11_drug_114 : decode cX11_drug 114 = .ok (.iload_n 1, 1) := by decide +kernel
theorem dX11_drug_115 : decode cX11_drug 115 = .ok (.invokevirtual 184, 3) := by decide +kernel
theorem dX11_drug_118 : decode cX11_drug 118 = .ok (.ifCond .eq 7, 3) := by decide +kernel
theorem dX11_drug_121 : decode cX11_drug 121 = .ok (.iconst 3, 1) := by decide +kernel
theorem dX11_drug_122 : decode cX11_drug 122 = .ok (.goto 4, 3) := by decide +kernel
theorem dX11_drug_125 : decode cX11_drug 125 = .ok (.iconst 0, 1) := by decide +kernel
theorem dX11_drug_126 : decode cX11_drug 126 = .ok (.putfield 159, 3) := by decide +kernel
theorem dX11_drug_129 : decode cX11_drug 129 = .ok (.aload_n 0, 1) := by decide +kernel
theorem dX11_drug_130 : decode cX11_drug 130 = .ok (.getfield 159, 3) := by decide +kernel
theorem dX11_drug_133 : decode cX11_drug 133 = .ok (.ifCond .le 4, 3) := by decide +kernel
theorem dX11_drug_136 : decode cX11_drug 136 = .ok (.return_, 1) := by decide +kernel
theorem dX11_drug_137 : decode cX11_drug 137 = .ok (.aload_n 0, 1) := by decide +kernel
theorem dX11_drug_138 : decode cX11_drug 138 = .ok (.getfield 7, 3) := by decide +kernel
theorem dX11_drug_141 : decode cX11_drug 141 = .ok (.iload_n 1, 1) := by decide +kernel
theorem dX11_drug_142 : decode cX11_drug 142 = .ok (.iconst 1, 1) := by decide +kernel
theorem dX11_drug_143 : decode cX11_drug 143 = .ok (.bastore, 1) := by decide +kernel
theorem dX11_drug_144 : decode cX11_drug 144 = .ok (.aload_n 0, 1) := by decide +kernel
theorem dX11_drug_145 : decode cX11_drug 145 = .ok (.getfield 13, 3) := by decide +kernel
theorem dX11_drug_148 : decode cX11_drug 148 = .ok (.iload_n 1, 1) := by decide +kernel
theorem dX11_drug_149 : decode cX11_drug 149 = .ok (.iload_n 2, 1) := by decide +kernel
theorem dX11_drug_150 : decode cX11_drug 150 = .ok (.iastore, 1) := by decide +kernel
theorem dX11_drug_151 : decode cX11_drug 151 = .ok (.aload_n 0, 1) := by decide +kernel
theorem dX11_drug_152 : decode cX11_drug 152 = .ok (.getfield 17, 3) := by decide +kernel
theorem dX11_drug_155 : decode cX11_drug 155 = .ok (.iload_n 1, 1) := by decide +kernel
theorem dX11_drug_156 : decode cX11_drug 156 = .ok (.iload_n 3, 1) := by decide +kernel
theorem dX11_drug_157 : decode cX11_drug 157 = .ok (.iastore, 1) := by decide +kernel
theorem dX11_drug_158 : decode cX11_drug 158 = .ok (.aload_n 0, 1) := by decide +kernel
theorem dX11_drug_159 : decode cX11_drug 159 = .ok (.getfield 20, 3) := by decide +kernel
theorem dX11_drug_162 : decode cX11_drug 162 = .ok (.iload_n 1, 1) := by decide +kernel
theorem dX11_drug_163 : decode cX11_drug 163 = .ok (.iload 4, 2) := by decide +kernel
theorem dX11_drug_165 : decode cX11_drug 165 = .ok (.iastore, 1) := by decide +kernel
theorem dX11_drug_166 : decode cX11_drug 166 = .ok (.aload_n 0, 1) := by decide +kernel
theorem dX11_drug_167 : decode cX11_drug 167 = .ok (.getfield 23, 3) := by decide +kernel
theorem dX11_drug_170 : decode cX11_drug 170 = .ok (.iload_n 1, 1) := by decide +kernel
theorem dX11_drug_171 : decode cX11_drug 171 = .ok (.iload 5, 2) := by decide +kernel
theorem dX11_drug_173 : decode cX11_drug 173 = .ok (.iastore, 1) := by decide +kernel
theorem dX11_drug_174 : decode cX11_drug 174 = .ok (.aload_n 0, 1) := by decide +kernel
theorem dX11_drug_175 : decode cX11_drug 175 = .ok (.getfield 26, 3) := by decide +kernel
theorem dX11_drug_178 : decode cX11_drug 178 = .ok (.iload_n 1, 1) := by decide +kernel
theorem dX11_drug_179 : decode cX11_drug 179 = .ok (.iload 6, 2) := by decide +kernel
theorem dX11_drug_181 : decode cX11_drug 181 = .ok (.iastore, 1) := by decide +kernel
theorem dX11_drug_182 : decode cX11_drug 182 = .ok (.aload_n 0, 1) := by decide +kernel
theorem dX11_drug_183 : decode cX11_drug 183 = .ok (.getfield 29, 3) := by decide +kernel
theorem dX11_drug_186 : decode cX11_drug 186 = .ok (.iload_n 1, 1) := by decide +kernel
theorem dX11_drug_187 : decode cX11_drug 187 = .ok (.iload 7, 2) := by decide +kernel
theorem dX11_drug_189 : decode cX11_drug 189 = .ok (.iastore, 1) := by decide +kernel
theorem dX11_drug_190 : decode cX11_drug 190 = .ok (.aload_n 0, 1) := by decide +kernel
theorem dX11_drug_191 : decode cX11_drug 191 = .ok (.getfield 32, 3) := by decide +kernel
theorem dX11_drug_194 : decode cX11_drug 194 = .ok (.iload_n 1, 1) := by decide +kernel
theorem dX11_drug_195 : decode cX11_drug 195 = .ok (.ldc 188, 2) := by decide +kernel
theorem dX11_drug_197 : decode cX11_drug 197 = .ok (.iastore, 1) := by decide +kernel
theorem dX11_drug_198 : decode cX11_drug 198 = .ok (.aload_n 0, 1) := by decide +kernel
theorem dX11_drug_199 : decode cX11_drug 199 = .ok (.getfield 35, 3) := by decide +kernel
theorem dX11_drug_202 : decode cX11_drug 202 = .ok (.iload_n 1, 1) := by decide +kernel
theorem dX11_drug_203 : decode cX11_drug 203 = .ok (.iconst 0, 1) := by decide +kernel
theorem dX11_drug_204 : decode cX11_drug 204 = .ok (.iastore, 1) := by decide +kernel
theorem dX11_drug_205 : decode cX11_drug 205 = .ok (.aload_n 0, 1) := by decide +kernel
theorem dX11_drug_206 : decode cX11_drug 206 = .ok (.getfield 38, 3) := by decide +kernel
theorem dX11_drug_209 : decode cX11_drug 209 = .ok (.iload_n 1, 1) := by decide +kernel
theorem dX11_drug_210 : decode cX11_drug 210 = .ok (.iconst 1, 1) := by decide +kernel
theorem dX11_drug_211 : decode cX11_drug 211 = .ok (.iastore, 1) := by decide +kernel
theorem dX11_drug_212 : decode cX11_drug 212 = .ok (.aload_n 0, 1) := by decide +kernel
theorem dX11_drug_213 : decode cX11_drug 213 = .ok (.getfield 41, 3) := by decide +kernel
theorem dX11_drug_216 : decode cX11_drug 216 = .ok (.iload_n 1, 1) := by decide +kernel
theorem dX11_drug_217 : decode cX11_drug 217 = .ok (.iconst 0, 1) := by decide +kernel
theorem dX11_drug_218 : decode cX11_drug 218 = .ok (.iastore, 1) := by decide +kernel
theorem dX11_drug_219 : decode cX11_drug 219 = .ok (.aload_n 0, 1) := by decide +kernel
theorem dX11_drug_220 : decode cX11_drug 220 = .ok (.getfield 44, 3) := by decide +kernel
theorem dX11_drug_223 : decode cX11_drug 223 = .ok (.iload_n 1, 1) := by decide +kernel
theorem dX11_drug_224 : decode cX11_drug 224 = .ok (.iconst 1, 1) := by decide +kernel
theorem dX11_drug_225 : decode cX11_drug 225 = .ok (.iastore, 1) := by decide +kernel
theorem dX11_drug_226 : decode cX11_drug 226 = .ok (.return_, 1) := by decide +kernel
set_option maxRecDepth 20000 in
theorem ggX11_isDrug_X11_isIn : GoodIn wsX11_isDrug wsX11_isIn := goodIn_r _ [6] (by decide +kernel) (by decide +kernel)
set_option maxRecDepth 20000 in
theorem gX11_isDrug_X11_isIn : GoodIn wsX11_isDrug (va_wsS RX11 174 yX11_isIn wsX11_isIn) := goodIn_app (goodIn_of _ (by decide +kernel)) ggX11_isDrug_X11_isIn
theorem dX11_isDrug_0 : decode cX11_isDrug 0 = .ok (.iload_n 1, 1) := by decide +kernel
theorem dX11_isDrug_1 : decode cX11_isDrug 1 = .ok (.i2l, 1) := by decide +kernel
theorem dX11_isDrug_2 : decode cX11_isDrug 2 = .ok (.lconst 0, 1) := by decide +kernel
theorem dX11_isDrug_3 : decode cX11_isDrug 3 = .ok (.ldc2_w 182, 3) := by decide +kernel
theorem dX11_isDrug_6 : decode cX11_isDrug 6 = .ok (.invokestatic 174, 3) := by decide +kernel
theorem dX11_isDrug_9 : decode cX11_isDrug 9 = .ok (.ifCond .eq 16, 3) := by decide +kernel
theorem dX11_isDrug_12 : decode cX11_isDrug 12 = .ok (.aload_n 0, 1) := by decide +kernel
theorem dX11_isDrug_13 : decode cX11_isDrug 13 = .ok (.getfield 7, 3) := by decide +kernel
theorem dX11_isDrug_16 : decode cX11_isDrug 16 = .ok (.iload_n 1, 1) := by decide +kernel
theorem dX11_isDrug_17 : decode cX11_isDrug 17 = .ok (.baload, 1) := by decide +kernel
theorem dX11_isDrug_18 : decode cX11_isDrug 18 = .ok (.ifCond .eq 7, 3) := by decide +kernel
theorem dX11_isDrug_21 : decode cX11_isDrug 21 = .ok (.iconst 1, 1) := by decide +kernel
theorem dX11_isDrug_22 : decode cX11_isDrug 22 = .ok (.goto 4, 3) := by decide +kernel
theorem dX11_isDrug_25 : decode cX11_isDrug 25 = .ok (.iconst 0, 1) := by decide +kernel
theorem dX11_isDrug_26 : decode cX11_isDrug 26 = .ok (.ireturn, 1) := by decide +kernel
set_option maxRecDepth 20000 in
theorem ggX11_more_X11_isIn : GoodIn wsX11_more wsX11_isIn := goodIn_r _ [15] (by decide +kernel) (by decide +kernel)
set_option maxRecDepth 20000 in
theorem gX11_more_X11_isIn : GoodIn wsX11_more (va_wsS RX11 174 yX11_isIn wsX11_isIn) := goodIn_app (goodIn_of _ (by decide +kernel)) ggX11_more_X11_isIn
set_option maxRecDepth 20000 in
theorem ggX11_more_X11_isDrug : GoodIn wsX11_more wsX11_isDrug := goodIn_r _ [19, 20, 21, 12, 13, 14, 15, 29, 30, 31, 32, 33, 34, 35, 36, 37, 38, 39, 40, 41, 42, 43, 44, 45, 46, 47, 48, 49, 50, 51, 52, 53, 54, 55, 56, 57, 58, 59, 60, 61, 62, 63, 64, 65, 66, 67, 68, 69, 70, 71, 72, 73, 74, 75, 76, 77, 78, 79, 80, 81] (by decide +kernel) (by decide +kernel)
set_option maxRecDepth 20000 in
theorem gX11_more_X11_isDrug : GoodIn wsX11_more (wsV RX11 199 RX11 yX11_isDrug wsX11_isDrug) := goodIn_app (goodIn_of _ (by decide +kernel)) ggX11_more_X11_isDrug
set_option maxRecDepth 20000 in
theorem ggX11_more_X11_isUsed : GoodIn wsX11_more wsX11_isUsed := goodIn_r _ [25, 26, 27, 28, 29, 30, 31, 32, 33, 34, 35, 36, 37, 38, 39, 40, 41, 42, 43, 44, 45, 46, 47, 48, 49, 50, 51, 52, 53, 54, 55, 56, 57, 58, 59, 60, 61, 62, 63, 64, 65, 66, 67, 68, 69, 70, 71, 72, 73, 74, 75, 76, 77, 78, 79, 80, 81] (by decide +kernel) (by decide +kernel)
set_option maxRecDepth 20000 in
theorem gX11_more_X11_isUsed : GoodIn wsX11_more (wsV RX11 184 RX11 yX11_isUsed wsX11_isUsed) := goodIn_app (goodIn_of _ (by decide +kernel)) ggX11_more_X11_isUsed
theorem dX11_more_0 : decode cX11_more 0 = .ok (.iload_n 2, 1) := by decide +kernel
theorem dX11_more_1 : decode cX11_more 1 = .ok (.i2l, 1) := by decide +kernel
theorem dX11_more_2 : decode cX11_more 2 = .ok (.lconst 1, 1) := by decide +kernel
theorem dX11_more_3 : decode cX11_more 3 = .ok (.ldc2_w 189, 3) := by decide +kernel
theorem dX11_more_6 : decode cX11_more 6 = .ok (.invokestatic 174, 3) := by decide +kernel
theorem dX11_more_9 : decode cX11_more 9 = .ok (.ifCond .eq 58, 3) := by decide +kernel
theorem dX11_more_12 : decode cX11_more 12 = .ok (.iload_n 3, 1) := by decide +kernel
theorem dX11_more_13 : decode cX11_more 13 = .ok (.i2l, 1) := by decide +kernel
theorem dX11_more_14 : decode cX11_more 14 = .ok (.lconst 0, 1) := by decide +kernel
theorem dX11_more_15 : decode cX11_more 15 = .ok (.ldc2_w 191, 3) := by decide +kernel
theorem dX11_more_18 : decode cX11_more 18 = .ok (.invokestatic 174, 3) := by decide +kernel
theorem dX11_more_21 : decode cX11_more 21 = .ok (.ifCond .eq 46, 3) := by decide +kernel
theorem dX11_more_24 : decode cX11_more 24 = .ok (.iload 4, 2) := by decide +kernel
theorem dX11_more_26 : decode cX11_more 26 = .ok (.i2l, 1) := by decide +kernel
theorem dX11_more_27 : decode cX11_more 27 = .ok (.lconst 1, 1) := by decide +kernel
theorem dX11_more_28 : decode cX11_more 28 = .ok (.ldc2_w 193, 3) := by decide +kernel
theorem dX11_more_31 : decode cX11_more 31 = .ok (.invokestatic 174, 3) := by decide +kernel
theorem dX11_more_34 : decode cX11_more 34 = .ok (.ifCond .eq 33, 3) := by decide +kernel
theorem dX11_more_37 : decode cX11_more 37 = .ok (.iload 5, 2) := by decide +kernel
theorem dX11_more_39 : decode cX11_more 39 = .ok (.i2l, 1) := by decide +kernel
theorem dX11_more_40 : decode cX11_more 40 = .ok (.lconst 0, 1) := by decide +kernel
theorem dX11_more_41 : decode cX11_more 41 = .ok (.ldc2_w 195, 3) := by decide +kernel
theorem dX11_more_44 : decode cX11_more 44 = .ok (.invokestatic 174, 3) := by decide +kernel
theorem dX11_more_47 : decode cX11_more 47 = .ok (.ifCond .eq 20, 3) := by decide +kernel
theorem dX11_more_50 : decode cX11_more 50 = .ok (.iload 6, 2) := by decide +kernel
theorem dX11_more_52 : decode cX11_more 52 = .ok (.i2l, 1) := by decide +kernel
theorem dX11_more_53 : decode cX11_more 53 = .ok (.lconst 1, 1) := by decide +kernel
theorem dX11_more_54 : decode cX11_more 54 = .ok (.ldc2_w 197, 3) := by decide +kernel
theorem dX11_more_57 : decode cX11_more 57 = .ok (.invokestatic 174, 3) := by decide +kernel
theorem dX11_more_60 : decode cX11_more 60 = .ok (.ifCond .eq 7, 3) := by decide +kernel
theorem dX11_more_63 : decode cX11_more 63 = .ok (.iconst 1, 1) := by decide +kernel
theorem dX11_more_64 : decode cX11_more 64 = .ok (.goto 4, 3) := by decide +kernel
theorem dX11_more_67 : decode cX11_more 67 = .ok (.iconst 0, 1) := by decide +kernel
theorem dX11_more_68 : decode cX11_more 68 = .ok (.istore 7, 2) := by decide +kernel
theorem dX11_more_70 : decode cX11_more 70 = .ok (.aload_n 0, 1) := by decide +kernel
theorem dX11_more_71 : decode cX11_more 71 = .ok (.aload_n 0, 1) := by decide +kernel
theorem dX11_more_72 : decode cX11_more 72 = .ok (.iload_n 1, 1) := by decide +kernel
theorem dX11_more_73 : decode cX11_more 73 = .ok (.invokevirtual 199, 3) := by decide +kernel
theorem dX11_more_76 : decode cX11_more 76 = .ok (.ifCond .ne 7, 3) := by decide +kernel
theorem dX11_more_79 : decode cX11_more 79 = .ok (.iconst 1, 1) := by decide +kernel
theorem dX11_more_80 : decode cX11_more 80 = .ok (.goto 25, 3) := by decide +kernel
theorem dX11_more_83 : decode cX11_more 83 = .ok (.iload 7, 2) := by decide +kernel
theorem dX11_more_85 : decode cX11_more 85 = .ok (.ifCond .ne 7, 3) := by decide +kernel
theorem dX11_more_88 : decode cX11_more 88 = .ok (.iconst 2, 1) := by decide +kernel
theorem dX11_more_89 : decode cX11_more 89 = .ok (.goto 16, 3) := by decide +kernel
theorem dX11_more_92 : decode cX11_more 92 = .ok (.aload_n 0, 1) := by decide +kernel
theorem dX11_more_93 : decode cX11_more 93 = .ok (.iload_n 1, 1) := by decide +kernel
theorem dX11_more_94 : decode cX11_more 94 = .ok (.invokevirtual 184, 3) := by decide +kernel
theorem dX11_more_97 : decode cX11_more 97 = .ok (.ifCond .eq 7, 3) := by decide +kernel
theorem dX11_more_100 : decode cX11_more 100 = .ok (.iconst 3, 1) := by decide +kernel
theorem dX11_more_101 : decode cX11_more 101 = .ok (.goto 4, 3) := by decide +kernel
theorem dX11_more_104 : decode cX11_more 104 = .ok (.iconst 0, 1) := by decide +kernel
theorem dX11_more_105 : decode cX11_more 105 = .ok (.putfield 159, 3) := by decide +kernel
theorem dX11_more_108 : decode cX11_more 108 = .ok (.aload_n 0, 1) := by decide +kernel
theorem dX11_more_109 : decode cX11_more 109 = .ok (.getfield 159, 3) := by decide +kernel
theorem dX11_more_112 : decode cX11_more 112 = .ok (.ifCond .le 4, 3) := by decide +kernel
theorem dX11_more_115 : decode cX11_more 115 = .ok (.return_, 1) := by decide +kernel
theorem dX11_more_116 : decode cX11_more 116 = .ok (.aload_n 0, 1) := by decide +kernel
theorem dX11_more_117 : decode cX11_more 117 = .ok (.getfield 32, 3) := by decide +kernel
theorem dX11_more_120 : decode cX11_more 120 = .ok (.iload_n 1, 1) := by decide +kernel
theorem dX11_more_121 : decode cX11_more 121 = .ok (.iload_n 2, 1) := by decide +kernel
theorem dX11_more_122 : decode cX11_more 122 = .ok (.iastore, 1) := by decide +kernel
theorem dX11_more_123 : decode cX11_more 123 = .ok (.aload_n 0, 1) := by decide +kernel
theorem dX11_more_124 : decode cX11_more 124 = .ok (.getfield 35, 3) := by decide +kernel
theorem dX11_more_127 : decode cX11_more 127 = .ok (.iload_n 1, 1) := by decide +kernel
theorem dX11_more_128 : decode cX11_more 128 = .ok (.iload_n 3, 1) := by decide +kernel
theorem dX11_more_129 : decode cX11_more 129 = .ok (.iastore, 1) := by decide +kernel
theorem dX11_more_130 : decode cX11_more 130 = .ok (.aload_n 0, 1) := by decide +kernel
theorem dX11_more_131 : decode cX11_more 131 = .ok (.getfield 38, 3) := by decide +kernel
theorem dX11_more_134 : decode cX11_more 134 = .ok (.iload_n 1, 1) := by decide +kernel
theorem dX11_more_135 : decode cX11_more 135 = .ok (.iload 4, 2) := by decide +kernel
theorem dX11_more_137 : decode cX11_more 137 = .ok (.iastore, 1) := by decide +kernel
theorem dX11_more_138 : decode cX11_more 138 = .ok (.aload_n 0, 1) := by decide +kernel
theorem dX11_more_139 : decode cX11_more 139 = .ok (.getfield 41, 3) := by decide +kernel
theorem dX11_more_142 : decode cX11_more 142 = .ok (.iload_n 1, 1) := by decide +kernel
theorem dX11_more_143 : decode cX11_more 143 = .ok (.iload 5, 2) := by decide +kernel
theorem dX11_more_145 : decode cX11_more 145 = .ok (.iastore, 1) := by decide +kernel
theorem dX11_more_146 : decode cX11_more 146 = .ok (.aload_n 0, 1) := by decide +kernel
theorem dX11_more_147 : decode cX11_more 147 = .ok (.getfield 44, 3) := by decide +kernel
theorem dX11_more_150 : decode cX11_more 150 = .ok (.iload_n 1, 1) := by decide +kernel
theorem dX11_more_151 : decode cX11_more 151 = .ok (.iload 6, 2) := by decide +kernel
theorem dX11_more_153 : decode cX11_more 153 = .ok (.iastore, 1) := by decide +kernel
theorem dX11_more_154 : decode cX11_more 154 = .ok (.return_, 1) := by decide +kernel
theorem dX11_rateOf_0 : decode cX11_rateOf 0 = .ok (.aload_n 0, 1) := by decide +kernel
theorem dX11_rateOf_1 : decode cX11_rateOf 1 = .ok (.getfield 13, 3) := by decide +kernel
theorem dX11_rateOf_4 : decode cX11_rateOf 4 = .ok (.iload_n 1, 1) := by decide +kernel
theorem dX11_rateOf_5 : decode cX11_rateOf 5 = .ok (.iaload, 1) := by decide +kernel
theorem dX11_rateOf_6 : decode cX11_rateOf 6 = .ok (.ifCond .ne 6, 3) := by decide +kernel
theorem dX11_rateOf_9 : decode cX11_rateOf 9 = .ok (.iload_n 2, 1) := by decide +kernel
theorem dX11_rateOf_10 : decode cX11_rateOf 10 = .ok (.i2l, 1) := by decide +kernel
theorem dX11_rateOf_11 : decode cX11_rateOf 11 = .ok (.lreturn, 1) := by decide +kernel
theorem dX11_rateOf_12 : decode cX11_rateOf 12 = .ok (.ldc2_w 202, 3) := by decide +kernel
theorem dX11_rateOf_15 : decode cX11_rateOf 15 = .ok (.iload_n 2, 1) := by decide +kernel
theorem dX11_rateOf_16 : decode cX11_rateOf 16 = .ok (.i2l, 1) := by decide +kernel
theorem dX11_rateOf_17 : decode cX11_rateOf 17 = .ok (.lmul, 1) := by decide +kernel
theorem dX11_rateOf_18 : decode cX11_rateOf 18 = .ok (.iload_n 3, 1) := by decide +kernel
theorem dX11_rateOf_19 : decode cX11_rateOf 19 = .ok (.i2l, 1) := by decide +kernel
theorem dX11_rateOf_20 : decode cX11_rateOf 20 = .ok (.lmul, 1) := by decide +kernel
theorem dX11_rateOf_21 : decode cX11_rateOf 21 = .ok (.lstore 4, 2) := by decide +kernel
theorem dX11_rateOf_23 : decode cX11_rateOf 23 = .ok (.ldc2_w 204, 3) := by decide +kernel
theorem dX11_rateOf_26 : decode cX11_rateOf 26 = .ok (.aload_n 0, 1) := by decide +kernel
theorem dX11_rateOf_27 : decode cX11_rateOf 27 = .ok (.getfield 17, 3) := by decide +kernel
theorem dX11_rateOf_30 : decode cX11_rateOf 30 = .ok (.iload_n 1, 1) := by decide +kernel
theorem dX11_rateOf_31 : decode cX11_rateOf 31 = .ok (.iaload, 1) := by decide +kernel
theorem dX11_rateOf_32 : decode cX11_rateOf 32 = .ok (.i2l, 1) := by decide +kernel
theorem dX11_rateOf_33 : decode cX11_rateOf 33 = .ok (.lmul, 1) := by decide +kernel
theorem dX11_rateOf_34 : decode cX11_rateOf 34 = .ok (.lstore 6, 2) := by decide +kernel
theorem dX11_rateOf_36 : decode cX11_rateOf 36 = .ok (.ldc2_w 206, 3) := by decide +kernel
theorem dX11_rateOf_39 : decode cX11_rateOf 39 = .ok (.lload 4, 2) := by decide +kernel
theorem dX11_rateOf_41 : decode cX11_rateOf 41 = .ok (.lmul, 1) := by decide +kernel
theorem dX11_rateOf_42 : decode cX11_rateOf 42 = .ok (.lload 6, 2) := by decide +kernel
theorem dX11_rateOf_44 : decode cX11_rateOf 44 = .ok (.ladd, 1) := by decide +kernel
theorem dX11_rateOf_45 : decode cX11_rateOf 45 = .ok (.ldc2_w 206, 3) := by decide +kernel
theorem dX11_rateOf_48 : decode cX11_rateOf 48 = .ok (.lload 6, 2) := by decide +kernel
theorem dX11_rateOf_50 : decode cX11_rateOf 50 = .ok (.lmul, 1) := by decide +kernel
theorem dX11_rateOf_51 : decode cX11_rateOf 51 = .ok (.ldiv, 1) := by decide +kernel
theorem dX11_rateOf_52 : decode cX11_rateOf 52 = .ok (.lreturn, 1) := by decide +kernel
theorem dX11_clear_0 : decode cX11_clear 0 = .ok (.aload_n 0, 1) := by decide +kernel
theorem dX11_clear_1 : decode cX11_clear 1 = .ok (.getfield 131, 3) := by decide +kernel
theorem dX11_clear_4 : decode cX11_clear 4 = .ok (.iload_n 1, 1) := by decide +kernel
theorem dX11_clear_5 : decode cX11_clear 5 = .ok (.iconst 0, 1) := by decide +kernel
theorem dX11_clear_6 : decode cX11_clear 6 = .ok (.iastore, 1) := by decide +kernel
theorem dX11_clear_7 : decode cX11_clear 7 = .ok (.aload_n 0, 1) := by decide +kernel
theorem dX11_clear_8 : decode cX11_clear 8 = .ok (.getfield 134, 3) := by decide +kernel
theorem dX11_clear_11 : decode cX11_clear 11 = .ok (.iload_n 1, 1) := by decide +kernel
theorem dX11_clear_12 : decode cX11_clear 12 = .ok (.iconst 0, 1) := by decide +kernel
theorem dX11_clear_13 : decode cX11_clear 13 = .ok (.iastore, 1) := by decide +kernel
theorem dX11_clear_14 : decode cX11_clear 14 = .ok (.aload_n 0, 1) := by decide +kernel
theorem dX11_clear_15 : decode cX11_clear 15 = .ok (.getfield 137, 3) := by decide +kernel
theorem dX11_clear_18 : decode cX11_clear 18 = .ok (.iload_n 1, 1) := by decide +kernel
theorem dX11_clear_19 : decode cX11_clear 19 = .ok (.iconst (-1), 1) := by decide +kernel
theorem dX11_clear_20 : decode cX11_clear 20 = .ok (.iastore, 1) := by decide +kernel
theorem dX11_clear_21 : decode cX11_clear 21 = .ok (.return_, 1) := by decide +kernel
theorem dX11_places_0 : decode cX11_places 0 = .ok (.aload_n 0, 1) := by decide +kernel
theorem dX11_places_1 : decode cX11_places 1 = .ok (.getfield 47, 3) := by decide +kernel
theorem dX11_places_4 : decode cX11_places 4 = .ok (.iload_n 1, 1) := by decide +kernel
theorem dX11_places_5 : decode cX11_places 5 = .ok (.iaload, 1) := by decide +kernel
theorem dX11_places_6 : decode cX11_places 6 = .ok (.iconst 1, 1) := by decide +kernel
theorem dX11_places_7 : decode cX11_places 7 = .ok (.if_icmp .ne 7, 3) := by decide +kernel
theorem dX11_places_10 : decode cX11_places 10 = .ok (.iconst 0, 1) := by decide +kernel
theorem dX11_places_11 : decode cX11_places 11 = .ok (.goto 33, 3) := by decide +kernel
theorem dX11_places_14 : decode cX11_places 14 = .ok (.aload_n 0, 1) := by decide +kernel
theorem dX11_places_15 : decode cX11_places 15 = .ok (.getfield 47, 3) := by decide +kernel
theorem dX11_places_18 : decode cX11_places 18 = .ok (.iload_n 1, 1) := by decide +kernel
theorem dX11_places_19 : decode cX11_places 19 = .ok (.iaload, 1) := by decide +kernel
theorem dX11_places_20 : decode cX11_places 20 = .ok (.iconst 3, 1) := by decide +kernel
theorem dX11_places_21 : decode cX11_places 21 = .ok (.if_icmp .ne 22, 3) := by decide +kernel
theorem dX11_places_24 : decode cX11_places 24 = .ok (.aload_n 0, 1) := by decide +kernel
theorem dX11_places_25 : decode cX11_places 25 = .ok (.getfield 13, 3) := by decide +kernel
theorem dX11_places_28 : decode cX11_places 28 = .ok (.aload_n 0, 1) := by decide +kernel
theorem dX11_places_29 : decode cX11_places 29 = .ok (.getfield 122, 3) := by decide +kernel
theorem dX11_places_32 : decode cX11_places 32 = .ok (.iload_n 1, 1) := by decide +kernel
theorem dX11_places_33 : decode cX11_places 33 = .ok (.iaload, 1) := by decide +kernel
theorem dX11_places_34 : decode cX11_places 34 = .ok (.iaload, 1) := by decide +kernel
theorem dX11_places_35 : decode cX11_places 35 = .ok (.iconst 1, 1) := by decide +kernel
theorem dX11_places_36 : decode cX11_places 36 = .ok (.if_icmp .ne 7, 3) := by decide +kernel
theorem dX11_places_39 : decode cX11_places 39 = .ok (.iconst 2, 1) := by decide +kernel
theorem dX11_places_40 : decode cX11_places 40 = .ok (.goto 4, 3) := by decide +kernel
theorem dX11_places_43 : decode cX11_places 43 = .ok (.iconst 1, 1) := by decide +kernel
theorem dX11_places_44 : decode cX11_places 44 = .ok (.ireturn, 1) := by decide +kernel
set_option maxRecDepth 20000 in
theorem ggX11_number_X11_places : GoodIn wsX11_number wsX11_places := goodIn_r _ [8, 9, 10, 11, 12, 13, 14, 15, 16, 17, 18, 19, 20, 21, 22, 23, 24, 25, 26, 27, 28, 29, 30, 31, 32, 33, 34, 35, 36, 37, 38, 39, 40, 41, 42, 43, 44, 45, 46, 47, 48, 49, 50, 51, 52, 53, 54, 55, 56, 57, 58, 59, 60, 61, 62, 63, 64] (by decide +kernel) (by decide +kernel)
set_option maxRecDepth 20000 in
theorem gX11_number_X11_places : GoodIn wsX11_number (wsV RX11 208 RX11 yX11_places wsX11_places) := goodIn_app (goodIn_of _ (by decide +kernel)) ggX11_number_X11_places
theorem dX11_number_0 : decode cX11_number 0 = .ok (.aload_n 0, 1) := by decide +kernel
theorem dX11_number_1 : decode cX11_number 1 = .ok (.getfield 137, 3) := by decide +kernel
theorem dX11_number_4 : decode cX11_number 4 = .ok (.iload_n 1, 1) := by decide +kernel
theorem dX11_number_5 : decode cX11_number 5 = .ok (.iaload, 1) := by decide +kernel
theorem dX11_number_6 : decode cX11_number 6 = .ok (.ifCond .ge 7, 3) := by decide +kernel
theorem dX11_number_9 : decode cX11_number 9 = .ok (.iconst 0, 1) := by decide +kernel
theorem dX11_number_10 : decode cX11_number 10 = .ok (.goto 16, 3) := by decide +kernel
theorem dX11_number_13 : decode cX11_number 13 = .ok (.aload_n 0, 1) := by decide +kernel
theorem dX11_number_14 : decode cX11_number 14 = .ok (.getfield 134, 3) := by decide +kernel
theorem dX11_number_17 : decode cX11_number 17 = .ok (.iload_n 1, 1) := by decide +kernel
theorem dX11_number_18 : decode cX11_number 18 = .ok (.iaload, 1) := by decide +kernel
theorem dX11_number_19 : decode cX11_number 19 = .ok (.aload_n 0, 1) := by decide +kernel
theorem dX11_number_20 : decode cX11_number 20 = .ok (.getfield 137, 3) := by decide +kernel
theorem dX11_number_23 : decode cX11_number 23 = .ok (.iload_n 1, 1) := by decide +kernel
theorem dX11_number_24 : decode cX11_number 24 = .ok (.iaload, 1) := by decide +kernel
theorem dX11_number_25 : decode cX11_number 25 = .ok (.isub, 1) := by decide +kernel
theorem dX11_number_26 : decode cX11_number 26 = .ok (.istore_n 2, 1) := by decide +kernel
theorem dX11_number_27 : decode cX11_number 27 = .ok (.aload_n 0, 1) := by decide +kernel
theorem dX11_number_28 : decode cX11_number 28 = .ok (.getfield 131, 3) := by decide +kernel
theorem dX11_number_31 : decode cX11_number 31 = .ok (.iload_n 1, 1) := by decide +kernel
theorem dX11_number_32 : decode cX11_number 32 = .ok (.iaload, 1) := by decide +kernel
theorem dX11_number_33 : decode cX11_number 33 = .ok (.istore_n 3, 1) := by decide +kernel
theorem dX11_number_34 : decode cX11_number 34 = .ok (.iload_n 2, 1) := by decide +kernel
theorem dX11_number_35 : decode cX11_number 35 = .ok (.istore 4, 2) := by decide +kernel
theorem dX11_number_37 : decode cX11_number 37 = .ok (.iload 4, 2) := by decide +kernel
theorem dX11_number_39 : decode cX11_number 39 = .ok (.aload_n 0, 1) := by decide +kernel
theorem dX11_number_40 : decode cX11_number 40 = .ok (.iload_n 1, 1) := by decide +kernel
theorem dX11_number_41 : decode cX11_number 41 = .ok (.invokevirtual 208, 3) := by decide +kernel
theorem dX11_number_44 : decode cX11_number 44 = .ok (.if_icmp .ge 14, 3) := by decide +kernel
theorem dX11_number_47 : decode cX11_number 47 = .ok (.iload_n 3, 1) := by decide +kernel
theorem dX11_number_48 : decode cX11_number 48 = .ok (.bipush 10, 2) := by decide +kernel
theorem dX11_number_50 : decode cX11_number 50 = .ok (.imul, 1) := by decide +kernel
theorem dX11_number_51 : decode cX11_number 51 = .ok (.istore_n 3, 1) := by decide +kernel
theorem dX11_number_52 : decode cX11_number 52 = .ok (.iinc 4 1, 3) := by decide +kernel
theorem dX11_number_55 : decode cX11_number 55 = .ok (.goto (-18), 3) := by decide +kernel
theorem dX11_number_58 : decode cX11_number 58 = .ok (.iload_n 3, 1) := by decide +kernel
theorem dX11_number_59 : decode cX11_number 59 = .ok (.ireturn, 1) := by decide +kernel
set_option maxRecDepth 20000 in
theorem ggX11_figure_X11_places : GoodIn wsX11_figure wsX11_places := goodIn_r _ [8, 9, 10, 11, 12, 13, 14, 15, 16, 17, 18, 19, 20, 21, 22, 23, 24, 25, 26, 27, 28, 29, 30, 31, 32, 33, 34, 35, 36, 37, 38, 39, 40, 41, 42, 43, 44, 45, 46, 47, 48, 49, 50, 51, 52, 53, 54, 55, 56, 57, 58, 59, 60, 61, 62, 63, 64] (by decide +kernel) (by decide +kernel)
set_option maxRecDepth 20000 in
theorem gX11_figure_X11_places : GoodIn wsX11_figure (wsV RX11 208 RX11 yX11_places wsX11_places) := goodIn_app (goodIn_of _ (by decide +kernel)) ggX11_figure_X11_places
theorem dX11_figure_0 : decode cX11_figure 0 = .ok (.aload_n 0, 1) := by decide +kernel
theorem dX11_figure_1 : decode cX11_figure 1 = .ok (.getfield 137, 3) := by decide +kernel
theorem dX11_figure_4 : decode cX11_figure 4 = .ok (.iload_n 1, 1) := by decide +kernel
theorem dX11_figure_5 : decode cX11_figure 5 = .ok (.iaload, 1) := by decide +kernel
theorem dX11_figure_6 : decode cX11_figure 6 = .ok (.ifCond .lt 7, 3) := by decide +kernel
theorem dX11_figure_9 : decode cX11_figure 9 = .ok (.iconst 1, 1) := by decide +kernel
theorem dX11_figure_10 : decode cX11_figure 10 = .ok (.goto 4, 3) := by decide +kernel
theorem dX11_figure_13 : decode cX11_figure 13 = .ok (.iconst 0, 1) := by decide +kernel
theorem dX11_figure_14 : decode cX11_figure 14 = .ok (.istore_n 3, 1) := by decide +kernel
theorem dX11_figure_15 : decode cX11_figure 15 = .ok (.aload_n 0, 1) := by decide +kernel
theorem dX11_figure_16 : decode cX11_figure 16 = .ok (.getfield 134, 3) := by decide +kernel
theorem dX11_figure_19 : decode cX11_figure 19 = .ok (.iload_n 1, 1) := by decide +kernel
theorem dX11_figure_20 : decode cX11_figure 20 = .ok (.iaload, 1) := by decide +kernel
theorem dX11_figure_21 : decode cX11_figure 21 = .ok (.iconst 1, 1) := by decide +kernel
theorem dX11_figure_22 : decode cX11_figure 22 = .ok (.if_icmp .ne 20, 3) := by decide +kernel
theorem dX11_figure_25 : decode cX11_figure 25 = .ok (.aload_n 0, 1) := by decide +kernel
theorem dX11_figure_26 : decode cX11_figure 26 = .ok (.getfield 131, 3) := by decide +kernel
theorem dX11_figure_29 : decode cX11_figure 29 = .ok (.iload_n 1, 1) := by decide +kernel
theorem dX11_figure_30 : decode cX11_figure 30 = .ok (.iaload, 1) := by decide +kernel
theorem dX11_figure_31 : decode cX11_figure 31 = .ok (.ifCond .ne 11, 3) := by decide +kernel
theorem dX11_figure_34 : decode cX11_figure 34 = .ok (.iload_n 3, 1) := by decide +kernel
theorem dX11_figure_35 : decode cX11_figure 35 = .ok (.ifCond .ne 7, 3) := by decide +kernel
theorem dX11_figure_38 : decode cX11_figure 38 = .ok (.iconst 1, 1) := by decide +kernel
theorem dX11_figure_39 : decode cX11_figure 39 = .ok (.goto 4, 3) := by decide +kernel
theorem dX11_figure_42 : decode cX11_figure 42 = .ok (.iconst 0, 1) := by decide +kernel
theorem dX11_figure_43 : decode cX11_figure 43 = .ok (.istore 4, 2) := by decide +kernel
theorem dX11_figure_45 : decode cX11_figure 45 = .ok (.iload_n 3, 1) := by decide +kernel
theorem dX11_figure_46 : decode cX11_figure 46 = .ok (.ifCond .eq 32, 3) := by decide +kernel
theorem dX11_figure_49 : decode cX11_figure 49 = .ok (.aload_n 0, 1) := by decide +kernel
theorem dX11_figure_50 : decode cX11_figure 50 = .ok (.getfield 134, 3) := by decide +kernel
theorem dX11_figure_53 : decode cX11_figure 53 = .ok (.iload_n 1, 1) := by decide +kernel
theorem dX11_figure_54 : decode cX11_figure 54 = .ok (.iaload, 1) := by decide +kernel
theorem dX11_figure_55 : decode cX11_figure 55 = .ok (.aload_n 0, 1) := by decide +kernel
theorem dX11_figure_56 : decode cX11_figure 56 = .ok (.getfield 137, 3) := by decide +kernel
theorem dX11_figure_59 : decode cX11_figure 59 = .ok (.iload_n 1, 1) := by decide +kernel
theorem dX11_figure_60 : decode cX11_figure 60 = .ok (.iaload, 1) := by decide +kernel
theorem dX11_figure_61 : decode cX11_figure 61 = .ok (.isub, 1) := by decide +kernel
theorem dX11_figure_62 : decode cX11_figure 62 = .ok (.aload_n 0, 1) := by decide +kernel
theorem dX11_figure_63 : decode cX11_figure 63 = .ok (.iload_n 1, 1) := by decide +kernel
theorem dX11_figure_64 : decode cX11_figure 64 = .ok (.invokevirtual 208, 3) := by decide +kernel
theorem dX11_figure_67 : decode cX11_figure 67 = .ok (.if_icmp .ge 7, 3) := by decide +kernel
theorem dX11_figure_70 : decode cX11_figure 70 = .ok (.iconst 1, 1) := by decide +kernel
theorem dX11_figure_71 : decode cX11_figure 71 = .ok (.goto 22, 3) := by decide +kernel
theorem dX11_figure_74 : decode cX11_figure 74 = .ok (.iconst 0, 1) := by decide +kernel
theorem dX11_figure_75 : decode cX11_figure 75 = .ok (.goto 18, 3) := by decide +kernel
theorem dX11_figure_78 : decode cX11_figure 78 = .ok (.aload_n 0, 1) := by decide +kernel
theorem dX11_figure_79 : decode cX11_figure 79 = .ok (.getfield 134, 3) := by decide +kernel
theorem dX11_figure_82 : decode cX11_figure 82 = .ok (.iload_n 1, 1) := by decide +kernel
theorem dX11_figure_83 : decode cX11_figure 83 = .ok (.iaload, 1) := by decide +kernel
theorem dX11_figure_84 : decode cX11_figure 84 = .ok (.iconst 4, 1) := by decide +kernel
theorem dX11_figure_85 : decode cX11_figure 85 = .ok (.if_icmp .ge 7, 3) := by decide +kernel
theorem dX11_figure_88 : decode cX11_figure 88 = .ok (.iconst 1, 1) := by decide +kernel
theorem dX11_figure_89 : decode cX11_figure 89 = .ok (.goto 4, 3) := by decide +kernel
theorem dX11_figure_92 : decode cX11_figure 92 = .ok (.iconst 0, 1) := by decide +kernel
theorem dX11_figure_93 : decode cX11_figure 93 = .ok (.istore 5, 2) := by decide +kernel
theorem dX11_figure_95 : decode cX11_figure 95 = .ok (.iload_n 2, 1) := by decide +kernel
theorem dX11_figure_96 : decode cX11_figure 96 = .ok (.bipush 10, 2) := by decide +kernel
theorem dX11_figure_98 : decode cX11_figure 98 = .ok (.if_icmp .ne 40, 3) := by decide +kernel
theorem dX11_figure_101 : decode cX11_figure 101 = .ok (.iload_n 3, 1) := by decide +kernel
theorem dX11_figure_102 : decode cX11_figure 102 = .ok (.ifCond .ne 20, 3) := by decide +kernel
theorem dX11_figure_105 : decode cX11_figure 105 = .ok (.aload_n 0, 1) := by decide +kernel
theorem dX11_figure_106 : decode cX11_figure 106 = .ok (.getfield 134, 3) := by decide +kernel
theorem dX11_figure_109 : decode cX11_figure 109 = .ok (.iload_n 1, 1) := by decide +kernel
theorem dX11_figure_110 : decode cX11_figure 110 = .ok (.iaload, 1) := by decide +kernel
theorem dX11_figure_111 : decode cX11_figure 111 = .ok (.ifCond .eq 11, 3) := by decide +kernel
theorem dX11_figure_114 : decode cX11_figure 114 = .ok (.aload_n 0, 1) := by decide +kernel
theorem dX11_figure_115 : decode cX11_figure 115 = .ok (.iload_n 1, 1) := by decide +kernel
theorem dX11_figure_116 : decode cX11_figure 116 = .ok (.invokevirtual 208, 3) := by decide +kernel
theorem dX11_figure_119 : decode cX11_figure 119 = .ok (.ifCond .ne 5, 3) := by decide +kernel
theorem dX11_figure_122 : decode cX11_figure 122 = .ok (.iconst 0, 1) := by decide +kernel
theorem dX11_figure_123 : decode cX11_figure 123 = .ok (.ireturn, 1) := by decide +kernel
theorem dX11_figure_124 : decode cX11_figure 124 = .ok (.aload_n 0, 1) := by decide +kernel
theorem dX11_figure_125 : decode cX11_figure 125 = .ok (.getfield 137, 3) := by decide +kernel
theorem dX11_figure_128 : decode cX11_figure 128 = .ok (.iload_n 1, 1) := by decide +kernel
theorem dX11_figure_129 : decode cX11_figure 129 = .ok (.aload_n 0, 1) := by decide +kernel
theorem dX11_figure_130 : decode cX11_figure 130 = .ok (.getfield 134, 3) := by decide +kernel
theorem dX11_figure_133 : decode cX11_figure 133 = .ok (.iload_n 1, 1) := by decide +kernel
theorem dX11_figure_134 : decode cX11_figure 134 = .ok (.iaload, 1) := by decide +kernel
theorem dX11_figure_135 : decode cX11_figure 135 = .ok (.iastore, 1) := by decide +kernel
theorem dX11_figure_136 : decode cX11_figure 136 = .ok (.iconst 1, 1) := by decide +kernel
theorem dX11_figure_137 : decode cX11_figure 137 = .ok (.ireturn, 1) := by decide +kernel
theorem dX11_figure_138 : decode cX11_figure 138 = .ok (.iload 4, 2) := by decide +kernel
theorem dX11_figure_140 : decode cX11_figure 140 = .ok (.ifCond .ne 8, 3) := by decide +kernel
theorem dX11_figure_143 : decode cX11_figure 143 = .ok (.iload 5, 2) := by decide +kernel
theorem dX11_figure_145 : decode cX11_figure 145 = .ok (.ifCond .ne 5, 3) := by decide +kernel
theorem dX11_figure_148 : decode cX11_figure 148 = .ok (.iconst 0, 1) := by decide +kernel
theorem dX11_figure_149 : decode cX11_figure 149 = .ok (.ireturn, 1) := by decide +kernel
theorem dX11_figure_150 : decode cX11_figure 150 = .ok (.aload_n 0, 1) := by decide +kernel
theorem dX11_figure_151 : decode cX11_figure 151 = .ok (.getfield 131, 3) := by decide +kernel
theorem dX11_figure_154 : decode cX11_figure 154 = .ok (.iload_n 1, 1) := by decide +kernel
theorem dX11_figure_155 : decode cX11_figure 155 = .ok (.bipush 10, 2) := by decide +kernel
theorem dX11_figure_157 : decode cX11_figure 157 = .ok (.aload_n 0, 1) := by decide +kernel
theorem dX11_figure_158 : decode cX11_figure 158 = .ok (.getfield 131, 3) := by decide +kernel
theorem dX11_figure_161 : decode cX11_figure 161 = .ok (.iload_n 1, 1) := by decide +kernel
theorem dX11_figure_162 : decode cX11_figure 162 = .ok (.iaload, 1) := by decide +kernel
theorem dX11_figure_163 : decode cX11_figure 163 = .ok (.imul, 1) := by decide +kernel
theorem dX11_figure_164 : decode cX11_figure 164 = .ok (.iload_n 2, 1) := by decide +kernel
theorem dX11_figure_165 : decode cX11_figure 165 = .ok (.iadd, 1) := by decide +kernel
theorem dX11_figure_166 : decode cX11_figure 166 = .ok (.iastore, 1) := by decide +kernel
theorem dX11_figure_167 : decode cX11_figure 167 = .ok (.aload_n 0, 1) := by decide +kernel
theorem dX11_figure_168 : decode cX11_figure 168 = .ok (.getfield 134, 3) := by decide +kernel
theorem dX11_figure_171 : decode cX11_figure 171 = .ok (.iload_n 1, 1) := by decide +kernel
theorem dX11_figure_172 : decode cX11_figure 172 = .ok (.dup2, 1) := by decide +kernel
theorem dX11_figure_173 : decode cX11_figure 173 = .ok (.iaload, 1) := by decide +kernel
theorem dX11_figure_174 : decode cX11_figure 174 = .ok (.iconst 1, 1) := by decide +kernel
theorem dX11_figure_175 : decode cX11_figure 175 = .ok (.iadd, 1) := by decide +kernel
theorem dX11_figure_176 : decode cX11_figure 176 = .ok (.iastore, 1) := by decide +kernel
theorem dX11_figure_177 : decode cX11_figure 177 = .ok (.iconst 1, 1) := by decide +kernel
theorem dX11_figure_178 : decode cX11_figure 178 = .ok (.ireturn, 1) := by decide +kernel
set_option maxRecDepth 20000 in
theorem ggX11_go_X11_clear : GoodIn wsX11_go wsX11_clear := goodIn_r _ [6, 7, 8, 9, 10, 11, 12, 13, 14, 15, 16, 17, 18, 19, 20, 21, 22, 23, 24, 25, 26, 27, 28, 29, 30, 31, 32, 33, 34, 35, 36, 37, 38, 39, 40, 41, 42, 43, 44, 45, 46, 47, 48, 49, 50, 51, 52, 53, 54, 55, 56, 57, 58, 59, 60, 61, 62] (by decide +kernel) (by decide +kernel)
set_option maxRecDepth 20000 in
theorem gX11_go_X11_clear : GoodIn wsX11_go (wsV RX11 212 RX11 yX11_clear wsX11_clear) := goodIn_app (goodIn_of _ (by decide +kernel)) ggX11_go_X11_clear
theorem dX11_go_0 : decode cX11_go 0 = .ok (.aload_n 0, 1) := by decide +kernel
theorem dX11_go_1 : decode cX11_go 1 = .ok (.getfield 47, 3) := by decide +kernel
theorem dX11_go_4 : decode cX11_go 4 = .ok (.iload_n 1, 1) := by decide +kernel
theorem dX11_go_5 : decode cX11_go 5 = .ok (.iload_n 2, 1) := by decide +kernel
theorem dX11_go_6 : decode cX11_go 6 = .ok (.iastore, 1) := by decide +kernel
theorem dX11_go_7 : decode cX11_go 7 = .ok (.aload_n 0, 1) := by decide +kernel
theorem dX11_go_8 : decode cX11_go 8 = .ok (.iload_n 1, 1) := by decide +kernel
theorem dX11_go_9 : decode cX11_go 9 = .ok (.invokevirtual 212, 3) := by decide +kernel
theorem dX11_go_12 : decode cX11_go 12 = .ok (.return_, 1) := by decide +kernel
set_option maxRecDepth 20000 in
theorem ggX11_drop_X11_note : GoodIn wsX11_drop wsX11_note := goodIn_r _ [7, 8, 9, 10, 11, 12, 13, 6, 14, 15, 16, 28, 29, 30, 31, 32, 33, 34, 35, 36, 37, 38, 39, 40, 41, 42, 43, 44, 45, 46, 47, 48, 49, 50, 51, 52, 53, 54, 55, 56, 57, 58, 59, 60, 61, 62, 63, 64, 65, 66, 67, 68, 69, 70, 71, 72, 73, 74, 75, 76, 77, 78, 79, 80] (by decide +kernel) (by decide +kernel)
set_option maxRecDepth 20000 in
theorem gX11_drop_X11_note : GoodIn wsX11_drop (wsV RX11 215 RX11 yX11_note wsX11_note) := goodIn_app (goodIn_of _ (by decide +kernel)) ggX11_drop_X11_note
set_option maxRecDepth 20000 in
theorem ggX11_drop_X11_go : GoodIn wsX11_drop wsX11_go := goodIn_r _ [20, 1, 21, 22, 23, 6, 24, 25, 26, 27, 28, 29, 30, 31, 32, 33, 34, 35, 36, 37, 38, 39, 40, 41, 42, 43, 44, 45, 46, 47, 48, 49, 50, 51, 52, 53, 54, 55, 56, 57, 58, 59, 60, 61, 62, 63, 64, 65, 66, 67, 68, 69, 70, 71, 72, 73, 74, 75, 76, 77, 78, 79, 80] (by decide +kernel) (by decide +kernel)
set_option maxRecDepth 20000 in
theorem gX11_drop_X11_go : GoodIn wsX11_drop (wsV RX11 219 RX11 yX11_go wsX11_go) := goodIn_app (goodIn_of _ (by decide +kernel)) ggX11_drop_X11_go
theorem dX11_drop_0 : decode cX11_drop 0 = .ok (.aload_n 0, 1) := by decide +kernel
theorem dX11_drop_1 : decode cX11_drop 1 = .ok (.bipush 9, 2) := by decide +kernel
theorem dX11_drop_3 : decode cX11_drop 3 = .ok (.iload_n 1, 1) := by decide +kernel
theorem dX11_drop_4 : decode cX11_drop 4 = .ok (.aload_n 0, 1) := by decide +kernel
theorem dX11_drop_5 : decode cX11_drop 5 = .ok (.getfield 47, 3) := by decide +kernel
theorem dX11_drop_8 : decode cX11_drop 8 = .ok (.iload_n 1, 1) := by decide +kernel
theorem dX11_drop_9 : decode cX11_drop 9 = .ok (.iaload, 1) := by decide +kernel
theorem dX11_drop_10 : decode cX11_drop 10 = .ok (.invokevirtual 215, 3) := by decide +kernel
theorem dX11_drop_13 : decode cX11_drop 13 = .ok (.aload_n 0, 1) := by decide +kernel
theorem dX11_drop_14 : decode cX11_drop 14 = .ok (.iload_n 1, 1) := by decide +kernel
theorem dX11_drop_15 : decode cX11_drop 15 = .ok (.aload_n 0, 1) := by decide +kernel
theorem dX11_drop_16 : decode cX11_drop 16 = .ok (.getfield 50, 3) := by decide +kernel
theorem dX11_drop_19 : decode cX11_drop 19 = .ok (.iload_n 1, 1) := by decide +kernel
theorem dX11_drop_20 : decode cX11_drop 20 = .ok (.iaload, 1) := by decide +kernel
theorem dX11_drop_21 : decode cX11_drop 21 = .ok (.invokevirtual 219, 3) := by decide +kernel
theorem dX11_drop_24 : decode cX11_drop 24 = .ok (.return_, 1) := by decide +kernel
set_option maxRecDepth 20000 in
theorem ggX11_clearKey_X11_go : GoodIn wsX11_clearKey wsX11_go := goodIn_r _ [7, 1, 8, 9, 10, 6, 11, 12, 2, 13, 32, 33, 34, 35, 36, 37, 38, 39, 40, 41, 42, 43, 44, 45, 46, 47, 48, 49, 50, 51, 52, 53, 54, 55, 56, 57, 58, 59, 60, 61, 62, 63, 64, 65, 66, 67, 68, 69, 70, 71, 72, 73, 74, 75, 76, 77, 78, 79, 80, 81, 82, 83, 84] (by decide +kernel) (by decide +kernel)
set_option maxRecDepth 20000 in
theorem gX11_clearKey_X11_go : GoodIn wsX11_clearKey (wsV RX11 219 RX11 yX11_go wsX11_go) := goodIn_app (goodIn_of _ (by decide +kernel)) ggX11_clearKey_X11_go
set_option maxRecDepth 20000 in
theorem ggX11_clearKey_X11_clear : GoodIn wsX11_clearKey wsX11_clear := goodIn_r _ [11, 12, 2, 13, 32, 33, 34, 35, 36, 37, 38, 39, 40, 41, 42, 43, 44, 45, 46, 47, 48, 49, 50, 51, 52, 53, 54, 55, 56, 57, 58, 59, 60, 61, 62, 63, 64, 65, 66, 67, 68, 69, 70, 71, 72, 73, 74, 75, 76, 77, 78, 79, 80, 81, 82, 83, 84] (by decide +kernel) (by decide +kernel)
set_option maxRecDepth 20000 in
theorem gX11_clearKey_X11_clear : GoodIn wsX11_clearKey (wsV RX11 212 RX11 yX11_clear wsX11_clear) := goodIn_app (goodIn_of _ (by decide +kernel)) ggX11_clearKey_X11_clear
set_option maxRecDepth 20000 in
theorem ggX11_clearKey_X11_drop : GoodIn wsX11_clearKey wsX11_drop := goodIn_r _ [17, 1, 18, 19, 20, 21, 6, 22, 23, 24, 25, 26, 27, 28, 29, 30, 31, 3, 4, 5, 7, 8, 9, 10, 11, 12, 2, 13, 32, 33, 34, 35, 36, 37, 38, 39, 40, 41, 42, 43, 44, 45, 46, 47, 48, 49, 50, 51, 52, 53, 54, 55, 56, 57, 58, 59, 60, 61, 62, 63, 64, 65, 66, 67, 68, 69, 70, 71, 72, 73, 74, 75, 76, 77, 78, 79, 80, 81, 82, 83, 84] (by decide +kernel) (by decide +kernel)
set_option maxRecDepth 20000 in
theorem gX11_clearKey_X11_drop : GoodIn wsX11_clearKey (wsV RX11 223 RX11 yX11_drop wsX11_drop) := goodIn_app (goodIn_of _ (by decide +kernel)) ggX11_clearKey_X11_drop
theorem dX11_clearKey_0 : decode cX11_clearKey 0 = .ok (.aload_n 0, 1) := by decide +kernel
theorem dX11_clearKey_1 : decode cX11_clearKey 1 = .ok (.getfield 47, 3) := by decide +kernel
theorem dX11_clearKey_4 : decode cX11_clearKey 4 = .ok (.iload_n 1, 1) := by decide +kernel
theorem dX11_clearKey_5 : decode cX11_clearKey 5 = .ok (.iaload, 1) := by decide +kernel
theorem dX11_clearKey_6 : decode cX11_clearKey 6 = .ok (.iconst 5, 1) := by decide +kernel
theorem dX11_clearKey_7 : decode cX11_clearKey 7 = .ok (.if_icmp .ne 11, 3) := by decide +kernel
theorem dX11_clearKey_10 : decode cX11_clearKey 10 = .ok (.aload_n 0, 1) := by decide +kernel
theorem dX11_clearKey_11 : decode cX11_clearKey 11 = .ok (.iload_n 1, 1) := by decide +kernel
theorem dX11_clearKey_12 : decode cX11_clearKey 12 = .ok (.iconst 3, 1) := by decide +kernel
theorem dX11_clearKey_13 : decode cX11_clearKey 13 = .ok (.invokevirtual 219, 3) := by decide +kernel
theorem dX11_clearKey_16 : decode cX11_clearKey 16 = .ok (.iconst 1, 1) := by decide +kernel
theorem dX11_clearKey_17 : decode cX11_clearKey 17 = .ok (.ireturn, 1) := by decide +kernel
theorem dX11_clearKey_18 : decode cX11_clearKey 18 = .ok (.aload_n 0, 1) := by decide +kernel
theorem dX11_clearKey_19 : decode cX11_clearKey 19 = .ok (.getfield 134, 3) := by decide +kernel
theorem dX11_clearKey_22 : decode cX11_clearKey 22 = .ok (.iload_n 1, 1) := by decide +kernel
theorem dX11_clearKey_23 : decode cX11_clearKey 23 = .ok (.iaload, 1) := by decide +kernel
theorem dX11_clearKey_24 : decode cX11_clearKey 24 = .ok (.ifCond .le 11, 3) := by decide +kernel
theorem dX11_clearKey_27 : decode cX11_clearKey 27 = .ok (.aload_n 0, 1) := by decide +kernel
theorem dX11_clearKey_28 : decode cX11_clearKey 28 = .ok (.iload_n 1, 1) := by decide +kernel
theorem dX11_clearKey_29 : decode cX11_clearKey 29 = .ok (.invokevirtual 212, 3) := by decide +kernel
theorem dX11_clearKey_32 : decode cX11_clearKey 32 = .ok (.goto 8, 3) := by decide +kernel
theorem dX11_clearKey_35 : decode cX11_clearKey 35 = .ok (.aload_n 0, 1) := by decide +kernel
theorem dX11_clearKey_36 : decode cX11_clearKey 36 = .ok (.iload_n 1, 1) := by decide +kernel
theorem dX11_clearKey_37 : decode cX11_clearKey 37 = .ok (.invokevirtual 223, 3) := by decide +kernel
theorem dX11_clearKey_40 : decode cX11_clearKey 40 = .ok (.iconst 1, 1) := by decide +kernel
theorem dX11_clearKey_41 : decode cX11_clearKey 41 = .ok (.ireturn, 1) := by decide +kernel
set_option maxRecDepth 20000 in
theorem ggX11_enter_X11_number : GoodIn wsX11_enter wsX11_number := goodIn_r _ [25, 2, 1, 26, 27, 28, 29, 24, 30, 4, 5, 3, 68, 69, 70, 71, 72, 73, 74, 75, 76, 77, 78, 79, 80, 81, 82, 83, 84, 85, 86, 87, 88, 89, 90, 91, 92, 93, 94, 95, 96, 97, 98, 99, 100, 101, 102, 103, 104, 105, 106, 107, 108, 109, 110, 111, 112, 113, 114, 115, 116, 117, 118, 119, 120] (by decide +kernel) (by decide +kernel)
set_option maxRecDepth 20000 in
theorem gX11_enter_X11_number : GoodIn wsX11_enter (wsV RX11 226 RX11 yX11_number wsX11_number) := goodIn_app (goodIn_of _ (by decide +kernel)) ggX11_enter_X11_number
set_option maxRecDepth 20000 in
theorem ggX11_enter_X11_isDrug : GoodIn wsX11_enter wsX11_isDrug := goodIn_r _ [34, 35, 36, 37, 38, 24, 39, 68, 69, 70, 71, 72, 73, 74, 75, 76, 77, 78, 79, 80, 81, 82, 83, 84, 85, 86, 87, 88, 89, 90, 91, 92, 93, 94, 95, 96, 97, 98, 99, 100, 101, 102, 103, 104, 105, 106, 107, 108, 109, 110, 111, 112, 113, 114, 115, 116, 117, 118, 119, 120] (by decide +kernel) (by decide +kernel)
set_option maxRecDepth 20000 in
theorem gX11_enter_X11_isDrug : GoodIn wsX11_enter (wsV RX11 199 RX11 yX11_isDrug wsX11_isDrug) := goodIn_app (goodIn_of _ (by decide +kernel)) ggX11_enter_X11_isDrug
set_option maxRecDepth 20000 in
theorem ggX11_enter_X11_go : GoodIn wsX11_enter wsX11_go := goodIn_r _ [43, 4, 44, 45, 46, 24, 47, 26, 1, 2, 68, 69, 70, 71, 72, 73, 74, 75, 76, 77, 78, 79, 80, 81, 82, 83, 84, 85, 86, 87, 88, 89, 90, 91, 92, 93, 94, 95, 96, 97, 98, 99, 100, 101, 102, 103, 104, 105, 106, 107, 108, 109, 110, 111, 112, 113, 114, 115, 116, 117, 118, 119, 120] (by decide +kernel) (by decide +kernel)
set_option maxRecDepth 20000 in
theorem gX11_enter_X11_go : GoodIn wsX11_enter (wsV RX11 219 RX11 yX11_go wsX11_go) := goodIn_app (goodIn_of _ (by decide +kernel)) ggX11_enter_X11_go
set_option maxRecDepth 20000 in
theorem ggX11_enter_X11_isIn : GoodIn wsX11_enter wsX11_isIn := goodIn_r _ [39] (by decide +kernel) (by decide +kernel)
set_option maxRecDepth 20000 in
theorem gX11_enter_X11_isIn : GoodIn wsX11_enter (va_wsS RX11 174 yX11_isIn wsX11_isIn) := goodIn_app (goodIn_of _ (by decide +kernel)) ggX11_enter_X11_isIn
set_option maxRecDepth 20000 in
theorem ggX11_enter_X11_rateOf : GoodIn wsX11_enter wsX11_rateOf := goodIn_r _ [51, 5, 52, 6, 53, 54, 68, 69, 70, 71, 72, 73, 74, 75, 76, 77, 78, 79, 80, 81, 82, 83, 84, 85, 86, 87, 88, 89, 90, 91, 92, 93, 94, 95, 96, 97, 98, 99, 100, 101, 102, 103, 104, 105, 106, 107, 108, 109, 110, 111, 112, 113, 114, 115, 116, 117, 118, 119, 120] (by decide +kernel) (by decide +kernel)
set_option maxRecDepth 20000 in
theorem gX11_enter_X11_rateOf : GoodIn wsX11_enter (wsV RX11 231 RX11 yX11_rateOf wsX11_rateOf) := goodIn_app (goodIn_of _ (by decide +kernel)) ggX11_enter_X11_rateOf
set_option maxRecDepth 20000 in
theorem ggX11_enter_X11_note : GoodIn wsX11_enter wsX11_note := goodIn_r _ [58, 59, 60, 61, 62, 63, 64, 24, 65, 66, 67, 68, 69, 70, 71, 72, 73, 74, 75, 76, 77, 78, 79, 80, 81, 82, 83, 84, 85, 86, 87, 88, 89, 90, 91, 92, 93, 94, 95, 96, 97, 98, 99, 100, 101, 102, 103, 104, 105, 106, 107, 108, 109, 110, 111, 112, 113, 114, 115, 116, 117, 118, 119, 120] (by decide +kernel) (by decide +kernel)
set_option maxRecDepth 20000 in
theorem gX11_enter_X11_note : GoodIn wsX11_enter (wsV RX11 215 RX11 yX11_note wsX11_note) := goodIn_app (goodIn_of _ (by decide +kernel)) ggX11_enter_X11_note
set_option maxRecDepth 20000 in
theorem ggX11_enter_X11_clear : GoodIn wsX11_enter wsX11_clear := goodIn_r _ [47, 26, 1, 2, 68, 69, 70, 71, 72, 73, 74, 75, 76, 77, 78, 79, 80, 81, 82, 83, 84, 85, 86, 87, 88, 89, 90, 91, 92, 93, 94, 95, 96, 97, 98, 99, 100, 101, 102, 103, 104, 105, 106, 107, 108, 109, 110, 111, 112, 113, 114, 115, 116, 117, 118, 119, 120] (by decide +kernel) (by decide +kernel)
set_option maxRecDepth 20000 in
theorem gX11_enter_X11_clear : GoodIn wsX11_enter (wsV RX11 212 RX11 yX11_clear wsX11_clear) := goodIn_app (goodIn_of _ (by decide +kernel)) ggX11_enter_X11_clear
theorem dX11_enter_0 : decode cX11_enter 0 = .ok (.aload_n 0, 1) := by decide +kernel
theorem dX11_enter_1 : decode cX11_enter 1 = .ok (.getfield 134, 3) := by decide +kernel
theorem dX11_enter_4 : decode cX11_enter 4 = .ok (.iload_n 1, 1) := by decide +kernel
theorem dX11_enter_5 : decode cX11_enter 5 = .ok (.iaload, 1) := by decide +kernel
theorem dX11_enter_6 : decode cX11_enter 6 = .ok (.ifCond .eq 18, 3) := by decide +kernel
theorem dX11_enter_9 : decode cX11_enter 9 = .ok (.aload_n 0, 1) := by decide +kernel
theorem dX11_enter_10 : decode cX11_enter 10 = .ok (.getfield 137, 3) := by decide +kernel
theorem dX11_enter_13 : decode cX11_enter 13 = .ok (.iload_n 1, 1) := by decide +kernel
theorem dX11_enter_14 : decode cX11_enter 14 = .ok (.iaload, 1) := by decide +kernel
theorem dX11_enter_15 : decode cX11_enter 15 = .ok (.aload_n 0, 1) := by decide +kernel
theorem dX11_enter_16 : decode cX11_enter 16 = .ok (.getfield 134, 3) := by decide +kernel
theorem dX11_enter_19 : decode cX11_enter 19 = .ok (.iload_n 1, 1) := by decide +kernel
theorem dX11_enter_20 : decode cX11_enter 20 = .ok (.iaload, 1) := by decide +kernel
theorem dX11_enter_21 : decode cX11_enter 21 = .ok (.if_icmp .ne 5, 3) := by decide +kernel
theorem dX11_enter_24 : decode cX11_enter 24 = .ok (.iconst (-1), 1) := by decide +kernel
theorem dX11_enter_25 : decode cX11_enter 25 = .ok (.ireturn, 1) := by decide +kernel
theorem dX11_enter_26 : decode cX11_enter 26 = .ok (.aload_n 0, 1) := by decide +kernel
theorem dX11_enter_27 : decode cX11_enter 27 = .ok (.iload_n 1, 1) := by decide +kernel
theorem dX11_enter_28 : decode cX11_enter 28 = .ok (.invokevirtual 226, 3) := by decide +kernel
theorem dX11_enter_31 : decode cX11_enter 31 = .ok (.istore_n 2, 1) := by decide +kernel
theorem dX11_enter_32 : decode cX11_enter 32 = .ok (.aload_n 0, 1) := by decide +kernel
theorem dX11_enter_33 : decode cX11_enter 33 = .ok (.getfield 122, 3) := by decide +kernel
theorem dX11_enter_36 : decode cX11_enter 36 = .ok (.iload_n 1, 1) := by decide +kernel
theorem dX11_enter_37 : decode cX11_enter 37 = .ok (.iaload, 1) := by decide +kernel
theorem dX11_enter_38 : decode cX11_enter 38 = .ok (.istore_n 3, 1) := by decide +kernel
theorem dX11_enter_39 : decode cX11_enter 39 = .ok (.aload_n 0, 1) := by decide +kernel
theorem dX11_enter_40 : decode cX11_enter 40 = .ok (.getfield 47, 3) := by decide +kernel
theorem dX11_enter_43 : decode cX11_enter 43 = .ok (.iload_n 1, 1) := by decide +kernel
theorem dX11_enter_44 : decode cX11_enter 44 = .ok (.iaload, 1) := by decide +kernel
theorem dX11_enter_45 : decode cX11_enter 45 = .ok (.tableswitch 200 1 3 #[27, 67, 99], 27) := by decide +kernel
theorem dX11_enter_72 : decode cX11_enter 72 = .ok (.aload_n 0, 1) := by decide +kernel
theorem dX11_enter_73 : decode cX11_enter 73 = .ok (.iload_n 2, 1) := by decide +kernel
theorem dX11_enter_74 : decode cX11_enter 74 = .ok (.invokevirtual 199, 3) := by decide +kernel
theorem dX11_enter_77 : decode cX11_enter 77 = .ok (.ifCond .ne 5, 3) := by decide +kernel
theorem dX11_enter_80 : decode cX11_enter 80 = .ok (.iconst (-1), 1) := by decide +kernel
theorem dX11_enter_81 : decode cX11_enter 81 = .ok (.ireturn, 1) := by decide +kernel
theorem dX11_enter_82 : decode cX11_enter 82 = .ok (.aload_n 0, 1) := by decide +kernel
theorem dX11_enter_83 : decode cX11_enter 83 = .ok (.getfield 122, 3) := by decide +kernel
theorem dX11_enter_86 : decode cX11_enter 86 = .ok (.iload_n 1, 1) := by decide +kernel
theorem dX11_enter_87 : decode cX11_enter 87 = .ok (.iload_n 2, 1) := by decide +kernel
theorem dX11_enter_88 : decode cX11_enter 88 = .ok (.iastore, 1) := by decide +kernel
theorem dX11_enter_89 : decode cX11_enter 89 = .ok (.aload_n 0, 1) := by decide +kernel
theorem dX11_enter_90 : decode cX11_enter 90 = .ok (.iload_n 1, 1) := by decide +kernel
theorem dX11_enter_91 : decode cX11_enter 91 = .ok (.aload_n 0, 1) := by decide +kernel
theorem dX11_enter_92 : decode cX11_enter 92 = .ok (.getfield 13, 3) := by decide +kernel
theorem dX11_enter_95 : decode cX11_enter 95 = .ok (.iload_n 2, 1) := by decide +kernel
theorem dX11_enter_96 : decode cX11_enter 96 = .ok (.iaload, 1) := by decide +kernel
theorem dX11_enter_97 : decode cX11_enter 97 = .ok (.iconst 1, 1) := by decide +kernel
theorem dX11_enter_98 : decode cX11_enter 98 = .ok (.if_icmp .ne 7, 3) := by decide +kernel
theorem dX11_enter_101 : decode cX11_enter 101 = .ok (.iconst 2, 1) := by decide +kernel
theorem dX11_enter_102 : decode cX11_enter 102 = .ok (.goto 4, 3) := by decide +kernel
theorem dX11_enter_105 : decode cX11_enter 105 = .ok (.iconst 3, 1) := by decide +kernel
theorem dX11_enter_106 : decode cX11_enter 106 = .ok (.invokevirtual 219, 3) := by decide +kernel
theorem dX11_enter_109 : decode cX11_enter 109 = .ok (.goto 225, 3) := by decide +kernel
theorem dX11_enter_112 : decode cX11_enter 112 = .ok (.iload_n 2, 1) := by decide +kernel
theorem dX11_enter_113 : decode cX11_enter 113 = .ok (.i2l, 1) := by decide +kernel
theorem dX11_enter_114 : decode cX11_enter 114 = .ok (.ldc2_w 204, 3) := by decide +kernel
theorem dX11_enter_117 : decode cX11_enter 117 = .ok (.ldc2_w 229, 3) := by decide +kernel
theorem dX11_enter_120 : decode cX11_enter 120 = .ok (.invokestatic 174, 3) := by decide +kernel
theorem dX11_enter_123 : decode cX11_enter 123 = .ok (.ifCond .ne 5, 3) := by decide +kernel
theorem dX11_enter_126 : decode cX11_enter 126 = .ok (.iconst (-1), 1) := by decide +kernel
theorem dX11_enter_127 : decode cX11_enter 127 = .ok (.ireturn, 1) := by decide +kernel
theorem dX11_enter_128 : decode cX11_enter 128 = .ok (.aload_n 0, 1) := by decide +kernel
theorem dX11_enter_129 : decode cX11_enter 129 = .ok (.getfield 125, 3) := by decide +kernel
theorem dX11_enter_132 : decode cX11_enter 132 = .ok (.iload_n 1, 1) := by decide +kernel
theorem dX11_enter_133 : decode cX11_enter 133 = .ok (.iload_n 2, 1) := by decide +kernel
theorem dX11_enter_134 : decode cX11_enter 134 = .ok (.iastore, 1) := by decide +kernel
theorem dX11_enter_135 : decode cX11_enter 135 = .ok (.aload_n 0, 1) := by decide +kernel
theorem dX11_enter_136 : decode cX11_enter 136 = .ok (.iload_n 1, 1) := by decide +kernel
theorem dX11_enter_137 : decode cX11_enter 137 = .ok (.iconst 3, 1) := by decide +kernel
theorem dX11_enter_138 : decode cX11_enter 138 = .ok (.invokevirtual 219, 3) := by decide +kernel
theorem dX11_enter_141 : decode cX11_enter 141 = .ok (.goto 193, 3) := by decide +kernel
theorem dX11_enter_144 : decode cX11_enter 144 = .ok (.iload_n 2, 1) := by decide +kernel
theorem dX11_enter_145 : decode cX11_enter 145 = .ok (.i2l, 1) := by decide +kernel
theorem dX11_enter_146 : decode cX11_enter 146 = .ok (.aload_n 0, 1) := by decide +kernel
theorem dX11_enter_147 : decode cX11_enter 147 = .ok (.getfield 20, 3) := by decide +kernel
theorem dX11_enter_150 : decode cX11_enter 150 = .ok (.iload_n 3, 1) := by decide +kernel
theorem dX11_enter_151 : decode cX11_enter 151 = .ok (.iaload, 1) := by decide +kernel
theorem dX11_enter_152 : decode cX11_enter 152 = .ok (.i2l, 1) := by decide +kernel
theorem dX11_enter_153 : decode cX11_enter 153 = .ok (.aload_n 0, 1) := by decide +kernel
theorem dX11_enter_154 : decode cX11_enter 154 = .ok (.getfield 29, 3) := by decide +kernel
theorem dX11_enter_157 : decode cX11_enter 157 = .ok (.iload_n 3, 1) := by decide +kernel
theorem dX11_enter_158 : decode cX11_enter 158 = .ok (.iaload, 1) := by decide +kernel
theorem dX11_enter_159 : decode cX11_enter 159 = .ok (.i2l, 1) := by decide +kernel
theorem dX11_enter_160 : decode cX11_enter 160 = .ok (.invokestatic 174, 3) := by decide +kernel
theorem dX11_enter_163 : decode cX11_enter 163 = .ok (.ifCond .eq 25, 3) := by decide +kernel
theorem dX11_enter_166 : decode cX11_enter 166 = .ok (.aload_n 0, 1) := by decide +kernel
theorem dX11_enter_167 : decode cX11_enter 167 = .ok (.iload_n 3, 1) := by decide +kernel
theorem dX11_enter_168 : decode cX11_enter 168 = .ok (.iload_n 2, 1) := by decide +kernel
theorem dX11_enter_169 : decode cX11_enter 169 = .ok (.aload_n 0, 1) := by decide +kernel
theorem dX11_enter_170 : decode cX11_enter 170 = .ok (.getfield 125, 3) := by decide +kernel
theorem dX11_enter_173 : decode cX11_enter 173 = .ok (.iload_n 1, 1) := by decide +kernel
theorem dX11_enter_174 : decode cX11_enter 174 = .ok (.iaload, 1) := by decide +kernel
theorem dX11_enter_175 : decode cX11_enter 175 = .ok (.invokevirtual 231, 3) := by decide +kernel
theorem dX11_enter_178 : decode cX11_enter 178 = .ok (.lconst 1, 1) := by decide +kernel
theorem dX11_enter_179 : decode cX11_enter 179 = .ok (.ldc2_w 235, 3) := by decide +kernel
theorem dX11_enter_182 : decode cX11_enter 182 = .ok (.invokestatic 174, 3) := by decide +kernel
theorem dX11_enter_185 : decode cX11_enter 185 = .ok (.ifCond .ne 18, 3) := by decide +kernel
theorem dX11_enter_188 : decode cX11_enter 188 = .ok (.aload_n 0, 1) := by decide +kernel
theorem dX11_enter_189 : decode cX11_enter 189 = .ok (.iconst 1, 1) := by decide +kernel
theorem dX11_enter_190 : decode cX11_enter 190 = .ok (.iload_n 1, 1) := by decide +kernel
theorem dX11_enter_191 : decode cX11_enter 191 = .ok (.iload_n 2, 1) := by decide +kernel
theorem dX11_enter_192 : decode cX11_enter 192 = .ok (.invokevirtual 215, 3) := by decide +kernel
theorem dX11_enter_195 : decode cX11_enter 195 = .ok (.aload_n 0, 1) := by decide +kernel
theorem dX11_enter_196 : decode cX11_enter 196 = .ok (.iload_n 1, 1) := by decide +kernel
theorem dX11_enter_197 : decode cX11_enter 197 = .ok (.invokevirtual 212, 3) := by decide +kernel
theorem dX11_enter_200 : decode cX11_enter 200 = .ok (.bipush (-2), 2) := by decide +kernel
theorem dX11_enter_202 : decode cX11_enter 202 = .ok (.ireturn, 1) := by decide +kernel
theorem dX11_enter_203 : decode cX11_enter 203 = .ok (.aload_n 0, 1) := by decide +kernel
theorem dX11_enter_204 : decode cX11_enter 204 = .ok (.getfield 128, 3) := by decide +kernel
theorem dX11_enter_207 : decode cX11_enter 207 = .ok (.iload_n 1, 1) := by decide +kernel
theorem dX11_enter_208 : decode cX11_enter 208 = .ok (.iload_n 2, 1) := by decide +kernel
theorem dX11_enter_209 : decode cX11_enter 209 = .ok (.iastore, 1) := by decide +kernel
theorem dX11_enter_210 : decode cX11_enter 210 = .ok (.aload_n 0, 1) := by decide +kernel
theorem dX11_enter_211 : decode cX11_enter 211 = .ok (.iload_n 1, 1) := by decide +kernel
theorem dX11_enter_212 : decode cX11_enter 212 = .ok (.iload_n 2, 1) := by decide +kernel
theorem dX11_enter_213 : decode cX11_enter 213 = .ok (.i2l, 1) := by decide +kernel
theorem dX11_enter_214 : decode cX11_enter 214 = .ok (.aload_n 0, 1) := by decide +kernel
theorem dX11_enter_215 : decode cX11_enter 215 = .ok (.getfield 23, 3) := by decide +kernel
theorem dX11_enter_218 : decode cX11_enter 218 = .ok (.iload_n 3, 1) := by decide +kernel
theorem dX11_enter_219 : decode cX11_enter 219 = .ok (.iaload, 1) := by decide +kernel
theorem dX11_enter_220 : decode cX11_enter 220 = .ok (.i2l, 1) := by decide +kernel
theorem dX11_enter_221 : decode cX11_enter 221 = .ok (.aload_n 0, 1) := by decide +kernel
theorem dX11_enter_222 : decode cX11_enter 222 = .ok (.getfield 26, 3) := by decide +kernel
theorem dX11_enter_225 : decode cX11_enter 225 = .ok (.iload_n 3, 1) := by decide +kernel
theorem dX11_enter_226 : decode cX11_enter 226 = .ok (.iaload, 1) := by decide +kernel
theorem dX11_enter_227 : decode cX11_enter 227 = .ok (.i2l, 1) := by decide +kernel
theorem dX11_enter_228 : decode cX11_enter 228 = .ok (.invokestatic 174, 3) := by decide +kernel
theorem dX11_enter_231 : decode cX11_enter 231 = .ok (.ifCond .eq 7, 3) := by decide +kernel
theorem dX11_enter_234 : decode cX11_enter 234 = .ok (.iconst 4, 1) := by decide +kernel
theorem dX11_enter_235 : decode cX11_enter 235 = .ok (.goto 4, 3) := by decide +kernel
theorem dX11_enter_238 : decode cX11_enter 238 = .ok (.iconst 5, 1) := by decide +kernel
theorem dX11_enter_239 : decode cX11_enter 239 = .ok (.invokevirtual 219, 3) := by decide +kernel
theorem dX11_enter_242 : decode cX11_enter 242 = .ok (.goto 92, 3) := by decide +kernel
theorem dX11_enter_245 : decode cX11_enter 245 = .ok (.aload_n 0, 1) := by decide +kernel
theorem dX11_enter_246 : decode cX11_enter 246 = .ok (.iload_n 1, 1) := by decide +kernel
theorem dX11_enter_247 : decode cX11_enter 247 = .ok (.bipush 6, 2) := by decide +kernel
theorem dX11_enter_249 : decode cX11_enter 249 = .ok (.invokevirtual 219, 3) := by decide +kernel
theorem dX11_enter_252 : decode cX11_enter 252 = .ok (.aload_n 0, 1) := by decide +kernel
theorem dX11_enter_253 : decode cX11_enter 253 = .ok (.getfield 53, 3) := by decide +kernel
theorem dX11_enter_256 : decode cX11_enter 256 = .ok (.iload_n 1, 1) := by decide +kernel
theorem dX11_enter_257 : decode cX11_enter 257 = .ok (.iload_n 3, 1) := by decide +kernel
theorem dX11_enter_258 : decode cX11_enter 258 = .ok (.iastore, 1) := by decide +kernel
theorem dX11_enter_259 : decode cX11_enter 259 = .ok (.aload_n 0, 1) := by decide +kernel
theorem dX11_enter_260 : decode cX11_enter 260 = .ok (.getfield 56, 3) := by decide +kernel
theorem dX11_enter_263 : decode cX11_enter 263 = .ok (.iload_n 1, 1) := by decide +kernel
theorem dX11_enter_264 : decode cX11_enter 264 = .ok (.aload_n 0, 1) := by decide +kernel
theorem dX11_enter_265 : decode cX11_enter 265 = .ok (.iload_n 3, 1) := by decide +kernel
theorem dX11_enter_266 : decode cX11_enter 266 = .ok (.aload_n 0, 1) := by decide +kernel
theorem dX11_enter_267 : decode cX11_enter 267 = .ok (.getfield 128, 3) := by decide +kernel
theorem dX11_enter_270 : decode cX11_enter 270 = .ok (.iload_n 1, 1) := by decide +kernel
theorem dX11_enter_271 : decode cX11_enter 271 = .ok (.iaload, 1) := by decide +kernel
theorem dX11_enter_272 : decode cX11_enter 272 = .ok (.aload_n 0, 1) := by decide +kernel
theorem dX11_enter_273 : decode cX11_enter 273 = .ok (.getfield 125, 3) := by decide +kernel
theorem dX11_enter_276 : decode cX11_enter 276 = .ok (.iload_n 1, 1) := by decide +kernel
theorem dX11_enter_277 : decode cX11_enter 277 = .ok (.iaload, 1) := by decide +kernel
theorem dX11_enter_278 : decode cX11_enter 278 = .ok (.invokevirtual 231, 3) := by decide +kernel
theorem dX11_enter_281 : decode cX11_enter 281 = .ok (.l2i, 1) := by decide +kernel
theorem dX11_enter_282 : decode cX11_enter 282 = .ok (.iastore, 1) := by decide +kernel
theorem dX11_enter_283 : decode cX11_enter 283 = .ok (.aload_n 0, 1) := by decide +kernel
theorem dX11_enter_284 : decode cX11_enter 284 = .ok (.getfield 59, 3) := by decide +kernel
theorem dX11_enter_287 : decode cX11_enter 287 = .ok (.iload_n 1, 1) := by decide +kernel
theorem dX11_enter_288 : decode cX11_enter 288 = .ok (.iload_n 2, 1) := by decide +kernel
theorem dX11_enter_289 : decode cX11_enter 289 = .ok (.ifCond .ne 7, 3) := by decide +kernel
theorem dX11_enter_292 : decode cX11_enter 292 = .ok (.iconst (-1), 1) := by decide +kernel
theorem dX11_enter_293 : decode cX11_enter 293 = .ok (.goto 7, 3) := by decide +kernel
theorem dX11_enter_296 : decode cX11_enter 296 = .ok (.bipush 10, 2) := by decide +kernel
theorem dX11_enter_298 : decode cX11_enter 298 = .ok (.iload_n 2, 1) := by decide +kernel
theorem dX11_enter_299 : decode cX11_enter 299 = .ok (.imul, 1) := by decide +kernel
theorem dX11_enter_300 : decode cX11_enter 300 = .ok (.iastore, 1) := by decide +kernel
theorem dX11_enter_301 : decode cX11_enter 301 = .ok (.aload_n 0, 1) := by decide +kernel
theorem dX11_enter_302 : decode cX11_enter 302 = .ok (.getfield 62, 3) := by decide +kernel
theorem dX11_enter_305 : decode cX11_enter 305 = .ok (.iload_n 1, 1) := by decide +kernel
theorem dX11_enter_306 : decode cX11_enter 306 = .ok (.iconst 0, 1) := by decide +kernel
theorem dX11_enter_307 : decode cX11_enter 307 = .ok (.iastore, 1) := by decide +kernel
theorem dX11_enter_308 : decode cX11_enter 308 = .ok (.aload_n 0, 1) := by decide +kernel
theorem dX11_enter_309 : decode cX11_enter 309 = .ok (.getfield 65, 3) := by decide +kernel
theorem dX11_enter_312 : decode cX11_enter 312 = .ok (.iload_n 1, 1) := by decide +kernel
theorem dX11_enter_313 : decode cX11_enter 313 = .ok (.iconst 0, 1) := by decide +kernel
theorem dX11_enter_314 : decode cX11_enter 314 = .ok (.iastore, 1) := by decide +kernel
theorem dX11_enter_315 : decode cX11_enter 315 = .ok (.aload_n 0, 1) := by decide +kernel
theorem dX11_enter_316 : decode cX11_enter 316 = .ok (.getfield 68, 3) := by decide +kernel
theorem dX11_enter_319 : decode cX11_enter 319 = .ok (.iload_n 1, 1) := by decide +kernel
theorem dX11_enter_320 : decode cX11_enter 320 = .ok (.iconst 0, 1) := by decide +kernel
theorem dX11_enter_321 : decode cX11_enter 321 = .ok (.iastore, 1) := by decide +kernel
theorem dX11_enter_322 : decode cX11_enter 322 = .ok (.aload_n 0, 1) := by decide +kernel
theorem dX11_enter_323 : decode cX11_enter 323 = .ok (.iconst 0, 1) := by decide +kernel
theorem dX11_enter_324 : decode cX11_enter 324 = .ok (.iload_n 1, 1) := by decide +kernel
theorem dX11_enter_325 : decode cX11_enter 325 = .ok (.aload_n 0, 1) := by decide +kernel
theorem dX11_enter_326 : decode cX11_enter 326 = .ok (.getfield 56, 3) := by decide +kernel
theorem dX11_enter_329 : decode cX11_enter 329 = .ok (.iload_n 1, 1) := by decide +kernel
theorem dX11_enter_330 : decode cX11_enter 330 = .ok (.iaload, 1) := by decide +kernel
theorem dX11_enter_331 : decode cX11_enter 331 = .ok (.invokevirtual 215, 3) := by decide +kernel
theorem dX11_enter_334 : decode cX11_enter 334 = .ok (.iconst 0, 1) := by decide +kernel
theorem dX11_enter_335 : decode cX11_enter 335 = .ok (.ireturn, 1) := by decide +kernel
theorem dX11_mayRun_0 : decode cX11_mayRun 0 = .ok (.aload_n 0, 1) := by decide +kernel
theorem dX11_mayRun_1 : decode cX11_mayRun 1 = .ok (.getfield 47, 3) := by decide +kernel
theorem dX11_mayRun_4 : decode cX11_mayRun 4 = .ok (.iload_n 1, 1) := by decide +kernel
theorem dX11_mayRun_5 : decode cX11_mayRun 5 = .ok (.iaload, 1) := by decide +kernel
theorem dX11_mayRun_6 : decode cX11_mayRun 6 = .ok (.bipush 6, 2) := by decide +kernel
theorem dX11_mayRun_8 : decode cX11_mayRun 8 = .ok (.if_icmp .eq 14, 3) := by decide +kernel
theorem dX11_mayRun_11 : decode cX11_mayRun 11 = .ok (.aload_n 0, 1) := by decide +kernel
theorem dX11_mayRun_12 : decode cX11_mayRun 12 = .ok (.getfield 47, 3) := by decide +kernel
theorem dX11_mayRun_15 : decode cX11_mayRun 15 = .ok (.iload_n 1, 1) := by decide +kernel
theorem dX11_mayRun_16 : decode cX11_mayRun 16 = .ok (.iaload, 1) := by decide +kernel
theorem dX11_mayRun_17 : decode cX11_mayRun 17 = .ok (.bipush 8, 2) := by decide +kernel
theorem dX11_mayRun_19 : decode cX11_mayRun 19 = .ok (.if_icmp .ne 28, 3) := by decide +kernel
theorem dX11_mayRun_22 : decode cX11_mayRun 22 = .ok (.aload_n 0, 1) := by decide +kernel
theorem dX11_mayRun_23 : decode cX11_mayRun 23 = .ok (.getfield 92, 3) := by decide +kernel
theorem dX11_mayRun_26 : decode cX11_mayRun 26 = .ok (.iload_n 1, 1) := by decide +kernel
theorem dX11_mayRun_27 : decode cX11_mayRun 27 = .ok (.iaload, 1) := by decide +kernel
theorem dX11_mayRun_28 : decode cX11_mayRun 28 = .ok (.bipush 31, 2) := by decide +kernel
theorem dX11_mayRun_30 : decode cX11_mayRun 30 = .ok (.iand, 1) := by decide +kernel
theorem dX11_mayRun_31 : decode cX11_mayRun 31 = .ok (.ifCond .ne 16, 3) := by decide +kernel
theorem dX11_mayRun_34 : decode cX11_mayRun 34 = .ok (.aload_n 0, 1) := by decide +kernel
theorem dX11_mayRun_35 : decode cX11_mayRun 35 = .ok (.getfield 80, 3) := by decide +kernel
theorem dX11_mayRun_38 : decode cX11_mayRun 38 = .ok (.iload_n 1, 1) := by decide +kernel
theorem dX11_mayRun_39 : decode cX11_mayRun 39 = .ok (.baload, 1) := by decide +kernel
theorem dX11_mayRun_40 : decode cX11_mayRun 40 = .ok (.ifCond .ne 7, 3) := by decide +kernel
theorem dX11_mayRun_43 : decode cX11_mayRun 43 = .ok (.iconst 1, 1) := by decide +kernel
theorem dX11_mayRun_44 : decode cX11_mayRun 44 = .ok (.goto 4, 3) := by decide +kernel
theorem dX11_mayRun_47 : decode cX11_mayRun 47 = .ok (.iconst 0, 1) := by decide +kernel
theorem dX11_mayRun_48 : decode cX11_mayRun 48 = .ok (.ireturn, 1) := by decide +kernel
set_option maxRecDepth 20000 in
theorem ggX11_run_X11_mayRun : GoodIn wsX11_run wsX11_mayRun := goodIn_r _ [8, 1, 9, 10, 24, 25, 26, 27, 28, 29, 30, 31, 32, 33, 34, 35, 36, 37, 38, 39, 40, 41, 42, 43, 44, 45, 46, 47, 48, 49, 50, 51, 52, 53, 54, 55, 56, 57, 58, 59, 60, 61, 62, 63, 64, 65, 66, 67, 68, 69, 70, 71, 72, 73, 74, 75, 76] (by decide +kernel) (by decide +kernel)
set_option maxRecDepth 20000 in
theorem gX11_run_X11_mayRun : GoodIn wsX11_run (wsV RX11 237 RX11 yX11_mayRun wsX11_mayRun) := goodIn_app (goodIn_of _ (by decide +kernel)) ggX11_run_X11_mayRun
set_option maxRecDepth 20000 in
theorem ggX11_run_X11_note : GoodIn wsX11_run wsX11_note := goodIn_r _ [14, 15, 16, 17, 18, 19, 20, 7, 21, 22, 23, 24, 25, 26, 27, 28, 29, 30, 31, 32, 33, 34, 35, 36, 37, 38, 39, 40, 41, 42, 43, 44, 45, 46, 47, 48, 49, 50, 51, 52, 53, 54, 55, 56, 57, 58, 59, 60, 61, 62, 63, 64, 65, 66, 67, 68, 69, 70, 71, 72, 73, 74, 75, 76] (by decide +kernel) (by decide +kernel)
set_option maxRecDepth 20000 in
theorem gX11_run_X11_note : GoodIn wsX11_run (wsV RX11 215 RX11 yX11_note wsX11_note) := goodIn_app (goodIn_of _ (by decide +kernel)) ggX11_run_X11_note
theorem dX11_run_0 : decode cX11_run 0 = .ok (.aload_n 0, 1) := by decide +kernel
theorem dX11_run_1 : decode cX11_run 1 = .ok (.iload_n 1, 1) := by decide +kernel
theorem dX11_run_2 : decode cX11_run 2 = .ok (.invokevirtual 237, 3) := by decide +kernel
theorem dX11_run_5 : decode cX11_run 5 = .ok (.ifCond .ne 5, 3) := by decide +kernel
theorem dX11_run_8 : decode cX11_run 8 = .ok (.iconst 0, 1) := by decide +kernel
theorem dX11_run_9 : decode cX11_run 9 = .ok (.ireturn, 1) := by decide +kernel
theorem dX11_run_10 : decode cX11_run 10 = .ok (.aload_n 0, 1) := by decide +kernel
theorem dX11_run_11 : decode cX11_run 11 = .ok (.getfield 47, 3) := by decide +kernel
theorem dX11_run_14 : decode cX11_run 14 = .ok (.iload_n 1, 1) := by decide +kernel
theorem dX11_run_15 : decode cX11_run 15 = .ok (.bipush 7, 2) := by decide +kernel
theorem dX11_run_17 : decode cX11_run 17 = .ok (.iastore, 1) := by decide +kernel
theorem dX11_run_18 : decode cX11_run 18 = .ok (.aload_n 0, 1) := by decide +kernel
theorem dX11_run_19 : decode cX11_run 19 = .ok (.getfield 95, 3) := by decide +kernel
theorem dX11_run_22 : decode cX11_run 22 = .ok (.iload_n 1, 1) := by decide +kernel
theorem dX11_run_23 : decode cX11_run 23 = .ok (.iconst 0, 1) := by decide +kernel
theorem dX11_run_24 : decode cX11_run 24 = .ok (.bastore, 1) := by decide +kernel
theorem dX11_run_25 : decode cX11_run 25 = .ok (.aload_n 0, 1) := by decide +kernel
theorem dX11_run_26 : decode cX11_run 26 = .ok (.iconst 3, 1) := by decide +kernel
theorem dX11_run_27 : decode cX11_run 27 = .ok (.iload_n 1, 1) := by decide +kernel
theorem dX11_run_28 : decode cX11_run 28 = .ok (.aload_n 0, 1) := by decide +kernel
theorem dX11_run_29 : decode cX11_run 29 = .ok (.getfield 56, 3) := by decide +kernel
theorem dX11_run_32 : decode cX11_run 32 = .ok (.iload_n 1, 1) := by decide +kernel
theorem dX11_run_33 : decode cX11_run 33 = .ok (.iaload, 1) := by decide +kernel
theorem dX11_run_34 : decode cX11_run 34 = .ok (.invokevirtual 215, 3) := by decide +kernel
theorem dX11_run_37 : decode cX11_run 37 = .ok (.iconst 1, 1) := by decide +kernel
theorem dX11_run_38 : decode cX11_run 38 = .ok (.ireturn, 1) := by decide +kernel
set_option maxRecDepth 20000 in
theorem ggX11_stop_X11_note : GoodIn wsX11_stop wsX11_note := goodIn_r _ [8, 9, 10, 11, 12, 13, 14, 7, 15, 16, 17, 38, 39, 40, 41, 42, 43, 44, 45, 46, 47, 48, 49, 50, 51, 52, 53, 54, 55, 56, 57, 58, 59, 60, 61, 62, 63, 64, 65, 66, 67, 68, 69, 70, 71, 72, 73, 74, 75, 76, 77, 78, 79, 80, 81, 82, 83, 84, 85, 86, 87, 88, 89, 90] (by decide +kernel) (by decide +kernel)
set_option maxRecDepth 20000 in
theorem gX11_stop_X11_note : GoodIn wsX11_stop (wsV RX11 215 RX11 yX11_note wsX11_note) := goodIn_app (goodIn_of _ (by decide +kernel)) ggX11_stop_X11_note
set_option maxRecDepth 20000 in
theorem ggX11_stop_X11_isEntry : GoodIn wsX11_stop wsX11_isEntry := goodIn_r _ [21, 1, 38, 39, 40, 41, 42, 43, 44, 45, 46, 47, 48, 49, 50, 51, 52, 53, 54, 55, 56, 57, 58, 59, 60, 61, 62, 63, 64, 65, 66, 67, 68, 69, 70, 71, 72, 73, 74, 75, 76, 77, 78, 79, 80, 81, 82, 83, 84, 85, 86, 87, 88, 89, 90] (by decide +kernel) (by decide +kernel)
set_option maxRecDepth 20000 in
theorem gX11_stop_X11_isEntry : GoodIn wsX11_stop (wsV RX11 240 RX11 yX11_isEntry wsX11_isEntry) := goodIn_app (goodIn_of _ (by decide +kernel)) ggX11_stop_X11_isEntry
set_option maxRecDepth 20000 in
theorem ggX11_stop_X11_drop : GoodIn wsX11_stop wsX11_drop := goodIn_r _ [25, 1, 26, 4, 5, 6, 7, 8, 9, 10, 11, 12, 13, 14, 15, 16, 17, 27, 28, 29, 30, 31, 32, 33, 34, 35, 36, 37, 38, 39, 40, 41, 42, 43, 44, 45, 46, 47, 48, 49, 50, 51, 52, 53, 54, 55, 56, 57, 58, 59, 60, 61, 62, 63, 64, 65, 66, 67, 68, 69, 70, 71, 72, 73, 74, 75, 76, 77, 78, 79, 80, 81, 82, 83, 84, 85, 86, 87, 88, 89, 90] (by decide +kernel) (by decide +kernel)
set_option maxRecDepth 20000 in
theorem gX11_stop_X11_drop : GoodIn wsX11_stop (wsV RX11 223 RX11 yX11_drop wsX11_drop) := goodIn_app (goodIn_of _ (by decide +kernel)) ggX11_stop_X11_drop
theorem dX11_stop_0 : decode cX11_stop 0 = .ok (.aload_n 0, 1) := by decide +kernel
theorem dX11_stop_1 : decode cX11_stop 1 = .ok (.getfield 47, 3) := by decide +kernel
theorem dX11_stop_4 : decode cX11_stop 4 = .ok (.iload_n 1, 1) := by decide +kernel
theorem dX11_stop_5 : decode cX11_stop 5 = .ok (.iaload, 1) := by decide +kernel
theorem dX11_stop_6 : decode cX11_stop 6 = .ok (.bipush 7, 2) := by decide +kernel
theorem dX11_stop_8 : decode cX11_stop 8 = .ok (.if_icmp .ne 32, 3) := by decide +kernel
theorem dX11_stop_11 : decode cX11_stop 11 = .ok (.aload_n 0, 1) := by decide +kernel
theorem dX11_stop_12 : decode cX11_stop 12 = .ok (.getfield 47, 3) := by decide +kernel
theorem dX11_stop_15 : decode cX11_stop 15 = .ok (.iload_n 1, 1) := by decide +kernel
theorem dX11_stop_16 : decode cX11_stop 16 = .ok (.bipush 8, 2) := by decide +kernel
theorem dX11_stop_18 : decode cX11_stop 18 = .ok (.iastore, 1) := by decide +kernel
theorem dX11_stop_19 : decode cX11_stop 19 = .ok (.aload_n 0, 1) := by decide +kernel
theorem dX11_stop_20 : decode cX11_stop 20 = .ok (.getfield 68, 3) := by decide +kernel
theorem dX11_stop_23 : decode cX11_stop 23 = .ok (.iload_n 1, 1) := by decide +kernel
theorem dX11_stop_24 : decode cX11_stop 24 = .ok (.iconst 0, 1) := by decide +kernel
theorem dX11_stop_25 : decode cX11_stop 25 = .ok (.iastore, 1) := by decide +kernel
theorem dX11_stop_26 : decode cX11_stop 26 = .ok (.aload_n 0, 1) := by decide +kernel
theorem dX11_stop_27 : decode cX11_stop 27 = .ok (.iconst 4, 1) := by decide +kernel
theorem dX11_stop_28 : decode cX11_stop 28 = .ok (.iload_n 1, 1) := by decide +kernel
theorem dX11_stop_29 : decode cX11_stop 29 = .ok (.aload_n 0, 1) := by decide +kernel
theorem dX11_stop_30 : decode cX11_stop 30 = .ok (.getfield 62, 3) := by decide +kernel
theorem dX11_stop_33 : decode cX11_stop 33 = .ok (.iload_n 1, 1) := by decide +kernel
theorem dX11_stop_34 : decode cX11_stop 34 = .ok (.iaload, 1) := by decide +kernel
theorem dX11_stop_35 : decode cX11_stop 35 = .ok (.invokevirtual 215, 3) := by decide +kernel
theorem dX11_stop_38 : decode cX11_stop 38 = .ok (.iconst 1, 1) := by decide +kernel
theorem dX11_stop_39 : decode cX11_stop 39 = .ok (.ireturn, 1) := by decide +kernel
theorem dX11_stop_40 : decode cX11_stop 40 = .ok (.aload_n 0, 1) := by decide +kernel
theorem dX11_stop_41 : decode cX11_stop 41 = .ok (.iload_n 1, 1) := by decide +kernel
theorem dX11_stop_42 : decode cX11_stop 42 = .ok (.invokevirtual 240, 3) := by decide +kernel
theorem dX11_stop_45 : decode cX11_stop 45 = .ok (.ifCond .ne 5, 3) := by decide +kernel
theorem dX11_stop_48 : decode cX11_stop 48 = .ok (.iconst 0, 1) := by decide +kernel
theorem dX11_stop_49 : decode cX11_stop 49 = .ok (.ireturn, 1) := by decide +kernel
theorem dX11_stop_50 : decode cX11_stop 50 = .ok (.aload_n 0, 1) := by decide +kernel
theorem dX11_stop_51 : decode cX11_stop 51 = .ok (.iload_n 1, 1) := by decide +kernel
theorem dX11_stop_52 : decode cX11_stop 52 = .ok (.invokevirtual 223, 3) := by decide +kernel
theorem dX11_stop_55 : decode cX11_stop 55 = .ok (.iconst 1, 1) := by decide +kernel
theorem dX11_stop_56 : decode cX11_stop 56 = .ok (.ireturn, 1) := by decide +kernel
set_option maxRecDepth 20000 in
theorem ggX11_begin_X11_go : GoodIn wsX11_begin wsX11_go := goodIn_r _ [8, 1, 9, 10, 11, 7, 12, 13, 14, 15, 16, 17, 18, 19, 20, 21, 22, 23, 24, 25, 26, 27, 28, 29, 30, 31, 32, 33, 34, 35, 36, 37, 38, 39, 40, 41, 42, 43, 44, 45, 46, 47, 48, 49, 50, 51, 52, 53, 54, 55, 56, 57, 58, 59, 60, 61, 62, 63, 64, 65, 66, 67, 68] (by decide +kernel) (by decide +kernel)
set_option maxRecDepth 20000 in
theorem gX11_begin_X11_go : GoodIn wsX11_begin (wsV RX11 219 RX11 yX11_go wsX11_go) := goodIn_app (goodIn_of _ (by decide +kernel)) ggX11_begin_X11_go
theorem dX11_begin_0 : decode cX11_begin 0 = .ok (.aload_n 0, 1) := by decide +kernel
theorem dX11_begin_1 : decode cX11_begin 1 = .ok (.getfield 47, 3) := by decide +kernel
theorem dX11_begin_4 : decode cX11_begin 4 = .ok (.iload_n 1, 1) := by decide +kernel
theorem dX11_begin_5 : decode cX11_begin 5 = .ok (.iaload, 1) := by decide +kernel
theorem dX11_begin_6 : decode cX11_begin 6 = .ok (.ifCond .eq 27, 3) := by decide +kernel
theorem dX11_begin_9 : decode cX11_begin 9 = .ok (.aload_n 0, 1) := by decide +kernel
theorem dX11_begin_10 : decode cX11_begin 10 = .ok (.getfield 47, 3) := by decide +kernel
theorem dX11_begin_13 : decode cX11_begin 13 = .ok (.iload_n 1, 1) := by decide +kernel
theorem dX11_begin_14 : decode cX11_begin 14 = .ok (.iaload, 1) := by decide +kernel
theorem dX11_begin_15 : decode cX11_begin 15 = .ok (.bipush 6, 2) := by decide +kernel
theorem dX11_begin_17 : decode cX11_begin 17 = .ok (.if_icmp .eq 16, 3) := by decide +kernel
theorem dX11_begin_20 : decode cX11_begin 20 = .ok (.aload_n 0, 1) := by decide +kernel
theorem dX11_begin_21 : decode cX11_begin 21 = .ok (.getfield 47, 3) := by decide +kernel
theorem dX11_begin_24 : decode cX11_begin 24 = .ok (.iload_n 1, 1) := by decide +kernel
theorem dX11_begin_25 : decode cX11_begin 25 = .ok (.iaload, 1) := by decide +kernel
theorem dX11_begin_26 : decode cX11_begin 26 = .ok (.bipush 8, 2) := by decide +kernel
theorem dX11_begin_28 : decode cX11_begin 28 = .ok (.if_icmp .eq 5, 3) := by decide +kernel
theorem dX11_begin_31 : decode cX11_begin 31 = .ok (.iconst 0, 1) := by decide +kernel
theorem dX11_begin_32 : decode cX11_begin 32 = .ok (.ireturn, 1) := by decide +kernel
theorem dX11_begin_33 : decode cX11_begin 33 = .ok (.aload_n 0, 1) := by decide +kernel
theorem dX11_begin_34 : decode cX11_begin 34 = .ok (.getfield 50, 3) := by decide +kernel
theorem dX11_begin_37 : decode cX11_begin 37 = .ok (.iload_n 1, 1) := by decide +kernel
theorem dX11_begin_38 : decode cX11_begin 38 = .ok (.aload_n 0, 1) := by decide +kernel
theorem dX11_begin_39 : decode cX11_begin 39 = .ok (.getfield 47, 3) := by decide +kernel
theorem dX11_begin_42 : decode cX11_begin 42 = .ok (.iload_n 1, 1) := by decide +kernel
theorem dX11_begin_43 : decode cX11_begin 43 = .ok (.iaload, 1) := by decide +kernel
theorem dX11_begin_44 : decode cX11_begin 44 = .ok (.iastore, 1) := by decide +kernel
theorem dX11_begin_45 : decode cX11_begin 45 = .ok (.aload_n 0, 1) := by decide +kernel
theorem dX11_begin_46 : decode cX11_begin 46 = .ok (.iload_n 1, 1) := by decide +kernel
theorem dX11_begin_47 : decode cX11_begin 47 = .ok (.iconst 1, 1) := by decide +kernel
theorem dX11_begin_48 : decode cX11_begin 48 = .ok (.invokevirtual 219, 3) := by decide +kernel
theorem dX11_begin_51 : decode cX11_begin 51 = .ok (.aload_n 0, 1) := by decide +kernel
theorem dX11_begin_52 : decode cX11_begin 52 = .ok (.getfield 95, 3) := by decide +kernel
theorem dX11_begin_55 : decode cX11_begin 55 = .ok (.iload_n 1, 1) := by decide +kernel
theorem dX11_begin_56 : decode cX11_begin 56 = .ok (.iconst 0, 1) := by decide +kernel
theorem dX11_begin_57 : decode cX11_begin 57 = .ok (.bastore, 1) := by decide +kernel
theorem dX11_begin_58 : decode cX11_begin 58 = .ok (.iconst 1, 1) := by decide +kernel
theorem dX11_begin_59 : decode cX11_begin 59 = .ok (.ireturn, 1) := by decide +kernel
set_option maxRecDepth 20000 in
theorem ggX11_beginBolus_X11_note : GoodIn wsX11_beginBolus wsX11_note := goodIn_r _ [15, 16, 17, 6, 18, 19, 20, 14, 21, 22, 23, 24, 25, 26, 27, 28, 29, 30, 31, 32, 33, 34, 35, 36, 37, 38, 39, 40, 41, 42, 43, 44, 45, 46, 47, 48, 49, 50, 51, 52, 53, 54, 55, 56, 57, 58, 59, 60, 61, 62, 63, 64, 65, 66, 67, 68, 69, 70, 71, 72, 73, 74, 75, 76] (by decide +kernel) (by decide +kernel)
set_option maxRecDepth 20000 in
theorem gX11_beginBolus_X11_note : GoodIn wsX11_beginBolus (wsV RX11 215 RX11 yX11_note wsX11_note) := goodIn_app (goodIn_of _ (by decide +kernel)) ggX11_beginBolus_X11_note
theorem dX11_beginBolus_0 : decode cX11_beginBolus 0 = .ok (.aload_n 0, 1) := by decide +kernel
theorem dX11_beginBolus_1 : decode cX11_beginBolus 1 = .ok (.getfield 47, 3) := by decide +kernel
theorem dX11_beginBolus_4 : decode cX11_beginBolus 4 = .ok (.iload_n 1, 1) := by decide +kernel
theorem dX11_beginBolus_5 : decode cX11_beginBolus 5 = .ok (.iaload, 1) := by decide +kernel
theorem dX11_beginBolus_6 : decode cX11_beginBolus 6 = .ok (.bipush 7, 2) := by decide +kernel
theorem dX11_beginBolus_8 : decode cX11_beginBolus 8 = .ok (.if_icmp .eq 5, 3) := by decide +kernel
theorem dX11_beginBolus_11 : decode cX11_beginBolus 11 = .ok (.iconst 0, 1) := by decide +kernel
theorem dX11_beginBolus_12 : decode cX11_beginBolus 12 = .ok (.ireturn, 1) := by decide +kernel
theorem dX11_beginBolus_13 : decode cX11_beginBolus 13 = .ok (.aload_n 0, 1) := by decide +kernel
theorem dX11_beginBolus_14 : decode cX11_beginBolus 14 = .ok (.getfield 53, 3) := by decide +kernel
theorem dX11_beginBolus_17 : decode cX11_beginBolus 17 = .ok (.iload_n 1, 1) := by decide +kernel
theorem dX11_beginBolus_18 : decode cX11_beginBolus 18 = .ok (.iaload, 1) := by decide +kernel
theorem dX11_beginBolus_19 : decode cX11_beginBolus 19 = .ok (.istore_n 2, 1) := by decide +kernel
theorem dX11_beginBolus_20 : decode cX11_beginBolus 20 = .ok (.aload_n 0, 1) := by decide +kernel
theorem dX11_beginBolus_21 : decode cX11_beginBolus 21 = .ok (.getfield 35, 3) := by decide +kernel
theorem dX11_beginBolus_24 : decode cX11_beginBolus 24 = .ok (.iload_n 2, 1) := by decide +kernel
theorem dX11_beginBolus_25 : decode cX11_beginBolus 25 = .ok (.iaload, 1) := by decide +kernel
theorem dX11_beginBolus_26 : decode cX11_beginBolus 26 = .ok (.ifCond .le 60, 3) := by decide +kernel
theorem dX11_beginBolus_29 : decode cX11_beginBolus 29 = .ok (.aload_n 0, 1) := by decide +kernel
theorem dX11_beginBolus_30 : decode cX11_beginBolus 30 = .ok (.getfield 68, 3) := by decide +kernel
theorem dX11_beginBolus_33 : decode cX11_beginBolus 33 = .ok (.iload_n 1, 1) := by decide +kernel
theorem dX11_beginBolus_34 : decode cX11_beginBolus 34 = .ok (.iaload, 1) := by decide +kernel
theorem dX11_beginBolus_35 : decode cX11_beginBolus 35 = .ok (.ifCond .ne 51, 3) := by decide +kernel
theorem dX11_beginBolus_38 : decode cX11_beginBolus 38 = .ok (.aload_n 0, 1) := by decide +kernel
theorem dX11_beginBolus_39 : decode cX11_beginBolus 39 = .ok (.getfield 71, 3) := by decide +kernel
theorem dX11_beginBolus_42 : decode cX11_beginBolus 42 = .ok (.iload_n 1, 1) := by decide +kernel
theorem dX11_beginBolus_43 : decode cX11_beginBolus 43 = .ok (.iaload, 1) := by decide +kernel
theorem dX11_beginBolus_44 : decode cX11_beginBolus 44 = .ok (.ifCond .lt 23, 3) := by decide +kernel
theorem dX11_beginBolus_47 : decode cX11_beginBolus 47 = .ok (.aload_n 0, 1) := by decide +kernel
theorem dX11_beginBolus_48 : decode cX11_beginBolus 48 = .ok (.getfield 167, 3) := by decide +kernel
theorem dX11_beginBolus_51 : decode cX11_beginBolus 51 = .ok (.aload_n 0, 1) := by decide +kernel
theorem dX11_beginBolus_52 : decode cX11_beginBolus 52 = .ok (.getfield 71, 3) := by decide +kernel
theorem dX11_beginBolus_55 : decode cX11_beginBolus 55 = .ok (.iload_n 1, 1) := by decide +kernel
theorem dX11_beginBolus_56 : decode cX11_beginBolus 56 = .ok (.iaload, 1) := by decide +kernel
theorem dX11_beginBolus_57 : decode cX11_beginBolus 57 = .ok (.isub, 1) := by decide +kernel
theorem dX11_beginBolus_58 : decode cX11_beginBolus 58 = .ok (.aload_n 0, 1) := by decide +kernel
theorem dX11_beginBolus_59 : decode cX11_beginBolus 59 = .ok (.getfield 41, 3) := by decide +kernel
theorem dX11_beginBolus_62 : decode cX11_beginBolus 62 = .ok (.iload_n 2, 1) := by decide +kernel
theorem dX11_beginBolus_63 : decode cX11_beginBolus 63 = .ok (.iaload, 1) := by decide +kernel
theorem dX11_beginBolus_64 : decode cX11_beginBolus 64 = .ok (.if_icmp .lt 22, 3) := by decide +kernel
theorem dX11_beginBolus_67 : decode cX11_beginBolus 67 = .ok (.aload_n 0, 1) := by decide +kernel
theorem dX11_beginBolus_68 : decode cX11_beginBolus 68 = .ok (.getfield 116, 3) := by decide +kernel
theorem dX11_beginBolus_71 : decode cX11_beginBolus 71 = .ok (.iload_n 1, 1) := by decide +kernel
theorem dX11_beginBolus_72 : decode cX11_beginBolus 72 = .ok (.iaload, 1) := by decide +kernel
theorem dX11_beginBolus_73 : decode cX11_beginBolus 73 = .ok (.aload_n 0, 1) := by decide +kernel
theorem dX11_beginBolus_74 : decode cX11_beginBolus 74 = .ok (.getfield 44, 3) := by decide +kernel
theorem dX11_beginBolus_77 : decode cX11_beginBolus 77 = .ok (.iload_n 2, 1) := by decide +kernel
theorem dX11_beginBolus_78 : decode cX11_beginBolus 78 = .ok (.iaload, 1) := by decide +kernel
theorem dX11_beginBolus_79 : decode cX11_beginBolus 79 = .ok (.if_icmp .ge 7, 3) := by decide +kernel
theorem dX11_beginBolus_82 : decode cX11_beginBolus 82 = .ok (.iconst 1, 1) := by decide +kernel
theorem dX11_beginBolus_83 : decode cX11_beginBolus 83 = .ok (.goto 4, 3) := by decide +kernel
theorem dX11_beginBolus_86 : decode cX11_beginBolus 86 = .ok (.iconst 0, 1) := by decide +kernel
theorem dX11_beginBolus_87 : decode cX11_beginBolus 87 = .ok (.istore_n 3, 1) := by decide +kernel
theorem dX11_beginBolus_88 : decode cX11_beginBolus 88 = .ok (.iload_n 3, 1) := by decide +kernel
theorem dX11_beginBolus_89 : decode cX11_beginBolus 89 = .ok (.ifCond .ne 13, 3) := by decide +kernel
theorem dX11_beginBolus_92 : decode cX11_beginBolus 92 = .ok (.aload_n 0, 1) := by decide +kernel
theorem dX11_beginBolus_93 : decode cX11_beginBolus 93 = .ok (.bipush 6, 2) := by decide +kernel
theorem dX11_beginBolus_95 : decode cX11_beginBolus 95 = .ok (.iload_n 1, 1) := by decide +kernel
theorem dX11_beginBolus_96 : decode cX11_beginBolus 96 = .ok (.iconst 0, 1) := by decide +kernel
theorem dX11_beginBolus_97 : decode cX11_beginBolus 97 = .ok (.invokevirtual 215, 3) := by decide +kernel
theorem dX11_beginBolus_100 : decode cX11_beginBolus 100 = .ok (.iconst 0, 1) := by decide +kernel
theorem dX11_beginBolus_101 : decode cX11_beginBolus 101 = .ok (.ireturn, 1) := by decide +kernel
theorem dX11_beginBolus_102 : decode cX11_beginBolus 102 = .ok (.aload_n 0, 1) := by decide +kernel
theorem dX11_beginBolus_103 : decode cX11_beginBolus 103 = .ok (.getfield 68, 3) := by decide +kernel
theorem dX11_beginBolus_106 : decode cX11_beginBolus 106 = .ok (.iload_n 1, 1) := by decide +kernel
theorem dX11_beginBolus_107 : decode cX11_beginBolus 107 = .ok (.aload_n 0, 1) := by decide +kernel
theorem dX11_beginBolus_108 : decode cX11_beginBolus 108 = .ok (.getfield 35, 3) := by decide +kernel
theorem dX11_beginBolus_111 : decode cX11_beginBolus 111 = .ok (.iload_n 2, 1) := by decide +kernel
theorem dX11_beginBolus_112 : decode cX11_beginBolus 112 = .ok (.iaload, 1) := by decide +kernel
theorem dX11_beginBolus_113 : decode cX11_beginBolus 113 = .ok (.iastore, 1) := by decide +kernel
theorem dX11_beginBolus_114 : decode cX11_beginBolus 114 = .ok (.aload_n 0, 1) := by decide +kernel
theorem dX11_beginBolus_115 : decode cX11_beginBolus 115 = .ok (.getfield 71, 3) := by decide +kernel
theorem dX11_beginBolus_118 : decode cX11_beginBolus 118 = .ok (.iload_n 1, 1) := by decide +kernel
theorem dX11_beginBolus_119 : decode cX11_beginBolus 119 = .ok (.aload_n 0, 1) := by decide +kernel
theorem dX11_beginBolus_120 : decode cX11_beginBolus 120 = .ok (.getfield 167, 3) := by decide +kernel
theorem dX11_beginBolus_123 : decode cX11_beginBolus 123 = .ok (.iastore, 1) := by decide +kernel
theorem dX11_beginBolus_124 : decode cX11_beginBolus 124 = .ok (.aload_n 0, 1) := by decide +kernel
theorem dX11_beginBolus_125 : decode cX11_beginBolus 125 = .ok (.getfield 107, 3) := by decide +kernel
theorem dX11_beginBolus_128 : decode cX11_beginBolus 128 = .ok (.sipush 3600, 3) := by decide +kernel
theorem dX11_beginBolus_131 : decode cX11_beginBolus 131 = .ok (.iload_n 1, 1) := by decide +kernel
theorem dX11_beginBolus_132 : decode cX11_beginBolus 132 = .ok (.imul, 1) := by decide +kernel
theorem dX11_beginBolus_133 : decode cX11_beginBolus 133 = .ok (.aload_n 0, 1) := by decide +kernel
theorem dX11_beginBolus_134 : decode cX11_beginBolus 134 = .ok (.getfield 167, 3) := by decide +kernel
theorem dX11_beginBolus_137 : decode cX11_beginBolus 137 = .ok (.sipush 3600, 3) := by decide +kernel
theorem dX11_beginBolus_140 : decode cX11_beginBolus 140 = .ok (.irem, 1) := by decide +kernel
theorem dX11_beginBolus_141 : decode cX11_beginBolus 141 = .ok (.iadd, 1) := by decide +kernel
theorem dX11_beginBolus_142 : decode cX11_beginBolus 142 = .ok (.dup2, 1) := by decide +kernel
theorem dX11_beginBolus_143 : decode cX11_beginBolus 143 = .ok (.iaload, 1) := by decide +kernel
theorem dX11_beginBolus_144 : decode cX11_beginBolus 144 = .ok (.iconst 1, 1) := by decide +kernel
theorem dX11_beginBolus_145 : decode cX11_beginBolus 145 = .ok (.iadd, 1) := by decide +kernel
theorem dX11_beginBolus_146 : decode cX11_beginBolus 146 = .ok (.iastore, 1) := by decide +kernel
theorem dX11_beginBolus_147 : decode cX11_beginBolus 147 = .ok (.aload_n 0, 1) := by decide +kernel
theorem dX11_beginBolus_148 : decode cX11_beginBolus 148 = .ok (.getfield 116, 3) := by decide +kernel
theorem dX11_beginBolus_151 : decode cX11_beginBolus 151 = .ok (.iload_n 1, 1) := by decide +kernel
theorem dX11_beginBolus_152 : decode cX11_beginBolus 152 = .ok (.dup2, 1) := by decide +kernel
theorem dX11_beginBolus_153 : decode cX11_beginBolus 153 = .ok (.iaload, 1) := by decide +kernel
theorem dX11_beginBolus_154 : decode cX11_beginBolus 154 = .ok (.iconst 1, 1) := by decide +kernel
theorem dX11_beginBolus_155 : decode cX11_beginBolus 155 = .ok (.iadd, 1) := by decide +kernel
theorem dX11_beginBolus_156 : decode cX11_beginBolus 156 = .ok (.iastore, 1) := by decide +kernel
theorem dX11_beginBolus_157 : decode cX11_beginBolus 157 = .ok (.aload_n 0, 1) := by decide +kernel
theorem dX11_beginBolus_158 : decode cX11_beginBolus 158 = .ok (.iconst 5, 1) := by decide +kernel
theorem dX11_beginBolus_159 : decode cX11_beginBolus 159 = .ok (.iload_n 1, 1) := by decide +kernel
theorem dX11_beginBolus_160 : decode cX11_beginBolus 160 = .ok (.aload_n 0, 1) := by decide +kernel
theorem dX11_beginBolus_161 : decode cX11_beginBolus 161 = .ok (.getfield 68, 3) := by decide +kernel
theorem dX11_beginBolus_164 : decode cX11_beginBolus 164 = .ok (.iload_n 1, 1) := by decide +kernel
theorem dX11_beginBolus_165 : decode cX11_beginBolus 165 = .ok (.iaload, 1) := by decide +kernel
theorem dX11_beginBolus_166 : decode cX11_beginBolus 166 = .ok (.invokevirtual 215, 3) := by decide +kernel
theorem dX11_beginBolus_169 : decode cX11_beginBolus 169 = .ok (.iconst 1, 1) := by decide +kernel
theorem dX11_beginBolus_170 : decode cX11_beginBolus 170 = .ok (.ireturn, 1) := by decide +kernel
theorem dX11_mayTake_0 : decode cX11_mayTake 0 = .ok (.iload_n 2, 1) := by decide +kernel
theorem dX11_mayTake_1 : decode cX11_mayTake 1 = .ok (.tableswitch 138 0 6 #[43, 138, 58, 73, 89, 138, 115], 43) := by decide +kernel
theorem dX11_mayTake_44 : decode cX11_mayTake 44 = .ok (.aload_n 0, 1) := by decide +kernel
theorem dX11_mayTake_45 : decode cX11_mayTake 45 = .ok (.getfield 77, 3) := by decide +kernel
theorem dX11_mayTake_48 : decode cX11_mayTake 48 = .ok (.iload_n 1, 1) := by decide +kernel
theorem dX11_mayTake_49 : decode cX11_mayTake 49 = .ok (.baload, 1) := by decide +kernel
theorem dX11_mayTake_50 : decode cX11_mayTake 50 = .ok (.ifCond .ne 7, 3) := by decide +kernel
theorem dX11_mayTake_53 : decode cX11_mayTake 53 = .ok (.iconst 1, 1) := by decide +kernel
theorem dX11_mayTake_54 : decode cX11_mayTake 54 = .ok (.goto 4, 3) := by decide +kernel
theorem dX11_mayTake_57 : decode cX11_mayTake 57 = .ok (.iconst 0, 1) := by decide +kernel
theorem dX11_mayTake_58 : decode cX11_mayTake 58 = .ok (.ireturn, 1) := by decide +kernel
theorem dX11_mayTake_59 : decode cX11_mayTake 59 = .ok (.aload_n 0, 1) := by decide +kernel
theorem dX11_mayTake_60 : decode cX11_mayTake 60 = .ok (.getfield 80, 3) := by decide +kernel
theorem dX11_mayTake_63 : decode cX11_mayTake 63 = .ok (.iload_n 1, 1) := by decide +kernel
theorem dX11_mayTake_64 : decode cX11_mayTake 64 = .ok (.baload, 1) := by decide +kernel
theorem dX11_mayTake_65 : decode cX11_mayTake 65 = .ok (.ifCond .ne 7, 3) := by decide +kernel
theorem dX11_mayTake_68 : decode cX11_mayTake 68 = .ok (.iconst 1, 1) := by decide +kernel
theorem dX11_mayTake_69 : decode cX11_mayTake 69 = .ok (.goto 4, 3) := by decide +kernel
theorem dX11_mayTake_72 : decode cX11_mayTake 72 = .ok (.iconst 0, 1) := by decide +kernel
theorem dX11_mayTake_73 : decode cX11_mayTake 73 = .ok (.ireturn, 1) := by decide +kernel
theorem dX11_mayTake_74 : decode cX11_mayTake 74 = .ok (.aload_n 0, 1) := by decide +kernel
theorem dX11_mayTake_75 : decode cX11_mayTake 75 = .ok (.getfield 144, 3) := by decide +kernel
theorem dX11_mayTake_78 : decode cX11_mayTake 78 = .ok (.sipush 200, 3) := by decide +kernel
theorem dX11_mayTake_81 : decode cX11_mayTake 81 = .ok (.if_icmp .lt 7, 3) := by decide +kernel
theorem dX11_mayTake_84 : decode cX11_mayTake 84 = .ok (.iconst 1, 1) := by decide +kernel
theorem dX11_mayTake_85 : decode cX11_mayTake 85 = .ok (.goto 4, 3) := by decide +kernel
theorem dX11_mayTake_88 : decode cX11_mayTake 88 = .ok (.iconst 0, 1) := by decide +kernel
theorem dX11_mayTake_89 : decode cX11_mayTake 89 = .ok (.ireturn, 1) := by decide +kernel
theorem dX11_mayTake_90 : decode cX11_mayTake 90 = .ok (.aload_n 0, 1) := by decide +kernel
theorem dX11_mayTake_91 : decode cX11_mayTake 91 = .ok (.getfield 113, 3) := by decide +kernel
theorem dX11_mayTake_94 : decode cX11_mayTake 94 = .ok (.iload_n 1, 1) := by decide +kernel
theorem dX11_mayTake_95 : decode cX11_mayTake 95 = .ok (.iaload, 1) := by decide +kernel
theorem dX11_mayTake_96 : decode cX11_mayTake 96 = .ok (.aload_n 0, 1) := by decide +kernel
theorem dX11_mayTake_97 : decode cX11_mayTake 97 = .ok (.getfield 32, 3) := by decide +kernel
theorem dX11_mayTake_100 : decode cX11_mayTake 100 = .ok (.aload_n 0, 1) := by decide +kernel
theorem dX11_mayTake_101 : decode cX11_mayTake 101 = .ok (.getfield 53, 3) := by decide +kernel
theorem dX11_mayTake_104 : decode cX11_mayTake 104 = .ok (.iload_n 1, 1) := by decide +kernel
theorem dX11_mayTake_105 : decode cX11_mayTake 105 = .ok (.iaload, 1) := by decide +kernel
theorem dX11_mayTake_106 : decode cX11_mayTake 106 = .ok (.iaload, 1) := by decide +kernel
theorem dX11_mayTake_107 : decode cX11_mayTake 107 = .ok (.if_icmp .ge 7, 3) := by decide +kernel
theorem dX11_mayTake_110 : decode cX11_mayTake 110 = .ok (.iconst 1, 1) := by decide +kernel
theorem dX11_mayTake_111 : decode cX11_mayTake 111 = .ok (.goto 4, 3) := by decide +kernel
theorem dX11_mayTake_114 : decode cX11_mayTake 114 = .ok (.iconst 0, 1) := by decide +kernel
theorem dX11_mayTake_115 : decode cX11_mayTake 115 = .ok (.ireturn, 1) := by decide +kernel
theorem dX11_mayTake_116 : decode cX11_mayTake 116 = .ok (.aload_n 0, 1) := by decide +kernel
theorem dX11_mayTake_117 : decode cX11_mayTake 117 = .ok (.getfield 148, 3) := by decide +kernel
theorem dX11_mayTake_120 : decode cX11_mayTake 120 = .ok (.ifCond .ne 13, 3) := by decide +kernel
theorem dX11_mayTake_123 : decode cX11_mayTake 123 = .ok (.aload_n 0, 1) := by decide +kernel
theorem dX11_mayTake_124 : decode cX11_mayTake 124 = .ok (.getfield 144, 3) := by decide +kernel
theorem dX11_mayTake_127 : decode cX11_mayTake 127 = .ok (.sipush 3600, 3) := by decide +kernel
theorem dX11_mayTake_130 : decode cX11_mayTake 130 = .ok (.if_icmp .lt 7, 3) := by decide +kernel
theorem dX11_mayTake_133 : decode cX11_mayTake 133 = .ok (.iconst 1, 1) := by decide +kernel
theorem dX11_mayTake_134 : decode cX11_mayTake 134 = .ok (.goto 4, 3) := by decide +kernel
theorem dX11_mayTake_137 : decode cX11_mayTake 137 = .ok (.iconst 0, 1) := by decide +kernel
theorem dX11_mayTake_138 : decode cX11_mayTake 138 = .ok (.ireturn, 1) := by decide +kernel
theorem dX11_mayTake_139 : decode cX11_mayTake 139 = .ok (.iconst 1, 1) := by decide +kernel
theorem dX11_mayTake_140 : decode cX11_mayTake 140 = .ok (.ireturn, 1) := by decide +kernel
set_option maxRecDepth 20000 in
theorem ggX11_acknowledge_X11_mayTake : GoodIn wsX11_acknowledge wsX11_mayTake := goodIn_r _ [9, 10, 11, 12, 13, 14, 15, 16, 30, 31, 32, 33, 34, 35, 36, 37, 38, 39, 40, 41, 42, 43, 44, 45, 46, 47, 48, 49, 50, 51, 52, 53, 54, 55, 56, 57, 58, 59, 60, 61, 62, 63, 64, 65, 66, 67, 68, 69, 70, 71, 72, 73, 74, 75, 76, 77, 78, 79, 80, 81, 82] (by decide +kernel) (by decide +kernel)
set_option maxRecDepth 20000 in
theorem gX11_acknowledge_X11_mayTake : GoodIn wsX11_acknowledge (wsV RX11 243 RX11 yX11_mayTake wsX11_mayTake) := goodIn_app (goodIn_of _ (by decide +kernel)) ggX11_acknowledge_X11_mayTake
set_option maxRecDepth 20000 in
theorem ggX11_acknowledge_X11_note : GoodIn wsX11_acknowledge wsX11_note := goodIn_r _ [20, 21, 22, 23, 24, 25, 26, 8, 27, 28, 29, 30, 31, 32, 33, 34, 35, 36, 37, 38, 39, 40, 41, 42, 43, 44, 45, 46, 47, 48, 49, 50, 51, 52, 53, 54, 55, 56, 57, 58, 59, 60, 61, 62, 63, 64, 65, 66, 67, 68, 69, 70, 71, 72, 73, 74, 75, 76, 77, 78, 79, 80, 81, 82] (by decide +kernel) (by decide +kernel)
set_option maxRecDepth 20000 in
theorem gX11_acknowledge_X11_note : GoodIn wsX11_acknowledge (wsV RX11 215 RX11 yX11_note wsX11_note) := goodIn_app (goodIn_of _ (by decide +kernel)) ggX11_acknowledge_X11_note
theorem dX11_acknowledge_0 : decode cX11_acknowledge 0 = .ok (.iconst 0, 1) := by decide +kernel
theorem dX11_acknowledge_1 : decode cX11_acknowledge 1 = .ok (.istore_n 2, 1) := by decide +kernel
theorem dX11_acknowledge_2 : decode cX11_acknowledge 2 = .ok (.iconst 0, 1) := by decide +kernel
theorem dX11_acknowledge_3 : decode cX11_acknowledge 3 = .ok (.istore_n 3, 1) := by decide +kernel
theorem dX11_acknowledge_4 : decode cX11_acknowledge 4 = .ok (.iload_n 3, 1) := by decide +kernel
theorem dX11_acknowledge_5 : decode cX11_acknowledge 5 = .ok (.bipush 7, 2) := by decide +kernel
theorem dX11_acknowledge_7 : decode cX11_acknowledge 7 = .ok (.if_icmp .ge 107, 3) := by decide +kernel
theorem dX11_acknowledge_10 : decode cX11_acknowledge 10 = .ok (.aload_n 0, 1) := by decide +kernel
theorem dX11_acknowledge_11 : decode cX11_acknowledge 11 = .ok (.getfield 92, 3) := by decide +kernel
theorem dX11_acknowledge_14 : decode cX11_acknowledge 14 = .ok (.iload_n 1, 1) := by decide +kernel
theorem dX11_acknowledge_15 : decode cX11_acknowledge 15 = .ok (.iaload, 1) := by decide +kernel
theorem dX11_acknowledge_16 : decode cX11_acknowledge 16 = .ok (.iload_n 3, 1) := by decide +kernel
theorem dX11_acknowledge_17 : decode cX11_acknowledge 17 = .ok (.ishr, 1) := by decide +kernel
theorem dX11_acknowledge_18 : decode cX11_acknowledge 18 = .ok (.iconst 1, 1) := by decide +kernel
theorem dX11_acknowledge_19 : decode cX11_acknowledge 19 = .ok (.iand, 1) := by decide +kernel
theorem dX11_acknowledge_20 : decode cX11_acknowledge 20 = .ok (.ifCond .eq 88, 3) := by decide +kernel
theorem dX11_acknowledge_23 : decode cX11_acknowledge 23 = .ok (.aload_n 0, 1) := by decide +kernel
theorem dX11_acknowledge_24 : decode cX11_acknowledge 24 = .ok (.iload_n 1, 1) := by decide +kernel
theorem dX11_acknowledge_25 : decode cX11_acknowledge 25 = .ok (.iload_n 3, 1) := by decide +kernel
theorem dX11_acknowledge_26 : decode cX11_acknowledge 26 = .ok (.invokevirtual 243, 3) := by decide +kernel
theorem dX11_acknowledge_29 : decode cX11_acknowledge 29 = .ok (.ifCond .ne 6, 3) := by decide +kernel
theorem dX11_acknowledge_32 : decode cX11_acknowledge 32 = .ok (.goto 76, 3) := by decide +kernel
theorem dX11_acknowledge_35 : decode cX11_acknowledge 35 = .ok (.aload_n 0, 1) := by decide +kernel
theorem dX11_acknowledge_36 : decode cX11_acknowledge 36 = .ok (.getfield 92, 3) := by decide +kernel
theorem dX11_acknowledge_39 : decode cX11_acknowledge 39 = .ok (.iload_n 1, 1) := by decide +kernel
theorem dX11_acknowledge_40 : decode cX11_acknowledge 40 = .ok (.dup2, 1) := by decide +kernel
theorem dX11_acknowledge_41 : decode cX11_acknowledge 41 = .ok (.iaload, 1) := by decide +kernel
theorem dX11_acknowledge_42 : decode cX11_acknowledge 42 = .ok (.iconst 1, 1) := by decide +kernel
theorem dX11_acknowledge_43 : decode cX11_acknowledge 43 = .ok (.iload_n 3, 1) := by decide +kernel
theorem dX11_acknowledge_44 : decode cX11_acknowledge 44 = .ok (.ishl, 1) := by decide +kernel
theorem dX11_acknowledge_45 : decode cX11_acknowledge 45 = .ok (.iconst (-1), 1) := by decide +kernel
theorem dX11_acknowledge_46 : decode cX11_acknowledge 46 = .ok (.ixor, 1) := by decide +kernel
theorem dX11_acknowledge_47 : decode cX11_acknowledge 47 = .ok (.iand, 1) := by decide +kernel
theorem dX11_acknowledge_48 : decode cX11_acknowledge 48 = .ok (.iastore, 1) := by decide +kernel
theorem dX11_acknowledge_49 : decode cX11_acknowledge 49 = .ok (.iconst 1, 1) := by decide +kernel
theorem dX11_acknowledge_50 : decode cX11_acknowledge 50 = .ok (.istore_n 2, 1) := by decide +kernel
theorem dX11_acknowledge_51 : decode cX11_acknowledge 51 = .ok (.iload_n 3, 1) := by decide +kernel
theorem dX11_acknowledge_52 : decode cX11_acknowledge 52 = .ok (.ifCond .ne 48, 3) := by decide +kernel
theorem dX11_acknowledge_55 : decode cX11_acknowledge 55 = .ok (.aload_n 0, 1) := by decide +kernel
theorem dX11_acknowledge_56 : decode cX11_acknowledge 56 = .ok (.getfield 89, 3) := by decide +kernel
theorem dX11_acknowledge_59 : decode cX11_acknowledge 59 = .ok (.iload_n 1, 1) := by decide +kernel
theorem dX11_acknowledge_60 : decode cX11_acknowledge 60 = .ok (.iconst 0, 1) := by decide +kernel
theorem dX11_acknowledge_61 : decode cX11_acknowledge 61 = .ok (.iastore, 1) := by decide +kernel
theorem dX11_acknowledge_62 : decode cX11_acknowledge 62 = .ok (.aload_n 0, 1) := by decide +kernel
theorem dX11_acknowledge_63 : decode cX11_acknowledge 63 = .ok (.getfield 119, 3) := by decide +kernel
theorem dX11_acknowledge_66 : decode cX11_acknowledge 66 = .ok (.iload_n 1, 1) := by decide +kernel
theorem dX11_acknowledge_67 : decode cX11_acknowledge 67 = .ok (.iconst 0, 1) := by decide +kernel
theorem dX11_acknowledge_68 : decode cX11_acknowledge 68 = .ok (.iastore, 1) := by decide +kernel
theorem dX11_acknowledge_69 : decode cX11_acknowledge 69 = .ok (.iconst 0, 1) := by decide +kernel
theorem dX11_acknowledge_70 : decode cX11_acknowledge 70 = .ok (.istore 4, 2) := by decide +kernel
theorem dX11_acknowledge_72 : decode cX11_acknowledge 72 = .ok (.iload 4, 2) := by decide +kernel
theorem dX11_acknowledge_74 : decode cX11_acknowledge 74 = .ok (.sipush 900, 3) := by decide +kernel
theorem dX11_acknowledge_77 : decode cX11_acknowledge 77 = .ok (.if_icmp .ge 23, 3) := by decide +kernel
theorem dX11_acknowledge_80 : decode cX11_acknowledge 80 = .ok (.aload_n 0, 1) := by decide +kernel
theorem dX11_acknowledge_81 : decode cX11_acknowledge 81 = .ok (.getfield 110, 3) := by decide +kernel
theorem dX11_acknowledge_84 : decode cX11_acknowledge 84 = .ok (.sipush 900, 3) := by decide +kernel
theorem dX11_acknowledge_87 : decode cX11_acknowledge 87 = .ok (.iload_n 1, 1) := by decide +kernel
theorem dX11_acknowledge_88 : decode cX11_acknowledge 88 = .ok (.imul, 1) := by decide +kernel
theorem dX11_acknowledge_89 : decode cX11_acknowledge 89 = .ok (.iload 4, 2) := by decide +kernel
theorem dX11_acknowledge_91 : decode cX11_acknowledge 91 = .ok (.iadd, 1) := by decide +kernel
theorem dX11_acknowledge_92 : decode cX11_acknowledge 92 = .ok (.iconst 0, 1) := by decide +kernel
theorem dX11_acknowledge_93 : decode cX11_acknowledge 93 = .ok (.iastore, 1) := by decide +kernel
theorem dX11_acknowledge_94 : decode cX11_acknowledge 94 = .ok (.iinc 4 1, 3) := by decide +kernel
theorem dX11_acknowledge_97 : decode cX11_acknowledge 97 = .ok (.goto (-25), 3) := by decide +kernel
theorem dX11_acknowledge_100 : decode cX11_acknowledge 100 = .ok (.aload_n 0, 1) := by decide +kernel
theorem dX11_acknowledge_101 : decode cX11_acknowledge 101 = .ok (.bipush 8, 2) := by decide +kernel
theorem dX11_acknowledge_103 : decode cX11_acknowledge 103 = .ok (.iload_n 1, 1) := by decide +kernel
theorem dX11_acknowledge_104 : decode cX11_acknowledge 104 = .ok (.iload_n 3, 1) := by decide +kernel
theorem dX11_acknowledge_105 : decode cX11_acknowledge 105 = .ok (.invokevirtual 215, 3) := by decide +kernel
theorem dX11_acknowledge_108 : decode cX11_acknowledge 108 = .ok (.iinc 3 1, 3) := by decide +kernel
theorem dX11_acknowledge_111 : decode cX11_acknowledge 111 = .ok (.goto (-107), 3) := by decide +kernel
theorem dX11_acknowledge_114 : decode cX11_acknowledge 114 = .ok (.iload_n 2, 1) := by decide +kernel
theorem dX11_acknowledge_115 : decode cX11_acknowledge 115 = .ok (.ireturn, 1) := by decide +kernel
set_option maxRecDepth 20000 in
theorem ggX11_press_X11_clearKey : GoodIn wsX11_press wsX11_clearKey := goodIn_r _ [11, 1, 12, 13, 14, 15, 10, 16, 17, 18, 19, 20, 21, 22, 23, 24, 25, 26, 27, 28, 29, 30, 31, 32, 33, 3, 34, 35, 36, 37, 38, 39, 102, 103, 104, 105, 106, 107, 108, 109, 110, 111, 112, 113, 114, 115, 116, 117, 118, 119, 120, 121, 122, 123, 124, 125, 126, 127, 128, 129, 130, 131, 132, 133, 134, 135, 136, 137, 138, 139, 140, 141, 142, 143, 144, 145, 146, 147, 148, 149, 150, 151, 152, 153, 154] (by decide +kernel) (by decide +kernel)
set_option maxRecDepth 20000 in
theorem gX11_press_X11_clearKey : GoodIn wsX11_press (wsV RX11 247 RX11 yX11_clearKey wsX11_clearKey) := goodIn_app (goodIn_of _ (by decide +kernel)) ggX11_press_X11_clearKey
set_option maxRecDepth 20000 in
theorem ggX11_press_X11_begin : GoodIn wsX11_press wsX11_begin := goodIn_r _ [43, 1, 27, 6, 13, 14, 15, 10, 16, 17, 18, 19, 20, 21, 12, 22, 102, 103, 104, 105, 106, 107, 108, 109, 110, 111, 112, 113, 114, 115, 116, 117, 118, 119, 120, 121, 122, 123, 124, 125, 126, 127, 128, 129, 130, 131, 132, 133, 134, 135, 136, 137, 138, 139, 140, 141, 142, 143, 144, 145, 146, 147, 148, 149, 150, 151, 152, 153, 154] (by decide +kernel) (by decide +kernel)
set_option maxRecDepth 20000 in
theorem gX11_press_X11_begin : GoodIn wsX11_press (wsV RX11 250 RX11 yX11_begin wsX11_begin) := goodIn_app (goodIn_of _ (by decide +kernel)) ggX11_press_X11_begin
set_option maxRecDepth 20000 in
theorem ggX11_press_X11_run : GoodIn wsX11_press wsX11_run := goodIn_r _ [47, 1, 6, 48, 49, 50, 51, 10, 52, 53, 54, 28, 29, 30, 31, 32, 33, 3, 34, 35, 36, 37, 38, 39, 102, 103, 104, 105, 106, 107, 108, 109, 110, 111, 112, 113, 114, 115, 116, 117, 118, 119, 120, 121, 122, 123, 124, 125, 126, 127, 128, 129, 130, 131, 132, 133, 134, 135, 136, 137, 138, 139, 140, 141, 142, 143, 144, 145, 146, 147, 148, 149, 150, 151, 152, 153, 154] (by decide +kernel) (by decide +kernel)
set_option maxRecDepth 20000 in
theorem gX11_press_X11_run : GoodIn wsX11_press (wsV RX11 253 RX11 yX11_run wsX11_run) := goodIn_app (goodIn_of _ (by decide +kernel)) ggX11_press_X11_run
set_option maxRecDepth 20000 in
theorem ggX11_press_X11_stop : GoodIn wsX11_press wsX11_stop := goodIn_r _ [58, 1, 59, 60, 28, 29, 30, 10, 31, 32, 33, 3, 34, 35, 36, 37, 38, 39, 61, 62, 63, 64, 23, 24, 25, 26, 27, 13, 14, 15, 16, 17, 18, 19, 20, 21, 12, 22, 102, 103, 104, 105, 106, 107, 108, 109, 110, 111, 112, 113, 114, 115, 116, 117, 118, 119, 120, 121, 122, 123, 124, 125, 126, 127, 128, 129, 130, 131, 132, 133, 134, 135, 136, 137, 138, 139, 140, 141, 142, 143, 144, 145, 146, 147, 148, 149, 150, 151, 152, 153, 154] (by decide +kernel) (by decide +kernel)
set_option maxRecDepth 20000 in
theorem gX11_press_X11_stop : GoodIn wsX11_press (wsV RX11 256 RX11 yX11_stop wsX11_stop) := goodIn_app (goodIn_of _ (by decide +kernel)) ggX11_press_X11_stop
set_option maxRecDepth 20000 in
theorem ggX11_press_X11_acknowledge : GoodIn wsX11_press wsX11_acknowledge := goodIn_r _ [68, 53, 69, 70, 71, 72, 73, 74, 10, 75, 76, 54, 77, 78, 79, 80, 81, 28, 29, 30, 31, 32, 33, 3, 34, 35, 36, 37, 38, 39, 102, 103, 104, 105, 106, 107, 108, 109, 110, 111, 112, 113, 114, 115, 116, 117, 118, 119, 120, 121, 122, 123, 124, 125, 126, 127, 128, 129, 130, 131, 132, 133, 134, 135, 136, 137, 138, 139, 140, 141, 142, 143, 144, 145, 146, 147, 148, 149, 150, 151, 152, 153, 154] (by decide +kernel) (by decide +kernel)
set_option maxRecDepth 20000 in
theorem gX11_press_X11_acknowledge : GoodIn wsX11_press (wsV RX11 259 RX11 yX11_acknowledge wsX11_acknowledge) := goodIn_app (goodIn_of _ (by decide +kernel)) ggX11_press_X11_acknowledge
set_option maxRecDepth 20000 in
theorem ggX11_press_X11_note : GoodIn wsX11_press wsX11_note := goodIn_r _ [31, 32, 33, 3, 34, 35, 36, 10, 37, 38, 39, 102, 103, 104, 105, 106, 107, 108, 109, 110, 111, 112, 113, 114, 115, 116, 117, 118, 119, 120, 121, 122, 123, 124, 125, 126, 127, 128, 129, 130, 131, 132, 133, 134, 135, 136, 137, 138, 139, 140, 141, 142, 143, 144, 145, 146, 147, 148, 149, 150, 151, 152, 153, 154] (by decide +kernel) (by decide +kernel)
set_option maxRecDepth 20000 in
theorem gX11_press_X11_note : GoodIn wsX11_press (wsV RX11 215 RX11 yX11_note wsX11_note) := goodIn_app (goodIn_of _ (by decide +kernel)) ggX11_press_X11_note
set_option maxRecDepth 20000 in
theorem ggX11_press_X11_go : GoodIn wsX11_press wsX11_go := goodIn_r _ [16, 1, 17, 18, 19, 10, 20, 21, 12, 22, 102, 103, 104, 105, 106, 107, 108, 109, 110, 111, 112, 113, 114, 115, 116, 117, 118, 119, 120, 121, 122, 123, 124, 125, 126, 127, 128, 129, 130, 131, 132, 133, 134, 135, 136, 137, 138, 139, 140, 141, 142, 143, 144, 145, 146, 147, 148, 149, 150, 151, 152, 153, 154] (by decide +kernel) (by decide +kernel)
set_option maxRecDepth 20000 in
theorem gX11_press_X11_go : GoodIn wsX11_press (wsV RX11 219 RX11 yX11_go wsX11_go) := goodIn_app (goodIn_of _ (by decide +kernel)) ggX11_press_X11_go
set_option maxRecDepth 20000 in
theorem ggX11_press_X11_beginBolus : GoodIn wsX11_press wsX11_beginBolus := goodIn_r _ [85, 1, 80, 86, 59, 87, 3, 88, 89, 90, 91, 28, 29, 30, 10, 31, 32, 33, 34, 35, 36, 37, 38, 39, 102, 103, 104, 105, 106, 107, 108, 109, 110, 111, 112, 113, 114, 115, 116, 117, 118, 119, 120, 121, 122, 123, 124, 125, 126, 127, 128, 129, 130, 131, 132, 133, 134, 135, 136, 137, 138, 139, 140, 141, 142, 143, 144, 145, 146, 147, 148, 149, 150, 151, 152, 153, 154] (by decide +kernel) (by decide +kernel)
set_option maxRecDepth 20000 in
theorem gX11_press_X11_beginBolus : GoodIn wsX11_press (wsV RX11 262 RX11 yX11_beginBolus wsX11_beginBolus) := goodIn_app (goodIn_of _ (by decide +kernel)) ggX11_press_X11_beginBolus
set_option maxRecDepth 20000 in
theorem ggX11_press_X11_figure : GoodIn wsX11_press wsX11_figure := goodIn_r _ [95, 22, 12, 21, 96, 97, 98, 10, 99, 1, 100, 101, 102, 103, 104, 105, 106, 107, 108, 109, 110, 111, 112, 113, 114, 115, 116, 117, 118, 119, 120, 121, 122, 123, 124, 125, 126, 127, 128, 129, 130, 131, 132, 133, 134, 135, 136, 137, 138, 139, 140, 141, 142, 143, 144, 145, 146, 147, 148, 149, 150, 151, 152, 153, 154] (by decide +kernel) (by decide +kernel)
set_option maxRecDepth 20000 in
theorem gX11_press_X11_figure : GoodIn wsX11_press (wsV RX11 271 RX11 yX11_figure wsX11_figure) := goodIn_app (goodIn_of _ (by decide +kernel)) ggX11_press_X11_figure
theorem dX11_press_0 : decode cX11_press 0 = .ok (.aload_n 0, 1) := by decide +kernel
theorem dX11_press_1 : decode cX11_press 1 = .ok (.getfield 47, 3) := by decide +kernel
theorem dX11_press_4 : decode cX11_press 4 = .ok (.iload_n 1, 1) := by decide +kernel
theorem dX11_press_5 : decode cX11_press 5 = .ok (.iaload, 1) := by decide +kernel
theorem dX11_press_6 : decode cX11_press 6 = .ok (.iconst 1, 1) := by decide +kernel
theorem dX11_press_7 : decode cX11_press 7 = .ok (.if_icmp .lt 17, 3) := by decide +kernel
theorem dX11_press_10 : decode cX11_press 10 = .ok (.aload_n 0, 1) := by decide +kernel
