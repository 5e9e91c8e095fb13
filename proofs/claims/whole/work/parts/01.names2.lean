theorem dX4_init_4 : decode cX4_init 4 = .ok (.aload_n 0, 1) := by decide +kernel
theorem dX4_init_5 : decode cX4_init 5 = .ok (.sipush 3600, 3) := by decide +kernel
theorem dX4_init_8 : decode cX4_init 8 = .ok (.newarray .int, 2) := by decide +kernel
theorem dX4_init_10 : decode cX4_init 10 = .ok (.putfield 9, 3) := by decide +kernel
theorem dX4_init_13 : decode cX4_init 13 = .ok (.return_, 1) := by decide +kernel
theorem dX4_advance_0 : decode cX4_advance 0 = .ok (.aload_n 0, 1) := by decide +kernel
theorem dX4_advance_1 : decode cX4_advance 1 = .ok (.aload_n 0, 1) := by decide +kernel
theorem dX4_advance_2 : decode cX4_advance 2 = .ok (.getfield 15, 3) := by decide +kernel
theorem dX4_advance_5 : decode cX4_advance 5 = .ok (.iconst 1, 1) := by decide +kernel
theorem dX4_advance_6 : decode cX4_advance 6 = .ok (.iadd, 1) := by decide +kernel
theorem dX4_advance_7 : decode cX4_advance 7 = .ok (.sipush 3600, 3) := by decide +kernel
theorem dX4_advance_10 : decode cX4_advance 10 = .ok (.if_icmp .ge 12, 3) := by decide +kernel
theorem dX4_advance_13 : decode cX4_advance 13 = .ok (.aload_n 0, 1) := by decide +kernel
theorem dX4_advance_14 : decode cX4_advance 14 = .ok (.getfield 15, 3) := by decide +kernel
theorem dX4_advance_17 : decode cX4_advance 17 = .ok (.iconst 1, 1) := by decide +kernel
theorem dX4_advance_18 : decode cX4_advance 18 = .ok (.iadd, 1) := by decide +kernel
theorem dX4_advance_19 : decode cX4_advance 19 = .ok (.goto 4, 3) := by decide +kernel
theorem dX4_advance_22 : decode cX4_advance 22 = .ok (.iconst 0, 1) := by decide +kernel
theorem dX4_advance_23 : decode cX4_advance 23 = .ok (.putfield 15, 3) := by decide +kernel
theorem dX4_advance_26 : decode cX4_advance 26 = .ok (.aload_n 0, 1) := by decide +kernel
theorem dX4_advance_27 : decode cX4_advance 27 = .ok (.dup, 1) := by decide +kernel
theorem dX4_advance_28 : decode cX4_advance 28 = .ok (.getfield 19, 3) := by decide +kernel
theorem dX4_advance_31 : decode cX4_advance 31 = .ok (.aload_n 0, 1) := by decide +kernel
theorem dX4_advance_32 : decode cX4_advance 32 = .ok (.getfield 9, 3) := by decide +kernel
theorem dX4_advance_35 : decode cX4_advance 35 = .ok (.aload_n 0, 1) := by decide +kernel
theorem dX4_advance_36 : decode cX4_advance 36 = .ok (.getfield 15, 3) := by decide +kernel
theorem dX4_advance_39 : decode cX4_advance 39 = .ok (.iaload, 1) := by decide +kernel
theorem dX4_advance_40 : decode cX4_advance 40 = .ok (.isub, 1) := by decide +kernel
theorem dX4_advance_41 : decode cX4_advance 41 = .ok (.putfield 19, 3) := by decide +kernel
theorem dX4_advance_44 : decode cX4_advance 44 = .ok (.aload_n 0, 1) := by decide +kernel
theorem dX4_advance_45 : decode cX4_advance 45 = .ok (.getfield 9, 3) := by decide +kernel
theorem dX4_advance_48 : decode cX4_advance 48 = .ok (.aload_n 0, 1) := by decide +kernel
theorem dX4_advance_49 : decode cX4_advance 49 = .ok (.getfield 15, 3) := by decide +kernel
theorem dX4_advance_52 : decode cX4_advance 52 = .ok (.iconst 0, 1) := by decide +kernel
theorem dX4_advance_53 : decode cX4_advance 53 = .ok (.iastore, 1) := by decide +kernel
theorem dX4_advance_54 : decode cX4_advance 54 = .ok (.return_, 1) := by decide +kernel
theorem dX4_add_0 : decode cX4_add 0 = .ok (.aload_n 0, 1) := by decide +kernel
theorem dX4_add_1 : decode cX4_add 1 = .ok (.getfield 9, 3) := by decide +kernel
theorem dX4_add_4 : decode cX4_add 4 = .ok (.aload_n 0, 1) := by decide +kernel
theorem dX4_add_5 : decode cX4_add 5 = .ok (.getfield 15, 3) := by decide +kernel
theorem dX4_add_8 : decode cX4_add 8 = .ok (.dup2, 1) := by decide +kernel
theorem dX4_add_9 : decode cX4_add 9 = .ok (.iaload, 1) := by decide +kernel
theorem dX4_add_10 : decode cX4_add 10 = .ok (.iconst 1, 1) := by decide +kernel
theorem dX4_add_11 : decode cX4_add 11 = .ok (.iadd, 1) := by decide +kernel
theorem dX4_add_12 : decode cX4_add 12 = .ok (.iastore, 1) := by decide +kernel
theorem dX4_add_13 : decode cX4_add 13 = .ok (.aload_n 0, 1) := by decide +kernel
theorem dX4_add_14 : decode cX4_add 14 = .ok (.dup, 1) := by decide +kernel
theorem dX4_add_15 : decode cX4_add 15 = .ok (.getfield 19, 3) := by decide +kernel
theorem dX4_add_18 : decode cX4_add 18 = .ok (.iconst 1, 1) := by decide +kernel
theorem dX4_add_19 : decode cX4_add 19 = .ok (.iadd, 1) := by decide +kernel
theorem dX4_add_20 : decode cX4_add 20 = .ok (.putfield 19, 3) := by decide +kernel
theorem dX4_add_23 : decode cX4_add 23 = .ok (.return_, 1) := by decide +kernel
theorem dX5_init_0 : decode cX5_init 0 = .ok (.aload_n 0, 1) := by decide +kernel
theorem dX5_init_1 : decode cX5_init 1 = .ok (.invokespecial 1, 3) := by decide +kernel
theorem dX5_init_4 : decode cX5_init 4 = .ok (.aload_n 0, 1) := by decide +kernel
theorem dX5_init_5 : decode cX5_init 5 = .ok (.sipush 256, 3) := by decide +kernel
theorem dX5_init_8 : decode cX5_init 8 = .ok (.newarray .int, 2) := by decide +kernel
theorem dX5_init_10 : decode cX5_init 10 = .ok (.putfield 9, 3) := by decide +kernel
theorem dX5_init_13 : decode cX5_init 13 = .ok (.aload_n 0, 1) := by decide +kernel
theorem dX5_init_14 : decode cX5_init 14 = .ok (.lconst 1, 1) := by decide +kernel
theorem dX5_init_15 : decode cX5_init 15 = .ok (.putfield 13, 3) := by decide +kernel
theorem dX5_init_18 : decode cX5_init 18 = .ok (.return_, 1) := by decide +kernel
theorem dX5_keeps_0 : decode cX5_keeps 0 = .ok (.iload_n 1, 1) := by decide +kernel
theorem dX5_keeps_1 : decode cX5_keeps 1 = .ok (.ifCond .lt 26, 3) := by decide +kernel
theorem dX5_keeps_4 : decode cX5_keeps 4 = .ok (.iload_n 1, 1) := by decide +kernel
theorem dX5_keeps_5 : decode cX5_keeps 5 = .ok (.aload_n 0, 1) := by decide +kernel
theorem dX5_keeps_6 : decode cX5_keeps 6 = .ok (.getfield 17, 3) := by decide +kernel
theorem dX5_keeps_9 : decode cX5_keeps 9 = .ok (.if_icmp .ge 18, 3) := by decide +kernel
theorem dX5_keeps_12 : decode cX5_keeps 12 = .ok (.iload_n 1, 1) := by decide +kernel
theorem dX5_keeps_13 : decode cX5_keeps 13 = .ok (.aload_n 0, 1) := by decide +kernel
theorem dX5_keeps_14 : decode cX5_keeps 14 = .ok (.getfield 17, 3) := by decide +kernel
theorem dX5_keeps_17 : decode cX5_keeps 17 = .ok (.bipush 64, 2) := by decide +kernel
theorem dX5_keeps_19 : decode cX5_keeps 19 = .ok (.isub, 1) := by decide +kernel
theorem dX5_keeps_20 : decode cX5_keeps 20 = .ok (.if_icmp .lt 7, 3) := by decide +kernel
theorem dX5_keeps_23 : decode cX5_keeps 23 = .ok (.iconst 1, 1) := by decide +kernel
theorem dX5_keeps_24 : decode cX5_keeps 24 = .ok (.goto 4, 3) := by decide +kernel
theorem dX5_keeps_27 : decode cX5_keeps 27 = .ok (.iconst 0, 1) := by decide +kernel
theorem dX5_keeps_28 : decode cX5_keeps 28 = .ok (.ireturn, 1) := by decide +kernel
theorem dX5_read_0 : decode cX5_read 0 = .ok (.aload_n 0, 1) := by decide +kernel
theorem dX5_read_1 : decode cX5_read 1 = .ok (.getfield 9, 3) := by decide +kernel
theorem dX5_read_4 : decode cX5_read 4 = .ok (.iload_n 1, 1) := by decide +kernel
theorem dX5_read_5 : decode cX5_read 5 = .ok (.bipush 63, 2) := by decide +kernel
theorem dX5_read_7 : decode cX5_read 7 = .ok (.iand, 1) := by decide +kernel
theorem dX5_read_8 : decode cX5_read 8 = .ok (.iconst 4, 1) := by decide +kernel
theorem dX5_read_9 : decode cX5_read 9 = .ok (.imul, 1) := by decide +kernel
theorem dX5_read_10 : decode cX5_read 10 = .ok (.iload_n 2, 1) := by decide +kernel
theorem dX5_read_11 : decode cX5_read 11 = .ok (.iadd, 1) := by decide +kernel
theorem dX5_read_12 : decode cX5_read 12 = .ok (.iaload, 1) := by decide +kernel
theorem dX5_read_13 : decode cX5_read 13 = .ok (.ireturn, 1) := by decide +kernel
theorem dX5_write_0 : decode cX5_write 0 = .ok (.aload_n 0, 1) := by decide +kernel
theorem dX5_write_1 : decode cX5_write 1 = .ok (.getfield 17, 3) := by decide +kernel
theorem dX5_write_4 : decode cX5_write 4 = .ok (.bipush 63, 2) := by decide +kernel
theorem dX5_write_6 : decode cX5_write 6 = .ok (.iand, 1) := by decide +kernel
theorem dX5_write_7 : decode cX5_write 7 = .ok (.iconst 4, 1) := by decide +kernel
theorem dX5_write_8 : decode cX5_write 8 = .ok (.imul, 1) := by decide +kernel
theorem dX5_write_9 : decode cX5_write 9 = .ok (.istore 5, 2) := by decide +kernel
theorem dX5_write_11 : decode cX5_write 11 = .ok (.aload_n 0, 1) := by decide +kernel
theorem dX5_write_12 : decode cX5_write 12 = .ok (.getfield 9, 3) := by decide +kernel
theorem dX5_write_15 : decode cX5_write 15 = .ok (.iload 5, 2) := by decide +kernel
theorem dX5_write_17 : decode cX5_write 17 = .ok (.iload_n 1, 1) := by decide +kernel
theorem dX5_write_18 : decode cX5_write 18 = .ok (.iastore, 1) := by decide +kernel
theorem dX5_write_19 : decode cX5_write 19 = .ok (.aload_n 0, 1) := by decide +kernel
theorem dX5_write_20 : decode cX5_write 20 = .ok (.getfield 9, 3) := by decide +kernel
theorem dX5_write_23 : decode cX5_write 23 = .ok (.iload 5, 2) := by decide +kernel
theorem dX5_write_25 : decode cX5_write 25 = .ok (.iconst 1, 1) := by decide +kernel
theorem dX5_write_26 : decode cX5_write 26 = .ok (.iadd, 1) := by decide +kernel
theorem dX5_write_27 : decode cX5_write 27 = .ok (.iload_n 2, 1) := by decide +kernel
theorem dX5_write_28 : decode cX5_write 28 = .ok (.iastore, 1) := by decide +kernel
theorem dX5_write_29 : decode cX5_write 29 = .ok (.aload_n 0, 1) := by decide +kernel
theorem dX5_write_30 : decode cX5_write 30 = .ok (.getfield 9, 3) := by decide +kernel
theorem dX5_write_33 : decode cX5_write 33 = .ok (.iload 5, 2) := by decide +kernel
theorem dX5_write_35 : decode cX5_write 35 = .ok (.iconst 2, 1) := by decide +kernel
theorem dX5_write_36 : decode cX5_write 36 = .ok (.iadd, 1) := by decide +kernel
theorem dX5_write_37 : decode cX5_write 37 = .ok (.iload_n 3, 1) := by decide +kernel
theorem dX5_write_38 : decode cX5_write 38 = .ok (.iastore, 1) := by decide +kernel
theorem dX5_write_39 : decode cX5_write 39 = .ok (.aload_n 0, 1) := by decide +kernel
theorem dX5_write_40 : decode cX5_write 40 = .ok (.getfield 9, 3) := by decide +kernel
theorem dX5_write_43 : decode cX5_write 43 = .ok (.iload 5, 2) := by decide +kernel
theorem dX5_write_45 : decode cX5_write 45 = .ok (.iconst 3, 1) := by decide +kernel
theorem dX5_write_46 : decode cX5_write 46 = .ok (.iadd, 1) := by decide +kernel
theorem dX5_write_47 : decode cX5_write 47 = .ok (.iload 4, 2) := by decide +kernel
theorem dX5_write_49 : decode cX5_write 49 = .ok (.iastore, 1) := by decide +kernel
theorem dX5_write_50 : decode cX5_write 50 = .ok (.iconst 0, 1) := by decide +kernel
theorem dX5_write_51 : decode cX5_write 51 = .ok (.istore 6, 2) := by decide +kernel
theorem dX5_write_53 : decode cX5_write 53 = .ok (.iload 6, 2) := by decide +kernel
theorem dX5_write_55 : decode cX5_write 55 = .ok (.iconst 4, 1) := by decide +kernel
theorem dX5_write_56 : decode cX5_write 56 = .ok (.if_icmp .ge 46, 3) := by decide +kernel
theorem dX5_write_59 : decode cX5_write 59 = .ok (.aload_n 0, 1) := by decide +kernel
theorem dX5_write_60 : decode cX5_write 60 = .ok (.getfield 13, 3) := by decide +kernel
theorem dX5_write_63 : decode cX5_write 63 = .ok (.ldc2_w 21, 3) := by decide +kernel
theorem dX5_write_66 : decode cX5_write 66 = .ok (.lmul, 1) := by decide +kernel
theorem dX5_write_67 : decode cX5_write 67 = .ok (.aload_n 0, 1) := by decide +kernel
theorem dX5_write_68 : decode cX5_write 68 = .ok (.getfield 9, 3) := by decide +kernel
theorem dX5_write_71 : decode cX5_write 71 = .ok (.iload 5, 2) := by decide +kernel
theorem dX5_write_73 : decode cX5_write 73 = .ok (.iload 6, 2) := by decide +kernel
theorem dX5_write_75 : decode cX5_write 75 = .ok (.iadd, 1) := by decide +kernel
theorem dX5_write_76 : decode cX5_write 76 = .ok (.iaload, 1) := by decide +kernel
theorem dX5_write_77 : decode cX5_write 77 = .ok (.i2l, 1) := by decide +kernel
theorem dX5_write_78 : decode cX5_write 78 = .ok (.ladd, 1) := by decide +kernel
theorem dX5_write_79 : decode cX5_write 79 = .ok (.lstore 7, 2) := by decide +kernel
theorem dX5_write_81 : decode cX5_write 81 = .ok (.aload_n 0, 1) := by decide +kernel
theorem dX5_write_82 : decode cX5_write 82 = .ok (.lload 7, 2) := by decide +kernel
theorem dX5_write_84 : decode cX5_write 84 = .ok (.bipush 7, 2) := by decide +kernel
theorem dX5_write_86 : decode cX5_write 86 = .ok (.lshl, 1) := by decide +kernel
theorem dX5_write_87 : decode cX5_write 87 = .ok (.lload 7, 2) := by decide +kernel
theorem dX5_write_89 : decode cX5_write 89 = .ok (.bipush 57, 2) := by decide +kernel
theorem dX5_write_91 : decode cX5_write 91 = .ok (.lushr, 1) := by decide +kernel
theorem dX5_write_92 : decode cX5_write 92 = .ok (.lor, 1) := by decide +kernel
theorem dX5_write_93 : decode cX5_write 93 = .ok (.putfield 13, 3) := by decide +kernel
theorem dX5_write_96 : decode cX5_write 96 = .ok (.iinc 6 1, 3) := by decide +kernel
theorem dX5_write_99 : decode cX5_write 99 = .ok (.goto (-46), 3) := by decide +kernel
theorem dX5_write_102 : decode cX5_write 102 = .ok (.aload_n 0, 1) := by decide +kernel
theorem dX5_write_103 : decode cX5_write 103 = .ok (.dup, 1) := by decide +kernel
theorem dX5_write_104 : decode cX5_write 104 = .ok (.getfield 17, 3) := by decide +kernel
theorem dX5_write_107 : decode cX5_write 107 = .ok (.iconst 1, 1) := by decide +kernel
theorem dX5_write_108 : decode cX5_write 108 = .ok (.iadd, 1) := by decide +kernel
theorem dX5_write_109 : decode cX5_write 109 = .ok (.putfield 17, 3) := by decide +kernel
theorem dX5_write_112 : decode cX5_write 112 = .ok (.return_, 1) := by decide +kernel
set_option maxRecDepth 20000 in
theorem ggX6_init_X8_init : GoodIn wsX6_init wsX8_init := goodIn_r _ [11, 12, 2, 3, 13, 14, 15, 16, 17, 18, 19, 20, 21, 22, 23] (by decide +kernel) (by decide +kernel)
set_option maxRecDepth 20000 in
theorem gX6_init_X8_init : GoodIn wsX6_init (wsX8_init) := ggX6_init_X8_init
theorem dX6_init_0 : decode cX6_init 0 = .ok (.aload_n 0, 1) := by decide +kernel
theorem dX6_init_1 : decode cX6_init 1 = .ok (.invokespecial 1, 3) := by decide +kernel
theorem dX6_init_4 : decode cX6_init 4 = .ok (.aload_n 0, 1) := by decide +kernel
theorem dX6_init_5 : decode cX6_init 5 = .ok (.new 7, 3) := by decide +kernel
theorem dX6_init_8 : decode cX6_init 8 = .ok (.dup, 1) := by decide +kernel
theorem dX6_init_9 : decode cX6_init 9 = .ok (.sipush 900, 3) := by decide +kernel
theorem dX6_init_12 : decode cX6_init 12 = .ok (.bipush 60, 2) := by decide +kernel
theorem dX6_init_14 : decode cX6_init 14 = .ok (.invokespecial 11, 3) := by decide +kernel
theorem dX6_init_17 : decode cX6_init 17 = .ok (.putfield 14, 3) := by decide +kernel
theorem dX6_init_20 : decode cX6_init 20 = .ok (.aload_n 0, 1) := by decide +kernel
theorem dX6_init_21 : decode cX6_init 21 = .ok (.sipush 200, 3) := by decide +kernel
theorem dX6_init_24 : decode cX6_init 24 = .ok (.putfield 18, 3) := by decide +kernel
theorem dX6_init_27 : decode cX6_init 27 = .ok (.return_, 1) := by decide +kernel
set_option maxRecDepth 20000 in
theorem ggX6_carryStroke_X8_add : GoodIn wsX6_carryStroke wsX8_add := goodIn_r _ [9, 10, 11, 12, 20, 21, 22, 23] (by decide +kernel) (by decide +kernel)
set_option maxRecDepth 20000 in
theorem gX6_carryStroke_X8_add : GoodIn wsX6_carryStroke (wsV RX6 32 RX8 yX8_add wsX8_add) := goodIn_app (goodIn_of _ (by decide +kernel)) ggX6_carryStroke_X8_add
theorem dX6_carryStroke_0 : decode cX6_carryStroke 0 = .ok (.aload_n 0, 1) := by decide +kernel
theorem dX6_carryStroke_1 : decode cX6_carryStroke 1 = .ok (.dup, 1) := by decide +kernel
theorem dX6_carryStroke_2 : decode cX6_carryStroke 2 = .ok (.getfield 22, 3) := by decide +kernel
theorem dX6_carryStroke_5 : decode cX6_carryStroke 5 = .ok (.bipush 6, 2) := by decide +kernel
theorem dX6_carryStroke_7 : decode cX6_carryStroke 7 = .ok (.iadd, 1) := by decide +kernel
theorem dX6_carryStroke_8 : decode cX6_carryStroke 8 = .ok (.putfield 22, 3) := by decide +kernel
theorem dX6_carryStroke_11 : decode cX6_carryStroke 11 = .ok (.aload_n 0, 1) := by decide +kernel
theorem dX6_carryStroke_12 : decode cX6_carryStroke 12 = .ok (.getfield 25, 3) := by decide +kernel
theorem dX6_carryStroke_15 : decode cX6_carryStroke 15 = .ok (.ifCond .eq 24, 3) := by decide +kernel
theorem dX6_carryStroke_18 : decode cX6_carryStroke 18 = .ok (.aload_n 0, 1) := by decide +kernel
theorem dX6_carryStroke_19 : decode cX6_carryStroke 19 = .ok (.dup, 1) := by decide +kernel
theorem dX6_carryStroke_20 : decode cX6_carryStroke 20 = .ok (.getfield 29, 3) := by decide +kernel
theorem dX6_carryStroke_23 : decode cX6_carryStroke 23 = .ok (.iconst 1, 1) := by decide +kernel
theorem dX6_carryStroke_24 : decode cX6_carryStroke 24 = .ok (.iadd, 1) := by decide +kernel
theorem dX6_carryStroke_25 : decode cX6_carryStroke 25 = .ok (.putfield 29, 3) := by decide +kernel
theorem dX6_carryStroke_28 : decode cX6_carryStroke 28 = .ok (.aload_n 0, 1) := by decide +kernel
theorem dX6_carryStroke_29 : decode cX6_carryStroke 29 = .ok (.getfield 14, 3) := by decide +kernel
theorem dX6_carryStroke_32 : decode cX6_carryStroke 32 = .ok (.iload_n 1, 1) := by decide +kernel
theorem dX6_carryStroke_33 : decode cX6_carryStroke 33 = .ok (.invokevirtual 32, 3) := by decide +kernel
theorem dX6_carryStroke_36 : decode cX6_carryStroke 36 = .ok (.goto 8, 3) := by decide +kernel
theorem dX6_carryStroke_39 : decode cX6_carryStroke 39 = .ok (.aload_n 0, 1) := by decide +kernel
theorem dX6_carryStroke_40 : decode cX6_carryStroke 40 = .ok (.iconst 0, 1) := by decide +kernel
theorem dX6_carryStroke_41 : decode cX6_carryStroke 41 = .ok (.putfield 29, 3) := by decide +kernel
theorem dX6_carryStroke_44 : decode cX6_carryStroke 44 = .ok (.return_, 1) := by decide +kernel
theorem dX6_hasTooMuchAir_0 : decode cX6_hasTooMuchAir 0 = .ok (.aload_n 0, 1) := by decide +kernel
theorem dX6_hasTooMuchAir_1 : decode cX6_hasTooMuchAir 1 = .ok (.getfield 29, 3) := by decide +kernel
theorem dX6_hasTooMuchAir_4 : decode cX6_hasTooMuchAir 4 = .ok (.iconst 5, 1) := by decide +kernel
theorem dX6_hasTooMuchAir_5 : decode cX6_hasTooMuchAir 5 = .ok (.if_icmp .ge 15, 3) := by decide +kernel
theorem dX6_hasTooMuchAir_8 : decode cX6_hasTooMuchAir 8 = .ok (.aload_n 0, 1) := by decide +kernel
theorem dX6_hasTooMuchAir_9 : decode cX6_hasTooMuchAir 9 = .ok (.getfield 14, 3) := by decide +kernel
theorem dX6_hasTooMuchAir_12 : decode cX6_hasTooMuchAir 12 = .ok (.getfield 36, 3) := by decide +kernel
theorem dX6_hasTooMuchAir_15 : decode cX6_hasTooMuchAir 15 = .ok (.bipush 60, 2) := by decide +kernel
theorem dX6_hasTooMuchAir_17 : decode cX6_hasTooMuchAir 17 = .ok (.if_icmp .lt 7, 3) := by decide +kernel
theorem dX6_hasTooMuchAir_20 : decode cX6_hasTooMuchAir 20 = .ok (.iconst 1, 1) := by decide +kernel
theorem dX6_hasTooMuchAir_21 : decode cX6_hasTooMuchAir 21 = .ok (.goto 4, 3) := by decide +kernel
theorem dX6_hasTooMuchAir_24 : decode cX6_hasTooMuchAir 24 = .ok (.iconst 0, 1) := by decide +kernel
theorem dX6_hasTooMuchAir_25 : decode cX6_hasTooMuchAir 25 = .ok (.ireturn, 1) := by decide +kernel
set_option maxRecDepth 20000 in
theorem ggX6_forgetAir_X8_clear : GoodIn wsX6_forgetAir wsX8_clear := goodIn_r _ [7, 8, 16, 17, 18, 19] (by decide +kernel) (by decide +kernel)
set_option maxRecDepth 20000 in
theorem gX6_forgetAir_X8_clear : GoodIn wsX6_forgetAir (wsV RX6 39 RX8 yX8_clear wsX8_clear) := goodIn_app (goodIn_of _ (by decide +kernel)) ggX6_forgetAir_X8_clear
theorem dX6_forgetAir_0 : decode cX6_forgetAir 0 = .ok (.aload_n 0, 1) := by decide +kernel
theorem dX6_forgetAir_1 : decode cX6_forgetAir 1 = .ok (.iconst 0, 1) := by decide +kernel
theorem dX6_forgetAir_2 : decode cX6_forgetAir 2 = .ok (.putfield 29, 3) := by decide +kernel
theorem dX6_forgetAir_5 : decode cX6_forgetAir 5 = .ok (.aload_n 0, 1) := by decide +kernel
theorem dX6_forgetAir_6 : decode cX6_forgetAir 6 = .ok (.getfield 14, 3) := by decide +kernel
theorem dX6_forgetAir_9 : decode cX6_forgetAir 9 = .ok (.invokevirtual 39, 3) := by decide +kernel
theorem dX6_forgetAir_12 : decode cX6_forgetAir 12 = .ok (.return_, 1) := by decide +kernel
theorem dX6_drainAndTestBlocked_0 : decode cX6_drainAndTestBlocked 0 = .ok (.aload_n 0, 1) := by decide +kernel
theorem dX6_drainAndTestBlocked_1 : decode cX6_drainAndTestBlocked 1 = .ok (.iconst 0, 1) := by decide +kernel
theorem dX6_drainAndTestBlocked_2 : decode cX6_drainAndTestBlocked 2 = .ok (.aload_n 0, 1) := by decide +kernel
theorem dX6_drainAndTestBlocked_3 : decode cX6_drainAndTestBlocked 3 = .ok (.getfield 22, 3) := by decide +kernel
theorem dX6_drainAndTestBlocked_6 : decode cX6_drainAndTestBlocked 6 = .ok (.aload_n 0, 1) := by decide +kernel
theorem dX6_drainAndTestBlocked_7 : decode cX6_drainAndTestBlocked 7 = .ok (.getfield 18, 3) := by decide +kernel
theorem dX6_drainAndTestBlocked_10 : decode cX6_drainAndTestBlocked 10 = .ok (.isub, 1) := by decide +kernel
theorem dX6_drainAndTestBlocked_11 : decode cX6_drainAndTestBlocked 11 = .ok (.invokestatic 42, 3) := by decide +kernel
theorem dX6_drainAndTestBlocked_14 : decode cX6_drainAndTestBlocked 14 = .ok (.putfield 22, 3) := by decide +kernel
theorem dX6_drainAndTestBlocked_17 : decode cX6_drainAndTestBlocked 17 = .ok (.aload_n 0, 1) := by decide +kernel
theorem dX6_drainAndTestBlocked_18 : decode cX6_drainAndTestBlocked 18 = .ok (.aload_n 0, 1) := by decide +kernel
theorem dX6_drainAndTestBlocked_19 : decode cX6_drainAndTestBlocked 19 = .ok (.getfield 22, 3) := by decide +kernel
theorem dX6_drainAndTestBlocked_22 : decode cX6_drainAndTestBlocked 22 = .ok (.bipush 100, 2) := by decide +kernel
theorem dX6_drainAndTestBlocked_24 : decode cX6_drainAndTestBlocked 24 = .ok (.if_icmp .lt 12, 3) := by decide +kernel
theorem dX6_drainAndTestBlocked_27 : decode cX6_drainAndTestBlocked 27 = .ok (.aload_n 0, 1) := by decide +kernel
theorem dX6_drainAndTestBlocked_28 : decode cX6_drainAndTestBlocked 28 = .ok (.getfield 48, 3) := by decide +kernel
theorem dX6_drainAndTestBlocked_31 : decode cX6_drainAndTestBlocked 31 = .ok (.iconst 1, 1) := by decide +kernel
theorem dX6_drainAndTestBlocked_32 : decode cX6_drainAndTestBlocked 32 = .ok (.iadd, 1) := by decide +kernel
theorem dX6_drainAndTestBlocked_33 : decode cX6_drainAndTestBlocked 33 = .ok (.goto 4, 3) := by decide +kernel
theorem dX6_drainAndTestBlocked_36 : decode cX6_drainAndTestBlocked 36 = .ok (.iconst 0, 1) := by decide +kernel
theorem dX6_drainAndTestBlocked_37 : decode cX6_drainAndTestBlocked 37 = .ok (.putfield 48, 3) := by decide +kernel
theorem dX6_drainAndTestBlocked_40 : decode cX6_drainAndTestBlocked 40 = .ok (.aload_n 0, 1) := by decide +kernel
theorem dX6_drainAndTestBlocked_41 : decode cX6_drainAndTestBlocked 41 = .ok (.getfield 48, 3) := by decide +kernel
theorem dX6_drainAndTestBlocked_44 : decode cX6_drainAndTestBlocked 44 = .ok (.iconst 3, 1) := by decide +kernel
theorem dX6_drainAndTestBlocked_45 : decode cX6_drainAndTestBlocked 45 = .ok (.if_icmp .ge 5, 3) := by decide +kernel
theorem dX6_drainAndTestBlocked_48 : decode cX6_drainAndTestBlocked 48 = .ok (.iconst 0, 1) := by decide +kernel
theorem dX6_drainAndTestBlocked_49 : decode cX6_drainAndTestBlocked 49 = .ok (.ireturn, 1) := by decide +kernel
theorem dX6_drainAndTestBlocked_50 : decode cX6_drainAndTestBlocked 50 = .ok (.aload_n 0, 1) := by decide +kernel
theorem dX6_drainAndTestBlocked_51 : decode cX6_drainAndTestBlocked 51 = .ok (.iconst 0, 1) := by decide +kernel
theorem dX6_drainAndTestBlocked_52 : decode cX6_drainAndTestBlocked 52 = .ok (.putfield 22, 3) := by decide +kernel
theorem dX6_drainAndTestBlocked_55 : decode cX6_drainAndTestBlocked 55 = .ok (.aload_n 0, 1) := by decide +kernel
theorem dX6_drainAndTestBlocked_56 : decode cX6_drainAndTestBlocked 56 = .ok (.iconst 0, 1) := by decide +kernel
theorem dX6_drainAndTestBlocked_57 : decode cX6_drainAndTestBlocked 57 = .ok (.putfield 48, 3) := by decide +kernel
theorem dX6_drainAndTestBlocked_60 : decode cX6_drainAndTestBlocked 60 = .ok (.iconst 1, 1) := by decide +kernel
theorem dX6_drainAndTestBlocked_61 : decode cX6_drainAndTestBlocked 61 = .ok (.ireturn, 1) := by decide +kernel
set_option maxRecDepth 20000 in
theorem ggX7_init_X2_init : GoodIn wsX7_init wsX2_init := goodIn_r _ [11, 12, 2, 3, 13, 14, 15, 16, 17, 18, 19, 20, 21, 22, 23, 24, 25, 26, 27] (by decide +kernel) (by decide +kernel)
set_option maxRecDepth 20000 in
theorem gX7_init_X2_init : GoodIn wsX7_init (wsX2_init) := ggX7_init_X2_init
theorem dX7_init_0 : decode cX7_init 0 = .ok (.aload_n 0, 1) := by decide +kernel
theorem dX7_init_1 : decode cX7_init 1 = .ok (.invokespecial 3, 3) := by decide +kernel
theorem dX7_init_4 : decode cX7_init 4 = .ok (.aload_n 0, 1) := by decide +kernel
theorem dX7_init_5 : decode cX7_init 5 = .ok (.new 9, 3) := by decide +kernel
theorem dX7_init_8 : decode cX7_init 8 = .ok (.dup, 1) := by decide +kernel
theorem dX7_init_9 : decode cX7_init 9 = .ok (.iconst (-1), 1) := by decide +kernel
theorem dX7_init_10 : decode cX7_init 10 = .ok (.invokespecial 11, 3) := by decide +kernel
theorem dX7_init_13 : decode cX7_init 13 = .ok (.putfield 14, 3) := by decide +kernel
theorem dX7_init_16 : decode cX7_init 16 = .ok (.aload_n 0, 1) := by decide +kernel
theorem dX7_init_17 : decode cX7_init 17 = .ok (.iconst (-1), 1) := by decide +kernel
theorem dX7_init_18 : decode cX7_init 18 = .ok (.putfield 20, 3) := by decide +kernel
theorem dX7_init_21 : decode cX7_init 21 = .ok (.return_, 1) := by decide +kernel
theorem dX7_renew_0 : decode cX7_renew 0 = .ok (.aload_n 0, 1) := by decide +kernel
theorem dX7_renew_1 : decode cX7_renew 1 = .ok (.aload_n 1, 1) := by decide +kernel
theorem dX7_renew_2 : decode cX7_renew 2 = .ok (.putfield 14, 3) := by decide +kernel
theorem dX7_renew_5 : decode cX7_renew 5 = .ok (.aload_n 0, 1) := by decide +kernel
theorem dX7_renew_6 : decode cX7_renew 6 = .ok (.iload_n 2, 1) := by decide +kernel
theorem dX7_renew_7 : decode cX7_renew 7 = .ok (.putfield 24, 3) := by decide +kernel
theorem dX7_renew_10 : decode cX7_renew 10 = .ok (.aload_n 0, 1) := by decide +kernel
theorem dX7_renew_11 : decode cX7_renew 11 = .ok (.iload_n 3, 1) := by decide +kernel
theorem dX7_renew_12 : decode cX7_renew 12 = .ok (.ifCond .ne 7, 3) := by decide +kernel
theorem dX7_renew_15 : decode cX7_renew 15 = .ok (.iconst (-1), 1) := by decide +kernel
theorem dX7_renew_16 : decode cX7_renew 16 = .ok (.goto 7, 3) := by decide +kernel
theorem dX7_renew_19 : decode cX7_renew 19 = .ok (.iload_n 3, 1) := by decide +kernel
theorem dX7_renew_20 : decode cX7_renew 20 = .ok (.bipush 10, 2) := by decide +kernel
theorem dX7_renew_22 : decode cX7_renew 22 = .ok (.imul, 1) := by decide +kernel
theorem dX7_renew_23 : decode cX7_renew 23 = .ok (.putfield 20, 3) := by decide +kernel
theorem dX7_renew_26 : decode cX7_renew 26 = .ok (.aload_n 0, 1) := by decide +kernel
theorem dX7_renew_27 : decode cX7_renew 27 = .ok (.iconst 0, 1) := by decide +kernel
theorem dX7_renew_28 : decode cX7_renew 28 = .ok (.putfield 27, 3) := by decide +kernel
theorem dX7_renew_31 : decode cX7_renew 31 = .ok (.aload_n 0, 1) := by decide +kernel
theorem dX7_renew_32 : decode cX7_renew 32 = .ok (.iconst 0, 1) := by decide +kernel
theorem dX7_renew_33 : decode cX7_renew 33 = .ok (.putfield 30, 3) := by decide +kernel
theorem dX7_renew_36 : decode cX7_renew 36 = .ok (.return_, 1) := by decide +kernel
theorem dX7_strokesDue_0 : decode cX7_strokesDue 0 = .ok (.aload_n 0, 1) := by decide +kernel
theorem dX7_strokesDue_1 : decode cX7_strokesDue 1 = .ok (.dup, 1) := by decide +kernel
theorem dX7_strokesDue_2 : decode cX7_strokesDue 2 = .ok (.getfield 30, 3) := by decide +kernel
theorem dX7_strokesDue_5 : decode cX7_strokesDue 5 = .ok (.aload_n 0, 1) := by decide +kernel
theorem dX7_strokesDue_6 : decode cX7_strokesDue 6 = .ok (.getfield 24, 3) := by decide +kernel
theorem dX7_strokesDue_9 : decode cX7_strokesDue 9 = .ok (.iadd, 1) := by decide +kernel
theorem dX7_strokesDue_10 : decode cX7_strokesDue 10 = .ok (.putfield 30, 3) := by decide +kernel
theorem dX7_strokesDue_13 : decode cX7_strokesDue 13 = .ok (.aload_n 0, 1) := by decide +kernel
theorem dX7_strokesDue_14 : decode cX7_strokesDue 14 = .ok (.getfield 30, 3) := by decide +kernel
theorem dX7_strokesDue_17 : decode cX7_strokesDue 17 = .ok (.sipush 360, 3) := by decide +kernel
theorem dX7_strokesDue_20 : decode cX7_strokesDue 20 = .ok (.idiv, 1) := by decide +kernel
theorem dX7_strokesDue_21 : decode cX7_strokesDue 21 = .ok (.istore_n 1, 1) := by decide +kernel
theorem dX7_strokesDue_22 : decode cX7_strokesDue 22 = .ok (.aload_n 0, 1) := by decide +kernel
theorem dX7_strokesDue_23 : decode cX7_strokesDue 23 = .ok (.dup, 1) := by decide +kernel
theorem dX7_strokesDue_24 : decode cX7_strokesDue 24 = .ok (.getfield 30, 3) := by decide +kernel
theorem dX7_strokesDue_27 : decode cX7_strokesDue 27 = .ok (.sipush 360, 3) := by decide +kernel
theorem dX7_strokesDue_30 : decode cX7_strokesDue 30 = .ok (.irem, 1) := by decide +kernel
theorem dX7_strokesDue_31 : decode cX7_strokesDue 31 = .ok (.putfield 30, 3) := by decide +kernel
theorem dX7_strokesDue_34 : decode cX7_strokesDue 34 = .ok (.iload_n 1, 1) := by decide +kernel
theorem dX7_strokesDue_35 : decode cX7_strokesDue 35 = .ok (.ireturn, 1) := by decide +kernel
theorem dX7_countStroke_0 : decode cX7_countStroke 0 = .ok (.aload_n 0, 1) := by decide +kernel
theorem dX7_countStroke_1 : decode cX7_countStroke 1 = .ok (.dup, 1) := by decide +kernel
theorem dX7_countStroke_2 : decode cX7_countStroke 2 = .ok (.getfield 27, 3) := by decide +kernel
theorem dX7_countStroke_5 : decode cX7_countStroke 5 = .ok (.iconst 1, 1) := by decide +kernel
theorem dX7_countStroke_6 : decode cX7_countStroke 6 = .ok (.iadd, 1) := by decide +kernel
theorem dX7_countStroke_7 : decode cX7_countStroke 7 = .ok (.putfield 27, 3) := by decide +kernel
theorem dX7_countStroke_10 : decode cX7_countStroke 10 = .ok (.aload_n 0, 1) := by decide +kernel
theorem dX7_countStroke_11 : decode cX7_countStroke 11 = .ok (.getfield 20, 3) := by decide +kernel
theorem dX7_countStroke_14 : decode cX7_countStroke 14 = .ok (.iconst (-1), 1) := by decide +kernel
theorem dX7_countStroke_15 : decode cX7_countStroke 15 = .ok (.if_icmp .ne 5, 3) := by decide +kernel
theorem dX7_countStroke_18 : decode cX7_countStroke 18 = .ok (.iconst 0, 1) := by decide +kernel
theorem dX7_countStroke_19 : decode cX7_countStroke 19 = .ok (.ireturn, 1) := by decide +kernel
theorem dX7_countStroke_20 : decode cX7_countStroke 20 = .ok (.aload_n 0, 1) := by decide +kernel
theorem dX7_countStroke_21 : decode cX7_countStroke 21 = .ok (.dup, 1) := by decide +kernel
theorem dX7_countStroke_22 : decode cX7_countStroke 22 = .ok (.getfield 20, 3) := by decide +kernel
theorem dX7_countStroke_25 : decode cX7_countStroke 25 = .ok (.iconst 1, 1) := by decide +kernel
theorem dX7_countStroke_26 : decode cX7_countStroke 26 = .ok (.isub, 1) := by decide +kernel
theorem dX7_countStroke_27 : decode cX7_countStroke 27 = .ok (.putfield 20, 3) := by decide +kernel
theorem dX7_countStroke_30 : decode cX7_countStroke 30 = .ok (.aload_n 0, 1) := by decide +kernel
theorem dX7_countStroke_31 : decode cX7_countStroke 31 = .ok (.getfield 20, 3) := by decide +kernel
theorem dX7_countStroke_34 : decode cX7_countStroke 34 = .ok (.ifCond .ne 7, 3) := by decide +kernel
theorem dX7_countStroke_37 : decode cX7_countStroke 37 = .ok (.iconst 1, 1) := by decide +kernel
theorem dX7_countStroke_38 : decode cX7_countStroke 38 = .ok (.goto 4, 3) := by decide +kernel
theorem dX7_countStroke_41 : decode cX7_countStroke 41 = .ok (.iconst 0, 1) := by decide +kernel
theorem dX7_countStroke_42 : decode cX7_countStroke 42 = .ok (.ireturn, 1) := by decide +kernel
theorem dX7_keepOpen_0 : decode cX7_keepOpen 0 = .ok (.aload_n 0, 1) := by decide +kernel
theorem dX7_keepOpen_1 : decode cX7_keepOpen 1 = .ok (.aload_n 0, 1) := by decide +kernel
theorem dX7_keepOpen_2 : decode cX7_keepOpen 2 = .ok (.getfield 24, 3) := by decide +kernel
theorem dX7_keepOpen_5 : decode cX7_keepOpen 5 = .ok (.bipush 10, 2) := by decide +kernel
theorem dX7_keepOpen_7 : decode cX7_keepOpen 7 = .ok (.invokestatic 33, 3) := by decide +kernel
theorem dX7_keepOpen_10 : decode cX7_keepOpen 10 = .ok (.putfield 24, 3) := by decide +kernel
theorem dX7_keepOpen_13 : decode cX7_keepOpen 13 = .ok (.aload_n 0, 1) := by decide +kernel
theorem dX7_keepOpen_14 : decode cX7_keepOpen 14 = .ok (.iconst (-1), 1) := by decide +kernel
theorem dX7_keepOpen_15 : decode cX7_keepOpen 15 = .ok (.putfield 20, 3) := by decide +kernel
theorem dX7_keepOpen_18 : decode cX7_keepOpen 18 = .ok (.return_, 1) := by decide +kernel
theorem dX8_init_0 : decode cX8_init 0 = .ok (.aload_n 0, 1) := by decide +kernel
theorem dX8_init_1 : decode cX8_init 1 = .ok (.invokespecial 1, 3) := by decide +kernel
theorem dX8_init_4 : decode cX8_init 4 = .ok (.aload_n 0, 1) := by decide +kernel
theorem dX8_init_5 : decode cX8_init 5 = .ok (.iload_n 1, 1) := by decide +kernel
theorem dX8_init_6 : decode cX8_init 6 = .ok (.putfield 7, 3) := by decide +kernel
theorem dX8_init_9 : decode cX8_init 9 = .ok (.aload_n 0, 1) := by decide +kernel
theorem dX8_init_10 : decode cX8_init 10 = .ok (.iconst 1, 1) := by decide +kernel
theorem dX8_init_11 : decode cX8_init 11 = .ok (.iload_n 2, 1) := by decide +kernel
theorem dX8_init_12 : decode cX8_init 12 = .ok (.invokestatic 13, 3) := by decide +kernel
theorem dX8_init_15 : decode cX8_init 15 = .ok (.newarray .int, 2) := by decide +kernel
theorem dX8_init_17 : decode cX8_init 17 = .ok (.putfield 19, 3) := by decide +kernel
theorem dX8_init_20 : decode cX8_init 20 = .ok (.return_, 1) := by decide +kernel
theorem dX8_forgetOld_0 : decode cX8_forgetOld 0 = .ok (.iconst 0, 1) := by decide +kernel
theorem dX8_forgetOld_1 : decode cX8_forgetOld 1 = .ok (.istore_n 2, 1) := by decide +kernel
theorem dX8_forgetOld_2 : decode cX8_forgetOld 2 = .ok (.iload_n 2, 1) := by decide +kernel
theorem dX8_forgetOld_3 : decode cX8_forgetOld 3 = .ok (.aload_n 0, 1) := by decide +kernel
theorem dX8_forgetOld_4 : decode cX8_forgetOld 4 = .ok (.getfield 19, 3) := by decide +kernel
theorem dX8_forgetOld_7 : decode cX8_forgetOld 7 = .ok (.arraylength, 1) := by decide +kernel
theorem dX8_forgetOld_8 : decode cX8_forgetOld 8 = .ok (.if_icmp .ge 72, 3) := by decide +kernel
theorem dX8_forgetOld_11 : decode cX8_forgetOld 11 = .ok (.aload_n 0, 1) := by decide +kernel
theorem dX8_forgetOld_12 : decode cX8_forgetOld 12 = .ok (.getfield 23, 3) := by decide +kernel
theorem dX8_forgetOld_15 : decode cX8_forgetOld 15 = .ok (.ifCond .le 65, 3) := by decide +kernel
theorem dX8_forgetOld_18 : decode cX8_forgetOld 18 = .ok (.iload_n 1, 1) := by decide +kernel
theorem dX8_forgetOld_19 : decode cX8_forgetOld 19 = .ok (.aload_n 0, 1) := by decide +kernel
theorem dX8_forgetOld_20 : decode cX8_forgetOld 20 = .ok (.getfield 19, 3) := by decide +kernel
theorem dX8_forgetOld_23 : decode cX8_forgetOld 23 = .ok (.aload_n 0, 1) := by decide +kernel
theorem dX8_forgetOld_24 : decode cX8_forgetOld 24 = .ok (.getfield 26, 3) := by decide +kernel
theorem dX8_forgetOld_27 : decode cX8_forgetOld 27 = .ok (.iaload, 1) := by decide +kernel
theorem dX8_forgetOld_28 : decode cX8_forgetOld 28 = .ok (.isub, 1) := by decide +kernel
theorem dX8_forgetOld_29 : decode cX8_forgetOld 29 = .ok (.aload_n 0, 1) := by decide +kernel
theorem dX8_forgetOld_30 : decode cX8_forgetOld 30 = .ok (.getfield 7, 3) := by decide +kernel
theorem dX8_forgetOld_33 : decode cX8_forgetOld 33 = .ok (.if_icmp .lt 47, 3) := by decide +kernel
theorem dX8_forgetOld_36 : decode cX8_forgetOld 36 = .ok (.aload_n 0, 1) := by decide +kernel
theorem dX8_forgetOld_37 : decode cX8_forgetOld 37 = .ok (.aload_n 0, 1) := by decide +kernel
theorem dX8_forgetOld_38 : decode cX8_forgetOld 38 = .ok (.getfield 26, 3) := by decide +kernel
theorem dX8_forgetOld_41 : decode cX8_forgetOld 41 = .ok (.iconst 1, 1) := by decide +kernel
theorem dX8_forgetOld_42 : decode cX8_forgetOld 42 = .ok (.iadd, 1) := by decide +kernel
theorem dX8_forgetOld_43 : decode cX8_forgetOld 43 = .ok (.aload_n 0, 1) := by decide +kernel
theorem dX8_forgetOld_44 : decode cX8_forgetOld 44 = .ok (.getfield 19, 3) := by decide +kernel
theorem dX8_forgetOld_47 : decode cX8_forgetOld 47 = .ok (.arraylength, 1) := by decide +kernel
theorem dX8_forgetOld_48 : decode cX8_forgetOld 48 = .ok (.if_icmp .ge 12, 3) := by decide +kernel
theorem dX8_forgetOld_51 : decode cX8_forgetOld 51 = .ok (.aload_n 0, 1) := by decide +kernel
theorem dX8_forgetOld_52 : decode cX8_forgetOld 52 = .ok (.getfield 26, 3) := by decide +kernel
theorem dX8_forgetOld_55 : decode cX8_forgetOld 55 = .ok (.iconst 1, 1) := by decide +kernel
theorem dX8_forgetOld_56 : decode cX8_forgetOld 56 = .ok (.iadd, 1) := by decide +kernel
theorem dX8_forgetOld_57 : decode cX8_forgetOld 57 = .ok (.goto 4, 3) := by decide +kernel
theorem dX8_forgetOld_60 : decode cX8_forgetOld 60 = .ok (.iconst 0, 1) := by decide +kernel
theorem dX8_forgetOld_61 : decode cX8_forgetOld 61 = .ok (.putfield 26, 3) := by decide +kernel
theorem dX8_forgetOld_64 : decode cX8_forgetOld 64 = .ok (.aload_n 0, 1) := by decide +kernel
theorem dX8_forgetOld_65 : decode cX8_forgetOld 65 = .ok (.dup, 1) := by decide +kernel
theorem dX8_forgetOld_66 : decode cX8_forgetOld 66 = .ok (.getfield 23, 3) := by decide +kernel
theorem dX8_forgetOld_69 : decode cX8_forgetOld 69 = .ok (.iconst 1, 1) := by decide +kernel
theorem dX8_forgetOld_70 : decode cX8_forgetOld 70 = .ok (.isub, 1) := by decide +kernel
theorem dX8_forgetOld_71 : decode cX8_forgetOld 71 = .ok (.putfield 23, 3) := by decide +kernel
theorem dX8_forgetOld_74 : decode cX8_forgetOld 74 = .ok (.iinc 2 1, 3) := by decide +kernel
theorem dX8_forgetOld_77 : decode cX8_forgetOld 77 = .ok (.goto (-75), 3) := by decide +kernel
theorem dX8_forgetOld_80 : decode cX8_forgetOld 80 = .ok (.return_, 1) := by decide +kernel
theorem dX8_add_0 : decode cX8_add 0 = .ok (.aload_n 0, 1) := by decide +kernel
theorem dX8_add_1 : decode cX8_add 1 = .ok (.getfield 23, 3) := by decide +kernel
theorem dX8_add_4 : decode cX8_add 4 = .ok (.aload_n 0, 1) := by decide +kernel
theorem dX8_add_5 : decode cX8_add 5 = .ok (.getfield 19, 3) := by decide +kernel
theorem dX8_add_8 : decode cX8_add 8 = .ok (.arraylength, 1) := by decide +kernel
theorem dX8_add_9 : decode cX8_add 9 = .ok (.if_icmp .ge 49, 3) := by decide +kernel
theorem dX8_add_12 : decode cX8_add 12 = .ok (.aload_n 0, 1) := by decide +kernel
theorem dX8_add_13 : decode cX8_add 13 = .ok (.getfield 26, 3) := by decide +kernel
theorem dX8_add_16 : decode cX8_add 16 = .ok (.aload_n 0, 1) := by decide +kernel
theorem dX8_add_17 : decode cX8_add 17 = .ok (.getfield 23, 3) := by decide +kernel
theorem dX8_add_20 : decode cX8_add 20 = .ok (.iadd, 1) := by decide +kernel
theorem dX8_add_21 : decode cX8_add 21 = .ok (.istore_n 2, 1) := by decide +kernel
theorem dX8_add_22 : decode cX8_add 22 = .ok (.aload_n 0, 1) := by decide +kernel
theorem dX8_add_23 : decode cX8_add 23 = .ok (.getfield 19, 3) := by decide +kernel
theorem dX8_add_26 : decode cX8_add 26 = .ok (.iload_n 2, 1) := by decide +kernel
theorem dX8_add_27 : decode cX8_add 27 = .ok (.aload_n 0, 1) := by decide +kernel
theorem dX8_add_28 : decode cX8_add 28 = .ok (.getfield 19, 3) := by decide +kernel
theorem dX8_add_31 : decode cX8_add 31 = .ok (.arraylength, 1) := by decide +kernel
theorem dX8_add_32 : decode cX8_add 32 = .ok (.if_icmp .ge 7, 3) := by decide +kernel
theorem dX8_add_35 : decode cX8_add 35 = .ok (.iload_n 2, 1) := by decide +kernel
theorem dX8_add_36 : decode cX8_add 36 = .ok (.goto 10, 3) := by decide +kernel
theorem dX8_add_39 : decode cX8_add 39 = .ok (.iload_n 2, 1) := by decide +kernel
theorem dX8_add_40 : decode cX8_add 40 = .ok (.aload_n 0, 1) := by decide +kernel
theorem dX8_add_41 : decode cX8_add 41 = .ok (.getfield 19, 3) := by decide +kernel
theorem dX8_add_44 : decode cX8_add 44 = .ok (.arraylength, 1) := by decide +kernel
theorem dX8_add_45 : decode cX8_add 45 = .ok (.isub, 1) := by decide +kernel
theorem dX8_add_46 : decode cX8_add 46 = .ok (.iload_n 1, 1) := by decide +kernel
theorem dX8_add_47 : decode cX8_add 47 = .ok (.iastore, 1) := by decide +kernel
theorem dX8_add_48 : decode cX8_add 48 = .ok (.aload_n 0, 1) := by decide +kernel
theorem dX8_add_49 : decode cX8_add 49 = .ok (.dup, 1) := by decide +kernel
theorem dX8_add_50 : decode cX8_add 50 = .ok (.getfield 23, 3) := by decide +kernel
theorem dX8_add_53 : decode cX8_add 53 = .ok (.iconst 1, 1) := by decide +kernel
theorem dX8_add_54 : decode cX8_add 54 = .ok (.iadd, 1) := by decide +kernel
theorem dX8_add_55 : decode cX8_add 55 = .ok (.putfield 23, 3) := by decide +kernel
theorem dX8_add_58 : decode cX8_add 58 = .ok (.return_, 1) := by decide +kernel
theorem dX8_clear_0 : decode cX8_clear 0 = .ok (.aload_n 0, 1) := by decide +kernel
theorem dX8_clear_1 : decode cX8_clear 1 = .ok (.iconst 0, 1) := by decide +kernel
theorem dX8_clear_2 : decode cX8_clear 2 = .ok (.putfield 23, 3) := by decide +kernel
theorem dX8_clear_5 : decode cX8_clear 5 = .ok (.return_, 1) := by decide +kernel
theorem dX9_init_0 : decode cX9_init 0 = .ok (.aload_n 0, 1) := by decide +kernel
theorem dX9_init_1 : decode cX9_init 1 = .ok (.invokespecial 1, 3) := by decide +kernel
theorem dX9_init_4 : decode cX9_init 4 = .ok (.return_, 1) := by decide +kernel
theorem dX9_clear_0 : decode cX9_clear 0 = .ok (.aload_n 0, 1) := by decide +kernel
theorem dX9_clear_1 : decode cX9_clear 1 = .ok (.iconst 0, 1) := by decide +kernel
theorem dX9_clear_2 : decode cX9_clear 2 = .ok (.putfield 7, 3) := by decide +kernel
theorem dX9_clear_5 : decode cX9_clear 5 = .ok (.aload_n 0, 1) := by decide +kernel
theorem dX9_clear_6 : decode cX9_clear 6 = .ok (.iconst 0, 1) := by decide +kernel
theorem dX9_clear_7 : decode cX9_clear 7 = .ok (.putfield 13, 3) := by decide +kernel
theorem dX9_clear_10 : decode cX9_clear 10 = .ok (.aload_n 0, 1) := by decide +kernel
theorem dX9_clear_11 : decode cX9_clear 11 = .ok (.iconst 0, 1) := by decide +kernel
theorem dX9_clear_12 : decode cX9_clear 12 = .ok (.putfield 16, 3) := by decide +kernel
theorem dX9_clear_15 : decode cX9_clear 15 = .ok (.aload_n 0, 1) := by decide +kernel
theorem dX9_clear_16 : decode cX9_clear 16 = .ok (.iconst 0, 1) := by decide +kernel
theorem dX9_clear_17 : decode cX9_clear 17 = .ok (.putfield 19, 3) := by decide +kernel
theorem dX9_clear_20 : decode cX9_clear 20 = .ok (.return_, 1) := by decide +kernel
theorem dX9_length_0 : decode cX9_length 0 = .ok (.aload_n 0, 1) := by decide +kernel
theorem dX9_length_1 : decode cX9_length 1 = .ok (.getfield 19, 3) := by decide +kernel
theorem dX9_length_4 : decode cX9_length 4 = .ok (.ifCond .eq 12, 3) := by decide +kernel
theorem dX9_length_7 : decode cX9_length 7 = .ok (.aload_n 0, 1) := by decide +kernel
theorem dX9_length_8 : decode cX9_length 8 = .ok (.getfield 13, 3) := by decide +kernel
theorem dX9_length_11 : decode cX9_length 11 = .ok (.iconst 1, 1) := by decide +kernel
theorem dX9_length_12 : decode cX9_length 12 = .ok (.iadd, 1) := by decide +kernel
theorem dX9_length_13 : decode cX9_length 13 = .ok (.goto 7, 3) := by decide +kernel
theorem dX9_length_16 : decode cX9_length 16 = .ok (.aload_n 0, 1) := by decide +kernel
theorem dX9_length_17 : decode cX9_length 17 = .ok (.getfield 13, 3) := by decide +kernel
theorem dX9_length_20 : decode cX9_length 20 = .ok (.ireturn, 1) := by decide +kernel
theorem dX9_isComplete_0 : decode cX9_isComplete 0 = .ok (.aload_n 0, 1) := by decide +kernel
theorem dX9_isComplete_1 : decode cX9_isComplete 1 = .ok (.getfield 13, 3) := by decide +kernel
theorem dX9_isComplete_4 : decode cX9_isComplete 4 = .ok (.ifCond .le 21, 3) := by decide +kernel
theorem dX9_isComplete_7 : decode cX9_isComplete 7 = .ok (.aload_n 0, 1) := by decide +kernel
theorem dX9_isComplete_8 : decode cX9_isComplete 8 = .ok (.getfield 19, 3) := by decide +kernel
theorem dX9_isComplete_11 : decode cX9_isComplete 11 = .ok (.ifCond .eq 10, 3) := by decide +kernel
theorem dX9_isComplete_14 : decode cX9_isComplete 14 = .ok (.aload_n 0, 1) := by decide +kernel
theorem dX9_isComplete_15 : decode cX9_isComplete 15 = .ok (.getfield 16, 3) := by decide +kernel
theorem dX9_isComplete_18 : decode cX9_isComplete 18 = .ok (.ifCond .le 7, 3) := by decide +kernel
theorem dX9_isComplete_21 : decode cX9_isComplete 21 = .ok (.iconst 1, 1) := by decide +kernel
theorem dX9_isComplete_22 : decode cX9_isComplete 22 = .ok (.goto 4, 3) := by decide +kernel
theorem dX9_isComplete_25 : decode cX9_isComplete 25 = .ok (.iconst 0, 1) := by decide +kernel
theorem dX9_isComplete_26 : decode cX9_isComplete 26 = .ok (.ireturn, 1) := by decide +kernel
theorem dX9_addFigure_0 : decode cX9_addFigure 0 = .ok (.aload_n 0, 1) := by decide +kernel
theorem dX9_addFigure_1 : decode cX9_addFigure 1 = .ok (.getfield 13, 3) := by decide +kernel
theorem dX9_addFigure_4 : decode cX9_addFigure 4 = .ok (.iconst 1, 1) := by decide +kernel
theorem dX9_addFigure_5 : decode cX9_addFigure 5 = .ok (.if_icmp .ne 14, 3) := by decide +kernel
theorem dX9_addFigure_8 : decode cX9_addFigure 8 = .ok (.aload_n 0, 1) := by decide +kernel
theorem dX9_addFigure_9 : decode cX9_addFigure 9 = .ok (.getfield 7, 3) := by decide +kernel
theorem dX9_addFigure_12 : decode cX9_addFigure 12 = .ok (.ifCond .ne 7, 3) := by decide +kernel
theorem dX9_addFigure_15 : decode cX9_addFigure 15 = .ok (.iconst 1, 1) := by decide +kernel
theorem dX9_addFigure_16 : decode cX9_addFigure 16 = .ok (.goto 4, 3) := by decide +kernel
theorem dX9_addFigure_19 : decode cX9_addFigure 19 = .ok (.iconst 0, 1) := by decide +kernel
theorem dX9_addFigure_20 : decode cX9_addFigure 20 = .ok (.istore_n 3, 1) := by decide +kernel
theorem dX9_addFigure_21 : decode cX9_addFigure 21 = .ok (.aload_n 0, 1) := by decide +kernel
theorem dX9_addFigure_22 : decode cX9_addFigure 22 = .ok (.getfield 19, 3) := by decide +kernel
theorem dX9_addFigure_25 : decode cX9_addFigure 25 = .ok (.ifCond .eq 14, 3) := by decide +kernel
theorem dX9_addFigure_28 : decode cX9_addFigure 28 = .ok (.aload_n 0, 1) := by decide +kernel
theorem dX9_addFigure_29 : decode cX9_addFigure 29 = .ok (.getfield 16, 3) := by decide +kernel
theorem dX9_addFigure_32 : decode cX9_addFigure 32 = .ok (.iload_n 2, 1) := by decide +kernel
theorem dX9_addFigure_33 : decode cX9_addFigure 33 = .ok (.if_icmp .lt 20, 3) := by decide +kernel
theorem dX9_addFigure_36 : decode cX9_addFigure 36 = .ok (.goto 15, 3) := by decide +kernel
theorem dX9_addFigure_39 : decode cX9_addFigure 39 = .ok (.aload_n 0, 1) := by decide +kernel
theorem dX9_addFigure_40 : decode cX9_addFigure 40 = .ok (.getfield 13, 3) := by decide +kernel
theorem dX9_addFigure_43 : decode cX9_addFigure 43 = .ok (.iconst 4, 1) := by decide +kernel
theorem dX9_addFigure_44 : decode cX9_addFigure 44 = .ok (.if_icmp .ge 7, 3) := by decide +kernel
theorem dX9_addFigure_47 : decode cX9_addFigure 47 = .ok (.iload_n 3, 1) := by decide +kernel
theorem dX9_addFigure_48 : decode cX9_addFigure 48 = .ok (.ifCond .eq 5, 3) := by decide +kernel
theorem dX9_addFigure_51 : decode cX9_addFigure 51 = .ok (.iconst 0, 1) := by decide +kernel
theorem dX9_addFigure_52 : decode cX9_addFigure 52 = .ok (.ireturn, 1) := by decide +kernel
theorem dX9_addFigure_53 : decode cX9_addFigure 53 = .ok (.aload_n 0, 1) := by decide +kernel
theorem dX9_addFigure_54 : decode cX9_addFigure 54 = .ok (.aload_n 0, 1) := by decide +kernel
theorem dX9_addFigure_55 : decode cX9_addFigure 55 = .ok (.getfield 7, 3) := by decide +kernel
theorem dX9_addFigure_58 : decode cX9_addFigure 58 = .ok (.bipush 10, 2) := by decide +kernel
theorem dX9_addFigure_60 : decode cX9_addFigure 60 = .ok (.imul, 1) := by decide +kernel
theorem dX9_addFigure_61 : decode cX9_addFigure 61 = .ok (.iload_n 1, 1) := by decide +kernel
theorem dX9_addFigure_62 : decode cX9_addFigure 62 = .ok (.iadd, 1) := by decide +kernel
theorem dX9_addFigure_63 : decode cX9_addFigure 63 = .ok (.putfield 7, 3) := by decide +kernel
theorem dX9_addFigure_66 : decode cX9_addFigure 66 = .ok (.aload_n 0, 1) := by decide +kernel
theorem dX9_addFigure_67 : decode cX9_addFigure 67 = .ok (.dup, 1) := by decide +kernel
theorem dX9_addFigure_68 : decode cX9_addFigure 68 = .ok (.getfield 13, 3) := by decide +kernel
theorem dX9_addFigure_71 : decode cX9_addFigure 71 = .ok (.iconst 1, 1) := by decide +kernel
theorem dX9_addFigure_72 : decode cX9_addFigure 72 = .ok (.iadd, 1) := by decide +kernel
theorem dX9_addFigure_73 : decode cX9_addFigure 73 = .ok (.putfield 13, 3) := by decide +kernel
theorem dX9_addFigure_76 : decode cX9_addFigure 76 = .ok (.aload_n 0, 1) := by decide +kernel
theorem dX9_addFigure_77 : decode cX9_addFigure 77 = .ok (.getfield 19, 3) := by decide +kernel
theorem dX9_addFigure_80 : decode cX9_addFigure 80 = .ok (.ifCond .eq 13, 3) := by decide +kernel
theorem dX9_addFigure_83 : decode cX9_addFigure 83 = .ok (.aload_n 0, 1) := by decide +kernel
theorem dX9_addFigure_84 : decode cX9_addFigure 84 = .ok (.dup, 1) := by decide +kernel
theorem dX9_addFigure_85 : decode cX9_addFigure 85 = .ok (.getfield 16, 3) := by decide +kernel
theorem dX9_addFigure_88 : decode cX9_addFigure 88 = .ok (.iconst 1, 1) := by decide +kernel
theorem dX9_addFigure_89 : decode cX9_addFigure 89 = .ok (.iadd, 1) := by decide +kernel
theorem dX9_addFigure_90 : decode cX9_addFigure 90 = .ok (.putfield 16, 3) := by decide +kernel
theorem dX9_addFigure_93 : decode cX9_addFigure 93 = .ok (.iconst 1, 1) := by decide +kernel
theorem dX9_addFigure_94 : decode cX9_addFigure 94 = .ok (.ireturn, 1) := by decide +kernel
theorem dX9_addPoint_0 : decode cX9_addPoint 0 = .ok (.aload_n 0, 1) := by decide +kernel
theorem dX9_addPoint_1 : decode cX9_addPoint 1 = .ok (.getfield 19, 3) := by decide +kernel
theorem dX9_addPoint_4 : decode cX9_addPoint 4 = .ok (.ifCond .ne 14, 3) := by decide +kernel
theorem dX9_addPoint_7 : decode cX9_addPoint 7 = .ok (.aload_n 0, 1) := by decide +kernel
theorem dX9_addPoint_8 : decode cX9_addPoint 8 = .ok (.getfield 13, 3) := by decide +kernel
theorem dX9_addPoint_11 : decode cX9_addPoint 11 = .ok (.ifCond .eq 7, 3) := by decide +kernel
theorem dX9_addPoint_14 : decode cX9_addPoint 14 = .ok (.iload_n 1, 1) := by decide +kernel
theorem dX9_addPoint_15 : decode cX9_addPoint 15 = .ok (.ifCond .ne 5, 3) := by decide +kernel
theorem dX9_addPoint_18 : decode cX9_addPoint 18 = .ok (.iconst 0, 1) := by decide +kernel
theorem dX9_addPoint_19 : decode cX9_addPoint 19 = .ok (.ireturn, 1) := by decide +kernel
theorem dX9_addPoint_20 : decode cX9_addPoint 20 = .ok (.aload_n 0, 1) := by decide +kernel
theorem dX9_addPoint_21 : decode cX9_addPoint 21 = .ok (.iconst 1, 1) := by decide +kernel
theorem dX9_addPoint_22 : decode cX9_addPoint 22 = .ok (.putfield 19, 3) := by decide +kernel
theorem dX9_addPoint_25 : decode cX9_addPoint 25 = .ok (.iconst 1, 1) := by decide +kernel
theorem dX9_addPoint_26 : decode cX9_addPoint 26 = .ok (.ireturn, 1) := by decide +kernel
theorem dX9_inUnits_0 : decode cX9_inUnits 0 = .ok (.aload_n 0, 1) := by decide +kernel
theorem dX9_inUnits_1 : decode cX9_inUnits 1 = .ok (.getfield 7, 3) := by decide +kernel
theorem dX9_inUnits_4 : decode cX9_inUnits 4 = .ok (.istore_n 2, 1) := by decide +kernel
theorem dX9_inUnits_5 : decode cX9_inUnits 5 = .ok (.aload_n 0, 1) := by decide +kernel
theorem dX9_inUnits_6 : decode cX9_inUnits 6 = .ok (.getfield 16, 3) := by decide +kernel
theorem dX9_inUnits_9 : decode cX9_inUnits 9 = .ok (.istore_n 3, 1) := by decide +kernel
theorem dX9_inUnits_10 : decode cX9_inUnits 10 = .ok (.iload_n 3, 1) := by decide +kernel
theorem dX9_inUnits_11 : decode cX9_inUnits 11 = .ok (.iload_n 1, 1) := by decide +kernel
theorem dX9_inUnits_12 : decode cX9_inUnits 12 = .ok (.if_icmp .ge 14, 3) := by decide +kernel
theorem dX9_inUnits_15 : decode cX9_inUnits 15 = .ok (.iload_n 2, 1) := by decide +kernel
theorem dX9_inUnits_16 : decode cX9_inUnits 16 = .ok (.bipush 10, 2) := by decide +kernel
theorem dX9_inUnits_18 : decode cX9_inUnits 18 = .ok (.imul, 1) := by decide +kernel
theorem dX9_inUnits_19 : decode cX9_inUnits 19 = .ok (.istore_n 2, 1) := by decide +kernel
theorem dX9_inUnits_20 : decode cX9_inUnits 20 = .ok (.iinc 3 1, 3) := by decide +kernel
theorem dX9_inUnits_23 : decode cX9_inUnits 23 = .ok (.goto (-13), 3) := by decide +kernel
theorem dX9_inUnits_26 : decode cX9_inUnits 26 = .ok (.iload_n 2, 1) := by decide +kernel
theorem dX9_inUnits_27 : decode cX9_inUnits 27 = .ok (.ireturn, 1) := by decide +kernel
set_option maxRecDepth 20000 in
theorem ggX10_init_X5_init : GoodIn wsX10_init wsX5_init := goodIn_r _ [20, 21, 2, 3, 22, 23, 24, 115, 116, 117] (by decide +kernel) (by decide +kernel)
set_option maxRecDepth 20000 in
theorem gX10_init_X5_init_n23 : GoodIn wsX10_init (wsX5_init) := ggX10_init_X5_init
set_option maxRecDepth 20000 in
theorem ggX10_init_X2_init : GoodIn wsX10_init wsX2_init := goodIn_r _ [27, 28, 2, 3, 29, 30, 118, 119, 120, 121, 122, 123, 124, 125, 126, 127, 128, 129, 130] (by decide +kernel) (by decide +kernel)
set_option maxRecDepth 20000 in
theorem gX10_init_X2_init : GoodIn wsX10_init (wsX2_init) := ggX10_init_X2_init
set_option maxRecDepth 20000 in
theorem ggX10_init_X1_init : GoodIn wsX10_init wsX1_init := goodIn_r _ [33, 34, 2, 3, 35, 36, 37, 38, 39, 40, 41, 42, 43, 44, 45, 46, 47, 48, 49, 50, 51, 52, 53, 54, 55, 56, 57, 58, 59, 60, 61, 62, 63, 64, 15, 16, 65, 66, 67, 68, 69, 70, 26, 27, 28, 29, 30, 71, 72, 73, 74, 75, 76, 77, 78, 79, 80, 81, 82, 83, 84, 85, 86, 87, 88, 89, 90, 91, 92, 93, 94, 22, 95, 96, 97, 98, 99, 100, 101, 102, 103, 104, 105, 106, 142, 143, 144, 145, 146, 147, 148, 131, 132, 133, 134, 135, 136, 137, 138, 139, 140, 141, 149, 150, 151, 152, 153, 154, 155, 156, 157, 158, 159, 160, 161, 162, 163, 164, 165, 166, 167, 168, 169, 170, 118, 119, 120, 121, 122, 123, 124, 125, 126, 127, 128, 129, 130, 171, 172, 173, 174] (by decide +kernel) (by decide +kernel)
set_option maxRecDepth 20000 in
theorem gX10_init_X1_init : GoodIn wsX10_init (wsX1_init) := ggX10_init_X1_init
theorem dX10_init_0 : decode cX10_init 0 = .ok (.aload_n 0, 1) := by decide +kernel
theorem dX10_init_1 : decode cX10_init 1 = .ok (.invokespecial 1, 3) := by decide +kernel
theorem dX10_init_4 : decode cX10_init 4 = .ok (.aload_n 0, 1) := by decide +kernel
theorem dX10_init_5 : decode cX10_init 5 = .ok (.bipush 16, 2) := by decide +kernel
theorem dX10_init_7 : decode cX10_init 7 = .ok (.anewarray 9, 3) := by decide +kernel
theorem dX10_init_10 : decode cX10_init 10 = .ok (.putfield 11, 3) := by decide +kernel
theorem dX10_init_13 : decode cX10_init 13 = .ok (.aload_n 0, 1) := by decide +kernel
theorem dX10_init_14 : decode cX10_init 14 = .ok (.iconst 3, 1) := by decide +kernel
theorem dX10_init_15 : decode cX10_init 15 = .ok (.anewarray 15, 3) := by decide +kernel
theorem dX10_init_18 : decode cX10_init 18 = .ok (.putfield 17, 3) := by decide +kernel
theorem dX10_init_21 : decode cX10_init 21 = .ok (.aload_n 0, 1) := by decide +kernel
theorem dX10_init_22 : decode cX10_init 22 = .ok (.new 21, 3) := by decide +kernel
theorem dX10_init_25 : decode cX10_init 25 = .ok (.dup, 1) := by decide +kernel
theorem dX10_init_26 : decode cX10_init 26 = .ok (.invokespecial 23, 3) := by decide +kernel
theorem dX10_init_29 : decode cX10_init 29 = .ok (.putfield 24, 3) := by decide +kernel
theorem dX10_init_32 : decode cX10_init 32 = .ok (.aload_n 0, 1) := by decide +kernel
theorem dX10_init_33 : decode cX10_init 33 = .ok (.ldc 28, 2) := by decide +kernel
theorem dX10_init_35 : decode cX10_init 35 = .ok (.putfield 29, 3) := by decide +kernel
theorem dX10_init_38 : decode cX10_init 38 = .ok (.aload_n 0, 1) := by decide +kernel
theorem dX10_init_39 : decode cX10_init 39 = .ok (.iconst 1, 1) := by decide +kernel
theorem dX10_init_40 : decode cX10_init 40 = .ok (.putfield 33, 3) := by decide +kernel
theorem dX10_init_43 : decode cX10_init 43 = .ok (.iconst 0, 1) := by decide +kernel
theorem dX10_init_44 : decode cX10_init 44 = .ok (.istore_n 1, 1) := by decide +kernel
theorem dX10_init_45 : decode cX10_init 45 = .ok (.iload_n 1, 1) := by decide +kernel
theorem dX10_init_46 : decode cX10_init 46 = .ok (.bipush 16, 2) := by decide +kernel
theorem dX10_init_48 : decode cX10_init 48 = .ok (.if_icmp .ge 23, 3) := by decide +kernel
theorem dX10_init_51 : decode cX10_init 51 = .ok (.aload_n 0, 1) := by decide +kernel
theorem dX10_init_52 : decode cX10_init 52 = .ok (.getfield 11, 3) := by decide +kernel
theorem dX10_init_55 : decode cX10_init 55 = .ok (.iload_n 1, 1) := by decide +kernel
theorem dX10_init_56 : decode cX10_init 56 = .ok (.new 9, 3) := by decide +kernel
theorem dX10_init_59 : decode cX10_init 59 = .ok (.dup, 1) := by decide +kernel
theorem dX10_init_60 : decode cX10_init 60 = .ok (.iload_n 1, 1) := by decide +kernel
theorem dX10_init_61 : decode cX10_init 61 = .ok (.invokespecial 37, 3) := by decide +kernel
theorem dX10_init_64 : decode cX10_init 64 = .ok (.aastore, 1) := by decide +kernel
theorem dX10_init_65 : decode cX10_init 65 = .ok (.iinc 1 1, 3) := by decide +kernel
theorem dX10_init_68 : decode cX10_init 68 = .ok (.goto (-23), 3) := by decide +kernel
theorem dX10_init_71 : decode cX10_init 71 = .ok (.iconst 0, 1) := by decide +kernel
theorem dX10_init_72 : decode cX10_init 72 = .ok (.istore_n 1, 1) := by decide +kernel
theorem dX10_init_73 : decode cX10_init 73 = .ok (.iload_n 1, 1) := by decide +kernel
theorem dX10_init_74 : decode cX10_init 74 = .ok (.iconst 3, 1) := by decide +kernel
theorem dX10_init_75 : decode cX10_init 75 = .ok (.if_icmp .ge 23, 3) := by decide +kernel
theorem dX10_init_78 : decode cX10_init 78 = .ok (.aload_n 0, 1) := by decide +kernel
theorem dX10_init_79 : decode cX10_init 79 = .ok (.getfield 17, 3) := by decide +kernel
theorem dX10_init_82 : decode cX10_init 82 = .ok (.iload_n 1, 1) := by decide +kernel
theorem dX10_init_83 : decode cX10_init 83 = .ok (.new 15, 3) := by decide +kernel
theorem dX10_init_86 : decode cX10_init 86 = .ok (.dup, 1) := by decide +kernel
theorem dX10_init_87 : decode cX10_init 87 = .ok (.iload_n 1, 1) := by decide +kernel
theorem dX10_init_88 : decode cX10_init 88 = .ok (.invokespecial 40, 3) := by decide +kernel
theorem dX10_init_91 : decode cX10_init 91 = .ok (.aastore, 1) := by decide +kernel
theorem dX10_init_92 : decode cX10_init 92 = .ok (.iinc 1 1, 3) := by decide +kernel
theorem dX10_init_95 : decode cX10_init 95 = .ok (.goto (-22), 3) := by decide +kernel
theorem dX10_init_98 : decode cX10_init 98 = .ok (.return_, 1) := by decide +kernel
set_option maxRecDepth 20000 in
theorem ggX10_drug_X10_refuseDrugInUse : GoodIn wsX10_drug wsX10_refuseDrugInUse := goodIn_ca (goodIn_r _ [19, 20, 21, 22, 23, 24, 25, 26, 27, 38, 39, 40, 41, 42, 43, 44, 45, 59, 60, 61, 62, 63, 64, 65, 66, 67, 68, 69, 70, 71, 72, 73, 74, 46, 47, 48, 49, 50, 51, 52, 53, 54, 55, 56, 57, 58, 75, 76, 77, 78, 79, 80, 81] (by decide +kernel) (by decide +kernel)) (goodIn_sub (fun _ h => List.mem_cons_of_mem _ (List.mem_append_right _ h)) (by decide +kernel))
set_option maxRecDepth 20000 in
theorem gX10_drug_X10_refuseDrugInUse : GoodIn wsX10_drug (wsV RX10 56 RX10 yX10_refuseDrugInUse wsX10_refuseDrugInUse) := goodIn_app (goodIn_of _ (by decide +kernel)) ggX10_drug_X10_refuseDrugInUse
set_option maxRecDepth 20000 in
theorem ggX10_drug_X2_tellMore : GoodIn wsX10_drug wsX2_tellMore := goodIn_r _ [32, 33, 34, 35, 36, 37, 46, 47, 48, 49, 50, 51, 52, 53, 54, 55, 56, 57, 58] (by decide +kernel) (by decide +kernel)
set_option maxRecDepth 20000 in
theorem gX10_drug_X2_tellMore : GoodIn wsX10_drug (wsV RX10 81 RX2 yX2_tellMore wsX2_tellMore) := goodIn_app (goodIn_of _ (by decide +kernel)) ggX10_drug_X2_tellMore
theorem dX10_drug_0 : decode cX10_drug 0 = .ok (.iload_n 1, 1) := by decide +kernel
theorem dX10_drug_1 : decode cX10_drug 1 = .ok (.ifCond .lt 9, 3) := by decide +kernel
theorem dX10_drug_4 : decode cX10_drug 4 = .ok (.iload_n 1, 1) := by decide +kernel
theorem dX10_drug_5 : decode cX10_drug 5 = .ok (.bipush 16, 2) := by decide +kernel
theorem dX10_drug_7 : decode cX10_drug 7 = .ok (.if_icmp .lt 13, 3) := by decide +kernel
theorem dX10_drug_10 : decode cX10_drug 10 = .ok (.new 41, 3) := by decide +kernel
theorem dX10_drug_13 : decode cX10_drug 13 = .ok (.dup, 1) := by decide +kernel
theorem dX10_drug_14 : decode cX10_drug 14 = .ok (.ldc 43, 2) := by decide +kernel
theorem dX10_drug_16 : decode cX10_drug 16 = .ok (.invokespecial 45, 3) := by decide +kernel
theorem dX10_drug_19 : decode cX10_drug 19 = .ok (.athrow, 1) := by decide +kernel
theorem dX10_drug_20 : decode cX10_drug 20 = .ok (.iload_n 2, 1) := by decide +kernel
theorem dX10_drug_21 : decode cX10_drug 21 = .ok (.ifCond .lt 20, 3) := by decide +kernel
theorem dX10_drug_24 : decode cX10_drug 24 = .ok (.iload_n 2, 1) := by decide +kernel
theorem dX10_drug_25 : decode cX10_drug 25 = .ok (.iconst 1, 1) := by decide +kernel
theorem dX10_drug_26 : decode cX10_drug 26 = .ok (.if_icmp .gt 15, 3) := by decide +kernel
theorem dX10_drug_29 : decode cX10_drug 29 = .ok (.iload_n 3, 1) := by decide +kernel
theorem dX10_drug_30 : decode cX10_drug 30 = .ok (.iconst 1, 1) := by decide +kernel
theorem dX10_drug_31 : decode cX10_drug 31 = .ok (.if_icmp .lt 10, 3) := by decide +kernel
theorem dX10_drug_34 : decode cX10_drug 34 = .ok (.iload_n 3, 1) := by decide +kernel
theorem dX10_drug_35 : decode cX10_drug 35 = .ok (.sipush 10000, 3) := by decide +kernel
theorem dX10_drug_38 : decode cX10_drug 38 = .ok (.if_icmp .le 13, 3) := by decide +kernel
theorem dX10_drug_41 : decode cX10_drug 41 = .ok (.new 48, 3) := by decide +kernel
theorem dX10_drug_44 : decode cX10_drug 44 = .ok (.dup, 1) := by decide +kernel
theorem dX10_drug_45 : decode cX10_drug 45 = .ok (.ldc 50, 2) := by decide +kernel
theorem dX10_drug_47 : decode cX10_drug 47 = .ok (.invokespecial 52, 3) := by decide +kernel
theorem dX10_drug_50 : decode cX10_drug 50 = .ok (.athrow, 1) := by decide +kernel
theorem dX10_drug_51 : decode cX10_drug 51 = .ok (.iload 4, 2) := by decide +kernel
theorem dX10_drug_53 : decode cX10_drug 53 = .ok (.iconst 1, 1) := by decide +kernel
theorem dX10_drug_54 : decode cX10_drug 54 = .ok (.if_icmp .lt 31, 3) := by decide +kernel
theorem dX10_drug_57 : decode cX10_drug 57 = .ok (.iload 5, 2) := by decide +kernel
theorem dX10_drug_59 : decode cX10_drug 59 = .ok (.iload 4, 2) := by decide +kernel
theorem dX10_drug_61 : decode cX10_drug 61 = .ok (.if_icmp .lt 24, 3) := by decide +kernel
theorem dX10_drug_64 : decode cX10_drug 64 = .ok (.iload 6, 2) := by decide +kernel
theorem dX10_drug_66 : decode cX10_drug 66 = .ok (.iload 5, 2) := by decide +kernel
theorem dX10_drug_68 : decode cX10_drug 68 = .ok (.if_icmp .lt 17, 3) := by decide +kernel
theorem dX10_drug_71 : decode cX10_drug 71 = .ok (.iload 7, 2) := by decide +kernel
theorem dX10_drug_73 : decode cX10_drug 73 = .ok (.iload 6, 2) := by decide +kernel
theorem dX10_drug_75 : decode cX10_drug 75 = .ok (.if_icmp .lt 10, 3) := by decide +kernel
theorem dX10_drug_78 : decode cX10_drug 78 = .ok (.iload 7, 2) := by decide +kernel
theorem dX10_drug_80 : decode cX10_drug 80 = .ok (.ldc 53, 2) := by decide +kernel
theorem dX10_drug_82 : decode cX10_drug 82 = .ok (.if_icmp .le 13, 3) := by decide +kernel
theorem dX10_drug_85 : decode cX10_drug 85 = .ok (.new 48, 3) := by decide +kernel
theorem dX10_drug_88 : decode cX10_drug 88 = .ok (.dup, 1) := by decide +kernel
theorem dX10_drug_89 : decode cX10_drug 89 = .ok (.ldc 54, 2) := by decide +kernel
theorem dX10_drug_91 : decode cX10_drug 91 = .ok (.invokespecial 52, 3) := by decide +kernel
theorem dX10_drug_94 : decode cX10_drug 94 = .ok (.athrow, 1) := by decide +kernel
theorem dX10_drug_95 : decode cX10_drug 95 = .ok (.aload_n 0, 1) := by decide +kernel
theorem dX10_drug_96 : decode cX10_drug 96 = .ok (.iload_n 1, 1) := by decide +kernel
theorem dX10_drug_97 : decode cX10_drug 97 = .ok (.invokevirtual 56, 3) := by decide +kernel
theorem dX10_drug_100 : decode cX10_drug 100 = .ok (.aload_n 0, 1) := by decide +kernel
theorem dX10_drug_101 : decode cX10_drug 101 = .ok (.getfield 11, 3) := by decide +kernel
theorem dX10_drug_104 : decode cX10_drug 104 = .ok (.iload_n 1, 1) := by decide +kernel
theorem dX10_drug_105 : decode cX10_drug 105 = .ok (.aaload, 1) := by decide +kernel
theorem dX10_drug_106 : decode cX10_drug 106 = .ok (.astore 8, 2) := by decide +kernel
theorem dX10_drug_108 : decode cX10_drug 108 = .ok (.aload 8, 2) := by decide +kernel
theorem dX10_drug_110 : decode cX10_drug 110 = .ok (.iconst 1, 1) := by decide +kernel
theorem dX10_drug_111 : decode cX10_drug 111 = .ok (.putfield 59, 3) := by decide +kernel
theorem dX10_drug_114 : decode cX10_drug 114 = .ok (.aload 8, 2) := by decide +kernel
theorem dX10_drug_116 : decode cX10_drug 116 = .ok (.iload_n 2, 1) := by decide +kernel
theorem dX10_drug_117 : decode cX10_drug 117 = .ok (.putfield 62, 3) := by decide +kernel
theorem dX10_drug_120 : decode cX10_drug 120 = .ok (.aload 8, 2) := by decide +kernel
theorem dX10_drug_122 : decode cX10_drug 122 = .ok (.iload_n 3, 1) := by decide +kernel
theorem dX10_drug_123 : decode cX10_drug 123 = .ok (.putfield 65, 3) := by decide +kernel
theorem dX10_drug_126 : decode cX10_drug 126 = .ok (.aload 8, 2) := by decide +kernel
theorem dX10_drug_128 : decode cX10_drug 128 = .ok (.iload 4, 2) := by decide +kernel
theorem dX10_drug_130 : decode cX10_drug 130 = .ok (.putfield 68, 3) := by decide +kernel
theorem dX10_drug_133 : decode cX10_drug 133 = .ok (.aload 8, 2) := by decide +kernel
theorem dX10_drug_135 : decode cX10_drug 135 = .ok (.iload 5, 2) := by decide +kernel
theorem dX10_drug_137 : decode cX10_drug 137 = .ok (.putfield 71, 3) := by decide +kernel
theorem dX10_drug_140 : decode cX10_drug 140 = .ok (.aload 8, 2) := by decide +kernel
theorem dX10_drug_142 : decode cX10_drug 142 = .ok (.iload 6, 2) := by decide +kernel
theorem dX10_drug_144 : decode cX10_drug 144 = .ok (.putfield 74, 3) := by decide +kernel
theorem dX10_drug_147 : decode cX10_drug 147 = .ok (.aload 8, 2) := by decide +kernel
theorem dX10_drug_149 : decode cX10_drug 149 = .ok (.iload 7, 2) := by decide +kernel
theorem dX10_drug_151 : decode cX10_drug 151 = .ok (.putfield 77, 3) := by decide +kernel
theorem dX10_drug_154 : decode cX10_drug 154 = .ok (.aload 8, 2) := by decide +kernel
theorem dX10_drug_156 : decode cX10_drug 156 = .ok (.ldc 80, 2) := by decide +kernel
theorem dX10_drug_158 : decode cX10_drug 158 = .ok (.iconst 0, 1) := by decide +kernel
theorem dX10_drug_159 : decode cX10_drug 159 = .ok (.iconst 1, 1) := by decide +kernel
theorem dX10_drug_160 : decode cX10_drug 160 = .ok (.iconst 0, 1) := by decide +kernel
theorem dX10_drug_161 : decode cX10_drug 161 = .ok (.iconst 1, 1) := by decide +kernel
theorem dX10_drug_162 : decode cX10_drug 162 = .ok (.invokevirtual 81, 3) := by decide +kernel
theorem dX10_drug_165 : decode cX10_drug 165 = .ok (.return_, 1) := by decide +kernel
set_option maxRecDepth 20000 in
theorem ggX10_more_X10_toldDrug : GoodIn wsX10_more wsX10_toldDrug := goodIn_ca (goodIn_r _ [8, 9, 10, 11, 12, 13, 14, 7, 15, 16, 39, 40, 41, 42, 43, 44, 45, 46, 47, 48, 49, 50, 51, 52, 53, 54, 55, 56, 57, 58, 59] (by decide +kernel) (by decide +kernel)) (goodIn_sub (fun _ h => List.mem_cons_of_mem _ (List.mem_append_left _ (List.mem_append_right _ h))) (by decide +kernel))
set_option maxRecDepth 20000 in
theorem gX10_more_X10_toldDrug : GoodIn wsX10_more (wsV RX10 85 RX10 yX10_toldDrug wsX10_toldDrug) := goodIn_app (goodIn_of _ (by decide +kernel)) ggX10_more_X10_toldDrug
set_option maxRecDepth 20000 in
theorem ggX10_more_X10_refuseDrugInUse : GoodIn wsX10_more wsX10_refuseDrugInUse := goodIn_ca (goodIn_r _ [20, 21, 22, 23, 24, 25, 26, 27, 28, 39, 40, 41, 42, 43, 44, 45, 46, 60, 61, 62, 63, 64, 65, 66, 67, 68, 69, 70, 71, 72, 73, 74, 75, 47, 48, 49, 50, 51, 52, 53, 54, 55, 56, 57, 58, 59, 76, 77, 78, 79, 80, 81, 82] (by decide +kernel) (by decide +kernel)) (goodIn_sub (fun _ h => List.mem_cons_of_mem _ (List.mem_append_right _ h)) (by decide +kernel))
set_option maxRecDepth 20000 in
theorem gX10_more_X10_refuseDrugInUse : GoodIn wsX10_more (wsV RX10 56 RX10 yX10_refuseDrugInUse wsX10_refuseDrugInUse) := goodIn_app (goodIn_of _ (by decide +kernel)) ggX10_more_X10_refuseDrugInUse
set_option maxRecDepth 20000 in
theorem ggX10_more_X2_tellMore : GoodIn wsX10_more wsX2_tellMore := goodIn_r _ [33, 34, 35, 36, 37, 38, 47, 48, 49, 50, 51, 52, 53, 54, 55, 56, 57, 58, 59] (by decide +kernel) (by decide +kernel)
set_option maxRecDepth 20000 in
theorem gX10_more_X2_tellMore : GoodIn wsX10_more (wsV RX10 81 RX2 yX2_tellMore wsX2_tellMore) := goodIn_app (goodIn_of _ (by decide +kernel)) ggX10_more_X2_tellMore
theorem dX10_more_0 : decode cX10_more 0 = .ok (.aload_n 0, 1) := by decide +kernel
theorem dX10_more_1 : decode cX10_more 1 = .ok (.iload_n 1, 1) := by decide +kernel
theorem dX10_more_2 : decode cX10_more 2 = .ok (.invokevirtual 85, 3) := by decide +kernel
theorem dX10_more_5 : decode cX10_more 5 = .ok (.astore 7, 2) := by decide +kernel
theorem dX10_more_7 : decode cX10_more 7 = .ok (.iload_n 2, 1) := by decide +kernel
theorem dX10_more_8 : decode cX10_more 8 = .ok (.iconst 1, 1) := by decide +kernel
theorem dX10_more_9 : decode cX10_more 9 = .ok (.if_icmp .lt 33, 3) := by decide +kernel
theorem dX10_more_12 : decode cX10_more 12 = .ok (.iload_n 2, 1) := by decide +kernel
theorem dX10_more_13 : decode cX10_more 13 = .ok (.ldc 80, 2) := by decide +kernel
theorem dX10_more_15 : decode cX10_more 15 = .ok (.if_icmp .gt 27, 3) := by decide +kernel
theorem dX10_more_18 : decode cX10_more 18 = .ok (.iload_n 3, 1) := by decide +kernel
theorem dX10_more_19 : decode cX10_more 19 = .ok (.ifCond .lt 23, 3) := by decide +kernel
theorem dX10_more_22 : decode cX10_more 22 = .ok (.iload_n 3, 1) := by decide +kernel
theorem dX10_more_23 : decode cX10_more 23 = .ok (.sipush 5000, 3) := by decide +kernel
theorem dX10_more_26 : decode cX10_more 26 = .ok (.if_icmp .gt 16, 3) := by decide +kernel
theorem dX10_more_29 : decode cX10_more 29 = .ok (.iload 4, 2) := by decide +kernel
theorem dX10_more_31 : decode cX10_more 31 = .ok (.iconst 1, 1) := by decide +kernel
theorem dX10_more_32 : decode cX10_more 32 = .ok (.if_icmp .lt 10, 3) := by decide +kernel
theorem dX10_more_35 : decode cX10_more 35 = .ok (.iload 4, 2) := by decide +kernel
theorem dX10_more_37 : decode cX10_more 37 = .ok (.bipush 30, 2) := by decide +kernel
theorem dX10_more_39 : decode cX10_more 39 = .ok (.if_icmp .le 13, 3) := by decide +kernel
theorem dX10_more_42 : decode cX10_more 42 = .ok (.new 48, 3) := by decide +kernel
theorem dX10_more_45 : decode cX10_more 45 = .ok (.dup, 1) := by decide +kernel
theorem dX10_more_46 : decode cX10_more 46 = .ok (.ldc 89, 2) := by decide +kernel
theorem dX10_more_48 : decode cX10_more 48 = .ok (.invokespecial 52, 3) := by decide +kernel
theorem dX10_more_51 : decode cX10_more 51 = .ok (.athrow, 1) := by decide +kernel
theorem dX10_more_52 : decode cX10_more 52 = .ok (.iload 5, 2) := by decide +kernel
theorem dX10_more_54 : decode cX10_more 54 = .ok (.ifCond .lt 24, 3) := by decide +kernel
theorem dX10_more_57 : decode cX10_more 57 = .ok (.iload 5, 2) := by decide +kernel
theorem dX10_more_59 : decode cX10_more 59 = .ok (.sipush 3600, 3) := by decide +kernel
theorem dX10_more_62 : decode cX10_more 62 = .ok (.if_icmp .gt 16, 3) := by decide +kernel
theorem dX10_more_65 : decode cX10_more 65 = .ok (.iload 6, 2) := by decide +kernel
theorem dX10_more_67 : decode cX10_more 67 = .ok (.iconst 1, 1) := by decide +kernel
theorem dX10_more_68 : decode cX10_more 68 = .ok (.if_icmp .lt 10, 3) := by decide +kernel
theorem dX10_more_71 : decode cX10_more 71 = .ok (.iload 6, 2) := by decide +kernel
theorem dX10_more_73 : decode cX10_more 73 = .ok (.bipush 20, 2) := by decide +kernel
theorem dX10_more_75 : decode cX10_more 75 = .ok (.if_icmp .le 13, 3) := by decide +kernel
theorem dX10_more_78 : decode cX10_more 78 = .ok (.new 48, 3) := by decide +kernel
theorem dX10_more_81 : decode cX10_more 81 = .ok (.dup, 1) := by decide +kernel
theorem dX10_more_82 : decode cX10_more 82 = .ok (.ldc 91, 2) := by decide +kernel
theorem dX10_more_84 : decode cX10_more 84 = .ok (.invokespecial 52, 3) := by decide +kernel
theorem dX10_more_87 : decode cX10_more 87 = .ok (.athrow, 1) := by decide +kernel
theorem dX10_more_88 : decode cX10_more 88 = .ok (.aload_n 0, 1) := by decide +kernel
theorem dX10_more_89 : decode cX10_more 89 = .ok (.iload_n 1, 1) := by decide +kernel
theorem dX10_more_90 : decode cX10_more 90 = .ok (.invokevirtual 56, 3) := by decide +kernel
theorem dX10_more_93 : decode cX10_more 93 = .ok (.aload 7, 2) := by decide +kernel
theorem dX10_more_95 : decode cX10_more 95 = .ok (.iload_n 2, 1) := by decide +kernel
theorem dX10_more_96 : decode cX10_more 96 = .ok (.iload_n 3, 1) := by decide +kernel
theorem dX10_more_97 : decode cX10_more 97 = .ok (.iload 4, 2) := by decide +kernel
theorem dX10_more_99 : decode cX10_more 99 = .ok (.iload 5, 2) := by decide +kernel
theorem dX10_more_101 : decode cX10_more 101 = .ok (.iload 6, 2) := by decide +kernel
theorem dX10_more_103 : decode cX10_more 103 = .ok (.invokevirtual 81, 3) := by decide +kernel
theorem dX10_more_106 : decode cX10_more 106 = .ok (.return_, 1) := by decide +kernel
set_option maxRecDepth 20000 in
theorem ggX10_key_X10_press : GoodIn wsX10_key wsX10_press := goodIn_r _ [11, 12, 13, 14, 4, 15, 16, 17, 10, 18, 5, 19, 20, 21, 22, 23, 24, 25, 26, 27, 28, 29, 30, 31, 32, 33, 34, 35, 36, 37, 38, 39, 40, 41, 42, 43, 44, 45, 46, 47, 48, 49, 50, 51, 52, 53, 54, 55, 56, 57, 58, 59, 60, 61, 62, 63, 64, 65, 66, 67, 68, 69, 70, 71, 72, 73, 74, 75, 76, 77, 78, 79, 80, 81, 82, 83, 84, 85, 86, 87, 88, 89, 90, 91, 92, 93, 94, 95, 96, 97, 98, 99, 100, 101, 102, 103, 104, 105, 106, 107, 108, 109, 110, 111, 112, 113, 114, 115, 116, 117, 118, 119, 120, 121, 122, 123, 124, 125, 126, 127, 128, 129, 130, 131, 132, 133, 134, 135, 136, 137, 138, 139, 140, 141, 142, 143, 144, 145, 146, 147, 148, 149, 150, 151, 152, 153, 154, 155, 156, 157, 158, 159, 160, 161, 162, 163, 164, 165, 166, 167, 168, 169, 170, 171, 172, 173, 174, 175, 176, 177, 178, 179, 180, 181, 182, 183, 184, 185, 186, 187, 188, 189, 190, 191, 192, 193, 194, 195, 196, 197, 198, 199, 200, 201, 202, 203, 204, 205, 206, 207, 208, 209, 210, 211, 212, 213, 214, 215, 216, 217, 218, 219, 220, 221, 222, 223, 224, 225, 226, 227, 228, 229, 230, 231, 232, 233, 234, 235, 236, 237, 238, 239, 240, 241, 242, 243, 244, 245, 246, 247, 248, 249, 250, 251, 252, 253, 254, 255, 256, 257, 258, 259, 260, 261, 262, 263, 264, 265, 266, 267, 268, 269, 270, 271, 272, 273, 274, 275, 276, 277, 278, 279, 280, 281, 282, 286, 287, 288, 289, 290, 291, 292, 293, 294, 295, 296, 297, 298, 299, 300, 301, 302, 303, 304, 305, 306, 307, 308, 309, 310, 311, 312, 313, 314, 315, 316, 317, 318, 319, 320, 321, 322, 323, 324, 325, 326, 327, 328, 329, 330, 331, 332, 333, 334, 335, 336, 337, 338, 339, 340, 341, 342, 343, 344, 345, 346, 347, 348, 349, 350, 351, 352, 353] (by decide +kernel) (by decide +kernel)
set_option maxRecDepth 20000 in
theorem gX10_key_X10_press : GoodIn wsX10_key (wsV RX10 98 RX10 yX10_press wsX10_press) := goodIn_app (goodIn_of _ (by decide +kernel)) ggX10_key_X10_press
set_option maxRecDepth 20000 in
theorem ggX10_key_X10_keepsEntryAlive : GoodIn wsX10_key wsX10_keepsEntryAlive := goodIn_r _ [285] (by decide +kernel) (by decide +kernel)
set_option maxRecDepth 20000 in
theorem gX10_key_X10_keepsEntryAlive : GoodIn wsX10_key (va_wsS RX10 102 yX10_keepsEntryAlive wsX10_keepsEntryAlive) := goodIn_app (goodIn_of _ (by decide +kernel)) ggX10_key_X10_keepsEntryAlive
theorem dX10_key_0 : decode cX10_key 0 = .ok (.iload_n 1, 1) := by decide +kernel
theorem dX10_key_1 : decode cX10_key 1 = .ok (.ifCond .lt 9, 3) := by decide +kernel
theorem dX10_key_4 : decode cX10_key 4 = .ok (.iload_n 1, 1) := by decide +kernel
theorem dX10_key_5 : decode cX10_key 5 = .ok (.bipush 21, 2) := by decide +kernel
theorem dX10_key_7 : decode cX10_key 7 = .ok (.if_icmp .le 13, 3) := by decide +kernel
theorem dX10_key_10 : decode cX10_key 10 = .ok (.new 48, 3) := by decide +kernel
theorem dX10_key_13 : decode cX10_key 13 = .ok (.dup, 1) := by decide +kernel
theorem dX10_key_14 : decode cX10_key 14 = .ok (.ldc 93, 2) := by decide +kernel
theorem dX10_key_16 : decode cX10_key 16 = .ok (.invokespecial 52, 3) := by decide +kernel
theorem dX10_key_19 : decode cX10_key 19 = .ok (.athrow, 1) := by decide +kernel
theorem dX10_key_20 : decode cX10_key 20 = .ok (.aload_n 0, 1) := by decide +kernel
theorem dX10_key_21 : decode cX10_key 21 = .ok (.getfield 17, 3) := by decide +kernel
theorem dX10_key_24 : decode cX10_key 24 = .ok (.aload_n 0, 1) := by decide +kernel
theorem dX10_key_25 : decode cX10_key 25 = .ok (.getfield 95, 3) := by decide +kernel
theorem dX10_key_28 : decode cX10_key 28 = .ok (.aaload, 1) := by decide +kernel
theorem dX10_key_29 : decode cX10_key 29 = .ok (.astore_n 2, 1) := by decide +kernel
theorem dX10_key_30 : decode cX10_key 30 = .ok (.aload_n 0, 1) := by decide +kernel
theorem dX10_key_31 : decode cX10_key 31 = .ok (.aload_n 2, 1) := by decide +kernel
theorem dX10_key_32 : decode cX10_key 32 = .ok (.iload_n 1, 1) := by decide +kernel
theorem dX10_key_33 : decode cX10_key 33 = .ok (.invokevirtual 98, 3) := by decide +kernel
theorem dX10_key_36 : decode cX10_key 36 = .ok (.istore_n 3, 1) := by decide +kernel
theorem dX10_key_37 : decode cX10_key 37 = .ok (.iload_n 3, 1) := by decide +kernel
theorem dX10_key_38 : decode cX10_key 38 = .ok (.iconst (-1), 1) := by decide +kernel
theorem dX10_key_39 : decode cX10_key 39 = .ok (.if_icmp .eq 18, 3) := by decide +kernel
theorem dX10_key_42 : decode cX10_key 42 = .ok (.iload_n 1, 1) := by decide +kernel
theorem dX10_key_43 : decode cX10_key 43 = .ok (.invokestatic 102, 3) := by decide +kernel
theorem dX10_key_46 : decode cX10_key 46 = .ok (.ifCond .eq 11, 3) := by decide +kernel
theorem dX10_key_49 : decode cX10_key 49 = .ok (.aload_n 2, 1) := by decide +kernel
theorem dX10_key_50 : decode cX10_key 50 = .ok (.getfield 106, 3) := by decide +kernel
theorem dX10_key_53 : decode cX10_key 53 = .ok (.iconst 0, 1) := by decide +kernel
theorem dX10_key_54 : decode cX10_key 54 = .ok (.putfield 110, 3) := by decide +kernel
theorem dX10_key_57 : decode cX10_key 57 = .ok (.iload_n 3, 1) := by decide +kernel
theorem dX10_key_58 : decode cX10_key 58 = .ok (.ireturn, 1) := by decide +kernel
set_option maxRecDepth 20000 in
theorem ggX10_ticks_X10_passTick : GoodIn wsX10_ticks wsX10_passTick := goodIn_r _ [7, 8, 9, 10, 11, 12, 6, 13, 14, 15, 16, 17, 18, 19, 20, 21, 22, 23, 24, 25, 26, 27, 28, 29, 30, 31, 32, 33, 34, 35, 36, 37, 38, 39, 40, 41, 42, 43, 44, 45, 46, 47, 48, 49, 50, 51, 52, 53, 54, 55, 56, 57, 58, 59, 60, 61, 62, 63, 64, 65, 66, 67, 68, 69, 70, 71, 72, 73, 74, 75, 76, 77, 78, 79, 80, 81, 82, 83, 84, 85, 86, 87, 88, 89, 90, 91, 92, 93, 94, 95, 96, 97, 98, 99, 100, 101, 102, 103, 104, 105, 106, 107, 108, 109, 110, 111, 112, 113, 114, 115, 116, 117, 118, 119, 120, 121, 122, 123, 124, 125, 126, 127, 128, 129, 130, 131, 132, 133, 134, 135, 136, 137, 138, 139, 140, 141, 142, 143, 144, 145, 146, 147, 148, 149, 150, 151, 152, 153, 154, 155, 156, 157, 158, 159, 160, 161, 162, 163, 164, 165, 166, 167, 168, 169, 170, 171, 172, 173, 174, 175, 176, 177, 178, 179, 180, 181, 182, 183, 184, 185, 186, 187, 188, 189, 190, 191, 192, 193, 194, 195, 196, 197, 198, 199, 200, 201, 202, 203, 204, 205, 206, 207, 208, 209, 210, 211, 212, 213, 214, 215, 216, 217, 218, 219, 220, 221, 222, 223, 224, 225, 226, 227, 228, 229, 230, 231, 232, 233, 234, 235, 236, 237, 238, 239, 240, 241, 242, 243, 244, 245, 246, 247, 248, 249, 250, 251, 252, 253, 254, 255, 256, 257, 258, 259, 260, 261, 262, 263, 264, 265, 266, 267, 268, 269, 270, 271, 272, 273, 274, 275, 276, 277, 278] (by decide +kernel) (by decide +kernel)
set_option maxRecDepth 20000 in
theorem gX10_ticks_X10_passTick : GoodIn wsX10_ticks (wsV RX10 117 RX10 yX10_passTick wsX10_passTick) := goodIn_app (goodIn_of _ (by decide +kernel)) ggX10_ticks_X10_passTick
theorem dX10_ticks_0 : decode cX10_ticks 0 = .ok (.iload_n 1, 1) := by decide +kernel
theorem dX10_ticks_1 : decode cX10_ticks 1 = .ok (.ifCond .lt 10, 3) := by decide +kernel
theorem dX10_ticks_4 : decode cX10_ticks 4 = .ok (.iload_n 1, 1) := by decide +kernel
theorem dX10_ticks_5 : decode cX10_ticks 5 = .ok (.sipush 600, 3) := by decide +kernel
theorem dX10_ticks_8 : decode cX10_ticks 8 = .ok (.if_icmp .le 13, 3) := by decide +kernel
theorem dX10_ticks_11 : decode cX10_ticks 11 = .ok (.new 48, 3) := by decide +kernel
theorem dX10_ticks_14 : decode cX10_ticks 14 = .ok (.dup, 1) := by decide +kernel
theorem dX10_ticks_15 : decode cX10_ticks 15 = .ok (.ldc 115, 2) := by decide +kernel
theorem dX10_ticks_17 : decode cX10_ticks 17 = .ok (.invokespecial 52, 3) := by decide +kernel
theorem dX10_ticks_20 : decode cX10_ticks 20 = .ok (.athrow, 1) := by decide +kernel
theorem dX10_ticks_21 : decode cX10_ticks 21 = .ok (.iconst 0, 1) := by decide +kernel
theorem dX10_ticks_22 : decode cX10_ticks 22 = .ok (.istore_n 2, 1) := by decide +kernel
theorem dX10_ticks_23 : decode cX10_ticks 23 = .ok (.iconst 0, 1) := by decide +kernel
theorem dX10_ticks_24 : decode cX10_ticks 24 = .ok (.istore_n 3, 1) := by decide +kernel
theorem dX10_ticks_25 : decode cX10_ticks 25 = .ok (.iload_n 3, 1) := by decide +kernel
theorem dX10_ticks_26 : decode cX10_ticks 26 = .ok (.iload_n 1, 1) := by decide +kernel
theorem dX10_ticks_27 : decode cX10_ticks 27 = .ok (.if_icmp .ge 16, 3) := by decide +kernel
theorem dX10_ticks_30 : decode cX10_ticks 30 = .ok (.iload_n 2, 1) := by decide +kernel
theorem dX10_ticks_31 : decode cX10_ticks 31 = .ok (.aload_n 0, 1) := by decide +kernel
theorem dX10_ticks_32 : decode cX10_ticks 32 = .ok (.invokevirtual 117, 3) := by decide +kernel
theorem dX10_ticks_35 : decode cX10_ticks 35 = .ok (.iadd, 1) := by decide +kernel
theorem dX10_ticks_36 : decode cX10_ticks 36 = .ok (.istore_n 2, 1) := by decide +kernel
theorem dX10_ticks_37 : decode cX10_ticks 37 = .ok (.iinc 3 1, 3) := by decide +kernel
theorem dX10_ticks_40 : decode cX10_ticks 40 = .ok (.goto (-15), 3) := by decide +kernel
theorem dX10_ticks_43 : decode cX10_ticks 43 = .ok (.iload_n 2, 1) := by decide +kernel
theorem dX10_ticks_44 : decode cX10_ticks 44 = .ok (.ireturn, 1) := by decide +kernel
set_option maxRecDepth 20000 in
theorem ggX10_flow_X10_channelAt : GoodIn wsX10_flow wsX10_channelAt := goodIn_ca (goodIn_r _ [9, 10, 11, 12, 31, 32, 33, 34, 35, 36, 37, 38] (by decide +kernel) (by decide +kernel)) (goodIn_sub (fun _ h => List.mem_cons_of_mem _ (List.mem_append_right _ h)) (by decide +kernel))
set_option maxRecDepth 20000 in
theorem gX10_flow_X10_channelAt : GoodIn wsX10_flow (wsV RX10 121 RX10 yX10_channelAt wsX10_channelAt) := goodIn_app (goodIn_of _ (by decide +kernel)) ggX10_flow_X10_channelAt
theorem dX10_flow_0 : decode cX10_flow 0 = .ok (.aload_n 0, 1) := by decide +kernel
theorem dX10_flow_1 : decode cX10_flow 1 = .ok (.iload_n 1, 1) := by decide +kernel
theorem dX10_flow_2 : decode cX10_flow 2 = .ok (.invokevirtual 121, 3) := by decide +kernel
theorem dX10_flow_5 : decode cX10_flow 5 = .ok (.getfield 125, 3) := by decide +kernel
theorem dX10_flow_8 : decode cX10_flow 8 = .ok (.astore_n 3, 1) := by decide +kernel
theorem dX10_flow_9 : decode cX10_flow 9 = .ok (.iload_n 2, 1) := by decide +kernel
theorem dX10_flow_10 : decode cX10_flow 10 = .ok (.ifCond .lt 10, 3) := by decide +kernel
theorem dX10_flow_13 : decode cX10_flow 13 = .ok (.iload_n 2, 1) := by decide +kernel
theorem dX10_flow_14 : decode cX10_flow 14 = .ok (.sipush 1000, 3) := by decide +kernel
theorem dX10_flow_17 : decode cX10_flow 17 = .ok (.if_icmp .le 13, 3) := by decide +kernel
theorem dX10_flow_20 : decode cX10_flow 20 = .ok (.new 48, 3) := by decide +kernel
theorem dX10_flow_23 : decode cX10_flow 23 = .ok (.dup, 1) := by decide +kernel
theorem dX10_flow_24 : decode cX10_flow 24 = .ok (.ldc 129, 2) := by decide +kernel
theorem dX10_flow_26 : decode cX10_flow 26 = .ok (.invokespecial 52, 3) := by decide +kernel
theorem dX10_flow_29 : decode cX10_flow 29 = .ok (.athrow, 1) := by decide +kernel
theorem dX10_flow_30 : decode cX10_flow 30 = .ok (.aload_n 3, 1) := by decide +kernel
theorem dX10_flow_31 : decode cX10_flow 31 = .ok (.getfield 131, 3) := by decide +kernel
theorem dX10_flow_34 : decode cX10_flow 34 = .ok (.istore 4, 2) := by decide +kernel
theorem dX10_flow_36 : decode cX10_flow 36 = .ok (.aload_n 3, 1) := by decide +kernel
theorem dX10_flow_37 : decode cX10_flow 37 = .ok (.iload_n 2, 1) := by decide +kernel
theorem dX10_flow_38 : decode cX10_flow 38 = .ok (.putfield 131, 3) := by decide +kernel
theorem dX10_flow_41 : decode cX10_flow 41 = .ok (.iload 4, 2) := by decide +kernel
theorem dX10_flow_43 : decode cX10_flow 43 = .ok (.ireturn, 1) := by decide +kernel
set_option maxRecDepth 20000 in
theorem ggX10_air_X10_channelAt : GoodIn wsX10_air wsX10_channelAt := goodIn_ca (goodIn_r _ [7, 8, 9, 10, 29, 30, 31, 32, 33, 34, 35, 36] (by decide +kernel) (by decide +kernel)) (goodIn_sub (fun _ h => List.mem_cons_of_mem _ (List.mem_append_right _ h)) (by decide +kernel))
set_option maxRecDepth 20000 in
theorem gX10_air_X10_channelAt : GoodIn wsX10_air (wsV RX10 121 RX10 yX10_channelAt wsX10_channelAt) := goodIn_app (goodIn_of _ (by decide +kernel)) ggX10_air_X10_channelAt
theorem dX10_air_0 : decode cX10_air 0 = .ok (.aload_n 0, 1) := by decide +kernel
theorem dX10_air_1 : decode cX10_air 1 = .ok (.iload_n 1, 1) := by decide +kernel
theorem dX10_air_2 : decode cX10_air 2 = .ok (.invokevirtual 121, 3) := by decide +kernel
theorem dX10_air_5 : decode cX10_air 5 = .ok (.getfield 125, 3) := by decide +kernel
theorem dX10_air_8 : decode cX10_air 8 = .ok (.astore_n 3, 1) := by decide +kernel
theorem dX10_air_9 : decode cX10_air 9 = .ok (.aload_n 3, 1) := by decide +kernel
theorem dX10_air_10 : decode cX10_air 10 = .ok (.getfield 135, 3) := by decide +kernel
theorem dX10_air_13 : decode cX10_air 13 = .ok (.istore 4, 2) := by decide +kernel
theorem dX10_air_15 : decode cX10_air 15 = .ok (.aload_n 3, 1) := by decide +kernel
theorem dX10_air_16 : decode cX10_air 16 = .ok (.iload_n 2, 1) := by decide +kernel
theorem dX10_air_17 : decode cX10_air 17 = .ok (.putfield 135, 3) := by decide +kernel
theorem dX10_air_20 : decode cX10_air 20 = .ok (.iload 4, 2) := by decide +kernel
theorem dX10_air_22 : decode cX10_air 22 = .ok (.ireturn, 1) := by decide +kernel
set_option maxRecDepth 20000 in
theorem ggX10_door_X10_channelAt : GoodIn wsX10_door wsX10_channelAt := goodIn_ca (goodIn_r _ [8, 9, 10, 11, 61, 62, 63, 64, 65, 66, 67, 68] (by decide +kernel) (by decide +kernel)) (goodIn_sub (fun _ h => List.mem_cons_of_mem _ (List.mem_append_right _ h)) (by decide +kernel))
set_option maxRecDepth 20000 in
theorem gX10_door_X10_channelAt : GoodIn wsX10_door (wsV RX10 121 RX10 yX10_channelAt wsX10_channelAt) := goodIn_app (goodIn_of _ (by decide +kernel)) ggX10_door_X10_channelAt
set_option maxRecDepth 20000 in
theorem ggX10_door_X10_latch : GoodIn wsX10_door wsX10_latch := goodIn_r _ [15, 16, 17, 18, 19, 20, 3, 21, 22, 23, 24, 25, 26, 27, 28, 29, 30, 31, 32, 33, 34, 35, 36, 37, 38, 39, 40, 41, 42, 43, 44, 45, 46, 47, 48, 49, 50, 51, 52, 53, 61, 62, 63, 64, 65, 66, 67, 68, 69, 70, 71, 72, 73, 74] (by decide +kernel) (by decide +kernel)
set_option maxRecDepth 20000 in
theorem gX10_door_X10_latch : GoodIn wsX10_door (wsV RX10 144 RX10 yX10_latch wsX10_latch) := goodIn_app (goodIn_of _ (by decide +kernel)) ggX10_door_X10_latch
theorem dX10_door_0 : decode cX10_door 0 = .ok (.aload_n 0, 1) := by decide +kernel
theorem dX10_door_1 : decode cX10_door 1 = .ok (.iload_n 1, 1) := by decide +kernel
theorem dX10_door_2 : decode cX10_door 2 = .ok (.invokevirtual 121, 3) := by decide +kernel
theorem dX10_door_5 : decode cX10_door 5 = .ok (.astore_n 3, 1) := by decide +kernel
theorem dX10_door_6 : decode cX10_door 6 = .ok (.aload_n 3, 1) := by decide +kernel
theorem dX10_door_7 : decode cX10_door 7 = .ok (.getfield 125, 3) := by decide +kernel
theorem dX10_door_10 : decode cX10_door 10 = .ok (.getfield 138, 3) := by decide +kernel
theorem dX10_door_13 : decode cX10_door 13 = .ok (.istore 4, 2) := by decide +kernel
theorem dX10_door_15 : decode cX10_door 15 = .ok (.aload_n 3, 1) := by decide +kernel
theorem dX10_door_16 : decode cX10_door 16 = .ok (.getfield 125, 3) := by decide +kernel
theorem dX10_door_19 : decode cX10_door 19 = .ok (.iload_n 2, 1) := by decide +kernel
theorem dX10_door_20 : decode cX10_door 20 = .ok (.putfield 138, 3) := by decide +kernel
theorem dX10_door_23 : decode cX10_door 23 = .ok (.iload_n 2, 1) := by decide +kernel
theorem dX10_door_24 : decode cX10_door 24 = .ok (.ifCond .eq 18, 3) := by decide +kernel
theorem dX10_door_27 : decode cX10_door 27 = .ok (.aload_n 3, 1) := by decide +kernel
theorem dX10_door_28 : decode cX10_door 28 = .ok (.getfield 141, 3) := by decide +kernel
theorem dX10_door_31 : decode cX10_door 31 = .ok (.bipush 7, 2) := by decide +kernel
theorem dX10_door_33 : decode cX10_door 33 = .ok (.if_icmp .ne 9, 3) := by decide +kernel
theorem dX10_door_36 : decode cX10_door 36 = .ok (.aload_n 0, 1) := by decide +kernel
theorem dX10_door_37 : decode cX10_door 37 = .ok (.aload_n 3, 1) := by decide +kernel
theorem dX10_door_38 : decode cX10_door 38 = .ok (.iconst 2, 1) := by decide +kernel
theorem dX10_door_39 : decode cX10_door 39 = .ok (.invokevirtual 144, 3) := by decide +kernel
theorem dX10_door_42 : decode cX10_door 42 = .ok (.iload 4, 2) := by decide +kernel
theorem dX10_door_44 : decode cX10_door 44 = .ok (.ireturn, 1) := by decide +kernel
theorem dX10_mains_0 : decode cX10_mains 0 = .ok (.aload_n 0, 1) := by decide +kernel
theorem dX10_mains_1 : decode cX10_mains 1 = .ok (.getfield 33, 3) := by decide +kernel
theorem dX10_mains_4 : decode cX10_mains 4 = .ok (.istore_n 2, 1) := by decide +kernel
theorem dX10_mains_5 : decode cX10_mains 5 = .ok (.aload_n 0, 1) := by decide +kernel
theorem dX10_mains_6 : decode cX10_mains 6 = .ok (.iload_n 1, 1) := by decide +kernel
theorem dX10_mains_7 : decode cX10_mains 7 = .ok (.putfield 33, 3) := by decide +kernel
theorem dX10_mains_10 : decode cX10_mains 10 = .ok (.iload_n 2, 1) := by decide +kernel
theorem dX10_mains_11 : decode cX10_mains 11 = .ok (.ireturn, 1) := by decide +kernel
set_option maxRecDepth 20000 in
theorem ggX10_about_X10_isSounding : GoodIn wsX10_about wsX10_isSounding := goodIn_r _ [12, 13, 14, 3, 15, 16, 17, 18, 19, 20, 21, 22, 23, 27, 28, 29, 30, 31, 32, 33, 34, 35, 36, 37] (by decide +kernel) (by decide +kernel)
set_option maxRecDepth 20000 in
theorem gX10_about_X10_isSounding : GoodIn wsX10_about (wsV RX10 151 RX10 yX10_isSounding wsX10_isSounding) := goodIn_app (goodIn_of _ (by decide +kernel)) ggX10_about_X10_isSounding
theorem dX10_about_0 : decode cX10_about 0 = .ok (.iload_n 1, 1) := by decide +kernel
theorem dX10_about_1 : decode cX10_about 1 = .ok (.tableswitch 71 0 4 #[35, 40, 45, 50, 63], 35) := by decide +kernel
theorem dX10_about_36 : decode cX10_about 36 = .ok (.aload_n 0, 1) := by decide +kernel
theorem dX10_about_37 : decode cX10_about 37 = .ok (.getfield 148, 3) := by decide +kernel
theorem dX10_about_40 : decode cX10_about 40 = .ok (.ireturn, 1) := by decide +kernel
theorem dX10_about_41 : decode cX10_about 41 = .ok (.aload_n 0, 1) := by decide +kernel
theorem dX10_about_42 : decode cX10_about 42 = .ok (.getfield 29, 3) := by decide +kernel
theorem dX10_about_45 : decode cX10_about 45 = .ok (.ireturn, 1) := by decide +kernel
theorem dX10_about_46 : decode cX10_about 46 = .ok (.aload_n 0, 1) := by decide +kernel
theorem dX10_about_47 : decode cX10_about 47 = .ok (.getfield 95, 3) := by decide +kernel
theorem dX10_about_50 : decode cX10_about 50 = .ok (.ireturn, 1) := by decide +kernel
theorem dX10_about_51 : decode cX10_about 51 = .ok (.aload_n 0, 1) := by decide +kernel
theorem dX10_about_52 : decode cX10_about 52 = .ok (.invokevirtual 151, 3) := by decide +kernel
theorem dX10_about_55 : decode cX10_about 55 = .ok (.ifCond .eq 7, 3) := by decide +kernel
theorem dX10_about_58 : decode cX10_about 58 = .ok (.iconst 1, 1) := by decide +kernel
theorem dX10_about_59 : decode cX10_about 59 = .ok (.goto 4, 3) := by decide +kernel
theorem dX10_about_62 : decode cX10_about 62 = .ok (.iconst 0, 1) := by decide +kernel
theorem dX10_about_63 : decode cX10_about 63 = .ok (.ireturn, 1) := by decide +kernel
theorem dX10_about_64 : decode cX10_about 64 = .ok (.aload_n 0, 1) := by decide +kernel
theorem dX10_about_65 : decode cX10_about 65 = .ok (.getfield 24, 3) := by decide +kernel
theorem dX10_about_68 : decode cX10_about 68 = .ok (.getfield 155, 3) := by decide +kernel
theorem dX10_about_71 : decode cX10_about 71 = .ok (.ireturn, 1) := by decide +kernel
theorem dX10_about_72 : decode cX10_about 72 = .ok (.new 41, 3) := by decide +kernel
theorem dX10_about_75 : decode cX10_about 75 = .ok (.dup, 1) := by decide +kernel
theorem dX10_about_76 : decode cX10_about 76 = .ok (.ldc 158, 2) := by decide +kernel
theorem dX10_about_78 : decode cX10_about 78 = .ok (.invokespecial 45, 3) := by decide +kernel
theorem dX10_about_81 : decode cX10_about 81 = .ok (.athrow, 1) := by decide +kernel
set_option maxRecDepth 20000 in
theorem ggX10_channel_X10_channelAt : GoodIn wsX10_channel wsX10_channelAt := goodIn_ca (goodIn_r _ [28, 1, 2, 29, 76, 77, 78, 79, 80, 81, 82, 83] (by decide +kernel) (by decide +kernel)) (goodIn_sub (fun _ h => List.mem_cons_of_mem _ (List.mem_append_right _ h)) (by decide +kernel))
set_option maxRecDepth 20000 in
theorem gX10_channel_X10_channelAt : GoodIn wsX10_channel (wsV RX10 121 RX10 yX10_channelAt wsX10_channelAt) := goodIn_app (goodIn_of _ (by decide +kernel)) ggX10_channel_X10_channelAt
theorem dX10_channel_0 : decode cX10_channel 0 = .ok (.aload_n 0, 1) := by decide +kernel
theorem dX10_channel_1 : decode cX10_channel 1 = .ok (.iload_n 1, 1) := by decide +kernel
theorem dX10_channel_2 : decode cX10_channel 2 = .ok (.invokevirtual 121, 3) := by decide +kernel
theorem dX10_channel_5 : decode cX10_channel 5 = .ok (.astore_n 3, 1) := by decide +kernel
theorem dX10_channel_6 : decode cX10_channel 6 = .ok (.iload_n 2, 1) := by decide +kernel
theorem dX10_channel_7 : decode cX10_channel 7 = .ok (.tableswitch 198 0 14 #[73, 78, 83, 91, 99, 107, 115, 123, 131, 139, 147, 158, 171, 182, 193], 73) := by decide +kernel
theorem dX10_channel_80 : decode cX10_channel 80 = .ok (.aload_n 3, 1) := by decide +kernel
theorem dX10_channel_81 : decode cX10_channel 81 = .ok (.getfield 141, 3) := by decide +kernel
theorem dX10_channel_84 : decode cX10_channel 84 = .ok (.ireturn, 1) := by decide +kernel
theorem dX10_channel_85 : decode cX10_channel 85 = .ok (.aload_n 3, 1) := by decide +kernel
theorem dX10_channel_86 : decode cX10_channel 86 = .ok (.getfield 160, 3) := by decide +kernel
theorem dX10_channel_89 : decode cX10_channel 89 = .ok (.ireturn, 1) := by decide +kernel
theorem dX10_channel_90 : decode cX10_channel 90 = .ok (.aload_n 3, 1) := by decide +kernel
theorem dX10_channel_91 : decode cX10_channel 91 = .ok (.getfield 163, 3) := by decide +kernel
theorem dX10_channel_94 : decode cX10_channel 94 = .ok (.getfield 167, 3) := by decide +kernel
theorem dX10_channel_97 : decode cX10_channel 97 = .ok (.ireturn, 1) := by decide +kernel
theorem dX10_channel_98 : decode cX10_channel 98 = .ok (.aload_n 3, 1) := by decide +kernel
theorem dX10_channel_99 : decode cX10_channel 99 = .ok (.getfield 163, 3) := by decide +kernel
theorem dX10_channel_102 : decode cX10_channel 102 = .ok (.getfield 172, 3) := by decide +kernel
theorem dX10_channel_105 : decode cX10_channel 105 = .ok (.ireturn, 1) := by decide +kernel
theorem dX10_channel_106 : decode cX10_channel 106 = .ok (.aload_n 3, 1) := by decide +kernel
theorem dX10_channel_107 : decode cX10_channel 107 = .ok (.getfield 163, 3) := by decide +kernel
theorem dX10_channel_110 : decode cX10_channel 110 = .ok (.getfield 175, 3) := by decide +kernel
theorem dX10_channel_113 : decode cX10_channel 113 = .ok (.ireturn, 1) := by decide +kernel
theorem dX10_channel_114 : decode cX10_channel 114 = .ok (.aload_n 3, 1) := by decide +kernel
theorem dX10_channel_115 : decode cX10_channel 115 = .ok (.getfield 163, 3) := by decide +kernel
theorem dX10_channel_118 : decode cX10_channel 118 = .ok (.getfield 178, 3) := by decide +kernel
theorem dX10_channel_121 : decode cX10_channel 121 = .ok (.ireturn, 1) := by decide +kernel
theorem dX10_channel_122 : decode cX10_channel 122 = .ok (.aload_n 3, 1) := by decide +kernel
theorem dX10_channel_123 : decode cX10_channel 123 = .ok (.getfield 181, 3) := by decide +kernel
theorem dX10_channel_126 : decode cX10_channel 126 = .ok (.getfield 185, 3) := by decide +kernel
theorem dX10_channel_129 : decode cX10_channel 129 = .ok (.ireturn, 1) := by decide +kernel
theorem dX10_channel_130 : decode cX10_channel 130 = .ok (.aload_n 3, 1) := by decide +kernel
theorem dX10_channel_131 : decode cX10_channel 131 = .ok (.getfield 188, 3) := by decide +kernel
theorem dX10_channel_134 : decode cX10_channel 134 = .ok (.getfield 192, 3) := by decide +kernel
theorem dX10_channel_137 : decode cX10_channel 137 = .ok (.ireturn, 1) := by decide +kernel
theorem dX10_channel_138 : decode cX10_channel 138 = .ok (.aload_n 3, 1) := by decide +kernel
theorem dX10_channel_139 : decode cX10_channel 139 = .ok (.getfield 125, 3) := by decide +kernel
theorem dX10_channel_142 : decode cX10_channel 142 = .ok (.getfield 197, 3) := by decide +kernel
theorem dX10_channel_145 : decode cX10_channel 145 = .ok (.ireturn, 1) := by decide +kernel
theorem dX10_channel_146 : decode cX10_channel 146 = .ok (.aload_n 3, 1) := by decide +kernel
theorem dX10_channel_147 : decode cX10_channel 147 = .ok (.getfield 125, 3) := by decide +kernel
theorem dX10_channel_150 : decode cX10_channel 150 = .ok (.getfield 200, 3) := by decide +kernel
theorem dX10_channel_153 : decode cX10_channel 153 = .ok (.ireturn, 1) := by decide +kernel
theorem dX10_channel_154 : decode cX10_channel 154 = .ok (.aload_n 3, 1) := by decide +kernel
theorem dX10_channel_155 : decode cX10_channel 155 = .ok (.getfield 125, 3) := by decide +kernel
theorem dX10_channel_158 : decode cX10_channel 158 = .ok (.getfield 203, 3) := by decide +kernel
theorem dX10_channel_161 : decode cX10_channel 161 = .ok (.getfield 207, 3) := by decide +kernel
theorem dX10_channel_164 : decode cX10_channel 164 = .ok (.ireturn, 1) := by decide +kernel
theorem dX10_channel_165 : decode cX10_channel 165 = .ok (.aload_n 3, 1) := by decide +kernel
theorem dX10_channel_166 : decode cX10_channel 166 = .ok (.getfield 210, 3) := by decide +kernel
theorem dX10_channel_169 : decode cX10_channel 169 = .ok (.ifCond .eq 7, 3) := by decide +kernel
theorem dX10_channel_172 : decode cX10_channel 172 = .ok (.iconst 1, 1) := by decide +kernel
theorem dX10_channel_173 : decode cX10_channel 173 = .ok (.goto 4, 3) := by decide +kernel
theorem dX10_channel_176 : decode cX10_channel 176 = .ok (.iconst 0, 1) := by decide +kernel
theorem dX10_channel_177 : decode cX10_channel 177 = .ok (.ireturn, 1) := by decide +kernel
theorem dX10_channel_178 : decode cX10_channel 178 = .ok (.aload_n 3, 1) := by decide +kernel
theorem dX10_channel_179 : decode cX10_channel 179 = .ok (.getfield 181, 3) := by decide +kernel
theorem dX10_channel_182 : decode cX10_channel 182 = .ok (.getfield 213, 3) := by decide +kernel
theorem dX10_channel_185 : decode cX10_channel 185 = .ok (.getfield 207, 3) := by decide +kernel
theorem dX10_channel_188 : decode cX10_channel 188 = .ok (.ireturn, 1) := by decide +kernel
theorem dX10_channel_189 : decode cX10_channel 189 = .ok (.aload_n 3, 1) := by decide +kernel
theorem dX10_channel_190 : decode cX10_channel 190 = .ok (.getfield 163, 3) := by decide +kernel
theorem dX10_channel_193 : decode cX10_channel 193 = .ok (.getfield 216, 3) := by decide +kernel
theorem dX10_channel_196 : decode cX10_channel 196 = .ok (.getfield 220, 3) := by decide +kernel
theorem dX10_channel_199 : decode cX10_channel 199 = .ok (.ireturn, 1) := by decide +kernel
theorem dX10_channel_200 : decode cX10_channel 200 = .ok (.aload_n 3, 1) := by decide +kernel
theorem dX10_channel_201 : decode cX10_channel 201 = .ok (.getfield 223, 3) := by decide +kernel
theorem dX10_channel_204 : decode cX10_channel 204 = .ok (.ireturn, 1) := by decide +kernel
theorem dX10_channel_205 : decode cX10_channel 205 = .ok (.new 41, 3) := by decide +kernel
theorem dX10_channel_208 : decode cX10_channel 208 = .ok (.dup, 1) := by decide +kernel
theorem dX10_channel_209 : decode cX10_channel 209 = .ok (.ldc 158, 2) := by decide +kernel
theorem dX10_channel_211 : decode cX10_channel 211 = .ok (.invokespecial 45, 3) := by decide +kernel
theorem dX10_channel_214 : decode cX10_channel 214 = .ok (.athrow, 1) := by decide +kernel
set_option maxRecDepth 20000 in
theorem ggX10_entry_X1_places : GoodIn wsX10_entry wsX1_places := goodIn_r _ [12, 13, 14, 15, 16, 42, 43, 44, 45, 46, 47, 48, 49, 50, 51, 52, 53, 54, 55, 56, 57, 58, 59, 60, 61, 62, 63, 64, 65, 66, 67, 68, 69, 70, 71, 72] (by decide +kernel) (by decide +kernel)
set_option maxRecDepth 20000 in
theorem gX10_entry_X1_places : GoodIn wsX10_entry (wsV RX10 230 RX1 yX1_places wsX1_places) := goodIn_app (goodIn_of _ (by decide +kernel)) ggX10_entry_X1_places
set_option maxRecDepth 20000 in
theorem ggX10_entry_X9_inUnits : GoodIn wsX10_entry wsX9_inUnits := goodIn_r _ [21, 22, 23, 73, 74, 75, 76] (by decide +kernel) (by decide +kernel)
set_option maxRecDepth 20000 in
theorem gX10_entry_X9_inUnits : GoodIn wsX10_entry (wsV RX10 233 RX9 yX9_inUnits wsX9_inUnits) := goodIn_app (goodIn_of _ (by decide +kernel)) ggX10_entry_X9_inUnits
set_option maxRecDepth 20000 in
theorem ggX10_entry_X9_length : GoodIn wsX10_entry wsX9_length := goodIn_r _ [27, 28, 29, 73, 74, 75, 76] (by decide +kernel) (by decide +kernel)
set_option maxRecDepth 20000 in
theorem gX10_entry_X9_length : GoodIn wsX10_entry (wsV RX10 239 RX9 yX9_length wsX9_length) := goodIn_app (goodIn_of _ (by decide +kernel)) ggX10_entry_X9_length
set_option maxRecDepth 20000 in
theorem ggX10_entry_X1_hasEntry : GoodIn wsX10_entry wsX1_hasEntry := goodIn_r _ [33, 13, 42, 43, 44, 45, 46, 47, 48, 49, 50, 51, 52] (by decide +kernel) (by decide +kernel)
set_option maxRecDepth 20000 in
theorem gX10_entry_X1_hasEntry : GoodIn wsX10_entry (wsV RX10 242 RX1 yX1_hasEntry wsX1_hasEntry) := goodIn_app (goodIn_of _ (by decide +kernel)) ggX10_entry_X1_hasEntry
theorem dX10_entry_0 : decode cX10_entry 0 = .ok (.aload_n 0, 1) := by decide +kernel
theorem dX10_entry_1 : decode cX10_entry 1 = .ok (.getfield 17, 3) := by decide +kernel
theorem dX10_entry_4 : decode cX10_entry 4 = .ok (.aload_n 0, 1) := by decide +kernel
theorem dX10_entry_5 : decode cX10_entry 5 = .ok (.getfield 95, 3) := by decide +kernel
theorem dX10_entry_8 : decode cX10_entry 8 = .ok (.aaload, 1) := by decide +kernel
theorem dX10_entry_9 : decode cX10_entry 9 = .ok (.astore_n 2, 1) := by decide +kernel
theorem dX10_entry_10 : decode cX10_entry 10 = .ok (.iload_n 1, 1) := by decide +kernel
theorem dX10_entry_11 : decode cX10_entry 11 = .ok (.tableswitch 70 0 2 #[25, 40, 51], 25) := by decide +kernel
theorem dX10_entry_36 : decode cX10_entry 36 = .ok (.aload_n 2, 1) := by decide +kernel
theorem dX10_entry_37 : decode cX10_entry 37 = .ok (.getfield 106, 3) := by decide +kernel
theorem dX10_entry_40 : decode cX10_entry 40 = .ok (.getfield 226, 3) := by decide +kernel
theorem dX10_entry_43 : decode cX10_entry 43 = .ok (.aload_n 2, 1) := by decide +kernel
theorem dX10_entry_44 : decode cX10_entry 44 = .ok (.invokevirtual 230, 3) := by decide +kernel
theorem dX10_entry_47 : decode cX10_entry 47 = .ok (.invokevirtual 233, 3) := by decide +kernel
theorem dX10_entry_50 : decode cX10_entry 50 = .ok (.ireturn, 1) := by decide +kernel
theorem dX10_entry_51 : decode cX10_entry 51 = .ok (.aload_n 2, 1) := by decide +kernel
theorem dX10_entry_52 : decode cX10_entry 52 = .ok (.getfield 106, 3) := by decide +kernel
theorem dX10_entry_55 : decode cX10_entry 55 = .ok (.getfield 226, 3) := by decide +kernel
theorem dX10_entry_58 : decode cX10_entry 58 = .ok (.invokevirtual 239, 3) := by decide +kernel
theorem dX10_entry_61 : decode cX10_entry 61 = .ok (.ireturn, 1) := by decide +kernel
theorem dX10_entry_62 : decode cX10_entry 62 = .ok (.aload_n 2, 1) := by decide +kernel
theorem dX10_entry_63 : decode cX10_entry 63 = .ok (.invokevirtual 242, 3) := by decide +kernel
theorem dX10_entry_66 : decode cX10_entry 66 = .ok (.ifCond .eq 13, 3) := by decide +kernel
theorem dX10_entry_69 : decode cX10_entry 69 = .ok (.aload_n 2, 1) := by decide +kernel
theorem dX10_entry_70 : decode cX10_entry 70 = .ok (.getfield 106, 3) := by decide +kernel
theorem dX10_entry_73 : decode cX10_entry 73 = .ok (.getfield 110, 3) := by decide +kernel
theorem dX10_entry_76 : decode cX10_entry 76 = .ok (.goto 4, 3) := by decide +kernel
theorem dX10_entry_79 : decode cX10_entry 79 = .ok (.iconst 0, 1) := by decide +kernel
theorem dX10_entry_80 : decode cX10_entry 80 = .ok (.ireturn, 1) := by decide +kernel
theorem dX10_entry_81 : decode cX10_entry 81 = .ok (.new 41, 3) := by decide +kernel
theorem dX10_entry_84 : decode cX10_entry 84 = .ok (.dup, 1) := by decide +kernel
theorem dX10_entry_85 : decode cX10_entry 85 = .ok (.ldc 158, 2) := by decide +kernel
theorem dX10_entry_87 : decode cX10_entry 87 = .ok (.invokespecial 45, 3) := by decide +kernel
theorem dX10_entry_90 : decode cX10_entry 90 = .ok (.athrow, 1) := by decide +kernel
set_option maxRecDepth 20000 in
theorem ggX10_rate_X10_toldDrug : GoodIn wsX10_rate wsX10_toldDrug := goodIn_ca (goodIn_r _ [8, 9, 10, 11, 12, 13, 14, 7, 15, 16, 35, 36, 37, 38, 39, 40, 41, 42, 43, 44, 45, 46, 47, 48, 49, 50, 51, 52, 53, 54, 55] (by decide +kernel) (by decide +kernel)) (goodIn_sub (fun _ h => List.mem_cons_of_mem _ (List.mem_append_right _ h)) (by decide +kernel))
set_option maxRecDepth 20000 in
theorem gX10_rate_X10_toldDrug : GoodIn wsX10_rate (wsV RX10 85 RX10 yX10_toldDrug wsX10_toldDrug) := goodIn_app (goodIn_of _ (by decide +kernel)) ggX10_rate_X10_toldDrug
set_option maxRecDepth 20000 in
theorem ggX10_rate_X2_rateFor : GoodIn wsX10_rate wsX2_rateFor := goodIn_r _ [21, 22, 23, 24, 25, 26, 27, 28, 29, 30, 31, 32, 33, 34, 43, 44, 45, 46, 47, 48, 49, 50, 51, 52, 53, 54, 55] (by decide +kernel) (by decide +kernel)
set_option maxRecDepth 20000 in
theorem gX10_rate_X2_rateFor : GoodIn wsX10_rate (wsV RX10 247 RX2 yX2_rateFor wsX2_rateFor) := goodIn_app (goodIn_of _ (by decide +kernel)) ggX10_rate_X2_rateFor
theorem dX10_rate_0 : decode cX10_rate 0 = .ok (.aload_n 0, 1) := by decide +kernel
theorem dX10_rate_1 : decode cX10_rate 1 = .ok (.iload_n 1, 1) := by decide +kernel
theorem dX10_rate_2 : decode cX10_rate 2 = .ok (.invokevirtual 85, 3) := by decide +kernel
theorem dX10_rate_5 : decode cX10_rate 5 = .ok (.astore 4, 2) := by decide +kernel
theorem dX10_rate_7 : decode cX10_rate 7 = .ok (.iload_n 2, 1) := by decide +kernel
theorem dX10_rate_8 : decode cX10_rate 8 = .ok (.iconst 1, 1) := by decide +kernel
theorem dX10_rate_9 : decode cX10_rate 9 = .ok (.if_icmp .lt 21, 3) := by decide +kernel
theorem dX10_rate_12 : decode cX10_rate 12 = .ok (.iload_n 2, 1) := by decide +kernel
theorem dX10_rate_13 : decode cX10_rate 13 = .ok (.ldc 53, 2) := by decide +kernel
theorem dX10_rate_15 : decode cX10_rate 15 = .ok (.if_icmp .gt 15, 3) := by decide +kernel
theorem dX10_rate_18 : decode cX10_rate 18 = .ok (.iload_n 3, 1) := by decide +kernel
theorem dX10_rate_19 : decode cX10_rate 19 = .ok (.iconst 5, 1) := by decide +kernel
theorem dX10_rate_20 : decode cX10_rate 20 = .ok (.if_icmp .lt 10, 3) := by decide +kernel
theorem dX10_rate_23 : decode cX10_rate 23 = .ok (.iload_n 3, 1) := by decide +kernel
theorem dX10_rate_24 : decode cX10_rate 24 = .ok (.sipush 3000, 3) := by decide +kernel
theorem dX10_rate_27 : decode cX10_rate 27 = .ok (.if_icmp .le 13, 3) := by decide +kernel
theorem dX10_rate_30 : decode cX10_rate 30 = .ok (.new 48, 3) := by decide +kernel
theorem dX10_rate_33 : decode cX10_rate 33 = .ok (.dup, 1) := by decide +kernel
theorem dX10_rate_34 : decode cX10_rate 34 = .ok (.ldc 245, 2) := by decide +kernel
theorem dX10_rate_36 : decode cX10_rate 36 = .ok (.invokespecial 52, 3) := by decide +kernel
theorem dX10_rate_39 : decode cX10_rate 39 = .ok (.athrow, 1) := by decide +kernel
theorem dX10_rate_40 : decode cX10_rate 40 = .ok (.aload 4, 2) := by decide +kernel
theorem dX10_rate_42 : decode cX10_rate 42 = .ok (.iload_n 2, 1) := by decide +kernel
theorem dX10_rate_43 : decode cX10_rate 43 = .ok (.iload_n 3, 1) := by decide +kernel
theorem dX10_rate_44 : decode cX10_rate 44 = .ok (.invokevirtual 247, 3) := by decide +kernel
theorem dX10_rate_47 : decode cX10_rate 47 = .ok (.ireturn, 1) := by decide +kernel
set_option maxRecDepth 20000 in
theorem ggX10_log_X5_keeps : GoodIn wsX10_log wsX5_keeps := goodIn_r _ [8, 9, 23, 24, 25] (by decide +kernel) (by decide +kernel)
set_option maxRecDepth 20000 in
theorem gX10_log_X5_keeps : GoodIn wsX10_log (wsV RX10 251 RX5 yX5_keeps wsX5_keeps) := goodIn_app (goodIn_of _ (by decide +kernel)) ggX10_log_X5_keeps
set_option maxRecDepth 20000 in
theorem ggX10_log_X5_read : GoodIn wsX10_log wsX5_read := goodIn_r _ [13, 14, 23, 24, 25] (by decide +kernel) (by decide +kernel)
set_option maxRecDepth 20000 in
theorem gX10_log_X5_read : GoodIn wsX10_log (wsV RX10 256 RX5 yX5_read wsX5_read) := goodIn_app (goodIn_of _ (by decide +kernel)) ggX10_log_X5_read
theorem dX10_log_0 : decode cX10_log 0 = .ok (.aload_n 0, 1) := by decide +kernel
theorem dX10_log_1 : decode cX10_log 1 = .ok (.getfield 24, 3) := by decide +kernel
theorem dX10_log_4 : decode cX10_log 4 = .ok (.iload_n 1, 1) := by decide +kernel
theorem dX10_log_5 : decode cX10_log 5 = .ok (.invokevirtual 251, 3) := by decide +kernel
theorem dX10_log_8 : decode cX10_log 8 = .ok (.ifCond .eq 12, 3) := by decide +kernel
theorem dX10_log_11 : decode cX10_log 11 = .ok (.iload_n 2, 1) := by decide +kernel
theorem dX10_log_12 : decode cX10_log 12 = .ok (.ifCond .lt 8, 3) := by decide +kernel
theorem dX10_log_15 : decode cX10_log 15 = .ok (.iload_n 2, 1) := by decide +kernel
theorem dX10_log_16 : decode cX10_log 16 = .ok (.iconst 4, 1) := by decide +kernel
theorem dX10_log_17 : decode cX10_log 17 = .ok (.if_icmp .lt 13, 3) := by decide +kernel
theorem dX10_log_20 : decode cX10_log 20 = .ok (.new 41, 3) := by decide +kernel
theorem dX10_log_23 : decode cX10_log 23 = .ok (.dup, 1) := by decide +kernel
theorem dX10_log_24 : decode cX10_log 24 = .ok (.ldc 254, 2) := by decide +kernel
theorem dX10_log_26 : decode cX10_log 26 = .ok (.invokespecial 45, 3) := by decide +kernel
theorem dX10_log_29 : decode cX10_log 29 = .ok (.athrow, 1) := by decide +kernel
theorem dX10_log_30 : decode cX10_log 30 = .ok (.aload_n 0, 1) := by decide +kernel
theorem dX10_log_31 : decode cX10_log 31 = .ok (.getfield 24, 3) := by decide +kernel
theorem dX10_log_34 : decode cX10_log 34 = .ok (.iload_n 1, 1) := by decide +kernel
theorem dX10_log_35 : decode cX10_log 35 = .ok (.iload_n 2, 1) := by decide +kernel
theorem dX10_log_36 : decode cX10_log 36 = .ok (.invokevirtual 256, 3) := by decide +kernel
theorem dX10_log_39 : decode cX10_log 39 = .ok (.ireturn, 1) := by decide +kernel
theorem dX10_chain_0 : decode cX10_chain 0 = .ok (.aload_n 0, 1) := by decide +kernel
theorem dX10_chain_1 : decode cX10_chain 1 = .ok (.getfield 24, 3) := by decide +kernel
theorem dX10_chain_4 : decode cX10_chain 4 = .ok (.getfield 259, 3) := by decide +kernel
theorem dX10_chain_7 : decode cX10_chain 7 = .ok (.lreturn, 1) := by decide +kernel
theorem dX10_channelAt_0 : decode cX10_channelAt 0 = .ok (.iload_n 1, 1) := by decide +kernel
theorem dX10_channelAt_1 : decode cX10_channelAt 1 = .ok (.ifCond .lt 8, 3) := by decide +kernel
theorem dX10_channelAt_4 : decode cX10_channelAt 4 = .ok (.iload_n 1, 1) := by decide +kernel
theorem dX10_channelAt_5 : decode cX10_channelAt 5 = .ok (.iconst 3, 1) := by decide +kernel
theorem dX10_channelAt_6 : decode cX10_channelAt 6 = .ok (.if_icmp .lt 14, 3) := by decide +kernel
theorem dX10_channelAt_9 : decode cX10_channelAt 9 = .ok (.new 41, 3) := by decide +kernel
theorem dX10_channelAt_12 : decode cX10_channelAt 12 = .ok (.dup, 1) := by decide +kernel
theorem dX10_channelAt_13 : decode cX10_channelAt 13 = .ok (.ldc_w 263, 3) := by decide +kernel
theorem dX10_channelAt_16 : decode cX10_channelAt 16 = .ok (.invokespecial 45, 3) := by decide +kernel
theorem dX10_channelAt_19 : decode cX10_channelAt 19 = .ok (.athrow, 1) := by decide +kernel
theorem dX10_channelAt_20 : decode cX10_channelAt 20 = .ok (.aload_n 0, 1) := by decide +kernel
theorem dX10_channelAt_21 : decode cX10_channelAt 21 = .ok (.getfield 17, 3) := by decide +kernel
theorem dX10_channelAt_24 : decode cX10_channelAt 24 = .ok (.iload_n 1, 1) := by decide +kernel
theorem dX10_channelAt_25 : decode cX10_channelAt 25 = .ok (.aaload, 1) := by decide +kernel
theorem dX10_channelAt_26 : decode cX10_channelAt 26 = .ok (.areturn, 1) := by decide +kernel
set_option maxRecDepth 20000 in
theorem ggX10_toldDrug_X10_isTold : GoodIn wsX10_toldDrug wsX10_isTold := goodIn_r _ [8, 3, 9, 10, 11, 12, 13, 14, 15, 16, 17, 18, 19, 20, 21, 22, 23, 24, 25, 26, 27, 28, 29, 30] (by decide +kernel) (by decide +kernel)
set_option maxRecDepth 20000 in
theorem gX10_toldDrug_X10_isTold : GoodIn wsX10_toldDrug (wsV RX10 265 RX10 yX10_isTold wsX10_isTold) := goodIn_app (goodIn_of _ (by decide +kernel)) ggX10_toldDrug_X10_isTold
theorem dX10_toldDrug_0 : decode cX10_toldDrug 0 = .ok (.aload_n 0, 1) := by decide +kernel
theorem dX10_toldDrug_1 : decode cX10_toldDrug 1 = .ok (.iload_n 1, 1) := by decide +kernel
theorem dX10_toldDrug_2 : decode cX10_toldDrug 2 = .ok (.invokevirtual 265, 3) := by decide +kernel
theorem dX10_toldDrug_5 : decode cX10_toldDrug 5 = .ok (.ifCond .ne 13, 3) := by decide +kernel
theorem dX10_toldDrug_8 : decode cX10_toldDrug 8 = .ok (.new 41, 3) := by decide +kernel
theorem dX10_toldDrug_11 : decode cX10_toldDrug 11 = .ok (.dup, 1) := by decide +kernel
theorem dX10_toldDrug_12 : decode cX10_toldDrug 12 = .ok (.ldc 43, 2) := by decide +kernel
theorem dX10_toldDrug_14 : decode cX10_toldDrug 14 = .ok (.invokespecial 45, 3) := by decide +kernel
theorem dX10_toldDrug_17 : decode cX10_toldDrug 17 = .ok (.athrow, 1) := by decide +kernel
theorem dX10_toldDrug_18 : decode cX10_toldDrug 18 = .ok (.aload_n 0, 1) := by decide +kernel
theorem dX10_toldDrug_19 : decode cX10_toldDrug 19 = .ok (.getfield 11, 3) := by decide +kernel
theorem dX10_toldDrug_22 : decode cX10_toldDrug 22 = .ok (.iload_n 1, 1) := by decide +kernel
theorem dX10_toldDrug_23 : decode cX10_toldDrug 23 = .ok (.aaload, 1) := by decide +kernel
theorem dX10_toldDrug_24 : decode cX10_toldDrug 24 = .ok (.areturn, 1) := by decide +kernel
theorem dX10_isTold_0 : decode cX10_isTold 0 = .ok (.iload_n 1, 1) := by decide +kernel
theorem dX10_isTold_1 : decode cX10_isTold 1 = .ok (.ifCond .lt 25, 3) := by decide +kernel
theorem dX10_isTold_4 : decode cX10_isTold 4 = .ok (.iload_n 1, 1) := by decide +kernel
theorem dX10_isTold_5 : decode cX10_isTold 5 = .ok (.bipush 16, 2) := by decide +kernel
theorem dX10_isTold_7 : decode cX10_isTold 7 = .ok (.if_icmp .ge 19, 3) := by decide +kernel
theorem dX10_isTold_10 : decode cX10_isTold 10 = .ok (.aload_n 0, 1) := by decide +kernel
theorem dX10_isTold_11 : decode cX10_isTold 11 = .ok (.getfield 11, 3) := by decide +kernel
theorem dX10_isTold_14 : decode cX10_isTold 14 = .ok (.iload_n 1, 1) := by decide +kernel
theorem dX10_isTold_15 : decode cX10_isTold 15 = .ok (.aaload, 1) := by decide +kernel
theorem dX10_isTold_16 : decode cX10_isTold 16 = .ok (.getfield 59, 3) := by decide +kernel
theorem dX10_isTold_19 : decode cX10_isTold 19 = .ok (.ifCond .eq 7, 3) := by decide +kernel
theorem dX10_isTold_22 : decode cX10_isTold 22 = .ok (.iconst 1, 1) := by decide +kernel
theorem dX10_isTold_23 : decode cX10_isTold 23 = .ok (.goto 4, 3) := by decide +kernel
theorem dX10_isTold_26 : decode cX10_isTold 26 = .ok (.iconst 0, 1) := by decide +kernel
theorem dX10_isTold_27 : decode cX10_isTold 27 = .ok (.ireturn, 1) := by decide +kernel
theorem dX10_refuseDrugInUse_0 : decode cX10_refuseDrugInUse 0 = .ok (.iconst 0, 1) := by decide +kernel
theorem dX10_refuseDrugInUse_1 : decode cX10_refuseDrugInUse 1 = .ok (.istore_n 2, 1) := by decide +kernel
theorem dX10_refuseDrugInUse_2 : decode cX10_refuseDrugInUse 2 = .ok (.iload_n 2, 1) := by decide +kernel
theorem dX10_refuseDrugInUse_3 : decode cX10_refuseDrugInUse 3 = .ok (.iconst 3, 1) := by decide +kernel
theorem dX10_refuseDrugInUse_4 : decode cX10_refuseDrugInUse 4 = .ok (.if_icmp .ge 58, 3) := by decide +kernel
theorem dX10_refuseDrugInUse_7 : decode cX10_refuseDrugInUse 7 = .ok (.aload_n 0, 1) := by decide +kernel
theorem dX10_refuseDrugInUse_8 : decode cX10_refuseDrugInUse 8 = .ok (.getfield 17, 3) := by decide +kernel
theorem dX10_refuseDrugInUse_11 : decode cX10_refuseDrugInUse 11 = .ok (.iload_n 2, 1) := by decide +kernel
theorem dX10_refuseDrugInUse_12 : decode cX10_refuseDrugInUse 12 = .ok (.aaload, 1) := by decide +kernel
theorem dX10_refuseDrugInUse_13 : decode cX10_refuseDrugInUse 13 = .ok (.getfield 163, 3) := by decide +kernel
theorem dX10_refuseDrugInUse_16 : decode cX10_refuseDrugInUse 16 = .ok (.getfield 216, 3) := by decide +kernel
theorem dX10_refuseDrugInUse_19 : decode cX10_refuseDrugInUse 19 = .ok (.getfield 220, 3) := by decide +kernel
theorem dX10_refuseDrugInUse_22 : decode cX10_refuseDrugInUse 22 = .ok (.iload_n 1, 1) := by decide +kernel
theorem dX10_refuseDrugInUse_23 : decode cX10_refuseDrugInUse 23 = .ok (.if_icmp .eq 22, 3) := by decide +kernel
theorem dX10_refuseDrugInUse_26 : decode cX10_refuseDrugInUse 26 = .ok (.aload_n 0, 1) := by decide +kernel
theorem dX10_refuseDrugInUse_27 : decode cX10_refuseDrugInUse 27 = .ok (.getfield 17, 3) := by decide +kernel
theorem dX10_refuseDrugInUse_30 : decode cX10_refuseDrugInUse 30 = .ok (.iload_n 2, 1) := by decide +kernel
theorem dX10_refuseDrugInUse_31 : decode cX10_refuseDrugInUse 31 = .ok (.aaload, 1) := by decide +kernel
theorem dX10_refuseDrugInUse_32 : decode cX10_refuseDrugInUse 32 = .ok (.getfield 106, 3) := by decide +kernel
theorem dX10_refuseDrugInUse_35 : decode cX10_refuseDrugInUse 35 = .ok (.getfield 268, 3) := by decide +kernel
theorem dX10_refuseDrugInUse_38 : decode cX10_refuseDrugInUse 38 = .ok (.getfield 220, 3) := by decide +kernel
theorem dX10_refuseDrugInUse_41 : decode cX10_refuseDrugInUse 41 = .ok (.iload_n 1, 1) := by decide +kernel
theorem dX10_refuseDrugInUse_42 : decode cX10_refuseDrugInUse 42 = .ok (.if_icmp .ne 14, 3) := by decide +kernel
theorem dX10_refuseDrugInUse_45 : decode cX10_refuseDrugInUse 45 = .ok (.new 269, 3) := by decide +kernel
theorem dX10_refuseDrugInUse_48 : decode cX10_refuseDrugInUse 48 = .ok (.dup, 1) := by decide +kernel
theorem dX10_refuseDrugInUse_49 : decode cX10_refuseDrugInUse 49 = .ok (.ldc_w 271, 3) := by decide +kernel
theorem dX10_refuseDrugInUse_52 : decode cX10_refuseDrugInUse 52 = .ok (.invokespecial 273, 3) := by decide +kernel
theorem dX10_refuseDrugInUse_55 : decode cX10_refuseDrugInUse 55 = .ok (.athrow, 1) := by decide +kernel
theorem dX10_refuseDrugInUse_56 : decode cX10_refuseDrugInUse 56 = .ok (.iinc 2 1, 3) := by decide +kernel
theorem dX10_refuseDrugInUse_59 : decode cX10_refuseDrugInUse 59 = .ok (.goto (-57), 3) := by decide +kernel
theorem dX10_refuseDrugInUse_62 : decode cX10_refuseDrugInUse 62 = .ok (.return_, 1) := by decide +kernel
set_option maxRecDepth 20000 in
theorem ggX10_note_X5_write : GoodIn wsX10_note wsX5_write := goodIn_r _ [8, 9, 10, 11, 12, 32, 33, 34] (by decide +kernel) (by decide +kernel)
set_option maxRecDepth 20000 in
theorem gX10_note_X5_write : GoodIn wsX10_note (wsV RX10 275 RX5 yX5_write wsX5_write) := goodIn_app (goodIn_of _ (by decide +kernel)) ggX10_note_X5_write
theorem dX10_note_0 : decode cX10_note 0 = .ok (.aload_n 0, 1) := by decide +kernel
theorem dX10_note_1 : decode cX10_note 1 = .ok (.getfield 24, 3) := by decide +kernel
theorem dX10_note_4 : decode cX10_note 4 = .ok (.aload_n 0, 1) := by decide +kernel
theorem dX10_note_5 : decode cX10_note 5 = .ok (.getfield 148, 3) := by decide +kernel
theorem dX10_note_8 : decode cX10_note 8 = .ok (.iload_n 1, 1) := by decide +kernel
theorem dX10_note_9 : decode cX10_note 9 = .ok (.aload_n 2, 1) := by decide +kernel
theorem dX10_note_10 : decode cX10_note 10 = .ok (.getfield 274, 3) := by decide +kernel
theorem dX10_note_13 : decode cX10_note 13 = .ok (.iload_n 3, 1) := by decide +kernel
theorem dX10_note_14 : decode cX10_note 14 = .ok (.invokevirtual 275, 3) := by decide +kernel
theorem dX10_note_17 : decode cX10_note 17 = .ok (.return_, 1) := by decide +kernel
set_option maxRecDepth 20000 in
theorem ggX10_press_X10_typePoint : GoodIn wsX10_press wsX10_typePoint := goodIn_r _ [9, 10, 11, 3, 12, 13, 14, 15, 16, 17, 18, 19, 20, 21, 22, 23, 24, 25, 26, 27, 28, 29, 30, 31, 283, 284, 285, 286, 287, 288, 289, 290, 291, 292, 293, 294, 295, 296, 297, 298, 299, 300, 301, 302, 303, 304, 305, 306, 307, 308, 309, 310, 311, 312, 313, 314, 315, 316, 317] (by decide +kernel) (by decide +kernel)
set_option maxRecDepth 20000 in
theorem gX10_press_X10_typePoint : GoodIn wsX10_press (wsV RX10 279 RX10 yX10_typePoint wsX10_typePoint) := goodIn_app (goodIn_of _ (by decide +kernel)) ggX10_press_X10_typePoint
set_option maxRecDepth 20000 in
theorem ggX10_press_X10_pressClear : GoodIn wsX10_press wsX10_pressClear := goodIn_r _ [35, 3, 10, 11, 36, 37, 38, 15, 39, 17, 22, 40, 41, 42, 43, 28, 44, 45, 31, 46, 30, 12, 13, 14, 16, 47, 48, 49, 50, 51, 52, 53, 54, 8, 55, 56, 57, 58, 59, 60, 61, 62, 63, 64, 65, 66, 67, 68, 1, 69, 70, 71, 72, 73, 74, 75, 76, 77, 78, 283, 284, 285, 286, 287, 288, 289, 290, 291, 292, 293, 294, 295, 296, 297, 298, 299, 300, 314, 315, 316, 317, 275, 276, 277, 278, 279, 280, 281, 282, 318, 319, 320] (by decide +kernel) (by decide +kernel)
set_option maxRecDepth 20000 in
theorem gX10_press_X10_pressClear : GoodIn wsX10_press (wsV RX10 283 RX10 yX10_pressClear wsX10_pressClear) := goodIn_app (goodIn_of _ (by decide +kernel)) ggX10_press_X10_pressClear
set_option maxRecDepth 20000 in
theorem ggX10_press_X10_pressEnter : GoodIn wsX10_press wsX10_pressEnter := goodIn_r _ [82, 10, 11, 3, 12, 13, 14, 15, 16, 17, 83, 84, 85, 28, 86, 31, 30, 46, 18, 19, 20, 21, 22, 23, 24, 87, 88, 89, 90, 45, 91, 92, 93, 8, 94, 95, 96, 97, 98, 99, 100, 101, 102, 36, 37, 38, 39, 40, 41, 42, 43, 44, 103, 104, 105, 106, 107, 108, 109, 110, 111, 112, 113, 114, 115, 116, 117, 118, 119, 120, 121, 122, 123, 124, 125, 126, 127, 128, 129, 130, 131, 132, 133, 134, 51, 64, 65, 66, 67, 68, 1, 69, 70, 71, 72, 73, 74, 75, 76, 77, 78, 135, 136, 137, 138, 139, 140, 141, 142, 143, 144, 145, 146, 147, 148, 149, 150, 151, 152, 57, 58, 59, 60, 61, 62, 63, 283, 284, 285, 286, 287, 288, 289, 290, 291, 292, 293, 294, 295, 296, 297, 298, 299, 300, 314, 315, 316, 317, 301, 302, 303, 304, 305, 306, 307, 308, 309, 310, 311, 312, 313, 275, 276, 277, 278, 279, 280, 281, 282, 318, 319, 320, 321, 322, 323, 324, 325, 326, 327, 328] (by decide +kernel) (by decide +kernel)
set_option maxRecDepth 20000 in
theorem gX10_press_X10_pressEnter : GoodIn wsX10_press (wsV RX10 286 RX10 yX10_pressEnter wsX10_pressEnter) := goodIn_app (goodIn_of _ (by decide +kernel)) ggX10_press_X10_pressEnter
set_option maxRecDepth 20000 in
theorem ggX10_press_X10_pressBegin : GoodIn wsX10_press wsX10_pressBegin := goodIn_r _ [156, 3, 10, 56, 157, 158, 159, 160, 15, 161, 17, 36, 37, 38, 39, 22, 40, 41, 42, 43, 28, 44, 45, 31, 46, 30, 283, 284, 285, 286, 287, 288, 289, 290, 291, 292, 293, 294, 295, 296, 297, 298, 299, 300, 314, 315, 316, 317] (by decide +kernel) (by decide +kernel)
set_option maxRecDepth 20000 in
theorem gX10_press_X10_pressBegin : GoodIn wsX10_press (wsV RX10 289 RX10 yX10_pressBegin wsX10_pressBegin) := goodIn_app (goodIn_of _ (by decide +kernel)) ggX10_press_X10_pressBegin
set_option maxRecDepth 20000 in
theorem ggX10_press_X10_pressRun : GoodIn wsX10_press wsX10_pressRun := goodIn_r _ [165, 3, 166, 167, 168, 15, 169, 170, 171, 172, 173, 159, 160, 161, 17, 174, 175, 176, 8, 177, 157, 139, 142, 64, 65, 66, 67, 68, 1, 69, 70, 71, 72, 73, 74, 75, 76, 77, 78, 283, 284, 285, 286, 287, 288, 289, 290, 291, 292, 293, 329, 330, 331, 332, 333, 334, 335, 324, 325, 326, 327, 328, 275, 276, 277, 278, 279, 280, 281, 282, 318, 319, 320] (by decide +kernel) (by decide +kernel)
set_option maxRecDepth 20000 in
theorem gX10_press_X10_pressRun : GoodIn wsX10_press (wsV RX10 292 RX10 yX10_pressRun wsX10_pressRun) := goodIn_app (goodIn_of _ (by decide +kernel)) ggX10_press_X10_pressRun
set_option maxRecDepth 20000 in
theorem ggX10_press_X10_pressStop : GoodIn wsX10_press wsX10_pressStop := goodIn_r _ [181, 3, 139, 182, 183, 184, 185, 15, 186, 17, 187, 188, 64, 65, 66, 8, 67, 68, 1, 69, 70, 71, 72, 73, 74, 75, 76, 77, 78, 189, 190, 191, 192, 52, 53, 54, 55, 10, 56, 57, 58, 59, 60, 61, 62, 63, 36, 37, 38, 39, 22, 40, 41, 42, 43, 28, 44, 45, 31, 46, 30, 283, 284, 285, 286, 287, 288, 289, 290, 291, 292, 293, 324, 325, 326, 327, 328, 321, 322, 323, 275, 276, 277, 278, 279, 280, 281, 282, 318, 319, 320, 294, 295, 296, 297, 298, 299, 300, 314, 315, 316, 317] (by decide +kernel) (by decide +kernel)
set_option maxRecDepth 20000 in
theorem gX10_press_X10_pressStop : GoodIn wsX10_press (wsV RX10 295 RX10 yX10_pressStop wsX10_pressStop) := goodIn_app (goodIn_of _ (by decide +kernel)) ggX10_press_X10_pressStop
set_option maxRecDepth 20000 in
theorem ggX10_press_X10_pressAck : GoodIn wsX10_press wsX10_pressAck := goodIn_r _ [196, 3, 197, 198, 199, 15, 200, 170, 201, 202, 203, 8, 204, 205, 206, 207, 208, 209, 210, 139, 211, 212, 213, 214, 215, 216, 217, 218, 219, 220, 221, 222, 223, 224, 225, 226, 227, 228, 229, 230, 231, 64, 65, 66, 67, 68, 1, 69, 70, 71, 72, 73, 74, 75, 76, 77, 78, 283, 284, 285, 286, 287, 288, 289, 290, 291, 292, 293, 329, 330, 331, 332, 333, 334, 335, 275, 276, 277, 278, 279, 280, 281, 282, 336, 337, 338, 324, 325, 326, 327, 328, 301, 302, 303, 304, 305, 306, 307, 308, 309, 310, 311, 312, 313, 339, 340, 341, 342, 318, 319, 320] (by decide +kernel) (by decide +kernel)
set_option maxRecDepth 20000 in
theorem gX10_press_X10_pressAck : GoodIn wsX10_press (wsV RX10 298 RX10 yX10_pressAck wsX10_pressAck) := goodIn_app (goodIn_of _ (by decide +kernel)) ggX10_press_X10_pressAck
set_option maxRecDepth 20000 in
theorem ggX10_press_X10_pressOver : GoodIn wsX10_press wsX10_pressOver := goodIn_r _ [235, 3, 10, 114, 36, 37, 38, 15, 39, 17, 22, 40, 41, 42, 43, 28, 44, 45, 31, 46, 30, 64, 65, 66, 8, 67, 68, 1, 69, 70, 71, 72, 73, 74, 75, 76, 77, 78, 283, 284, 285, 286, 287, 288, 289, 290, 291, 292, 293, 294, 295, 296, 297, 298, 299, 300, 314, 315, 316, 317, 275, 276, 277, 278, 279, 280, 281, 282, 318, 319, 320] (by decide +kernel) (by decide +kernel)
set_option maxRecDepth 20000 in
theorem gX10_press_X10_pressOver : GoodIn wsX10_press (wsV RX10 301 RX10 yX10_pressOver wsX10_pressOver) := goodIn_app (goodIn_of _ (by decide +kernel)) ggX10_press_X10_pressOver
set_option maxRecDepth 20000 in
theorem ggX10_press_X10_pressBolus : GoodIn wsX10_press wsX10_pressBolus := goodIn_r _ [239, 3, 139, 211, 140, 1, 240, 241, 242, 243, 244, 245, 246, 247, 248, 249, 250, 251, 252, 64, 65, 66, 8, 67, 68, 69, 70, 71, 72, 73, 74, 75, 76, 77, 78, 253, 254, 255, 256, 257, 258, 259, 229, 260, 231, 261, 262, 283, 284, 285, 286, 287, 288, 289, 290, 291, 292, 293, 324, 325, 326, 327, 328, 275, 276, 277, 278, 279, 280, 281, 282, 301, 302, 303, 304, 305, 306, 307, 308, 309, 310, 311, 312, 313, 321, 322, 323, 339, 340, 341, 342, 318, 319, 320] (by decide +kernel) (by decide +kernel)
set_option maxRecDepth 20000 in
theorem gX10_press_X10_pressBolus : GoodIn wsX10_press (wsV RX10 304 RX10 yX10_pressBolus wsX10_pressBolus) := goodIn_app (goodIn_of _ (by decide +kernel)) ggX10_press_X10_pressBolus
set_option maxRecDepth 20000 in
theorem ggX10_press_X10_pressRelay : GoodIn wsX10_press wsX10_pressRelay := goodIn_r _ [266, 157, 3, 158, 159, 160, 15, 161, 17, 283, 284, 285, 286, 287, 288, 289, 290, 291, 292, 293] (by decide +kernel) (by decide +kernel)
set_option maxRecDepth 20000 in
theorem gX10_press_X10_pressRelay : GoodIn wsX10_press (wsV RX10 310 RX10 yX10_pressRelay wsX10_pressRelay) := goodIn_app (goodIn_of _ (by decide +kernel)) ggX10_press_X10_pressRelay
set_option maxRecDepth 20000 in
theorem ggX10_press_X10_typeFigure : GoodIn wsX10_press wsX10_typeFigure := goodIn_r _ [270, 10, 11, 3, 12, 13, 14, 15, 16, 17, 18, 19, 20, 21, 22, 23, 24, 271, 272, 273, 28, 274, 31, 45, 30, 46, 283, 284, 285, 286, 287, 288, 289, 290, 291, 292, 293, 294, 295, 296, 297, 298, 299, 300, 301, 302, 303, 304, 305, 306, 307, 308, 309, 310, 311, 312, 313, 314, 315, 316, 317] (by decide +kernel) (by decide +kernel)
set_option maxRecDepth 20000 in
theorem gX10_press_X10_typeFigure : GoodIn wsX10_press (wsV RX10 313 RX10 yX10_typeFigure wsX10_typeFigure) := goodIn_app (goodIn_of _ (by decide +kernel)) ggX10_press_X10_typeFigure
theorem dX10_press_0 : decode cX10_press 0 = .ok (.iload_n 2, 1) := by decide +kernel
theorem dX10_press_1 : decode cX10_press 1 = .ok (.tableswitch 168 10 21 #[63, 69, 75, 81, 87, 93, 99, 105, 111, 117, 133, 162], 63) := by decide +kernel
theorem dX10_press_64 : decode cX10_press 64 = .ok (.aload_n 0, 1) := by decide +kernel
theorem dX10_press_65 : decode cX10_press 65 = .ok (.aload_n 1, 1) := by decide +kernel
theorem dX10_press_66 : decode cX10_press 66 = .ok (.invokevirtual 279, 3) := by decide +kernel
theorem dX10_press_69 : decode cX10_press 69 = .ok (.ireturn, 1) := by decide +kernel
theorem dX10_press_70 : decode cX10_press 70 = .ok (.aload_n 0, 1) := by decide +kernel
theorem dX10_press_71 : decode cX10_press 71 = .ok (.aload_n 1, 1) := by decide +kernel
theorem dX10_press_72 : decode cX10_press 72 = .ok (.invokevirtual 283, 3) := by decide +kernel
theorem dX10_press_75 : decode cX10_press 75 = .ok (.ireturn, 1) := by decide +kernel
theorem dX10_press_76 : decode cX10_press 76 = .ok (.aload_n 0, 1) := by decide +kernel
theorem dX10_press_77 : decode cX10_press 77 = .ok (.aload_n 1, 1) := by decide +kernel
theorem dX10_press_78 : decode cX10_press 78 = .ok (.invokevirtual 286, 3) := by decide +kernel
theorem dX10_press_81 : decode cX10_press 81 = .ok (.ireturn, 1) := by decide +kernel
theorem dX10_press_82 : decode cX10_press 82 = .ok (.aload_n 0, 1) := by decide +kernel
theorem dX10_press_83 : decode cX10_press 83 = .ok (.aload_n 1, 1) := by decide +kernel
theorem dX10_press_84 : decode cX10_press 84 = .ok (.invokevirtual 289, 3) := by decide +kernel
theorem dX10_press_87 : decode cX10_press 87 = .ok (.ireturn, 1) := by decide +kernel
theorem dX10_press_88 : decode cX10_press 88 = .ok (.aload_n 0, 1) := by decide +kernel
theorem dX10_press_89 : decode cX10_press 89 = .ok (.aload_n 1, 1) := by decide +kernel
theorem dX10_press_90 : decode cX10_press 90 = .ok (.invokevirtual 292, 3) := by decide +kernel
theorem dX10_press_93 : decode cX10_press 93 = .ok (.ireturn, 1) := by decide +kernel
theorem dX10_press_94 : decode cX10_press 94 = .ok (.aload_n 0, 1) := by decide +kernel
theorem dX10_press_95 : decode cX10_press 95 = .ok (.aload_n 1, 1) := by decide +kernel
theorem dX10_press_96 : decode cX10_press 96 = .ok (.invokevirtual 295, 3) := by decide +kernel
theorem dX10_press_99 : decode cX10_press 99 = .ok (.ireturn, 1) := by decide +kernel
theorem dX10_press_100 : decode cX10_press 100 = .ok (.aload_n 0, 1) := by decide +kernel
theorem dX10_press_101 : decode cX10_press 101 = .ok (.aload_n 1, 1) := by decide +kernel
theorem dX10_press_102 : decode cX10_press 102 = .ok (.invokevirtual 298, 3) := by decide +kernel
theorem dX10_press_105 : decode cX10_press 105 = .ok (.ireturn, 1) := by decide +kernel
theorem dX10_press_106 : decode cX10_press 106 = .ok (.aload_n 0, 1) := by decide +kernel
theorem dX10_press_107 : decode cX10_press 107 = .ok (.aload_n 1, 1) := by decide +kernel
theorem dX10_press_108 : decode cX10_press 108 = .ok (.invokevirtual 301, 3) := by decide +kernel
theorem dX10_press_111 : decode cX10_press 111 = .ok (.ireturn, 1) := by decide +kernel
theorem dX10_press_112 : decode cX10_press 112 = .ok (.aload_n 0, 1) := by decide +kernel
theorem dX10_press_113 : decode cX10_press 113 = .ok (.aload_n 1, 1) := by decide +kernel
theorem dX10_press_114 : decode cX10_press 114 = .ok (.invokevirtual 304, 3) := by decide +kernel
theorem dX10_press_117 : decode cX10_press 117 = .ok (.ireturn, 1) := by decide +kernel
theorem dX10_press_118 : decode cX10_press 118 = .ok (.aload_n 0, 1) := by decide +kernel
theorem dX10_press_119 : decode cX10_press 119 = .ok (.aload_n 0, 1) := by decide +kernel
theorem dX10_press_120 : decode cX10_press 120 = .ok (.getfield 148, 3) := by decide +kernel
theorem dX10_press_123 : decode cX10_press 123 = .ok (.bipush 120, 2) := by decide +kernel
theorem dX10_press_125 : decode cX10_press 125 = .ok (.iadd, 1) := by decide +kernel
theorem dX10_press_126 : decode cX10_press 126 = .ok (.putfield 307, 3) := by decide +kernel
theorem dX10_press_129 : decode cX10_press 129 = .ok (.aload_n 1, 1) := by decide +kernel
theorem dX10_press_130 : decode cX10_press 130 = .ok (.getfield 141, 3) := by decide +kernel
theorem dX10_press_133 : decode cX10_press 133 = .ok (.ireturn, 1) := by decide +kernel
theorem dX10_press_134 : decode cX10_press 134 = .ok (.aload_n 0, 1) := by decide +kernel
theorem dX10_press_135 : decode cX10_press 135 = .ok (.aload_n 0, 1) := by decide +kernel
theorem dX10_press_136 : decode cX10_press 136 = .ok (.getfield 95, 3) := by decide +kernel
theorem dX10_press_139 : decode cX10_press 139 = .ok (.iconst 1, 1) := by decide +kernel
theorem dX10_press_140 : decode cX10_press 140 = .ok (.iadd, 1) := by decide +kernel
theorem dX10_press_141 : decode cX10_press 141 = .ok (.iconst 3, 1) := by decide +kernel
theorem dX10_press_142 : decode cX10_press 142 = .ok (.if_icmp .ge 12, 3) := by decide +kernel
theorem dX10_press_145 : decode cX10_press 145 = .ok (.aload_n 0, 1) := by decide +kernel
theorem dX10_press_146 : decode cX10_press 146 = .ok (.getfield 95, 3) := by decide +kernel
theorem dX10_press_149 : decode cX10_press 149 = .ok (.iconst 1, 1) := by decide +kernel
theorem dX10_press_150 : decode cX10_press 150 = .ok (.iadd, 1) := by decide +kernel
theorem dX10_press_151 : decode cX10_press 151 = .ok (.goto 4, 3) := by decide +kernel
theorem dX10_press_154 : decode cX10_press 154 = .ok (.iconst 0, 1) := by decide +kernel
theorem dX10_press_155 : decode cX10_press 155 = .ok (.putfield 95, 3) := by decide +kernel
theorem dX10_press_158 : decode cX10_press 158 = .ok (.aload_n 1, 1) := by decide +kernel
theorem dX10_press_159 : decode cX10_press 159 = .ok (.getfield 141, 3) := by decide +kernel
theorem dX10_press_162 : decode cX10_press 162 = .ok (.ireturn, 1) := by decide +kernel
theorem dX10_press_163 : decode cX10_press 163 = .ok (.aload_n 0, 1) := by decide +kernel
theorem dX10_press_164 : decode cX10_press 164 = .ok (.aload_n 1, 1) := by decide +kernel
theorem dX10_press_165 : decode cX10_press 165 = .ok (.invokevirtual 310, 3) := by decide +kernel
theorem dX10_press_168 : decode cX10_press 168 = .ok (.ireturn, 1) := by decide +kernel
theorem dX10_press_169 : decode cX10_press 169 = .ok (.aload_n 0, 1) := by decide +kernel
theorem dX10_press_170 : decode cX10_press 170 = .ok (.aload_n 1, 1) := by decide +kernel
theorem dX10_press_171 : decode cX10_press 171 = .ok (.iload_n 2, 1) := by decide +kernel
theorem dX10_press_172 : decode cX10_press 172 = .ok (.invokevirtual 313, 3) := by decide +kernel
theorem dX10_press_175 : decode cX10_press 175 = .ok (.ireturn, 1) := by decide +kernel
theorem dX10_keepsEntryAlive_0 : decode cX10_keepsEntryAlive 0 = .ok (.iload_n 0, 1) := by decide +kernel
theorem dX10_keepsEntryAlive_1 : decode cX10_keepsEntryAlive 1 = .ok (.bipush 16, 2) := by decide +kernel
theorem dX10_keepsEntryAlive_3 : decode cX10_keepsEntryAlive 3 = .ok (.if_icmp .eq 25, 3) := by decide +kernel
theorem dX10_keepsEntryAlive_6 : decode cX10_keepsEntryAlive 6 = .ok (.iload_n 0, 1) := by decide +kernel
theorem dX10_keepsEntryAlive_7 : decode cX10_keepsEntryAlive 7 = .ok (.bipush 18, 2) := by decide +kernel
theorem dX10_keepsEntryAlive_9 : decode cX10_keepsEntryAlive 9 = .ok (.if_icmp .eq 19, 3) := by decide +kernel
theorem dX10_keepsEntryAlive_12 : decode cX10_keepsEntryAlive 12 = .ok (.iload_n 0, 1) := by decide +kernel
theorem dX10_keepsEntryAlive_13 : decode cX10_keepsEntryAlive 13 = .ok (.bipush 19, 2) := by decide +kernel
theorem dX10_keepsEntryAlive_15 : decode cX10_keepsEntryAlive 15 = .ok (.if_icmp .eq 13, 3) := by decide +kernel
theorem dX10_keepsEntryAlive_18 : decode cX10_keepsEntryAlive 18 = .ok (.iload_n 0, 1) := by decide +kernel
theorem dX10_keepsEntryAlive_19 : decode cX10_keepsEntryAlive 19 = .ok (.bipush 20, 2) := by decide +kernel
theorem dX10_keepsEntryAlive_21 : decode cX10_keepsEntryAlive 21 = .ok (.if_icmp .eq 7, 3) := by decide +kernel
theorem dX10_keepsEntryAlive_24 : decode cX10_keepsEntryAlive 24 = .ok (.iconst 1, 1) := by decide +kernel
theorem dX10_keepsEntryAlive_25 : decode cX10_keepsEntryAlive 25 = .ok (.goto 4, 3) := by decide +kernel
