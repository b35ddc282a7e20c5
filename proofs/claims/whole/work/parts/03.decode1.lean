theorem dX0_sortOf_0 : decode cX0_sortOf 0 = .ok (.iload_n 0, 1) := by decide +kernel
theorem dX0_sortOf_1 : decode cX0_sortOf 1 = .ok (.lookupswitch 82 #[(46, 67), (68, 75), (85, 71), (99, 77), (100, 73), (117, 69), (126, 79)], 67) := by decide +kernel
theorem dX0_sortOf_68 : decode cX0_sortOf 68 = .ok (.iconst 0, 1) := by decide +kernel
theorem dX0_sortOf_69 : decode cX0_sortOf 69 = .ok (.ireturn, 1) := by decide +kernel
theorem dX0_sortOf_70 : decode cX0_sortOf 70 = .ok (.iconst 1, 1) := by decide +kernel
theorem dX0_sortOf_71 : decode cX0_sortOf 71 = .ok (.ireturn, 1) := by decide +kernel
theorem dX0_sortOf_72 : decode cX0_sortOf 72 = .ok (.iconst 2, 1) := by decide +kernel
theorem dX0_sortOf_73 : decode cX0_sortOf 73 = .ok (.ireturn, 1) := by decide +kernel
theorem dX0_sortOf_74 : decode cX0_sortOf 74 = .ok (.iconst 3, 1) := by decide +kernel
theorem dX0_sortOf_75 : decode cX0_sortOf 75 = .ok (.ireturn, 1) := by decide +kernel
theorem dX0_sortOf_76 : decode cX0_sortOf 76 = .ok (.iconst 4, 1) := by decide +kernel
theorem dX0_sortOf_77 : decode cX0_sortOf 77 = .ok (.ireturn, 1) := by decide +kernel
theorem dX0_sortOf_78 : decode cX0_sortOf 78 = .ok (.iconst 5, 1) := by decide +kernel
theorem dX0_sortOf_79 : decode cX0_sortOf 79 = .ok (.ireturn, 1) := by decide +kernel
theorem dX0_sortOf_80 : decode cX0_sortOf 80 = .ok (.bipush 6, 2) := by decide +kernel
theorem dX0_sortOf_82 : decode cX0_sortOf 82 = .ok (.ireturn, 1) := by decide +kernel
theorem dX0_sortOf_83 : decode cX0_sortOf 83 = .ok (.iconst (-1), 1) := by decide +kernel
theorem dX0_sortOf_84 : decode cX0_sortOf 84 = .ok (.ireturn, 1) := by decide +kernel
theorem dX0_hardOf_0 : decode cX0_hardOf 0 = .ok (.iload_n 0, 1) := by decide +kernel
theorem dX0_hardOf_1 : decode cX0_hardOf 1 = .ok (.tableswitch 44 1 4 #[31, 34, 38, 41], 31) := by decide +kernel
theorem dX0_hardOf_32 : decode cX0_hardOf 32 = .ok (.bipush 120, 2) := by decide +kernel
theorem dX0_hardOf_34 : decode cX0_hardOf 34 = .ok (.ireturn, 1) := by decide +kernel
theorem dX0_hardOf_35 : decode cX0_hardOf 35 = .ok (.sipush 240, 3) := by decide +kernel
theorem dX0_hardOf_38 : decode cX0_hardOf 38 = .ok (.ireturn, 1) := by decide +kernel
theorem dX0_hardOf_39 : decode cX0_hardOf 39 = .ok (.bipush 30, 2) := by decide +kernel
theorem dX0_hardOf_41 : decode cX0_hardOf 41 = .ok (.ireturn, 1) := by decide +kernel
theorem dX0_hardOf_42 : decode cX0_hardOf 42 = .ok (.bipush 20, 2) := by decide +kernel
theorem dX0_hardOf_44 : decode cX0_hardOf 44 = .ok (.ireturn, 1) := by decide +kernel
theorem dX0_hardOf_45 : decode cX0_hardOf 45 = .ok (.bipush 60, 2) := by decide +kernel
theorem dX0_hardOf_47 : decode cX0_hardOf 47 = .ok (.ireturn, 1) := by decide +kernel
theorem dX0_secondsOf_0 : decode cX0_secondsOf 0 = .ok (.iload_n 0, 1) := by decide +kernel
theorem dX0_secondsOf_1 : decode cX0_secondsOf 1 = .ok (.iconst 1, 1) := by decide +kernel
theorem dX0_secondsOf_2 : decode cX0_secondsOf 2 = .ok (.iconst 0, 1) := by decide +kernel
theorem dX0_secondsOf_3 : decode cX0_secondsOf 3 = .ok (.iload_n 1, 1) := by decide +kernel
theorem dX0_secondsOf_4 : decode cX0_secondsOf 4 = .ok (.invokestatic 9, 3) := by decide +kernel
theorem dX0_secondsOf_7 : decode cX0_secondsOf 7 = .ok (.iadd, 1) := by decide +kernel
theorem dX0_secondsOf_8 : decode cX0_secondsOf 8 = .ok (.idiv, 1) := by decide +kernel
theorem dX0_secondsOf_9 : decode cX0_secondsOf 9 = .ok (.iconst 1, 1) := by decide +kernel
theorem dX0_secondsOf_10 : decode cX0_secondsOf 10 = .ok (.iadd, 1) := by decide +kernel
theorem dX0_secondsOf_11 : decode cX0_secondsOf 11 = .ok (.ireturn, 1) := by decide +kernel
theorem dX0_heatBehind_0 : decode cX0_heatBehind 0 = .ok (.iload_n 1, 1) := by decide +kernel
theorem dX0_heatBehind_1 : decode cX0_heatBehind 1 = .ok (.iconst 3, 1) := by decide +kernel
theorem dX0_heatBehind_2 : decode cX0_heatBehind 2 = .ok (.if_icmp .ne 7, 3) := by decide +kernel
theorem dX0_heatBehind_5 : decode cX0_heatBehind 5 = .ok (.iload_n 0, 1) := by decide +kernel
theorem dX0_heatBehind_6 : decode cX0_heatBehind 6 = .ok (.iconst 2, 1) := by decide +kernel
theorem dX0_heatBehind_7 : decode cX0_heatBehind 7 = .ok (.iadd, 1) := by decide +kernel
theorem dX0_heatBehind_8 : decode cX0_heatBehind 8 = .ok (.ireturn, 1) := by decide +kernel
theorem dX0_heatBehind_9 : decode cX0_heatBehind 9 = .ok (.iload_n 1, 1) := by decide +kernel
theorem dX0_heatBehind_10 : decode cX0_heatBehind 10 = .ok (.iconst 4, 1) := by decide +kernel
theorem dX0_heatBehind_11 : decode cX0_heatBehind 11 = .ok (.if_icmp .ne 7, 3) := by decide +kernel
theorem dX0_heatBehind_14 : decode cX0_heatBehind 14 = .ok (.iload_n 0, 1) := by decide +kernel
theorem dX0_heatBehind_15 : decode cX0_heatBehind 15 = .ok (.iconst 5, 1) := by decide +kernel
theorem dX0_heatBehind_16 : decode cX0_heatBehind 16 = .ok (.iadd, 1) := by decide +kernel
theorem dX0_heatBehind_17 : decode cX0_heatBehind 17 = .ok (.ireturn, 1) := by decide +kernel
theorem dX0_heatBehind_18 : decode cX0_heatBehind 18 = .ok (.iconst 0, 1) := by decide +kernel
theorem dX0_heatBehind_19 : decode cX0_heatBehind 19 = .ok (.iload_n 0, 1) := by decide +kernel
theorem dX0_heatBehind_20 : decode cX0_heatBehind 20 = .ok (.iconst 1, 1) := by decide +kernel
theorem dX0_heatBehind_21 : decode cX0_heatBehind 21 = .ok (.isub, 1) := by decide +kernel
theorem dX0_heatBehind_22 : decode cX0_heatBehind 22 = .ok (.invokestatic 9, 3) := by decide +kernel
theorem dX0_heatBehind_25 : decode cX0_heatBehind 25 = .ok (.ireturn, 1) := by decide +kernel
theorem dX0_soreBehind_0 : decode cX0_soreBehind 0 = .ok (.iload_n 1, 1) := by decide +kernel
theorem dX0_soreBehind_1 : decode cX0_soreBehind 1 = .ok (.iconst 5, 1) := by decide +kernel
theorem dX0_soreBehind_2 : decode cX0_soreBehind 2 = .ok (.if_icmp .ne 7, 3) := by decide +kernel
theorem dX0_soreBehind_5 : decode cX0_soreBehind 5 = .ok (.iload_n 0, 1) := by decide +kernel
theorem dX0_soreBehind_6 : decode cX0_soreBehind 6 = .ok (.iconst 3, 1) := by decide +kernel
theorem dX0_soreBehind_7 : decode cX0_soreBehind 7 = .ok (.iadd, 1) := by decide +kernel
theorem dX0_soreBehind_8 : decode cX0_soreBehind 8 = .ok (.ireturn, 1) := by decide +kernel
theorem dX0_soreBehind_9 : decode cX0_soreBehind 9 = .ok (.iload_n 1, 1) := by decide +kernel
theorem dX0_soreBehind_10 : decode cX0_soreBehind 10 = .ok (.bipush 6, 2) := by decide +kernel
theorem dX0_soreBehind_12 : decode cX0_soreBehind 12 = .ok (.if_icmp .ne 7, 3) := by decide +kernel
theorem dX0_soreBehind_15 : decode cX0_soreBehind 15 = .ok (.iload_n 0, 1) := by decide +kernel
theorem dX0_soreBehind_16 : decode cX0_soreBehind 16 = .ok (.iconst 2, 1) := by decide +kernel
theorem dX0_soreBehind_17 : decode cX0_soreBehind 17 = .ok (.iadd, 1) := by decide +kernel
theorem dX0_soreBehind_18 : decode cX0_soreBehind 18 = .ok (.ireturn, 1) := by decide +kernel
theorem dX0_soreBehind_19 : decode cX0_soreBehind 19 = .ok (.iconst 0, 1) := by decide +kernel
theorem dX0_soreBehind_20 : decode cX0_soreBehind 20 = .ok (.iload_n 0, 1) := by decide +kernel
theorem dX0_soreBehind_21 : decode cX0_soreBehind 21 = .ok (.iconst 1, 1) := by decide +kernel
theorem dX0_soreBehind_22 : decode cX0_soreBehind 22 = .ok (.isub, 1) := by decide +kernel
theorem dX0_soreBehind_23 : decode cX0_soreBehind 23 = .ok (.invokestatic 9, 3) := by decide +kernel
theorem dX0_soreBehind_26 : decode cX0_soreBehind 26 = .ok (.ireturn, 1) := by decide +kernel
theorem dX1_init_0 : decode cX1_init 0 = .ok (.aload_n 0, 1) := by decide +kernel
theorem dX1_init_1 : decode cX1_init 1 = .ok (.invokespecial 3, 3) := by decide +kernel
theorem dX1_init_4 : decode cX1_init 4 = .ok (.aload_n 0, 1) := by decide +kernel
theorem dX1_init_5 : decode cX1_init 5 = .ok (.bipush 110, 2) := by decide +kernel
theorem dX1_init_7 : decode cX1_init 7 = .ok (.newarray .int, 2) := by decide +kernel
theorem dX1_init_9 : decode cX1_init 9 = .ok (.putfield 9, 3) := by decide +kernel
theorem dX1_init_12 : decode cX1_init 12 = .ok (.return_, 1) := by decide +kernel
theorem dX1_add_0 : decode cX1_add 0 = .ok (.aload_n 0, 1) := by decide +kernel
theorem dX1_add_1 : decode cX1_add 1 = .ok (.getfield 15, 3) := by decide +kernel
theorem dX1_add_4 : decode cX1_add 4 = .ok (.ifCond .lt 15, 3) := by decide +kernel
theorem dX1_add_7 : decode cX1_add 7 = .ok (.aload_n 0, 1) := by decide +kernel
theorem dX1_add_8 : decode cX1_add 8 = .ok (.getfield 15, 3) := by decide +kernel
theorem dX1_add_11 : decode cX1_add 11 = .ok (.aload_n 0, 1) := by decide +kernel
theorem dX1_add_12 : decode cX1_add 12 = .ok (.getfield 9, 3) := by decide +kernel
theorem dX1_add_15 : decode cX1_add 15 = .ok (.arraylength, 1) := by decide +kernel
theorem dX1_add_16 : decode cX1_add 16 = .ok (.if_icmp .lt 4, 3) := by decide +kernel
theorem dX1_add_19 : decode cX1_add 19 = .ok (.return_, 1) := by decide +kernel
theorem dX1_add_20 : decode cX1_add 20 = .ok (.aload_n 0, 1) := by decide +kernel
theorem dX1_add_21 : decode cX1_add 21 = .ok (.getfield 9, 3) := by decide +kernel
theorem dX1_add_24 : decode cX1_add 24 = .ok (.aload_n 0, 1) := by decide +kernel
theorem dX1_add_25 : decode cX1_add 25 = .ok (.getfield 15, 3) := by decide +kernel
theorem dX1_add_28 : decode cX1_add 28 = .ok (.iload_n 1, 1) := by decide +kernel
theorem dX1_add_29 : decode cX1_add 29 = .ok (.iastore, 1) := by decide +kernel
theorem dX1_add_30 : decode cX1_add 30 = .ok (.aload_n 0, 1) := by decide +kernel
theorem dX1_add_31 : decode cX1_add 31 = .ok (.dup, 1) := by decide +kernel
theorem dX1_add_32 : decode cX1_add 32 = .ok (.getfield 15, 3) := by decide +kernel
theorem dX1_add_35 : decode cX1_add 35 = .ok (.iconst 1, 1) := by decide +kernel
theorem dX1_add_36 : decode cX1_add 36 = .ok (.iadd, 1) := by decide +kernel
theorem dX1_add_37 : decode cX1_add 37 = .ok (.putfield 15, 3) := by decide +kernel
theorem dX1_add_40 : decode cX1_add 40 = .ok (.return_, 1) := by decide +kernel
theorem dX1_signAt_0 : decode cX1_signAt 0 = .ok (.iload_n 1, 1) := by decide +kernel
theorem dX1_signAt_1 : decode cX1_signAt 1 = .ok (.ifCond .lt 29, 3) := by decide +kernel
theorem dX1_signAt_4 : decode cX1_signAt 4 = .ok (.iload_n 1, 1) := by decide +kernel
theorem dX1_signAt_5 : decode cX1_signAt 5 = .ok (.aload_n 0, 1) := by decide +kernel
theorem dX1_signAt_6 : decode cX1_signAt 6 = .ok (.getfield 15, 3) := by decide +kernel
theorem dX1_signAt_9 : decode cX1_signAt 9 = .ok (.if_icmp .ge 21, 3) := by decide +kernel
theorem dX1_signAt_12 : decode cX1_signAt 12 = .ok (.iload_n 1, 1) := by decide +kernel
theorem dX1_signAt_13 : decode cX1_signAt 13 = .ok (.aload_n 0, 1) := by decide +kernel
theorem dX1_signAt_14 : decode cX1_signAt 14 = .ok (.getfield 9, 3) := by decide +kernel
theorem dX1_signAt_17 : decode cX1_signAt 17 = .ok (.arraylength, 1) := by decide +kernel
theorem dX1_signAt_18 : decode cX1_signAt 18 = .ok (.if_icmp .ge 12, 3) := by decide +kernel
theorem dX1_signAt_21 : decode cX1_signAt 21 = .ok (.aload_n 0, 1) := by decide +kernel
theorem dX1_signAt_22 : decode cX1_signAt 22 = .ok (.getfield 9, 3) := by decide +kernel
theorem dX1_signAt_25 : decode cX1_signAt 25 = .ok (.iload_n 1, 1) := by decide +kernel
theorem dX1_signAt_26 : decode cX1_signAt 26 = .ok (.iaload, 1) := by decide +kernel
theorem dX1_signAt_27 : decode cX1_signAt 27 = .ok (.goto 4, 3) := by decide +kernel
theorem dX1_signAt_30 : decode cX1_signAt 30 = .ok (.iconst 0, 1) := by decide +kernel
theorem dX1_signAt_31 : decode cX1_signAt 31 = .ok (.ireturn, 1) := by decide +kernel
theorem dX1_faultAsWay_0 : decode cX1_faultAsWay 0 = .ok (.iconst 0, 1) := by decide +kernel
theorem dX1_faultAsWay_1 : decode cX1_faultAsWay 1 = .ok (.istore_n 1, 1) := by decide +kernel
theorem dX1_faultAsWay_2 : decode cX1_faultAsWay 2 = .ok (.iload_n 1, 1) := by decide +kernel
theorem dX1_faultAsWay_3 : decode cX1_faultAsWay 3 = .ok (.aload_n 0, 1) := by decide +kernel
theorem dX1_faultAsWay_4 : decode cX1_faultAsWay 4 = .ok (.getfield 15, 3) := by decide +kernel
theorem dX1_faultAsWay_7 : decode cX1_faultAsWay 7 = .ok (.if_icmp .ge 28, 3) := by decide +kernel
theorem dX1_faultAsWay_10 : decode cX1_faultAsWay 10 = .ok (.iload_n 1, 1) := by decide +kernel
theorem dX1_faultAsWay_11 : decode cX1_faultAsWay 11 = .ok (.bipush 24, 2) := by decide +kernel
theorem dX1_faultAsWay_13 : decode cX1_faultAsWay 13 = .ok (.if_icmp .ge 14, 3) := by decide +kernel
theorem dX1_faultAsWay_16 : decode cX1_faultAsWay 16 = .ok (.aload_n 0, 1) := by decide +kernel
theorem dX1_faultAsWay_17 : decode cX1_faultAsWay 17 = .ok (.iload_n 1, 1) := by decide +kernel
theorem dX1_faultAsWay_18 : decode cX1_faultAsWay 18 = .ok (.invokevirtual 19, 3) := by decide +kernel
theorem dX1_faultAsWay_21 : decode cX1_faultAsWay 21 = .ok (.invokestatic 23, 3) := by decide +kernel
theorem dX1_faultAsWay_24 : decode cX1_faultAsWay 24 = .ok (.ifCond .ge 5, 3) := by decide +kernel
theorem dX1_faultAsWay_27 : decode cX1_faultAsWay 27 = .ok (.iload_n 1, 1) := by decide +kernel
theorem dX1_faultAsWay_28 : decode cX1_faultAsWay 28 = .ok (.ireturn, 1) := by decide +kernel
theorem dX1_faultAsWay_29 : decode cX1_faultAsWay 29 = .ok (.iinc 1 1, 3) := by decide +kernel
theorem dX1_faultAsWay_32 : decode cX1_faultAsWay 32 = .ok (.goto (-30), 3) := by decide +kernel
theorem dX1_faultAsWay_35 : decode cX1_faultAsWay 35 = .ok (.aload_n 0, 1) := by decide +kernel
theorem dX1_faultAsWay_36 : decode cX1_faultAsWay 36 = .ok (.getfield 15, 3) := by decide +kernel
theorem dX1_faultAsWay_39 : decode cX1_faultAsWay 39 = .ok (.ifCond .ne 7, 3) := by decide +kernel
theorem dX1_faultAsWay_42 : decode cX1_faultAsWay 42 = .ok (.iconst 0, 1) := by decide +kernel
theorem dX1_faultAsWay_43 : decode cX1_faultAsWay 43 = .ok (.goto 5, 3) := by decide +kernel
theorem dX1_faultAsWay_46 : decode cX1_faultAsWay 46 = .ok (.bipush (-6), 2) := by decide +kernel
theorem dX1_faultAsWay_48 : decode cX1_faultAsWay 48 = .ok (.ireturn, 1) := by decide +kernel
theorem dX2_init_0 : decode cX2_init 0 = .ok (.aload_n 0, 1) := by decide +kernel
theorem dX2_init_1 : decode cX2_init 1 = .ok (.invokespecial 3, 3) := by decide +kernel
theorem dX2_init_4 : decode cX2_init 4 = .ok (.aload_n 0, 1) := by decide +kernel
theorem dX2_init_5 : decode cX2_init 5 = .ok (.bipush 24, 2) := by decide +kernel
theorem dX2_init_7 : decode cX2_init 7 = .ok (.newarray .boolean, 2) := by decide +kernel
theorem dX2_init_9 : decode cX2_init 9 = .ok (.putfield 9, 3) := by decide +kernel
theorem dX2_init_12 : decode cX2_init 12 = .ok (.aload_n 0, 1) := by decide +kernel
theorem dX2_init_13 : decode cX2_init 13 = .ok (.bipush 24, 2) := by decide +kernel
theorem dX2_init_15 : decode cX2_init 15 = .ok (.newarray .int, 2) := by decide +kernel
theorem dX2_init_17 : decode cX2_init 17 = .ok (.putfield 15, 3) := by decide +kernel
theorem dX2_init_20 : decode cX2_init 20 = .ok (.aload_n 0, 1) := by decide +kernel
theorem dX2_init_21 : decode cX2_init 21 = .ok (.bipush 24, 2) := by decide +kernel
theorem dX2_init_23 : decode cX2_init 23 = .ok (.newarray .int, 2) := by decide +kernel
theorem dX2_init_25 : decode cX2_init 25 = .ok (.putfield 19, 3) := by decide +kernel
theorem dX2_init_28 : decode cX2_init 28 = .ok (.aload_n 0, 1) := by decide +kernel
theorem dX2_init_29 : decode cX2_init 29 = .ok (.bipush 24, 2) := by decide +kernel
theorem dX2_init_31 : decode cX2_init 31 = .ok (.newarray .int, 2) := by decide +kernel
theorem dX2_init_33 : decode cX2_init 33 = .ok (.putfield 22, 3) := by decide +kernel
theorem dX2_init_36 : decode cX2_init 36 = .ok (.return_, 1) := by decide +kernel
theorem dX2_read_0 : decode cX2_read 0 = .ok (.iconst 0, 1) := by decide +kernel
theorem dX2_read_1 : decode cX2_read 1 = .ok (.istore_n 3, 1) := by decide +kernel
theorem dX2_read_2 : decode cX2_read 2 = .ok (.iconst 0, 1) := by decide +kernel
theorem dX2_read_3 : decode cX2_read 3 = .ok (.istore 4, 2) := by decide +kernel
theorem dX2_read_5 : decode cX2_read 5 = .ok (.iload 4, 2) := by decide +kernel
theorem dX2_read_7 : decode cX2_read 7 = .ok (.iload_n 2, 1) := by decide +kernel
theorem dX2_read_8 : decode cX2_read 8 = .ok (.if_icmp .ge 148, 3) := by decide +kernel
theorem dX2_read_11 : decode cX2_read 11 = .ok (.aload_n 0, 1) := by decide +kernel
theorem dX2_read_12 : decode cX2_read 12 = .ok (.getfield 9, 3) := by decide +kernel
theorem dX2_read_15 : decode cX2_read 15 = .ok (.iload 4, 2) := by decide +kernel
theorem dX2_read_17 : decode cX2_read 17 = .ok (.aload_n 1, 1) := by decide +kernel
theorem dX2_read_18 : decode cX2_read 18 = .ok (.iload_n 3, 1) := by decide +kernel
theorem dX2_read_19 : decode cX2_read 19 = .ok (.invokevirtual 25, 3) := by decide +kernel
theorem dX2_read_22 : decode cX2_read 22 = .ok (.bipush 82, 2) := by decide +kernel
theorem dX2_read_24 : decode cX2_read 24 = .ok (.if_icmp .ne 7, 3) := by decide +kernel
theorem dX2_read_27 : decode cX2_read 27 = .ok (.iconst 1, 1) := by decide +kernel
theorem dX2_read_28 : decode cX2_read 28 = .ok (.goto 4, 3) := by decide +kernel
theorem dX2_read_31 : decode cX2_read 31 = .ok (.iconst 0, 1) := by decide +kernel
theorem dX2_read_32 : decode cX2_read 32 = .ok (.bastore, 1) := by decide +kernel
theorem dX2_read_33 : decode cX2_read 33 = .ok (.aload_n 0, 1) := by decide +kernel
theorem dX2_read_34 : decode cX2_read 34 = .ok (.getfield 9, 3) := by decide +kernel
theorem dX2_read_37 : decode cX2_read 37 = .ok (.iload 4, 2) := by decide +kernel
theorem dX2_read_39 : decode cX2_read 39 = .ok (.baload, 1) := by decide +kernel
theorem dX2_read_40 : decode cX2_read 40 = .ok (.ifCond .eq 6, 3) := by decide +kernel
theorem dX2_read_43 : decode cX2_read 43 = .ok (.iinc 3 1, 3) := by decide +kernel
theorem dX2_read_46 : decode cX2_read 46 = .ok (.aload_n 0, 1) := by decide +kernel
theorem dX2_read_47 : decode cX2_read 47 = .ok (.getfield 15, 3) := by decide +kernel
theorem dX2_read_50 : decode cX2_read 50 = .ok (.iload 4, 2) := by decide +kernel
theorem dX2_read_52 : decode cX2_read 52 = .ok (.aload_n 1, 1) := by decide +kernel
theorem dX2_read_53 : decode cX2_read 53 = .ok (.iload_n 3, 1) := by decide +kernel
theorem dX2_read_54 : decode cX2_read 54 = .ok (.invokevirtual 25, 3) := by decide +kernel
theorem dX2_read_57 : decode cX2_read 57 = .ok (.bipush 48, 2) := by decide +kernel
theorem dX2_read_59 : decode cX2_read 59 = .ok (.isub, 1) := by decide +kernel
theorem dX2_read_60 : decode cX2_read 60 = .ok (.iastore, 1) := by decide +kernel
theorem dX2_read_61 : decode cX2_read 61 = .ok (.aload_n 0, 1) := by decide +kernel
theorem dX2_read_62 : decode cX2_read 62 = .ok (.getfield 15, 3) := by decide +kernel
theorem dX2_read_65 : decode cX2_read 65 = .ok (.iload 4, 2) := by decide +kernel
theorem dX2_read_67 : decode cX2_read 67 = .ok (.iaload, 1) := by decide +kernel
theorem dX2_read_68 : decode cX2_read 68 = .ok (.invokestatic 31, 3) := by decide +kernel
theorem dX2_read_71 : decode cX2_read 71 = .ok (.ifCond .ne 5, 3) := by decide +kernel
theorem dX2_read_74 : decode cX2_read 74 = .ok (.iload_n 3, 1) := by decide +kernel
theorem dX2_read_75 : decode cX2_read 75 = .ok (.ireturn, 1) := by decide +kernel
theorem dX2_read_76 : decode cX2_read 76 = .ok (.iinc 3 1, 3) := by decide +kernel
theorem dX2_read_79 : decode cX2_read 79 = .ok (.aload_n 0, 1) := by decide +kernel
theorem dX2_read_80 : decode cX2_read 80 = .ok (.getfield 19, 3) := by decide +kernel
theorem dX2_read_83 : decode cX2_read 83 = .ok (.iload 4, 2) := by decide +kernel
theorem dX2_read_85 : decode cX2_read 85 = .ok (.aload_n 1, 1) := by decide +kernel
theorem dX2_read_86 : decode cX2_read 86 = .ok (.iload_n 3, 1) := by decide +kernel
theorem dX2_read_87 : decode cX2_read 87 = .ok (.invokevirtual 25, 3) := by decide +kernel
theorem dX2_read_90 : decode cX2_read 90 = .ok (.bipush 48, 2) := by decide +kernel
theorem dX2_read_92 : decode cX2_read 92 = .ok (.isub, 1) := by decide +kernel
theorem dX2_read_93 : decode cX2_read 93 = .ok (.iastore, 1) := by decide +kernel
theorem dX2_read_94 : decode cX2_read 94 = .ok (.aload_n 0, 1) := by decide +kernel
theorem dX2_read_95 : decode cX2_read 95 = .ok (.getfield 19, 3) := by decide +kernel
theorem dX2_read_98 : decode cX2_read 98 = .ok (.iload 4, 2) := by decide +kernel
theorem dX2_read_100 : decode cX2_read 100 = .ok (.iaload, 1) := by decide +kernel
theorem dX2_read_101 : decode cX2_read 101 = .ok (.invokestatic 31, 3) := by decide +kernel
theorem dX2_read_104 : decode cX2_read 104 = .ok (.ifCond .ne 5, 3) := by decide +kernel
theorem dX2_read_107 : decode cX2_read 107 = .ok (.iload_n 3, 1) := by decide +kernel
theorem dX2_read_108 : decode cX2_read 108 = .ok (.ireturn, 1) := by decide +kernel
theorem dX2_read_109 : decode cX2_read 109 = .ok (.iinc 3 1, 3) := by decide +kernel
theorem dX2_read_112 : decode cX2_read 112 = .ok (.aload_n 0, 1) := by decide +kernel
theorem dX2_read_113 : decode cX2_read 113 = .ok (.getfield 22, 3) := by decide +kernel
theorem dX2_read_116 : decode cX2_read 116 = .ok (.iload 4, 2) := by decide +kernel
theorem dX2_read_118 : decode cX2_read 118 = .ok (.aload_n 1, 1) := by decide +kernel
theorem dX2_read_119 : decode cX2_read 119 = .ok (.iload_n 3, 1) := by decide +kernel
theorem dX2_read_120 : decode cX2_read 120 = .ok (.invokevirtual 25, 3) := by decide +kernel
theorem dX2_read_123 : decode cX2_read 123 = .ok (.bipush 97, 2) := by decide +kernel
theorem dX2_read_125 : decode cX2_read 125 = .ok (.isub, 1) := by decide +kernel
theorem dX2_read_126 : decode cX2_read 126 = .ok (.iconst 4, 1) := by decide +kernel
theorem dX2_read_127 : decode cX2_read 127 = .ok (.iadd, 1) := by decide +kernel
theorem dX2_read_128 : decode cX2_read 128 = .ok (.iastore, 1) := by decide +kernel
theorem dX2_read_129 : decode cX2_read 129 = .ok (.aload_n 0, 1) := by decide +kernel
theorem dX2_read_130 : decode cX2_read 130 = .ok (.getfield 22, 3) := by decide +kernel
theorem dX2_read_133 : decode cX2_read 133 = .ok (.iload 4, 2) := by decide +kernel
theorem dX2_read_135 : decode cX2_read 135 = .ok (.iaload, 1) := by decide +kernel
theorem dX2_read_136 : decode cX2_read 136 = .ok (.iconst 4, 1) := by decide +kernel
theorem dX2_read_137 : decode cX2_read 137 = .ok (.bipush 10, 2) := by decide +kernel
theorem dX2_read_139 : decode cX2_read 139 = .ok (.invokestatic 35, 3) := by decide +kernel
theorem dX2_read_142 : decode cX2_read 142 = .ok (.ifCond .ne 5, 3) := by decide +kernel
theorem dX2_read_145 : decode cX2_read 145 = .ok (.iload_n 3, 1) := by decide +kernel
theorem dX2_read_146 : decode cX2_read 146 = .ok (.ireturn, 1) := by decide +kernel
theorem dX2_read_147 : decode cX2_read 147 = .ok (.iinc 3 1, 3) := by decide +kernel
theorem dX2_read_150 : decode cX2_read 150 = .ok (.iinc 4 1, 3) := by decide +kernel
theorem dX2_read_153 : decode cX2_read 153 = .ok (.goto (-148), 3) := by decide +kernel
theorem dX2_read_156 : decode cX2_read 156 = .ok (.iload_n 3, 1) := by decide +kernel
theorem dX2_read_157 : decode cX2_read 157 = .ok (.aload_n 1, 1) := by decide +kernel
theorem dX2_read_158 : decode cX2_read 158 = .ok (.getfield 39, 3) := by decide +kernel
theorem dX2_read_161 : decode cX2_read 161 = .ok (.if_icmp .ge 7, 3) := by decide +kernel
theorem dX2_read_164 : decode cX2_read 164 = .ok (.iload_n 3, 1) := by decide +kernel
theorem dX2_read_165 : decode cX2_read 165 = .ok (.goto 5, 3) := by decide +kernel
theorem dX2_read_168 : decode cX2_read 168 = .ok (.bipush (-6), 2) := by decide +kernel
theorem dX2_read_170 : decode cX2_read 170 = .ok (.ireturn, 1) := by decide +kernel
theorem dX2_restsIn_0 : decode cX2_restsIn 0 = .ok (.iconst 0, 1) := by decide +kernel
theorem dX2_restsIn_1 : decode cX2_restsIn 1 = .ok (.istore_n 2, 1) := by decide +kernel
theorem dX2_restsIn_2 : decode cX2_restsIn 2 = .ok (.iload_n 2, 1) := by decide +kernel
theorem dX2_restsIn_3 : decode cX2_restsIn 3 = .ok (.iload_n 1, 1) := by decide +kernel
theorem dX2_restsIn_4 : decode cX2_restsIn 4 = .ok (.if_icmp .ge 20, 3) := by decide +kernel
theorem dX2_restsIn_7 : decode cX2_restsIn 7 = .ok (.aload_n 0, 1) := by decide +kernel
theorem dX2_restsIn_8 : decode cX2_restsIn 8 = .ok (.getfield 9, 3) := by decide +kernel
theorem dX2_restsIn_11 : decode cX2_restsIn 11 = .ok (.iload_n 2, 1) := by decide +kernel
theorem dX2_restsIn_12 : decode cX2_restsIn 12 = .ok (.baload, 1) := by decide +kernel
theorem dX2_restsIn_13 : decode cX2_restsIn 13 = .ok (.ifCond .eq 5, 3) := by decide +kernel
theorem dX2_restsIn_16 : decode cX2_restsIn 16 = .ok (.iconst 1, 1) := by decide +kernel
theorem dX2_restsIn_17 : decode cX2_restsIn 17 = .ok (.ireturn, 1) := by decide +kernel
theorem dX2_restsIn_18 : decode cX2_restsIn 18 = .ok (.iinc 2 1, 3) := by decide +kernel
theorem dX2_restsIn_21 : decode cX2_restsIn 21 = .ok (.goto (-19), 3) := by decide +kernel
theorem dX2_restsIn_24 : decode cX2_restsIn 24 = .ok (.iconst 0, 1) := by decide +kernel
theorem dX2_restsIn_25 : decode cX2_restsIn 25 = .ok (.ireturn, 1) := by decide +kernel
theorem dX3_init_0 : decode cX3_init 0 = .ok (.aload_n 0, 1) := by decide +kernel
theorem dX3_init_1 : decode cX3_init 1 = .ok (.invokespecial 3, 3) := by decide +kernel
theorem dX3_init_4 : decode cX3_init 4 = .ok (.aload_n 0, 1) := by decide +kernel
theorem dX3_init_5 : decode cX3_init 5 = .ok (.bipush 24, 2) := by decide +kernel
theorem dX3_init_7 : decode cX3_init 7 = .ok (.newarray .int, 2) := by decide +kernel
theorem dX3_init_9 : decode cX3_init 9 = .ok (.putfield 9, 3) := by decide +kernel
theorem dX3_init_12 : decode cX3_init 12 = .ok (.aload_n 0, 1) := by decide +kernel
theorem dX3_init_13 : decode cX3_init 13 = .ok (.bipush 24, 2) := by decide +kernel
theorem dX3_init_15 : decode cX3_init 15 = .ok (.newarray .int, 2) := by decide +kernel
theorem dX3_init_17 : decode cX3_init 17 = .ok (.putfield 15, 3) := by decide +kernel
theorem dX3_init_20 : decode cX3_init 20 = .ok (.aload_n 0, 1) := by decide +kernel
theorem dX3_init_21 : decode cX3_init 21 = .ok (.bipush 24, 2) := by decide +kernel
theorem dX3_init_23 : decode cX3_init 23 = .ok (.newarray .int, 2) := by decide +kernel
theorem dX3_init_25 : decode cX3_init 25 = .ok (.putfield 18, 3) := by decide +kernel
theorem dX3_init_28 : decode cX3_init 28 = .ok (.aload_n 0, 1) := by decide +kernel
theorem dX3_init_29 : decode cX3_init 29 = .ok (.bipush 24, 2) := by decide +kernel
theorem dX3_init_31 : decode cX3_init 31 = .ok (.newarray .int, 2) := by decide +kernel
theorem dX3_init_33 : decode cX3_init 33 = .ok (.putfield 21, 3) := by decide +kernel
theorem dX3_init_36 : decode cX3_init 36 = .ok (.return_, 1) := by decide +kernel
theorem dX3_go_0 : decode cX3_go 0 = .ok (.aload_n 1, 1) := by decide +kernel
theorem dX3_go_1 : decode cX3_go 1 = .ok (.invokevirtual 24, 3) := by decide +kernel
theorem dX3_go_4 : decode cX3_go 4 = .ok (.astore 4, 2) := by decide +kernel
theorem dX3_go_6 : decode cX3_go 6 = .ok (.aload_n 1, 1) := by decide +kernel
theorem dX3_go_7 : decode cX3_go 7 = .ok (.invokevirtual 30, 3) := by decide +kernel
theorem dX3_go_10 : decode cX3_go 10 = .ok (.astore 5, 2) := by decide +kernel
theorem dX3_go_12 : decode cX3_go 12 = .ok (.iconst 0, 1) := by decide +kernel
theorem dX3_go_13 : decode cX3_go 13 = .ok (.istore 6, 2) := by decide +kernel
theorem dX3_go_15 : decode cX3_go 15 = .ok (.aload 4, 2) := by decide +kernel
theorem dX3_go_17 : decode cX3_go 17 = .ok (.getfield 33, 3) := by decide +kernel
theorem dX3_go_20 : decode cX3_go 20 = .ok (.istore 7, 2) := by decide +kernel
theorem dX3_go_22 : decode cX3_go 22 = .ok (.aload 5, 2) := by decide +kernel
theorem dX3_go_24 : decode cX3_go 24 = .ok (.getfield 33, 3) := by decide +kernel
theorem dX3_go_27 : decode cX3_go 27 = .ok (.istore 8, 2) := by decide +kernel
theorem dX3_go_29 : decode cX3_go 29 = .ok (.iconst 0, 1) := by decide +kernel
theorem dX3_go_30 : decode cX3_go 30 = .ok (.istore 9, 2) := by decide +kernel
theorem dX3_go_32 : decode cX3_go 32 = .ok (.aload_n 0, 1) := by decide +kernel
theorem dX3_go_33 : decode cX3_go 33 = .ok (.invokevirtual 39, 3) := by decide +kernel
theorem dX3_go_36 : decode cX3_go 36 = .ok (.iconst 0, 1) := by decide +kernel
theorem dX3_go_37 : decode cX3_go 37 = .ok (.istore 10, 2) := by decide +kernel
theorem dX3_go_39 : decode cX3_go 39 = .ok (.iload 10, 2) := by decide +kernel
theorem dX3_go_41 : decode cX3_go 41 = .ok (.aload_n 1, 1) := by decide +kernel
theorem dX3_go_42 : decode cX3_go 42 = .ok (.getfield 42, 3) := by decide +kernel
theorem dX3_go_45 : decode cX3_go 45 = .ok (.if_icmp .ge 300, 3) := by decide +kernel
theorem dX3_go_48 : decode cX3_go 48 = .ok (.aload_n 2, 1) := by decide +kernel
theorem dX3_go_49 : decode cX3_go 49 = .ok (.getfield 45, 3) := by decide +kernel
theorem dX3_go_52 : decode cX3_go 52 = .ok (.iload 10, 2) := by decide +kernel
theorem dX3_go_54 : decode cX3_go 54 = .ok (.baload, 1) := by decide +kernel
theorem dX3_go_55 : decode cX3_go 55 = .ok (.ifCond .ne 9, 3) := by decide +kernel
theorem dX3_go_58 : decode cX3_go 58 = .ok (.iload 10, 2) := by decide +kernel
theorem dX3_go_60 : decode cX3_go 60 = .ok (.iload_n 3, 1) := by decide +kernel
theorem dX3_go_61 : decode cX3_go 61 = .ok (.if_icmp .ne 29, 3) := by decide +kernel
theorem dX3_go_64 : decode cX3_go 64 = .ok (.iload 6, 2) := by decide +kernel
theorem dX3_go_66 : decode cX3_go 66 = .ok (.aload_n 1, 1) := by decide +kernel
theorem dX3_go_67 : decode cX3_go 67 = .ok (.getfield 51, 3) := by decide +kernel
theorem dX3_go_70 : decode cX3_go 70 = .ok (.iadd, 1) := by decide +kernel
theorem dX3_go_71 : decode cX3_go 71 = .ok (.istore 6, 2) := by decide +kernel
theorem dX3_go_73 : decode cX3_go 73 = .ok (.aload 4, 2) := by decide +kernel
theorem dX3_go_75 : decode cX3_go 75 = .ok (.getfield 33, 3) := by decide +kernel
theorem dX3_go_78 : decode cX3_go 78 = .ok (.istore 7, 2) := by decide +kernel
theorem dX3_go_80 : decode cX3_go 80 = .ok (.aload 5, 2) := by decide +kernel
theorem dX3_go_82 : decode cX3_go 82 = .ok (.getfield 33, 3) := by decide +kernel
theorem dX3_go_85 : decode cX3_go 85 = .ok (.istore 8, 2) := by decide +kernel
theorem dX3_go_87 : decode cX3_go 87 = .ok (.iconst 0, 1) := by decide +kernel
theorem dX3_go_88 : decode cX3_go 88 = .ok (.istore 9, 2) := by decide +kernel
theorem dX3_go_90 : decode cX3_go 90 = .ok (.aload 4, 2) := by decide +kernel
theorem dX3_go_92 : decode cX3_go 92 = .ok (.getfield 33, 3) := by decide +kernel
theorem dX3_go_95 : decode cX3_go 95 = .ok (.iload 7, 2) := by decide +kernel
theorem dX3_go_97 : decode cX3_go 97 = .ok (.aload_n 2, 1) := by decide +kernel
theorem dX3_go_98 : decode cX3_go 98 = .ok (.getfield 54, 3) := by decide +kernel
theorem dX3_go_101 : decode cX3_go 101 = .ok (.iload 10, 2) := by decide +kernel
theorem dX3_go_103 : decode cX3_go 103 = .ok (.iaload, 1) := by decide +kernel
theorem dX3_go_104 : decode cX3_go 104 = .ok (.invokestatic 57, 3) := by decide +kernel
theorem dX3_go_107 : decode cX3_go 107 = .ok (.istore 7, 2) := by decide +kernel
theorem dX3_go_109 : decode cX3_go 109 = .ok (.aload 5, 2) := by decide +kernel
theorem dX3_go_111 : decode cX3_go 111 = .ok (.getfield 33, 3) := by decide +kernel
theorem dX3_go_114 : decode cX3_go 114 = .ok (.iload 8, 2) := by decide +kernel
theorem dX3_go_116 : decode cX3_go 116 = .ok (.aload_n 2, 1) := by decide +kernel
theorem dX3_go_117 : decode cX3_go 117 = .ok (.getfield 61, 3) := by decide +kernel
theorem dX3_go_120 : decode cX3_go 120 = .ok (.iload 10, 2) := by decide +kernel
theorem dX3_go_122 : decode cX3_go 122 = .ok (.iaload, 1) := by decide +kernel
theorem dX3_go_123 : decode cX3_go 123 = .ok (.invokestatic 57, 3) := by decide +kernel
theorem dX3_go_126 : decode cX3_go 126 = .ok (.istore 8, 2) := by decide +kernel
theorem dX3_go_128 : decode cX3_go 128 = .ok (.iload 9, 2) := by decide +kernel
theorem dX3_go_130 : decode cX3_go 130 = .ok (.aload_n 1, 1) := by decide +kernel
theorem dX3_go_131 : decode cX3_go 131 = .ok (.getfield 64, 3) := by decide +kernel
theorem dX3_go_134 : decode cX3_go 134 = .ok (.iload 10, 2) := by decide +kernel
theorem dX3_go_136 : decode cX3_go 136 = .ok (.iaload, 1) := by decide +kernel
theorem dX3_go_137 : decode cX3_go 137 = .ok (.invokestatic 67, 3) := by decide +kernel
theorem dX3_go_140 : decode cX3_go 140 = .ok (.istore 9, 2) := by decide +kernel
theorem dX3_go_142 : decode cX3_go 142 = .ok (.aload_n 0, 1) := by decide +kernel
theorem dX3_go_143 : decode cX3_go 143 = .ok (.iload 7, 2) := by decide +kernel
theorem dX3_go_145 : decode cX3_go 145 = .ok (.iload 8, 2) := by decide +kernel
theorem dX3_go_147 : decode cX3_go 147 = .ok (.iload 9, 2) := by decide +kernel
theorem dX3_go_149 : decode cX3_go 149 = .ok (.aload_n 1, 1) := by decide +kernel
theorem dX3_go_150 : decode cX3_go 150 = .ok (.getfield 73, 3) := by decide +kernel
theorem dX3_go_153 : decode cX3_go 153 = .ok (.invokestatic 76, 3) := by decide +kernel
theorem dX3_go_156 : decode cX3_go 156 = .ok (.putfield 80, 3) := by decide +kernel
theorem dX3_go_159 : decode cX3_go 159 = .ok (.aload_n 0, 1) := by decide +kernel
theorem dX3_go_160 : decode cX3_go 160 = .ok (.getfield 80, 3) := by decide +kernel
theorem dX3_go_163 : decode cX3_go 163 = .ok (.bipush (-6), 2) := by decide +kernel
theorem dX3_go_165 : decode cX3_go 165 = .ok (.if_icmp .eq 10, 3) := by decide +kernel
theorem dX3_go_168 : decode cX3_go 168 = .ok (.aload_n 0, 1) := by decide +kernel
theorem dX3_go_169 : decode cX3_go 169 = .ok (.iload 10, 2) := by decide +kernel
theorem dX3_go_171 : decode cX3_go 171 = .ok (.putfield 83, 3) := by decide +kernel
theorem dX3_go_174 : decode cX3_go 174 = .ok (.return_, 1) := by decide +kernel
theorem dX3_go_175 : decode cX3_go 175 = .ok (.aload 4, 2) := by decide +kernel
theorem dX3_go_177 : decode cX3_go 177 = .ok (.aload_n 2, 1) := by decide +kernel
theorem dX3_go_178 : decode cX3_go 178 = .ok (.getfield 54, 3) := by decide +kernel
theorem dX3_go_181 : decode cX3_go 181 = .ok (.iload 10, 2) := by decide +kernel
theorem dX3_go_183 : decode cX3_go 183 = .ok (.iaload, 1) := by decide +kernel
theorem dX3_go_184 : decode cX3_go 184 = .ok (.aload_n 2, 1) := by decide +kernel
theorem dX3_go_185 : decode cX3_go 185 = .ok (.getfield 86, 3) := by decide +kernel
theorem dX3_go_188 : decode cX3_go 188 = .ok (.iload 10, 2) := by decide +kernel
theorem dX3_go_190 : decode cX3_go 190 = .ok (.iaload, 1) := by decide +kernel
theorem dX3_go_191 : decode cX3_go 191 = .ok (.invokevirtual 89, 3) := by decide +kernel
theorem dX3_go_194 : decode cX3_go 194 = .ok (.istore 11, 2) := by decide +kernel
theorem dX3_go_196 : decode cX3_go 196 = .ok (.aload 5, 2) := by decide +kernel
theorem dX3_go_198 : decode cX3_go 198 = .ok (.aload_n 2, 1) := by decide +kernel
theorem dX3_go_199 : decode cX3_go 199 = .ok (.getfield 61, 3) := by decide +kernel
theorem dX3_go_202 : decode cX3_go 202 = .ok (.iload 10, 2) := by decide +kernel
theorem dX3_go_204 : decode cX3_go 204 = .ok (.iaload, 1) := by decide +kernel
theorem dX3_go_205 : decode cX3_go 205 = .ok (.aload_n 2, 1) := by decide +kernel
theorem dX3_go_206 : decode cX3_go 206 = .ok (.getfield 86, 3) := by decide +kernel
theorem dX3_go_209 : decode cX3_go 209 = .ok (.iload 10, 2) := by decide +kernel
theorem dX3_go_211 : decode cX3_go 211 = .ok (.iaload, 1) := by decide +kernel
theorem dX3_go_212 : decode cX3_go 212 = .ok (.invokevirtual 89, 3) := by decide +kernel
theorem dX3_go_215 : decode cX3_go 215 = .ok (.istore 12, 2) := by decide +kernel
theorem dX3_go_217 : decode cX3_go 217 = .ok (.aload_n 1, 1) := by decide +kernel
theorem dX3_go_218 : decode cX3_go 218 = .ok (.getfield 64, 3) := by decide +kernel
theorem dX3_go_221 : decode cX3_go 221 = .ok (.iload 10, 2) := by decide +kernel
theorem dX3_go_223 : decode cX3_go 223 = .ok (.iaload, 1) := by decide +kernel
theorem dX3_go_224 : decode cX3_go 224 = .ok (.invokestatic 92, 3) := by decide +kernel
theorem dX3_go_227 : decode cX3_go 227 = .ok (.iload 11, 2) := by decide +kernel
theorem dX3_go_229 : decode cX3_go 229 = .ok (.iload 12, 2) := by decide +kernel
theorem dX3_go_231 : decode cX3_go 231 = .ok (.iadd, 1) := by decide +kernel
theorem dX3_go_232 : decode cX3_go 232 = .ok (.invokestatic 96, 3) := by decide +kernel
theorem dX3_go_235 : decode cX3_go 235 = .ok (.istore 13, 2) := by decide +kernel
theorem dX3_go_237 : decode cX3_go 237 = .ok (.aload_n 1, 1) := by decide +kernel
theorem dX3_go_238 : decode cX3_go 238 = .ok (.getfield 64, 3) := by decide +kernel
theorem dX3_go_241 : decode cX3_go 241 = .ok (.iload 10, 2) := by decide +kernel
theorem dX3_go_243 : decode cX3_go 243 = .ok (.iaload, 1) := by decide +kernel
theorem dX3_go_244 : decode cX3_go 244 = .ok (.invokestatic 92, 3) := by decide +kernel
theorem dX3_go_247 : decode cX3_go 247 = .ok (.iload 11, 2) := by decide +kernel
theorem dX3_go_249 : decode cX3_go 249 = .ok (.invokestatic 96, 3) := by decide +kernel
theorem dX3_go_252 : decode cX3_go 252 = .ok (.istore 14, 2) := by decide +kernel
theorem dX3_go_254 : decode cX3_go 254 = .ok (.iload 13, 2) := by decide +kernel
theorem dX3_go_256 : decode cX3_go 256 = .ok (.iload 14, 2) := by decide +kernel
theorem dX3_go_258 : decode cX3_go 258 = .ok (.if_icmp .ne 16, 3) := by decide +kernel
theorem dX3_go_261 : decode cX3_go 261 = .ok (.aload_n 0, 1) := by decide +kernel
theorem dX3_go_262 : decode cX3_go 262 = .ok (.dup, 1) := by decide +kernel
theorem dX3_go_263 : decode cX3_go 263 = .ok (.getfield 99, 3) := by decide +kernel
theorem dX3_go_266 : decode cX3_go 266 = .ok (.iconst 1, 1) := by decide +kernel
theorem dX3_go_267 : decode cX3_go 267 = .ok (.iload 10, 2) := by decide +kernel
theorem dX3_go_269 : decode cX3_go 269 = .ok (.ishl, 1) := by decide +kernel
theorem dX3_go_270 : decode cX3_go 270 = .ok (.ior, 1) := by decide +kernel
theorem dX3_go_271 : decode cX3_go 271 = .ok (.putfield 99, 3) := by decide +kernel
theorem dX3_go_274 : decode cX3_go 274 = .ok (.aload_n 0, 1) := by decide +kernel
theorem dX3_go_275 : decode cX3_go 275 = .ok (.dup, 1) := by decide +kernel
theorem dX3_go_276 : decode cX3_go 276 = .ok (.getfield 102, 3) := by decide +kernel
theorem dX3_go_279 : decode cX3_go 279 = .ok (.iload 11, 2) := by decide +kernel
theorem dX3_go_281 : decode cX3_go 281 = .ok (.iadd, 1) := by decide +kernel
theorem dX3_go_282 : decode cX3_go 282 = .ok (.putfield 102, 3) := by decide +kernel
theorem dX3_go_285 : decode cX3_go 285 = .ok (.aload_n 0, 1) := by decide +kernel
theorem dX3_go_286 : decode cX3_go 286 = .ok (.dup, 1) := by decide +kernel
theorem dX3_go_287 : decode cX3_go 287 = .ok (.getfield 105, 3) := by decide +kernel
theorem dX3_go_290 : decode cX3_go 290 = .ok (.iload 12, 2) := by decide +kernel
theorem dX3_go_292 : decode cX3_go 292 = .ok (.iadd, 1) := by decide +kernel
theorem dX3_go_293 : decode cX3_go 293 = .ok (.putfield 105, 3) := by decide +kernel
theorem dX3_go_296 : decode cX3_go 296 = .ok (.iload 6, 2) := by decide +kernel
theorem dX3_go_298 : decode cX3_go 298 = .ok (.iload 13, 2) := by decide +kernel
theorem dX3_go_300 : decode cX3_go 300 = .ok (.iadd, 1) := by decide +kernel
theorem dX3_go_301 : decode cX3_go 301 = .ok (.istore 6, 2) := by decide +kernel
theorem dX3_go_303 : decode cX3_go 303 = .ok (.aload_n 0, 1) := by decide +kernel
theorem dX3_go_304 : decode cX3_go 304 = .ok (.getfield 9, 3) := by decide +kernel
theorem dX3_go_307 : decode cX3_go 307 = .ok (.iload 10, 2) := by decide +kernel
theorem dX3_go_309 : decode cX3_go 309 = .ok (.iload 6, 2) := by decide +kernel
theorem dX3_go_311 : decode cX3_go 311 = .ok (.iastore, 1) := by decide +kernel
theorem dX3_go_312 : decode cX3_go 312 = .ok (.aload_n 0, 1) := by decide +kernel
theorem dX3_go_313 : decode cX3_go 313 = .ok (.getfield 15, 3) := by decide +kernel
theorem dX3_go_316 : decode cX3_go 316 = .ok (.iload 10, 2) := by decide +kernel
theorem dX3_go_318 : decode cX3_go 318 = .ok (.iload 7, 2) := by decide +kernel
theorem dX3_go_320 : decode cX3_go 320 = .ok (.iastore, 1) := by decide +kernel
theorem dX3_go_321 : decode cX3_go 321 = .ok (.aload_n 0, 1) := by decide +kernel
theorem dX3_go_322 : decode cX3_go 322 = .ok (.getfield 18, 3) := by decide +kernel
theorem dX3_go_325 : decode cX3_go 325 = .ok (.iload 10, 2) := by decide +kernel
theorem dX3_go_327 : decode cX3_go 327 = .ok (.iload 8, 2) := by decide +kernel
theorem dX3_go_329 : decode cX3_go 329 = .ok (.iastore, 1) := by decide +kernel
theorem dX3_go_330 : decode cX3_go 330 = .ok (.aload_n 0, 1) := by decide +kernel
theorem dX3_go_331 : decode cX3_go 331 = .ok (.getfield 21, 3) := by decide +kernel
theorem dX3_go_334 : decode cX3_go 334 = .ok (.iload 10, 2) := by decide +kernel
theorem dX3_go_336 : decode cX3_go 336 = .ok (.iload 9, 2) := by decide +kernel
theorem dX3_go_338 : decode cX3_go 338 = .ok (.iastore, 1) := by decide +kernel
theorem dX3_go_339 : decode cX3_go 339 = .ok (.iinc 10 1, 3) := by decide +kernel
theorem dX3_go_342 : decode cX3_go 342 = .ok (.goto (-303), 3) := by decide +kernel
theorem dX3_go_345 : decode cX3_go 345 = .ok (.return_, 1) := by decide +kernel
theorem dX3_start_0 : decode cX3_start 0 = .ok (.aload_n 0, 1) := by decide +kernel
theorem dX3_start_1 : decode cX3_start 1 = .ok (.bipush (-6), 2) := by decide +kernel
theorem dX3_start_3 : decode cX3_start 3 = .ok (.putfield 83, 3) := by decide +kernel
theorem dX3_start_6 : decode cX3_start 6 = .ok (.aload_n 0, 1) := by decide +kernel
theorem dX3_start_7 : decode cX3_start 7 = .ok (.bipush (-6), 2) := by decide +kernel
theorem dX3_start_9 : decode cX3_start 9 = .ok (.putfield 80, 3) := by decide +kernel
theorem dX3_start_12 : decode cX3_start 12 = .ok (.aload_n 0, 1) := by decide +kernel
theorem dX3_start_13 : decode cX3_start 13 = .ok (.iconst 0, 1) := by decide +kernel
theorem dX3_start_14 : decode cX3_start 14 = .ok (.putfield 102, 3) := by decide +kernel
theorem dX3_start_17 : decode cX3_start 17 = .ok (.aload_n 0, 1) := by decide +kernel
theorem dX3_start_18 : decode cX3_start 18 = .ok (.iconst 0, 1) := by decide +kernel
theorem dX3_start_19 : decode cX3_start 19 = .ok (.putfield 105, 3) := by decide +kernel
theorem dX3_start_22 : decode cX3_start 22 = .ok (.aload_n 0, 1) := by decide +kernel
theorem dX3_start_23 : decode cX3_start 23 = .ok (.iconst 0, 1) := by decide +kernel
theorem dX3_start_24 : decode cX3_start 24 = .ok (.putfield 99, 3) := by decide +kernel
theorem dX3_start_27 : decode cX3_start 27 = .ok (.return_, 1) := by decide +kernel
theorem dX3_reasonAgainst_0 : decode cX3_reasonAgainst 0 = .ok (.iload_n 0, 1) := by decide +kernel
theorem dX3_reasonAgainst_1 : decode cX3_reasonAgainst 1 = .ok (.ifCond .ge 5, 3) := by decide +kernel
theorem dX3_reasonAgainst_4 : decode cX3_reasonAgainst 4 = .ok (.iconst 1, 1) := by decide +kernel
theorem dX3_reasonAgainst_5 : decode cX3_reasonAgainst 5 = .ok (.ireturn, 1) := by decide +kernel
theorem dX3_reasonAgainst_6 : decode cX3_reasonAgainst 6 = .ok (.iload_n 1, 1) := by decide +kernel
theorem dX3_reasonAgainst_7 : decode cX3_reasonAgainst 7 = .ok (.ifCond .ge 5, 3) := by decide +kernel
theorem dX3_reasonAgainst_10 : decode cX3_reasonAgainst 10 = .ok (.iconst 2, 1) := by decide +kernel
theorem dX3_reasonAgainst_11 : decode cX3_reasonAgainst 11 = .ok (.ireturn, 1) := by decide +kernel
theorem dX3_reasonAgainst_12 : decode cX3_reasonAgainst 12 = .ok (.iload_n 2, 1) := by decide +kernel
theorem dX3_reasonAgainst_13 : decode cX3_reasonAgainst 13 = .ok (.iload_n 3, 1) := by decide +kernel
theorem dX3_reasonAgainst_14 : decode cX3_reasonAgainst 14 = .ok (.if_icmp .le 7, 3) := by decide +kernel
theorem dX3_reasonAgainst_17 : decode cX3_reasonAgainst 17 = .ok (.iconst 3, 1) := by decide +kernel
theorem dX3_reasonAgainst_18 : decode cX3_reasonAgainst 18 = .ok (.goto 5, 3) := by decide +kernel
theorem dX3_reasonAgainst_21 : decode cX3_reasonAgainst 21 = .ok (.bipush (-6), 2) := by decide +kernel
theorem dX3_reasonAgainst_23 : decode cX3_reasonAgainst 23 = .ok (.ireturn, 1) := by decide +kernel
theorem dX4_init_0 : decode cX4_init 0 = .ok (.aload_n 0, 1) := by decide +kernel
theorem dX4_init_1 : decode cX4_init 1 = .ok (.invokespecial 1, 3) := by decide +kernel
theorem dX4_init_4 : decode cX4_init 4 = .ok (.return_, 1) := by decide +kernel
theorem dX4_come_0 : decode cX4_come 0 = .ok (.aload_n 0, 1) := by decide +kernel
theorem dX4_come_1 : decode cX4_come 1 = .ok (.iconst 1, 1) := by decide +kernel
theorem dX4_come_2 : decode cX4_come 2 = .ok (.putfield 7, 3) := by decide +kernel
theorem dX4_come_5 : decode cX4_come 5 = .ok (.aload_n 0, 1) := by decide +kernel
theorem dX4_come_6 : decode cX4_come 6 = .ok (.iload_n 1, 1) := by decide +kernel
theorem dX4_come_7 : decode cX4_come 7 = .ok (.putfield 13, 3) := by decide +kernel
theorem dX4_come_10 : decode cX4_come 10 = .ok (.aload_n 0, 1) := by decide +kernel
theorem dX4_come_11 : decode cX4_come 11 = .ok (.iload_n 2, 1) := by decide +kernel
theorem dX4_come_12 : decode cX4_come 12 = .ok (.putfield 17, 3) := by decide +kernel
theorem dX4_come_15 : decode cX4_come 15 = .ok (.aload_n 0, 1) := by decide +kernel
theorem dX4_come_16 : decode cX4_come 16 = .ok (.iload_n 3, 1) := by decide +kernel
theorem dX4_come_17 : decode cX4_come 17 = .ok (.putfield 20, 3) := by decide +kernel
theorem dX4_come_20 : decode cX4_come 20 = .ok (.aload_n 0, 1) := by decide +kernel
theorem dX4_come_21 : decode cX4_come 21 = .ok (.iload 4, 2) := by decide +kernel
theorem dX4_come_23 : decode cX4_come 23 = .ok (.putfield 23, 3) := by decide +kernel
theorem dX4_come_26 : decode cX4_come 26 = .ok (.return_, 1) := by decide +kernel
theorem dX4_copyFrom_0 : decode cX4_copyFrom 0 = .ok (.aload_n 0, 1) := by decide +kernel
theorem dX4_copyFrom_1 : decode cX4_copyFrom 1 = .ok (.aload_n 1, 1) := by decide +kernel
theorem dX4_copyFrom_2 : decode cX4_copyFrom 2 = .ok (.getfield 7, 3) := by decide +kernel
theorem dX4_copyFrom_5 : decode cX4_copyFrom 5 = .ok (.putfield 7, 3) := by decide +kernel
theorem dX4_copyFrom_8 : decode cX4_copyFrom 8 = .ok (.aload_n 0, 1) := by decide +kernel
theorem dX4_copyFrom_9 : decode cX4_copyFrom 9 = .ok (.aload_n 1, 1) := by decide +kernel
theorem dX4_copyFrom_10 : decode cX4_copyFrom 10 = .ok (.getfield 13, 3) := by decide +kernel
theorem dX4_copyFrom_13 : decode cX4_copyFrom 13 = .ok (.putfield 13, 3) := by decide +kernel
theorem dX4_copyFrom_16 : decode cX4_copyFrom 16 = .ok (.aload_n 0, 1) := by decide +kernel
theorem dX4_copyFrom_17 : decode cX4_copyFrom 17 = .ok (.aload_n 1, 1) := by decide +kernel
theorem dX4_copyFrom_18 : decode cX4_copyFrom 18 = .ok (.getfield 17, 3) := by decide +kernel
theorem dX4_copyFrom_21 : decode cX4_copyFrom 21 = .ok (.putfield 17, 3) := by decide +kernel
theorem dX4_copyFrom_24 : decode cX4_copyFrom 24 = .ok (.aload_n 0, 1) := by decide +kernel
theorem dX4_copyFrom_25 : decode cX4_copyFrom 25 = .ok (.aload_n 1, 1) := by decide +kernel
theorem dX4_copyFrom_26 : decode cX4_copyFrom 26 = .ok (.getfield 20, 3) := by decide +kernel
theorem dX4_copyFrom_29 : decode cX4_copyFrom 29 = .ok (.putfield 20, 3) := by decide +kernel
theorem dX4_copyFrom_32 : decode cX4_copyFrom 32 = .ok (.aload_n 0, 1) := by decide +kernel
theorem dX4_copyFrom_33 : decode cX4_copyFrom 33 = .ok (.aload_n 1, 1) := by decide +kernel
theorem dX4_copyFrom_34 : decode cX4_copyFrom 34 = .ok (.getfield 23, 3) := by decide +kernel
theorem dX4_copyFrom_37 : decode cX4_copyFrom 37 = .ok (.putfield 23, 3) := by decide +kernel
theorem dX4_copyFrom_40 : decode cX4_copyFrom 40 = .ok (.return_, 1) := by decide +kernel
theorem dX4_treads_0 : decode cX4_treads 0 = .ok (.iload_n 1, 1) := by decide +kernel
theorem dX4_treads_1 : decode cX4_treads 1 = .ok (.aload_n 0, 1) := by decide +kernel
theorem dX4_treads_2 : decode cX4_treads 2 = .ok (.getfield 13, 3) := by decide +kernel
theorem dX4_treads_5 : decode cX4_treads 5 = .ok (.imul, 1) := by decide +kernel
theorem dX4_treads_6 : decode cX4_treads 6 = .ok (.bipush 10, 2) := by decide +kernel
theorem dX4_treads_8 : decode cX4_treads 8 = .ok (.iload_n 2, 1) := by decide +kernel
theorem dX4_treads_9 : decode cX4_treads 9 = .ok (.aload_n 0, 1) := by decide +kernel
theorem dX4_treads_10 : decode cX4_treads 10 = .ok (.getfield 17, 3) := by decide +kernel
theorem dX4_treads_13 : decode cX4_treads 13 = .ok (.isub, 1) := by decide +kernel
theorem dX4_treads_14 : decode cX4_treads 14 = .ok (.invokestatic 26, 3) := by decide +kernel
theorem dX4_treads_17 : decode cX4_treads 17 = .ok (.isub, 1) := by decide +kernel
theorem dX4_treads_18 : decode cX4_treads 18 = .ok (.imul, 1) := by decide +kernel
theorem dX4_treads_19 : decode cX4_treads 19 = .ok (.bipush 10, 2) := by decide +kernel
theorem dX4_treads_21 : decode cX4_treads 21 = .ok (.idiv, 1) := by decide +kernel
theorem dX4_treads_22 : decode cX4_treads 22 = .ok (.ireturn, 1) := by decide +kernel
theorem dX4_treadsAsLiked_0 : decode cX4_treadsAsLiked 0 = .ok (.iload_n 1, 1) := by decide +kernel
theorem dX4_treadsAsLiked_1 : decode cX4_treadsAsLiked 1 = .ok (.aload_n 0, 1) := by decide +kernel
theorem dX4_treadsAsLiked_2 : decode cX4_treadsAsLiked 2 = .ok (.getfield 13, 3) := by decide +kernel
theorem dX4_treadsAsLiked_5 : decode cX4_treadsAsLiked 5 = .ok (.imul, 1) := by decide +kernel
theorem dX4_treadsAsLiked_6 : decode cX4_treadsAsLiked 6 = .ok (.ireturn, 1) := by decide +kernel
theorem dX4_losesAt_0 : decode cX4_losesAt 0 = .ok (.aload_n 0, 1) := by decide +kernel
theorem dX4_losesAt_1 : decode cX4_losesAt 1 = .ok (.iload_n 1, 1) := by decide +kernel
theorem dX4_losesAt_2 : decode cX4_losesAt 2 = .ok (.invokevirtual 32, 3) := by decide +kernel
theorem dX4_losesAt_5 : decode cX4_losesAt 5 = .ok (.aload_n 0, 1) := by decide +kernel
theorem dX4_losesAt_6 : decode cX4_losesAt 6 = .ok (.iload_n 1, 1) := by decide +kernel
theorem dX4_losesAt_7 : decode cX4_losesAt 7 = .ok (.iload_n 2, 1) := by decide +kernel
theorem dX4_losesAt_8 : decode cX4_losesAt 8 = .ok (.invokevirtual 35, 3) := by decide +kernel
theorem dX4_losesAt_11 : decode cX4_losesAt 11 = .ok (.isub, 1) := by decide +kernel
theorem dX4_losesAt_12 : decode cX4_losesAt 12 = .ok (.ireturn, 1) := by decide +kernel
theorem dX4_windBehind_0 : decode cX4_windBehind 0 = .ok (.iload_n 0, 1) := by decide +kernel
theorem dX4_windBehind_1 : decode cX4_windBehind 1 = .ok (.iload_n 1, 1) := by decide +kernel
theorem dX4_windBehind_2 : decode cX4_windBehind 2 = .ok (.iconst 2, 1) := by decide +kernel
theorem dX4_windBehind_3 : decode cX4_windBehind 3 = .ok (.iadd, 1) := by decide +kernel
theorem dX4_windBehind_4 : decode cX4_windBehind 4 = .ok (.iload_n 2, 1) := by decide +kernel
theorem dX4_windBehind_5 : decode cX4_windBehind 5 = .ok (.isub, 1) := by decide +kernel
theorem dX4_windBehind_6 : decode cX4_windBehind 6 = .ok (.invokestatic 39, 3) := by decide +kernel
theorem dX4_windBehind_9 : decode cX4_windBehind 9 = .ok (.ireturn, 1) := by decide +kernel
theorem dX5_init_0 : decode cX5_init 0 = .ok (.aload_n 0, 1) := by decide +kernel
theorem dX5_init_1 : decode cX5_init 1 = .ok (.invokespecial 3, 3) := by decide +kernel
theorem dX5_init_4 : decode cX5_init 4 = .ok (.aload_n 0, 1) := by decide +kernel
theorem dX5_init_5 : decode cX5_init 5 = .ok (.bipush 25, 2) := by decide +kernel
theorem dX5_init_7 : decode cX5_init 7 = .ok (.newarray .int, 2) := by decide +kernel
theorem dX5_init_9 : decode cX5_init 9 = .ok (.putfield 9, 3) := by decide +kernel
theorem dX5_init_12 : decode cX5_init 12 = .ok (.aload_n 0, 1) := by decide +kernel
theorem dX5_init_13 : decode cX5_init 13 = .ok (.bipush 25, 2) := by decide +kernel
theorem dX5_init_15 : decode cX5_init 15 = .ok (.newarray .int, 2) := by decide +kernel
theorem dX5_init_17 : decode cX5_init 17 = .ok (.putfield 15, 3) := by decide +kernel
theorem dX5_init_20 : decode cX5_init 20 = .ok (.aload_n 0, 1) := by decide +kernel
theorem dX5_init_21 : decode cX5_init 21 = .ok (.bipush 25, 2) := by decide +kernel
theorem dX5_init_23 : decode cX5_init 23 = .ok (.newarray .int, 2) := by decide +kernel
theorem dX5_init_25 : decode cX5_init 25 = .ok (.putfield 18, 3) := by decide +kernel
theorem dX5_init_28 : decode cX5_init 28 = .ok (.aload_n 0, 1) := by decide +kernel
theorem dX5_init_29 : decode cX5_init 29 = .ok (.bipush 25, 2) := by decide +kernel
theorem dX5_init_31 : decode cX5_init 31 = .ok (.newarray .int, 2) := by decide +kernel
theorem dX5_init_33 : decode cX5_init 33 = .ok (.putfield 21, 3) := by decide +kernel
theorem dX5_init_36 : decode cX5_init 36 = .ok (.aload_n 0, 1) := by decide +kernel
theorem dX5_init_37 : decode cX5_init 37 = .ok (.bipush 25, 2) := by decide +kernel
theorem dX5_init_39 : decode cX5_init 39 = .ok (.newarray .int, 2) := by decide +kernel
theorem dX5_init_41 : decode cX5_init 41 = .ok (.putfield 24, 3) := by decide +kernel
theorem dX5_init_44 : decode cX5_init 44 = .ok (.aload_n 0, 1) := by decide +kernel
theorem dX5_init_45 : decode cX5_init 45 = .ok (.sipush 2100, 3) := by decide +kernel
theorem dX5_init_48 : decode cX5_init 48 = .ok (.newarray .int, 2) := by decide +kernel
theorem dX5_init_50 : decode cX5_init 50 = .ok (.putfield 27, 3) := by decide +kernel
theorem dX5_init_53 : decode cX5_init 53 = .ok (.aload_n 0, 1) := by decide +kernel
theorem dX5_init_54 : decode cX5_init 54 = .ok (.sipush 2100, 3) := by decide +kernel
theorem dX5_init_57 : decode cX5_init 57 = .ok (.newarray .int, 2) := by decide +kernel
theorem dX5_init_59 : decode cX5_init 59 = .ok (.putfield 30, 3) := by decide +kernel
theorem dX5_init_62 : decode cX5_init 62 = .ok (.aload_n 0, 1) := by decide +kernel
theorem dX5_init_63 : decode cX5_init 63 = .ok (.bipush 21, 2) := by decide +kernel
theorem dX5_init_65 : decode cX5_init 65 = .ok (.newarray .int, 2) := by decide +kernel
theorem dX5_init_67 : decode cX5_init 67 = .ok (.putfield 33, 3) := by decide +kernel
theorem dX5_init_70 : decode cX5_init 70 = .ok (.aload_n 0, 1) := by decide +kernel
theorem dX5_init_71 : decode cX5_init 71 = .ok (.bipush 21, 2) := by decide +kernel
theorem dX5_init_73 : decode cX5_init 73 = .ok (.newarray .int, 2) := by decide +kernel
theorem dX5_init_75 : decode cX5_init 75 = .ok (.putfield 36, 3) := by decide +kernel
theorem dX5_init_78 : decode cX5_init 78 = .ok (.return_, 1) := by decide +kernel
theorem dX5_seek_0 : decode cX5_seek 0 = .ok (.aload_n 0, 1) := by decide +kernel
theorem dX5_seek_1 : decode cX5_seek 1 = .ok (.aload_n 1, 1) := by decide +kernel
theorem dX5_seek_2 : decode cX5_seek 2 = .ok (.getfield 39, 3) := by decide +kernel
theorem dX5_seek_5 : decode cX5_seek 5 = .ok (.putfield 45, 3) := by decide +kernel
theorem dX5_seek_8 : decode cX5_seek 8 = .ok (.aload_n 0, 1) := by decide +kernel
theorem dX5_seek_9 : decode cX5_seek 9 = .ok (.aload_n 2, 1) := by decide +kernel
theorem dX5_seek_10 : decode cX5_seek 10 = .ok (.getfield 46, 3) := by decide +kernel
theorem dX5_seek_13 : decode cX5_seek 13 = .ok (.putfield 51, 3) := by decide +kernel
theorem dX5_seek_16 : decode cX5_seek 16 = .ok (.aload_n 0, 1) := by decide +kernel
theorem dX5_seek_17 : decode cX5_seek 17 = .ok (.aload_n 3, 1) := by decide +kernel
theorem dX5_seek_18 : decode cX5_seek 18 = .ok (.getfield 46, 3) := by decide +kernel
theorem dX5_seek_21 : decode cX5_seek 21 = .ok (.putfield 54, 3) := by decide +kernel
theorem dX5_seek_24 : decode cX5_seek 24 = .ok (.iconst 0, 1) := by decide +kernel
theorem dX5_seek_25 : decode cX5_seek 25 = .ok (.istore 4, 2) := by decide +kernel
theorem dX5_seek_27 : decode cX5_seek 27 = .ok (.iload 4, 2) := by decide +kernel
theorem dX5_seek_29 : decode cX5_seek 29 = .ok (.bipush 25, 2) := by decide +kernel
theorem dX5_seek_31 : decode cX5_seek 31 = .ok (.if_icmp .ge 29, 3) := by decide +kernel
theorem dX5_seek_34 : decode cX5_seek 34 = .ok (.aload_n 0, 1) := by decide +kernel
theorem dX5_seek_35 : decode cX5_seek 35 = .ok (.getfield 9, 3) := by decide +kernel
theorem dX5_seek_38 : decode cX5_seek 38 = .ok (.iload 4, 2) := by decide +kernel
theorem dX5_seek_40 : decode cX5_seek 40 = .ok (.aload_n 2, 1) := by decide +kernel
theorem dX5_seek_41 : decode cX5_seek 41 = .ok (.iload 4, 2) := by decide +kernel
theorem dX5_seek_43 : decode cX5_seek 43 = .ok (.iconst 5, 1) := by decide +kernel
theorem dX5_seek_44 : decode cX5_seek 44 = .ok (.idiv, 1) := by decide +kernel
theorem dX5_seek_45 : decode cX5_seek 45 = .ok (.aload_n 3, 1) := by decide +kernel
theorem dX5_seek_46 : decode cX5_seek 46 = .ok (.iload 4, 2) := by decide +kernel
theorem dX5_seek_48 : decode cX5_seek 48 = .ok (.iconst 5, 1) := by decide +kernel
theorem dX5_seek_49 : decode cX5_seek 49 = .ok (.irem, 1) := by decide +kernel
theorem dX5_seek_50 : decode cX5_seek 50 = .ok (.invokestatic 57, 3) := by decide +kernel
theorem dX5_seek_53 : decode cX5_seek 53 = .ok (.iastore, 1) := by decide +kernel
theorem dX5_seek_54 : decode cX5_seek 54 = .ok (.iinc 4 1, 3) := by decide +kernel
theorem dX5_seek_57 : decode cX5_seek 57 = .ok (.goto (-30), 3) := by decide +kernel
theorem dX5_seek_60 : decode cX5_seek 60 = .ok (.aload_n 0, 1) := by decide +kernel
theorem dX5_seek_61 : decode cX5_seek 61 = .ok (.aload_n 1, 1) := by decide +kernel
theorem dX5_seek_62 : decode cX5_seek 62 = .ok (.invokevirtual 61, 3) := by decide +kernel
theorem dX5_seek_65 : decode cX5_seek 65 = .ok (.iconst 0, 1) := by decide +kernel
theorem dX5_seek_66 : decode cX5_seek 66 = .ok (.istore 4, 2) := by decide +kernel
theorem dX5_seek_68 : decode cX5_seek 68 = .ok (.iload 4, 2) := by decide +kernel
theorem dX5_seek_70 : decode cX5_seek 70 = .ok (.aload_n 0, 1) := by decide +kernel
theorem dX5_seek_71 : decode cX5_seek 71 = .ok (.getfield 27, 3) := by decide +kernel
theorem dX5_seek_74 : decode cX5_seek 74 = .ok (.arraylength, 1) := by decide +kernel
theorem dX5_seek_75 : decode cX5_seek 75 = .ok (.if_icmp .ge 17, 3) := by decide +kernel
theorem dX5_seek_78 : decode cX5_seek 78 = .ok (.aload_n 0, 1) := by decide +kernel
theorem dX5_seek_79 : decode cX5_seek 79 = .ok (.getfield 27, 3) := by decide +kernel
theorem dX5_seek_82 : decode cX5_seek 82 = .ok (.iload 4, 2) := by decide +kernel
theorem dX5_seek_84 : decode cX5_seek 84 = .ok (.iconst 0, 1) := by decide +kernel
theorem dX5_seek_85 : decode cX5_seek 85 = .ok (.iastore, 1) := by decide +kernel
theorem dX5_seek_86 : decode cX5_seek 86 = .ok (.iinc 4 1, 3) := by decide +kernel
theorem dX5_seek_89 : decode cX5_seek 89 = .ok (.goto (-21), 3) := by decide +kernel
theorem dX5_seek_92 : decode cX5_seek 92 = .ok (.aload_n 1, 1) := by decide +kernel
theorem dX5_seek_93 : decode cX5_seek 93 = .ok (.getfield 65, 3) := by decide +kernel
theorem dX5_seek_96 : decode cX5_seek 96 = .ok (.iconst 1, 1) := by decide +kernel
theorem dX5_seek_97 : decode cX5_seek 97 = .ok (.isub, 1) := by decide +kernel
theorem dX5_seek_98 : decode cX5_seek 98 = .ok (.istore 4, 2) := by decide +kernel
theorem dX5_seek_100 : decode cX5_seek 100 = .ok (.iload 4, 2) := by decide +kernel
theorem dX5_seek_102 : decode cX5_seek 102 = .ok (.iconst 1, 1) := by decide +kernel
theorem dX5_seek_103 : decode cX5_seek 103 = .ok (.if_icmp .lt 31, 3) := by decide +kernel
theorem dX5_seek_106 : decode cX5_seek 106 = .ok (.aload_n 0, 1) := by decide +kernel
theorem dX5_seek_107 : decode cX5_seek 107 = .ok (.aload_n 1, 1) := by decide +kernel
theorem dX5_seek_108 : decode cX5_seek 108 = .ok (.getfield 68, 3) := by decide +kernel
theorem dX5_seek_111 : decode cX5_seek 111 = .ok (.iload 4, 2) := by decide +kernel
theorem dX5_seek_113 : decode cX5_seek 113 = .ok (.iaload, 1) := by decide +kernel
theorem dX5_seek_114 : decode cX5_seek 114 = .ok (.aload_n 0, 1) := by decide +kernel
theorem dX5_seek_115 : decode cX5_seek 115 = .ok (.getfield 24, 3) := by decide +kernel
theorem dX5_seek_118 : decode cX5_seek 118 = .ok (.iload 4, 2) := by decide +kernel
theorem dX5_seek_120 : decode cX5_seek 120 = .ok (.iaload, 1) := by decide +kernel
theorem dX5_seek_121 : decode cX5_seek 121 = .ok (.aload_n 1, 1) := by decide +kernel
theorem dX5_seek_122 : decode cX5_seek 122 = .ok (.getfield 71, 3) := by decide +kernel
theorem dX5_seek_125 : decode cX5_seek 125 = .ok (.invokevirtual 74, 3) := by decide +kernel
theorem dX5_seek_128 : decode cX5_seek 128 = .ok (.iinc 4 (-1), 3) := by decide +kernel
theorem dX5_seek_131 : decode cX5_seek 131 = .ok (.goto (-31), 3) := by decide +kernel
theorem dX5_seek_134 : decode cX5_seek 134 = .ok (.aload_n 0, 1) := by decide +kernel
theorem dX5_seek_135 : decode cX5_seek 135 = .ok (.aload_n 1, 1) := by decide +kernel
theorem dX5_seek_136 : decode cX5_seek 136 = .ok (.getfield 68, 3) := by decide +kernel
theorem dX5_seek_139 : decode cX5_seek 139 = .ok (.iconst 0, 1) := by decide +kernel
theorem dX5_seek_140 : decode cX5_seek 140 = .ok (.iaload, 1) := by decide +kernel
theorem dX5_seek_141 : decode cX5_seek 141 = .ok (.invokevirtual 78, 3) := by decide +kernel
theorem dX5_seek_144 : decode cX5_seek 144 = .ok (.istore 4, 2) := by decide +kernel
theorem dX5_seek_146 : decode cX5_seek 146 = .ok (.iload 4, 2) := by decide +kernel
theorem dX5_seek_148 : decode cX5_seek 148 = .ok (.bipush (-6), 2) := by decide +kernel
theorem dX5_seek_150 : decode cX5_seek 150 = .ok (.if_icmp .ne 12, 3) := by decide +kernel
theorem dX5_seek_153 : decode cX5_seek 153 = .ok (.aload_n 0, 1) := by decide +kernel
theorem dX5_seek_154 : decode cX5_seek 154 = .ok (.bipush (-6), 2) := by decide +kernel
theorem dX5_seek_156 : decode cX5_seek 156 = .ok (.putfield 82, 3) := by decide +kernel
theorem dX5_seek_159 : decode cX5_seek 159 = .ok (.goto 46, 3) := by decide +kernel
theorem dX5_seek_162 : decode cX5_seek 162 = .ok (.aload_n 0, 1) := by decide +kernel
theorem dX5_seek_163 : decode cX5_seek 163 = .ok (.iload 4, 2) := by decide +kernel
theorem dX5_seek_165 : decode cX5_seek 165 = .ok (.aload_n 1, 1) := by decide +kernel
theorem dX5_seek_166 : decode cX5_seek 166 = .ok (.getfield 68, 3) := by decide +kernel
theorem dX5_seek_169 : decode cX5_seek 169 = .ok (.iconst 0, 1) := by decide +kernel
theorem dX5_seek_170 : decode cX5_seek 170 = .ok (.iaload, 1) := by decide +kernel
theorem dX5_seek_171 : decode cX5_seek 171 = .ok (.invokestatic 85, 3) := by decide +kernel
theorem dX5_seek_174 : decode cX5_seek 174 = .ok (.aload_n 2, 1) := by decide +kernel
theorem dX5_seek_175 : decode cX5_seek 175 = .ok (.aload_n 3, 1) := by decide +kernel
theorem dX5_seek_176 : decode cX5_seek 176 = .ok (.invokevirtual 90, 3) := by decide +kernel
theorem dX5_seek_179 : decode cX5_seek 179 = .ok (.istore 5, 2) := by decide +kernel
theorem dX5_seek_181 : decode cX5_seek 181 = .ok (.aload_n 0, 1) := by decide +kernel
theorem dX5_seek_182 : decode cX5_seek 182 = .ok (.bipush 100, 2) := by decide +kernel
theorem dX5_seek_184 : decode cX5_seek 184 = .ok (.iload 4, 2) := by decide +kernel
theorem dX5_seek_186 : decode cX5_seek 186 = .ok (.iconst 5, 1) := by decide +kernel
theorem dX5_seek_187 : decode cX5_seek 187 = .ok (.idiv, 1) := by decide +kernel
theorem dX5_seek_188 : decode cX5_seek 188 = .ok (.imul, 1) := by decide +kernel
theorem dX5_seek_189 : decode cX5_seek 189 = .ok (.bipush 10, 2) := by decide +kernel
theorem dX5_seek_191 : decode cX5_seek 191 = .ok (.iload 4, 2) := by decide +kernel
theorem dX5_seek_193 : decode cX5_seek 193 = .ok (.iconst 5, 1) := by decide +kernel
theorem dX5_seek_194 : decode cX5_seek 194 = .ok (.irem, 1) := by decide +kernel
theorem dX5_seek_195 : decode cX5_seek 195 = .ok (.imul, 1) := by decide +kernel
theorem dX5_seek_196 : decode cX5_seek 196 = .ok (.iadd, 1) := by decide +kernel
theorem dX5_seek_197 : decode cX5_seek 197 = .ok (.iload 5, 2) := by decide +kernel
theorem dX5_seek_199 : decode cX5_seek 199 = .ok (.iadd, 1) := by decide +kernel
theorem dX5_seek_200 : decode cX5_seek 200 = .ok (.iconst 4, 1) := by decide +kernel
theorem dX5_seek_201 : decode cX5_seek 201 = .ok (.isub, 1) := by decide +kernel
theorem dX5_seek_202 : decode cX5_seek 202 = .ok (.putfield 82, 3) := by decide +kernel
theorem dX5_seek_205 : decode cX5_seek 205 = .ok (.return_, 1) := by decide +kernel
theorem dX5_findHeats_0 : decode cX5_findHeats 0 = .ok (.aload_n 0, 1) := by decide +kernel
theorem dX5_findHeats_1 : decode cX5_findHeats 1 = .ok (.getfield 24, 3) := by decide +kernel
theorem dX5_findHeats_4 : decode cX5_findHeats 4 = .ok (.iconst 0, 1) := by decide +kernel
theorem dX5_findHeats_5 : decode cX5_findHeats 5 = .ok (.iconst 1, 1) := by decide +kernel
theorem dX5_findHeats_6 : decode cX5_findHeats 6 = .ok (.iastore, 1) := by decide +kernel
theorem dX5_findHeats_7 : decode cX5_findHeats 7 = .ok (.iconst 0, 1) := by decide +kernel
theorem dX5_findHeats_8 : decode cX5_findHeats 8 = .ok (.istore_n 2, 1) := by decide +kernel
theorem dX5_findHeats_9 : decode cX5_findHeats 9 = .ok (.iload_n 2, 1) := by decide +kernel
theorem dX5_findHeats_10 : decode cX5_findHeats 10 = .ok (.aload_n 1, 1) := by decide +kernel
theorem dX5_findHeats_11 : decode cX5_findHeats 11 = .ok (.getfield 65, 3) := by decide +kernel
theorem dX5_findHeats_14 : decode cX5_findHeats 14 = .ok (.if_icmp .ge 89, 3) := by decide +kernel
theorem dX5_findHeats_17 : decode cX5_findHeats 17 = .ok (.iconst 0, 1) := by decide +kernel
theorem dX5_findHeats_18 : decode cX5_findHeats 18 = .ok (.istore_n 3, 1) := by decide +kernel
theorem dX5_findHeats_19 : decode cX5_findHeats 19 = .ok (.iconst 0, 1) := by decide +kernel
theorem dX5_findHeats_20 : decode cX5_findHeats 20 = .ok (.istore 4, 2) := by decide +kernel
theorem dX5_findHeats_22 : decode cX5_findHeats 22 = .ok (.iload 4, 2) := by decide +kernel
theorem dX5_findHeats_24 : decode cX5_findHeats 24 = .ok (.aload_n 0, 1) := by decide +kernel
theorem dX5_findHeats_25 : decode cX5_findHeats 25 = .ok (.getfield 45, 3) := by decide +kernel
theorem dX5_findHeats_28 : decode cX5_findHeats 28 = .ok (.if_icmp .gt 60, 3) := by decide +kernel
theorem dX5_findHeats_31 : decode cX5_findHeats 31 = .ok (.iload 4, 2) := by decide +kernel
theorem dX5_findHeats_33 : decode cX5_findHeats 33 = .ok (.ifCond .eq 20, 3) := by decide +kernel
theorem dX5_findHeats_36 : decode cX5_findHeats 36 = .ok (.aload_n 0, 1) := by decide +kernel
theorem dX5_findHeats_37 : decode cX5_findHeats 37 = .ok (.getfield 24, 3) := by decide +kernel
theorem dX5_findHeats_40 : decode cX5_findHeats 40 = .ok (.iload_n 2, 1) := by decide +kernel
theorem dX5_findHeats_41 : decode cX5_findHeats 41 = .ok (.iaload, 1) := by decide +kernel
theorem dX5_findHeats_42 : decode cX5_findHeats 42 = .ok (.iload 4, 2) := by decide +kernel
theorem dX5_findHeats_44 : decode cX5_findHeats 44 = .ok (.ishr, 1) := by decide +kernel
theorem dX5_findHeats_45 : decode cX5_findHeats 45 = .ok (.iconst 1, 1) := by decide +kernel
theorem dX5_findHeats_46 : decode cX5_findHeats 46 = .ok (.iand, 1) := by decide +kernel
theorem dX5_findHeats_47 : decode cX5_findHeats 47 = .ok (.ifCond .ne 6, 3) := by decide +kernel
theorem dX5_findHeats_50 : decode cX5_findHeats 50 = .ok (.goto 32, 3) := by decide +kernel
theorem dX5_findHeats_53 : decode cX5_findHeats 53 = .ok (.iload 4, 2) := by decide +kernel
theorem dX5_findHeats_55 : decode cX5_findHeats 55 = .ok (.aload_n 1, 1) := by decide +kernel
theorem dX5_findHeats_56 : decode cX5_findHeats 56 = .ok (.getfield 68, 3) := by decide +kernel
theorem dX5_findHeats_59 : decode cX5_findHeats 59 = .ok (.iload_n 2, 1) := by decide +kernel
theorem dX5_findHeats_60 : decode cX5_findHeats 60 = .ok (.iaload, 1) := by decide +kernel
theorem dX5_findHeats_61 : decode cX5_findHeats 61 = .ok (.invokestatic 94, 3) := by decide +kernel
theorem dX5_findHeats_64 : decode cX5_findHeats 64 = .ok (.istore 5, 2) := by decide +kernel
theorem dX5_findHeats_66 : decode cX5_findHeats 66 = .ok (.iload 5, 2) := by decide +kernel
theorem dX5_findHeats_68 : decode cX5_findHeats 68 = .ok (.aload_n 0, 1) := by decide +kernel
theorem dX5_findHeats_69 : decode cX5_findHeats 69 = .ok (.getfield 45, 3) := by decide +kernel
theorem dX5_findHeats_72 : decode cX5_findHeats 72 = .ok (.if_icmp .gt 10, 3) := by decide +kernel
theorem dX5_findHeats_75 : decode cX5_findHeats 75 = .ok (.iload_n 3, 1) := by decide +kernel
theorem dX5_findHeats_76 : decode cX5_findHeats 76 = .ok (.iconst 1, 1) := by decide +kernel
theorem dX5_findHeats_77 : decode cX5_findHeats 77 = .ok (.iload 5, 2) := by decide +kernel
theorem dX5_findHeats_79 : decode cX5_findHeats 79 = .ok (.ishl, 1) := by decide +kernel
theorem dX5_findHeats_80 : decode cX5_findHeats 80 = .ok (.ior, 1) := by decide +kernel
theorem dX5_findHeats_81 : decode cX5_findHeats 81 = .ok (.istore_n 3, 1) := by decide +kernel
theorem dX5_findHeats_82 : decode cX5_findHeats 82 = .ok (.iinc 4 1, 3) := by decide +kernel
theorem dX5_findHeats_85 : decode cX5_findHeats 85 = .ok (.goto (-63), 3) := by decide +kernel
theorem dX5_findHeats_88 : decode cX5_findHeats 88 = .ok (.aload_n 0, 1) := by decide +kernel
theorem dX5_findHeats_89 : decode cX5_findHeats 89 = .ok (.getfield 24, 3) := by decide +kernel
theorem dX5_findHeats_92 : decode cX5_findHeats 92 = .ok (.iload_n 2, 1) := by decide +kernel
theorem dX5_findHeats_93 : decode cX5_findHeats 93 = .ok (.iconst 1, 1) := by decide +kernel
theorem dX5_findHeats_94 : decode cX5_findHeats 94 = .ok (.iadd, 1) := by decide +kernel
theorem dX5_findHeats_95 : decode cX5_findHeats 95 = .ok (.iload_n 3, 1) := by decide +kernel
theorem dX5_findHeats_96 : decode cX5_findHeats 96 = .ok (.iastore, 1) := by decide +kernel
theorem dX5_findHeats_97 : decode cX5_findHeats 97 = .ok (.iinc 2 1, 3) := by decide +kernel
theorem dX5_findHeats_100 : decode cX5_findHeats 100 = .ok (.goto (-91), 3) := by decide +kernel
theorem dX5_findHeats_103 : decode cX5_findHeats 103 = .ok (.return_, 1) := by decide +kernel
theorem dX5_stepAhead_0 : decode cX5_stepAhead 0 = .ok (.aload_n 0, 1) := by decide +kernel
theorem dX5_stepAhead_1 : decode cX5_stepAhead 1 = .ok (.iload_n 1, 1) := by decide +kernel
theorem dX5_stepAhead_2 : decode cX5_stepAhead 2 = .ok (.invokestatic 85, 3) := by decide +kernel
theorem dX5_stepAhead_5 : decode cX5_stepAhead 5 = .ok (.invokevirtual 98, 3) := by decide +kernel
theorem dX5_stepAhead_8 : decode cX5_stepAhead 8 = .ok (.iload_n 3, 1) := by decide +kernel
theorem dX5_stepAhead_9 : decode cX5_stepAhead 9 = .ok (.aload_n 0, 1) := by decide +kernel
theorem dX5_stepAhead_10 : decode cX5_stepAhead 10 = .ok (.iconst 0, 1) := by decide +kernel
theorem dX5_stepAhead_11 : decode cX5_stepAhead 11 = .ok (.iload_n 1, 1) := by decide +kernel
theorem dX5_stepAhead_12 : decode cX5_stepAhead 12 = .ok (.invokestatic 94, 3) := by decide +kernel
theorem dX5_stepAhead_15 : decode cX5_stepAhead 15 = .ok (.aload_n 0, 1) := by decide +kernel
theorem dX5_stepAhead_16 : decode cX5_stepAhead 16 = .ok (.getfield 51, 3) := by decide +kernel
theorem dX5_stepAhead_19 : decode cX5_stepAhead 19 = .ok (.aload_n 0, 1) := by decide +kernel
theorem dX5_stepAhead_20 : decode cX5_stepAhead 20 = .ok (.getfield 54, 3) := by decide +kernel
theorem dX5_stepAhead_23 : decode cX5_stepAhead 23 = .ok (.ldc 102, 2) := by decide +kernel
theorem dX5_stepAhead_25 : decode cX5_stepAhead 25 = .ok (.invokevirtual 103, 3) := by decide +kernel
theorem dX5_stepAhead_28 : decode cX5_stepAhead 28 = .ok (.iadd, 1) := by decide +kernel
theorem dX5_stepAhead_29 : decode cX5_stepAhead 29 = .ok (.istore 4, 2) := by decide +kernel
theorem dX5_stepAhead_31 : decode cX5_stepAhead 31 = .ok (.iconst 0, 1) := by decide +kernel
theorem dX5_stepAhead_32 : decode cX5_stepAhead 32 = .ok (.istore 5, 2) := by decide +kernel
theorem dX5_stepAhead_34 : decode cX5_stepAhead 34 = .ok (.iload 5, 2) := by decide +kernel
theorem dX5_stepAhead_36 : decode cX5_stepAhead 36 = .ok (.aload_n 0, 1) := by decide +kernel
theorem dX5_stepAhead_37 : decode cX5_stepAhead 37 = .ok (.getfield 45, 3) := by decide +kernel
theorem dX5_stepAhead_40 : decode cX5_stepAhead 40 = .ok (.if_icmp .gt 91, 3) := by decide +kernel
theorem dX5_stepAhead_43 : decode cX5_stepAhead 43 = .ok (.iload_n 2, 1) := by decide +kernel
theorem dX5_stepAhead_44 : decode cX5_stepAhead 44 = .ok (.iload 5, 2) := by decide +kernel
theorem dX5_stepAhead_46 : decode cX5_stepAhead 46 = .ok (.ishr, 1) := by decide +kernel
theorem dX5_stepAhead_47 : decode cX5_stepAhead 47 = .ok (.iconst 1, 1) := by decide +kernel
theorem dX5_stepAhead_48 : decode cX5_stepAhead 48 = .ok (.iand, 1) := by decide +kernel
theorem dX5_stepAhead_49 : decode cX5_stepAhead 49 = .ok (.ifCond .ne 6, 3) := by decide +kernel
theorem dX5_stepAhead_52 : decode cX5_stepAhead 52 = .ok (.goto 73, 3) := by decide +kernel
theorem dX5_stepAhead_55 : decode cX5_stepAhead 55 = .ok (.iload 5, 2) := by decide +kernel
theorem dX5_stepAhead_57 : decode cX5_stepAhead 57 = .ok (.iload_n 1, 1) := by decide +kernel
theorem dX5_stepAhead_58 : decode cX5_stepAhead 58 = .ok (.invokestatic 94, 3) := by decide +kernel
theorem dX5_stepAhead_61 : decode cX5_stepAhead 61 = .ok (.istore 6, 2) := by decide +kernel
theorem dX5_stepAhead_63 : decode cX5_stepAhead 63 = .ok (.iconst 0, 1) := by decide +kernel
theorem dX5_stepAhead_64 : decode cX5_stepAhead 64 = .ok (.istore 7, 2) := by decide +kernel
theorem dX5_stepAhead_66 : decode cX5_stepAhead 66 = .ok (.iload 7, 2) := by decide +kernel
theorem dX5_stepAhead_68 : decode cX5_stepAhead 68 = .ok (.aload_n 0, 1) := by decide +kernel
theorem dX5_stepAhead_69 : decode cX5_stepAhead 69 = .ok (.getfield 51, 3) := by decide +kernel
theorem dX5_stepAhead_72 : decode cX5_stepAhead 72 = .ok (.if_icmp .gt 53, 3) := by decide +kernel
theorem dX5_stepAhead_75 : decode cX5_stepAhead 75 = .ok (.iconst 0, 1) := by decide +kernel
theorem dX5_stepAhead_76 : decode cX5_stepAhead 76 = .ok (.istore 8, 2) := by decide +kernel
theorem dX5_stepAhead_78 : decode cX5_stepAhead 78 = .ok (.iload 8, 2) := by decide +kernel
theorem dX5_stepAhead_80 : decode cX5_stepAhead 80 = .ok (.aload_n 0, 1) := by decide +kernel
theorem dX5_stepAhead_81 : decode cX5_stepAhead 81 = .ok (.getfield 54, 3) := by decide +kernel
theorem dX5_stepAhead_84 : decode cX5_stepAhead 84 = .ok (.if_icmp .gt 35, 3) := by decide +kernel
theorem dX5_stepAhead_87 : decode cX5_stepAhead 87 = .ok (.aload_n 0, 1) := by decide +kernel
theorem dX5_stepAhead_88 : decode cX5_stepAhead 88 = .ok (.getfield 30, 3) := by decide +kernel
theorem dX5_stepAhead_91 : decode cX5_stepAhead 91 = .ok (.iload 5, 2) := by decide +kernel
theorem dX5_stepAhead_93 : decode cX5_stepAhead 93 = .ok (.iload 7, 2) := by decide +kernel
theorem dX5_stepAhead_95 : decode cX5_stepAhead 95 = .ok (.iload 8, 2) := by decide +kernel
theorem dX5_stepAhead_97 : decode cX5_stepAhead 97 = .ok (.invokestatic 107, 3) := by decide +kernel
theorem dX5_stepAhead_100 : decode cX5_stepAhead 100 = .ok (.aload_n 0, 1) := by decide +kernel
theorem dX5_stepAhead_101 : decode cX5_stepAhead 101 = .ok (.iload 6, 2) := by decide +kernel
theorem dX5_stepAhead_103 : decode cX5_stepAhead 103 = .ok (.iload 7, 2) := by decide +kernel
theorem dX5_stepAhead_105 : decode cX5_stepAhead 105 = .ok (.iload 8, 2) := by decide +kernel
theorem dX5_stepAhead_107 : decode cX5_stepAhead 107 = .ok (.iload 4, 2) := by decide +kernel
theorem dX5_stepAhead_109 : decode cX5_stepAhead 109 = .ok (.invokevirtual 103, 3) := by decide +kernel
theorem dX5_stepAhead_112 : decode cX5_stepAhead 112 = .ok (.iastore, 1) := by decide +kernel
theorem dX5_stepAhead_113 : decode cX5_stepAhead 113 = .ok (.iinc 8 1, 3) := by decide +kernel
theorem dX5_stepAhead_116 : decode cX5_stepAhead 116 = .ok (.goto (-38), 3) := by decide +kernel
theorem dX5_stepAhead_119 : decode cX5_stepAhead 119 = .ok (.iinc 7 1, 3) := by decide +kernel
theorem dX5_stepAhead_122 : decode cX5_stepAhead 122 = .ok (.goto (-56), 3) := by decide +kernel
theorem dX5_stepAhead_125 : decode cX5_stepAhead 125 = .ok (.iinc 5 1, 3) := by decide +kernel
theorem dX5_stepAhead_128 : decode cX5_stepAhead 128 = .ok (.goto (-94), 3) := by decide +kernel
theorem dX5_stepAhead_131 : decode cX5_stepAhead 131 = .ok (.aload_n 0, 1) := by decide +kernel
theorem dX5_stepAhead_132 : decode cX5_stepAhead 132 = .ok (.getfield 30, 3) := by decide +kernel
theorem dX5_stepAhead_135 : decode cX5_stepAhead 135 = .ok (.astore 5, 2) := by decide +kernel
theorem dX5_stepAhead_137 : decode cX5_stepAhead 137 = .ok (.aload_n 0, 1) := by decide +kernel
theorem dX5_stepAhead_138 : decode cX5_stepAhead 138 = .ok (.aload_n 0, 1) := by decide +kernel
theorem dX5_stepAhead_139 : decode cX5_stepAhead 139 = .ok (.getfield 27, 3) := by decide +kernel
theorem dX5_stepAhead_142 : decode cX5_stepAhead 142 = .ok (.putfield 30, 3) := by decide +kernel
theorem dX5_stepAhead_145 : decode cX5_stepAhead 145 = .ok (.aload_n 0, 1) := by decide +kernel
theorem dX5_stepAhead_146 : decode cX5_stepAhead 146 = .ok (.aload 5, 2) := by decide +kernel
theorem dX5_stepAhead_148 : decode cX5_stepAhead 148 = .ok (.putfield 27, 3) := by decide +kernel
theorem dX5_stepAhead_151 : decode cX5_stepAhead 151 = .ok (.return_, 1) := by decide +kernel
theorem dX5_listChoices_0 : decode cX5_listChoices 0 = .ok (.aload_n 0, 1) := by decide +kernel
theorem dX5_listChoices_1 : decode cX5_listChoices 1 = .ok (.iconst 0, 1) := by decide +kernel
theorem dX5_listChoices_2 : decode cX5_listChoices 2 = .ok (.putfield 111, 3) := by decide +kernel
theorem dX5_listChoices_5 : decode cX5_listChoices 5 = .ok (.iconst 0, 1) := by decide +kernel
theorem dX5_listChoices_6 : decode cX5_listChoices 6 = .ok (.istore_n 2, 1) := by decide +kernel
theorem dX5_listChoices_7 : decode cX5_listChoices 7 = .ok (.iload_n 2, 1) := by decide +kernel
theorem dX5_listChoices_8 : decode cX5_listChoices 8 = .ok (.bipush 25, 2) := by decide +kernel
theorem dX5_listChoices_10 : decode cX5_listChoices 10 = .ok (.if_icmp .ge 113, 3) := by decide +kernel
theorem dX5_listChoices_13 : decode cX5_listChoices 13 = .ok (.iload_n 1, 1) := by decide +kernel
theorem dX5_listChoices_14 : decode cX5_listChoices 14 = .ok (.aload_n 0, 1) := by decide +kernel
theorem dX5_listChoices_15 : decode cX5_listChoices 15 = .ok (.getfield 9, 3) := by decide +kernel
theorem dX5_listChoices_18 : decode cX5_listChoices 18 = .ok (.iload_n 2, 1) := by decide +kernel
theorem dX5_listChoices_19 : decode cX5_listChoices 19 = .ok (.iaload, 1) := by decide +kernel
theorem dX5_listChoices_20 : decode cX5_listChoices 20 = .ok (.invokestatic 114, 3) := by decide +kernel
theorem dX5_listChoices_23 : decode cX5_listChoices 23 = .ok (.istore_n 3, 1) := by decide +kernel
theorem dX5_listChoices_24 : decode cX5_listChoices 24 = .ok (.iload_n 2, 1) := by decide +kernel
theorem dX5_listChoices_25 : decode cX5_listChoices 25 = .ok (.iconst 5, 1) := by decide +kernel
theorem dX5_listChoices_26 : decode cX5_listChoices 26 = .ok (.if_icmp .lt 22, 3) := by decide +kernel
theorem dX5_listChoices_29 : decode cX5_listChoices 29 = .ok (.iload_n 1, 1) := by decide +kernel
theorem dX5_listChoices_30 : decode cX5_listChoices 30 = .ok (.aload_n 0, 1) := by decide +kernel
theorem dX5_listChoices_31 : decode cX5_listChoices 31 = .ok (.getfield 9, 3) := by decide +kernel
theorem dX5_listChoices_34 : decode cX5_listChoices 34 = .ok (.iload_n 2, 1) := by decide +kernel
theorem dX5_listChoices_35 : decode cX5_listChoices 35 = .ok (.iconst 5, 1) := by decide +kernel
theorem dX5_listChoices_36 : decode cX5_listChoices 36 = .ok (.isub, 1) := by decide +kernel
theorem dX5_listChoices_37 : decode cX5_listChoices 37 = .ok (.iaload, 1) := by decide +kernel
theorem dX5_listChoices_38 : decode cX5_listChoices 38 = .ok (.invokestatic 114, 3) := by decide +kernel
theorem dX5_listChoices_41 : decode cX5_listChoices 41 = .ok (.iload_n 3, 1) := by decide +kernel
theorem dX5_listChoices_42 : decode cX5_listChoices 42 = .ok (.if_icmp .ne 6, 3) := by decide +kernel
theorem dX5_listChoices_45 : decode cX5_listChoices 45 = .ok (.goto 72, 3) := by decide +kernel
theorem dX5_listChoices_48 : decode cX5_listChoices 48 = .ok (.iload_n 2, 1) := by decide +kernel
theorem dX5_listChoices_49 : decode cX5_listChoices 49 = .ok (.iconst 5, 1) := by decide +kernel
theorem dX5_listChoices_50 : decode cX5_listChoices 50 = .ok (.irem, 1) := by decide +kernel
theorem dX5_listChoices_51 : decode cX5_listChoices 51 = .ok (.ifCond .le 22, 3) := by decide +kernel
theorem dX5_listChoices_54 : decode cX5_listChoices 54 = .ok (.iload_n 1, 1) := by decide +kernel
theorem dX5_listChoices_55 : decode cX5_listChoices 55 = .ok (.aload_n 0, 1) := by decide +kernel
theorem dX5_listChoices_56 : decode cX5_listChoices 56 = .ok (.getfield 9, 3) := by decide +kernel
theorem dX5_listChoices_59 : decode cX5_listChoices 59 = .ok (.iload_n 2, 1) := by decide +kernel
theorem dX5_listChoices_60 : decode cX5_listChoices 60 = .ok (.iconst 1, 1) := by decide +kernel
theorem dX5_listChoices_61 : decode cX5_listChoices 61 = .ok (.isub, 1) := by decide +kernel
theorem dX5_listChoices_62 : decode cX5_listChoices 62 = .ok (.iaload, 1) := by decide +kernel
theorem dX5_listChoices_63 : decode cX5_listChoices 63 = .ok (.invokestatic 114, 3) := by decide +kernel
theorem dX5_listChoices_66 : decode cX5_listChoices 66 = .ok (.iload_n 3, 1) := by decide +kernel
theorem dX5_listChoices_67 : decode cX5_listChoices 67 = .ok (.if_icmp .ne 6, 3) := by decide +kernel
theorem dX5_listChoices_70 : decode cX5_listChoices 70 = .ok (.goto 47, 3) := by decide +kernel
theorem dX5_listChoices_73 : decode cX5_listChoices 73 = .ok (.aload_n 0, 1) := by decide +kernel
theorem dX5_listChoices_74 : decode cX5_listChoices 74 = .ok (.getfield 15, 3) := by decide +kernel
theorem dX5_listChoices_77 : decode cX5_listChoices 77 = .ok (.aload_n 0, 1) := by decide +kernel
theorem dX5_listChoices_78 : decode cX5_listChoices 78 = .ok (.getfield 111, 3) := by decide +kernel
theorem dX5_listChoices_81 : decode cX5_listChoices 81 = .ok (.iload_n 2, 1) := by decide +kernel
theorem dX5_listChoices_82 : decode cX5_listChoices 82 = .ok (.iconst 5, 1) := by decide +kernel
theorem dX5_listChoices_83 : decode cX5_listChoices 83 = .ok (.idiv, 1) := by decide +kernel
theorem dX5_listChoices_84 : decode cX5_listChoices 84 = .ok (.iastore, 1) := by decide +kernel
theorem dX5_listChoices_85 : decode cX5_listChoices 85 = .ok (.aload_n 0, 1) := by decide +kernel
theorem dX5_listChoices_86 : decode cX5_listChoices 86 = .ok (.getfield 18, 3) := by decide +kernel
theorem dX5_listChoices_89 : decode cX5_listChoices 89 = .ok (.aload_n 0, 1) := by decide +kernel
theorem dX5_listChoices_90 : decode cX5_listChoices 90 = .ok (.getfield 111, 3) := by decide +kernel
theorem dX5_listChoices_93 : decode cX5_listChoices 93 = .ok (.iload_n 2, 1) := by decide +kernel
theorem dX5_listChoices_94 : decode cX5_listChoices 94 = .ok (.iconst 5, 1) := by decide +kernel
theorem dX5_listChoices_95 : decode cX5_listChoices 95 = .ok (.irem, 1) := by decide +kernel
theorem dX5_listChoices_96 : decode cX5_listChoices 96 = .ok (.iastore, 1) := by decide +kernel
theorem dX5_listChoices_97 : decode cX5_listChoices 97 = .ok (.aload_n 0, 1) := by decide +kernel
theorem dX5_listChoices_98 : decode cX5_listChoices 98 = .ok (.getfield 21, 3) := by decide +kernel
theorem dX5_listChoices_101 : decode cX5_listChoices 101 = .ok (.aload_n 0, 1) := by decide +kernel
theorem dX5_listChoices_102 : decode cX5_listChoices 102 = .ok (.getfield 111, 3) := by decide +kernel
theorem dX5_listChoices_105 : decode cX5_listChoices 105 = .ok (.iload_n 3, 1) := by decide +kernel
theorem dX5_listChoices_106 : decode cX5_listChoices 106 = .ok (.iastore, 1) := by decide +kernel
theorem dX5_listChoices_107 : decode cX5_listChoices 107 = .ok (.aload_n 0, 1) := by decide +kernel
theorem dX5_listChoices_108 : decode cX5_listChoices 108 = .ok (.dup, 1) := by decide +kernel
theorem dX5_listChoices_109 : decode cX5_listChoices 109 = .ok (.getfield 111, 3) := by decide +kernel
theorem dX5_listChoices_112 : decode cX5_listChoices 112 = .ok (.iconst 1, 1) := by decide +kernel
theorem dX5_listChoices_113 : decode cX5_listChoices 113 = .ok (.iadd, 1) := by decide +kernel
theorem dX5_listChoices_114 : decode cX5_listChoices 114 = .ok (.putfield 111, 3) := by decide +kernel
theorem dX5_listChoices_117 : decode cX5_listChoices 117 = .ok (.iinc 2 1, 3) := by decide +kernel
theorem dX5_listChoices_120 : decode cX5_listChoices 120 = .ok (.goto (-113), 3) := by decide +kernel
theorem dX5_listChoices_123 : decode cX5_listChoices 123 = .ok (.return_, 1) := by decide +kernel
theorem dX5_fewestOnward_0 : decode cX5_fewestOnward 0 = .ok (.iload_n 1, 1) := by decide +kernel
theorem dX5_fewestOnward_1 : decode cX5_fewestOnward 1 = .ok (.aload_n 0, 1) := by decide +kernel
theorem dX5_fewestOnward_2 : decode cX5_fewestOnward 2 = .ok (.getfield 45, 3) := by decide +kernel
theorem dX5_fewestOnward_5 : decode cX5_fewestOnward 5 = .ok (.if_icmp .le 6, 3) := by decide +kernel
theorem dX5_fewestOnward_8 : decode cX5_fewestOnward 8 = .ok (.iload 4, 2) := by decide +kernel
theorem dX5_fewestOnward_10 : decode cX5_fewestOnward 10 = .ok (.ireturn, 1) := by decide +kernel
theorem dX5_fewestOnward_11 : decode cX5_fewestOnward 11 = .ok (.iload 4, 2) := by decide +kernel
theorem dX5_fewestOnward_13 : decode cX5_fewestOnward 13 = .ok (.istore 5, 2) := by decide +kernel
theorem dX5_fewestOnward_15 : decode cX5_fewestOnward 15 = .ok (.iconst 0, 1) := by decide +kernel
theorem dX5_fewestOnward_16 : decode cX5_fewestOnward 16 = .ok (.istore 6, 2) := by decide +kernel
theorem dX5_fewestOnward_18 : decode cX5_fewestOnward 18 = .ok (.iload 6, 2) := by decide +kernel
theorem dX5_fewestOnward_20 : decode cX5_fewestOnward 20 = .ok (.aload_n 0, 1) := by decide +kernel
theorem dX5_fewestOnward_21 : decode cX5_fewestOnward 21 = .ok (.getfield 111, 3) := by decide +kernel
theorem dX5_fewestOnward_24 : decode cX5_fewestOnward 24 = .ok (.if_icmp .ge 84, 3) := by decide +kernel
theorem dX5_fewestOnward_27 : decode cX5_fewestOnward 27 = .ok (.aload_n 0, 1) := by decide +kernel
theorem dX5_fewestOnward_28 : decode cX5_fewestOnward 28 = .ok (.getfield 51, 3) := by decide +kernel
theorem dX5_fewestOnward_31 : decode cX5_fewestOnward 31 = .ok (.iload_n 2, 1) := by decide +kernel
theorem dX5_fewestOnward_32 : decode cX5_fewestOnward 32 = .ok (.aload_n 0, 1) := by decide +kernel
theorem dX5_fewestOnward_33 : decode cX5_fewestOnward 33 = .ok (.getfield 15, 3) := by decide +kernel
theorem dX5_fewestOnward_36 : decode cX5_fewestOnward 36 = .ok (.iload 6, 2) := by decide +kernel
theorem dX5_fewestOnward_38 : decode cX5_fewestOnward 38 = .ok (.iaload, 1) := by decide +kernel
theorem dX5_fewestOnward_39 : decode cX5_fewestOnward 39 = .ok (.invokestatic 117, 3) := by decide +kernel
theorem dX5_fewestOnward_42 : decode cX5_fewestOnward 42 = .ok (.istore 7, 2) := by decide +kernel
theorem dX5_fewestOnward_44 : decode cX5_fewestOnward 44 = .ok (.aload_n 0, 1) := by decide +kernel
theorem dX5_fewestOnward_45 : decode cX5_fewestOnward 45 = .ok (.getfield 54, 3) := by decide +kernel
theorem dX5_fewestOnward_48 : decode cX5_fewestOnward 48 = .ok (.iload_n 3, 1) := by decide +kernel
theorem dX5_fewestOnward_49 : decode cX5_fewestOnward 49 = .ok (.aload_n 0, 1) := by decide +kernel
theorem dX5_fewestOnward_50 : decode cX5_fewestOnward 50 = .ok (.getfield 18, 3) := by decide +kernel
theorem dX5_fewestOnward_53 : decode cX5_fewestOnward 53 = .ok (.iload 6, 2) := by decide +kernel
theorem dX5_fewestOnward_55 : decode cX5_fewestOnward 55 = .ok (.iaload, 1) := by decide +kernel
theorem dX5_fewestOnward_56 : decode cX5_fewestOnward 56 = .ok (.invokestatic 117, 3) := by decide +kernel
theorem dX5_fewestOnward_59 : decode cX5_fewestOnward 59 = .ok (.istore 8, 2) := by decide +kernel
theorem dX5_fewestOnward_61 : decode cX5_fewestOnward 61 = .ok (.iload 7, 2) := by decide +kernel
theorem dX5_fewestOnward_63 : decode cX5_fewestOnward 63 = .ok (.ifCond .lt 39, 3) := by decide +kernel
theorem dX5_fewestOnward_66 : decode cX5_fewestOnward 66 = .ok (.iload 8, 2) := by decide +kernel
theorem dX5_fewestOnward_68 : decode cX5_fewestOnward 68 = .ok (.ifCond .ge 6, 3) := by decide +kernel
theorem dX5_fewestOnward_71 : decode cX5_fewestOnward 71 = .ok (.goto 31, 3) := by decide +kernel
theorem dX5_fewestOnward_74 : decode cX5_fewestOnward 74 = .ok (.iload 5, 2) := by decide +kernel
theorem dX5_fewestOnward_76 : decode cX5_fewestOnward 76 = .ok (.aload_n 0, 1) := by decide +kernel
theorem dX5_fewestOnward_77 : decode cX5_fewestOnward 77 = .ok (.getfield 21, 3) := by decide +kernel
theorem dX5_fewestOnward_80 : decode cX5_fewestOnward 80 = .ok (.iload 6, 2) := by decide +kernel
theorem dX5_fewestOnward_82 : decode cX5_fewestOnward 82 = .ok (.iaload, 1) := by decide +kernel
theorem dX5_fewestOnward_83 : decode cX5_fewestOnward 83 = .ok (.aload_n 0, 1) := by decide +kernel
theorem dX5_fewestOnward_84 : decode cX5_fewestOnward 84 = .ok (.getfield 27, 3) := by decide +kernel
theorem dX5_fewestOnward_87 : decode cX5_fewestOnward 87 = .ok (.iload_n 1, 1) := by decide +kernel
theorem dX5_fewestOnward_88 : decode cX5_fewestOnward 88 = .ok (.iload 7, 2) := by decide +kernel
theorem dX5_fewestOnward_90 : decode cX5_fewestOnward 90 = .ok (.iload 8, 2) := by decide +kernel
theorem dX5_fewestOnward_92 : decode cX5_fewestOnward 92 = .ok (.invokestatic 107, 3) := by decide +kernel
theorem dX5_fewestOnward_95 : decode cX5_fewestOnward 95 = .ok (.iaload, 1) := by decide +kernel
theorem dX5_fewestOnward_96 : decode cX5_fewestOnward 96 = .ok (.iadd, 1) := by decide +kernel
theorem dX5_fewestOnward_97 : decode cX5_fewestOnward 97 = .ok (.invokestatic 120, 3) := by decide +kernel
theorem dX5_fewestOnward_100 : decode cX5_fewestOnward 100 = .ok (.istore 5, 2) := by decide +kernel
theorem dX5_fewestOnward_102 : decode cX5_fewestOnward 102 = .ok (.iinc 6 1, 3) := by decide +kernel
theorem dX5_fewestOnward_105 : decode cX5_fewestOnward 105 = .ok (.goto (-87), 3) := by decide +kernel
theorem dX5_fewestOnward_108 : decode cX5_fewestOnward 108 = .ok (.iload 5, 2) := by decide +kernel
theorem dX5_fewestOnward_110 : decode cX5_fewestOnward 110 = .ok (.ireturn, 1) := by decide +kernel
theorem dX5_cellOf_0 : decode cX5_cellOf 0 = .ok (.iload_n 0, 1) := by decide +kernel
theorem dX5_cellOf_1 : decode cX5_cellOf 1 = .ok (.bipush 10, 2) := by decide +kernel
theorem dX5_cellOf_3 : decode cX5_cellOf 3 = .ok (.imul, 1) := by decide +kernel
theorem dX5_cellOf_4 : decode cX5_cellOf 4 = .ok (.iload_n 1, 1) := by decide +kernel
theorem dX5_cellOf_5 : decode cX5_cellOf 5 = .ok (.iadd, 1) := by decide +kernel
theorem dX5_cellOf_6 : decode cX5_cellOf 6 = .ok (.bipush 10, 2) := by decide +kernel
theorem dX5_cellOf_8 : decode cX5_cellOf 8 = .ok (.imul, 1) := by decide +kernel
theorem dX5_cellOf_9 : decode cX5_cellOf 9 = .ok (.iload_n 2, 1) := by decide +kernel
theorem dX5_cellOf_10 : decode cX5_cellOf 10 = .ok (.iadd, 1) := by decide +kernel
theorem dX5_cellOf_11 : decode cX5_cellOf 11 = .ok (.ireturn, 1) := by decide +kernel
theorem dX5_chooseFirst_0 : decode cX5_chooseFirst 0 = .ok (.iload_n 1, 1) := by decide +kernel
theorem dX5_chooseFirst_1 : decode cX5_chooseFirst 1 = .ok (.invokestatic 85, 3) := by decide +kernel
theorem dX5_chooseFirst_4 : decode cX5_chooseFirst 4 = .ok (.istore_n 2, 1) := by decide +kernel
theorem dX5_chooseFirst_5 : decode cX5_chooseFirst 5 = .ok (.iconst 0, 1) := by decide +kernel
theorem dX5_chooseFirst_6 : decode cX5_chooseFirst 6 = .ok (.iload_n 1, 1) := by decide +kernel
theorem dX5_chooseFirst_7 : decode cX5_chooseFirst 7 = .ok (.invokestatic 94, 3) := by decide +kernel
theorem dX5_chooseFirst_10 : decode cX5_chooseFirst 10 = .ok (.istore_n 3, 1) := by decide +kernel
theorem dX5_chooseFirst_11 : decode cX5_chooseFirst 11 = .ok (.bipush (-6), 2) := by decide +kernel
theorem dX5_chooseFirst_13 : decode cX5_chooseFirst 13 = .ok (.istore 4, 2) := by decide +kernel
theorem dX5_chooseFirst_15 : decode cX5_chooseFirst 15 = .ok (.aload_n 0, 1) := by decide +kernel
theorem dX5_chooseFirst_16 : decode cX5_chooseFirst 16 = .ok (.bipush (-6), 2) := by decide +kernel
theorem dX5_chooseFirst_18 : decode cX5_chooseFirst 18 = .ok (.putfield 125, 3) := by decide +kernel
theorem dX5_chooseFirst_21 : decode cX5_chooseFirst 21 = .ok (.iconst 0, 1) := by decide +kernel
theorem dX5_chooseFirst_22 : decode cX5_chooseFirst 22 = .ok (.istore 5, 2) := by decide +kernel
theorem dX5_chooseFirst_24 : decode cX5_chooseFirst 24 = .ok (.iload 5, 2) := by decide +kernel
theorem dX5_chooseFirst_26 : decode cX5_chooseFirst 26 = .ok (.bipush 25, 2) := by decide +kernel
theorem dX5_chooseFirst_28 : decode cX5_chooseFirst 28 = .ok (.if_icmp .ge 117, 3) := by decide +kernel
theorem dX5_chooseFirst_31 : decode cX5_chooseFirst 31 = .ok (.aload_n 0, 1) := by decide +kernel
theorem dX5_chooseFirst_32 : decode cX5_chooseFirst 32 = .ok (.getfield 51, 3) := by decide +kernel
theorem dX5_chooseFirst_35 : decode cX5_chooseFirst 35 = .ok (.aload_n 0, 1) := by decide +kernel
theorem dX5_chooseFirst_36 : decode cX5_chooseFirst 36 = .ok (.getfield 51, 3) := by decide +kernel
theorem dX5_chooseFirst_39 : decode cX5_chooseFirst 39 = .ok (.iload 5, 2) := by decide +kernel
theorem dX5_chooseFirst_41 : decode cX5_chooseFirst 41 = .ok (.iconst 5, 1) := by decide +kernel
theorem dX5_chooseFirst_42 : decode cX5_chooseFirst 42 = .ok (.idiv, 1) := by decide +kernel
theorem dX5_chooseFirst_43 : decode cX5_chooseFirst 43 = .ok (.invokestatic 117, 3) := by decide +kernel
theorem dX5_chooseFirst_46 : decode cX5_chooseFirst 46 = .ok (.istore 6, 2) := by decide +kernel
theorem dX5_chooseFirst_48 : decode cX5_chooseFirst 48 = .ok (.aload_n 0, 1) := by decide +kernel
theorem dX5_chooseFirst_49 : decode cX5_chooseFirst 49 = .ok (.getfield 54, 3) := by decide +kernel
theorem dX5_chooseFirst_52 : decode cX5_chooseFirst 52 = .ok (.aload_n 0, 1) := by decide +kernel
theorem dX5_chooseFirst_53 : decode cX5_chooseFirst 53 = .ok (.getfield 54, 3) := by decide +kernel
theorem dX5_chooseFirst_56 : decode cX5_chooseFirst 56 = .ok (.iload 5, 2) := by decide +kernel
theorem dX5_chooseFirst_58 : decode cX5_chooseFirst 58 = .ok (.iconst 5, 1) := by decide +kernel
theorem dX5_chooseFirst_59 : decode cX5_chooseFirst 59 = .ok (.irem, 1) := by decide +kernel
theorem dX5_chooseFirst_60 : decode cX5_chooseFirst 60 = .ok (.invokestatic 117, 3) := by decide +kernel
theorem dX5_chooseFirst_63 : decode cX5_chooseFirst 63 = .ok (.istore 7, 2) := by decide +kernel
theorem dX5_chooseFirst_65 : decode cX5_chooseFirst 65 = .ok (.iload 6, 2) := by decide +kernel
theorem dX5_chooseFirst_67 : decode cX5_chooseFirst 67 = .ok (.ifCond .lt 72, 3) := by decide +kernel
theorem dX5_chooseFirst_70 : decode cX5_chooseFirst 70 = .ok (.iload 7, 2) := by decide +kernel
theorem dX5_chooseFirst_72 : decode cX5_chooseFirst 72 = .ok (.ifCond .lt 67, 3) := by decide +kernel
theorem dX5_chooseFirst_75 : decode cX5_chooseFirst 75 = .ok (.iload_n 3, 1) := by decide +kernel
theorem dX5_chooseFirst_76 : decode cX5_chooseFirst 76 = .ok (.aload_n 0, 1) := by decide +kernel
theorem dX5_chooseFirst_77 : decode cX5_chooseFirst 77 = .ok (.getfield 45, 3) := by decide +kernel
theorem dX5_chooseFirst_80 : decode cX5_chooseFirst 80 = .ok (.if_icmp .le 6, 3) := by decide +kernel
theorem dX5_chooseFirst_83 : decode cX5_chooseFirst 83 = .ok (.goto 56, 3) := by decide +kernel
theorem dX5_chooseFirst_86 : decode cX5_chooseFirst 86 = .ok (.iload_n 2, 1) := by decide +kernel
theorem dX5_chooseFirst_87 : decode cX5_chooseFirst 87 = .ok (.aload_n 0, 1) := by decide +kernel
theorem dX5_chooseFirst_88 : decode cX5_chooseFirst 88 = .ok (.getfield 9, 3) := by decide +kernel
theorem dX5_chooseFirst_91 : decode cX5_chooseFirst 91 = .ok (.iload 5, 2) := by decide +kernel
theorem dX5_chooseFirst_93 : decode cX5_chooseFirst 93 = .ok (.iaload, 1) := by decide +kernel
theorem dX5_chooseFirst_94 : decode cX5_chooseFirst 94 = .ok (.invokestatic 114, 3) := by decide +kernel
theorem dX5_chooseFirst_97 : decode cX5_chooseFirst 97 = .ok (.aload_n 0, 1) := by decide +kernel
theorem dX5_chooseFirst_98 : decode cX5_chooseFirst 98 = .ok (.getfield 27, 3) := by decide +kernel
theorem dX5_chooseFirst_101 : decode cX5_chooseFirst 101 = .ok (.iload_n 3, 1) := by decide +kernel
theorem dX5_chooseFirst_102 : decode cX5_chooseFirst 102 = .ok (.iload 6, 2) := by decide +kernel
theorem dX5_chooseFirst_104 : decode cX5_chooseFirst 104 = .ok (.iload 7, 2) := by decide +kernel
theorem dX5_chooseFirst_106 : decode cX5_chooseFirst 106 = .ok (.invokestatic 107, 3) := by decide +kernel
theorem dX5_chooseFirst_109 : decode cX5_chooseFirst 109 = .ok (.iaload, 1) := by decide +kernel
theorem dX5_chooseFirst_110 : decode cX5_chooseFirst 110 = .ok (.iadd, 1) := by decide +kernel
theorem dX5_chooseFirst_111 : decode cX5_chooseFirst 111 = .ok (.istore 8, 2) := by decide +kernel
theorem dX5_chooseFirst_113 : decode cX5_chooseFirst 113 = .ok (.iload 4, 2) := by decide +kernel
theorem dX5_chooseFirst_115 : decode cX5_chooseFirst 115 = .ok (.bipush (-6), 2) := by decide +kernel
theorem dX5_chooseFirst_117 : decode cX5_chooseFirst 117 = .ok (.if_icmp .eq 12, 3) := by decide +kernel
theorem dX5_chooseFirst_120 : decode cX5_chooseFirst 120 = .ok (.iload 8, 2) := by decide +kernel
theorem dX5_chooseFirst_122 : decode cX5_chooseFirst 122 = .ok (.aload_n 0, 1) := by decide +kernel
theorem dX5_chooseFirst_123 : decode cX5_chooseFirst 123 = .ok (.getfield 125, 3) := by decide +kernel
theorem dX5_chooseFirst_126 : decode cX5_chooseFirst 126 = .ok (.if_icmp .ge 13, 3) := by decide +kernel
theorem dX5_chooseFirst_129 : decode cX5_chooseFirst 129 = .ok (.aload_n 0, 1) := by decide +kernel
theorem dX5_chooseFirst_130 : decode cX5_chooseFirst 130 = .ok (.iload 8, 2) := by decide +kernel
theorem dX5_chooseFirst_132 : decode cX5_chooseFirst 132 = .ok (.putfield 125, 3) := by decide +kernel
theorem dX5_chooseFirst_135 : decode cX5_chooseFirst 135 = .ok (.iload 5, 2) := by decide +kernel
theorem dX5_chooseFirst_137 : decode cX5_chooseFirst 137 = .ok (.istore 4, 2) := by decide +kernel
theorem dX5_chooseFirst_139 : decode cX5_chooseFirst 139 = .ok (.iinc 5 1, 3) := by decide +kernel
theorem dX5_chooseFirst_142 : decode cX5_chooseFirst 142 = .ok (.goto (-118), 3) := by decide +kernel
theorem dX5_chooseFirst_145 : decode cX5_chooseFirst 145 = .ok (.iload 4, 2) := by decide +kernel
theorem dX5_chooseFirst_147 : decode cX5_chooseFirst 147 = .ok (.ireturn, 1) := by decide +kernel
theorem dX5_leastBeatFor_0 : decode cX5_leastBeatFor 0 = .ok (.iload_n 2, 1) := by decide +kernel
theorem dX5_leastBeatFor_1 : decode cX5_leastBeatFor 1 = .ok (.aload_n 0, 1) := by decide +kernel
theorem dX5_leastBeatFor_2 : decode cX5_leastBeatFor 2 = .ok (.getfield 9, 3) := by decide +kernel
theorem dX5_leastBeatFor_5 : decode cX5_leastBeatFor 5 = .ok (.iload_n 1, 1) := by decide +kernel
theorem dX5_leastBeatFor_6 : decode cX5_leastBeatFor 6 = .ok (.iaload, 1) := by decide +kernel
theorem dX5_leastBeatFor_7 : decode cX5_leastBeatFor 7 = .ok (.invokestatic 114, 3) := by decide +kernel
theorem dX5_leastBeatFor_10 : decode cX5_leastBeatFor 10 = .ok (.istore 5, 2) := by decide +kernel
theorem dX5_leastBeatFor_12 : decode cX5_leastBeatFor 12 = .ok (.iconst 4, 1) := by decide +kernel
theorem dX5_leastBeatFor_13 : decode cX5_leastBeatFor 13 = .ok (.istore 6, 2) := by decide +kernel
theorem dX5_leastBeatFor_15 : decode cX5_leastBeatFor 15 = .ok (.iload 6, 2) := by decide +kernel
theorem dX5_leastBeatFor_17 : decode cX5_leastBeatFor 17 = .ok (.bipush 10, 2) := by decide +kernel
theorem dX5_leastBeatFor_19 : decode cX5_leastBeatFor 19 = .ok (.if_icmp .ge 45, 3) := by decide +kernel
theorem dX5_leastBeatFor_22 : decode cX5_leastBeatFor 22 = .ok (.aload_n 3, 1) := by decide +kernel
theorem dX5_leastBeatFor_23 : decode cX5_leastBeatFor 23 = .ok (.iload_n 1, 1) := by decide +kernel
theorem dX5_leastBeatFor_24 : decode cX5_leastBeatFor 24 = .ok (.iconst 5, 1) := by decide +kernel
theorem dX5_leastBeatFor_25 : decode cX5_leastBeatFor 25 = .ok (.idiv, 1) := by decide +kernel
theorem dX5_leastBeatFor_26 : decode cX5_leastBeatFor 26 = .ok (.iload 6, 2) := by decide +kernel
theorem dX5_leastBeatFor_28 : decode cX5_leastBeatFor 28 = .ok (.invokevirtual 128, 3) := by decide +kernel
theorem dX5_leastBeatFor_31 : decode cX5_leastBeatFor 31 = .ok (.aload 4, 2) := by decide +kernel
theorem dX5_leastBeatFor_33 : decode cX5_leastBeatFor 33 = .ok (.iload_n 1, 1) := by decide +kernel
theorem dX5_leastBeatFor_34 : decode cX5_leastBeatFor 34 = .ok (.iconst 5, 1) := by decide +kernel
theorem dX5_leastBeatFor_35 : decode cX5_leastBeatFor 35 = .ok (.irem, 1) := by decide +kernel
theorem dX5_leastBeatFor_36 : decode cX5_leastBeatFor 36 = .ok (.iload 6, 2) := by decide +kernel
theorem dX5_leastBeatFor_38 : decode cX5_leastBeatFor 38 = .ok (.invokevirtual 128, 3) := by decide +kernel
theorem dX5_leastBeatFor_41 : decode cX5_leastBeatFor 41 = .ok (.iadd, 1) := by decide +kernel
theorem dX5_leastBeatFor_42 : decode cX5_leastBeatFor 42 = .ok (.istore 7, 2) := by decide +kernel
theorem dX5_leastBeatFor_44 : decode cX5_leastBeatFor 44 = .ok (.iload_n 2, 1) := by decide +kernel
theorem dX5_leastBeatFor_45 : decode cX5_leastBeatFor 45 = .ok (.iload 7, 2) := by decide +kernel
theorem dX5_leastBeatFor_47 : decode cX5_leastBeatFor 47 = .ok (.invokestatic 114, 3) := by decide +kernel
theorem dX5_leastBeatFor_50 : decode cX5_leastBeatFor 50 = .ok (.iload 5, 2) := by decide +kernel
theorem dX5_leastBeatFor_52 : decode cX5_leastBeatFor 52 = .ok (.if_icmp .ne 6, 3) := by decide +kernel
theorem dX5_leastBeatFor_55 : decode cX5_leastBeatFor 55 = .ok (.iload 6, 2) := by decide +kernel
theorem dX5_leastBeatFor_57 : decode cX5_leastBeatFor 57 = .ok (.ireturn, 1) := by decide +kernel
theorem dX5_leastBeatFor_58 : decode cX5_leastBeatFor 58 = .ok (.iinc 6 1, 3) := by decide +kernel
theorem dX5_leastBeatFor_61 : decode cX5_leastBeatFor 61 = .ok (.goto (-46), 3) := by decide +kernel
theorem dX5_leastBeatFor_64 : decode cX5_leastBeatFor 64 = .ok (.bipush 10, 2) := by decide +kernel
theorem dX5_leastBeatFor_66 : decode cX5_leastBeatFor 66 = .ok (.ireturn, 1) := by decide +kernel
theorem dX5_fewestCalls_0 : decode cX5_fewestCalls 0 = .ok (.iconst 0, 1) := by decide +kernel
theorem dX5_fewestCalls_1 : decode cX5_fewestCalls 1 = .ok (.istore_n 3, 1) := by decide +kernel
theorem dX5_fewestCalls_2 : decode cX5_fewestCalls 2 = .ok (.iload_n 3, 1) := by decide +kernel
theorem dX5_fewestCalls_3 : decode cX5_fewestCalls 3 = .ok (.iload_n 2, 1) := by decide +kernel
theorem dX5_fewestCalls_4 : decode cX5_fewestCalls 4 = .ok (.if_icmp .gt 25, 3) := by decide +kernel
theorem dX5_fewestCalls_7 : decode cX5_fewestCalls 7 = .ok (.aload_n 0, 1) := by decide +kernel
theorem dX5_fewestCalls_8 : decode cX5_fewestCalls 8 = .ok (.getfield 33, 3) := by decide +kernel
theorem dX5_fewestCalls_11 : decode cX5_fewestCalls 11 = .ok (.iload_n 3, 1) := by decide +kernel
theorem dX5_fewestCalls_12 : decode cX5_fewestCalls 12 = .ok (.iload_n 3, 1) := by decide +kernel
theorem dX5_fewestCalls_13 : decode cX5_fewestCalls 13 = .ok (.ifCond .ne 7, 3) := by decide +kernel
theorem dX5_fewestCalls_16 : decode cX5_fewestCalls 16 = .ok (.iconst 0, 1) := by decide +kernel
theorem dX5_fewestCalls_17 : decode cX5_fewestCalls 17 = .ok (.goto 5, 3) := by decide +kernel
theorem dX5_fewestCalls_20 : decode cX5_fewestCalls 20 = .ok (.ldc 102, 2) := by decide +kernel
theorem dX5_fewestCalls_22 : decode cX5_fewestCalls 22 = .ok (.iastore, 1) := by decide +kernel
theorem dX5_fewestCalls_23 : decode cX5_fewestCalls 23 = .ok (.iinc 3 1, 3) := by decide +kernel
theorem dX5_fewestCalls_26 : decode cX5_fewestCalls 26 = .ok (.goto (-24), 3) := by decide +kernel
theorem dX5_fewestCalls_29 : decode cX5_fewestCalls 29 = .ok (.iconst 0, 1) := by decide +kernel
theorem dX5_fewestCalls_30 : decode cX5_fewestCalls 30 = .ok (.istore_n 3, 1) := by decide +kernel
theorem dX5_fewestCalls_31 : decode cX5_fewestCalls 31 = .ok (.iload_n 3, 1) := by decide +kernel
theorem dX5_fewestCalls_32 : decode cX5_fewestCalls 32 = .ok (.aload_n 1, 1) := by decide +kernel
theorem dX5_fewestCalls_33 : decode cX5_fewestCalls 33 = .ok (.getfield 65, 3) := by decide +kernel
theorem dX5_fewestCalls_36 : decode cX5_fewestCalls 36 = .ok (.if_icmp .ge 164, 3) := by decide +kernel
theorem dX5_fewestCalls_39 : decode cX5_fewestCalls 39 = .ok (.aload_n 1, 1) := by decide +kernel
theorem dX5_fewestCalls_40 : decode cX5_fewestCalls 40 = .ok (.getfield 68, 3) := by decide +kernel
theorem dX5_fewestCalls_43 : decode cX5_fewestCalls 43 = .ok (.iload_n 3, 1) := by decide +kernel
theorem dX5_fewestCalls_44 : decode cX5_fewestCalls 44 = .ok (.iaload, 1) := by decide +kernel
theorem dX5_fewestCalls_45 : decode cX5_fewestCalls 45 = .ok (.istore 4, 2) := by decide +kernel
theorem dX5_fewestCalls_47 : decode cX5_fewestCalls 47 = .ok (.iload 4, 2) := by decide +kernel
theorem dX5_fewestCalls_49 : decode cX5_fewestCalls 49 = .ok (.iconst 5, 1) := by decide +kernel
theorem dX5_fewestCalls_50 : decode cX5_fewestCalls 50 = .ok (.if_icmp .eq 10, 3) := by decide +kernel
theorem dX5_fewestCalls_53 : decode cX5_fewestCalls 53 = .ok (.iload 4, 2) := by decide +kernel
theorem dX5_fewestCalls_55 : decode cX5_fewestCalls 55 = .ok (.bipush 6, 2) := by decide +kernel
theorem dX5_fewestCalls_57 : decode cX5_fewestCalls 57 = .ok (.if_icmp .ne 7, 3) := by decide +kernel
theorem dX5_fewestCalls_60 : decode cX5_fewestCalls 60 = .ok (.iconst 1, 1) := by decide +kernel
theorem dX5_fewestCalls_61 : decode cX5_fewestCalls 61 = .ok (.goto 4, 3) := by decide +kernel
theorem dX5_fewestCalls_64 : decode cX5_fewestCalls 64 = .ok (.iconst 0, 1) := by decide +kernel
theorem dX5_fewestCalls_65 : decode cX5_fewestCalls 65 = .ok (.istore 5, 2) := by decide +kernel
theorem dX5_fewestCalls_67 : decode cX5_fewestCalls 67 = .ok (.iconst 0, 1) := by decide +kernel
theorem dX5_fewestCalls_68 : decode cX5_fewestCalls 68 = .ok (.istore 6, 2) := by decide +kernel
theorem dX5_fewestCalls_70 : decode cX5_fewestCalls 70 = .ok (.iload 6, 2) := by decide +kernel
theorem dX5_fewestCalls_72 : decode cX5_fewestCalls 72 = .ok (.iload_n 2, 1) := by decide +kernel
theorem dX5_fewestCalls_73 : decode cX5_fewestCalls 73 = .ok (.if_icmp .gt 18, 3) := by decide +kernel
theorem dX5_fewestCalls_76 : decode cX5_fewestCalls 76 = .ok (.aload_n 0, 1) := by decide +kernel
theorem dX5_fewestCalls_77 : decode cX5_fewestCalls 77 = .ok (.getfield 36, 3) := by decide +kernel
theorem dX5_fewestCalls_80 : decode cX5_fewestCalls 80 = .ok (.iload 6, 2) := by decide +kernel
theorem dX5_fewestCalls_82 : decode cX5_fewestCalls 82 = .ok (.ldc 102, 2) := by decide +kernel
theorem dX5_fewestCalls_84 : decode cX5_fewestCalls 84 = .ok (.iastore, 1) := by decide +kernel
theorem dX5_fewestCalls_85 : decode cX5_fewestCalls 85 = .ok (.iinc 6 1, 3) := by decide +kernel
theorem dX5_fewestCalls_88 : decode cX5_fewestCalls 88 = .ok (.goto (-18), 3) := by decide +kernel
theorem dX5_fewestCalls_91 : decode cX5_fewestCalls 91 = .ok (.iconst 0, 1) := by decide +kernel
theorem dX5_fewestCalls_92 : decode cX5_fewestCalls 92 = .ok (.istore 6, 2) := by decide +kernel
theorem dX5_fewestCalls_94 : decode cX5_fewestCalls 94 = .ok (.iload 6, 2) := by decide +kernel
theorem dX5_fewestCalls_96 : decode cX5_fewestCalls 96 = .ok (.iload_n 2, 1) := by decide +kernel
theorem dX5_fewestCalls_97 : decode cX5_fewestCalls 97 = .ok (.if_icmp .gt 77, 3) := by decide +kernel
theorem dX5_fewestCalls_100 : decode cX5_fewestCalls 100 = .ok (.aload_n 0, 1) := by decide +kernel
theorem dX5_fewestCalls_101 : decode cX5_fewestCalls 101 = .ok (.getfield 33, 3) := by decide +kernel
theorem dX5_fewestCalls_104 : decode cX5_fewestCalls 104 = .ok (.iload 6, 2) := by decide +kernel
theorem dX5_fewestCalls_106 : decode cX5_fewestCalls 106 = .ok (.iaload, 1) := by decide +kernel
theorem dX5_fewestCalls_107 : decode cX5_fewestCalls 107 = .ok (.ldc 102, 2) := by decide +kernel
theorem dX5_fewestCalls_109 : decode cX5_fewestCalls 109 = .ok (.if_icmp .ne 6, 3) := by decide +kernel
theorem dX5_fewestCalls_112 : decode cX5_fewestCalls 112 = .ok (.goto 56, 3) := by decide +kernel
theorem dX5_fewestCalls_115 : decode cX5_fewestCalls 115 = .ok (.iload 6, 2) := by decide +kernel
theorem dX5_fewestCalls_117 : decode cX5_fewestCalls 117 = .ok (.iload 4, 2) := by decide +kernel
theorem dX5_fewestCalls_119 : decode cX5_fewestCalls 119 = .ok (.invokestatic 131, 3) := by decide +kernel
theorem dX5_fewestCalls_122 : decode cX5_fewestCalls 122 = .ok (.istore 7, 2) := by decide +kernel
theorem dX5_fewestCalls_124 : decode cX5_fewestCalls 124 = .ok (.iload 7, 2) := by decide +kernel
theorem dX5_fewestCalls_126 : decode cX5_fewestCalls 126 = .ok (.iload_n 2, 1) := by decide +kernel
theorem dX5_fewestCalls_127 : decode cX5_fewestCalls 127 = .ok (.if_icmp .gt 16, 3) := by decide +kernel
theorem dX5_fewestCalls_130 : decode cX5_fewestCalls 130 = .ok (.aload_n 0, 1) := by decide +kernel
theorem dX5_fewestCalls_131 : decode cX5_fewestCalls 131 = .ok (.iload 7, 2) := by decide +kernel
theorem dX5_fewestCalls_133 : decode cX5_fewestCalls 133 = .ok (.aload_n 0, 1) := by decide +kernel
theorem dX5_fewestCalls_134 : decode cX5_fewestCalls 134 = .ok (.getfield 33, 3) := by decide +kernel
theorem dX5_fewestCalls_137 : decode cX5_fewestCalls 137 = .ok (.iload 6, 2) := by decide +kernel
theorem dX5_fewestCalls_139 : decode cX5_fewestCalls 139 = .ok (.iaload, 1) := by decide +kernel
theorem dX5_fewestCalls_140 : decode cX5_fewestCalls 140 = .ok (.invokevirtual 134, 3) := by decide +kernel
theorem dX5_fewestCalls_143 : decode cX5_fewestCalls 143 = .ok (.iload 5, 2) := by decide +kernel
theorem dX5_fewestCalls_145 : decode cX5_fewestCalls 145 = .ok (.ifCond .eq 23, 3) := by decide +kernel
theorem dX5_fewestCalls_148 : decode cX5_fewestCalls 148 = .ok (.aload_n 0, 1) := by decide +kernel
theorem dX5_fewestCalls_149 : decode cX5_fewestCalls 149 = .ok (.iload 6, 2) := by decide +kernel
theorem dX5_fewestCalls_151 : decode cX5_fewestCalls 151 = .ok (.aload_n 0, 1) := by decide +kernel
theorem dX5_fewestCalls_152 : decode cX5_fewestCalls 152 = .ok (.getfield 33, 3) := by decide +kernel
theorem dX5_fewestCalls_155 : decode cX5_fewestCalls 155 = .ok (.iload 6, 2) := by decide +kernel
theorem dX5_fewestCalls_157 : decode cX5_fewestCalls 157 = .ok (.iaload, 1) := by decide +kernel
theorem dX5_fewestCalls_158 : decode cX5_fewestCalls 158 = .ok (.ldc 138, 2) := by decide +kernel
theorem dX5_fewestCalls_160 : decode cX5_fewestCalls 160 = .ok (.iadd, 1) := by decide +kernel
theorem dX5_fewestCalls_161 : decode cX5_fewestCalls 161 = .ok (.iconst 1, 1) := by decide +kernel
theorem dX5_fewestCalls_162 : decode cX5_fewestCalls 162 = .ok (.iload_n 3, 1) := by decide +kernel
theorem dX5_fewestCalls_163 : decode cX5_fewestCalls 163 = .ok (.ishl, 1) := by decide +kernel
theorem dX5_fewestCalls_164 : decode cX5_fewestCalls 164 = .ok (.iadd, 1) := by decide +kernel
theorem dX5_fewestCalls_165 : decode cX5_fewestCalls 165 = .ok (.invokevirtual 134, 3) := by decide +kernel
theorem dX5_fewestCalls_168 : decode cX5_fewestCalls 168 = .ok (.iinc 6 1, 3) := by decide +kernel
theorem dX5_fewestCalls_171 : decode cX5_fewestCalls 171 = .ok (.goto (-77), 3) := by decide +kernel
theorem dX5_fewestCalls_174 : decode cX5_fewestCalls 174 = .ok (.aload_n 0, 1) := by decide +kernel
theorem dX5_fewestCalls_175 : decode cX5_fewestCalls 175 = .ok (.getfield 36, 3) := by decide +kernel
theorem dX5_fewestCalls_178 : decode cX5_fewestCalls 178 = .ok (.astore 6, 2) := by decide +kernel
theorem dX5_fewestCalls_180 : decode cX5_fewestCalls 180 = .ok (.aload_n 0, 1) := by decide +kernel
theorem dX5_fewestCalls_181 : decode cX5_fewestCalls 181 = .ok (.aload_n 0, 1) := by decide +kernel
theorem dX5_fewestCalls_182 : decode cX5_fewestCalls 182 = .ok (.getfield 33, 3) := by decide +kernel
theorem dX5_fewestCalls_185 : decode cX5_fewestCalls 185 = .ok (.putfield 36, 3) := by decide +kernel
theorem dX5_fewestCalls_188 : decode cX5_fewestCalls 188 = .ok (.aload_n 0, 1) := by decide +kernel
theorem dX5_fewestCalls_189 : decode cX5_fewestCalls 189 = .ok (.aload 6, 2) := by decide +kernel
theorem dX5_fewestCalls_191 : decode cX5_fewestCalls 191 = .ok (.putfield 33, 3) := by decide +kernel
theorem dX5_fewestCalls_194 : decode cX5_fewestCalls 194 = .ok (.iinc 3 1, 3) := by decide +kernel
theorem dX5_fewestCalls_197 : decode cX5_fewestCalls 197 = .ok (.goto (-166), 3) := by decide +kernel
theorem dX5_fewestCalls_200 : decode cX5_fewestCalls 200 = .ok (.ldc 102, 2) := by decide +kernel
theorem dX5_fewestCalls_202 : decode cX5_fewestCalls 202 = .ok (.istore_n 3, 1) := by decide +kernel
theorem dX5_fewestCalls_203 : decode cX5_fewestCalls 203 = .ok (.iconst 0, 1) := by decide +kernel
theorem dX5_fewestCalls_204 : decode cX5_fewestCalls 204 = .ok (.istore 4, 2) := by decide +kernel
theorem dX5_fewestCalls_206 : decode cX5_fewestCalls 206 = .ok (.iload 4, 2) := by decide +kernel
theorem dX5_fewestCalls_208 : decode cX5_fewestCalls 208 = .ok (.iload_n 2, 1) := by decide +kernel
theorem dX5_fewestCalls_209 : decode cX5_fewestCalls 209 = .ok (.if_icmp .gt 21, 3) := by decide +kernel
theorem dX5_fewestCalls_212 : decode cX5_fewestCalls 212 = .ok (.iload_n 3, 1) := by decide +kernel
theorem dX5_fewestCalls_213 : decode cX5_fewestCalls 213 = .ok (.aload_n 0, 1) := by decide +kernel
theorem dX5_fewestCalls_214 : decode cX5_fewestCalls 214 = .ok (.getfield 33, 3) := by decide +kernel
theorem dX5_fewestCalls_217 : decode cX5_fewestCalls 217 = .ok (.iload 4, 2) := by decide +kernel
theorem dX5_fewestCalls_219 : decode cX5_fewestCalls 219 = .ok (.iaload, 1) := by decide +kernel
theorem dX5_fewestCalls_220 : decode cX5_fewestCalls 220 = .ok (.invokestatic 120, 3) := by decide +kernel
theorem dX5_fewestCalls_223 : decode cX5_fewestCalls 223 = .ok (.istore_n 3, 1) := by decide +kernel
theorem dX5_fewestCalls_224 : decode cX5_fewestCalls 224 = .ok (.iinc 4 1, 3) := by decide +kernel
theorem dX5_fewestCalls_227 : decode cX5_fewestCalls 227 = .ok (.goto (-21), 3) := by decide +kernel
theorem dX5_fewestCalls_230 : decode cX5_fewestCalls 230 = .ok (.iload_n 3, 1) := by decide +kernel
theorem dX5_fewestCalls_231 : decode cX5_fewestCalls 231 = .ok (.ireturn, 1) := by decide +kernel
theorem dX5_keepFewer_0 : decode cX5_keepFewer 0 = .ok (.aload_n 0, 1) := by decide +kernel
theorem dX5_keepFewer_1 : decode cX5_keepFewer 1 = .ok (.getfield 36, 3) := by decide +kernel
theorem dX5_keepFewer_4 : decode cX5_keepFewer 4 = .ok (.iload_n 1, 1) := by decide +kernel
theorem dX5_keepFewer_5 : decode cX5_keepFewer 5 = .ok (.aload_n 0, 1) := by decide +kernel
theorem dX5_keepFewer_6 : decode cX5_keepFewer 6 = .ok (.getfield 36, 3) := by decide +kernel
theorem dX5_keepFewer_9 : decode cX5_keepFewer 9 = .ok (.iload_n 1, 1) := by decide +kernel
theorem dX5_keepFewer_10 : decode cX5_keepFewer 10 = .ok (.iaload, 1) := by decide +kernel
theorem dX5_keepFewer_11 : decode cX5_keepFewer 11 = .ok (.iload_n 2, 1) := by decide +kernel
theorem dX5_keepFewer_12 : decode cX5_keepFewer 12 = .ok (.invokestatic 120, 3) := by decide +kernel
theorem dX5_keepFewer_15 : decode cX5_keepFewer 15 = .ok (.iastore, 1) := by decide +kernel
theorem dX5_keepFewer_16 : decode cX5_keepFewer 16 = .ok (.return_, 1) := by decide +kernel
theorem dX6_init_0 : decode cX6_init 0 = .ok (.aload_n 0, 1) := by decide +kernel
theorem dX6_init_1 : decode cX6_init 1 = .ok (.invokespecial 3, 3) := by decide +kernel
theorem dX6_init_4 : decode cX6_init 4 = .ok (.aload_n 0, 1) := by decide +kernel
theorem dX6_init_5 : decode cX6_init 5 = .ok (.iconst 4, 1) := by decide +kernel
theorem dX6_init_6 : decode cX6_init 6 = .ok (.anewarray 9, 3) := by decide +kernel
theorem dX6_init_9 : decode cX6_init 9 = .ok (.putfield 11, 3) := by decide +kernel
theorem dX6_init_12 : decode cX6_init 12 = .ok (.aload_n 0, 1) := by decide +kernel
theorem dX6_init_13 : decode cX6_init 13 = .ok (.bipush 24, 2) := by decide +kernel
theorem dX6_init_15 : decode cX6_init 15 = .ok (.newarray .int, 2) := by decide +kernel
theorem dX6_init_17 : decode cX6_init 17 = .ok (.putfield 17, 3) := by decide +kernel
theorem dX6_init_20 : decode cX6_init 20 = .ok (.aload_n 0, 1) := by decide +kernel
theorem dX6_init_21 : decode cX6_init 21 = .ok (.bipush 24, 2) := by decide +kernel
theorem dX6_init_23 : decode cX6_init 23 = .ok (.newarray .int, 2) := by decide +kernel
theorem dX6_init_25 : decode cX6_init 25 = .ok (.putfield 21, 3) := by decide +kernel
theorem dX6_init_28 : decode cX6_init 28 = .ok (.aload_n 0, 1) := by decide +kernel
theorem dX6_init_29 : decode cX6_init 29 = .ok (.bipush 6, 2) := by decide +kernel
theorem dX6_init_31 : decode cX6_init 31 = .ok (.newarray .int, 2) := by decide +kernel
theorem dX6_init_33 : decode cX6_init 33 = .ok (.putfield 24, 3) := by decide +kernel
theorem dX6_init_36 : decode cX6_init 36 = .ok (.aload_n 0, 1) := by decide +kernel
theorem dX6_init_37 : decode cX6_init 37 = .ok (.bipush 6, 2) := by decide +kernel
theorem dX6_init_39 : decode cX6_init 39 = .ok (.newarray .int, 2) := by decide +kernel
theorem dX6_init_41 : decode cX6_init 41 = .ok (.putfield 27, 3) := by decide +kernel
theorem dX6_init_44 : decode cX6_init 44 = .ok (.aload_n 0, 1) := by decide +kernel
theorem dX6_init_45 : decode cX6_init 45 = .ok (.bipush 6, 2) := by decide +kernel
theorem dX6_init_47 : decode cX6_init 47 = .ok (.newarray .int, 2) := by decide +kernel
theorem dX6_init_49 : decode cX6_init 49 = .ok (.putfield 30, 3) := by decide +kernel
theorem dX6_init_52 : decode cX6_init 52 = .ok (.aload_n 0, 1) := by decide +kernel
theorem dX6_init_53 : decode cX6_init 53 = .ok (.bipush 6, 2) := by decide +kernel
theorem dX6_init_55 : decode cX6_init 55 = .ok (.newarray .int, 2) := by decide +kernel
theorem dX6_init_57 : decode cX6_init 57 = .ok (.putfield 33, 3) := by decide +kernel
theorem dX6_init_60 : decode cX6_init 60 = .ok (.aload_n 0, 1) := by decide +kernel
theorem dX6_init_61 : decode cX6_init 61 = .ok (.iconst 0, 1) := by decide +kernel
theorem dX6_init_62 : decode cX6_init 62 = .ok (.putfield 36, 3) := by decide +kernel
theorem dX6_init_65 : decode cX6_init 65 = .ok (.aload_n 0, 1) := by decide +kernel
theorem dX6_init_66 : decode cX6_init 66 = .ok (.iconst 1, 1) := by decide +kernel
theorem dX6_init_67 : decode cX6_init 67 = .ok (.putfield 40, 3) := by decide +kernel
theorem dX6_init_70 : decode cX6_init 70 = .ok (.aload_n 0, 1) := by decide +kernel
theorem dX6_init_71 : decode cX6_init 71 = .ok (.bipush 10, 2) := by decide +kernel
theorem dX6_init_73 : decode cX6_init 73 = .ok (.putfield 43, 3) := by decide +kernel
theorem dX6_init_76 : decode cX6_init 76 = .ok (.aload_n 0, 1) := by decide +kernel
theorem dX6_init_77 : decode cX6_init 77 = .ok (.bipush 60, 2) := by decide +kernel
theorem dX6_init_79 : decode cX6_init 79 = .ok (.putfield 46, 3) := by decide +kernel
theorem dX6_init_82 : decode cX6_init 82 = .ok (.aload_n 0, 1) := by decide +kernel
theorem dX6_init_83 : decode cX6_init 83 = .ok (.bipush 10, 2) := by decide +kernel
theorem dX6_init_85 : decode cX6_init 85 = .ok (.putfield 49, 3) := by decide +kernel
theorem dX6_init_88 : decode cX6_init 88 = .ok (.aload_n 0, 1) := by decide +kernel
theorem dX6_init_89 : decode cX6_init 89 = .ok (.iconst 1, 1) := by decide +kernel
theorem dX6_init_90 : decode cX6_init 90 = .ok (.putfield 52, 3) := by decide +kernel
theorem dX6_init_93 : decode cX6_init 93 = .ok (.aload_n 0, 1) := by decide +kernel
theorem dX6_init_94 : decode cX6_init 94 = .ok (.iconst 0, 1) := by decide +kernel
theorem dX6_init_95 : decode cX6_init 95 = .ok (.putfield 55, 3) := by decide +kernel
theorem dX6_init_98 : decode cX6_init 98 = .ok (.iconst 0, 1) := by decide +kernel
theorem dX6_init_99 : decode cX6_init 99 = .ok (.istore_n 1, 1) := by decide +kernel
theorem dX6_init_100 : decode cX6_init 100 = .ok (.iload_n 1, 1) := by decide +kernel
theorem dX6_init_101 : decode cX6_init 101 = .ok (.iconst 4, 1) := by decide +kernel
theorem dX6_init_102 : decode cX6_init 102 = .ok (.if_icmp .ge 22, 3) := by decide +kernel
theorem dX6_init_105 : decode cX6_init 105 = .ok (.aload_n 0, 1) := by decide +kernel
theorem dX6_init_106 : decode cX6_init 106 = .ok (.getfield 11, 3) := by decide +kernel
theorem dX6_init_109 : decode cX6_init 109 = .ok (.iload_n 1, 1) := by decide +kernel
theorem dX6_init_110 : decode cX6_init 110 = .ok (.new 9, 3) := by decide +kernel
theorem dX6_init_113 : decode cX6_init 113 = .ok (.dup, 1) := by decide +kernel
theorem dX6_init_114 : decode cX6_init 114 = .ok (.invokespecial 58, 3) := by decide +kernel
theorem dX6_init_117 : decode cX6_init 117 = .ok (.aastore, 1) := by decide +kernel
theorem dX6_init_118 : decode cX6_init 118 = .ok (.iinc 1 1, 3) := by decide +kernel
theorem dX6_init_121 : decode cX6_init 121 = .ok (.goto (-21), 3) := by decide +kernel
theorem dX6_init_124 : decode cX6_init 124 = .ok (.aload_n 0, 1) := by decide +kernel
theorem dX6_init_125 : decode cX6_init 125 = .ok (.getfield 17, 3) := by decide +kernel
theorem dX6_init_128 : decode cX6_init 128 = .ok (.iconst 0, 1) := by decide +kernel
theorem dX6_init_129 : decode cX6_init 129 = .ok (.bipush 46, 2) := by decide +kernel
theorem dX6_init_131 : decode cX6_init 131 = .ok (.iastore, 1) := by decide +kernel
theorem dX6_init_132 : decode cX6_init 132 = .ok (.return_, 1) := by decide +kernel
theorem dX6_copyFrom_0 : decode cX6_copyFrom 0 = .ok (.iconst 0, 1) := by decide +kernel
theorem dX6_copyFrom_1 : decode cX6_copyFrom 1 = .ok (.istore_n 2, 1) := by decide +kernel
theorem dX6_copyFrom_2 : decode cX6_copyFrom 2 = .ok (.iload_n 2, 1) := by decide +kernel
theorem dX6_copyFrom_3 : decode cX6_copyFrom 3 = .ok (.iconst 4, 1) := by decide +kernel
theorem dX6_copyFrom_4 : decode cX6_copyFrom 4 = .ok (.if_icmp .ge 24, 3) := by decide +kernel
theorem dX6_copyFrom_7 : decode cX6_copyFrom 7 = .ok (.aload_n 0, 1) := by decide +kernel
theorem dX6_copyFrom_8 : decode cX6_copyFrom 8 = .ok (.getfield 11, 3) := by decide +kernel
theorem dX6_copyFrom_11 : decode cX6_copyFrom 11 = .ok (.iload_n 2, 1) := by decide +kernel
theorem dX6_copyFrom_12 : decode cX6_copyFrom 12 = .ok (.aaload, 1) := by decide +kernel
theorem dX6_copyFrom_13 : decode cX6_copyFrom 13 = .ok (.aload_n 1, 1) := by decide +kernel
theorem dX6_copyFrom_14 : decode cX6_copyFrom 14 = .ok (.getfield 11, 3) := by decide +kernel
theorem dX6_copyFrom_17 : decode cX6_copyFrom 17 = .ok (.iload_n 2, 1) := by decide +kernel
theorem dX6_copyFrom_18 : decode cX6_copyFrom 18 = .ok (.aaload, 1) := by decide +kernel
theorem dX6_copyFrom_19 : decode cX6_copyFrom 19 = .ok (.invokevirtual 59, 3) := by decide +kernel
theorem dX6_copyFrom_22 : decode cX6_copyFrom 22 = .ok (.iinc 2 1, 3) := by decide +kernel
theorem dX6_copyFrom_25 : decode cX6_copyFrom 25 = .ok (.goto (-23), 3) := by decide +kernel
theorem dX6_copyFrom_28 : decode cX6_copyFrom 28 = .ok (.aload_n 1, 1) := by decide +kernel
theorem dX6_copyFrom_29 : decode cX6_copyFrom 29 = .ok (.getfield 17, 3) := by decide +kernel
theorem dX6_copyFrom_32 : decode cX6_copyFrom 32 = .ok (.iconst 0, 1) := by decide +kernel
theorem dX6_copyFrom_33 : decode cX6_copyFrom 33 = .ok (.aload_n 0, 1) := by decide +kernel
theorem dX6_copyFrom_34 : decode cX6_copyFrom 34 = .ok (.getfield 17, 3) := by decide +kernel
theorem dX6_copyFrom_37 : decode cX6_copyFrom 37 = .ok (.iconst 0, 1) := by decide +kernel
theorem dX6_copyFrom_38 : decode cX6_copyFrom 38 = .ok (.bipush 24, 2) := by decide +kernel
theorem dX6_copyFrom_40 : decode cX6_copyFrom 40 = .ok (.invokestatic 63, 3) := by decide +kernel
theorem dX6_copyFrom_43 : decode cX6_copyFrom 43 = .ok (.aload_n 1, 1) := by decide +kernel
theorem dX6_copyFrom_44 : decode cX6_copyFrom 44 = .ok (.getfield 21, 3) := by decide +kernel
theorem dX6_copyFrom_47 : decode cX6_copyFrom 47 = .ok (.iconst 0, 1) := by decide +kernel
theorem dX6_copyFrom_48 : decode cX6_copyFrom 48 = .ok (.aload_n 0, 1) := by decide +kernel
theorem dX6_copyFrom_49 : decode cX6_copyFrom 49 = .ok (.getfield 21, 3) := by decide +kernel
theorem dX6_copyFrom_52 : decode cX6_copyFrom 52 = .ok (.iconst 0, 1) := by decide +kernel
theorem dX6_copyFrom_53 : decode cX6_copyFrom 53 = .ok (.bipush 24, 2) := by decide +kernel
theorem dX6_copyFrom_55 : decode cX6_copyFrom 55 = .ok (.invokestatic 63, 3) := by decide +kernel
theorem dX6_copyFrom_58 : decode cX6_copyFrom 58 = .ok (.aload_n 1, 1) := by decide +kernel
theorem dX6_copyFrom_59 : decode cX6_copyFrom 59 = .ok (.getfield 24, 3) := by decide +kernel
theorem dX6_copyFrom_62 : decode cX6_copyFrom 62 = .ok (.iconst 0, 1) := by decide +kernel
theorem dX6_copyFrom_63 : decode cX6_copyFrom 63 = .ok (.aload_n 0, 1) := by decide +kernel
theorem dX6_copyFrom_64 : decode cX6_copyFrom 64 = .ok (.getfield 24, 3) := by decide +kernel
theorem dX6_copyFrom_67 : decode cX6_copyFrom 67 = .ok (.iconst 0, 1) := by decide +kernel
theorem dX6_copyFrom_68 : decode cX6_copyFrom 68 = .ok (.bipush 6, 2) := by decide +kernel
theorem dX6_copyFrom_70 : decode cX6_copyFrom 70 = .ok (.invokestatic 63, 3) := by decide +kernel
theorem dX6_copyFrom_73 : decode cX6_copyFrom 73 = .ok (.aload_n 1, 1) := by decide +kernel
theorem dX6_copyFrom_74 : decode cX6_copyFrom 74 = .ok (.getfield 27, 3) := by decide +kernel
theorem dX6_copyFrom_77 : decode cX6_copyFrom 77 = .ok (.iconst 0, 1) := by decide +kernel
theorem dX6_copyFrom_78 : decode cX6_copyFrom 78 = .ok (.aload_n 0, 1) := by decide +kernel
theorem dX6_copyFrom_79 : decode cX6_copyFrom 79 = .ok (.getfield 27, 3) := by decide +kernel
theorem dX6_copyFrom_82 : decode cX6_copyFrom 82 = .ok (.iconst 0, 1) := by decide +kernel
theorem dX6_copyFrom_83 : decode cX6_copyFrom 83 = .ok (.bipush 6, 2) := by decide +kernel
theorem dX6_copyFrom_85 : decode cX6_copyFrom 85 = .ok (.invokestatic 63, 3) := by decide +kernel
theorem dX6_copyFrom_88 : decode cX6_copyFrom 88 = .ok (.aload_n 1, 1) := by decide +kernel
theorem dX6_copyFrom_89 : decode cX6_copyFrom 89 = .ok (.getfield 30, 3) := by decide +kernel
theorem dX6_copyFrom_92 : decode cX6_copyFrom 92 = .ok (.iconst 0, 1) := by decide +kernel
theorem dX6_copyFrom_93 : decode cX6_copyFrom 93 = .ok (.aload_n 0, 1) := by decide +kernel
theorem dX6_copyFrom_94 : decode cX6_copyFrom 94 = .ok (.getfield 30, 3) := by decide +kernel
theorem dX6_copyFrom_97 : decode cX6_copyFrom 97 = .ok (.iconst 0, 1) := by decide +kernel
theorem dX6_copyFrom_98 : decode cX6_copyFrom 98 = .ok (.bipush 6, 2) := by decide +kernel
theorem dX6_copyFrom_100 : decode cX6_copyFrom 100 = .ok (.invokestatic 63, 3) := by decide +kernel
theorem dX6_copyFrom_103 : decode cX6_copyFrom 103 = .ok (.aload_n 1, 1) := by decide +kernel
theorem dX6_copyFrom_104 : decode cX6_copyFrom 104 = .ok (.getfield 33, 3) := by decide +kernel
theorem dX6_copyFrom_107 : decode cX6_copyFrom 107 = .ok (.iconst 0, 1) := by decide +kernel
theorem dX6_copyFrom_108 : decode cX6_copyFrom 108 = .ok (.aload_n 0, 1) := by decide +kernel
theorem dX6_copyFrom_109 : decode cX6_copyFrom 109 = .ok (.getfield 33, 3) := by decide +kernel
theorem dX6_copyFrom_112 : decode cX6_copyFrom 112 = .ok (.iconst 0, 1) := by decide +kernel
theorem dX6_copyFrom_113 : decode cX6_copyFrom 113 = .ok (.bipush 6, 2) := by decide +kernel
theorem dX6_copyFrom_115 : decode cX6_copyFrom 115 = .ok (.invokestatic 63, 3) := by decide +kernel
theorem dX6_copyFrom_118 : decode cX6_copyFrom 118 = .ok (.aload_n 0, 1) := by decide +kernel
theorem dX6_copyFrom_119 : decode cX6_copyFrom 119 = .ok (.aload_n 1, 1) := by decide +kernel
theorem dX6_copyFrom_120 : decode cX6_copyFrom 120 = .ok (.getfield 36, 3) := by decide +kernel
theorem dX6_copyFrom_123 : decode cX6_copyFrom 123 = .ok (.putfield 36, 3) := by decide +kernel
theorem dX6_copyFrom_126 : decode cX6_copyFrom 126 = .ok (.aload_n 0, 1) := by decide +kernel
theorem dX6_copyFrom_127 : decode cX6_copyFrom 127 = .ok (.aload_n 1, 1) := by decide +kernel
theorem dX6_copyFrom_128 : decode cX6_copyFrom 128 = .ok (.getfield 40, 3) := by decide +kernel
theorem dX6_copyFrom_131 : decode cX6_copyFrom 131 = .ok (.putfield 40, 3) := by decide +kernel
theorem dX6_copyFrom_134 : decode cX6_copyFrom 134 = .ok (.aload_n 0, 1) := by decide +kernel
theorem dX6_copyFrom_135 : decode cX6_copyFrom 135 = .ok (.aload_n 1, 1) := by decide +kernel
theorem dX6_copyFrom_136 : decode cX6_copyFrom 136 = .ok (.getfield 43, 3) := by decide +kernel
theorem dX6_copyFrom_139 : decode cX6_copyFrom 139 = .ok (.putfield 43, 3) := by decide +kernel
theorem dX6_copyFrom_142 : decode cX6_copyFrom 142 = .ok (.aload_n 0, 1) := by decide +kernel
theorem dX6_copyFrom_143 : decode cX6_copyFrom 143 = .ok (.aload_n 1, 1) := by decide +kernel
theorem dX6_copyFrom_144 : decode cX6_copyFrom 144 = .ok (.getfield 46, 3) := by decide +kernel
theorem dX6_copyFrom_147 : decode cX6_copyFrom 147 = .ok (.putfield 46, 3) := by decide +kernel
theorem dX6_copyFrom_150 : decode cX6_copyFrom 150 = .ok (.aload_n 0, 1) := by decide +kernel
theorem dX6_copyFrom_151 : decode cX6_copyFrom 151 = .ok (.aload_n 1, 1) := by decide +kernel
theorem dX6_copyFrom_152 : decode cX6_copyFrom 152 = .ok (.getfield 49, 3) := by decide +kernel
theorem dX6_copyFrom_155 : decode cX6_copyFrom 155 = .ok (.putfield 49, 3) := by decide +kernel
theorem dX6_copyFrom_158 : decode cX6_copyFrom 158 = .ok (.aload_n 0, 1) := by decide +kernel
theorem dX6_copyFrom_159 : decode cX6_copyFrom 159 = .ok (.aload_n 1, 1) := by decide +kernel
theorem dX6_copyFrom_160 : decode cX6_copyFrom 160 = .ok (.getfield 52, 3) := by decide +kernel
theorem dX6_copyFrom_163 : decode cX6_copyFrom 163 = .ok (.putfield 52, 3) := by decide +kernel
theorem dX6_copyFrom_166 : decode cX6_copyFrom 166 = .ok (.aload_n 0, 1) := by decide +kernel
theorem dX6_copyFrom_167 : decode cX6_copyFrom 167 = .ok (.aload_n 1, 1) := by decide +kernel
theorem dX6_copyFrom_168 : decode cX6_copyFrom 168 = .ok (.getfield 55, 3) := by decide +kernel
theorem dX6_copyFrom_171 : decode cX6_copyFrom 171 = .ok (.putfield 55, 3) := by decide +kernel
theorem dX6_copyFrom_174 : decode cX6_copyFrom 174 = .ok (.return_, 1) := by decide +kernel
theorem dX6_isThere_0 : decode cX6_isThere 0 = .ok (.iload_n 1, 1) := by decide +kernel
theorem dX6_isThere_1 : decode cX6_isThere 1 = .ok (.iconst 0, 1) := by decide +kernel
theorem dX6_isThere_2 : decode cX6_isThere 2 = .ok (.iconst 3, 1) := by decide +kernel
theorem dX6_isThere_3 : decode cX6_isThere 3 = .ok (.invokestatic 69, 3) := by decide +kernel
theorem dX6_isThere_6 : decode cX6_isThere 6 = .ok (.ifCond .eq 19, 3) := by decide +kernel
theorem dX6_isThere_9 : decode cX6_isThere 9 = .ok (.aload_n 0, 1) := by decide +kernel
theorem dX6_isThere_10 : decode cX6_isThere 10 = .ok (.getfield 11, 3) := by decide +kernel
theorem dX6_isThere_13 : decode cX6_isThere 13 = .ok (.iload_n 1, 1) := by decide +kernel
theorem dX6_isThere_14 : decode cX6_isThere 14 = .ok (.aaload, 1) := by decide +kernel
theorem dX6_isThere_15 : decode cX6_isThere 15 = .ok (.getfield 73, 3) := by decide +kernel
theorem dX6_isThere_18 : decode cX6_isThere 18 = .ok (.ifCond .eq 7, 3) := by decide +kernel
theorem dX6_isThere_21 : decode cX6_isThere 21 = .ok (.iconst 1, 1) := by decide +kernel
theorem dX6_isThere_22 : decode cX6_isThere 22 = .ok (.goto 4, 3) := by decide +kernel
theorem dX6_isThere_25 : decode cX6_isThere 25 = .ok (.iconst 0, 1) := by decide +kernel
theorem dX6_isThere_26 : decode cX6_isThere 26 = .ok (.ireturn, 1) := by decide +kernel
theorem dX6_riderInFront_0 : decode cX6_riderInFront 0 = .ok (.aload_n 0, 1) := by decide +kernel
theorem dX6_riderInFront_1 : decode cX6_riderInFront 1 = .ok (.getfield 11, 3) := by decide +kernel
theorem dX6_riderInFront_4 : decode cX6_riderInFront 4 = .ok (.aload_n 0, 1) := by decide +kernel
theorem dX6_riderInFront_5 : decode cX6_riderInFront 5 = .ok (.getfield 36, 3) := by decide +kernel
theorem dX6_riderInFront_8 : decode cX6_riderInFront 8 = .ok (.aaload, 1) := by decide +kernel
theorem dX6_riderInFront_9 : decode cX6_riderInFront 9 = .ok (.areturn, 1) := by decide +kernel
theorem dX6_riderInBack_0 : decode cX6_riderInBack 0 = .ok (.aload_n 0, 1) := by decide +kernel
theorem dX6_riderInBack_1 : decode cX6_riderInBack 1 = .ok (.getfield 11, 3) := by decide +kernel
theorem dX6_riderInBack_4 : decode cX6_riderInBack 4 = .ok (.aload_n 0, 1) := by decide +kernel
theorem dX6_riderInBack_5 : decode cX6_riderInBack 5 = .ok (.getfield 40, 3) := by decide +kernel
theorem dX6_riderInBack_8 : decode cX6_riderInBack 8 = .ok (.aaload, 1) := by decide +kernel
theorem dX6_riderInBack_9 : decode cX6_riderInBack 9 = .ok (.areturn, 1) := by decide +kernel
theorem dX6_ridersThere_0 : decode cX6_ridersThere 0 = .ok (.aload_n 0, 1) := by decide +kernel
theorem dX6_ridersThere_1 : decode cX6_ridersThere 1 = .ok (.invokevirtual 77, 3) := by decide +kernel
theorem dX6_ridersThere_4 : decode cX6_ridersThere 4 = .ok (.invokestatic 81, 3) := by decide +kernel
theorem dX6_ridersThere_7 : decode cX6_ridersThere 7 = .ok (.ireturn, 1) := by decide +kernel
theorem dX6_riderBits_0 : decode cX6_riderBits 0 = .ok (.iconst 0, 1) := by decide +kernel
theorem dX6_riderBits_1 : decode cX6_riderBits 1 = .ok (.istore_n 1, 1) := by decide +kernel
theorem dX6_riderBits_2 : decode cX6_riderBits 2 = .ok (.iconst 0, 1) := by decide +kernel
theorem dX6_riderBits_3 : decode cX6_riderBits 3 = .ok (.istore_n 2, 1) := by decide +kernel
theorem dX6_riderBits_4 : decode cX6_riderBits 4 = .ok (.iload_n 2, 1) := by decide +kernel
theorem dX6_riderBits_5 : decode cX6_riderBits 5 = .ok (.iconst 4, 1) := by decide +kernel
theorem dX6_riderBits_6 : decode cX6_riderBits 6 = .ok (.if_icmp .ge 27, 3) := by decide +kernel
theorem dX6_riderBits_9 : decode cX6_riderBits 9 = .ok (.aload_n 0, 1) := by decide +kernel
theorem dX6_riderBits_10 : decode cX6_riderBits 10 = .ok (.getfield 11, 3) := by decide +kernel
theorem dX6_riderBits_13 : decode cX6_riderBits 13 = .ok (.iload_n 2, 1) := by decide +kernel
theorem dX6_riderBits_14 : decode cX6_riderBits 14 = .ok (.aaload, 1) := by decide +kernel
theorem dX6_riderBits_15 : decode cX6_riderBits 15 = .ok (.getfield 73, 3) := by decide +kernel
theorem dX6_riderBits_18 : decode cX6_riderBits 18 = .ok (.ifCond .eq 9, 3) := by decide +kernel
theorem dX6_riderBits_21 : decode cX6_riderBits 21 = .ok (.iload_n 1, 1) := by decide +kernel
theorem dX6_riderBits_22 : decode cX6_riderBits 22 = .ok (.iconst 1, 1) := by decide +kernel
theorem dX6_riderBits_23 : decode cX6_riderBits 23 = .ok (.iload_n 2, 1) := by decide +kernel
theorem dX6_riderBits_24 : decode cX6_riderBits 24 = .ok (.ishl, 1) := by decide +kernel
theorem dX6_riderBits_25 : decode cX6_riderBits 25 = .ok (.ior, 1) := by decide +kernel
theorem dX6_riderBits_26 : decode cX6_riderBits 26 = .ok (.istore_n 1, 1) := by decide +kernel
theorem dX6_riderBits_27 : decode cX6_riderBits 27 = .ok (.iinc 2 1, 3) := by decide +kernel
theorem dX6_riderBits_30 : decode cX6_riderBits 30 = .ok (.goto (-26), 3) := by decide +kernel
theorem dX6_riderBits_33 : decode cX6_riderBits 33 = .ok (.iload_n 1, 1) := by decide +kernel
theorem dX6_riderBits_34 : decode cX6_riderBits 34 = .ok (.ireturn, 1) := by decide +kernel
theorem dX6_takeWay_0 : decode cX6_takeWay 0 = .ok (.aload_n 0, 1) := by decide +kernel
theorem dX6_takeWay_1 : decode cX6_takeWay 1 = .ok (.iconst 1, 1) := by decide +kernel
theorem dX6_takeWay_2 : decode cX6_takeWay 2 = .ok (.bipush 24, 2) := by decide +kernel
theorem dX6_takeWay_4 : decode cX6_takeWay 4 = .ok (.aload_n 1, 1) := by decide +kernel
theorem dX6_takeWay_5 : decode cX6_takeWay 5 = .ok (.getfield 87, 3) := by decide +kernel
theorem dX6_takeWay_8 : decode cX6_takeWay 8 = .ok (.invokestatic 92, 3) := by decide +kernel
theorem dX6_takeWay_11 : decode cX6_takeWay 11 = .ok (.invokestatic 98, 3) := by decide +kernel
theorem dX6_takeWay_14 : decode cX6_takeWay 14 = .ok (.putfield 52, 3) := by decide +kernel
theorem dX6_takeWay_17 : decode cX6_takeWay 17 = .ok (.iconst 0, 1) := by decide +kernel
theorem dX6_takeWay_18 : decode cX6_takeWay 18 = .ok (.istore_n 2, 1) := by decide +kernel
theorem dX6_takeWay_19 : decode cX6_takeWay 19 = .ok (.iload_n 2, 1) := by decide +kernel
theorem dX6_takeWay_20 : decode cX6_takeWay 20 = .ok (.aload_n 0, 1) := by decide +kernel
theorem dX6_takeWay_21 : decode cX6_takeWay 21 = .ok (.getfield 52, 3) := by decide +kernel
theorem dX6_takeWay_24 : decode cX6_takeWay 24 = .ok (.if_icmp .ge 35, 3) := by decide +kernel
theorem dX6_takeWay_27 : decode cX6_takeWay 27 = .ok (.aload_n 0, 1) := by decide +kernel
theorem dX6_takeWay_28 : decode cX6_takeWay 28 = .ok (.getfield 17, 3) := by decide +kernel
theorem dX6_takeWay_31 : decode cX6_takeWay 31 = .ok (.iload_n 2, 1) := by decide +kernel
theorem dX6_takeWay_32 : decode cX6_takeWay 32 = .ok (.aload_n 1, 1) := by decide +kernel
theorem dX6_takeWay_33 : decode cX6_takeWay 33 = .ok (.iload_n 2, 1) := by decide +kernel
theorem dX6_takeWay_34 : decode cX6_takeWay 34 = .ok (.invokevirtual 101, 3) := by decide +kernel
theorem dX6_takeWay_37 : decode cX6_takeWay 37 = .ok (.iastore, 1) := by decide +kernel
theorem dX6_takeWay_38 : decode cX6_takeWay 38 = .ok (.aload_n 0, 1) := by decide +kernel
theorem dX6_takeWay_39 : decode cX6_takeWay 39 = .ok (.getfield 21, 3) := by decide +kernel
theorem dX6_takeWay_42 : decode cX6_takeWay 42 = .ok (.iload_n 2, 1) := by decide +kernel
theorem dX6_takeWay_43 : decode cX6_takeWay 43 = .ok (.aload_n 0, 1) := by decide +kernel
theorem dX6_takeWay_44 : decode cX6_takeWay 44 = .ok (.getfield 17, 3) := by decide +kernel
theorem dX6_takeWay_47 : decode cX6_takeWay 47 = .ok (.iload_n 2, 1) := by decide +kernel
theorem dX6_takeWay_48 : decode cX6_takeWay 48 = .ok (.iaload, 1) := by decide +kernel
theorem dX6_takeWay_49 : decode cX6_takeWay 49 = .ok (.invokestatic 104, 3) := by decide +kernel
theorem dX6_takeWay_52 : decode cX6_takeWay 52 = .ok (.iastore, 1) := by decide +kernel
theorem dX6_takeWay_53 : decode cX6_takeWay 53 = .ok (.iinc 2 1, 3) := by decide +kernel
theorem dX6_takeWay_56 : decode cX6_takeWay 56 = .ok (.goto (-37), 3) := by decide +kernel
theorem dX6_takeWay_59 : decode cX6_takeWay 59 = .ok (.return_, 1) := by decide +kernel
theorem dX6_corners_0 : decode cX6_corners 0 = .ok (.aload_n 0, 1) := by decide +kernel
theorem dX6_corners_1 : decode cX6_corners 1 = .ok (.iconst 5, 1) := by decide +kernel
theorem dX6_corners_2 : decode cX6_corners 2 = .ok (.invokevirtual 109, 3) := by decide +kernel
theorem dX6_corners_5 : decode cX6_corners 5 = .ok (.ireturn, 1) := by decide +kernel
theorem dX6_bumps_0 : decode cX6_bumps 0 = .ok (.aload_n 0, 1) := by decide +kernel
theorem dX6_bumps_1 : decode cX6_bumps 1 = .ok (.bipush 6, 2) := by decide +kernel
theorem dX6_bumps_3 : decode cX6_bumps 3 = .ok (.invokevirtual 109, 3) := by decide +kernel
theorem dX6_bumps_6 : decode cX6_bumps 6 = .ok (.ireturn, 1) := by decide +kernel
theorem dX6_stretchesOf_0 : decode cX6_stretchesOf 0 = .ok (.iconst 0, 1) := by decide +kernel
theorem dX6_stretchesOf_1 : decode cX6_stretchesOf 1 = .ok (.istore_n 2, 1) := by decide +kernel
theorem dX6_stretchesOf_2 : decode cX6_stretchesOf 2 = .ok (.iconst 0, 1) := by decide +kernel
theorem dX6_stretchesOf_3 : decode cX6_stretchesOf 3 = .ok (.istore_n 3, 1) := by decide +kernel
theorem dX6_stretchesOf_4 : decode cX6_stretchesOf 4 = .ok (.iload_n 3, 1) := by decide +kernel
theorem dX6_stretchesOf_5 : decode cX6_stretchesOf 5 = .ok (.aload_n 0, 1) := by decide +kernel
theorem dX6_stretchesOf_6 : decode cX6_stretchesOf 6 = .ok (.getfield 52, 3) := by decide +kernel
theorem dX6_stretchesOf_9 : decode cX6_stretchesOf 9 = .ok (.if_icmp .ge 22, 3) := by decide +kernel
theorem dX6_stretchesOf_12 : decode cX6_stretchesOf 12 = .ok (.aload_n 0, 1) := by decide +kernel
theorem dX6_stretchesOf_13 : decode cX6_stretchesOf 13 = .ok (.getfield 21, 3) := by decide +kernel
theorem dX6_stretchesOf_16 : decode cX6_stretchesOf 16 = .ok (.iload_n 3, 1) := by decide +kernel
theorem dX6_stretchesOf_17 : decode cX6_stretchesOf 17 = .ok (.iaload, 1) := by decide +kernel
theorem dX6_stretchesOf_18 : decode cX6_stretchesOf 18 = .ok (.iload_n 1, 1) := by decide +kernel
theorem dX6_stretchesOf_19 : decode cX6_stretchesOf 19 = .ok (.if_icmp .ne 6, 3) := by decide +kernel
theorem dX6_stretchesOf_22 : decode cX6_stretchesOf 22 = .ok (.iinc 2 1, 3) := by decide +kernel
theorem dX6_stretchesOf_25 : decode cX6_stretchesOf 25 = .ok (.iinc 3 1, 3) := by decide +kernel
theorem dX6_stretchesOf_28 : decode cX6_stretchesOf 28 = .ok (.goto (-24), 3) := by decide +kernel
theorem dX6_stretchesOf_31 : decode cX6_stretchesOf 31 = .ok (.iload_n 2, 1) := by decide +kernel
theorem dX6_stretchesOf_32 : decode cX6_stretchesOf 32 = .ok (.ireturn, 1) := by decide +kernel
theorem dX6_secondsTogether_0 : decode cX6_secondsTogether 0 = .ok (.iconst 0, 1) := by decide +kernel
theorem dX6_secondsTogether_1 : decode cX6_secondsTogether 1 = .ok (.istore_n 2, 1) := by decide +kernel
theorem dX6_secondsTogether_2 : decode cX6_secondsTogether 2 = .ok (.iconst 0, 1) := by decide +kernel
theorem dX6_secondsTogether_3 : decode cX6_secondsTogether 3 = .ok (.istore_n 3, 1) := by decide +kernel
theorem dX6_secondsTogether_4 : decode cX6_secondsTogether 4 = .ok (.iload_n 3, 1) := by decide +kernel
theorem dX6_secondsTogether_5 : decode cX6_secondsTogether 5 = .ok (.aload_n 0, 1) := by decide +kernel
theorem dX6_secondsTogether_6 : decode cX6_secondsTogether 6 = .ok (.getfield 52, 3) := by decide +kernel
theorem dX6_secondsTogether_9 : decode cX6_secondsTogether 9 = .ok (.if_icmp .ge 25, 3) := by decide +kernel
theorem dX6_secondsTogether_12 : decode cX6_secondsTogether 12 = .ok (.iload_n 2, 1) := by decide +kernel
theorem dX6_secondsTogether_13 : decode cX6_secondsTogether 13 = .ok (.aload_n 0, 1) := by decide +kernel
theorem dX6_secondsTogether_14 : decode cX6_secondsTogether 14 = .ok (.getfield 21, 3) := by decide +kernel
theorem dX6_secondsTogether_17 : decode cX6_secondsTogether 17 = .ok (.iload_n 3, 1) := by decide +kernel
theorem dX6_secondsTogether_18 : decode cX6_secondsTogether 18 = .ok (.iaload, 1) := by decide +kernel
theorem dX6_secondsTogether_19 : decode cX6_secondsTogether 19 = .ok (.invokestatic 112, 3) := by decide +kernel
theorem dX6_secondsTogether_22 : decode cX6_secondsTogether 22 = .ok (.iload_n 1, 1) := by decide +kernel
theorem dX6_secondsTogether_23 : decode cX6_secondsTogether 23 = .ok (.invokestatic 115, 3) := by decide +kernel
theorem dX6_secondsTogether_26 : decode cX6_secondsTogether 26 = .ok (.iadd, 1) := by decide +kernel
theorem dX6_secondsTogether_27 : decode cX6_secondsTogether 27 = .ok (.istore_n 2, 1) := by decide +kernel
theorem dX6_secondsTogether_28 : decode cX6_secondsTogether 28 = .ok (.iinc 3 1, 3) := by decide +kernel
theorem dX6_secondsTogether_31 : decode cX6_secondsTogether 31 = .ok (.goto (-27), 3) := by decide +kernel
theorem dX6_secondsTogether_34 : decode cX6_secondsTogether 34 = .ok (.iload_n 2, 1) := by decide +kernel
theorem dX6_secondsTogether_35 : decode cX6_secondsTogether 35 = .ok (.ireturn, 1) := by decide +kernel
theorem dX6_secondsAlone_0 : decode cX6_secondsAlone 0 = .ok (.iconst 0, 1) := by decide +kernel
theorem dX6_secondsAlone_1 : decode cX6_secondsAlone 1 = .ok (.istore_n 2, 1) := by decide +kernel
theorem dX6_secondsAlone_2 : decode cX6_secondsAlone 2 = .ok (.iconst 0, 1) := by decide +kernel
theorem dX6_secondsAlone_3 : decode cX6_secondsAlone 3 = .ok (.istore_n 3, 1) := by decide +kernel
theorem dX6_secondsAlone_4 : decode cX6_secondsAlone 4 = .ok (.iload_n 3, 1) := by decide +kernel
theorem dX6_secondsAlone_5 : decode cX6_secondsAlone 5 = .ok (.aload_n 0, 1) := by decide +kernel
theorem dX6_secondsAlone_6 : decode cX6_secondsAlone 6 = .ok (.getfield 52, 3) := by decide +kernel
theorem dX6_secondsAlone_9 : decode cX6_secondsAlone 9 = .ok (.if_icmp .ge 27, 3) := by decide +kernel
theorem dX6_secondsAlone_12 : decode cX6_secondsAlone 12 = .ok (.iload_n 2, 1) := by decide +kernel
theorem dX6_secondsAlone_13 : decode cX6_secondsAlone 13 = .ok (.aload_n 0, 1) := by decide +kernel
theorem dX6_secondsAlone_14 : decode cX6_secondsAlone 14 = .ok (.getfield 21, 3) := by decide +kernel
theorem dX6_secondsAlone_17 : decode cX6_secondsAlone 17 = .ok (.iload_n 3, 1) := by decide +kernel
theorem dX6_secondsAlone_18 : decode cX6_secondsAlone 18 = .ok (.iaload, 1) := by decide +kernel
theorem dX6_secondsAlone_19 : decode cX6_secondsAlone 19 = .ok (.invokestatic 112, 3) := by decide +kernel
theorem dX6_secondsAlone_22 : decode cX6_secondsAlone 22 = .ok (.iconst 2, 1) := by decide +kernel
theorem dX6_secondsAlone_23 : decode cX6_secondsAlone 23 = .ok (.idiv, 1) := by decide +kernel
theorem dX6_secondsAlone_24 : decode cX6_secondsAlone 24 = .ok (.iload_n 1, 1) := by decide +kernel
theorem dX6_secondsAlone_25 : decode cX6_secondsAlone 25 = .ok (.invokestatic 115, 3) := by decide +kernel
theorem dX6_secondsAlone_28 : decode cX6_secondsAlone 28 = .ok (.iadd, 1) := by decide +kernel
theorem dX6_secondsAlone_29 : decode cX6_secondsAlone 29 = .ok (.istore_n 2, 1) := by decide +kernel
theorem dX6_secondsAlone_30 : decode cX6_secondsAlone 30 = .ok (.iinc 3 1, 3) := by decide +kernel
theorem dX6_secondsAlone_33 : decode cX6_secondsAlone 33 = .ok (.goto (-29), 3) := by decide +kernel
theorem dX6_secondsAlone_36 : decode cX6_secondsAlone 36 = .ok (.iload_n 2, 1) := by decide +kernel
theorem dX6_secondsAlone_37 : decode cX6_secondsAlone 37 = .ok (.ireturn, 1) := by decide +kernel
theorem dX6_addTime_0 : decode cX6_addTime 0 = .ok (.aload_n 0, 1) := by decide +kernel
theorem dX6_addTime_1 : decode cX6_addTime 1 = .ok (.getfield 55, 3) := by decide +kernel
theorem dX6_addTime_4 : decode cX6_addTime 4 = .ok (.ifCond .lt 12, 3) := by decide +kernel
theorem dX6_addTime_7 : decode cX6_addTime 7 = .ok (.aload_n 0, 1) := by decide +kernel
theorem dX6_addTime_8 : decode cX6_addTime 8 = .ok (.getfield 55, 3) := by decide +kernel
theorem dX6_addTime_11 : decode cX6_addTime 11 = .ok (.bipush 6, 2) := by decide +kernel
theorem dX6_addTime_13 : decode cX6_addTime 13 = .ok (.if_icmp .lt 4, 3) := by decide +kernel
theorem dX6_addTime_16 : decode cX6_addTime 16 = .ok (.return_, 1) := by decide +kernel
theorem dX6_addTime_17 : decode cX6_addTime 17 = .ok (.aload_n 0, 1) := by decide +kernel
theorem dX6_addTime_18 : decode cX6_addTime 18 = .ok (.getfield 24, 3) := by decide +kernel
theorem dX6_addTime_21 : decode cX6_addTime 21 = .ok (.aload_n 0, 1) := by decide +kernel
theorem dX6_addTime_22 : decode cX6_addTime 22 = .ok (.getfield 55, 3) := by decide +kernel
theorem dX6_addTime_25 : decode cX6_addTime 25 = .ok (.iload_n 1, 1) := by decide +kernel
theorem dX6_addTime_26 : decode cX6_addTime 26 = .ok (.iastore, 1) := by decide +kernel
theorem dX6_addTime_27 : decode cX6_addTime 27 = .ok (.aload_n 0, 1) := by decide +kernel
theorem dX6_addTime_28 : decode cX6_addTime 28 = .ok (.getfield 27, 3) := by decide +kernel
theorem dX6_addTime_31 : decode cX6_addTime 31 = .ok (.aload_n 0, 1) := by decide +kernel
theorem dX6_addTime_32 : decode cX6_addTime 32 = .ok (.getfield 55, 3) := by decide +kernel
theorem dX6_addTime_35 : decode cX6_addTime 35 = .ok (.iload_n 2, 1) := by decide +kernel
theorem dX6_addTime_36 : decode cX6_addTime 36 = .ok (.iastore, 1) := by decide +kernel
theorem dX6_addTime_37 : decode cX6_addTime 37 = .ok (.aload_n 0, 1) := by decide +kernel
theorem dX6_addTime_38 : decode cX6_addTime 38 = .ok (.getfield 30, 3) := by decide +kernel
theorem dX6_addTime_41 : decode cX6_addTime 41 = .ok (.aload_n 0, 1) := by decide +kernel
theorem dX6_addTime_42 : decode cX6_addTime 42 = .ok (.getfield 55, 3) := by decide +kernel
theorem dX6_addTime_45 : decode cX6_addTime 45 = .ok (.iload_n 3, 1) := by decide +kernel
theorem dX6_addTime_46 : decode cX6_addTime 46 = .ok (.iastore, 1) := by decide +kernel
theorem dX6_addTime_47 : decode cX6_addTime 47 = .ok (.aload_n 0, 1) := by decide +kernel
theorem dX6_addTime_48 : decode cX6_addTime 48 = .ok (.getfield 33, 3) := by decide +kernel
theorem dX6_addTime_51 : decode cX6_addTime 51 = .ok (.aload_n 0, 1) := by decide +kernel
theorem dX6_addTime_52 : decode cX6_addTime 52 = .ok (.getfield 55, 3) := by decide +kernel
theorem dX6_addTime_55 : decode cX6_addTime 55 = .ok (.iload 4, 2) := by decide +kernel
theorem dX6_addTime_57 : decode cX6_addTime 57 = .ok (.iastore, 1) := by decide +kernel
theorem dX6_addTime_58 : decode cX6_addTime 58 = .ok (.aload_n 0, 1) := by decide +kernel
theorem dX6_addTime_59 : decode cX6_addTime 59 = .ok (.dup, 1) := by decide +kernel
theorem dX6_addTime_60 : decode cX6_addTime 60 = .ok (.getfield 55, 3) := by decide +kernel
theorem dX6_addTime_63 : decode cX6_addTime 63 = .ok (.iconst 1, 1) := by decide +kernel
theorem dX6_addTime_64 : decode cX6_addTime 64 = .ok (.iadd, 1) := by decide +kernel
theorem dX6_addTime_65 : decode cX6_addTime 65 = .ok (.putfield 55, 3) := by decide +kernel
theorem dX6_addTime_68 : decode cX6_addTime 68 = .ok (.return_, 1) := by decide +kernel
theorem dX6_timesHold_0 : decode cX6_timesHold 0 = .ok (.iconst 0, 1) := by decide +kernel
theorem dX6_timesHold_1 : decode cX6_timesHold 1 = .ok (.istore_n 3, 1) := by decide +kernel
theorem dX6_timesHold_2 : decode cX6_timesHold 2 = .ok (.iload_n 3, 1) := by decide +kernel
theorem dX6_timesHold_3 : decode cX6_timesHold 3 = .ok (.aload_n 0, 1) := by decide +kernel
theorem dX6_timesHold_4 : decode cX6_timesHold 4 = .ok (.getfield 55, 3) := by decide +kernel
theorem dX6_timesHold_7 : decode cX6_timesHold 7 = .ok (.if_icmp .ge 59, 3) := by decide +kernel
theorem dX6_timesHold_10 : decode cX6_timesHold 10 = .ok (.aload_n 0, 1) := by decide +kernel
theorem dX6_timesHold_11 : decode cX6_timesHold 11 = .ok (.getfield 24, 3) := by decide +kernel
theorem dX6_timesHold_14 : decode cX6_timesHold 14 = .ok (.iload_n 3, 1) := by decide +kernel
theorem dX6_timesHold_15 : decode cX6_timesHold 15 = .ok (.iaload, 1) := by decide +kernel
theorem dX6_timesHold_16 : decode cX6_timesHold 16 = .ok (.iload_n 1, 1) := by decide +kernel
theorem dX6_timesHold_17 : decode cX6_timesHold 17 = .ok (.if_icmp .eq 6, 3) := by decide +kernel
theorem dX6_timesHold_20 : decode cX6_timesHold 20 = .ok (.goto 40, 3) := by decide +kernel
theorem dX6_timesHold_23 : decode cX6_timesHold 23 = .ok (.aload_n 0, 1) := by decide +kernel
theorem dX6_timesHold_24 : decode cX6_timesHold 24 = .ok (.getfield 27, 3) := by decide +kernel
theorem dX6_timesHold_27 : decode cX6_timesHold 27 = .ok (.iload_n 3, 1) := by decide +kernel
theorem dX6_timesHold_28 : decode cX6_timesHold 28 = .ok (.iaload, 1) := by decide +kernel
theorem dX6_timesHold_29 : decode cX6_timesHold 29 = .ok (.invokestatic 112, 3) := by decide +kernel
theorem dX6_timesHold_32 : decode cX6_timesHold 32 = .ok (.iconst 2, 1) := by decide +kernel
theorem dX6_timesHold_33 : decode cX6_timesHold 33 = .ok (.idiv, 1) := by decide +kernel
theorem dX6_timesHold_34 : decode cX6_timesHold 34 = .ok (.istore 4, 2) := by decide +kernel
theorem dX6_timesHold_36 : decode cX6_timesHold 36 = .ok (.iload 4, 2) := by decide +kernel
theorem dX6_timesHold_38 : decode cX6_timesHold 38 = .ok (.aload_n 0, 1) := by decide +kernel
theorem dX6_timesHold_39 : decode cX6_timesHold 39 = .ok (.getfield 30, 3) := by decide +kernel
theorem dX6_timesHold_42 : decode cX6_timesHold 42 = .ok (.iload_n 3, 1) := by decide +kernel
theorem dX6_timesHold_43 : decode cX6_timesHold 43 = .ok (.iaload, 1) := by decide +kernel
theorem dX6_timesHold_44 : decode cX6_timesHold 44 = .ok (.iload_n 2, 1) := by decide +kernel
theorem dX6_timesHold_45 : decode cX6_timesHold 45 = .ok (.imul, 1) := by decide +kernel
theorem dX6_timesHold_46 : decode cX6_timesHold 46 = .ok (.invokestatic 115, 3) := by decide +kernel
theorem dX6_timesHold_49 : decode cX6_timesHold 49 = .ok (.aload_n 0, 1) := by decide +kernel
theorem dX6_timesHold_50 : decode cX6_timesHold 50 = .ok (.getfield 33, 3) := by decide +kernel
theorem dX6_timesHold_53 : decode cX6_timesHold 53 = .ok (.iload_n 3, 1) := by decide +kernel
theorem dX6_timesHold_54 : decode cX6_timesHold 54 = .ok (.iaload, 1) := by decide +kernel
theorem dX6_timesHold_55 : decode cX6_timesHold 55 = .ok (.if_icmp .eq 5, 3) := by decide +kernel
theorem dX6_timesHold_58 : decode cX6_timesHold 58 = .ok (.iconst 0, 1) := by decide +kernel
theorem dX6_timesHold_59 : decode cX6_timesHold 59 = .ok (.ireturn, 1) := by decide +kernel
theorem dX6_timesHold_60 : decode cX6_timesHold 60 = .ok (.iinc 3 1, 3) := by decide +kernel
theorem dX6_timesHold_63 : decode cX6_timesHold 63 = .ok (.goto (-61), 3) := by decide +kernel
theorem dX6_timesHold_66 : decode cX6_timesHold 66 = .ok (.iconst 1, 1) := by decide +kernel
theorem dX6_timesHold_67 : decode cX6_timesHold 67 = .ok (.ireturn, 1) := by decide +kernel
theorem dX7_init_0 : decode cX7_init 0 = .ok (.aload_n 0, 1) := by decide +kernel
theorem dX7_init_1 : decode cX7_init 1 = .ok (.invokespecial 3, 3) := by decide +kernel
theorem dX7_init_4 : decode cX7_init 4 = .ok (.aload_n 0, 1) := by decide +kernel
theorem dX7_init_5 : decode cX7_init 5 = .ok (.new 9, 3) := by decide +kernel
theorem dX7_init_8 : decode cX7_init 8 = .ok (.dup, 1) := by decide +kernel
theorem dX7_init_9 : decode cX7_init 9 = .ok (.invokespecial 11, 3) := by decide +kernel
theorem dX7_init_12 : decode cX7_init 12 = .ok (.putfield 12, 3) := by decide +kernel
theorem dX7_init_15 : decode cX7_init 15 = .ok (.aload_n 0, 1) := by decide +kernel
theorem dX7_init_16 : decode cX7_init 16 = .ok (.iconst 2, 1) := by decide +kernel
theorem dX7_init_17 : decode cX7_init 17 = .ok (.anewarray 9, 3) := by decide +kernel
theorem dX7_init_20 : decode cX7_init 20 = .ok (.putfield 16, 3) := by decide +kernel
theorem dX7_init_23 : decode cX7_init 23 = .ok (.iconst 0, 1) := by decide +kernel
theorem dX7_init_24 : decode cX7_init 24 = .ok (.istore_n 1, 1) := by decide +kernel
theorem dX7_init_25 : decode cX7_init 25 = .ok (.iload_n 1, 1) := by decide +kernel
theorem dX7_init_26 : decode cX7_init 26 = .ok (.iconst 2, 1) := by decide +kernel
theorem dX7_init_27 : decode cX7_init 27 = .ok (.if_icmp .ge 22, 3) := by decide +kernel
theorem dX7_init_30 : decode cX7_init 30 = .ok (.aload_n 0, 1) := by decide +kernel
theorem dX7_init_31 : decode cX7_init 31 = .ok (.getfield 16, 3) := by decide +kernel
theorem dX7_init_34 : decode cX7_init 34 = .ok (.iload_n 1, 1) := by decide +kernel
theorem dX7_init_35 : decode cX7_init 35 = .ok (.new 9, 3) := by decide +kernel
theorem dX7_init_38 : decode cX7_init 38 = .ok (.dup, 1) := by decide +kernel
theorem dX7_init_39 : decode cX7_init 39 = .ok (.invokespecial 11, 3) := by decide +kernel
theorem dX7_init_42 : decode cX7_init 42 = .ok (.aastore, 1) := by decide +kernel
theorem dX7_init_43 : decode cX7_init 43 = .ok (.iinc 1 1, 3) := by decide +kernel
theorem dX7_init_46 : decode cX7_init 46 = .ok (.goto (-21), 3) := by decide +kernel
theorem dX7_init_49 : decode cX7_init 49 = .ok (.aload_n 0, 1) := by decide +kernel
theorem dX7_init_50 : decode cX7_init 50 = .ok (.iconst 2, 1) := by decide +kernel
theorem dX7_init_51 : decode cX7_init 51 = .ok (.newarray .boolean, 2) := by decide +kernel
theorem dX7_init_53 : decode cX7_init 53 = .ok (.putfield 20, 3) := by decide +kernel
theorem dX7_init_56 : decode cX7_init 56 = .ok (.aload_n 0, 1) := by decide +kernel
theorem dX7_init_57 : decode cX7_init 57 = .ok (.new 24, 3) := by decide +kernel
theorem dX7_init_60 : decode cX7_init 60 = .ok (.dup, 1) := by decide +kernel
theorem dX7_init_61 : decode cX7_init 61 = .ok (.invokespecial 26, 3) := by decide +kernel
theorem dX7_init_64 : decode cX7_init 64 = .ok (.putfield 27, 3) := by decide +kernel
theorem dX7_init_67 : decode cX7_init 67 = .ok (.aload_n 0, 1) := by decide +kernel
theorem dX7_init_68 : decode cX7_init 68 = .ok (.new 31, 3) := by decide +kernel
theorem dX7_init_71 : decode cX7_init 71 = .ok (.dup, 1) := by decide +kernel
theorem dX7_init_72 : decode cX7_init 72 = .ok (.invokespecial 33, 3) := by decide +kernel
theorem dX7_init_75 : decode cX7_init 75 = .ok (.putfield 34, 3) := by decide +kernel
theorem dX7_init_78 : decode cX7_init 78 = .ok (.aload_n 0, 1) := by decide +kernel
theorem dX7_init_79 : decode cX7_init 79 = .ok (.new 38, 3) := by decide +kernel
theorem dX7_init_82 : decode cX7_init 82 = .ok (.dup, 1) := by decide +kernel
theorem dX7_init_83 : decode cX7_init 83 = .ok (.invokespecial 40, 3) := by decide +kernel
theorem dX7_init_86 : decode cX7_init 86 = .ok (.putfield 41, 3) := by decide +kernel
theorem dX7_init_89 : decode cX7_init 89 = .ok (.aload_n 0, 1) := by decide +kernel
theorem dX7_init_90 : decode cX7_init 90 = .ok (.new 45, 3) := by decide +kernel
theorem dX7_init_93 : decode cX7_init 93 = .ok (.dup, 1) := by decide +kernel
theorem dX7_init_94 : decode cX7_init 94 = .ok (.invokespecial 47, 3) := by decide +kernel
theorem dX7_init_97 : decode cX7_init 97 = .ok (.putfield 48, 3) := by decide +kernel
theorem dX7_init_100 : decode cX7_init 100 = .ok (.return_, 1) := by decide +kernel
theorem dX7_rider_0 : decode cX7_rider 0 = .ok (.iload_n 1, 1) := by decide +kernel
theorem dX7_rider_1 : decode cX7_rider 1 = .ok (.iconst 0, 1) := by decide +kernel
theorem dX7_rider_2 : decode cX7_rider 2 = .ok (.iconst 3, 1) := by decide +kernel
theorem dX7_rider_3 : decode cX7_rider 3 = .ok (.invokestatic 52, 3) := by decide +kernel
theorem dX7_rider_6 : decode cX7_rider 6 = .ok (.ifCond .ne 5, 3) := by decide +kernel
theorem dX7_rider_9 : decode cX7_rider 9 = .ok (.iconst (-1), 1) := by decide +kernel
theorem dX7_rider_10 : decode cX7_rider 10 = .ok (.ireturn, 1) := by decide +kernel
theorem dX7_rider_11 : decode cX7_rider 11 = .ok (.iload_n 2, 1) := by decide +kernel
theorem dX7_rider_12 : decode cX7_rider 12 = .ok (.iconst 1, 1) := by decide +kernel
theorem dX7_rider_13 : decode cX7_rider 13 = .ok (.bipush 20, 2) := by decide +kernel
theorem dX7_rider_15 : decode cX7_rider 15 = .ok (.invokestatic 52, 3) := by decide +kernel
theorem dX7_rider_18 : decode cX7_rider 18 = .ok (.ifCond .eq 13, 3) := by decide +kernel
theorem dX7_rider_21 : decode cX7_rider 21 = .ok (.iload_n 3, 1) := by decide +kernel
theorem dX7_rider_22 : decode cX7_rider 22 = .ok (.iconst 4, 1) := by decide +kernel
theorem dX7_rider_23 : decode cX7_rider 23 = .ok (.bipush 10, 2) := by decide +kernel
theorem dX7_rider_25 : decode cX7_rider 25 = .ok (.invokestatic 52, 3) := by decide +kernel
theorem dX7_rider_28 : decode cX7_rider 28 = .ok (.ifCond .ne 6, 3) := by decide +kernel
theorem dX7_rider_31 : decode cX7_rider 31 = .ok (.bipush (-2), 2) := by decide +kernel
theorem dX7_rider_33 : decode cX7_rider 33 = .ok (.ireturn, 1) := by decide +kernel
theorem dX7_rider_34 : decode cX7_rider 34 = .ok (.iload 4, 2) := by decide +kernel
theorem dX7_rider_36 : decode cX7_rider 36 = .ok (.iconst 1, 1) := by decide +kernel
theorem dX7_rider_37 : decode cX7_rider 37 = .ok (.bipush 9, 2) := by decide +kernel
theorem dX7_rider_39 : decode cX7_rider 39 = .ok (.invokestatic 52, 3) := by decide +kernel
theorem dX7_rider_42 : decode cX7_rider 42 = .ok (.ifCond .eq 14, 3) := by decide +kernel
theorem dX7_rider_45 : decode cX7_rider 45 = .ok (.iload 5, 2) := by decide +kernel
theorem dX7_rider_47 : decode cX7_rider 47 = .ok (.iconst 0, 1) := by decide +kernel
theorem dX7_rider_48 : decode cX7_rider 48 = .ok (.bipush 50, 2) := by decide +kernel
theorem dX7_rider_50 : decode cX7_rider 50 = .ok (.invokestatic 52, 3) := by decide +kernel
theorem dX7_rider_53 : decode cX7_rider 53 = .ok (.ifCond .ne 6, 3) := by decide +kernel
theorem dX7_rider_56 : decode cX7_rider 56 = .ok (.bipush (-2), 2) := by decide +kernel
theorem dX7_rider_58 : decode cX7_rider 58 = .ok (.ireturn, 1) := by decide +kernel
theorem dX7_rider_59 : decode cX7_rider 59 = .ok (.aload_n 0, 1) := by decide +kernel
theorem dX7_rider_60 : decode cX7_rider 60 = .ok (.getfield 12, 3) := by decide +kernel
theorem dX7_rider_63 : decode cX7_rider 63 = .ok (.getfield 56, 3) := by decide +kernel
theorem dX7_rider_66 : decode cX7_rider 66 = .ok (.iload_n 1, 1) := by decide +kernel
theorem dX7_rider_67 : decode cX7_rider 67 = .ok (.aaload, 1) := by decide +kernel
theorem dX7_rider_68 : decode cX7_rider 68 = .ok (.iload_n 2, 1) := by decide +kernel
theorem dX7_rider_69 : decode cX7_rider 69 = .ok (.iload_n 3, 1) := by decide +kernel
theorem dX7_rider_70 : decode cX7_rider 70 = .ok (.iload 4, 2) := by decide +kernel
theorem dX7_rider_72 : decode cX7_rider 72 = .ok (.iload 5, 2) := by decide +kernel
theorem dX7_rider_74 : decode cX7_rider 74 = .ok (.invokevirtual 60, 3) := by decide +kernel
theorem dX7_rider_77 : decode cX7_rider 77 = .ok (.aload_n 0, 1) := by decide +kernel
theorem dX7_rider_78 : decode cX7_rider 78 = .ok (.getfield 12, 3) := by decide +kernel
theorem dX7_rider_81 : decode cX7_rider 81 = .ok (.invokevirtual 66, 3) := by decide +kernel
theorem dX7_rider_84 : decode cX7_rider 84 = .ok (.ireturn, 1) := by decide +kernel
theorem dX7_leave_0 : decode cX7_leave 0 = .ok (.aload_n 0, 1) := by decide +kernel
theorem dX7_leave_1 : decode cX7_leave 1 = .ok (.getfield 12, 3) := by decide +kernel
theorem dX7_leave_4 : decode cX7_leave 4 = .ok (.iload_n 1, 1) := by decide +kernel
theorem dX7_leave_5 : decode cX7_leave 5 = .ok (.invokevirtual 70, 3) := by decide +kernel
theorem dX7_leave_8 : decode cX7_leave 8 = .ok (.ifCond .ne 5, 3) := by decide +kernel
theorem dX7_leave_11 : decode cX7_leave 11 = .ok (.iconst (-1), 1) := by decide +kernel
theorem dX7_leave_12 : decode cX7_leave 12 = .ok (.ireturn, 1) := by decide +kernel
theorem dX7_leave_13 : decode cX7_leave 13 = .ok (.aload_n 0, 1) := by decide +kernel
theorem dX7_leave_14 : decode cX7_leave 14 = .ok (.getfield 12, 3) := by decide +kernel
theorem dX7_leave_17 : decode cX7_leave 17 = .ok (.getfield 56, 3) := by decide +kernel
theorem dX7_leave_20 : decode cX7_leave 20 = .ok (.iload_n 1, 1) := by decide +kernel
theorem dX7_leave_21 : decode cX7_leave 21 = .ok (.aaload, 1) := by decide +kernel
theorem dX7_leave_22 : decode cX7_leave 22 = .ok (.iconst 0, 1) := by decide +kernel
theorem dX7_leave_23 : decode cX7_leave 23 = .ok (.putfield 74, 3) := by decide +kernel
theorem dX7_leave_26 : decode cX7_leave 26 = .ok (.aload_n 0, 1) := by decide +kernel
theorem dX7_leave_27 : decode cX7_leave 27 = .ok (.getfield 12, 3) := by decide +kernel
theorem dX7_leave_30 : decode cX7_leave 30 = .ok (.invokevirtual 66, 3) := by decide +kernel
theorem dX7_leave_33 : decode cX7_leave 33 = .ok (.ireturn, 1) := by decide +kernel
theorem dX7_seat_0 : decode cX7_seat 0 = .ok (.aload_n 0, 1) := by decide +kernel
theorem dX7_seat_1 : decode cX7_seat 1 = .ok (.getfield 12, 3) := by decide +kernel
theorem dX7_seat_4 : decode cX7_seat 4 = .ok (.iload_n 1, 1) := by decide +kernel
theorem dX7_seat_5 : decode cX7_seat 5 = .ok (.invokevirtual 70, 3) := by decide +kernel
theorem dX7_seat_8 : decode cX7_seat 8 = .ok (.ifCond .eq 19, 3) := by decide +kernel
theorem dX7_seat_11 : decode cX7_seat 11 = .ok (.aload_n 0, 1) := by decide +kernel
theorem dX7_seat_12 : decode cX7_seat 12 = .ok (.getfield 12, 3) := by decide +kernel
theorem dX7_seat_15 : decode cX7_seat 15 = .ok (.iload_n 2, 1) := by decide +kernel
theorem dX7_seat_16 : decode cX7_seat 16 = .ok (.invokevirtual 70, 3) := by decide +kernel
theorem dX7_seat_19 : decode cX7_seat 19 = .ok (.ifCond .eq 8, 3) := by decide +kernel
theorem dX7_seat_22 : decode cX7_seat 22 = .ok (.iload_n 1, 1) := by decide +kernel
theorem dX7_seat_23 : decode cX7_seat 23 = .ok (.iload_n 2, 1) := by decide +kernel
theorem dX7_seat_24 : decode cX7_seat 24 = .ok (.if_icmp .ne 5, 3) := by decide +kernel
theorem dX7_seat_27 : decode cX7_seat 27 = .ok (.iconst (-1), 1) := by decide +kernel
theorem dX7_seat_28 : decode cX7_seat 28 = .ok (.ireturn, 1) := by decide +kernel
theorem dX7_seat_29 : decode cX7_seat 29 = .ok (.aload_n 0, 1) := by decide +kernel
theorem dX7_seat_30 : decode cX7_seat 30 = .ok (.getfield 12, 3) := by decide +kernel
theorem dX7_seat_33 : decode cX7_seat 33 = .ok (.iload_n 1, 1) := by decide +kernel
theorem dX7_seat_34 : decode cX7_seat 34 = .ok (.putfield 78, 3) := by decide +kernel
theorem dX7_seat_37 : decode cX7_seat 37 = .ok (.aload_n 0, 1) := by decide +kernel
theorem dX7_seat_38 : decode cX7_seat 38 = .ok (.getfield 12, 3) := by decide +kernel
theorem dX7_seat_41 : decode cX7_seat 41 = .ok (.iload_n 2, 1) := by decide +kernel
theorem dX7_seat_42 : decode cX7_seat 42 = .ok (.putfield 82, 3) := by decide +kernel
theorem dX7_seat_45 : decode cX7_seat 45 = .ok (.iconst 1, 1) := by decide +kernel
theorem dX7_seat_46 : decode cX7_seat 46 = .ok (.ireturn, 1) := by decide +kernel
theorem dX7_set_0 : decode cX7_set 0 = .ok (.iload_n 1, 1) := by decide +kernel
theorem dX7_set_1 : decode cX7_set 1 = .ok (.ifCond .ne 32, 3) := by decide +kernel
theorem dX7_set_4 : decode cX7_set 4 = .ok (.iload_n 2, 1) := by decide +kernel
theorem dX7_set_5 : decode cX7_set 5 = .ok (.iconst 5, 1) := by decide +kernel
theorem dX7_set_6 : decode cX7_set 6 = .ok (.bipush 20, 2) := by decide +kernel
theorem dX7_set_8 : decode cX7_set 8 = .ok (.invokestatic 52, 3) := by decide +kernel
theorem dX7_set_11 : decode cX7_set 11 = .ok (.ifCond .eq 22, 3) := by decide +kernel
theorem dX7_set_14 : decode cX7_set 14 = .ok (.aload_n 0, 1) := by decide +kernel
theorem dX7_set_15 : decode cX7_set 15 = .ok (.getfield 12, 3) := by decide +kernel
theorem dX7_set_18 : decode cX7_set 18 = .ok (.getfield 85, 3) := by decide +kernel
theorem dX7_set_21 : decode cX7_set 21 = .ok (.istore_n 3, 1) := by decide +kernel
theorem dX7_set_22 : decode cX7_set 22 = .ok (.aload_n 0, 1) := by decide +kernel
theorem dX7_set_23 : decode cX7_set 23 = .ok (.getfield 12, 3) := by decide +kernel
theorem dX7_set_26 : decode cX7_set 26 = .ok (.iload_n 2, 1) := by decide +kernel
theorem dX7_set_27 : decode cX7_set 27 = .ok (.putfield 85, 3) := by decide +kernel
theorem dX7_set_30 : decode cX7_set 30 = .ok (.goto 74, 3) := by decide +kernel
theorem dX7_set_33 : decode cX7_set 33 = .ok (.iload_n 1, 1) := by decide +kernel
theorem dX7_set_34 : decode cX7_set 34 = .ok (.iconst 1, 1) := by decide +kernel
theorem dX7_set_35 : decode cX7_set 35 = .ok (.if_icmp .ne 32, 3) := by decide +kernel
theorem dX7_set_38 : decode cX7_set 38 = .ok (.iload_n 2, 1) := by decide +kernel
theorem dX7_set_39 : decode cX7_set 39 = .ok (.iconst 0, 1) := by decide +kernel
theorem dX7_set_40 : decode cX7_set 40 = .ok (.bipush 99, 2) := by decide +kernel
theorem dX7_set_42 : decode cX7_set 42 = .ok (.invokestatic 52, 3) := by decide +kernel
theorem dX7_set_45 : decode cX7_set 45 = .ok (.ifCond .eq 22, 3) := by decide +kernel
theorem dX7_set_48 : decode cX7_set 48 = .ok (.aload_n 0, 1) := by decide +kernel
theorem dX7_set_49 : decode cX7_set 49 = .ok (.getfield 12, 3) := by decide +kernel
theorem dX7_set_52 : decode cX7_set 52 = .ok (.getfield 88, 3) := by decide +kernel
theorem dX7_set_55 : decode cX7_set 55 = .ok (.istore_n 3, 1) := by decide +kernel
theorem dX7_set_56 : decode cX7_set 56 = .ok (.aload_n 0, 1) := by decide +kernel
theorem dX7_set_57 : decode cX7_set 57 = .ok (.getfield 12, 3) := by decide +kernel
theorem dX7_set_60 : decode cX7_set 60 = .ok (.iload_n 2, 1) := by decide +kernel
theorem dX7_set_61 : decode cX7_set 61 = .ok (.putfield 88, 3) := by decide +kernel
theorem dX7_set_64 : decode cX7_set 64 = .ok (.goto 40, 3) := by decide +kernel
theorem dX7_set_67 : decode cX7_set 67 = .ok (.iload_n 1, 1) := by decide +kernel
theorem dX7_set_68 : decode cX7_set 68 = .ok (.iconst 2, 1) := by decide +kernel
theorem dX7_set_69 : decode cX7_set 69 = .ok (.if_icmp .ne 32, 3) := by decide +kernel
theorem dX7_set_72 : decode cX7_set 72 = .ok (.iload_n 2, 1) := by decide +kernel
theorem dX7_set_73 : decode cX7_set 73 = .ok (.iconst 0, 1) := by decide +kernel
theorem dX7_set_74 : decode cX7_set 74 = .ok (.bipush 50, 2) := by decide +kernel
theorem dX7_set_76 : decode cX7_set 76 = .ok (.invokestatic 52, 3) := by decide +kernel
theorem dX7_set_79 : decode cX7_set 79 = .ok (.ifCond .eq 22, 3) := by decide +kernel
theorem dX7_set_82 : decode cX7_set 82 = .ok (.aload_n 0, 1) := by decide +kernel
theorem dX7_set_83 : decode cX7_set 83 = .ok (.getfield 12, 3) := by decide +kernel
theorem dX7_set_86 : decode cX7_set 86 = .ok (.getfield 91, 3) := by decide +kernel
theorem dX7_set_89 : decode cX7_set 89 = .ok (.istore_n 3, 1) := by decide +kernel
